/-! PART 09, 1: methods 1 to 30. -/
set_option maxRecDepth 100000 in
theorem zt_1 : (List.range' 1 5).all zchkm = true := by decide +kernel
set_option maxRecDepth 100000 in
theorem zt_2 : (List.range' 6 5).all zchkm = true := by decide +kernel
set_option maxRecDepth 100000 in
theorem zt_3 : (List.range' 11 5).all zchkm = true := by decide +kernel
set_option maxRecDepth 100000 in
theorem zt_4 : (List.range' 16 5).all zchkm = true := by decide +kernel
set_option maxRecDepth 100000 in
theorem zt_5 : (List.range' 21 5).all zchkm = true := by decide +kernel
set_option maxRecDepth 100000 in
theorem zt_6 : (List.range' 26 5).all zchkm = true := by decide +kernel
