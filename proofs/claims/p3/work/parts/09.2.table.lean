/-! PART 09, 2: methods 31 to 60. -/
set_option maxRecDepth 100000 in
theorem zt_7 : (List.range' 31 5).all zchkm = true := by decide +kernel
set_option maxRecDepth 100000 in
theorem zt_8 : (List.range' 36 5).all zchkm = true := by decide +kernel
set_option maxRecDepth 100000 in
theorem zt_9 : (List.range' 41 5).all zchkm = true := by decide +kernel
set_option maxRecDepth 100000 in
theorem zt_10 : (List.range' 46 5).all zchkm = true := by decide +kernel
set_option maxRecDepth 100000 in
theorem zt_11 : (List.range' 51 5).all zchkm = true := by decide +kernel
set_option maxRecDepth 100000 in
theorem zt_12 : (List.range' 56 5).all zchkm = true := by decide +kernel
