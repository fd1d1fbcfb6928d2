/-! PART 09, 3: methods 61 to 90. -/
set_option maxRecDepth 100000 in
theorem zt_13 : (List.range' 61 5).all zchkm = true := by decide +kernel
set_option maxRecDepth 100000 in
theorem zt_14 : (List.range' 66 5).all zchkm = true := by decide +kernel
set_option maxRecDepth 100000 in
theorem zt_15 : (List.range' 71 5).all zchkm = true := by decide +kernel
set_option maxRecDepth 100000 in
theorem zt_16 : (List.range' 76 5).all zchkm = true := by decide +kernel
set_option maxRecDepth 100000 in
theorem zt_17 : (List.range' 81 5).all zchkm = true := by decide +kernel
set_option maxRecDepth 100000 in
theorem zt_18 : (List.range' 86 5).all zchkm = true := by decide +kernel
