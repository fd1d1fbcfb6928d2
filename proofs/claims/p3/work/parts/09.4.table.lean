/-! PART 09, 4: methods 91 to 120. -/
set_option maxRecDepth 100000 in
theorem zt_19 : (List.range' 91 5).all zchkm = true := by decide +kernel
set_option maxRecDepth 100000 in
theorem zt_20 : (List.range' 96 5).all zchkm = true := by decide +kernel
set_option maxRecDepth 100000 in
theorem zt_21 : (List.range' 101 5).all zchkm = true := by decide +kernel
set_option maxRecDepth 100000 in
theorem zt_22 : (List.range' 106 5).all zchkm = true := by decide +kernel
set_option maxRecDepth 100000 in
theorem zt_23 : (List.range' 111 5).all zchkm = true := by decide +kernel
set_option maxRecDepth 100000 in
theorem zt_24 : (List.range' 116 5).all zchkm = true := by decide +kernel
