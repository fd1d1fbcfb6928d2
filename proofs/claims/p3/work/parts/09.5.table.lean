/-! PART 09, 5: methods 121 to 150. -/
set_option maxRecDepth 100000 in
theorem zt_25 : (List.range' 121 5).all zchkm = true := by decide +kernel
set_option maxRecDepth 100000 in
theorem zt_26 : (List.range' 126 5).all zchkm = true := by decide +kernel
set_option maxRecDepth 100000 in
theorem zt_27 : (List.range' 131 5).all zchkm = true := by decide +kernel
set_option maxRecDepth 100000 in
theorem zt_28 : (List.range' 136 5).all zchkm = true := by decide +kernel
set_option maxRecDepth 100000 in
theorem zt_29 : (List.range' 141 5).all zchkm = true := by decide +kernel
set_option maxRecDepth 100000 in
theorem zt_30 : (List.range' 146 5).all zchkm = true := by decide +kernel
