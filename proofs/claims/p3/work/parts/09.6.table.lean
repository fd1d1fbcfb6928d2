/-! PART 09, 6: methods 151 to 180. -/
set_option maxRecDepth 100000 in
theorem zt_31 : (List.range' 151 5).all zchkm = true := by decide +kernel
set_option maxRecDepth 100000 in
theorem zt_32 : (List.range' 156 5).all zchkm = true := by decide +kernel
set_option maxRecDepth 100000 in
theorem zt_33 : (List.range' 161 5).all zchkm = true := by decide +kernel
set_option maxRecDepth 100000 in
theorem zt_34 : (List.range' 166 5).all zchkm = true := by decide +kernel
set_option maxRecDepth 100000 in
theorem zt_35 : (List.range' 171 5).all zchkm = true := by decide +kernel
set_option maxRecDepth 100000 in
theorem zt_36 : (List.range' 176 5).all zchkm = true := by decide +kernel
