/-! PART 09, 8: methods 211 to 240. -/
set_option maxRecDepth 100000 in
theorem zt_43 : (List.range' 211 5).all zchkm = true := by decide +kernel
set_option maxRecDepth 100000 in
theorem zt_44 : (List.range' 216 5).all zchkm = true := by decide +kernel
set_option maxRecDepth 100000 in
theorem zt_45 : (List.range' 221 5).all zchkm = true := by decide +kernel
set_option maxRecDepth 100000 in
theorem zt_46 : (List.range' 226 5).all zchkm = true := by decide +kernel
set_option maxRecDepth 100000 in
theorem zt_47 : (List.range' 231 5).all zchkm = true := by decide +kernel
set_option maxRecDepth 100000 in
theorem zt_48 : (List.range' 236 5).all zchkm = true := by decide +kernel
