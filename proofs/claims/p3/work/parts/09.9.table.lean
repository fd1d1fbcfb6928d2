/-! PART 09, 9: methods 241 to 266. -/
set_option maxRecDepth 100000 in
theorem zt_49 : (List.range' 241 5).all zchkm = true := by decide +kernel
set_option maxRecDepth 100000 in
theorem zt_50 : (List.range' 246 5).all zchkm = true := by decide +kernel
set_option maxRecDepth 100000 in
theorem zt_51 : (List.range' 251 5).all zchkm = true := by decide +kernel
set_option maxRecDepth 100000 in
theorem zt_52 : (List.range' 256 5).all zchkm = true := by decide +kernel
set_option maxRecDepth 100000 in
theorem zt_53 : (List.range' 261 5).all zchkm = true := by decide +kernel
set_option maxRecDepth 100000 in
theorem zt_54 : (List.range' 266 1).all zchkm = true := by decide +kernel
