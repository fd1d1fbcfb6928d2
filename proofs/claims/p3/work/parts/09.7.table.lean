/-! PART 09, 7: methods 181 to 210. -/
set_option maxRecDepth 100000 in
theorem zt_37 : (List.range' 181 5).all zchkm = true := by decide +kernel
set_option maxRecDepth 100000 in
theorem zt_38 : (List.range' 186 5).all zchkm = true := by decide +kernel
set_option maxRecDepth 100000 in
theorem zt_39 : (List.range' 191 5).all zchkm = true := by decide +kernel
set_option maxRecDepth 100000 in
theorem zt_40 : (List.range' 196 5).all zchkm = true := by decide +kernel
set_option maxRecDepth 100000 in
theorem zt_41 : (List.range' 201 5).all zchkm = true := by decide +kernel
set_option maxRecDepth 100000 in
theorem zt_42 : (List.range' 206 5).all zchkm = true := by decide +kernel
