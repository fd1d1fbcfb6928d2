/-! PART 09, 01: the law -/
set_option maxRecDepth 100000 in
theorem zt_0_4 : (List.range' 300 75).all (fun pc => zchk 0 pc) = true := by decide +kernel
set_option maxRecDepth 100000 in
theorem zt_0_5 : (List.range' 375 75).all (fun pc => zchk 0 pc) = true := by decide +kernel
set_option maxRecDepth 100000 in
theorem zt_0_6 : (List.range' 450 75).all (fun pc => zchk 0 pc) = true := by decide +kernel
set_option maxRecDepth 100000 in
theorem zt_0_7 : (List.range' 525 75).all (fun pc => zchk 0 pc) = true := by decide +kernel
