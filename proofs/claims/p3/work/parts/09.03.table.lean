/-! PART 09, 03: the law -/
set_option maxRecDepth 100000 in
theorem zt_0_12 : (List.range' 900 75).all (fun pc => zchk 0 pc) = true := by decide +kernel
set_option maxRecDepth 100000 in
theorem zt_0_13 : (List.range' 975 75).all (fun pc => zchk 0 pc) = true := by decide +kernel
set_option maxRecDepth 100000 in
theorem zt_0_14 : (List.range' 1050 75).all (fun pc => zchk 0 pc) = true := by decide +kernel
set_option maxRecDepth 100000 in
theorem zt_0_15 : (List.range' 1125 75).all (fun pc => zchk 0 pc) = true := by decide +kernel
