/-! PART 09, 02: the law -/
set_option maxRecDepth 100000 in
theorem zt_0_8 : (List.range' 600 75).all (fun pc => zchk 0 pc) = true := by decide +kernel
set_option maxRecDepth 100000 in
theorem zt_0_9 : (List.range' 675 75).all (fun pc => zchk 0 pc) = true := by decide +kernel
set_option maxRecDepth 100000 in
theorem zt_0_10 : (List.range' 750 75).all (fun pc => zchk 0 pc) = true := by decide +kernel
set_option maxRecDepth 100000 in
theorem zt_0_11 : (List.range' 825 75).all (fun pc => zchk 0 pc) = true := by decide +kernel
