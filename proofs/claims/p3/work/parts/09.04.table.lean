/-! PART 09, 04: the law -/
set_option maxRecDepth 100000 in
theorem zt_0_16 : (List.range' 1200 75).all (fun pc => zchk 0 pc) = true := by decide +kernel
set_option maxRecDepth 100000 in
theorem zt_0_17 : (List.range' 1275 75).all (fun pc => zchk 0 pc) = true := by decide +kernel
set_option maxRecDepth 100000 in
theorem zt_0_18 : (List.range' 1350 75).all (fun pc => zchk 0 pc) = true := by decide +kernel
set_option maxRecDepth 100000 in
theorem zt_0_19 : (List.range' 1425 75).all (fun pc => zchk 0 pc) = true := by decide +kernel
