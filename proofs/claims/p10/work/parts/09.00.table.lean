/-! PART 09, 0: methods 0 to 0. -/
set_option maxRecDepth 100000 in
theorem zt_0 : (List.range' 0 1).all zchkF = true := by decide +kernel
