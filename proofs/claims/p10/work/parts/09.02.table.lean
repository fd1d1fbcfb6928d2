/-! PART 09, 2: methods 31 to 60. -/
set_option maxRecDepth 100000 in
theorem zt_2 : (List.range' 31 30).all zchkF = true := by decide +kernel
