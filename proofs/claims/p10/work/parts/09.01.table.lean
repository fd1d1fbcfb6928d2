/-! PART 09, 1: methods 1 to 30. -/
set_option maxRecDepth 100000 in
theorem zt_1 : (List.range' 1 30).all zchkF = true := by decide +kernel
