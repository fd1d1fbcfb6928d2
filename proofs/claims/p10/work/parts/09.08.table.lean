/-! PART 09, 8: methods 211 to 240. -/
set_option maxRecDepth 100000 in
theorem zt_8 : (List.range' 211 30).all zchkF = true := by decide +kernel
