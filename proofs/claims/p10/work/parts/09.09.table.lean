/-! PART 09, 9: methods 241 to 266. -/
set_option maxRecDepth 100000 in
theorem zt_9 : (List.range' 241 26).all zchkF = true := by decide +kernel
