/-! PART 09, 3: methods 61 to 90. -/
set_option maxRecDepth 100000 in
theorem zt_3 : (List.range' 61 30).all zchkF = true := by decide +kernel
