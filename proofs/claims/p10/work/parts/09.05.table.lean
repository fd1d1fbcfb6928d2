/-! PART 09, 5: methods 121 to 150. -/
set_option maxRecDepth 100000 in
theorem zt_5 : (List.range' 121 30).all zchkF = true := by decide +kernel
