/-! PART 09, 6: methods 151 to 180. -/
set_option maxRecDepth 100000 in
theorem zt_6 : (List.range' 151 30).all zchkF = true := by decide +kernel
