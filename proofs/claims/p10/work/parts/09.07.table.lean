/-! PART 09, 7: methods 181 to 210. -/
set_option maxRecDepth 100000 in
theorem zt_7 : (List.range' 181 30).all zchkF = true := by decide +kernel
