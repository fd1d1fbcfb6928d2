/-! PART 09, 4: methods 91 to 120. -/
set_option maxRecDepth 100000 in
theorem zt_4 : (List.range' 91 30).all zchkF = true := by decide +kernel
