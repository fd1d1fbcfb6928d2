/-! PARTS 09.00.table to 09.04.table -/
section
/-! PART 09, 0: methods 0 to 0. -/
set_option maxRecDepth 100000 in
theorem zt_0 : (List.range' 0 1).all zchkF = true := by decide +kernel
end
section
/-! PART 09, 1: methods 1 to 30. -/
set_option maxRecDepth 100000 in
theorem zt_1 : (List.range' 1 30).all zchkF = true := by decide +kernel
end
section
/-! PART 09, 2: methods 31 to 60. -/
set_option maxRecDepth 100000 in
theorem zt_2 : (List.range' 31 30).all zchkF = true := by decide +kernel
end
section
/-! PART 09, 3: methods 61 to 90. -/
set_option maxRecDepth 100000 in
theorem zt_3 : (List.range' 61 30).all zchkF = true := by decide +kernel
end
section
/-! PART 09, 4: methods 91 to 120. -/
set_option maxRecDepth 100000 in
theorem zt_4 : (List.range' 91 30).all zchkF = true := by decide +kernel
end
