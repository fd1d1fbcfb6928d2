/-! PARTS 09.05.table to 09.09.table -/
section
/-! PART 09, 5: methods 121 to 150. -/
set_option maxRecDepth 100000 in
theorem zt_5 : (List.range' 121 30).all zchkF = true := by decide +kernel
end
section
/-! PART 09, 6: methods 151 to 180. -/
set_option maxRecDepth 100000 in
theorem zt_6 : (List.range' 151 30).all zchkF = true := by decide +kernel
end
section
/-! PART 09, 7: methods 181 to 210. -/
set_option maxRecDepth 100000 in
theorem zt_7 : (List.range' 181 30).all zchkF = true := by decide +kernel
end
section
/-! PART 09, 8: methods 211 to 240. -/
set_option maxRecDepth 100000 in
theorem zt_8 : (List.range' 211 30).all zchkF = true := by decide +kernel
end
section
/-! PART 09, 9: methods 241 to 266. -/
set_option maxRecDepth 100000 in
theorem zt_9 : (List.range' 241 26).all zchkF = true := by decide +kernel
end
