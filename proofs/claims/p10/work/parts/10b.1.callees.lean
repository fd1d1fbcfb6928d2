/-! PART 10b.1: every callee. -/
set_option maxRecDepth 100000 in
theorem zm_Bs15 : (List.range' 90 6).all (fun t => !Nat.testBit zm_K t || zm_B t) = true := by decide +kernel
set_option maxRecDepth 100000 in
theorem zm_Bs16 : (List.range' 96 6).all (fun t => !Nat.testBit zm_K t || zm_B t) = true := by decide +kernel
set_option maxRecDepth 100000 in
theorem zm_Bs17 : (List.range' 102 6).all (fun t => !Nat.testBit zm_K t || zm_B t) = true := by decide +kernel
set_option maxRecDepth 100000 in
theorem zm_Bs18 : (List.range' 108 6).all (fun t => !Nat.testBit zm_K t || zm_B t) = true := by decide +kernel
set_option maxRecDepth 100000 in
theorem zm_Bs19 : (List.range' 114 6).all (fun t => !Nat.testBit zm_K t || zm_B t) = true := by decide +kernel
set_option maxRecDepth 100000 in
theorem zm_Bs20 : (List.range' 120 6).all (fun t => !Nat.testBit zm_K t || zm_B t) = true := by decide +kernel
set_option maxRecDepth 100000 in
theorem zm_Bs21 : (List.range' 126 6).all (fun t => !Nat.testBit zm_K t || zm_B t) = true := by decide +kernel
set_option maxRecDepth 100000 in
theorem zm_Bs22 : (List.range' 132 6).all (fun t => !Nat.testBit zm_K t || zm_B t) = true := by decide +kernel
set_option maxRecDepth 100000 in
theorem zm_Bs23 : (List.range' 138 6).all (fun t => !Nat.testBit zm_K t || zm_B t) = true := by decide +kernel
set_option maxRecDepth 100000 in
theorem zm_Bs24 : (List.range' 144 6).all (fun t => !Nat.testBit zm_K t || zm_B t) = true := by decide +kernel
set_option maxRecDepth 100000 in
theorem zm_Bs25 : (List.range' 150 6).all (fun t => !Nat.testBit zm_K t || zm_B t) = true := by decide +kernel
set_option maxRecDepth 100000 in
theorem zm_Bs26 : (List.range' 156 6).all (fun t => !Nat.testBit zm_K t || zm_B t) = true := by decide +kernel
set_option maxRecDepth 100000 in
theorem zm_Bs27 : (List.range' 162 6).all (fun t => !Nat.testBit zm_K t || zm_B t) = true := by decide +kernel
set_option maxRecDepth 100000 in
theorem zm_Bs28 : (List.range' 168 6).all (fun t => !Nat.testBit zm_K t || zm_B t) = true := by decide +kernel
set_option maxRecDepth 100000 in
theorem zm_Bs29 : (List.range' 174 6).all (fun t => !Nat.testBit zm_K t || zm_B t) = true := by decide +kernel
