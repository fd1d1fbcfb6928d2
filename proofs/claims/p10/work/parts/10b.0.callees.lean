/-! PART 10b.0: every callee. -/
set_option maxRecDepth 100000 in
theorem zm_Bs0 : (List.range' 0 6).all (fun t => !Nat.testBit zm_K t || zm_B t) = true := by decide +kernel
set_option maxRecDepth 100000 in
theorem zm_Bs1 : (List.range' 6 6).all (fun t => !Nat.testBit zm_K t || zm_B t) = true := by decide +kernel
set_option maxRecDepth 100000 in
theorem zm_Bs2 : (List.range' 12 6).all (fun t => !Nat.testBit zm_K t || zm_B t) = true := by decide +kernel
set_option maxRecDepth 100000 in
theorem zm_Bs3 : (List.range' 18 6).all (fun t => !Nat.testBit zm_K t || zm_B t) = true := by decide +kernel
set_option maxRecDepth 100000 in
theorem zm_Bs4 : (List.range' 24 6).all (fun t => !Nat.testBit zm_K t || zm_B t) = true := by decide +kernel
set_option maxRecDepth 100000 in
theorem zm_Bs5 : (List.range' 30 6).all (fun t => !Nat.testBit zm_K t || zm_B t) = true := by decide +kernel
set_option maxRecDepth 100000 in
theorem zm_Bs6 : (List.range' 36 6).all (fun t => !Nat.testBit zm_K t || zm_B t) = true := by decide +kernel
set_option maxRecDepth 100000 in
theorem zm_Bs7 : (List.range' 42 6).all (fun t => !Nat.testBit zm_K t || zm_B t) = true := by decide +kernel
set_option maxRecDepth 100000 in
theorem zm_Bs8 : (List.range' 48 6).all (fun t => !Nat.testBit zm_K t || zm_B t) = true := by decide +kernel
set_option maxRecDepth 100000 in
theorem zm_Bs9 : (List.range' 54 6).all (fun t => !Nat.testBit zm_K t || zm_B t) = true := by decide +kernel
set_option maxRecDepth 100000 in
theorem zm_Bs10 : (List.range' 60 6).all (fun t => !Nat.testBit zm_K t || zm_B t) = true := by decide +kernel
set_option maxRecDepth 100000 in
theorem zm_Bs11 : (List.range' 66 6).all (fun t => !Nat.testBit zm_K t || zm_B t) = true := by decide +kernel
set_option maxRecDepth 100000 in
theorem zm_Bs12 : (List.range' 72 6).all (fun t => !Nat.testBit zm_K t || zm_B t) = true := by decide +kernel
set_option maxRecDepth 100000 in
theorem zm_Bs13 : (List.range' 78 6).all (fun t => !Nat.testBit zm_K t || zm_B t) = true := by decide +kernel
set_option maxRecDepth 100000 in
theorem zm_Bs14 : (List.range' 84 6).all (fun t => !Nat.testBit zm_K t || zm_B t) = true := by decide +kernel
