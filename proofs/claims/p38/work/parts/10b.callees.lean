/-! PART 10b: every callee. -/
set_option maxRecDepth 100000 in
theorem zm_Bs0 : (List.range' 1 30).all zm_B = true := by decide +kernel
set_option maxRecDepth 100000 in
theorem zm_Bs1 : (List.range' 31 30).all zm_B = true := by decide +kernel
set_option maxRecDepth 100000 in
theorem zm_Bs2 : (List.range' 61 30).all zm_B = true := by decide +kernel
set_option maxRecDepth 100000 in
theorem zm_Bs3 : (List.range' 91 30).all zm_B = true := by decide +kernel
set_option maxRecDepth 100000 in
theorem zm_Bs4 : (List.range' 121 30).all zm_B = true := by decide +kernel
set_option maxRecDepth 100000 in
theorem zm_Bs5 : (List.range' 151 30).all zm_B = true := by decide +kernel
set_option maxRecDepth 100000 in
theorem zm_Bs6 : (List.range' 181 30).all zm_B = true := by decide +kernel
set_option maxRecDepth 100000 in
theorem zm_Bs7 : (List.range' 211 30).all zm_B = true := by decide +kernel
set_option maxRecDepth 100000 in
theorem zm_Bs8 : (List.range' 241 26).all zm_B = true := by decide +kernel
theorem zm_Kg {t : Nat} (h : t < 267) (h0 : Nat.blt 0 t = true) : zm_B t = true := by
  have h0 : 0 < t := by simpa [Nat.blt, Nat.ble_eq] using h0
  rcases Nat.lt_or_ge t 31 with h1 | h1
  · exact List.all_eq_true.mp zm_Bs0 t (List.mem_range'_1.mpr ⟨by omega, by omega⟩)
  rcases Nat.lt_or_ge t 61 with h2 | h2
  · exact List.all_eq_true.mp zm_Bs1 t (List.mem_range'_1.mpr ⟨by omega, by omega⟩)
  rcases Nat.lt_or_ge t 91 with h3 | h3
  · exact List.all_eq_true.mp zm_Bs2 t (List.mem_range'_1.mpr ⟨by omega, by omega⟩)
  rcases Nat.lt_or_ge t 121 with h4 | h4
  · exact List.all_eq_true.mp zm_Bs3 t (List.mem_range'_1.mpr ⟨by omega, by omega⟩)
  rcases Nat.lt_or_ge t 151 with h5 | h5
  · exact List.all_eq_true.mp zm_Bs4 t (List.mem_range'_1.mpr ⟨by omega, by omega⟩)
  rcases Nat.lt_or_ge t 181 with h6 | h6
  · exact List.all_eq_true.mp zm_Bs5 t (List.mem_range'_1.mpr ⟨by omega, by omega⟩)
  rcases Nat.lt_or_ge t 211 with h7 | h7
  · exact List.all_eq_true.mp zm_Bs6 t (List.mem_range'_1.mpr ⟨by omega, by omega⟩)
  rcases Nat.lt_or_ge t 241 with h8 | h8
  · exact List.all_eq_true.mp zm_Bs7 t (List.mem_range'_1.mpr ⟨by omega, by omega⟩)
  exact List.all_eq_true.mp zm_Bs8 t (List.mem_range'_1.mpr ⟨by omega, by omega⟩)
