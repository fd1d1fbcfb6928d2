/-! PART 10b.2: every callee. -/
set_option maxRecDepth 100000 in
theorem zm_Bs30 : (List.range' 180 6).all (fun t => !Nat.testBit zm_K t || zm_B t) = true := by decide +kernel
set_option maxRecDepth 100000 in
theorem zm_Bs31 : (List.range' 186 6).all (fun t => !Nat.testBit zm_K t || zm_B t) = true := by decide +kernel
set_option maxRecDepth 100000 in
theorem zm_Bs32 : (List.range' 192 6).all (fun t => !Nat.testBit zm_K t || zm_B t) = true := by decide +kernel
set_option maxRecDepth 100000 in
theorem zm_Bs33 : (List.range' 198 6).all (fun t => !Nat.testBit zm_K t || zm_B t) = true := by decide +kernel
set_option maxRecDepth 100000 in
theorem zm_Bs34 : (List.range' 204 6).all (fun t => !Nat.testBit zm_K t || zm_B t) = true := by decide +kernel
set_option maxRecDepth 100000 in
theorem zm_Bs35 : (List.range' 210 6).all (fun t => !Nat.testBit zm_K t || zm_B t) = true := by decide +kernel
set_option maxRecDepth 100000 in
theorem zm_Bs36 : (List.range' 216 6).all (fun t => !Nat.testBit zm_K t || zm_B t) = true := by decide +kernel
set_option maxRecDepth 100000 in
theorem zm_Bs37 : (List.range' 222 6).all (fun t => !Nat.testBit zm_K t || zm_B t) = true := by decide +kernel
set_option maxRecDepth 100000 in
theorem zm_Bs38 : (List.range' 228 6).all (fun t => !Nat.testBit zm_K t || zm_B t) = true := by decide +kernel
set_option maxRecDepth 100000 in
theorem zm_Bs39 : (List.range' 234 6).all (fun t => !Nat.testBit zm_K t || zm_B t) = true := by decide +kernel
set_option maxRecDepth 100000 in
theorem zm_Bs40 : (List.range' 240 6).all (fun t => !Nat.testBit zm_K t || zm_B t) = true := by decide +kernel
set_option maxRecDepth 100000 in
theorem zm_Bs41 : (List.range' 246 6).all (fun t => !Nat.testBit zm_K t || zm_B t) = true := by decide +kernel
set_option maxRecDepth 100000 in
theorem zm_Bs42 : (List.range' 252 6).all (fun t => !Nat.testBit zm_K t || zm_B t) = true := by decide +kernel
set_option maxRecDepth 100000 in
theorem zm_Bs43 : (List.range' 258 6).all (fun t => !Nat.testBit zm_K t || zm_B t) = true := by decide +kernel
set_option maxRecDepth 100000 in
theorem zm_Bs44 : (List.range' 264 3).all (fun t => !Nat.testBit zm_K t || zm_B t) = true := by decide +kernel
theorem zm_Kg {t : Nat} (h : t < 267) (h0 : Nat.testBit zm_K t = true) : zm_B t = true := by
  have key : (!Nat.testBit zm_K t || zm_B t) = true := by
    rcases Nat.lt_or_ge t 6 with h1 | h1
    · exact List.all_eq_true.mp zm_Bs0 t (List.mem_range'_1.mpr ⟨by omega, by omega⟩)
    rcases Nat.lt_or_ge t 12 with h2 | h2
    · exact List.all_eq_true.mp zm_Bs1 t (List.mem_range'_1.mpr ⟨by omega, by omega⟩)
    rcases Nat.lt_or_ge t 18 with h3 | h3
    · exact List.all_eq_true.mp zm_Bs2 t (List.mem_range'_1.mpr ⟨by omega, by omega⟩)
    rcases Nat.lt_or_ge t 24 with h4 | h4
    · exact List.all_eq_true.mp zm_Bs3 t (List.mem_range'_1.mpr ⟨by omega, by omega⟩)
    rcases Nat.lt_or_ge t 30 with h5 | h5
    · exact List.all_eq_true.mp zm_Bs4 t (List.mem_range'_1.mpr ⟨by omega, by omega⟩)
    rcases Nat.lt_or_ge t 36 with h6 | h6
    · exact List.all_eq_true.mp zm_Bs5 t (List.mem_range'_1.mpr ⟨by omega, by omega⟩)
    rcases Nat.lt_or_ge t 42 with h7 | h7
    · exact List.all_eq_true.mp zm_Bs6 t (List.mem_range'_1.mpr ⟨by omega, by omega⟩)
    rcases Nat.lt_or_ge t 48 with h8 | h8
    · exact List.all_eq_true.mp zm_Bs7 t (List.mem_range'_1.mpr ⟨by omega, by omega⟩)
    rcases Nat.lt_or_ge t 54 with h9 | h9
    · exact List.all_eq_true.mp zm_Bs8 t (List.mem_range'_1.mpr ⟨by omega, by omega⟩)
    rcases Nat.lt_or_ge t 60 with h10 | h10
    · exact List.all_eq_true.mp zm_Bs9 t (List.mem_range'_1.mpr ⟨by omega, by omega⟩)
    rcases Nat.lt_or_ge t 66 with h11 | h11
    · exact List.all_eq_true.mp zm_Bs10 t (List.mem_range'_1.mpr ⟨by omega, by omega⟩)
    rcases Nat.lt_or_ge t 72 with h12 | h12
    · exact List.all_eq_true.mp zm_Bs11 t (List.mem_range'_1.mpr ⟨by omega, by omega⟩)
    rcases Nat.lt_or_ge t 78 with h13 | h13
    · exact List.all_eq_true.mp zm_Bs12 t (List.mem_range'_1.mpr ⟨by omega, by omega⟩)
    rcases Nat.lt_or_ge t 84 with h14 | h14
    · exact List.all_eq_true.mp zm_Bs13 t (List.mem_range'_1.mpr ⟨by omega, by omega⟩)
    rcases Nat.lt_or_ge t 90 with h15 | h15
    · exact List.all_eq_true.mp zm_Bs14 t (List.mem_range'_1.mpr ⟨by omega, by omega⟩)
    rcases Nat.lt_or_ge t 96 with h16 | h16
    · exact List.all_eq_true.mp zm_Bs15 t (List.mem_range'_1.mpr ⟨by omega, by omega⟩)
    rcases Nat.lt_or_ge t 102 with h17 | h17
    · exact List.all_eq_true.mp zm_Bs16 t (List.mem_range'_1.mpr ⟨by omega, by omega⟩)
    rcases Nat.lt_or_ge t 108 with h18 | h18
    · exact List.all_eq_true.mp zm_Bs17 t (List.mem_range'_1.mpr ⟨by omega, by omega⟩)
    rcases Nat.lt_or_ge t 114 with h19 | h19
    · exact List.all_eq_true.mp zm_Bs18 t (List.mem_range'_1.mpr ⟨by omega, by omega⟩)
    rcases Nat.lt_or_ge t 120 with h20 | h20
    · exact List.all_eq_true.mp zm_Bs19 t (List.mem_range'_1.mpr ⟨by omega, by omega⟩)
    rcases Nat.lt_or_ge t 126 with h21 | h21
    · exact List.all_eq_true.mp zm_Bs20 t (List.mem_range'_1.mpr ⟨by omega, by omega⟩)
    rcases Nat.lt_or_ge t 132 with h22 | h22
    · exact List.all_eq_true.mp zm_Bs21 t (List.mem_range'_1.mpr ⟨by omega, by omega⟩)
    rcases Nat.lt_or_ge t 138 with h23 | h23
    · exact List.all_eq_true.mp zm_Bs22 t (List.mem_range'_1.mpr ⟨by omega, by omega⟩)
    rcases Nat.lt_or_ge t 144 with h24 | h24
    · exact List.all_eq_true.mp zm_Bs23 t (List.mem_range'_1.mpr ⟨by omega, by omega⟩)
    rcases Nat.lt_or_ge t 150 with h25 | h25
    · exact List.all_eq_true.mp zm_Bs24 t (List.mem_range'_1.mpr ⟨by omega, by omega⟩)
    rcases Nat.lt_or_ge t 156 with h26 | h26
    · exact List.all_eq_true.mp zm_Bs25 t (List.mem_range'_1.mpr ⟨by omega, by omega⟩)
    rcases Nat.lt_or_ge t 162 with h27 | h27
    · exact List.all_eq_true.mp zm_Bs26 t (List.mem_range'_1.mpr ⟨by omega, by omega⟩)
    rcases Nat.lt_or_ge t 168 with h28 | h28
    · exact List.all_eq_true.mp zm_Bs27 t (List.mem_range'_1.mpr ⟨by omega, by omega⟩)
    rcases Nat.lt_or_ge t 174 with h29 | h29
    · exact List.all_eq_true.mp zm_Bs28 t (List.mem_range'_1.mpr ⟨by omega, by omega⟩)
    rcases Nat.lt_or_ge t 180 with h30 | h30
    · exact List.all_eq_true.mp zm_Bs29 t (List.mem_range'_1.mpr ⟨by omega, by omega⟩)
    rcases Nat.lt_or_ge t 186 with h31 | h31
    · exact List.all_eq_true.mp zm_Bs30 t (List.mem_range'_1.mpr ⟨by omega, by omega⟩)
    rcases Nat.lt_or_ge t 192 with h32 | h32
    · exact List.all_eq_true.mp zm_Bs31 t (List.mem_range'_1.mpr ⟨by omega, by omega⟩)
    rcases Nat.lt_or_ge t 198 with h33 | h33
    · exact List.all_eq_true.mp zm_Bs32 t (List.mem_range'_1.mpr ⟨by omega, by omega⟩)
    rcases Nat.lt_or_ge t 204 with h34 | h34
    · exact List.all_eq_true.mp zm_Bs33 t (List.mem_range'_1.mpr ⟨by omega, by omega⟩)
    rcases Nat.lt_or_ge t 210 with h35 | h35
    · exact List.all_eq_true.mp zm_Bs34 t (List.mem_range'_1.mpr ⟨by omega, by omega⟩)
    rcases Nat.lt_or_ge t 216 with h36 | h36
    · exact List.all_eq_true.mp zm_Bs35 t (List.mem_range'_1.mpr ⟨by omega, by omega⟩)
    rcases Nat.lt_or_ge t 222 with h37 | h37
    · exact List.all_eq_true.mp zm_Bs36 t (List.mem_range'_1.mpr ⟨by omega, by omega⟩)
    rcases Nat.lt_or_ge t 228 with h38 | h38
    · exact List.all_eq_true.mp zm_Bs37 t (List.mem_range'_1.mpr ⟨by omega, by omega⟩)
    rcases Nat.lt_or_ge t 234 with h39 | h39
    · exact List.all_eq_true.mp zm_Bs38 t (List.mem_range'_1.mpr ⟨by omega, by omega⟩)
    rcases Nat.lt_or_ge t 240 with h40 | h40
    · exact List.all_eq_true.mp zm_Bs39 t (List.mem_range'_1.mpr ⟨by omega, by omega⟩)
    rcases Nat.lt_or_ge t 246 with h41 | h41
    · exact List.all_eq_true.mp zm_Bs40 t (List.mem_range'_1.mpr ⟨by omega, by omega⟩)
    rcases Nat.lt_or_ge t 252 with h42 | h42
    · exact List.all_eq_true.mp zm_Bs41 t (List.mem_range'_1.mpr ⟨by omega, by omega⟩)
    rcases Nat.lt_or_ge t 258 with h43 | h43
    · exact List.all_eq_true.mp zm_Bs42 t (List.mem_range'_1.mpr ⟨by omega, by omega⟩)
    rcases Nat.lt_or_ge t 264 with h44 | h44
    · exact List.all_eq_true.mp zm_Bs43 t (List.mem_range'_1.mpr ⟨by omega, by omega⟩)
    exact List.all_eq_true.mp zm_Bs44 t (List.mem_range'_1.mpr ⟨by omega, by omega⟩)
  rw [h0] at key
  exact key
