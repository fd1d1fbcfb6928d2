/-! PART 31.17: runs of the law's body. -/
theorem zlr_1134_48 : (List.range' 48 3).all (fun k => zlrunN (zon) (27, 2, 43, 28) ((k : Int), (k : Int)) 1134) = true := by decide +kernel
theorem zls_1134 {l : Launch} {X : zx_X} {N : Nat} (hH : zlHd l X zQ1 N) : zlSt l X zQ1 N 1134 := zlrunK_g (p := (27, 2, 43, 28)) (n := 50) (by decide) (by decide +kernel) (by decide +kernel) (fun k hk => by
  rcases Nat.lt_or_ge k 3 with h0 | h0
  · exact List.all_eq_true.mp zlr_1134_0 k (List.mem_range'_1.mpr ⟨by omega, by omega⟩)
  rcases Nat.lt_or_ge k 6 with h3 | h3
  · exact List.all_eq_true.mp zlr_1134_3 k (List.mem_range'_1.mpr ⟨by omega, by omega⟩)
  rcases Nat.lt_or_ge k 9 with h6 | h6
  · exact List.all_eq_true.mp zlr_1134_6 k (List.mem_range'_1.mpr ⟨by omega, by omega⟩)
  rcases Nat.lt_or_ge k 12 with h9 | h9
  · exact List.all_eq_true.mp zlr_1134_9 k (List.mem_range'_1.mpr ⟨by omega, by omega⟩)
  rcases Nat.lt_or_ge k 15 with h12 | h12
  · exact List.all_eq_true.mp zlr_1134_12 k (List.mem_range'_1.mpr ⟨by omega, by omega⟩)
  rcases Nat.lt_or_ge k 18 with h15 | h15
  · exact List.all_eq_true.mp zlr_1134_15 k (List.mem_range'_1.mpr ⟨by omega, by omega⟩)
  rcases Nat.lt_or_ge k 21 with h18 | h18
  · exact List.all_eq_true.mp zlr_1134_18 k (List.mem_range'_1.mpr ⟨by omega, by omega⟩)
  rcases Nat.lt_or_ge k 24 with h21 | h21
  · exact List.all_eq_true.mp zlr_1134_21 k (List.mem_range'_1.mpr ⟨by omega, by omega⟩)
  rcases Nat.lt_or_ge k 27 with h24 | h24
  · exact List.all_eq_true.mp zlr_1134_24 k (List.mem_range'_1.mpr ⟨by omega, by omega⟩)
  rcases Nat.lt_or_ge k 30 with h27 | h27
  · exact List.all_eq_true.mp zlr_1134_27 k (List.mem_range'_1.mpr ⟨by omega, by omega⟩)
  rcases Nat.lt_or_ge k 33 with h30 | h30
  · exact List.all_eq_true.mp zlr_1134_30 k (List.mem_range'_1.mpr ⟨by omega, by omega⟩)
  rcases Nat.lt_or_ge k 36 with h33 | h33
  · exact List.all_eq_true.mp zlr_1134_33 k (List.mem_range'_1.mpr ⟨by omega, by omega⟩)
  rcases Nat.lt_or_ge k 39 with h36 | h36
  · exact List.all_eq_true.mp zlr_1134_36 k (List.mem_range'_1.mpr ⟨by omega, by omega⟩)
  rcases Nat.lt_or_ge k 42 with h39 | h39
  · exact List.all_eq_true.mp zlr_1134_39 k (List.mem_range'_1.mpr ⟨by omega, by omega⟩)
  rcases Nat.lt_or_ge k 45 with h42 | h42
  · exact List.all_eq_true.mp zlr_1134_42 k (List.mem_range'_1.mpr ⟨by omega, by omega⟩)
  rcases Nat.lt_or_ge k 48 with h45 | h45
  · exact List.all_eq_true.mp zlr_1134_45 k (List.mem_range'_1.mpr ⟨by omega, by omega⟩)
  rcases Nat.lt_or_ge k 51 with h48 | h48
  · exact List.all_eq_true.mp zlr_1134_48 k (List.mem_range'_1.mpr ⟨by omega, by omega⟩)
  omega) (fun φ => zOk_no l X _ φ _) hH
theorem zlr_1187 : zlrun [] (zor zk_257_o (zon)) [] 1187 = true := by decide +kernel
theorem zls_1187 {l : Launch} {X : zx_X} {N : Nat} (hH : zlHd l X zQ1 N) : zlSt l X zQ1 N 1187 := zlrun_g zlr_1187 (zAll_mem trivial) (fun φ => zOk_or (zk_257_ok l X 3000000 φ _) (zOk_no l X _ φ _)) hH (by simp)
theorem zlr_1167 : zlrun [] (zor zk_163_o (zon)) [1187] 1167 = true := by decide +kernel
theorem zls_1167 {l : Launch} {X : zx_X} {N : Nat} (hH : zlHd l X zQ1 N) : zlSt l X zQ1 N 1167 := zlrun_g zlr_1167 (zAll_mem trivial) (fun φ => zOk_or (zk_163_ok l X 3000000 φ _) (zOk_no l X _ φ _)) hH (zAll_mem ⟨zls_1187 hH, trivial⟩)
theorem zlr_1245 : zlrun [] (zon) [] 1245 = true := by decide +kernel
theorem zls_1245 {l : Launch} {X : zx_X} {N : Nat} (hH : zlHd l X zQ1 N) : zlSt l X zQ1 N 1245 := zlrun_g zlr_1245 (zAll_mem trivial) (fun φ => zOk_no l X _ φ _) hH (by simp)
