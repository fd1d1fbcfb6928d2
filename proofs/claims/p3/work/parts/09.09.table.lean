/-! PART 09, 09 -/
theorem zt_0 : (List.range' 0 1).all zchkm = true := by
  refine List.all_eq_true.mpr (fun m hm => ?_)
  have h := List.mem_range'_1.mp hm
  have h0 : m = 0 := by omega
  subst h0
  refine List.all_eq_true.mpr (fun pc hpc => ?_)
  have hb : pc < 1500 := List.mem_range.mp hpc
  rcases Nat.lt_or_ge pc 75 with h0 | h0
  · exact List.all_eq_true.mp zt_0_0 pc (List.mem_range'_1.mpr ⟨by omega, by omega⟩)
  rcases Nat.lt_or_ge pc 150 with h1 | h1
  · exact List.all_eq_true.mp zt_0_1 pc (List.mem_range'_1.mpr ⟨by omega, by omega⟩)
  rcases Nat.lt_or_ge pc 225 with h2 | h2
  · exact List.all_eq_true.mp zt_0_2 pc (List.mem_range'_1.mpr ⟨by omega, by omega⟩)
  rcases Nat.lt_or_ge pc 300 with h3 | h3
  · exact List.all_eq_true.mp zt_0_3 pc (List.mem_range'_1.mpr ⟨by omega, by omega⟩)
  rcases Nat.lt_or_ge pc 375 with h4 | h4
  · exact List.all_eq_true.mp zt_0_4 pc (List.mem_range'_1.mpr ⟨by omega, by omega⟩)
  rcases Nat.lt_or_ge pc 450 with h5 | h5
  · exact List.all_eq_true.mp zt_0_5 pc (List.mem_range'_1.mpr ⟨by omega, by omega⟩)
  rcases Nat.lt_or_ge pc 525 with h6 | h6
  · exact List.all_eq_true.mp zt_0_6 pc (List.mem_range'_1.mpr ⟨by omega, by omega⟩)
  rcases Nat.lt_or_ge pc 600 with h7 | h7
  · exact List.all_eq_true.mp zt_0_7 pc (List.mem_range'_1.mpr ⟨by omega, by omega⟩)
  rcases Nat.lt_or_ge pc 675 with h8 | h8
  · exact List.all_eq_true.mp zt_0_8 pc (List.mem_range'_1.mpr ⟨by omega, by omega⟩)
  rcases Nat.lt_or_ge pc 750 with h9 | h9
  · exact List.all_eq_true.mp zt_0_9 pc (List.mem_range'_1.mpr ⟨by omega, by omega⟩)
  rcases Nat.lt_or_ge pc 825 with h10 | h10
  · exact List.all_eq_true.mp zt_0_10 pc (List.mem_range'_1.mpr ⟨by omega, by omega⟩)
  rcases Nat.lt_or_ge pc 900 with h11 | h11
  · exact List.all_eq_true.mp zt_0_11 pc (List.mem_range'_1.mpr ⟨by omega, by omega⟩)
  rcases Nat.lt_or_ge pc 975 with h12 | h12
  · exact List.all_eq_true.mp zt_0_12 pc (List.mem_range'_1.mpr ⟨by omega, by omega⟩)
  rcases Nat.lt_or_ge pc 1050 with h13 | h13
  · exact List.all_eq_true.mp zt_0_13 pc (List.mem_range'_1.mpr ⟨by omega, by omega⟩)
  rcases Nat.lt_or_ge pc 1125 with h14 | h14
  · exact List.all_eq_true.mp zt_0_14 pc (List.mem_range'_1.mpr ⟨by omega, by omega⟩)
  rcases Nat.lt_or_ge pc 1200 with h15 | h15
  · exact List.all_eq_true.mp zt_0_15 pc (List.mem_range'_1.mpr ⟨by omega, by omega⟩)
  rcases Nat.lt_or_ge pc 1275 with h16 | h16
  · exact List.all_eq_true.mp zt_0_16 pc (List.mem_range'_1.mpr ⟨by omega, by omega⟩)
  rcases Nat.lt_or_ge pc 1350 with h17 | h17
  · exact List.all_eq_true.mp zt_0_17 pc (List.mem_range'_1.mpr ⟨by omega, by omega⟩)
  rcases Nat.lt_or_ge pc 1425 with h18 | h18
  · exact List.all_eq_true.mp zt_0_18 pc (List.mem_range'_1.mpr ⟨by omega, by omega⟩)
  rcases Nat.lt_or_ge pc 1500 with h19 | h19
  · exact List.all_eq_true.mp zt_0_19 pc (List.mem_range'_1.mpr ⟨by omega, by omega⟩)
  omega
