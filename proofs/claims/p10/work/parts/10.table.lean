/-! PART 10: all of it. -/
theorem zall (m : Nat) (hm : m < 267) (pc : Nat) (hpc : pc < zbd m) : zchk m pc = true := by
  have key : zchkF m = true := by
    rcases Nat.lt_or_ge m 1 with h0 | h0
    · exact List.all_eq_true.mp zt_0 m (List.mem_range'_1.mpr ⟨by omega, by omega⟩)
    rcases Nat.lt_or_ge m 31 with h1 | h1
    · exact List.all_eq_true.mp zt_1 m (List.mem_range'_1.mpr ⟨by omega, by omega⟩)
    rcases Nat.lt_or_ge m 61 with h2 | h2
    · exact List.all_eq_true.mp zt_2 m (List.mem_range'_1.mpr ⟨by omega, by omega⟩)
    rcases Nat.lt_or_ge m 91 with h3 | h3
    · exact List.all_eq_true.mp zt_3 m (List.mem_range'_1.mpr ⟨by omega, by omega⟩)
    rcases Nat.lt_or_ge m 121 with h4 | h4
    · exact List.all_eq_true.mp zt_4 m (List.mem_range'_1.mpr ⟨by omega, by omega⟩)
    rcases Nat.lt_or_ge m 151 with h5 | h5
    · exact List.all_eq_true.mp zt_5 m (List.mem_range'_1.mpr ⟨by omega, by omega⟩)
    rcases Nat.lt_or_ge m 181 with h6 | h6
    · exact List.all_eq_true.mp zt_6 m (List.mem_range'_1.mpr ⟨by omega, by omega⟩)
    rcases Nat.lt_or_ge m 211 with h7 | h7
    · exact List.all_eq_true.mp zt_7 m (List.mem_range'_1.mpr ⟨by omega, by omega⟩)
    rcases Nat.lt_or_ge m 241 with h8 | h8
    · exact List.all_eq_true.mp zt_8 m (List.mem_range'_1.mpr ⟨by omega, by omega⟩)
    rcases Nat.lt_or_ge m 267 with h9 | h9
    · exact List.all_eq_true.mp zt_9 m (List.mem_range'_1.mpr ⟨by omega, by omega⟩)
    omega
  exact zchkF_g key pc hpc
