/-! PART 10: all of it. -/
theorem zall (m : Nat) (hm : m < 267) (pc : Nat) (hpc : pc < zbd m) : zchk m pc = true := by
  have key : zchkm m = true := by
    rcases Nat.lt_or_ge m 1 with h0 | h0
    · exact List.all_eq_true.mp zt_0 m (List.mem_range'_1.mpr ⟨by omega, by omega⟩)
    rcases Nat.lt_or_ge m 6 with h1 | h1
    · exact List.all_eq_true.mp zt_1 m (List.mem_range'_1.mpr ⟨by omega, by omega⟩)
    rcases Nat.lt_or_ge m 11 with h2 | h2
    · exact List.all_eq_true.mp zt_2 m (List.mem_range'_1.mpr ⟨by omega, by omega⟩)
    rcases Nat.lt_or_ge m 16 with h3 | h3
    · exact List.all_eq_true.mp zt_3 m (List.mem_range'_1.mpr ⟨by omega, by omega⟩)
    rcases Nat.lt_or_ge m 21 with h4 | h4
    · exact List.all_eq_true.mp zt_4 m (List.mem_range'_1.mpr ⟨by omega, by omega⟩)
    rcases Nat.lt_or_ge m 26 with h5 | h5
    · exact List.all_eq_true.mp zt_5 m (List.mem_range'_1.mpr ⟨by omega, by omega⟩)
    rcases Nat.lt_or_ge m 31 with h6 | h6
    · exact List.all_eq_true.mp zt_6 m (List.mem_range'_1.mpr ⟨by omega, by omega⟩)
    rcases Nat.lt_or_ge m 36 with h7 | h7
    · exact List.all_eq_true.mp zt_7 m (List.mem_range'_1.mpr ⟨by omega, by omega⟩)
    rcases Nat.lt_or_ge m 41 with h8 | h8
    · exact List.all_eq_true.mp zt_8 m (List.mem_range'_1.mpr ⟨by omega, by omega⟩)
    rcases Nat.lt_or_ge m 46 with h9 | h9
    · exact List.all_eq_true.mp zt_9 m (List.mem_range'_1.mpr ⟨by omega, by omega⟩)
    rcases Nat.lt_or_ge m 51 with h10 | h10
    · exact List.all_eq_true.mp zt_10 m (List.mem_range'_1.mpr ⟨by omega, by omega⟩)
    rcases Nat.lt_or_ge m 56 with h11 | h11
    · exact List.all_eq_true.mp zt_11 m (List.mem_range'_1.mpr ⟨by omega, by omega⟩)
    rcases Nat.lt_or_ge m 61 with h12 | h12
    · exact List.all_eq_true.mp zt_12 m (List.mem_range'_1.mpr ⟨by omega, by omega⟩)
    rcases Nat.lt_or_ge m 66 with h13 | h13
    · exact List.all_eq_true.mp zt_13 m (List.mem_range'_1.mpr ⟨by omega, by omega⟩)
    rcases Nat.lt_or_ge m 71 with h14 | h14
    · exact List.all_eq_true.mp zt_14 m (List.mem_range'_1.mpr ⟨by omega, by omega⟩)
    rcases Nat.lt_or_ge m 76 with h15 | h15
    · exact List.all_eq_true.mp zt_15 m (List.mem_range'_1.mpr ⟨by omega, by omega⟩)
    rcases Nat.lt_or_ge m 81 with h16 | h16
    · exact List.all_eq_true.mp zt_16 m (List.mem_range'_1.mpr ⟨by omega, by omega⟩)
    rcases Nat.lt_or_ge m 86 with h17 | h17
    · exact List.all_eq_true.mp zt_17 m (List.mem_range'_1.mpr ⟨by omega, by omega⟩)
    rcases Nat.lt_or_ge m 91 with h18 | h18
    · exact List.all_eq_true.mp zt_18 m (List.mem_range'_1.mpr ⟨by omega, by omega⟩)
    rcases Nat.lt_or_ge m 96 with h19 | h19
    · exact List.all_eq_true.mp zt_19 m (List.mem_range'_1.mpr ⟨by omega, by omega⟩)
    rcases Nat.lt_or_ge m 101 with h20 | h20
    · exact List.all_eq_true.mp zt_20 m (List.mem_range'_1.mpr ⟨by omega, by omega⟩)
    rcases Nat.lt_or_ge m 106 with h21 | h21
    · exact List.all_eq_true.mp zt_21 m (List.mem_range'_1.mpr ⟨by omega, by omega⟩)
    rcases Nat.lt_or_ge m 111 with h22 | h22
    · exact List.all_eq_true.mp zt_22 m (List.mem_range'_1.mpr ⟨by omega, by omega⟩)
    rcases Nat.lt_or_ge m 116 with h23 | h23
    · exact List.all_eq_true.mp zt_23 m (List.mem_range'_1.mpr ⟨by omega, by omega⟩)
    rcases Nat.lt_or_ge m 121 with h24 | h24
    · exact List.all_eq_true.mp zt_24 m (List.mem_range'_1.mpr ⟨by omega, by omega⟩)
    rcases Nat.lt_or_ge m 126 with h25 | h25
    · exact List.all_eq_true.mp zt_25 m (List.mem_range'_1.mpr ⟨by omega, by omega⟩)
    rcases Nat.lt_or_ge m 131 with h26 | h26
    · exact List.all_eq_true.mp zt_26 m (List.mem_range'_1.mpr ⟨by omega, by omega⟩)
    rcases Nat.lt_or_ge m 136 with h27 | h27
    · exact List.all_eq_true.mp zt_27 m (List.mem_range'_1.mpr ⟨by omega, by omega⟩)
    rcases Nat.lt_or_ge m 141 with h28 | h28
    · exact List.all_eq_true.mp zt_28 m (List.mem_range'_1.mpr ⟨by omega, by omega⟩)
    rcases Nat.lt_or_ge m 146 with h29 | h29
    · exact List.all_eq_true.mp zt_29 m (List.mem_range'_1.mpr ⟨by omega, by omega⟩)
    rcases Nat.lt_or_ge m 151 with h30 | h30
    · exact List.all_eq_true.mp zt_30 m (List.mem_range'_1.mpr ⟨by omega, by omega⟩)
    rcases Nat.lt_or_ge m 156 with h31 | h31
    · exact List.all_eq_true.mp zt_31 m (List.mem_range'_1.mpr ⟨by omega, by omega⟩)
    rcases Nat.lt_or_ge m 161 with h32 | h32
    · exact List.all_eq_true.mp zt_32 m (List.mem_range'_1.mpr ⟨by omega, by omega⟩)
    rcases Nat.lt_or_ge m 166 with h33 | h33
    · exact List.all_eq_true.mp zt_33 m (List.mem_range'_1.mpr ⟨by omega, by omega⟩)
    rcases Nat.lt_or_ge m 171 with h34 | h34
    · exact List.all_eq_true.mp zt_34 m (List.mem_range'_1.mpr ⟨by omega, by omega⟩)
    rcases Nat.lt_or_ge m 176 with h35 | h35
    · exact List.all_eq_true.mp zt_35 m (List.mem_range'_1.mpr ⟨by omega, by omega⟩)
    rcases Nat.lt_or_ge m 181 with h36 | h36
    · exact List.all_eq_true.mp zt_36 m (List.mem_range'_1.mpr ⟨by omega, by omega⟩)
    rcases Nat.lt_or_ge m 186 with h37 | h37
    · exact List.all_eq_true.mp zt_37 m (List.mem_range'_1.mpr ⟨by omega, by omega⟩)
    rcases Nat.lt_or_ge m 191 with h38 | h38
    · exact List.all_eq_true.mp zt_38 m (List.mem_range'_1.mpr ⟨by omega, by omega⟩)
    rcases Nat.lt_or_ge m 196 with h39 | h39
    · exact List.all_eq_true.mp zt_39 m (List.mem_range'_1.mpr ⟨by omega, by omega⟩)
    rcases Nat.lt_or_ge m 201 with h40 | h40
    · exact List.all_eq_true.mp zt_40 m (List.mem_range'_1.mpr ⟨by omega, by omega⟩)
    rcases Nat.lt_or_ge m 206 with h41 | h41
    · exact List.all_eq_true.mp zt_41 m (List.mem_range'_1.mpr ⟨by omega, by omega⟩)
    rcases Nat.lt_or_ge m 211 with h42 | h42
    · exact List.all_eq_true.mp zt_42 m (List.mem_range'_1.mpr ⟨by omega, by omega⟩)
    rcases Nat.lt_or_ge m 216 with h43 | h43
    · exact List.all_eq_true.mp zt_43 m (List.mem_range'_1.mpr ⟨by omega, by omega⟩)
    rcases Nat.lt_or_ge m 221 with h44 | h44
    · exact List.all_eq_true.mp zt_44 m (List.mem_range'_1.mpr ⟨by omega, by omega⟩)
    rcases Nat.lt_or_ge m 226 with h45 | h45
    · exact List.all_eq_true.mp zt_45 m (List.mem_range'_1.mpr ⟨by omega, by omega⟩)
    rcases Nat.lt_or_ge m 231 with h46 | h46
    · exact List.all_eq_true.mp zt_46 m (List.mem_range'_1.mpr ⟨by omega, by omega⟩)
    rcases Nat.lt_or_ge m 236 with h47 | h47
    · exact List.all_eq_true.mp zt_47 m (List.mem_range'_1.mpr ⟨by omega, by omega⟩)
    rcases Nat.lt_or_ge m 241 with h48 | h48
    · exact List.all_eq_true.mp zt_48 m (List.mem_range'_1.mpr ⟨by omega, by omega⟩)
    rcases Nat.lt_or_ge m 246 with h49 | h49
    · exact List.all_eq_true.mp zt_49 m (List.mem_range'_1.mpr ⟨by omega, by omega⟩)
    rcases Nat.lt_or_ge m 251 with h50 | h50
    · exact List.all_eq_true.mp zt_50 m (List.mem_range'_1.mpr ⟨by omega, by omega⟩)
    rcases Nat.lt_or_ge m 256 with h51 | h51
    · exact List.all_eq_true.mp zt_51 m (List.mem_range'_1.mpr ⟨by omega, by omega⟩)
    rcases Nat.lt_or_ge m 261 with h52 | h52
    · exact List.all_eq_true.mp zt_52 m (List.mem_range'_1.mpr ⟨by omega, by omega⟩)
    rcases Nat.lt_or_ge m 266 with h53 | h53
    · exact List.all_eq_true.mp zt_53 m (List.mem_range'_1.mpr ⟨by omega, by omega⟩)
    rcases Nat.lt_or_ge m 267 with h54 | h54
    · exact List.all_eq_true.mp zt_54 m (List.mem_range'_1.mpr ⟨by omega, by omega⟩)
    omega
  exact List.all_eq_true.mp key pc (List.mem_range.mpr hpc)
