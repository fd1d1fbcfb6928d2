/-! PARTS 46.0.shelves to 46.7.image -/
section
/-! PART 46.0: shelves. Made by wip/v4/gen_sh.py. -/
theorem zsh_ne {d c : Nat} (hd : d < 6) (h : c < 31 ∨ 43 ≤ c) : c ≠ zy_sh d := by unfold zy_sh; omega
theorem zsh_inj {d d' : Nat} (h : zy_sh d = zy_sh d') : d = d' := by unfold zy_sh at h; omega
theorem zrg_sh {d : Nat} (h : d < 6) : zrg (zy_sh d) 1 = (-1, 49) ∧ zrg (zy_sh d) 2 = (-1, 4) ∧ zrg (zy_sh d) 3 = (0, 60) := by
  have key : ∀ d, d < 6 → zrg (zy_sh d) 1 = (-1, 49) ∧ zrg (zy_sh d) 2 = (-1, 4) ∧ zrg (zy_sh d) 3 = (0, 60) := by decide +kernel
  exact key d h
theorem zrg_60 {d : Nat} (h : d < 6) : zrg 60 d = (-1, 54) ∧ zrg 61 d = (0, 60) := by
  have key : ∀ d, d < 6 → zrg 60 d = (-1, 54) ∧ zrg 61 d = (0, 60) := by decide +kernel
  exact key d h
/-- all but shelves is as it was -/
theorem zI_fr {s t : zy_S} (h : zI s) (hW : t.2.2 = s.2.2) (hg : zRg t) (e : ∀ c k, (c < 31 ∨ 43 ≤ c) → c ≠ 60 → c ≠ 61 → t.1 c k = s.1 c k) (h20' : zR20 t) (h21' : zR21 t) : zI t := by
  obtain ⟨hw, hg0, h1, h2, h3, h4, h5, h6, h7, h8, h9, h10, h11, h12, h13, h14, h15, h16, h17, h18, h19, h20, h21⟩ := h
  have hw' : zy_Wb t = true := by
    unfold zy_Wb
    rw [hW]
    exact hw
  refine ⟨hw', hg, ?_, ?_, ?_, ?_, ?_, ?_, ?_, ?_, ?_, ?_, ?_, ?_, ?_, ?_, ?_, ?_, ?_, ?_, ?_, h20', h21'⟩
  · unfold zR1
    rw [e 1 5 (by decide) (by decide) (by decide), e 43 6 (by decide) (by decide) (by decide)]
    exact h1
  · unfold zR2
    intro p hp
    rw [e 3 p (by decide) (by decide) (by decide), e 44 p (by decide) (by decide) (by decide)]
    exact h2 p hp
  · unfold zR3
    intro p hp
    rw [e 4 p (by decide) (by decide) (by decide), e 44 (8 + p) (by decide) (by decide) (by decide)]
    exact h3 p hp
  · unfold zR4
    intro p hp
    rw [e 2 p (by decide) (by decide) (by decide), e 44 (16 + p) (by decide) (by decide) (by decide)]
    exact h4 p hp
  · unfold zR5
    rw [e 1 4 (by decide) (by decide) (by decide), e 44 40 (by decide) (by decide) (by decide)]
    exact h5
  · unfold zR6
    rw [e 1 3 (by decide) (by decide) (by decide), e 43 7 (by decide) (by decide) (by decide)]
    exact h6
  · unfold zR7
    intro p hp
    rw [e 18 p (by decide) (by decide) (by decide), e 54 p (by decide) (by decide) (by decide)]
    exact h7 p hp
  · unfold zR8
    rw [e 17 2 (by decide) (by decide) (by decide), e 43 22 (by decide) (by decide) (by decide), e 17 3 (by decide) (by decide) (by decide), e 43 24 (by decide) (by decide) (by decide), e 17 4 (by decide) (by decide) (by decide), e 43 23 (by decide) (by decide) (by decide), e 1 5 (by decide) (by decide) (by decide)]
    exact h8
  · intro p hp
    rw [e 17 4 (by decide) (by decide) (by decide)] at hp
    rw [e 20 p (by decide) (by decide) (by decide), e 55 p (by decide) (by decide) (by decide)]
    exact h9 p hp
  · unfold zR10
    intro p hp
    rw [e 19 p (by decide) (by decide) (by decide), e 56 p (by decide) (by decide) (by decide)]
    exact h10 p hp
  · unfold zR11
    intro p hp
    rw [e 21 p (by decide) (by decide) (by decide), e 57 p (by decide) (by decide) (by decide)]
    exact h11 p hp
  · unfold zR12
    rw [e 22 5 (by decide) (by decide) (by decide), e 43 5 (by decide) (by decide) (by decide), e 22 6 (by decide) (by decide) (by decide), e 43 4 (by decide) (by decide) (by decide)]
    exact h12
  · intro p hp
    rw [e 22 6 (by decide) (by decide) (by decide)] at hp
    rw [e 1 5 (by decide) (by decide) (by decide), e 23 p (by decide) (by decide) (by decide), e 24 p (by decide) (by decide) (by decide), e 25 p (by decide) (by decide) (by decide), e 26 p (by decide) (by decide) (by decide), e 45 p (by decide) (by decide) (by decide), e 46 p (by decide) (by decide) (by decide), e 47 p (by decide) (by decide) (by decide)]
    exact h13 p hp
  · unfold zR14
    rw [e 27 2 (by decide) (by decide) (by decide), e 43 28 (by decide) (by decide) (by decide)]
    exact h14
  · unfold zR15
    intro p hp
    rw [e 28 p (by decide) (by decide) (by decide), e 58 p (by decide) (by decide) (by decide)]
    exact h15 p hp
  · unfold zR16
    rw [e 27 3 (by decide) (by decide) (by decide), e 43 31 (by decide) (by decide) (by decide)]
    exact h16
  · unfold zR17
    intro p hp
    rw [e 29 p (by decide) (by decide) (by decide), e 59 p (by decide) (by decide) (by decide)]
    exact h17 p hp
  · unfold zR18
    rw [e 9 2 (by decide) (by decide) (by decide), e 43 9 (by decide) (by decide) (by decide)]
    exact h18
  · unfold zR19
    refine ⟨fun p hp => ?_, ?_⟩
    · rw [e 10 p (by decide) (by decide) (by decide), e 48 p (by decide) (by decide) (by decide)]
      exact h19.1 p hp
    · rw [e 5 3 (by decide) (by decide) (by decide), e 43 11 (by decide) (by decide) (by decide), show t.1 6 = s.1 6 from funext fun k => e 6 k (by decide) (by decide) (by decide), show t.1 49 = s.1 49 from funext fun k => e 49 k (by decide) (by decide) (by decide)]
      exact h19.2
/-- one shelf alone is another -/
theorem zI_sh1 {s t : zy_S} (h : zI s) {d : Nat} (hd : d < 6) (hg : zRg t) (hW : t.2.2 = s.2.2) (e : ∀ c k, c ≠ zy_sh d → ¬ (c = 60 ∧ k = d) → ¬ (c = 61 ∧ k = d) → t.1 c k = s.1 c k)
    (hs : zShelf (s.1 27 2) (t.1 (zy_sh d) 1) (t.1 (zy_sh d) 2) (t.1 (zy_sh d) 3) (t.1 60 d) (t.1 61 d))
    (e2 : ∀ d' j, d' < 6 → d' ≠ d → t.2.1 (zy_sh d' + 1) j = s.2.1 (zy_sh d' + 1) j) (e62 : ∀ d' j, d' < 6 → d' ≠ d → j < 60 → t.2.1 62 (60 * d' + j) = s.2.1 62 (60 * d' + j))
    (hj : ∀ j, j < 60 → t.2.1 (zy_sh d + 1) j = t.2.1 62 (60 * d + j) ∧ zfit (t.1 (zy_sh d) 2) (t.2.1 (zy_sh d + 1) j)) : zI t := by
  have h20 : zR20 s := h.2.2.2.2.2.2.2.2.2.2.2.2.2.2.2.2.2.2.2.2.2.1
  have h21 : zR21 s := h.2.2.2.2.2.2.2.2.2.2.2.2.2.2.2.2.2.2.2.2.2.2
  have e27 : t.1 27 2 = s.1 27 2 := e 27 2 (zsh_ne hd (by decide)) (fun q => absurd q.1 (by decide)) (fun q => absurd q.1 (by decide))
  have ne : ∀ d', d' < 6 → d' ≠ d → ∀ k, t.1 (zy_sh d') k = s.1 (zy_sh d') k := fun d' hd' q k =>
    e _ _ (fun w => q (zsh_inj w)) (fun w => zsh_ne hd' (c := 60) (by decide) w.1.symm) (fun w => zsh_ne hd' (c := 61) (by decide) w.1.symm)
  refine zI_fr h hW hg (fun c k hc h60 h61 => e c k (zsh_ne hd hc) (fun q => h60 q.1) (fun q => h61 q.1)) ?_ ?_
  · intro d' hd'
    rw [e27]
    by_cases q : d' = d
    · subst q; exact hs
    · rw [ne d' hd' q, ne d' hd' q, ne d' hd' q, e 60 d' (zsh_ne hd (by decide)) (fun w => q w.2) (fun w => q w.2), e 61 d' (zsh_ne hd (by decide)) (fun w => q w.2) (fun w => q w.2)]
      exact h20 d' hd'
  · intro d' hd' j hj'
    by_cases q : d' = d
    · subst q; exact hj j hj'
    · rw [e2 d' j hd' q, e62 d' j hd' q hj', ne d' hd' q]
      exact h21 d' hd' j hj'
theorem zx6 {x : Int32} (h : 0 ≤ x.toInt ∧ x.toInt ≤ 5) : zy_in x 6 = true ∧ x.toNatClampNeg < 6 ∧ x.toInt = (x.toNatClampNeg : Int) := by
  have e : x.toNatClampNeg = x.toInt.toNat := rfl
  exact ⟨zq_in.mpr ⟨h.1, by omega⟩, by omega, by omega⟩
theorem zop_keep (x y : Int32) {s : zy_S} (h : zI s) : ∃ r s1 s2, zyF161 x y s = some (r, s1) ∧ zyF256 x y s1 = some (r, s2) ∧ zI s2 := by
  obtain ⟨hw, hg, h1, h2, h3, h4, h5, h6, h7, h8, h9, h10, h11, h12, h13, h14, h15, h16, h17, h18, h19, h20, h21⟩ := id h
  obtain ⟨e14, b0, b1⟩ := id h14
  by_cases hx : 0 ≤ x.toInt ∧ x.toInt ≤ 5
  · obtain ⟨hin, hd, hxd⟩ := zx6 hx
    by_cases hy : y.toInt = -1 ∨ (0 ≤ y.toInt ∧ y.toInt < (s.1 27 2).toInt)
    · have k : zyF161_25 x y s = some (1, zy_up (zy_up (zy_up s (zy_sh x.toNatClampNeg) 1 y) (zy_sh x.toNatClampNeg) 2 (-1)) (zy_sh x.toNatClampNeg) 3 0) := by
        unfold zyF161_25 zyF162
        rw [if_pos hin, if_pos hw]
        rfl
      obtain ⟨d, hdd⟩ : ∃ d, d = x.toNatClampNeg := ⟨_, rfl⟩
      rw [← hdd] at k hd
      obtain ⟨s1, hs1⟩ : ∃ s1, s1 = zy_up (zy_up (zy_up s (zy_sh d) 1 y) (zy_sh d) 2 (-1)) (zy_sh d) 3 0 := ⟨_, rfl⟩
      rw [← hs1] at k
      have o1 : ∀ c k, c ≠ zy_sh d → s1.1 c k = s.1 c k := by
        intro c k hc
        rw [hs1, zf_up hc, zf_up hc, zf_up hc]
      have m28 : s1.1 43 28 = s.1 43 28 := o1 _ _ (zsh_ne hd (by decide))
      have k2 : zyF256_22 x y s1 = some (1, zy_up (zy_up s1 60 d y) 61 d 0) := by
        unfold zyF256_22
        rw [if_pos hin, if_pos hin, ← hdd]
      refine ⟨1, s1, zy_up (zy_up s1 60 d y) 61 d 0, ?_, ?_, ?_⟩
      · unfold zyF161
        simp only [zys18, zys154, true_and, and_true, zqb_t0, Classical.not_not, Bool.not_eq_false, zq_bind, zqb_n0, zqb_e0, decide_eq_true_eq, decide_eq_false_iff_not, ne_eq, zq_eq, Int32.toInt_toInt64, Int32.lt_iff_toInt_lt, Int32.le_iff_toInt_le, zq_l0, zq_lm1, zq_l1, zq_l2, zq_l3, zq_l4, zq_l5, zq_l6, zq_l7, zq_l8, zq_l9, zq_l12, zq_l16, zq_l23, zq_l24, zq_l40, zq_l39, zq_l50, zq_l51, zq_l60, zq_l120, zq_l128, zq_l255, zq_l4095, zq_l4096, zq_j0, zq_j1, zq_j4, zq_j5, zq_j7, zq_j8, zq_j9, zq_j23, zq_j255, zq_j4095]
        rw [if_neg (by omega)]
        by_cases e : y.toInt = -1
        · rw [if_pos e]; exact k
        · rw [if_neg e, if_pos (by omega)]; exact k
      · unfold zyF256
        simp only [zys182, zys249 y s1 (by rw [m28, ← e14]; exact ⟨b0, b1⟩), m28, ← e14, true_and, and_true, zqb_t0, Classical.not_not, Bool.not_eq_false, zq_bind, zqb_n0, zqb_e0, decide_eq_true_eq, decide_eq_false_iff_not, ne_eq, zq_eq, Int32.toInt_toInt64, Int32.lt_iff_toInt_lt, Int32.le_iff_toInt_le, zq_l0, zq_lm1, zq_l1, zq_l2, zq_l3, zq_l4, zq_l5, zq_l6, zq_l7, zq_l8, zq_l9, zq_l12, zq_l16, zq_l23, zq_l24, zq_l40, zq_l39, zq_l50, zq_l51, zq_l60, zq_l120, zq_l128, zq_l255, zq_l4095, zq_l4096, zq_j0, zq_j1, zq_j4, zq_j5, zq_j7, zq_j8, zq_j9, zq_j23, zq_j255, zq_j4095]
        rw [if_neg (by omega)]
        by_cases e : y.toInt = -1
        · rw [if_pos e]; exact k2
        · rw [if_neg e, if_pos (by omega)]; exact k2
      · have v1 : (zy_up (zy_up s1 60 d y) 61 d 0).1 (zy_sh d) 1 = y := by
          rw [zf_up (zsh_ne hd (by decide)).symm, zf_up (zsh_ne hd (by decide)).symm, hs1, zf_upk (by decide), zf_upk (by decide), zf_upe]
        have v2 : (zy_up (zy_up s1 60 d y) 61 d 0).1 (zy_sh d) 2 = -1 := by
          rw [zf_up (zsh_ne hd (by decide)).symm, zf_up (zsh_ne hd (by decide)).symm, hs1, zf_upk (by decide), zf_upe]
        have v3 : (zy_up (zy_up s1 60 d y) 61 d 0).1 (zy_sh d) 3 = 0 := by
          rw [zf_up (zsh_ne hd (by decide)).symm, zf_up (zsh_ne hd (by decide)).symm, hs1, zf_upe]
        have v4 : (zy_up (zy_up s1 60 d y) 61 d 0).1 60 d = y := by rw [zf_up (by decide), zf_upe]
        have v5 : (zy_up (zy_up s1 60 d y) 61 d 0).1 61 d = 0 := zf_upe
        have v0 : (zy_up (zy_up s1 60 d y) 61 d 0).2 = s.2 := by rw [hs1]; rfl
        obtain ⟨r1, r2, r3⟩ := zrg_sh hd
        obtain ⟨r4, r5⟩ := zrg_60 hd
        refine zI_sh1 h hd ?_ (congrArg Prod.snd v0) ?_ ?_ ?_ ?_ ?_
        · refine zRg_upF (zRg_upF ?_ r4 ⟨by omega, by omega⟩) r5 ⟨by decide, by decide⟩
          rw [hs1]
          exact zRg_upF (zRg_upF (zRg_upF hg r1 ⟨by omega, by omega⟩) r2 ⟨by decide, by decide⟩) r3 ⟨by decide, by decide⟩
        · intro c k hc h60 h61
          rw [zy_up_at, if_neg h61, zy_up_at, if_neg h60]
          exact o1 c k hc
        · rw [v1, v2, v3, v4, v5]
          exact ⟨rfl, ⟨by decide, by decide⟩, Or.inl ⟨rfl, rfl, by omega, by omega, rfl⟩⟩
        · intro d' j hd' q; rw [v0]
        · intro d' j hd' q hj; rw [v0]
        · intro j hj
          rw [v0, v2]
          exact ⟨(h21 d hd j hj).1, fun q => absurd q (by decide), fun q => absurd q (by decide)⟩
    · refine ⟨-1, s, s, ?_, ?_, h⟩
      · unfold zyF161
        simp only [zys18, zys154, true_and, and_true, zqb_t0, Classical.not_not, Bool.not_eq_false, zq_bind, zqb_n0, zqb_e0, decide_eq_true_eq, decide_eq_false_iff_not, ne_eq, zq_eq, Int32.toInt_toInt64, Int32.lt_iff_toInt_lt, Int32.le_iff_toInt_le, zq_l0, zq_lm1, zq_l1, zq_l2, zq_l3, zq_l4, zq_l5, zq_l6, zq_l7, zq_l8, zq_l9, zq_l12, zq_l16, zq_l23, zq_l24, zq_l40, zq_l39, zq_l50, zq_l51, zq_l60, zq_l120, zq_l128, zq_l255, zq_l4095, zq_l4096, zq_j0, zq_j1, zq_j4, zq_j5, zq_j7, zq_j8, zq_j9, zq_j23, zq_j255, zq_j4095]
        rw [if_neg (by omega), if_neg (by omega), if_neg (by omega)]
      · unfold zyF256
        simp only [zys182, zys249 y s (by rw [← e14]; exact ⟨b0, b1⟩), ← e14, true_and, and_true, zqb_t0, Classical.not_not, Bool.not_eq_false, zq_bind, zqb_n0, zqb_e0, decide_eq_true_eq, decide_eq_false_iff_not, ne_eq, zq_eq, Int32.toInt_toInt64, Int32.lt_iff_toInt_lt, Int32.le_iff_toInt_le, zq_l0, zq_lm1, zq_l1, zq_l2, zq_l3, zq_l4, zq_l5, zq_l6, zq_l7, zq_l8, zq_l9, zq_l12, zq_l16, zq_l23, zq_l24, zq_l40, zq_l39, zq_l50, zq_l51, zq_l60, zq_l120, zq_l128, zq_l255, zq_l4095, zq_l4096, zq_j0, zq_j1, zq_j4, zq_j5, zq_j7, zq_j8, zq_j9, zq_j23, zq_j255, zq_j4095]
        rw [if_neg (by omega), if_neg (by omega), if_neg (by omega)]
  · refine ⟨-1, s, s, ?_, ?_, h⟩
    · unfold zyF161
      simp only [zys18, true_and, and_true, zqb_t0, Classical.not_not, Bool.not_eq_false, zq_bind, zqb_n0, zqb_e0, decide_eq_true_eq, decide_eq_false_iff_not, ne_eq, zq_eq, Int32.toInt_toInt64, Int32.lt_iff_toInt_lt, Int32.le_iff_toInt_le, zq_l0, zq_lm1, zq_l1, zq_l2, zq_l3, zq_l4, zq_l5, zq_l6, zq_l7, zq_l8, zq_l9, zq_l12, zq_l16, zq_l23, zq_l24, zq_l40, zq_l39, zq_l50, zq_l51, zq_l60, zq_l120, zq_l128, zq_l255, zq_l4095, zq_l4096, zq_j0, zq_j1, zq_j4, zq_j5, zq_j7, zq_j8, zq_j9, zq_j23, zq_j255, zq_j4095]
      rw [if_pos (by omega)]
    · unfold zyF256
      simp only [zys182, true_and, and_true, zqb_t0, Classical.not_not, Bool.not_eq_false, zq_bind, zqb_n0, zqb_e0, decide_eq_true_eq, decide_eq_false_iff_not, ne_eq, zq_eq, Int32.toInt_toInt64, Int32.lt_iff_toInt_lt, Int32.le_iff_toInt_le, zq_l0, zq_lm1, zq_l1, zq_l2, zq_l3, zq_l4, zq_l5, zq_l6, zq_l7, zq_l8, zq_l9, zq_l12, zq_l16, zq_l23, zq_l24, zq_l40, zq_l39, zq_l50, zq_l51, zq_l60, zq_l120, zq_l128, zq_l255, zq_l4095, zq_l4096, zq_j0, zq_j1, zq_j4, zq_j5, zq_j7, zq_j8, zq_j9, zq_j23, zq_j255, zq_j4095]
      rw [if_pos (by omega)]
theorem zl_257 (x : Int32) {d : Nat} (hd : d < 6) (hx : x.toInt = (d : Int)) : ∀ (n k : Nat) (i : Int32) (s : zy_S), k ≤ 60 → 60 - k < n → i.toInt = 60 * (d : Int) + k →
    ∃ t, zyF257_57 n x i s = some (1, t) ∧ t.1 = s.1 ∧ t.2.2 = s.2.2 ∧ (∀ c, c ≠ 62 → t.2.1 c = s.2.1 c) ∧ ∀ j, t.2.1 62 j = if 60 * d + k ≤ j ∧ j < 60 * d + 60 then 0 else s.2.1 62 j
  | 0, k, i, s, hk, hn, hi => by omega
  | n + 1, k, i, s, hk, hn, hi => by
    have em : ((60 : Int32) * x).toInt = 60 * (d : Int) := by rw [zq_mul (by rw [zq_l60, hx]; omega) (by rw [zq_l60, hx]; omega), zq_l60, hx]
    have ea : ((60 : Int32) * x + 60).toInt = 60 * (d : Int) + 60 := by rw [zq_add (by rw [em, zq_l60]; omega) (by rw [em, zq_l60]; omega), em, zq_l60]
    show ∃ t, zyF257_57b (zyF257_57 n) x i s = some (1, t) ∧ _
    unfold zyF257_57b
    by_cases h : k = 60
    · rw [if_pos (by rw [Int32.le_iff_toInt_le, ea]; omega)]
      refine ⟨s, rfl, rfl, rfl, fun _ _ => rfl, fun j => ?_⟩
      rw [if_neg (by omega)]
    · rw [if_neg (by rw [Int32.le_iff_toInt_le, ea]; omega), if_pos (zq_in.mpr ⟨by omega, by omega⟩)]
      have en : (i + 1).toInt = 60 * (d : Int) + ((k + 1 : Nat) : Int) := by rw [zq_add (by rw [zq_l1]; omega) (by rw [zq_l1]; omega), zq_l1]; omega
      obtain ⟨t, q1, q2, q3, q4, q5⟩ := zl_257 x hd hx n (k + 1) (i + 1) (zy_uj s 62 i.toNatClampNeg 0) (by omega) (by omega) en
      refine ⟨t, q1, q2, q3, fun c hc => by rw [q4 c hc]; funext b; rw [zy_uj_at, if_neg (fun w => hc w.1)], fun j => ?_⟩
      rw [q5 j, zy_uj_at]
      have ei : i.toNatClampNeg = 60 * d + k := by rw [zq_ix]; omega
      rw [ei]
      by_cases h1 : 60 * d + k ≤ j ∧ j < 60 * d + 60
      · rw [if_pos h1]
        by_cases h2 : j = 60 * d + k
        · rw [if_neg (by omega), if_pos ⟨rfl, h2⟩]
        · rw [if_pos (by omega)]
      · rw [if_neg h1, if_neg (by omega), if_neg (by omega)]
theorem zop_row (x y z : Int32) {s : zy_S} (h : zI s) : ∃ r s1 s2, zyF163 x y z s = some (r, s1) ∧ zyF257 x y z s1 = some (r, s2) ∧ zI s2 := by
  obtain ⟨hw, hg, h1, h2, h3, h4, h5, h6, h7, h8, h9, h10, h11, h12, h13, h14, h15, h16, h17, h18, h19, h20, h21⟩ := id h
  by_cases hx : 0 ≤ x.toInt ∧ x.toInt ≤ 5
  · by_cases hy : 0 ≤ y.toInt ∧ y.toInt ≤ 4
    · by_cases hz1 : z.toInt ≤ 60
      · by_cases hz0 : 0 ≤ z.toInt
        · obtain ⟨hin, hd, hxd⟩ := zx6 hx
          obtain ⟨d, hdd⟩ : ∃ d, d = x.toNatClampNeg := ⟨_, rfl⟩
          rw [← hdd] at hd hxd
          obtain ⟨s1, hs1⟩ : ∃ s1, s1 = zy_ub (zy_up (zy_up (zy_up s (zy_sh d) 1 (-1)) (zy_sh d) 2 y) (zy_sh d) 3 z) (zy_sh d + 1) (fun j => if j < 60 then 0 else s.2.1 (zy_sh d + 1) j) := ⟨_, rfl⟩
          have o1 : ∀ c k, c ≠ zy_sh d → s1.1 c k = s.1 c k := by
            intro c k hc
            rw [hs1]
            show (zy_up (zy_up (zy_up s (zy_sh d) 1 (-1)) (zy_sh d) 2 y) (zy_sh d) 3 z).1 c k = _
            rw [zf_up hc, zf_up hc, zf_up hc]
          have em : ((60 : Int32) * x).toInt = 60 * (d : Int) + ((0 : Nat) : Int) := by rw [zq_mul (by rw [zq_l60, hxd]; omega) (by rw [zq_l60, hxd]; omega), zq_l60, hxd]; omega
          have e50 : ((50 : Int32) + y).toInt = 50 + y.toInt := zq_add (by rw [zq_l50]; omega) (by rw [zq_l50]; omega)
          obtain ⟨t, q1, q2, q3, q4, q5⟩ := zl_257 x hd hxd zy_fu 0 (60 * x) (zy_up (zy_up s1 60 d (50 + y)) 61 d z) (by omega) (by unfold zy_fu; omega) em
          refine ⟨1, s1, t, ?_, ?_, ?_⟩
          · unfold zyF163 zyF164
            simp only [zys18, true_and, and_true, zqb_t0, Classical.not_not, Bool.not_eq_false, zq_bind, zqb_n0, zqb_e0, decide_eq_true_eq, decide_eq_false_iff_not, ne_eq, zq_eq, Int32.toInt_toInt64, Int32.lt_iff_toInt_lt, Int32.le_iff_toInt_le, zq_l0, zq_lm1, zq_l1, zq_l2, zq_l3, zq_l4, zq_l5, zq_l6, zq_l7, zq_l8, zq_l9, zq_l12, zq_l16, zq_l23, zq_l24, zq_l40, zq_l39, zq_l50, zq_l51, zq_l60, zq_l120, zq_l128, zq_l255, zq_l4095, zq_l4096, zq_j0, zq_j1, zq_j4, zq_j5, zq_j7, zq_j8, zq_j9, zq_j23, zq_j255, zq_j4095]
            rw [if_neg (by omega), if_neg (by omega), if_neg (by omega), if_pos hz1, if_pos hz0, if_pos hin, if_pos hw, ← hdd, hs1]
          · unfold zyF257
            simp only [zys182, zys179, true_and, and_true, zqb_t0, Classical.not_not, Bool.not_eq_false, zq_bind, zqb_n0, zqb_e0, decide_eq_true_eq, decide_eq_false_iff_not, ne_eq, zq_eq, Int32.toInt_toInt64, Int32.lt_iff_toInt_lt, Int32.le_iff_toInt_le, zq_l0, zq_lm1, zq_l1, zq_l2, zq_l3, zq_l4, zq_l5, zq_l6, zq_l7, zq_l8, zq_l9, zq_l12, zq_l16, zq_l23, zq_l24, zq_l40, zq_l39, zq_l50, zq_l51, zq_l60, zq_l120, zq_l128, zq_l255, zq_l4095, zq_l4096, zq_j0, zq_j1, zq_j4, zq_j5, zq_j7, zq_j8, zq_j9, zq_j23, zq_j255, zq_j4095]
            rw [if_neg (by omega), if_neg (by omega), if_pos hz1, if_pos hz0, if_pos hin, if_pos hin, ← hdd]
            exact q1
          · have v1 : t.1 (zy_sh d) 1 = -1 := by
              rw [q2, zf_up (zsh_ne hd (by decide)).symm, zf_up (zsh_ne hd (by decide)).symm, hs1]
              show (zy_up (zy_up (zy_up s (zy_sh d) 1 (-1)) (zy_sh d) 2 y) (zy_sh d) 3 z).1 _ _ = _
              rw [zf_upk (by decide), zf_upk (by decide), zf_upe]
            have v2 : t.1 (zy_sh d) 2 = y := by
              rw [q2, zf_up (zsh_ne hd (by decide)).symm, zf_up (zsh_ne hd (by decide)).symm, hs1]
              show (zy_up (zy_up (zy_up s (zy_sh d) 1 (-1)) (zy_sh d) 2 y) (zy_sh d) 3 z).1 _ _ = _
              rw [zf_upk (by decide), zf_upe]
            have v3 : t.1 (zy_sh d) 3 = z := by
              rw [q2, zf_up (zsh_ne hd (by decide)).symm, zf_up (zsh_ne hd (by decide)).symm, hs1]
              show (zy_up (zy_up (zy_up s (zy_sh d) 1 (-1)) (zy_sh d) 2 y) (zy_sh d) 3 z).1 _ _ = _
              rw [zf_upe]
            have v4 : t.1 60 d = 50 + y := by rw [q2, zf_up (by decide), zf_upe]
            have v5 : t.1 61 d = z := by rw [q2]; exact zf_upe
            have n62 : ∀ d', d' < 6 → zy_sh d' + 1 ≠ 62 := fun d' g => by unfold zy_sh; omega
            have w2 : ∀ c, c ≠ zy_sh d + 1 → c ≠ 62 → t.2.1 c = s.2.1 c := by
              intro c h1 h2
              rw [q4 c h2]
              show s1.2.1 c = _
              rw [hs1]
              funext b
              rw [zy_ub_at, if_neg h1]
              rfl
            have w62 : ∀ j, t.2.1 62 j = if 60 * d + 0 ≤ j ∧ j < 60 * d + 60 then 0 else s.2.1 62 j := by
              intro j
              rw [q5 j]
              show (if _ then (0 : Int64) else s1.2.1 62 j) = _
              rw [hs1, zy_ub_at, if_neg (n62 d hd).symm]
              rfl
            obtain ⟨r1, r2, r3⟩ := zrg_sh hd
            obtain ⟨r4, r5⟩ := zrg_60 hd
            refine zI_sh1 h hd ?_ ?_ ?_ ?_ ?_ ?_ ?_
            · have hh : zRg (zy_up (zy_up s1 60 d (50 + y)) 61 d z) := by
                refine zRg_upF (zRg_upF ?_ r4 ⟨by omega, by omega⟩) r5 ⟨hz0, hz1⟩
                rw [hs1]
                exact zRg_ub (zRg_upF (zRg_upF (zRg_upF hg r1 ⟨by decide, by decide⟩) r2 ⟨by omega, by omega⟩) r3 ⟨hz0, hz1⟩)
              intro c k hk
              rw [q2]
              exact hh c k hk
            · rw [q3, hs1]; rfl
            · intro c k hc h60 h61
              rw [q2, zy_up_at, if_neg h61, zy_up_at, if_neg h60]
              exact o1 c k hc
            · rw [v1, v2, v3, v4, v5]
              exact ⟨rfl, ⟨hz0, hz1⟩, Or.inr ⟨hy, rfl, e50⟩⟩
            · intro d' j hd' q
              rw [w2 _ (fun w => q (zsh_inj (by omega))) (n62 d' hd')]
            · intro d' j hd' q hj
              rw [w62, if_neg (by omega)]
            · intro j hj
              have u : t.2.1 (zy_sh d + 1) j = 0 := by
                rw [q4 _ (n62 d hd)]
                show s1.2.1 _ j = _
                rw [hs1, zy_ub_at, if_pos rfl, if_pos hj]
              rw [u, w62, if_pos (by omega)]
              exact ⟨rfl, fun _ => ⟨by decide, by decide⟩, fun _ => ⟨by decide, by decide⟩⟩
        · refine ⟨-14, s, s, ?_, ?_, h⟩
          · unfold zyF163
            simp only [zys18, true_and, and_true, zqb_t0, Classical.not_not, Bool.not_eq_false, zq_bind, zqb_n0, zqb_e0, decide_eq_true_eq, decide_eq_false_iff_not, ne_eq, zq_eq, Int32.toInt_toInt64, Int32.lt_iff_toInt_lt, Int32.le_iff_toInt_le, zq_l0, zq_lm1, zq_l1, zq_l2, zq_l3, zq_l4, zq_l5, zq_l6, zq_l7, zq_l8, zq_l9, zq_l12, zq_l16, zq_l23, zq_l24, zq_l40, zq_l39, zq_l50, zq_l51, zq_l60, zq_l120, zq_l128, zq_l255, zq_l4095, zq_l4096, zq_j0, zq_j1, zq_j4, zq_j5, zq_j7, zq_j8, zq_j9, zq_j23, zq_j255, zq_j4095]
            rw [if_neg (by omega), if_neg (by omega), if_neg (by omega), if_pos hz1, if_neg hz0]
          · unfold zyF257
            simp only [zys182, zys179, true_and, and_true, zqb_t0, Classical.not_not, Bool.not_eq_false, zq_bind, zqb_n0, zqb_e0, decide_eq_true_eq, decide_eq_false_iff_not, ne_eq, zq_eq, Int32.toInt_toInt64, Int32.lt_iff_toInt_lt, Int32.le_iff_toInt_le, zq_l0, zq_lm1, zq_l1, zq_l2, zq_l3, zq_l4, zq_l5, zq_l6, zq_l7, zq_l8, zq_l9, zq_l12, zq_l16, zq_l23, zq_l24, zq_l40, zq_l39, zq_l50, zq_l51, zq_l60, zq_l120, zq_l128, zq_l255, zq_l4095, zq_l4096, zq_j0, zq_j1, zq_j4, zq_j5, zq_j7, zq_j8, zq_j9, zq_j23, zq_j255, zq_j4095]
            rw [if_neg (by omega), if_neg (by omega), if_pos hz1, if_neg hz0]
      · refine ⟨-1, s, s, ?_, ?_, h⟩
        · unfold zyF163
          simp only [zys18, true_and, and_true, zqb_t0, Classical.not_not, Bool.not_eq_false, zq_bind, zqb_n0, zqb_e0, decide_eq_true_eq, decide_eq_false_iff_not, ne_eq, zq_eq, Int32.toInt_toInt64, Int32.lt_iff_toInt_lt, Int32.le_iff_toInt_le, zq_l0, zq_lm1, zq_l1, zq_l2, zq_l3, zq_l4, zq_l5, zq_l6, zq_l7, zq_l8, zq_l9, zq_l12, zq_l16, zq_l23, zq_l24, zq_l40, zq_l39, zq_l50, zq_l51, zq_l60, zq_l120, zq_l128, zq_l255, zq_l4095, zq_l4096, zq_j0, zq_j1, zq_j4, zq_j5, zq_j7, zq_j8, zq_j9, zq_j23, zq_j255, zq_j4095]
          rw [if_neg (by omega), if_neg (by omega), if_neg (by omega), if_neg hz1]
        · unfold zyF257
          simp only [zys182, zys179, true_and, and_true, zqb_t0, Classical.not_not, Bool.not_eq_false, zq_bind, zqb_n0, zqb_e0, decide_eq_true_eq, decide_eq_false_iff_not, ne_eq, zq_eq, Int32.toInt_toInt64, Int32.lt_iff_toInt_lt, Int32.le_iff_toInt_le, zq_l0, zq_lm1, zq_l1, zq_l2, zq_l3, zq_l4, zq_l5, zq_l6, zq_l7, zq_l8, zq_l9, zq_l12, zq_l16, zq_l23, zq_l24, zq_l40, zq_l39, zq_l50, zq_l51, zq_l60, zq_l120, zq_l128, zq_l255, zq_l4095, zq_l4096, zq_j0, zq_j1, zq_j4, zq_j5, zq_j7, zq_j8, zq_j9, zq_j23, zq_j255, zq_j4095]
          rw [if_neg (by omega), if_neg (by omega), if_neg hz1]
    · refine ⟨-1, s, s, ?_, ?_, h⟩
      · unfold zyF163
        simp only [zys18, true_and, and_true, zqb_t0, Classical.not_not, Bool.not_eq_false, zq_bind, zqb_n0, zqb_e0, decide_eq_true_eq, decide_eq_false_iff_not, ne_eq, zq_eq, Int32.toInt_toInt64, Int32.lt_iff_toInt_lt, Int32.le_iff_toInt_le, zq_l0, zq_lm1, zq_l1, zq_l2, zq_l3, zq_l4, zq_l5, zq_l6, zq_l7, zq_l8, zq_l9, zq_l12, zq_l16, zq_l23, zq_l24, zq_l40, zq_l39, zq_l50, zq_l51, zq_l60, zq_l120, zq_l128, zq_l255, zq_l4095, zq_l4096, zq_j0, zq_j1, zq_j4, zq_j5, zq_j7, zq_j8, zq_j9, zq_j23, zq_j255, zq_j4095]
        rw [if_neg (by omega)]
        by_cases hy0 : y.toInt < 0
        · rw [if_pos hy0]
        · rw [if_neg hy0, if_pos (by omega)]
      · unfold zyF257
        simp only [zys182, zys179, true_and, and_true, zqb_t0, Classical.not_not, Bool.not_eq_false, zq_bind, zqb_n0, zqb_e0, decide_eq_true_eq, decide_eq_false_iff_not, ne_eq, zq_eq, Int32.toInt_toInt64, Int32.lt_iff_toInt_lt, Int32.le_iff_toInt_le, zq_l0, zq_lm1, zq_l1, zq_l2, zq_l3, zq_l4, zq_l5, zq_l6, zq_l7, zq_l8, zq_l9, zq_l12, zq_l16, zq_l23, zq_l24, zq_l40, zq_l39, zq_l50, zq_l51, zq_l60, zq_l120, zq_l128, zq_l255, zq_l4095, zq_l4096, zq_j0, zq_j1, zq_j4, zq_j5, zq_j7, zq_j8, zq_j9, zq_j23, zq_j255, zq_j4095]
        rw [if_neg (by omega), if_pos (by omega)]
  · refine ⟨-1, s, s, ?_, ?_, h⟩
    · unfold zyF163
      simp only [zys18, true_and, and_true, zqb_t0, Classical.not_not, Bool.not_eq_false, zq_bind, zqb_n0, zqb_e0, decide_eq_true_eq, decide_eq_false_iff_not, ne_eq, zq_eq, Int32.toInt_toInt64, Int32.lt_iff_toInt_lt, Int32.le_iff_toInt_le, zq_l0, zq_lm1, zq_l1, zq_l2, zq_l3, zq_l4, zq_l5, zq_l6, zq_l7, zq_l8, zq_l9, zq_l12, zq_l16, zq_l23, zq_l24, zq_l40, zq_l39, zq_l50, zq_l51, zq_l60, zq_l120, zq_l128, zq_l255, zq_l4095, zq_l4096, zq_j0, zq_j1, zq_j4, zq_j5, zq_j7, zq_j8, zq_j9, zq_j23, zq_j255, zq_j4095]
      rw [if_pos (by omega)]
    · unfold zyF257
      simp only [zys182, true_and, and_true, zqb_t0, Classical.not_not, Bool.not_eq_false, zq_bind, zqb_n0, zqb_e0, decide_eq_true_eq, decide_eq_false_iff_not, ne_eq, zq_eq, Int32.toInt_toInt64, Int32.lt_iff_toInt_lt, Int32.le_iff_toInt_le, zq_l0, zq_lm1, zq_l1, zq_l2, zq_l3, zq_l4, zq_l5, zq_l6, zq_l7, zq_l8, zq_l9, zq_l12, zq_l16, zq_l23, zq_l24, zq_l40, zq_l39, zq_l50, zq_l51, zq_l60, zq_l120, zq_l128, zq_l255, zq_l4095, zq_l4096, zq_j0, zq_j1, zq_j4, zq_j5, zq_j7, zq_j8, zq_j9, zq_j23, zq_j255, zq_j4095]
      rw [if_pos (by omega)]
end
section
/-! PART 46.1: what a shelf answers; put. Made by wip/v4/gen_put.py. -/
/-- a value, as a row of a sort holds it -/
def zyvs (t : Int32) (v : Int64) : Int64 := if t = 0 then (v.toInt32.toInt8.toInt32).toInt64 else if t = 1 then (v.toInt32.toInt16.toInt32).toInt64 else if t = 2 then (v.toInt32).toInt64 else if t = 3 then v else if lg_cmp v 0 = 0 then 0 else 1
theorem zyvs_fit (t : Int32) (v : Int64) : zfit t (zyvs t v) := by
  constructor
  · intro h
    have e : t = 0 := zq_ext h
    subst e
    unfold zyvs
    rw [if_pos rfl, Int32.toInt_toInt64, Int8.toInt_toInt32]
    exact ⟨Int8.le_toInt _, by have := Int8.toInt_lt (v.toInt32.toInt8); omega⟩
  · intro h
    have e : t = 1 := zq_ext h
    subst e
    unfold zyvs
    rw [if_neg (by decide), if_pos rfl, Int32.toInt_toInt64, Int16.toInt_toInt32]
    exact ⟨Int16.le_toInt _, by have := Int16.toInt_lt (v.toInt32.toInt16); omega⟩
theorem zys169 (c : Nat) (v : Int64) (s : zy_S) : zyF169 c v s = some (zyvs (s.1 c 2) v, s) := by
  unfold zyF169 zyvs
  repeat' split
  all_goals rfl
theorem zys260 {t : Int32} (v : Int64) (s : zy_S) (h : zin t 0 4) : zyF260 t v s = some (zyvs t v, s) := by
  obtain ⟨h0, h1⟩ := h
  unfold zyF260 zyvs
  by_cases a0 : t = 0
  · rw [if_neg (show ¬ (t ≠ 0) from fun q => q a0), if_pos a0]
  rw [if_pos a0, if_neg a0]
  by_cases a1 : t = 1
  · rw [if_neg (show ¬ (t ≠ 1) from fun q => q a1), if_pos a1]
  rw [if_pos a1, if_neg a1]
  by_cases a2 : t = 2
  · rw [if_neg (show ¬ (t ≠ 2) from fun q => q a2), if_pos a2]
  rw [if_pos a2, if_neg a2]
  by_cases a4 : t = 4
  · have a3 : ¬ t = 3 := by rw [a4]; decide
    rw [if_neg (show ¬ (t ≠ 4) from fun q => q a4), if_neg a3]
    split <;> rfl
  · have a3 : t = 3 := by
      rw [zq_eq, zq_l0] at a0
      rw [zq_eq, zq_l1] at a1
      rw [zq_eq, zq_l2] at a2
      rw [zq_eq, zq_l4] at a4
      rw [zq_eq, zq_l3]
      omega
    rw [if_pos a4, if_pos a3]
/-- why a place of a shelf is refused -/
def zyrf (b t n : Int) (y : Int) : Int32 := if t = -1 then (if b = -1 then -11 else -12) else if 0 ≤ y ∧ y < n then 0 else -13
theorem zys167 {c : Nat} (y : Int32) {s : zy_S} (hl : zin (s.1 c 3) 0 60) : zyF167 c y s = some (zyrf (s.1 c 1).toInt (s.1 c 2).toInt (s.1 c 3).toInt y.toInt, s) := by
  obtain ⟨l0, l1⟩ := id hl
  unfold zyF167 zyrf
  simp only [zys19, zys20, zys23 c y 1 s hl, true_and, and_true, zqb_t0, Classical.not_not, Bool.not_eq_false, zq_bind, zqb_n0, zqb_e0, decide_eq_true_eq, decide_eq_false_iff_not, ne_eq, zq_eq, Int32.toInt_toInt64, Int32.lt_iff_toInt_lt, Int32.le_iff_toInt_le, zq_l0, zq_lm1, zq_l1, zq_l2, zq_l3, zq_l4, zq_l5, zq_l6, zq_l7, zq_l8, zq_l9, zq_l12, zq_l16, zq_l23, zq_l24, zq_l40, zq_l39, zq_l50, zq_l51, zq_l60, zq_l120, zq_l128, zq_l255, zq_l4095, zq_l4096, zq_j0, zq_j1, zq_j4, zq_j5, zq_j7, zq_j8, zq_j9, zq_j23, zq_j255, zq_j4095]
  by_cases ht : (s.1 c 2).toInt = -1
  · rw [if_pos ht]
    by_cases hb : (s.1 c 1).toInt = -1
    · rw [if_pos hb, if_neg (by omega)]
    · rw [if_neg hb, if_pos (by omega), if_neg (by omega)]
  · rw [if_neg ht, if_pos (by omega), if_pos (by omega)]
    by_cases hy : 0 ≤ y.toInt ∧ y.toInt < (s.1 c 3).toInt
    · rw [if_pos hy, if_neg (by omega)]
    · rw [if_neg hy, if_pos (by omega)]
theorem zys259 {x : Int32} (y : Int32) {s : zy_S} (h : zR20 s) (hn : (s.1 27 2).toInt ≤ 50) (hx : 0 ≤ x.toInt ∧ x.toInt ≤ 5) : zyF259 x y s = some (zyrf (s.1 (zy_sh x.toNatClampNeg) 1).toInt (s.1 (zy_sh x.toNatClampNeg) 2).toInt (s.1 (zy_sh x.toNatClampNeg) 3).toInt y.toInt, s) := by
  obtain ⟨hin, hd, hxd⟩ := zx6 hx
  obtain ⟨e1, ⟨n0, n1⟩, e2⟩ := h _ hd
  unfold zyF259 zyrf
  simp only [zys182, true_and, and_true, zqb_t0, Classical.not_not, Bool.not_eq_false, zq_bind, zqb_n0, zqb_e0, decide_eq_true_eq, decide_eq_false_iff_not, ne_eq, zq_eq, Int32.toInt_toInt64, Int32.lt_iff_toInt_lt, Int32.le_iff_toInt_le, zq_l0, zq_lm1, zq_l1, zq_l2, zq_l3, zq_l4, zq_l5, zq_l6, zq_l7, zq_l8, zq_l9, zq_l12, zq_l16, zq_l23, zq_l24, zq_l40, zq_l39, zq_l50, zq_l51, zq_l60, zq_l120, zq_l128, zq_l255, zq_l4095, zq_l4096, zq_j0, zq_j1, zq_j4, zq_j5, zq_j7, zq_j8, zq_j9, zq_j23, zq_j255, zq_j4095]
  rw [if_pos hx, if_pos hin]
  rw [← e1]
  rcases e2 with ⟨t, hb, b0, b1, hn0⟩ | ⟨⟨t0, t1⟩, b, hh⟩
  · rw [if_pos t, ← hb]
    by_cases hb' : (s.1 (zy_sh x.toNatClampNeg) 1).toInt = -1
    · rw [if_pos hb', if_neg (by omega)]
    · rw [if_neg hb', if_pos (by omega), if_pos hin, if_neg (by omega)]
  · rw [if_pos (by omega), if_pos hin, if_pos (by omega), if_neg (show ¬ (s.1 (zy_sh x.toNatClampNeg) 2).toInt = -1 by omega)]
    by_cases hy : 0 ≤ y.toInt ∧ y.toInt < (s.1 (zy_sh x.toNatClampNeg) 3).toInt
    · rw [if_pos hy, if_neg (by omega), if_pos hin, if_neg (by omega)]
    · rw [if_neg hy]
      by_cases hy0 : y.toInt < 0
      · rw [if_pos hy0]
      · rw [if_neg hy0, if_pos hin, if_pos (by omega)]
theorem zyrf_r {b t n y : Int} (h : zyrf b t n y = 0) : t ≠ -1 ∧ 0 ≤ y ∧ y < n := by
  unfold zyrf at h
  split at h
  · split at h <;> exact absurd h (by decide)
  · split at h
    · next q1 q2 => exact ⟨q1, q2⟩
    · exact absurd h (by decide)
theorem zop_put (x y : Int32) (v : Int64) {s : zy_S} (h : zI s) : ∃ r s1 s2, zyF166 x y v s = some (r, s1) ∧ zyF258 x y v s1 = some (r, s2) ∧ zI s2 := by
  obtain ⟨hw, hg, h1, h2, h3, h4, h5, h6, h7, h8, h9, h10, h11, h12, h13, h14, h15, h16, h17, h18, h19, h20, h21⟩ := id h
  obtain ⟨e14, b0, b1⟩ := id h14
  by_cases hx : 0 ≤ x.toInt ∧ x.toInt ≤ 5
  · obtain ⟨hin, hd, hxd⟩ := zx6 hx
    obtain ⟨d, hdd⟩ : ∃ d, d = x.toNatClampNeg := ⟨_, rfl⟩
    rw [← hdd] at hd hxd
    obtain ⟨q1, ⟨n0, n1⟩, q3⟩ := h20 d hd
    obtain ⟨r, hr⟩ : ∃ r, r = zyrf (s.1 (zy_sh d) 1).toInt (s.1 (zy_sh d) 2).toInt (s.1 (zy_sh d) 3).toInt y.toInt := ⟨_, rfl⟩
    have k1 : ∀ s' : zy_S, s'.1 = s.1 → zyF167 (zy_sh d) y s' = some (r, s') := by
      intro s' e
      have := zys167 (c := zy_sh d) y (s := s') (by rw [e]; exact ⟨n0, n1⟩)
      rw [e, ← hr] at this
      exact this
    have k2 : ∀ s' : zy_S, s'.1 = s.1 → zyF259 x y s' = some (r, s') := by
      intro s' e
      have := zys259 (x := x) y (s := s') (by unfold zR20; rw [e]; exact h20) (by rw [e]; exact b1) hx
      rw [e, ← hdd, ← hr] at this
      exact this
    by_cases hr0 : r = 0
    · obtain ⟨t1, y0, y1⟩ := zyrf_r (hr.symm.trans hr0)
      have ht : zin (s.1 (zy_sh d) 2) 0 4 ∧ (s.1 60 d).toInt = 50 + (s.1 (zy_sh d) 2).toInt := by
        rcases q3 with ⟨t, -⟩ | ⟨t, -, hh⟩
        · exact absurd t t1
        · exact ⟨t, hh⟩
      obtain ⟨⟨t2, t3⟩, t4⟩ := ht
      have et : s.1 60 d - 50 = s.1 (zy_sh d) 2 := zq_ext (by rw [zq_sub (by rw [zq_l50]; omega) (by rw [zq_l50]; omega), zq_l50]; omega)
      have hyin : zy_in y 60 = true := zq_in.mpr ⟨y0, by omega⟩
      have em : ((60 : Int32) * x).toInt = 60 * (d : Int) := by rw [zq_mul (by rw [zq_l60, hxd]; omega) (by rw [zq_l60, hxd]; omega), zq_l60, hxd]
      have ea : ((60 : Int32) * x + y).toInt = 60 * (d : Int) + y.toInt := by rw [zq_add (by rw [em]; omega) (by rw [em]; omega), em]
      have hain : zy_in ((60 : Int32) * x + y) 360 = true := zq_in.mpr ⟨by omega, by omega⟩
      have ey : (y.toNatClampNeg : Int) = y.toInt := by rw [zq_ix]; omega
      have eai : ((60 : Int32) * x + y).toNatClampNeg = 60 * d + y.toNatClampNeg := by rw [zq_ix, ea]; omega
      obtain ⟨w, hw'⟩ : ∃ w, w = zyvs (s.1 (zy_sh d) 2) v := ⟨_, rfl⟩
      have n62 : ∀ d', d' < 6 → zy_sh d' + 1 ≠ 62 := fun d' g => by unfold zy_sh; omega
      refine ⟨1, zy_uj s (zy_sh d + 1) y.toNatClampNeg w, zy_uj (zy_uj s (zy_sh d + 1) y.toNatClampNeg w) 62 (60 * d + y.toNatClampNeg) w, ?_, ?_, ?_⟩
      · unfold zyF166
        simp only [zys18, zq_bind, zqb_n0, decide_eq_true_eq]
        rw [if_pos hx, if_pos hin, if_pos hw, ← hdd, k1 s rfl]
        simp only [zq_bind]
        rw [if_neg (show ¬ (r ≠ 0) from fun q => q hr0), if_pos hin, if_pos hw]
        unfold zyF168
        simp only [zys169, zq_bind]
        rw [if_pos hyin]
        simp only [zq_bind]
        unfold zyF166_37
        rw [if_neg (show ¬ (r ≠ 0) from fun q => q hr0), hw']
      · unfold zyF258
        rw [k2 (zy_uj s (zy_sh d + 1) y.toNatClampNeg w) rfl]
        simp only [zq_bind]
        rw [if_neg (show ¬ (r ≠ 0) from fun q => q hr0), if_pos hin, ← hdd]
        show (zyF260 (s.1 60 d - 50) v _).bind _ = _
        rw [et, zys260 v _ ⟨t2, t3⟩]
        simp only [zq_bind]
        rw [if_pos hain, eai]
        unfold zyF258_37
        rw [if_neg (show ¬ (r ≠ 0) from fun q => q hr0), hw']
      · refine zI_sh1 h hd (zRg_uj (zRg_uj hg)) rfl (fun c k _ _ _ => rfl) (h20 d hd) ?_ ?_ ?_
        · intro d' j hd' q
          rw [zy_uj_at, if_neg (fun u => n62 d' hd' u.1), zy_uj_at, if_neg (fun u => q (zsh_inj (by omega)))]
        · intro d' j hd' q hj
          rw [zy_uj_at, if_neg (fun u => by omega), zy_uj_at, if_neg (fun u => n62 d hd u.1.symm)]
        · intro j hj
          obtain ⟨g1, g2⟩ := h21 d hd j hj
          have a1 : (zy_uj (zy_uj s (zy_sh d + 1) y.toNatClampNeg w) 62 (60 * d + y.toNatClampNeg) w).2.1 (zy_sh d + 1) j = if j = y.toNatClampNeg then w else s.2.1 (zy_sh d + 1) j := by
            rw [zy_uj_at, if_neg (fun u => n62 d hd u.1), zy_uj_at]
            by_cases e : j = y.toNatClampNeg
            · rw [if_pos ⟨rfl, e⟩, if_pos e]
            · rw [if_neg (fun u => e u.2), if_neg e]
          have a2 : (zy_uj (zy_uj s (zy_sh d + 1) y.toNatClampNeg w) 62 (60 * d + y.toNatClampNeg) w).2.1 62 (60 * d + j) = if j = y.toNatClampNeg then w else s.2.1 62 (60 * d + j) := by
            rw [zy_uj_at]
            by_cases e : j = y.toNatClampNeg
            · rw [if_pos ⟨rfl, by omega⟩, if_pos e]
            · rw [if_neg (fun u => e (by omega)), if_neg e, zy_uj_at, if_neg (fun u => n62 d hd u.1.symm)]
          rw [a1, a2]
          by_cases e : j = y.toNatClampNeg
          · rw [if_pos e, if_pos e]
            exact ⟨rfl, by rw [hw']; exact zyvs_fit _ _⟩
          · rw [if_neg e, if_neg e]
            exact ⟨g1, g2⟩
    · refine ⟨r, s, s, ?_, ?_, h⟩
      · unfold zyF166
        simp only [zys18, zq_bind, zqb_n0, decide_eq_true_eq]
        rw [if_pos hx, if_pos hin, if_pos hw, ← hdd, k1 s rfl]
        simp only [zq_bind]
        rw [if_pos hr0]
        unfold zyF166_37
        rw [if_pos hr0]
      · unfold zyF258
        rw [k2 _ rfl]
        simp only [zq_bind]
        rw [if_pos hr0]
        unfold zyF258_37
        rw [if_pos hr0]
  · refine ⟨-1, s, s, ?_, ?_, h⟩
    · unfold zyF166
      simp only [zys18, zq_bind, zqb_n0, decide_eq_true_eq]
      rw [if_neg hx]
    · have k3 : zyF259 x y s = some (-1, s) := by
        unfold zyF259
        simp only [zys182, zq_bind, zqb_n0, decide_eq_true_eq]
        rw [if_neg hx]
      unfold zyF258
      rw [k3]
      simp only [zq_bind]
      rw [if_pos (by decide)]
      unfold zyF258_37
      rw [if_pos (by decide)]
end
section
/-! PART 46.2: the town; person. Made by wip/v4/gen_town.py. -/
theorem zys14_0 (x : Int32) (s : zy_S) : zyF14 0 x s = some (zqb (decide (0 ≤ x.toInt ∧ x.toInt ≤ 4095)), s) := by
  unfold zyF14
  rw [if_pos rfl]
  simp only [ne_eq, zq_eq, Int32.lt_iff_toInt_lt, Int32.le_iff_toInt_le, zq_l0, zq_lm1, zq_l1, zq_l2, zq_l3, zq_l4, zq_l5, zq_l6, zq_l7, zq_l8, zq_l9, zq_l12, zq_l16, zq_l23, zq_l24, zq_l40, zq_l39, zq_l50, zq_l51, zq_l60, zq_l120, zq_l128, zq_l255, zq_l4095, zq_l4096]
  refine zqb_d (x := 0) (fun h => ?_) (fun h => ?_)
  all_goals
    repeat' split
  all_goals first | rfl | (exfalso; omega)
theorem zys14_1 (x : Int32) (s : zy_S) : zyF14 1 x s = some (zqb (decide (0 ≤ x.toInt ∧ x.toInt ≤ 9)), s) := by
  unfold zyF14
  rw [if_neg (by decide), if_pos rfl]
  simp only [ne_eq, zq_eq, Int32.lt_iff_toInt_lt, Int32.le_iff_toInt_le, zq_l0, zq_lm1, zq_l1, zq_l2, zq_l3, zq_l4, zq_l5, zq_l6, zq_l7, zq_l8, zq_l9, zq_l12, zq_l16, zq_l23, zq_l24, zq_l40, zq_l39, zq_l50, zq_l51, zq_l60, zq_l120, zq_l128, zq_l255, zq_l4095, zq_l4096]
  refine zqb_d (x := 0) (fun h => ?_) (fun h => ?_)
  all_goals
    repeat' split
  all_goals first | rfl | (exfalso; omega)
theorem zys14_2 (x : Int32) (s : zy_S) : zyF14 2 x s = some (zqb (decide (0 ≤ x.toInt ∧ x.toInt ≤ 9)), s) := by
  unfold zyF14
  rw [if_neg (by decide), if_neg (by decide), if_pos rfl]
  simp only [ne_eq, zq_eq, Int32.lt_iff_toInt_lt, Int32.le_iff_toInt_le, zq_l0, zq_lm1, zq_l1, zq_l2, zq_l3, zq_l4, zq_l5, zq_l6, zq_l7, zq_l8, zq_l9, zq_l12, zq_l16, zq_l23, zq_l24, zq_l40, zq_l39, zq_l50, zq_l51, zq_l60, zq_l120, zq_l128, zq_l255, zq_l4095, zq_l4096]
  refine zqb_d (x := 0) (fun h => ?_) (fun h => ?_)
  all_goals
    repeat' split
  all_goals first | rfl | (exfalso; omega)
theorem zys14_3 (x : Int32) (s : zy_S) : zyF14 3 x s = some (zqb (decide (1 ≤ x.toInt ∧ x.toInt ≤ 9)), s) := by
  unfold zyF14
  rw [if_neg (by decide), if_neg (by decide), if_neg (by decide), if_pos rfl]
  simp only [ne_eq, zq_eq, Int32.lt_iff_toInt_lt, Int32.le_iff_toInt_le, zq_l0, zq_lm1, zq_l1, zq_l2, zq_l3, zq_l4, zq_l5, zq_l6, zq_l7, zq_l8, zq_l9, zq_l12, zq_l16, zq_l23, zq_l24, zq_l40, zq_l39, zq_l50, zq_l51, zq_l60, zq_l120, zq_l128, zq_l255, zq_l4095, zq_l4096]
  refine zqb_d (x := 0) (fun h => ?_) (fun h => ?_)
  all_goals
    repeat' split
  all_goals first | rfl | (exfalso; omega)
theorem zRow_mono {pe pe' w n b a q c e : Int32} (h : zRow pe w n b a q c e) (hp : pe.toInt ≤ pe'.toInt) : zRow pe' w n b a q c e := by
  obtain ⟨e1, e2, h⟩ := h
  refine ⟨e1, e2, ?_⟩
  rcases h with ⟨a1, a2, a3, a4⟩ | ⟨a1, a2, a3, a4⟩ | h
  · exact Or.inl ⟨a1, a2, by omega, a4⟩
  · exact Or.inr (Or.inl ⟨a1, a2, by omega, a4⟩)
  · exact Or.inr (Or.inr h)
theorem zrg_tw : zrg 1 5 = (0, 8) ∧ zrg 43 6 = (0, 8) ∧ zrg 1 3 = (0, 16777215) ∧ zrg 43 7 = (0, 16777215) := by decide +kernel
theorem zrg_fu : (∀ k, k < 8 → zrg 3 k = (-2147483648, 2147483647)) ∧ (∀ k, k < 8 → zrg 4 k = (-2147483648, 2147483647)) ∧ (∀ k, k < 24 → zrg 2 k = (-2147483648, 2147483647)) ∧ zrg 1 4 = (-2147483648, 2147483647) ∧ (∀ k, k < 41 → zrg 44 k = if k = 40 then (1, 9) else (-2147483648, 2147483647)) := by decide +kernel
theorem zin_full (x : Int32) : zin x (-2147483648) 2147483647 := ⟨zq_lo x, zq_hi x⟩
theorem zI_adds {s : zy_S} (h : zI s) {x y : Int32} (hx : 0 ≤ x.toInt ∧ x.toInt ≤ 4095) (hy : zin y 0 9) {p : Nat} (hpp : p = (s.1 1 5).toNatClampNeg) (hp : ¬ 8 ≤ (s.1 1 5).toInt) : zI (zy_up (zy_up (zy_up (zy_up (zy_up (zy_up s 3 p x) 4 p y) 1 5 (s.1 1 5 + 1)) 44 p x) 44 (8 + p) y) 43 6 (s.1 1 5 + 1)) := by
  obtain ⟨hw, hg, h1, h2, h3, h4, h5, h6, h7, h8, h9, h10, h11, h12, h13, h14, h15, h16, h17, h18, h19, h20, h21⟩ := id h
  obtain ⟨e1, p0, p1⟩ := id h1
  have ep : (p : Int) = (s.1 1 5).toInt := by rw [hpp, zq_ix]; omega
  have hp8 : p < 8 := by omega
  have en : (s.1 1 5 + 1).toInt = (s.1 1 5).toInt + 1 := zq_add (by rw [zq_l1]; omega) (by rw [zq_l1]; omega)
  obtain ⟨r1, r2, -, -⟩ := zrg_tw
  obtain ⟨f1, f2, f3, f4, f5⟩ := zrg_fu
  have a3 : ∀ q, (zy_up (zy_up (zy_up (zy_up (zy_up (zy_up s 3 p x) 4 p y) 1 5 (s.1 1 5 + 1)) 44 p x) 44 (8 + p) y) 43 6 (s.1 1 5 + 1)).1 3 q = if q = p then x else s.1 3 q := by
    intro q
    rw [zf_up (by decide), zf_up (by decide), zf_up (by decide), zf_up (by decide), zf_up (by decide), zf_upr]
  have a4 : ∀ q, (zy_up (zy_up (zy_up (zy_up (zy_up (zy_up s 3 p x) 4 p y) 1 5 (s.1 1 5 + 1)) 44 p x) 44 (8 + p) y) 43 6 (s.1 1 5 + 1)).1 4 q = if q = p then y else s.1 4 q := by
    intro q
    rw [zf_up (by decide), zf_up (by decide), zf_up (by decide), zf_up (by decide), zf_upr, zf_up (by decide)]
  have a44 : ∀ q, (zy_up (zy_up (zy_up (zy_up (zy_up (zy_up s 3 p x) 4 p y) 1 5 (s.1 1 5 + 1)) 44 p x) 44 (8 + p) y) 43 6 (s.1 1 5 + 1)).1 44 q = if q = 8 + p then y else if q = p then x else s.1 44 q := by
    intro q
    rw [zf_up (by decide), zf_upr, zf_upr, zf_up (by decide), zf_up (by decide), zf_up (by decide)]
  refine ⟨hw, ?_, ?_, ?_, ?_, ?_, ?_, h6, h7, ?_, h9, h10, h11, h12, ?_, h14, h15, h16, h17, h18, h19, (zR20_of h20 rfl (fun d hd k => by rw [zf_sh (by decide) hd, zf_sh (by decide) hd, zf_sh (by decide) hd, zf_sh (by decide) hd, zf_sh (by decide) hd, zf_sh (by decide) hd]) (fun d hd => rfl) (fun d hd => rfl)), (zR21_of h21 (fun d hd k => by rw [zf_sh (by decide) hd, zf_sh (by decide) hd, zf_sh (by decide) hd, zf_sh (by decide) hd, zf_sh (by decide) hd, zf_sh (by decide) hd]) rfl)⟩
  · have hn : zin (s.1 1 5 + 1) 0 8 := ⟨by omega, by omega⟩
    refine zRg_upF (zRg_upF (zRg_upF (zRg_upF (zRg_upF (zRg_upF hg (f1 p hp8) (zin_full _)) (f2 p hp8) (zin_full _)) r1 hn) ?_ (zin_full _)) ?_ (zin_full _)) r2 hn
    · rw [f5 p (by omega), if_neg (by omega)]
    · rw [f5 (8 + p) (by omega), if_neg (by omega)]
  · exact ⟨rfl, show zin (s.1 1 5 + 1) 0 8 from ⟨by omega, by omega⟩⟩
  · intro q hq
    have g := h2 q hq
    rw [a3, a44]
    by_cases e : q = p
    · rw [if_pos e, if_neg (by omega), if_pos e]
      exact ⟨rfl, hx⟩
    · rw [if_neg e, if_neg (by omega), if_neg e]
      exact g
  · intro q hq
    have g := h3 q hq
    rw [a4, a44]
    by_cases e : q = p
    · rw [if_pos e, if_pos (by omega)]
      exact ⟨rfl, hy⟩
    · rw [if_neg e, if_neg (by omega), if_neg (by omega)]
      exact g
  · intro q hq
    have g := h4 q hq
    rw [a44, if_neg (by omega), if_neg (by omega)]
    exact g
  · have g := h5
    unfold zR5 at g ⊢
    rw [a44, if_neg (by omega), if_neg (by omega)]
    exact g
  · obtain ⟨g1, g2, g3, g4, g5⟩ := h8
    refine ⟨g1, g2, g3, g4, ?_⟩
    show (s.1 17 4).toInt ≤ (s.1 1 5 + 1).toInt
    omega
  · intro q hq
    exact zRow_mono (h13 q hq) (show (s.1 1 5).toInt ≤ (s.1 1 5 + 1).toInt by omega)
theorem zop_person (x : Int32) {s : zy_S} (h : zI s) : ∃ r s1 s2, zyF13 x s = some (r, s1) ∧ zyF178 x s1 = some (r, s2) ∧ zI s2 := by
  obtain ⟨hw, hg, h1, h2, h3, h4, h5, h6, h7, h8, h9, h10, h11, h12, h13, h14, h15, h16, h17, h18, h19, h20, h21⟩ := id h
  obtain ⟨e1, p0, p1⟩ := id h1
  by_cases hx : 0 ≤ x.toInt ∧ x.toInt ≤ 4095
  · by_cases hp : 8 ≤ (s.1 1 5).toInt
    · refine ⟨-3, s, s, ?_, ?_, h⟩
      · unfold zyF13
        simp only [zys14_0, zys15, true_and, and_true, zqb_t0, Classical.not_not, Bool.not_eq_false, zq_bind, zqb_n0, zqb_e0, decide_eq_true_eq, decide_eq_false_iff_not, ne_eq, zq_eq, Int32.toInt_toInt64, Int32.lt_iff_toInt_lt, Int32.le_iff_toInt_le, zq_l0, zq_lm1, zq_l1, zq_l2, zq_l3, zq_l4, zq_l5, zq_l6, zq_l7, zq_l8, zq_l9, zq_l12, zq_l16, zq_l23, zq_l24, zq_l40, zq_l39, zq_l50, zq_l51, zq_l60, zq_l120, zq_l128, zq_l255, zq_l4095, zq_l4096, zq_j0, zq_j1, zq_j4, zq_j5, zq_j7, zq_j8, zq_j9, zq_j23, zq_j255, zq_j4095]
        rw [if_pos hx, if_neg (by omega)]
      · unfold zyF178
        simp only [zys179, ← e1, true_and, and_true, zqb_t0, Classical.not_not, Bool.not_eq_false, zq_bind, zqb_n0, zqb_e0, decide_eq_true_eq, decide_eq_false_iff_not, ne_eq, zq_eq, Int32.toInt_toInt64, Int32.lt_iff_toInt_lt, Int32.le_iff_toInt_le, zq_l0, zq_lm1, zq_l1, zq_l2, zq_l3, zq_l4, zq_l5, zq_l6, zq_l7, zq_l8, zq_l9, zq_l12, zq_l16, zq_l23, zq_l24, zq_l40, zq_l39, zq_l50, zq_l51, zq_l60, zq_l120, zq_l128, zq_l255, zq_l4095, zq_l4096, zq_j0, zq_j1, zq_j4, zq_j5, zq_j7, zq_j8, zq_j9, zq_j23, zq_j255, zq_j4095]
        rw [if_pos hx, if_neg (by omega)]
    · obtain ⟨p, hpp⟩ : ∃ p, p = (s.1 1 5).toNatClampNeg := ⟨_, rfl⟩
      have ep : (p : Int) = (s.1 1 5).toInt := by rw [hpp, zq_ix]; omega
      have hp8 : p < 8 := by omega
      have en : (s.1 1 5 + 1).toInt = (s.1 1 5).toInt + 1 := zq_add (by rw [zq_l1]; omega) (by rw [zq_l1]; omega)
      have e8 : ((8 : Int32) + s.1 1 5).toInt = 8 + (s.1 1 5).toInt := by rw [zq_add (by rw [zq_l8]; omega) (by rw [zq_l8]; omega), zq_l8]
      have e8n : ((8 : Int32) + s.1 1 5).toNatClampNeg = 8 + p := by rw [zq_ix, e8]; omega
      have em : s.1 1 5 + 1 - 1 = s.1 1 5 := zq_ext (by rw [zq_sub (by rw [zq_l1]; omega) (by rw [zq_l1]; omega), zq_l1]; omega)
      have hin : zy_in (s.1 1 5) 8 = true := zq_in.mpr ⟨p0, by omega⟩
      have hin41 : zy_in (s.1 1 5) 41 = true := zq_in.mpr ⟨p0, by omega⟩
      have hin8 : zy_in ((8 : Int32) + s.1 1 5) 41 = true := zq_in.mpr ⟨by omega, by omega⟩
      refine ⟨s.1 1 5, zy_up (zy_up (zy_up s 3 p x) 4 p 1) 1 5 (s.1 1 5 + 1), zy_up (zy_up (zy_up (zy_up (zy_up (zy_up s 3 p x) 4 p 1) 1 5 (s.1 1 5 + 1)) 44 p x) 44 (8 + p) 1) 43 6 (s.1 1 5 + 1), ?_, ?_, ?_⟩
      · unfold zyF13 zyF16
        simp only [zys14_0, zys15, true_and, and_true, zqb_t0, Classical.not_not, Bool.not_eq_false, zq_bind, zqb_n0, zqb_e0, decide_eq_true_eq, decide_eq_false_iff_not, ne_eq, zq_eq, Int32.toInt_toInt64, Int32.lt_iff_toInt_lt, Int32.le_iff_toInt_le, zq_l0, zq_lm1, zq_l1, zq_l2, zq_l3, zq_l4, zq_l5, zq_l6, zq_l7, zq_l8, zq_l9, zq_l12, zq_l16, zq_l23, zq_l24, zq_l40, zq_l39, zq_l50, zq_l51, zq_l60, zq_l120, zq_l128, zq_l255, zq_l4095, zq_l4096, zq_j0, zq_j1, zq_j4, zq_j5, zq_j7, zq_j8, zq_j9, zq_j23, zq_j255, zq_j4095]
        rw [if_pos hx, if_pos (by omega), if_pos hin, if_pos hin, ← hpp]
        rfl
      · have o1 : (zy_up (zy_up (zy_up s 3 p x) 4 p 1) 1 5 (s.1 1 5 + 1)).1 43 6 = s.1 1 5 := e1.symm
        have k : zyF180 x 1 (zy_up (zy_up (zy_up s 3 p x) 4 p 1) 1 5 (s.1 1 5 + 1)) = some (0, zy_up (zy_up (zy_up (zy_up (zy_up (zy_up s 3 p x) 4 p 1) 1 5 (s.1 1 5 + 1)) 44 p x) 44 (8 + p) 1) 43 6 (s.1 1 5 + 1)) := by
          unfold zyF180
          rw [o1, if_pos hin41, if_pos hin8, e8n, ← hpp]
        unfold zyF178
        simp only [zys179, o1, true_and, and_true, zqb_t0, Classical.not_not, Bool.not_eq_false, zq_bind, zqb_n0, zqb_e0, decide_eq_true_eq, decide_eq_false_iff_not, ne_eq, zq_eq, Int32.toInt_toInt64, Int32.lt_iff_toInt_lt, Int32.le_iff_toInt_le, zq_l0, zq_lm1, zq_l1, zq_l2, zq_l3, zq_l4, zq_l5, zq_l6, zq_l7, zq_l8, zq_l9, zq_l12, zq_l16, zq_l23, zq_l24, zq_l40, zq_l39, zq_l50, zq_l51, zq_l60, zq_l120, zq_l128, zq_l255, zq_l4095, zq_l4096, zq_j0, zq_j1, zq_j4, zq_j5, zq_j7, zq_j8, zq_j9, zq_j23, zq_j255, zq_j4095]
        rw [if_pos hx, if_pos (by omega), k, zq_bind]
        show some (s.1 1 5 + 1 - 1, _) = _
        rw [em]
      · exact zI_adds h hx ⟨by decide, by decide⟩ hpp hp
  · refine ⟨-1, s, s, ?_, ?_, h⟩
    · unfold zyF13
      simp only [zys14_0, true_and, and_true, zqb_t0, Classical.not_not, Bool.not_eq_false, zq_bind, zqb_n0, zqb_e0, decide_eq_true_eq, decide_eq_false_iff_not, ne_eq, zq_eq, Int32.toInt_toInt64, Int32.lt_iff_toInt_lt, Int32.le_iff_toInt_le, zq_l0, zq_lm1, zq_l1, zq_l2, zq_l3, zq_l4, zq_l5, zq_l6, zq_l7, zq_l8, zq_l9, zq_l12, zq_l16, zq_l23, zq_l24, zq_l40, zq_l39, zq_l50, zq_l51, zq_l60, zq_l120, zq_l128, zq_l255, zq_l4095, zq_l4096, zq_j0, zq_j1, zq_j4, zq_j5, zq_j7, zq_j8, zq_j9, zq_j23, zq_j255, zq_j4095]
      rw [if_neg hx]
    · unfold zyF178
      simp only [zys179, true_and, and_true, zqb_t0, Classical.not_not, Bool.not_eq_false, zq_bind, zqb_n0, zqb_e0, decide_eq_true_eq, decide_eq_false_iff_not, ne_eq, zq_eq, Int32.toInt_toInt64, Int32.lt_iff_toInt_lt, Int32.le_iff_toInt_le, zq_l0, zq_lm1, zq_l1, zq_l2, zq_l3, zq_l4, zq_l5, zq_l6, zq_l7, zq_l8, zq_l9, zq_l12, zq_l16, zq_l23, zq_l24, zq_l40, zq_l39, zq_l50, zq_l51, zq_l60, zq_l120, zq_l128, zq_l255, zq_l4095, zq_l4096, zq_j0, zq_j1, zq_j4, zq_j5, zq_j7, zq_j8, zq_j9, zq_j23, zq_j255, zq_j4095]
      rw [if_neg hx]
end
section
/-! PART 46.3: the journals of changes. Made by wip/v4/gen_mend.py. -/
/-- where a new change is written, and how far the others move -/
def zju (u : Int32) : Nat := if u.toInt = 40 then 39 else u.toNatClampNeg
def zjs (u : Int32) : Nat := if u.toInt = 40 then 1 else 0
/-- the class's journal with one change more -/
def zJC (w n b a : Int32) (s t : zy_S) : Prop := t.2 = s.2 ∧ (∀ c k, c ≠ 22 → c ≠ 23 → c ≠ 24 → c ≠ 25 → c ≠ 26 → t.1 c k = s.1 c k) ∧ (∀ k, k < 5 → t.1 22 k = s.1 22 k) ∧
  (t.1 22 5).toInt = zju (s.1 22 5) + 1 ∧ (t.1 22 6).toInt = zju (s.1 22 5) + 1 ∧
  ∀ p, p ≤ zju (s.1 22 5) → (t.1 23 p = if p = zju (s.1 22 5) then w else s.1 23 (p + zjs (s.1 22 5))) ∧ (t.1 24 p = if p = zju (s.1 22 5) then n else s.1 24 (p + zjs (s.1 22 5))) ∧
    (t.1 25 p = if p = zju (s.1 22 5) then b else s.1 25 (p + zjs (s.1 22 5))) ∧ (t.1 26 p = if p = zju (s.1 22 5) then a else s.1 26 (p + zjs (s.1 22 5)))
theorem zys29_13 (w n b a : Int32) {s : zy_S} {u : Nat} (h : (s.1 22 5).toInt = (u : Int)) (hu : u < 40) : ∃ t, zyF29_13 w n b a s = some (0, t) ∧ t.2 = s.2 ∧ (∀ c k, c ≠ 22 → c ≠ 23 → c ≠ 24 → c ≠ 25 → c ≠ 26 → t.1 c k = s.1 c k) ∧ (∀ k, k < 5 → t.1 22 k = s.1 22 k) ∧
    (t.1 22 5).toInt = u + 1 ∧ (t.1 22 6).toInt = u + 1 ∧ ∀ p, (t.1 23 p = if p = u then w else s.1 23 p) ∧ (t.1 24 p = if p = u then n else s.1 24 p) ∧ (t.1 25 p = if p = u then b else s.1 25 p) ∧ (t.1 26 p = if p = u then a else s.1 26 p) := by
  have hin : zy_in (s.1 22 5) 40 = true := zq_in.mpr ⟨by omega, by omega⟩
  have eu : (s.1 22 5).toNatClampNeg = u := by rw [zq_ix]; omega
  have en : (s.1 22 5 + 1).toInt = u + 1 := by rw [zq_add (by rw [zq_l1]; omega) (by rw [zq_l1]; omega), zq_l1, h]
  unfold zyF29_13
  rw [if_pos hin, if_pos hin, if_pos hin, if_pos hin, eu]
  refine ⟨_, rfl, rfl, ?_, ?_, ?_, ?_, ?_⟩
  · intro c k a1 a2 a3 a4 a5
    rw [zf_up a1, zf_up a1, zf_up a5, zf_up a4, zf_up a3, zf_up a2]
  · intro k hk
    rw [zf_upk (by omega), zf_upk (by omega), zf_up (by decide), zf_up (by decide), zf_up (by decide), zf_up (by decide)]
  · rw [zf_upk (by decide), zf_upe]; exact en
  · rw [zf_upe]; exact en
  · intro p
    refine ⟨?_, ?_, ?_, ?_⟩ <;> simp [zy_up_at, zy_ua_at]
theorem zys29 (w n b a : Int32) {s : zy_S} (h0 : 0 ≤ (s.1 22 5).toInt) (h1 : (s.1 22 5).toInt ≤ 40) : ∃ t, zyF29 w n b a s = some (0, t) ∧ zJC w n b a s t := by
  unfold zyF29
  by_cases hu : (s.1 22 5).toInt = 40
  · have hz : zju (s.1 22 5) = 39 ∧ zjs (s.1 22 5) = 1 := ⟨if_pos hu, if_pos hu⟩
    rw [if_neg (by rw [Int32.lt_iff_toInt_lt, zq_l40]; omega)]
    unfold zyF30
    rw [zq_bind]
    obtain ⟨t, g0, g1, g2, g3, g4, g5, g6⟩ := zys29_13 w n b a (s := zy_up (zy_ua (zy_ua (zy_ua (zy_ua s 23 (va_cpy (s.1 23) (s.1 23) 1 0 39)) 24 (va_cpy (s.1 24) (s.1 24) 1 0 39)) 25 (va_cpy (s.1 25) (s.1 25) 1 0 39)) 26 (va_cpy (s.1 26) (s.1 26) 1 0 39)) 22 5 39) (u := 39) (by rw [zf_upe]; rfl) (by decide)
    refine ⟨t, g0, g1, ?_, ?_, ?_, ?_, ?_⟩
    · intro c k a1 a2 a3 a4 a5
      rw [g2 c k a1 a2 a3 a4 a5, zf_up a1, zy_ua_at, if_neg a5, zy_ua_at, if_neg a4, zy_ua_at, if_neg a3, zy_ua_at, if_neg a2]
    · intro k hk
      rw [g3 k hk, zf_upk (by omega)]
      rfl
    · rw [g4, hz.1]
    · rw [g5, hz.1]
    · intro p hp
      rw [hz.1] at hp ⊢
      rw [hz.2]
      obtain ⟨q1, q2, q3, q4⟩ := g6 p
      rw [q1, q2, q3, q4]
      refine ⟨?_, ?_, ?_, ?_⟩
      all_goals
        by_cases e : p = 39
        · rw [if_pos e, if_pos e]
        · rw [if_neg e, if_neg e]
          simp [zy_up_at, zy_ua_at]
          unfold va_cpy
          rw [if_pos (by omega), show 1 + (p - 0) = p + 1 by omega]
  · have hz : zju (s.1 22 5) = (s.1 22 5).toNatClampNeg ∧ zjs (s.1 22 5) = 0 := ⟨if_neg hu, if_neg hu⟩
    rw [if_pos (by rw [Int32.lt_iff_toInt_lt, zq_l40]; omega)]
    have eu : (s.1 22 5).toInt = ((s.1 22 5).toNatClampNeg : Int) := by rw [zq_ix]; omega
    obtain ⟨t, g0, g1, g2, g3, g4, g5, g6⟩ := zys29_13 w n b a (s := s) eu (by omega)
    refine ⟨t, g0, g1, g2, g3, by rw [g4, hz.1], by rw [g5, hz.1], ?_⟩
    intro p _
    rw [hz.1, hz.2]
    exact g6 p
/-- the model's journal and the place with one change more -/
def zJM (q v old : Int32) (s t : zy_S) : Prop := t.2 = s.2 ∧ (∀ c k, c ≠ 43 → c ≠ 44 → c ≠ 45 → c ≠ 46 → c ≠ 47 → t.1 c k = s.1 c k) ∧ (∀ k, k ≠ 4 → k ≠ 5 → t.1 43 k = s.1 43 k) ∧ (∀ k, t.1 44 k = if k = q.toNatClampNeg then v else s.1 44 k) ∧
  (t.1 43 5).toInt = zju (s.1 43 5) + 1 ∧ (t.1 43 4).toInt = zju (s.1 43 5) + 1 ∧
  ∀ p, p ≤ zju (s.1 43 5) → (t.1 45 p = if p = zju (s.1 43 5) then q else s.1 45 (p + zjs (s.1 43 5))) ∧ (t.1 46 p = if p = zju (s.1 43 5) then old else s.1 46 (p + zjs (s.1 43 5))) ∧
    (t.1 47 p = if p = zju (s.1 43 5) then v else s.1 47 (p + zjs (s.1 43 5)))
theorem zys187_97 (q v old : Int32) {s : zy_S} {u : Nat} (h : (s.1 43 5).toInt = (u : Int)) (hu : u < 40) (hq : zy_in q 41 = true) : ∃ t, zyF187_97 q v old s = some (old, t) ∧ t.2 = s.2 ∧ (∀ c k, c ≠ 43 → c ≠ 44 → c ≠ 45 → c ≠ 46 → c ≠ 47 → t.1 c k = s.1 c k) ∧ (∀ k, k ≠ 4 → k ≠ 5 → t.1 43 k = s.1 43 k) ∧ (∀ k, t.1 44 k = if k = q.toNatClampNeg then v else s.1 44 k) ∧
    (t.1 43 5).toInt = u + 1 ∧ (t.1 43 4).toInt = u + 1 ∧ ∀ p, (t.1 45 p = if p = u then q else s.1 45 p) ∧ (t.1 46 p = if p = u then old else s.1 46 p) ∧ (t.1 47 p = if p = u then v else s.1 47 p) := by
  have hin : zy_in (s.1 43 5) 40 = true := zq_in.mpr ⟨by omega, by omega⟩
  have eu : (s.1 43 5).toNatClampNeg = u := by rw [zq_ix]; omega
  have en : (s.1 43 5 + 1).toInt = u + 1 := by rw [zq_add (by rw [zq_l1]; omega) (by rw [zq_l1]; omega), zq_l1, h]
  unfold zyF187_97
  rw [if_pos hin, if_pos hin, if_pos hin, if_pos hq, eu]
  refine ⟨_, rfl, rfl, ?_, ?_, ?_, ?_, ?_, ?_⟩
  · intro c k a1 a2 a3 a4 a5
    rw [zf_up a2, zf_up a1, zf_up a1, zf_up a5, zf_up a4, zf_up a3]
  · intro k a1 a2
    rw [zf_up (by decide), zf_upk a1, zf_upk a2, zf_up (by decide), zf_up (by decide), zf_up (by decide)]
  · intro k
    simp [zy_up_at, zy_ua_at]
  · rw [zf_up (by decide), zf_upk (by decide), zf_upe]; exact en
  · rw [zf_up (by decide), zf_upe]; exact en
  · intro p
    refine ⟨?_, ?_, ?_⟩ <;> simp [zy_up_at, zy_ua_at]
theorem zl_187 (q v old : Int32) : ∀ (n k : Nat) (i : Int32) (s : zy_S), 1 ≤ k → k ≤ 40 → 40 - k < n → i.toInt = (k : Int) →
    ∃ t, zyF187_26 n q v old i s = zyF187_97 q v old (zy_up t 43 5 (t.1 43 5 - 1)) ∧ t.2 = s.2 ∧ (∀ c b, c ≠ 45 → c ≠ 46 → c ≠ 47 → t.1 c b = s.1 c b) ∧ ∀ c, c = 45 ∨ c = 46 ∨ c = 47 → ∀ p, t.1 c p = if k ≤ p + 1 ∧ p < 39 then s.1 c (p + 1) else s.1 c p
  | 0, k, i, s, h0, hk, hn, hi => by omega
  | n + 1, k, i, s, h0, hk, hn, hi => by
    show ∃ t, zyF187_26b (zyF187_26 n) q v old i s = zyF187_97 q v old (zy_up t 43 5 (t.1 43 5 - 1)) ∧ _
    unfold zyF187_26b
    by_cases h : k = 40
    · rw [if_pos (by rw [Int32.le_iff_toInt_le, zq_l40]; omega)]
      refine ⟨s, rfl, rfl, fun _ _ _ _ _ => rfl, fun c _ p => ?_⟩
      rw [if_neg (by omega)]
    · have hin : zy_in i 40 = true := zq_in.mpr ⟨by omega, by omega⟩
      have em : (i - 1).toInt = (k : Int) - 1 := by rw [zq_sub (by rw [zq_l1]; omega) (by rw [zq_l1]; omega), zq_l1, hi]
      have hin1 : zy_in (i - 1) 40 = true := zq_in.mpr ⟨by omega, by omega⟩
      have ei : i.toNatClampNeg = k := by rw [zq_ix]; omega
      have ei1 : (i - 1).toNatClampNeg = k - 1 := by rw [zq_ix]; omega
      rw [if_neg (by rw [Int32.le_iff_toInt_le, zq_l40]; omega), if_pos hin, if_pos hin1, if_pos hin, if_pos hin1, if_pos hin, if_pos hin1, ei, ei1]
      obtain ⟨t, q1, q2, q3, q4⟩ := zl_187 q v old n (k + 1) (i + 1) (zy_up (zy_up (zy_up s 45 (k - 1) (s.1 45 k)) 46 (k - 1) (s.1 46 k)) 47 (k - 1) (s.1 47 k)) (by omega) (by omega) (by omega) (by rw [zq_add (by rw [zq_l1]; omega) (by rw [zq_l1]; omega), zq_l1, hi]; omega)
      refine ⟨t, q1, q2, fun c b a1 a2 a3 => by rw [q3 c b a1 a2 a3, zf_up a3, zf_up a2, zf_up a1], fun c hc p => ?_⟩
      rw [q4 c hc p]
      have e : ∀ b, (zy_up (zy_up (zy_up s 45 (k - 1) (s.1 45 k)) 46 (k - 1) (s.1 46 k)) 47 (k - 1) (s.1 47 k)).1 c b = if b = k - 1 then s.1 c k else s.1 c b := by
        intro b
        rcases hc with rfl | rfl | rfl <;> simp [zy_up_at, zy_ua_at]
      rw [e, e]
      by_cases h1 : k + 1 ≤ p + 1 ∧ p < 39
      · rw [if_pos h1, if_neg (by omega), if_pos (by omega)]
      · rw [if_neg h1]
        by_cases h2 : p = k - 1
        · rw [if_pos h2, if_pos (by omega), show p + 1 = k by omega]
        · rw [if_neg h2, if_neg (by omega)]
theorem zys187 (q v : Int32) {s : zy_S} (h0 : 0 ≤ (s.1 43 5).toInt) (h1 : (s.1 43 5).toInt ≤ 40) (hq : zy_in q 41 = true) (hv : s.1 44 q.toNatClampNeg ≠ v) : ∃ t, zyF187 q v s = some (s.1 44 q.toNatClampNeg, t) ∧ zJM q v (s.1 44 q.toNatClampNeg) s t := by
  unfold zyF187
  rw [if_pos hq, if_pos hv]
  by_cases hu : (s.1 43 5).toInt = 40
  · have hz : zju (s.1 43 5) = 39 ∧ zjs (s.1 43 5) = 1 := ⟨if_pos hu, if_pos hu⟩
    rw [if_neg (show ¬ (s.1 43 5 ≠ 40) from fun g => g (zq_ext (by rw [zq_l40]; exact hu)))]
    obtain ⟨t0, q1, q2, q3, q4⟩ := zl_187 q v (s.1 44 q.toNatClampNeg) zy_fu 1 1 s (by decide) (by decide) (by unfold zy_fu; omega) rfl
    have e5 : t0.1 43 5 = s.1 43 5 := q3 43 5 (by decide) (by decide) (by decide)
    have em : (s.1 43 5 - 1).toInt = 39 := by rw [zq_sub (by rw [zq_l1]; omega) (by rw [zq_l1]; omega), zq_l1, hu]; rfl
    obtain ⟨t, g0, g1, g2, g3, g4, g5, g6, g7⟩ := zys187_97 q v (s.1 44 q.toNatClampNeg) (s := zy_up t0 43 5 (t0.1 43 5 - 1)) (u := 39) (by rw [zf_upe, e5, em]; rfl) (by decide) hq
    refine ⟨t, q1.trans g0, g1.trans q2, ?_, ?_, ?_, ?_, ?_, ?_⟩
    · intro c k a1 a2 a3 a4 a5
      rw [g2 c k a1 a2 a3 a4 a5, zf_up a1, q3 c k a3 a4 a5]
    · intro k a1 a2
      rw [g3 k a1 a2, zf_upk a2, q3 43 k (by decide) (by decide) (by decide)]
    · intro k
      rw [g4 k, zf_up (by decide), q3 44 k (by decide) (by decide) (by decide)]
    · rw [g5, hz.1]
    · rw [g6, hz.1]
    · intro p hp
      rw [hz.1] at hp ⊢
      rw [hz.2]
      obtain ⟨b1, b2, b3⟩ := g7 p
      rw [b1, b2, b3, zf_up (by decide), zf_up (by decide), zf_up (by decide), q4 45 (Or.inl rfl), q4 46 (Or.inr (Or.inl rfl)), q4 47 (Or.inr (Or.inr rfl))]
      refine ⟨?_, ?_, ?_⟩
      all_goals
        by_cases e : p = 39
        · rw [if_pos e, if_pos e]
        · rw [if_neg e, if_neg e, if_pos (by omega)]
  · have hz : zju (s.1 43 5) = (s.1 43 5).toNatClampNeg ∧ zjs (s.1 43 5) = 0 := ⟨if_neg hu, if_neg hu⟩
    rw [if_pos (show s.1 43 5 ≠ 40 from fun g => hu (by rw [g]; rfl))]
    have eu : (s.1 43 5).toInt = ((s.1 43 5).toNatClampNeg : Int) := by rw [zq_ix]; omega
    obtain ⟨t, g0, g1, g2, g3, g4, g5, g6, g7⟩ := zys187_97 q v (s.1 44 q.toNatClampNeg) (s := s) eu (by omega) hq
    refine ⟨t, g0, g1, g2, g3, g4, by rw [g5, hz.1], by rw [g6, hz.1], ?_⟩
    intro p _
    rw [hz.1, hz.2]
    exact g7 p
theorem zys187_s (q v : Int32) {s : zy_S} (hq : zy_in q 41 = true) (hv : s.1 44 q.toNatClampNeg = v) : zyF187 q v s = some (v, s) := by
  unfold zyF187
  rw [if_pos hq, if_neg (show ¬ (s.1 44 q.toNatClampNeg ≠ v) from fun g => g hv), hv]
end
section
/-! PART 46.4: mend. Made by wip/v4/gen_mend2.py. -/
/-- cells that a change of the town leaves -/
def zmn (a : Nat) : Prop := a = 0 ∨ (5 ≤ a ∧ a < 22) ∨ (27 ≤ a ∧ a < 43) ∨ 48 ≤ a
theorem zmn_sh {d : Nat} (h : d < 6) : zmn (zy_sh d) := by unfold zmn zy_sh; omega
theorem zI_mend {s t : zy_S} (h : zI s) (ht2 : t.2 = s.2) (hgt : zRg t) (e : ∀ a b, zmn a → t.1 a b = s.1 a b) (e1 : ∀ b, b ≠ 4 → t.1 1 b = s.1 1 b) (e43 : ∀ b, b ≠ 4 → b ≠ 5 → t.1 43 b = s.1 43 b)
    (q2 : zR2 t) (q3 : zR3 t) (q4 : zR4 t) (q5 : zR5 t) (q12 : zR12 t) (q13 : zR13 t) : zI t := by
  obtain ⟨hw, hg, h1, h2, h3, h4, h5, h6, h7, h8, h9, h10, h11, h12, h13, h14, h15, h16, h17, h18, h19, h20, h21⟩ := h
  have hw' : zy_Wb t = true := by
    unfold zy_Wb
    rw [ht2]
    exact hw
  refine ⟨hw', hgt, ?_, ?_, ?_, ?_, ?_, ?_, ?_, ?_, ?_, ?_, ?_, ?_, ?_, ?_, ?_, ?_, ?_, ?_, ?_, ?_, ?_⟩
  · unfold zR1
    rw [e1 5 (by decide), e43 6 (by decide) (by decide)]
    exact h1
  · exact q2
  · exact q3
  · exact q4
  · exact q5
  · unfold zR6
    rw [e1 3 (by decide), e43 7 (by decide) (by decide)]
    exact h6
  · unfold zR7
    intro p hp
    rw [e 18 p (by unfold zmn; omega), e 54 p (by unfold zmn; omega)]
    exact h7 p hp
  · unfold zR8
    rw [e 17 2 (by unfold zmn; omega), e43 22 (by decide) (by decide), e 17 3 (by unfold zmn; omega), e43 24 (by decide) (by decide), e 17 4 (by unfold zmn; omega), e43 23 (by decide) (by decide), e1 5 (by decide)]
    exact h8
  · intro p hp
    rw [e 17 4 (by unfold zmn; omega)] at hp
    rw [e 20 p (by unfold zmn; omega), e 55 p (by unfold zmn; omega)]
    exact h9 p hp
  · unfold zR10
    intro p hp
    rw [e 19 p (by unfold zmn; omega), e 56 p (by unfold zmn; omega)]
    exact h10 p hp
  · unfold zR11
    intro p hp
    rw [e 21 p (by unfold zmn; omega), e 57 p (by unfold zmn; omega)]
    exact h11 p hp
  · exact q12
  · exact q13
  · unfold zR14
    rw [e 27 2 (by unfold zmn; omega), e43 28 (by decide) (by decide)]
    exact h14
  · unfold zR15
    intro p hp
    rw [e 28 p (by unfold zmn; omega), e 58 p (by unfold zmn; omega)]
    exact h15 p hp
  · unfold zR16
    rw [e 27 3 (by unfold zmn; omega), e43 31 (by decide) (by decide)]
    exact h16
  · unfold zR17
    intro p hp
    rw [e 29 p (by unfold zmn; omega), e 59 p (by unfold zmn; omega)]
    exact h17 p hp
  · unfold zR18
    rw [e 9 2 (by unfold zmn; omega), e43 9 (by decide) (by decide)]
    exact h18
  · unfold zR19
    refine ⟨fun p hp => ?_, ?_⟩
    · rw [e 10 p (by unfold zmn; omega), e 48 p (by unfold zmn; omega)]
      exact h19.1 p hp
    · rw [e 5 3 (by unfold zmn; omega), e43 11 (by decide) (by decide), show t.1 6 = s.1 6 from funext fun k => e 6 k (by unfold zmn; omega), show t.1 49 = s.1 49 from funext fun k => e 49 k (by unfold zmn; omega)]
      exact h19.2
  · intro d hd
    rw [e 27 2 (by unfold zmn; omega), e _ _ (zmn_sh hd), e _ _ (zmn_sh hd), e _ _ (zmn_sh hd), e 60 d (by unfold zmn; omega), e 61 d (by unfold zmn; omega)]
    exact h20 d hd
  · intro d hd j hj
    rw [e _ _ (zmn_sh hd), ht2]
    exact h21 d hd j hj
theorem zrg_fuJ : ∀ a, a ∈ [2, 3, 4, 23, 24, 25, 26, 45, 46, 47] → ∀ b, b < zrn a → zrg a b = (-2147483648, 2147483647) := by decide +kernel
theorem zrg_22 : ∀ b, b < zrn 22 → zrg 22 b = if b < 5 then (-2147483648, 2147483647) else (0, 40) := by decide +kernel
theorem zrg_44 : ∀ b, b < zrn 44 → zrg 44 b = if b = 40 then (1, 9) else (-2147483648, 2147483647) := by decide +kernel
theorem zrg_43 : zrg 43 4 = (0, 40) ∧ zrg 43 5 = (0, 40) ∧ zrg 1 4 = (-2147483648, 2147483647) ∧ zrn 22 = 7 := by decide +kernel
theorem zRg_mend {s t : zy_S} (hg : zRg s) (e : ∀ a b, zmn a → t.1 a b = s.1 a b) (e1 : ∀ b, b ≠ 4 → t.1 1 b = s.1 1 b) (e43 : ∀ b, b ≠ 4 → b ≠ 5 → t.1 43 b = s.1 43 b) (q5 : zR5 t) (q12 : zR12 t) : zRg t := by
  intro a b hb
  obtain ⟨c1, c2, c3, c4⟩ := zrg_43
  obtain ⟨j1, j2, j3, j4, j5⟩ := q12
  by_cases hz : zmn a
  · rw [e a b hz]
    exact hg a b hb
  · by_cases hm : a ∈ [2, 3, 4, 23, 24, 25, 26, 45, 46, 47]
    · rw [zrg_fuJ a hm b hb]
      exact zin_full _
    · have ha : a = 1 ∨ a = 22 ∨ a = 43 ∨ a = 44 := by
        unfold zmn at hz
        simp only [List.mem_cons, List.not_mem_nil, or_false, not_or] at hm
        omega
      rcases ha with rfl | rfl | rfl | rfl
      · by_cases hb4 : b = 4
        · subst hb4
          rw [c3]
          exact zin_full _
        · rw [e1 b hb4]
          exact hg 1 b hb
      · rw [zrg_22 b hb]
        by_cases hb5 : b < 5
        · rw [if_pos hb5]; exact zin_full _
        · rw [if_neg hb5]
          rw [c4] at hb
          rcases (by omega : b = 5 ∨ b = 6) with rfl | rfl
          · exact ⟨by show 0 ≤ _; omega, by show _ ≤ (40 : Int); omega⟩
          · exact ⟨by show 0 ≤ _; omega, by show _ ≤ (40 : Int); omega⟩
      · by_cases h4 : b = 4
        · subst h4
          rw [c1, ← j2]
          exact ⟨by show 0 ≤ _; omega, by show _ ≤ (40 : Int); omega⟩
        · by_cases h5 : b = 5
          · subst h5
            rw [c2, ← j1]
            exact ⟨by show 0 ≤ _; omega, by show _ ≤ (40 : Int); omega⟩
          · rw [e43 b h4 h5]
            exact hg 43 b hb
      · rw [zrg_44 b hb]
        by_cases h40 : b = 40
        · subst h40
          rw [if_pos rfl, ← q5.1]
          exact q5.2
        · rw [if_neg h40]
          exact zin_full _
/-- the class's place c, k is the model's place q -/
def zPl (c k q : Nat) : Prop := (c = 3 ∧ k < 8 ∧ q = k) ∨ (c = 4 ∧ k < 8 ∧ q = 8 + k) ∨ (c = 2 ∧ k < 24 ∧ q = 16 + k) ∨ (c = 1 ∧ k = 4 ∧ q = 40)
def zPv (c : Nat) (v : Int32) : Prop := (c = 3 → zin v 0 4095) ∧ (c = 4 → zin v 0 9) ∧ (c = 2 → zin v 0 9) ∧ (c = 1 → zin v 1 9)
theorem zPl_e {c k q : Nat} {s : zy_S} (hp : zPl c k q) (h : zI s) : s.1 c k = s.1 44 q := by
  obtain ⟨hw, hg, h1, h2, h3, h4, h5, h6, h7, h8, h9, h10, h11, h12, h13, h14, h15, h16, h17, h18, h19, h20, h21⟩ := h
  rcases hp with ⟨rfl, hk, rfl⟩ | ⟨rfl, hk, rfl⟩ | ⟨rfl, hk, rfl⟩ | ⟨rfl, rfl, rfl⟩
  · exact (h2 _ hk).1
  · exact (h3 _ hk).1
  · exact (h4 _ hk).1
  · exact h5.1
/-- the town's rows, one place changed on both sides -/
theorem zPl_R {c k q : Nat} {v : Int32} {s t : zy_S} (hp : zPl c k q) (hv : zPv c v) (h2 : zR2 s) (h3 : zR3 s) (h4 : zR4 s) (h5 : zR5 s)
    (e3 : ∀ p, t.1 3 p = if 3 = c ∧ p = k then v else s.1 3 p) (e4 : ∀ p, t.1 4 p = if 4 = c ∧ p = k then v else s.1 4 p) (e2 : ∀ p, t.1 2 p = if 2 = c ∧ p = k then v else s.1 2 p) (e1 : t.1 1 4 = if 1 = c ∧ 4 = k then v else s.1 1 4) (e44 : ∀ p, t.1 44 p = if p = q then v else s.1 44 p) : zR2 t ∧ zR3 t ∧ zR4 t ∧ zR5 t := by
  obtain ⟨v3, v4, v2, v1⟩ := hv
  have hb : ∀ {C Q : Prop} [Decidable C] [Decidable Q] (x y : Int32) (lo hi : Int), (C ↔ Q) → (C → zin v lo hi) → x = y ∧ zin x lo hi → (if C then v else x) = (if Q then v else y) ∧ zin (if C then v else x) lo hi := by
    intro C Q _ _ x y lo hi hcq hv hx
    by_cases hC : C
    · rw [if_pos hC, if_pos (hcq.mp hC)]
      exact ⟨rfl, hv hC⟩
    · rw [if_neg hC, if_neg (fun w => hC (hcq.mpr w))]
      exact hx
  refine ⟨?_, ?_, ?_, ?_⟩
  · intro p hk
    rw [e3, e44]
    exact hb _ _ _ _ (by unfold zPl at hp; omega) (fun w => v3 w.1.symm) (h2 p hk)
  · intro p hk
    rw [e4, e44]
    exact hb _ _ _ _ (by unfold zPl at hp; omega) (fun w => v4 w.1.symm) (h3 p hk)
  · intro p hk
    rw [e2, e44]
    exact hb _ _ _ _ (by unfold zPl at hp; omega) (fun w => v2 w.1.symm) (h4 p hk)
  · unfold zR5
    rw [e1, e44]
    exact hb _ _ _ _ (by unfold zPl at hp; omega) (fun w => v1 w.1.symm) h5
theorem zop_mendC {c k : Nat} {q w n v : Int32} {s : zy_S} (h : zI s) (hp : zPl c k q.toNatClampNeg) (hq : zy_in q 41 = true) (hv : zPv c v) (hr : zRow (s.1 1 5) w n (s.1 c k) v q (s.1 c k) v)
    (f27 : zyF27 w n s = some (s.1 c k, s)) (f28 : zyF28 w n v s = some (0, zy_up s c k v)) :
    ∃ s1 s2, (if s.1 c k = v then some (s.1 c k, s) else (zyF28 w n v s).bind fun p4 => (zyF29 w n (s.1 c k) v p4.2).bind fun p5 => some (s.1 c k, p5.2)) = some (s.1 c k, s1) ∧ zyF187 q v s1 = some (s.1 c k, s2) ∧ s1.1 43 6 = s.1 43 6 ∧ zI s2 := by
  have hc : c = 1 ∨ c = 2 ∨ c = 3 ∨ c = 4 := by unfold zPl at hp; omega
  have hc1 : c = 1 → k = 4 := by unfold zPl at hp; omega
  have ee := zPl_e hp h
  by_cases hsame : s.1 c k = v
  · rw [if_pos hsame]
    refine ⟨s, s, rfl, ?_, rfl, h⟩
    rw [zys187_s q v hq (ee.symm.trans hsame), hsame]
  · obtain ⟨hw, hg, h1, h2, h3, h4, h5, h6, h7, h8, h9, h10, h11, h12, h13, h14, h15, h16, h17, h18, h19, h20, h21⟩ := id h
    obtain ⟨j1, j2, j3, j4, j5⟩ := id h12
    rw [if_neg hsame, f28, zq_bind]
    have o22 : ∀ b, (zy_up s c k v).1 22 b = s.1 22 b := fun b => zf_up (by omega)
    obtain ⟨s1, g0, g1, g2, g3, g4, g5, g6⟩ := zys29 w n (s.1 c k) v (s := zy_up s c k v) (by rw [o22]; exact j3) (by rw [o22]; omega)
    rw [o22] at g4 g5 g6
    have m43 : ∀ b, s1.1 43 b = s.1 43 b := fun b => by rw [g2 43 b (by decide) (by decide) (by decide) (by decide) (by decide), zf_up (by omega)]
    have m44 : ∀ b, s1.1 44 b = s.1 44 b := fun b => by rw [g2 44 b (by decide) (by decide) (by decide) (by decide) (by decide), zf_up (by omega)]
    have mrow : ∀ a b, a = 45 ∨ a = 46 ∨ a = 47 → s1.1 a b = s.1 a b := fun a b ha => by rw [g2 a b (by omega) (by omega) (by omega) (by omega) (by omega), zf_up (by omega)]
    obtain ⟨s2, k0, k1, k2, k3, k4, k5, k6, k7⟩ := zys187 q v (s := s1) (by rw [m43, ← j1]; exact j3) (by rw [m43, ← j1]; omega) hq (by rw [m44, ← ee]; exact hsame)
    rw [m44, ← ee] at k0 k7
    rw [m43] at k5 k6 k7
    refine ⟨s1, s2, by rw [g0]; rfl, k0, m43 6, ?_⟩
    have e : ∀ a b, zmn a → s2.1 a b = s.1 a b := by
      intro a b ha
      unfold zmn at ha
      rw [k2 a b (by omega) (by omega) (by omega) (by omega) (by omega), g2 a b (by omega) (by omega) (by omega) (by omega) (by omega), zf_up (by omega)]
    have e0 : ∀ a b, a < 5 → s2.1 a b = (zy_up s c k v).1 a b := by
      intro a b ha
      rw [k2 a b (by omega) (by omega) (by omega) (by omega) (by omega), g2 a b (by omega) (by omega) (by omega) (by omega) (by omega)]
    have eJ : ∀ a b, 22 ≤ a → a < 27 → s2.1 a b = s1.1 a b := fun a b ha hb => k2 a b (by omega) (by omega) (by omega) (by omega) (by omega)
    have e1 : ∀ b, b ≠ 4 → s2.1 1 b = s.1 1 b := by
      intro b hb
      rw [e0 1 b (by decide), zy_up_at, if_neg (by omega)]
    have e43 : ∀ b, b ≠ 4 → b ≠ 5 → s2.1 43 b = s.1 43 b := by
      intro b h4 h5
      rw [k3 b h4 h5, m43]
    obtain ⟨q2, q3, q4, q5⟩ := zPl_R (t := s2) hp hv h2 h3 h4 h5 (fun p => by rw [e0 3 p (by decide), zy_up_at]) (fun p => by rw [e0 4 p (by decide), zy_up_at]) (fun p => by rw [e0 2 p (by decide), zy_up_at]) (by rw [e0 1 4 (by decide), zy_up_at]) (fun p => by rw [k4 p, m44])
    have ju : zju (s.1 22 5) = zju (s.1 43 5) := by rw [j1]
    have js : zjs (s.1 22 5) = zjs (s.1 43 5) := by rw [j1]
    have jb : zju (s.1 22 5) ≤ 39 ∧ ∀ p, p < zju (s.1 22 5) → ((p + zjs (s.1 22 5) : Nat) : Int) < (s.1 22 5).toInt := by
      unfold zju zjs
      by_cases hu : (s.1 22 5).toInt = 40
      · rw [if_pos hu, if_pos hu]
        exact ⟨by omega, fun p hp => by omega⟩
      · rw [if_neg hu, if_neg hu, zq_ix]
        exact ⟨by omega, fun p hp => by omega⟩
    have q12 : zR12 s2 := by
      unfold zR12
      rw [eJ 22 5 (by decide) (by decide), eJ 22 6 (by decide) (by decide)]
      rw [← ju] at k5 k6
      refine ⟨zq_ext (g4.trans k5.symm), zq_ext (g5.trans k6.symm), by omega, by omega, by omega⟩
    have q13 : zR13 s2 := by
      intro p hp6
      rw [eJ 22 6 (by decide) (by decide)] at hp6
      have hpu : p ≤ zju (s.1 22 5) := by omega
      obtain ⟨a1, a2, a3, a4⟩ := g6 p hpu
      obtain ⟨b1, b2, b3⟩ := k7 p (by rw [← ju]; exact hpu)
      rw [e1 5 (by decide), eJ 23 p (by decide) (by decide), eJ 24 p (by decide) (by decide), eJ 25 p (by decide) (by decide), eJ 26 p (by decide) (by decide), a1, a2, a3, a4, b1, b2, b3, ← ju, ← js]
      by_cases hpe : p = zju (s.1 22 5)
      · rw [if_pos hpe, if_pos hpe, if_pos hpe, if_pos hpe, if_pos hpe, if_pos hpe, if_pos hpe]
        exact hr
      · rw [if_neg hpe, if_neg hpe, if_neg hpe, if_neg hpe, if_neg hpe, if_neg hpe, if_neg hpe, mrow 45 _ (by omega), mrow 46 _ (by omega), mrow 47 _ (by omega), zf_up (by omega), zf_up (by omega), zf_up (by omega), zf_up (by omega)]
        have := jb.2 p (by omega)
        exact h13 _ (by omega)
    exact zI_mend h (k1.trans g1) (zRg_mend hg e e1 e43 q5 q12) e e1 e43 q2 q3 q4 q5 q12 q13
theorem zys25_32 (n : Int32) (s : zy_S) : zyF25_32 n s = some (zqb (decide (0 ≤ n.toInt ∧ n.toInt < (s.1 1 5).toInt)), s) := by
  unfold zyF25_32
  simp only [ne_eq, zq_eq, Int32.lt_iff_toInt_lt, Int32.le_iff_toInt_le, zq_l0, zq_lm1, zq_l1, zq_l2, zq_l3, zq_l4, zq_l5, zq_l6, zq_l7, zq_l8, zq_l9, zq_l12, zq_l16, zq_l23, zq_l24, zq_l40, zq_l39, zq_l50, zq_l51, zq_l60, zq_l120, zq_l128, zq_l255, zq_l4095, zq_l4096]
  refine zqb_d (x := 0) (fun h => ?_) (fun h => ?_)
  all_goals
    repeat' split
  all_goals first | rfl | (exfalso; omega)
theorem zys25_0 (n : Int32) (s : zy_S) : zyF25 0 n s = some (zqb (decide (0 ≤ n.toInt ∧ n.toInt < (s.1 1 5).toInt)), s) := by
  unfold zyF25
  rw [if_pos rfl]
  exact zys25_32 n s
theorem zys25_1 (n : Int32) (s : zy_S) : zyF25 1 n s = some (zqb (decide (0 ≤ n.toInt ∧ n.toInt < (s.1 1 5).toInt)), s) := by
  unfold zyF25
  rw [if_neg (by decide), if_pos rfl]
  exact zys25_32 n s
theorem zys25_2 (n : Int32) (s : zy_S) : zyF25 2 n s = some (zqb (decide (0 ≤ n.toInt ∧ n.toInt ≤ 23)), s) := by
  unfold zyF25
  rw [if_neg (by decide), if_neg (by decide), if_pos rfl, zys26]
  simp only [zq_bind, zqb_if01]
theorem zys25_3 (n : Int32) (s : zy_S) : zyF25 3 n s = some (zqb (decide (n.toInt = 0)), s) := by
  unfold zyF25
  rw [if_neg (by decide), if_neg (by decide), if_neg (by decide), if_pos rfl]
  simp only [ne_eq, zq_eq, Int32.lt_iff_toInt_lt, Int32.le_iff_toInt_le, zq_l0, zq_lm1, zq_l1, zq_l2, zq_l3, zq_l4, zq_l5, zq_l6, zq_l7, zq_l8, zq_l9, zq_l12, zq_l16, zq_l23, zq_l24, zq_l40, zq_l39, zq_l50, zq_l51, zq_l60, zq_l120, zq_l128, zq_l255, zq_l4095, zq_l4096]
  refine zqb_d (x := 0) (fun h => ?_) (fun h => ?_)
  all_goals
    repeat' split
  all_goals first | rfl | (exfalso; omega)
/-- where the model has it, or -1 -/
def zqp (n w : Int32) (P : Int) : Int := if 0 ≤ w.toInt ∧ w.toInt ≤ 1 then (if 0 ≤ n.toInt ∧ n.toInt < P then 8 * w.toInt + n.toInt else -1) else if w.toInt = 2 then (if 0 ≤ n.toInt ∧ n.toInt ≤ 23 then 16 + n.toInt else -1) else if w.toInt = 3 then (if n.toInt = 0 then 40 else -1) else -1
theorem zys184 (n w : Int32) {s : zy_S} (hp : zin (s.1 43 6) 0 8) : ∃ q, zyF184 n w s = some (q, s) ∧ q.toInt = zqp n w (s.1 43 6).toInt := by
  obtain ⟨p0, p1⟩ := id hp
  unfold zyF184 zqp
  simp only [zys179, zys186, zys185 _ s hp, true_and, and_true, zqb_t0, Classical.not_not, Bool.not_eq_false, zq_bind, zqb_n0, zqb_e0, decide_eq_true_eq, decide_eq_false_iff_not, ne_eq, zq_eq, Int32.toInt_toInt64, Int32.lt_iff_toInt_lt, Int32.le_iff_toInt_le, zq_l0, zq_lm1, zq_l1, zq_l2, zq_l3, zq_l4, zq_l5, zq_l6, zq_l7, zq_l8, zq_l9, zq_l12, zq_l16, zq_l23, zq_l24, zq_l40, zq_l39, zq_l50, zq_l51, zq_l60, zq_l120, zq_l128, zq_l255, zq_l4095, zq_l4096, zq_j0, zq_j1, zq_j4, zq_j5, zq_j7, zq_j8, zq_j9, zq_j23, zq_j255, zq_j4095]
  by_cases h1 : 0 ≤ w.toInt ∧ w.toInt ≤ 1
  · rw [if_pos h1, if_neg (by omega)]
    by_cases hn : 0 ≤ n.toInt ∧ n.toInt < (s.1 43 6).toInt
    · rw [if_pos hn, if_neg (by omega)]
      refine ⟨_, rfl, ?_⟩
      have em : ((8 : Int32) * w).toInt = 8 * w.toInt := by rw [zq_mul (by rw [zq_l8]; omega) (by rw [zq_l8]; omega), zq_l8]
      rw [zq_add (by rw [em]; omega) (by rw [em]; omega), em]
    · rw [if_neg hn, if_pos (by omega)]
      exact ⟨_, rfl, rfl⟩
  · rw [if_neg h1, if_pos (by omega)]
    by_cases h2 : w.toInt = 2
    · rw [if_pos h2, if_neg (by omega)]
      by_cases hn : 0 ≤ n.toInt ∧ n.toInt ≤ 23
      · rw [if_pos hn, if_neg (by omega)]
        refine ⟨_, rfl, ?_⟩
        rw [zq_add (by rw [zq_l16]; omega) (by rw [zq_l16]; omega), zq_l16]
      · rw [if_neg hn, if_pos (by omega)]
        exact ⟨_, rfl, rfl⟩
    · rw [if_neg h2, if_pos (by omega)]
      by_cases h3 : w.toInt = 3
      · rw [if_pos h3, if_neg (by omega)]
        by_cases hn : n.toInt = 0
        · rw [if_pos hn, if_neg (by omega)]
          exact ⟨_, rfl, rfl⟩
        · rw [if_neg hn, if_pos (by omega)]
          exact ⟨_, rfl, rfl⟩
      · rw [if_neg h3, if_pos (by omega)]
        exact ⟨_, rfl, rfl⟩
theorem zys183_25 (w v q : Int32) (lo : Int64) {s : zy_S} : zyF183_25 w v q lo v.toInt64 s = if lo.toInt ≤ v.toInt ∧ v.toInt ≤ (if w.toInt = 0 then 4095 else 9) then (zyF187 q v s).bind fun p => some (p.1, p.2) else some (-1, s) := by
  unfold zyF183_25 zyF183_38
  simp only [zys179, true_and, and_true, zqb_t0, Classical.not_not, Bool.not_eq_false, zq_bind, zqb_n0, zqb_e0, decide_eq_true_eq, decide_eq_false_iff_not, ne_eq, zq_eq, Int32.toInt_toInt64, Int32.lt_iff_toInt_lt, Int32.le_iff_toInt_le, zq_l0, zq_lm1, zq_l1, zq_l2, zq_l3, zq_l4, zq_l5, zq_l6, zq_l7, zq_l8, zq_l9, zq_l12, zq_l16, zq_l23, zq_l24, zq_l40, zq_l39, zq_l50, zq_l51, zq_l60, zq_l120, zq_l128, zq_l255, zq_l4095, zq_l4096, zq_j0, zq_j1, zq_j4, zq_j5, zq_j7, zq_j8, zq_j9, zq_j23, zq_j255, zq_j4095]
  by_cases h0 : w.toInt = 0
  · rw [if_neg (by omega), if_pos h0]
    by_cases hv : lo.toInt ≤ v.toInt ∧ v.toInt ≤ 4095
    · rw [if_neg (by omega), if_pos hv]
    · rw [if_pos hv, if_neg hv]
  · rw [if_pos h0, if_neg h0]
    by_cases hv : lo.toInt ≤ v.toInt ∧ v.toInt ≤ 9
    · rw [if_neg (by omega), if_pos hv]
    · rw [if_pos hv, if_neg hv]
theorem zys183 (n w v : Int32) {s : zy_S} (hp : zin (s.1 43 6) 0 8) : ∃ q, q.toInt = zqp n w (s.1 43 6).toInt ∧ zyF183 n w v s = if q.toInt < 0 then some (-1, s) else if (if w.toInt = 3 then 1 else 0) ≤ v.toInt ∧ v.toInt ≤ (if w.toInt = 0 then 4095 else 9) then (zyF187 q v s).bind fun p => some (p.1, p.2) else some (-1, s) := by
  obtain ⟨q, h1, h2⟩ := zys184 n w hp
  refine ⟨q, h2, ?_⟩
  unfold zyF183
  rw [h1]
  simp only [zq_bind, Int32.lt_iff_toInt_lt, zq_l0, ne_eq, zq_eq, zq_l3]
  by_cases hq : q.toInt < 0
  · rw [if_pos hq, if_pos hq]
  · rw [if_neg hq, if_neg hq]
    by_cases h3 : w.toInt = 3
    · rw [if_neg (by omega), if_pos h3, zys183_25]
      rfl
    · rw [if_pos h3, if_neg h3, zys183_25]
      rfl
theorem zop_mend (n w v : Int32) {s : zy_S} (h : zI s) : ∃ r s1 s2, zyF24 n w v s = some (r, s1) ∧ zyF183 n w v s1 = some (r, s2) ∧ zI s2 := by
  obtain ⟨hw, hg, h1, h2, h3, h4, h5, h6, h7, h8, h9, h10, h11, h12, h13, h14, h15, h16, h17, h18, h19, h20, h21⟩ := id h
  obtain ⟨e1, p0, p1⟩ := id h1
  have hp : zin (s.1 43 6) 0 8 := by rw [← e1]; exact ⟨p0, p1⟩
  -- what is refused
  have bad : zyF24 n w v s = some (-1, s) → (zqp n w (s.1 43 6).toInt < 0 ∨ ¬ ((if w.toInt = 3 then 1 else 0) ≤ v.toInt ∧ v.toInt ≤ (if w.toInt = 0 then 4095 else 9))) → ∃ r s1 s2, zyF24 n w v s = some (r, s1) ∧ zyF183 n w v s1 = some (r, s2) ∧ zI s2 := by
    intro hc hm
    refine ⟨-1, s, s, hc, ?_, h⟩
    obtain ⟨q, hq, hf⟩ := zys183 n w v hp
    rw [hf]
    rcases hm with hm | hm
    · rw [if_pos (by rw [hq]; exact hm)]
    · by_cases hq0 : q.toInt < 0
      · rw [if_pos hq0]
      · rw [if_neg hq0, if_neg hm]
  -- what is done
  have good : ∀ (c k : Nat), (∀ q : Int32, q.toInt = zqp n w (s.1 43 6).toInt → zPl c k q.toNatClampNeg ∧ zy_in q 41 = true ∧ zRow (s.1 1 5) w n (s.1 c k) v q (s.1 c k) v) → zPv c v → zyF27 w n s = some (s.1 c k, s) → zyF28 w n v s = some (0, zy_up s c k v) →
      zyF24 n w v s = (if s.1 c k = v then some (s.1 c k, s) else (zyF28 w n v s).bind fun p4 => (zyF29 w n (s.1 c k) v p4.2).bind fun p5 => some (s.1 c k, p5.2)) → ((if w.toInt = 3 then 1 else 0) ≤ v.toInt ∧ v.toInt ≤ (if w.toInt = 0 then 4095 else 9)) → ∃ r s1 s2, zyF24 n w v s = some (r, s1) ∧ zyF183 n w v s1 = some (r, s2) ∧ zI s2 := by
    intro c k hq hv f27 f28 hc hm
    obtain ⟨q0, hq0, -⟩ := zys183 n w v hp
    obtain ⟨a1, a2, a3⟩ := hq q0 hq0
    obtain ⟨s1, s2, b1, b2, b3, b4⟩ := zop_mendC h a1 a2 hv a3 f27 f28
    refine ⟨s.1 c k, s1, s2, hc.trans b1, ?_, b4⟩
    obtain ⟨q, hq1, hf⟩ := zys183 n w v (s := s1) (by rw [b3]; exact hp)
    have eq : q = q0 := zq_ext (by rw [hq1, hq0, b3])
    subst eq
    rw [hf, if_neg (by have := (zq_in.mp a2).1; omega), if_pos hm, b2]
    rfl
  by_cases w0 : w = 0
  · subst w0
    have z0 : zqp n 0 (s.1 43 6).toInt = if 0 ≤ n.toInt ∧ n.toInt < (s.1 43 6).toInt then n.toInt else -1 := by
      unfold zqp
      rw [if_pos ⟨by decide, by decide⟩, zq_l0]
      by_cases g : 0 ≤ n.toInt ∧ n.toInt < (s.1 43 6).toInt
      · rw [if_pos g, if_pos g]; omega
      · rw [if_neg g, if_neg g]
    by_cases hn : 0 ≤ n.toInt ∧ n.toInt < (s.1 1 5).toInt
    · by_cases hv : 0 ≤ v.toInt ∧ v.toInt ≤ 4095
      · have hin : zy_in n 8 = true := zq_in.mpr ⟨hn.1, by omega⟩
        have f27 : zyF27 0 n s = some (s.1 3 n.toNatClampNeg, s) := by
          unfold zyF27
          rw [if_pos rfl, if_pos hin]
        refine good 3 n.toNatClampNeg ?_ ⟨fun _ => hv, fun q => absurd q (by decide), fun q => absurd q (by decide), fun q => absurd q (by decide)⟩ f27 (by unfold zyF28; rw [if_pos rfl, if_pos hin]) ?_ ?_
        · intro q hq
          rw [z0, if_pos (by rw [← e1]; exact hn)] at hq
          have eq : q = n := zq_ext hq
          subst eq
          exact ⟨Or.inl ⟨rfl, by rw [zq_ix]; omega, rfl⟩, zq_in.mpr ⟨hn.1, by omega⟩, rfl, rfl, Or.inl ⟨rfl, hn.1, hn.2, rfl, (h2 _ (by rw [zq_ix]; omega)).2, hv⟩⟩
        · unfold zyF24
          simp only [zys25_0, zys14_0, f27, zq_bind, zqb_n0, zqb_e0, decide_eq_true_eq, decide_eq_false_iff_not]
          rw [if_neg (not_not_intro hn), if_pos hv]
        · rw [if_neg (by decide), if_pos (show (0 : Int32).toInt = 0 from rfl)]; exact hv
      · refine bad ?_ (Or.inr ?_)
        · unfold zyF24
          simp only [zys25_0, zys14_0, zq_bind, zqb_n0, zqb_e0, decide_eq_true_eq, decide_eq_false_iff_not]
          rw [if_neg (not_not_intro hn), if_neg hv]
        · rw [if_neg (by decide), if_pos (show (0 : Int32).toInt = 0 from rfl)]; exact hv
    · refine bad ?_ (Or.inl ?_)
      · unfold zyF24
        simp only [zys25_0, zq_bind, zqb_e0, decide_eq_false_iff_not]
        rw [if_pos hn]
      · rw [z0, ← e1, if_neg hn]; decide
  by_cases w1 : w = 1
  · subst w1
    have z0 : zqp n 1 (s.1 43 6).toInt = if 0 ≤ n.toInt ∧ n.toInt < (s.1 43 6).toInt then 8 + n.toInt else -1 := by
      unfold zqp
      rw [if_pos ⟨by decide, by decide⟩, zq_l1]
      rfl
    by_cases hn : 0 ≤ n.toInt ∧ n.toInt < (s.1 1 5).toInt
    · by_cases hv : 0 ≤ v.toInt ∧ v.toInt ≤ 9
      · have hin : zy_in n 8 = true := zq_in.mpr ⟨hn.1, by omega⟩
        have f27 : zyF27 1 n s = some (s.1 4 n.toNatClampNeg, s) := by
          unfold zyF27
          rw [if_neg (by decide), if_pos rfl, if_pos hin]
        refine good 4 n.toNatClampNeg ?_ ⟨fun q => absurd q (by decide), fun _ => hv, fun q => absurd q (by decide), fun q => absurd q (by decide)⟩ f27 (by unfold zyF28; rw [if_neg (by decide), if_pos rfl, if_pos hin]) ?_ ?_
        · intro q hq
          rw [z0, if_pos (by rw [← e1]; exact hn)] at hq
          exact ⟨Or.inr (Or.inl ⟨rfl, by rw [zq_ix]; omega, by rw [zq_ix, zq_ix]; omega⟩), zq_in.mpr ⟨by omega, by omega⟩, rfl, rfl, Or.inr (Or.inl ⟨rfl, hn.1, hn.2, hq, (h3 _ (by rw [zq_ix]; omega)).2, hv⟩)⟩
        · unfold zyF24
          simp only [zys25_1, zys14_1, f27, zq_bind, zqb_n0, zqb_e0, decide_eq_true_eq, decide_eq_false_iff_not]
          rw [if_neg (not_not_intro hn), if_pos hv]
        · rw [if_neg (by decide), if_neg (by decide)]; exact hv
      · refine bad ?_ (Or.inr ?_)
        · unfold zyF24
          simp only [zys25_1, zys14_1, zq_bind, zqb_n0, zqb_e0, decide_eq_true_eq, decide_eq_false_iff_not]
          rw [if_neg (not_not_intro hn), if_neg hv]
        · rw [if_neg (by decide), if_neg (by decide)]; exact hv
    · refine bad ?_ (Or.inl ?_)
      · unfold zyF24
        simp only [zys25_1, zq_bind, zqb_e0, decide_eq_false_iff_not]
        rw [if_pos hn]
      · rw [z0, ← e1, if_neg hn]; decide
  by_cases w2 : w = 2
  · subst w2
    have z0 : zqp n 2 (s.1 43 6).toInt = if 0 ≤ n.toInt ∧ n.toInt ≤ 23 then 16 + n.toInt else -1 := by
      unfold zqp
      rw [if_neg (by decide), if_pos (show (2 : Int32).toInt = 2 from rfl)]
    by_cases hn : 0 ≤ n.toInt ∧ n.toInt ≤ 23
    · by_cases hv : 0 ≤ v.toInt ∧ v.toInt ≤ 9
      · have hin : zy_in n 24 = true := zq_in.mpr ⟨hn.1, by omega⟩
        have f27 : zyF27 2 n s = some (s.1 2 n.toNatClampNeg, s) := by
          unfold zyF27
          rw [if_neg (by decide), if_neg (by decide), if_pos rfl, if_pos hin]
        refine good 2 n.toNatClampNeg ?_ ⟨fun q => absurd q (by decide), fun q => absurd q (by decide), fun _ => hv, fun q => absurd q (by decide)⟩ f27 (by unfold zyF28; rw [if_neg (by decide), if_neg (by decide), if_pos rfl, if_pos hin]) ?_ ?_
        · intro q hq
          rw [z0, if_pos hn] at hq
          exact ⟨Or.inr (Or.inr (Or.inl ⟨rfl, by rw [zq_ix]; omega, by rw [zq_ix, zq_ix]; omega⟩)), zq_in.mpr ⟨by omega, by omega⟩, rfl, rfl, Or.inr (Or.inr (Or.inl ⟨rfl, hn.1, by omega, hq, (h4 _ (by rw [zq_ix]; omega)).2, hv⟩))⟩
        · unfold zyF24
          simp only [zys25_2, zys14_2, f27, zq_bind, zqb_n0, zqb_e0, decide_eq_true_eq, decide_eq_false_iff_not]
          rw [if_neg (not_not_intro hn), if_pos hv]
        · rw [if_neg (by decide), if_neg (by decide)]; exact hv
      · refine bad ?_ (Or.inr ?_)
        · unfold zyF24
          simp only [zys25_2, zys14_2, zq_bind, zqb_n0, zqb_e0, decide_eq_true_eq, decide_eq_false_iff_not]
          rw [if_neg (not_not_intro hn), if_neg hv]
        · rw [if_neg (by decide), if_neg (by decide)]; exact hv
    · refine bad ?_ (Or.inl ?_)
      · unfold zyF24
        simp only [zys25_2, zq_bind, zqb_e0, decide_eq_false_iff_not]
        rw [if_pos hn]
      · rw [z0, if_neg hn]; decide
  by_cases w3 : w = 3
  · subst w3
    have z0 : zqp n 3 (s.1 43 6).toInt = if n.toInt = 0 then 40 else -1 := by
      unfold zqp
      rw [if_neg (by decide), if_neg (by decide), if_pos (show (3 : Int32).toInt = 3 from rfl)]
    by_cases hn : n.toInt = 0
    · by_cases hv : 1 ≤ v.toInt ∧ v.toInt ≤ 9
      · have f27 : zyF27 3 n s = some (s.1 1 4, s) := by
          unfold zyF27
          rw [if_neg (by decide), if_neg (by decide), if_neg (by decide)]
        refine good 1 4 ?_ ⟨fun q => absurd q (by decide), fun q => absurd q (by decide), fun q => absurd q (by decide), fun _ => hv⟩ f27 (by unfold zyF28; rw [if_neg (by decide), if_neg (by decide), if_neg (by decide)]) ?_ ?_
        · intro q hq
          rw [z0, if_pos hn] at hq
          exact ⟨Or.inr (Or.inr (Or.inr ⟨rfl, rfl, by rw [zq_ix]; omega⟩)), zq_in.mpr ⟨by omega, by omega⟩, rfl, rfl, Or.inr (Or.inr (Or.inr ⟨rfl, hq, h5.2, hv⟩))⟩
        · unfold zyF24
          simp only [zys25_3, zys14_3, f27, zq_bind, zqb_n0, zqb_e0, decide_eq_true_eq, decide_eq_false_iff_not]
          rw [if_neg (not_not_intro hn), if_pos hv]
        · rw [if_pos (show (3 : Int32).toInt = 3 from rfl), if_neg (by decide)]; exact hv
      · refine bad ?_ (Or.inr ?_)
        · unfold zyF24
          simp only [zys25_3, zys14_3, zq_bind, zqb_n0, zqb_e0, decide_eq_true_eq, decide_eq_false_iff_not]
          rw [if_neg (not_not_intro hn), if_neg hv]
        · rw [if_pos (show (3 : Int32).toInt = 3 from rfl), if_neg (by decide)]; exact hv
    · refine bad ?_ (Or.inl ?_)
      · unfold zyF24
        simp only [zys25_3, zq_bind, zqb_e0, decide_eq_false_iff_not]
        rw [if_pos hn]
      · rw [z0, if_neg hn]; decide
  have i0 : ¬ w.toInt = 0 := fun g => w0 (zq_ext g)
  have i1 : ¬ w.toInt = 1 := fun g => w1 (zq_ext g)
  have i2 : ¬ w.toInt = 2 := fun g => w2 (zq_ext g)
  have i3 : ¬ w.toInt = 3 := fun g => w3 (zq_ext g)
  refine bad ?_ (Or.inl ?_)
  · unfold zyF24 zyF25
    rw [if_neg w0, if_neg w1, if_neg w2, if_neg w3, zq_bind, if_pos rfl]
  · unfold zqp
    rw [if_neg (by omega), if_neg i2, if_neg i3]
    decide
end
section
/-! PART 46.5: undo, redo. Made by wip/v4/gen_undo.py. -/
theorem zRow_pl {P w n b a q c e : Int32} (h : zRow P w n b a q c e) (hP : P.toInt ≤ 8) : ∃ cc k, zPl cc k q.toNatClampNeg ∧ zy_in q 41 = true ∧ zPv cc b ∧ zPv cc a ∧ ∀ (v : Int32) (s : zy_S), zyF28 w n v s = some (0, zy_up s cc k v) := by
  obtain ⟨-, -, h⟩ := h
  rcases h with ⟨hw, n0, n1, hq, hb, ha⟩ | ⟨hw, n0, n1, hq, hb, ha⟩ | ⟨hw, n0, n1, hq, hb, ha⟩ | ⟨hw, hq, hb, ha⟩
  · have ew : w = 0 := zq_ext hw
    refine ⟨3, n.toNatClampNeg, Or.inl ⟨rfl, by rw [zq_ix]; omega, by rw [zq_ix, zq_ix]; omega⟩, zq_in.mpr ⟨by omega, by omega⟩, ⟨fun _ => hb, fun g => absurd g (by decide), fun g => absurd g (by decide), fun g => absurd g (by decide)⟩, ⟨fun _ => ha, fun g => absurd g (by decide), fun g => absurd g (by decide), fun g => absurd g (by decide)⟩, fun v s => ?_⟩
    unfold zyF28
    rw [if_pos ew, if_pos (zq_in.mpr ⟨n0, by omega⟩)]
  · have ew : w = 1 := zq_ext hw
    subst ew
    refine ⟨4, n.toNatClampNeg, Or.inr (Or.inl ⟨rfl, by rw [zq_ix]; omega, by rw [zq_ix, zq_ix]; omega⟩), zq_in.mpr ⟨by omega, by omega⟩, ⟨fun g => absurd g (by decide), fun _ => hb, fun g => absurd g (by decide), fun g => absurd g (by decide)⟩, ⟨fun g => absurd g (by decide), fun _ => ha, fun g => absurd g (by decide), fun g => absurd g (by decide)⟩, fun v s => ?_⟩
    unfold zyF28
    rw [if_neg (by decide), if_pos rfl, if_pos (zq_in.mpr ⟨n0, by omega⟩)]
  · have ew : w = 2 := zq_ext hw
    subst ew
    refine ⟨2, n.toNatClampNeg, Or.inr (Or.inr (Or.inl ⟨rfl, by rw [zq_ix]; omega, by rw [zq_ix, zq_ix]; omega⟩)), zq_in.mpr ⟨by omega, by omega⟩, ⟨fun g => absurd g (by decide), fun g => absurd g (by decide), fun _ => hb, fun g => absurd g (by decide)⟩, ⟨fun g => absurd g (by decide), fun g => absurd g (by decide), fun _ => ha, fun g => absurd g (by decide)⟩, fun v s => ?_⟩
    unfold zyF28
    rw [if_neg (by decide), if_neg (by decide), if_pos rfl, if_pos (zq_in.mpr ⟨n0, by omega⟩)]
  · have ew : w = 3 := zq_ext hw
    subst ew
    refine ⟨1, 4, Or.inr (Or.inr (Or.inr ⟨rfl, rfl, by rw [zq_ix]; omega⟩)), zq_in.mpr ⟨by omega, by omega⟩, ⟨fun g => absurd g (by decide), fun g => absurd g (by decide), fun g => absurd g (by decide), fun _ => hb⟩, ⟨fun g => absurd g (by decide), fun g => absurd g (by decide), fun g => absurd g (by decide), fun _ => ha⟩, fun v s => ?_⟩
    unfold zyF28
    rw [if_neg (by decide), if_neg (by decide), if_neg (by decide)]
/-- a step in the journals: the pointers, and one place of the town -/
theorem zI_jmp {c k Q : Nat} {v x : Int32} {s t : zy_S} (h : zI s) (hp : zPl c k Q) (hv : zPv c v) (x0 : 0 ≤ x.toInt) (x1 : x.toInt ≤ (s.1 22 6).toInt) (ht2 : t.2 = s.2)
    (hat : ∀ a b, t.1 a b = if (a = 22 ∧ b = 5) ∨ (a = 43 ∧ b = 5) then x else if (a = c ∧ b = k) ∨ (a = 44 ∧ b = Q) then v else s.1 a b) : zI t := by
  obtain ⟨hw, hg, h1, h2, h3, h4, h5, h6, h7, h8, h9, h10, h11, h12, h13, h14, h15, h16, h17, h18, h19, h20, h21⟩ := id h
  obtain ⟨j1, j2, j3, j4, j5⟩ := id h12
  have hc : c = 1 ∨ c = 2 ∨ c = 3 ∨ c = 4 := by unfold zPl at hp; omega
  have hc1 : c = 1 → k = 4 := by unfold zPl at hp; omega
  have e : ∀ a b, zmn a → t.1 a b = s.1 a b := by
    intro a b ha
    unfold zmn at ha
    rw [hat, if_neg (by omega), if_neg (by omega)]
  have e1 : ∀ b, b ≠ 4 → t.1 1 b = s.1 1 b := by
    intro b hb
    rw [hat, if_neg (by omega), if_neg (by omega)]
  have e43 : ∀ b, b ≠ 4 → b ≠ 5 → t.1 43 b = s.1 43 b := by
    intro b _ hb
    rw [hat, if_neg (by omega), if_neg (by omega)]
  have eo : ∀ a b, a ≠ 22 → a ≠ 43 → a ≠ 44 → a ≠ c → t.1 a b = s.1 a b := by
    intro a b a1 a2 a3 a4
    rw [hat, if_neg (by omega), if_neg (by omega)]
  have et : ∀ a b, a < 22 → t.1 a b = if a = c ∧ b = k then v else s.1 a b := by
    intro a b ha
    rw [hat, if_neg (by omega)]
    by_cases g : a = c ∧ b = k
    · rw [if_pos (Or.inl g), if_pos g]
    · rw [if_neg (by omega), if_neg g]
  obtain ⟨q2, q3, q4, q5⟩ := zPl_R (t := t) hp hv h2 h3 h4 h5 (fun p => et 3 p (by decide)) (fun p => et 4 p (by decide)) (fun p => et 2 p (by decide)) (et 1 4 (by decide)) (fun p => by
    rw [hat, if_neg (by omega)]
    by_cases g : p = Q
    · rw [if_pos (Or.inr ⟨rfl, g⟩), if_pos g]
    · rw [if_neg (by omega), if_neg g])
  have a5 : t.1 22 5 = x := by rw [hat, if_pos (Or.inl ⟨rfl, rfl⟩)]
  have m5 : t.1 43 5 = x := by rw [hat, if_pos (Or.inr ⟨rfl, rfl⟩)]
  have a6 : t.1 22 6 = s.1 22 6 := by rw [hat, if_neg (by omega), if_neg (by omega)]
  have m4 : t.1 43 4 = s.1 43 4 := by rw [hat, if_neg (by omega), if_neg (by omega)]
  have q12 : zR12 t := by
    unfold zR12
    rw [a5, m5, a6, m4]
    exact ⟨rfl, j2, x0, x1, j5⟩
  have q13 : zR13 t := by
    intro p hp6
    rw [a6] at hp6
    rw [e1 5 (by decide), eo 23 p (by decide) (by decide) (by decide) (by omega), eo 24 p (by decide) (by decide) (by decide) (by omega), eo 25 p (by decide) (by decide) (by decide) (by omega), eo 26 p (by decide) (by decide) (by decide) (by omega),
      eo 45 p (by decide) (by decide) (by decide) (by omega), eo 46 p (by decide) (by decide) (by decide) (by omega), eo 47 p (by decide) (by decide) (by decide) (by omega)]
    exact h13 p hp6
  exact zI_mend h ht2 (zRg_mend hg e e1 e43 q5 q12) e e1 e43 q2 q3 q4 q5 q12 q13
theorem zop_undo {s : zy_S} (h : zI s) : ∃ r s1 s2, zyF144 s = some (r, s1) ∧ zyF176 s1 = some (r, s2) ∧ zI s2 := by
  obtain ⟨hw, hg, h1, h2, h3, h4, h5, h6, h7, h8, h9, h10, h11, h12, h13, h14, h15, h16, h17, h18, h19, h20, h21⟩ := id h
  obtain ⟨j1, j2, j3, j4, j5⟩ := id h12
  by_cases hu : (s.1 22 5).toInt ≤ 0
  · refine ⟨-5, s, s, ?_, ?_, h⟩
    · unfold zyF144
      rw [if_pos (by rw [Int32.le_iff_toInt_le, zq_l0]; exact hu)]
    · unfold zyF176
      have e : s.1 43 5 = 0 := by rw [← j1]; exact zq_ext (by rw [zq_l0]; omega)
      rw [if_neg (show ¬ (s.1 43 5 ≠ 0) from fun g => g e)]
  · obtain ⟨u, hu'⟩ : ∃ u : Nat, (s.1 22 5).toInt = (u : Int) + 1 := ⟨((s.1 22 5).toInt - 1).toNat, by omega⟩
    obtain ⟨x, hx⟩ : ∃ x, x = s.1 22 5 - 1 := ⟨_, rfl⟩
    have ex : x.toInt = (u : Int) := by rw [hx, zq_sub (by rw [zq_l1]; omega) (by rw [zq_l1]; omega), zq_l1]; omega
    have exn : x.toNatClampNeg = u := by rw [zq_ix]; omega
    have hin : zy_in x 40 = true := zq_in.mpr ⟨by omega, by omega⟩
    have row := h13 u (by omega)
    obtain ⟨c, k, hp, hq, vb, va, f28⟩ := zRow_pl row h1.2.2
    obtain ⟨rb, ra, -⟩ := id row
    have hc : c = 1 ∨ c = 2 ∨ c = 3 ∨ c = 4 := by unfold zPl at hp; omega
    refine ⟨x, zy_up (zy_up s 22 5 x) c k (s.1 25 u), zy_up (zy_up (zy_up (zy_up s 22 5 x) c k (s.1 25 u)) 43 5 x) 44 (s.1 45 u).toNatClampNeg (s.1 46 u), ?_, ?_, ?_⟩
    · unfold zyF144 zyF145
      rw [if_neg (by rw [Int32.le_iff_toInt_le, zq_l0]; exact hu), ← hx, if_pos hin, if_pos hin, if_pos hin, exn, f28]
      simp only [zq_bind]
      rw [zf_up (by omega), zf_upe]
    · have o : ∀ a b, 43 ≤ a → (zy_up (zy_up s 22 5 x) c k (s.1 25 u)).1 a b = s.1 a b := fun a b ha => by rw [zf_up (by omega), zf_up (by omega)]
      have o5 : (zy_up (zy_up s 22 5 x) c k (s.1 25 u)).1 43 5 = s.1 22 5 := by rw [o 43 5 (by decide), j1]
      unfold zyF176
      rw [o5, ← hx, exn, o 45 u (by decide), o 46 u (by decide), if_pos (show s.1 22 5 ≠ 0 from fun g => by rw [g, zq_l0] at hu; omega), if_pos hin, if_pos hin, if_pos hq]
    · refine zI_jmp h hp (v := s.1 25 u) vb (x := x) (by omega) (by omega) rfl ?_
      intro a b
      rw [← rb]
      simp only [zy_up_at]
      by_cases g1 : a = 44 ∧ b = (s.1 45 u).toNatClampNeg
      · rw [if_pos g1, if_neg (by omega), if_pos (Or.inr g1)]
      · rw [if_neg g1]
        by_cases g2 : a = 43 ∧ b = 5
        · rw [if_pos g2, if_pos (Or.inr g2)]
        · rw [if_neg g2]
          by_cases g3 : a = c ∧ b = k
          · rw [if_pos g3, if_neg (by omega), if_pos (Or.inl g3)]
          · rw [if_neg g3]
            by_cases g4 : a = 22 ∧ b = 5
            · rw [if_pos g4, if_pos (Or.inl g4)]
            · rw [if_neg g4, if_neg (by omega), if_neg (by omega)]
theorem zop_redo {s : zy_S} (h : zI s) : ∃ r s1 s2, zyF146 s = some (r, s1) ∧ zyF177 s1 = some (r, s2) ∧ zI s2 := by
  obtain ⟨hw, hg, h1, h2, h3, h4, h5, h6, h7, h8, h9, h10, h11, h12, h13, h14, h15, h16, h17, h18, h19, h20, h21⟩ := id h
  obtain ⟨j1, j2, j3, j4, j5⟩ := id h12
  by_cases hu : (s.1 22 6).toInt ≤ (s.1 22 5).toInt
  · refine ⟨-5, s, s, ?_, ?_, h⟩
    · unfold zyF146
      rw [if_pos (by rw [Int32.le_iff_toInt_le]; exact hu)]
    · unfold zyF177
      have e : s.1 43 5 = s.1 43 4 := by rw [← j1, ← j2]; exact zq_ext (by omega)
      rw [if_neg (show ¬ (s.1 43 5 ≠ s.1 43 4) from fun g => g e)]
  · obtain ⟨u, hu'⟩ : ∃ u : Nat, (s.1 22 5).toInt = (u : Int) := ⟨(s.1 22 5).toInt.toNat, by omega⟩
    obtain ⟨x, hx⟩ : ∃ x, x = s.1 22 5 + 1 := ⟨_, rfl⟩
    have ex : x.toInt = (u : Int) + 1 := by rw [hx, zq_add (by rw [zq_l1]; omega) (by rw [zq_l1]; omega), zq_l1]; omega
    have exn : (s.1 22 5).toNatClampNeg = u := by rw [zq_ix]; omega
    have hin : zy_in (s.1 22 5) 40 = true := zq_in.mpr ⟨by omega, by omega⟩
    have row := h13 u (by omega)
    obtain ⟨c, k, hp, hq, vb, va, f28⟩ := zRow_pl row h1.2.2
    obtain ⟨rb, ra, -⟩ := id row
    have hc : c = 1 ∨ c = 2 ∨ c = 3 ∨ c = 4 := by unfold zPl at hp; omega
    refine ⟨s.1 22 6 - x, zy_up (zy_up s c k (s.1 26 u)) 22 5 x, zy_up (zy_up (zy_up (zy_up s c k (s.1 26 u)) 22 5 x) 44 (s.1 45 u).toNatClampNeg (s.1 47 u)) 43 5 x, ?_, ?_, ?_⟩
    · unfold zyF146 zyF147
      rw [if_neg (by rw [Int32.le_iff_toInt_le]; exact hu), if_pos hin, if_pos hin, if_pos hin, exn, f28]
      simp only [zq_bind]
      rw [zf_up (show 22 ≠ c by omega), zf_up (show 22 ≠ c by omega), ← hx]
    · have o : ∀ a b, 43 ≤ a → (zy_up (zy_up s c k (s.1 26 u)) 22 5 x).1 a b = s.1 a b := fun a b ha => by rw [zf_up (by omega), zf_up (by omega)]
      have o5 : (zy_up (zy_up s c k (s.1 26 u)) 22 5 x).1 43 5 = s.1 22 5 := by rw [o 43 5 (by decide), j1]
      have o4 : (zy_up (zy_up s c k (s.1 26 u)) 22 5 x).1 43 4 = s.1 22 6 := by rw [o 43 4 (by decide), j2]
      unfold zyF177
      rw [o5, o4, exn, o 45 u (by decide), o 47 u (by decide), if_pos (show s.1 22 5 ≠ s.1 22 6 from fun g => hu (by rw [g]; exact Int.le_refl _)), if_pos hin, if_pos hin, if_pos hq, ← hx]
    · refine zI_jmp h hp (v := s.1 26 u) va (x := x) (by omega) (by omega) rfl ?_
      intro a b
      rw [← ra]
      simp only [zy_up_at]
      by_cases g2 : a = 43 ∧ b = 5
      · rw [if_pos g2, if_pos (Or.inr g2)]
      · rw [if_neg g2]
        by_cases g1 : a = 44 ∧ b = (s.1 45 u).toNatClampNeg
        · rw [if_pos g1, if_neg (by omega), if_pos (Or.inr g1)]
        · rw [if_neg g1]
          by_cases g4 : a = 22 ∧ b = 5
          · rw [if_pos g4, if_pos (Or.inl g4)]
          · rw [if_neg g4]
            by_cases g3 : a = c ∧ b = k
            · rw [if_pos g3, if_neg (by omega), if_pos (Or.inl g3)]
            · rw [if_neg g3, if_neg (by omega), if_neg (by omega)]
end
section
/-! PART 46.6: chalk: write, strike, rub, won. Made by wip/v4/gen_chalk.py. -/
/-- how many LINEs stand -/
def zpc (L : Int32) : Int32 := Int32.ofInt (zpo L.toInt)
theorem zpo_le (b : Int) : 0 ≤ zpo b ∧ zpo b ≤ 24 := by
  have := zpopN_le b.toNat 24
  unfold zpo
  omega
theorem zpc_e {L c : Int32} (h : c.toInt = zpo L.toInt) : c = zpc L := by
  have := zpo_le L.toInt
  apply zq_ext
  rw [h]
  exact (Int32.toInt_ofInt_of_le (by omega) (by omega)).symm
theorem zys63 {L : Int32} (s : zy_S) (h0 : 0 ≤ L.toInt) (h1 : L.toInt ≤ 16777215) : zyF63 L s = some (zpc L, s) := by
  have l10 := fun a b => zb_cEq 10 a b (by omega)
  have l11 := fun a b => zb_cEq 11 a b (by omega)
  have l13 := fun a b => zb_cEq 13 a b (by omega)
  have l18 := fun a b => zb_cEq 18 a b (by omega)
  have k1 : (1431655765 : Int32).toInt = 1431655765 := by decide
  have k2 : (858993459 : Int32).toInt = 858993459 := by decide
  have k3 : (252645135 : Int32).toInt = 252645135 := by decide
  have k4 : (63 : Int32).toInt = 63 := by decide
  obtain ⟨a, ha⟩ : ∃ a, a = zb 11 L (zb 13 (zb 18 L 1) 1431655765) := ⟨_, rfl⟩
  obtain ⟨b, hb⟩ : ∃ b, b = zb 10 (zb 13 a 858993459) (zb 13 (zb 18 a 2) 858993459) := ⟨_, rfl⟩
  obtain ⟨c, hc⟩ : ∃ c, c = zb 13 (zb 10 b (zb 18 b 4)) 252645135 := ⟨_, rfl⟩
  obtain ⟨d, hd⟩ : ∃ d, d = zb 10 c (zb 18 c 8) := ⟨_, rfl⟩
  obtain ⟨e, he⟩ : ∃ e, e = zb 13 (zb 10 d (zb 18 d 16)) 63 := ⟨_, rfl⟩
  have f : zyF63 L s = some (e, s) := by
    rw [he, hd, hc, hb, ha]
    rfl
  have ea : a.toInt = zbcA L.toInt := by rw [ha, l11, l13, l18, k1]; rfl
  have eb : b.toInt = zbcB a.toInt := by rw [hb, l10, l13, l13, l18, k2]; rfl
  have ec : c.toInt = zbcC b.toInt := by rw [hc, l13, l10, l18, k3]; rfl
  have ed : d.toInt = zbcD c.toInt := by rw [hd, l10, l18]; rfl
  have ee : e.toInt = zbcE d.toInt := by rw [he, l13, l10, l18, k4]; rfl
  have g : e.toInt = zpo L.toInt := by
    rw [ee, ed, ec, eb, ea]
    exact zpo_bc h0 h1
  rw [f, zpc_e g]
theorem zl_209 (L : Int32) : ∀ (n k : Nat) (acc i : Int32) (s : zy_S), k ≤ 24 → 24 - k < n → i.toInt = (k : Int) → acc.toInt = zbits k L.toInt → ∃ c, zyF209_4 n L acc i s = some (c, s) ∧ c.toInt = zbits 24 L.toInt
  | 0, k, acc, i, s, hk, hn, hi, ha => by omega
  | n + 1, k, acc, i, s, hk, hn, hi, ha => by
    show ∃ c, zyF209_4b (zyF209_4 n) L acc i s = some (c, s) ∧ _
    unfold zyF209_4b
    by_cases h : k = 24
    · rw [if_pos (by rw [Int32.le_iff_toInt_le, zq_l24]; omega)]
      exact ⟨acc, rfl, by rw [ha, h]⟩
    · rw [if_neg (by rw [Int32.le_iff_toInt_le, zq_l24]; omega)]
      refine zl_209 L n (k + 1) _ _ s (by omega) (by omega) (by rw [zq_add (by rw [zq_l1]; omega) (by rw [zq_l1]; omega), zq_l1, hi]; omega) ?_
      have e1 : (zb 10 acc (zb 13 (zb 17 L i) 1)).toInt = zb_c 10 acc.toInt (zb_c 13 (zb_c 17 L.toInt i.toInt) 1) := by
        rw [zb_cEq 10 _ _ (by omega), zb_cEq 13 _ _ (by omega), zb_cEq 17 _ _ (by omega)]
        rfl
      rw [ha, hi] at e1
      exact e1
theorem zys209 {L : Int32} (s : zy_S) (h0 : 0 ≤ L.toInt) (h1 : L.toInt ≤ 16777215) : zyF209 L s = some (zpc L, s) := by
  obtain ⟨c, f, g⟩ := zl_209 L zy_fu 0 0 0 s (by decide) (by unfold zy_fu; omega) rfl rfl
  rw [zpo_bits h0 h1] at g
  unfold zyF209
  rw [f, zpc_e g]
/-- whether a LINE stands -/
def zbt (L x : Int32) : Bool := decide (((L >>> (x &&& 31)) &&& (1 : Int32)) = 1)
theorem zys208 (L x : Int32) (s : zy_S) : zyF208 L x s = some (zqb (zbt L x), s) := by
  unfold zyF208 zbt
  refine zqb_d (x := 0) (fun h => ?_) (fun h => ?_)
  · rw [if_neg (fun g => g h)]
  · rw [if_pos h]
theorem zys86 (x : Int32) (s : zy_S) : zyF86 x s = some (zqb (zbt (s.1 1 3) x), s) := by
  unfold zyF86 zyF32 zbt
  rw [zq_bind]
  refine zqb_d (x := 0) (fun h => ?_) (fun h => ?_)
  · rw [if_neg (fun g => g h)]
  · rw [if_pos h]
theorem zys92 {s : zy_S} (h0 : 0 ≤ (s.1 1 3).toInt) (h1 : (s.1 1 3).toInt ≤ 16777215) : zyF92 s = some (zpc (s.1 1 3), s) := by
  unfold zyF92
  rw [zys63 s h0 h1]
  rfl
theorem zys91 {s : zy_S} (h0 : 0 ≤ (s.1 1 3).toInt) (h1 : (s.1 1 3).toInt ≤ 16777215) : zyF91 s = some (zqb (decide (¬ (s.1 1 4).toInt ≤ (zpc (s.1 1 3)).toInt)), s) := by
  unfold zyF91
  rw [zys92 h0 h1, zq_bind]
  refine zqb_d (x := 0) (fun h => ?_) (fun h => ?_)
  · rw [if_neg (by rw [Int32.le_iff_toInt_le]; exact h)]
  · rw [if_pos (by rw [Int32.le_iff_toInt_le]; exact Classical.not_not.mp h)]
theorem zys219 {L : Int32} {s : zy_S} (h0 : 0 ≤ L.toInt) (h1 : L.toInt ≤ 16777215) : zyF219 L s = some (zqb (decide (¬ (s.1 44 40).toInt ≤ (zpc L).toInt)), s) := by
  unfold zyF219
  rw [zys209 s h0 h1, zq_bind]
  refine zqb_d (x := 0) (fun h => ?_) (fun h => ?_)
  · rw [if_neg (by rw [Int32.le_iff_toInt_le]; exact h)]
  · rw [if_pos (by rw [Int32.le_iff_toInt_le]; exact Classical.not_not.mp h)]
theorem zbs_1 {x : Int32} (h0 : 0 ≤ x.toInt) (h1 : x.toInt ≤ 23) : ((1 : Int32) <<< (x &&& 31)).toInt = ((2 ^ x.toInt.toNat : Nat) : Int) := by
  have e : ((1 : Int32) <<< (x &&& 31)).toInt = zb_c 16 1 x.toInt := zb_cEq 16 1 x (by omega)
  have ex : x.toInt = (x.toInt.toNat : Int) := (Int.toNat_of_nonneg h0).symm
  rw [e, ex, zN_shl1 (by omega), Int.toNat_natCast]
theorem zbs_or {L x : Int32} (l0 : 0 ≤ L.toInt) (l1 : L.toInt ≤ 16777215) (h0 : 0 ≤ x.toInt) (h1 : x.toInt ≤ 23) : zin (L ||| ((1 : Int32) <<< (x &&& 31))) 0 16777215 := by
  have e : (L ||| ((1 : Int32) <<< (x &&& 31))).toInt = zb_c 14 L.toInt ((1 : Int32) <<< (x &&& 31)).toInt := zb_cEq 14 _ _ (by omega)
  have el : L.toInt = (L.toInt.toNat : Int) := (Int.toNat_of_nonneg l0).symm
  have u : 2 ^ x.toInt.toNat ≤ 2 ^ 23 := Nat.pow_le_pow_right (by omega) (by omega)
  rw [zbs_1 h0 h1, el, zN_or (by omega) (by omega)] at e
  have v : L.toInt.toNat ||| 2 ^ x.toInt.toNat < 2 ^ 24 := Nat.or_lt_two_pow (by omega) (by omega)
  unfold zin
  omega
theorem zbs_an {L c : Int32} {n : Nat} (l0 : 0 ≤ L.toInt) (l1 : L.toInt < ((2 ^ n : Nat) : Int)) (hn : 2 ^ n ≤ 2 ^ 30) (c0 : 0 ≤ c.toInt) : 0 ≤ (L &&& (c ^^^ (-1 : Int32))).toInt ∧ (L &&& (c ^^^ (-1 : Int32))).toInt < ((2 ^ n : Nat) : Int) := by
  have e : (L &&& (c ^^^ (-1 : Int32))).toInt = zb_c 13 L.toInt (c ^^^ (-1 : Int32)).toInt := zb_cEq 13 _ _ (by omega)
  have e2 : (c ^^^ (-1 : Int32)).toInt = zb_c 15 c.toInt (-1) := zb_cEq 15 c (-1) (by omega)
  have el : L.toInt = (L.toInt.toNat : Int) := (Int.toNat_of_nonneg l0).symm
  have ec : c.toInt = (c.toInt.toNat : Int) := (Int.toNat_of_nonneg c0).symm
  have ch := zq_hi c
  rw [e2, el, ec, zN_andn (by omega) (by omega)] at e
  have v1 : L.toInt.toNat &&& c.toInt.toNat ≤ L.toInt.toNat := Nat.and_le_left
  have v : L.toInt.toNat ^^^ (L.toInt.toNat &&& c.toInt.toNat) < 2 ^ n := Nat.xor_lt_two_pow (by omega) (by omega)
  omega
/-- cells that chalk leaves -/
def zch (a : Nat) : Prop := a = 0 ∨ (4 ≤ a ∧ a < 18) ∨ (19 ≤ a ∧ a < 43) ∨ (45 ≤ a ∧ a < 54) ∨ 55 ≤ a
theorem zch_sh {d : Nat} (h : d < 6) : zch (zy_sh d) := by unfold zch zy_sh; omega
theorem zI_chalk {s t : zy_S} (h : zI s) (ht2 : t.2 = s.2) (hgt : zRg t) (e : ∀ a b, zch a → t.1 a b = s.1 a b) (e1 : ∀ b, b ≠ 3 → t.1 1 b = s.1 1 b) (e43 : ∀ b, b ≠ 7 → t.1 43 b = s.1 43 b)
    (q2 : zR2 t) (q3 : zR3 t) (q4 : zR4 t) (q5 : zR5 t) (q6 : zR6 t) (q7 : zR7 t) : zI t := by
  obtain ⟨hw, hg, h1, h2, h3, h4, h5, h6, h7, h8, h9, h10, h11, h12, h13, h14, h15, h16, h17, h18, h19, h20, h21⟩ := h
  have hw' : zy_Wb t = true := by
    unfold zy_Wb
    rw [ht2]
    exact hw
  refine ⟨hw', hgt, ?_, ?_, ?_, ?_, ?_, ?_, ?_, ?_, ?_, ?_, ?_, ?_, ?_, ?_, ?_, ?_, ?_, ?_, ?_, ?_, ?_⟩
  · unfold zR1
    rw [e1 5 (by decide), e43 6 (by decide)]
    exact h1
  · exact q2
  · exact q3
  · exact q4
  · exact q5
  · exact q6
  · exact q7
  · unfold zR8
    rw [e 17 2 (by unfold zch; omega), e43 22 (by decide), e 17 3 (by unfold zch; omega), e43 24 (by decide), e 17 4 (by unfold zch; omega), e43 23 (by decide), e1 5 (by decide)]
    exact h8
  · intro p hp
    rw [e 17 4 (by unfold zch; omega)] at hp
    rw [e 20 p (by unfold zch; omega), e 55 p (by unfold zch; omega)]
    exact h9 p hp
  · unfold zR10
    intro p hp
    rw [e 19 p (by unfold zch; omega), e 56 p (by unfold zch; omega)]
    exact h10 p hp
  · unfold zR11
    intro p hp
    rw [e 21 p (by unfold zch; omega), e 57 p (by unfold zch; omega)]
    exact h11 p hp
  · unfold zR12
    rw [e 22 5 (by unfold zch; omega), e43 5 (by decide), e 22 6 (by unfold zch; omega), e43 4 (by decide)]
    exact h12
  · intro p hp
    rw [e 22 6 (by unfold zch; omega)] at hp
    rw [e1 5 (by decide), e 23 p (by unfold zch; omega), e 24 p (by unfold zch; omega), e 25 p (by unfold zch; omega), e 26 p (by unfold zch; omega), e 45 p (by unfold zch; omega), e 46 p (by unfold zch; omega), e 47 p (by unfold zch; omega)]
    exact h13 p hp
  · unfold zR14
    rw [e 27 2 (by unfold zch; omega), e43 28 (by decide)]
    exact h14
  · unfold zR15
    intro p hp
    rw [e 28 p (by unfold zch; omega), e 58 p (by unfold zch; omega)]
    exact h15 p hp
  · unfold zR16
    rw [e 27 3 (by unfold zch; omega), e43 31 (by decide)]
    exact h16
  · unfold zR17
    intro p hp
    rw [e 29 p (by unfold zch; omega), e 59 p (by unfold zch; omega)]
    exact h17 p hp
  · unfold zR18
    rw [e 9 2 (by unfold zch; omega), e43 9 (by decide)]
    exact h18
  · unfold zR19
    refine ⟨fun p hp => ?_, ?_⟩
    · rw [e 10 p (by unfold zch; omega), e 48 p (by unfold zch; omega)]
      exact h19.1 p hp
    · rw [e 5 3 (by unfold zch; omega), e43 11 (by decide), show t.1 6 = s.1 6 from funext fun k => e 6 k (by unfold zch; omega), show t.1 49 = s.1 49 from funext fun k => e 49 k (by unfold zch; omega)]
      exact h19.2
  · intro d hd
    rw [e 27 2 (by unfold zch; omega), e _ _ (zch_sh hd), e _ _ (zch_sh hd), e _ _ (zch_sh hd), e 60 d (by unfold zch; omega), e 61 d (by unfold zch; omega)]
    exact h20 d hd
  · intro d hd j hj
    rw [e _ _ (zch_sh hd), ht2]
    exact h21 d hd j hj
theorem zrg_fuC : ∀ a, a ∈ [2, 3, 18, 54] → ∀ b, b < zrn a → zrg a b = (-2147483648, 2147483647) := by decide +kernel
theorem zRg_chalk {s t : zy_S} (hg : zRg s) (e : ∀ a b, zch a → t.1 a b = s.1 a b) (e1 : ∀ b, b ≠ 3 → t.1 1 b = s.1 1 b) (e43 : ∀ b, b ≠ 7 → t.1 43 b = s.1 43 b) (q5 : zR5 t) (q6 : zR6 t) : zRg t := by
  intro a b hb
  obtain ⟨-, -, c1, c2⟩ := zrg_tw
  by_cases hz : zch a
  · rw [e a b hz]
    exact hg a b hb
  · by_cases hm : a ∈ [2, 3, 18, 54]
    · rw [zrg_fuC a hm b hb]
      exact zin_full _
    · have ha : a = 1 ∨ a = 43 ∨ a = 44 := by
        unfold zch at hz
        simp only [List.mem_cons, List.not_mem_nil, or_false, not_or] at hm
        omega
      rcases ha with rfl | rfl | rfl
      · by_cases hb3 : b = 3
        · subst hb3
          rw [c1]
          exact q6.2
        · rw [e1 b hb3]
          exact hg 1 b hb
      · by_cases h7 : b = 7
        · subst h7
          rw [c2, ← q6.1]
          exact q6.2
        · rw [e43 b h7]
          exact hg 43 b hb
      · rw [zrg_44 b hb]
        by_cases h40 : b = 40
        · subst h40
          rw [if_pos rfl, ← q5.1]
          exact q5.2
        · rw [if_neg h40]
          exact zin_full _
theorem zop_write (x : Int32) {s : zy_S} (h : zI s) : ∃ r s1 s2, zyF131 x s = some (r, s1) ∧ zyF240 x s1 = some (r, s2) ∧ zI s2 := by
  obtain ⟨hw, hg, h1, h2, h3, h4, h5, h6, h7, h8, h9, h10, h11, h12, h13, h14, h15, h16, h17, h18, h19, h20, h21⟩ := id h
  obtain ⟨e6, l0, l1⟩ := id h6
  obtain ⟨e5, r0, r1⟩ := id h5
  by_cases hx : 0 ≤ x.toInt ∧ x.toInt ≤ 23
  · by_cases hb : zbt (s.1 1 3) x = true
    · refine ⟨-5, s, s, ?_, ?_, h⟩
      · unfold zyF131
        simp only [zys26, zys86, true_and, and_true, zqb_t0, Classical.not_not, Bool.not_eq_false, zq_bind, zqb_n0, zqb_e0, decide_eq_true_eq, decide_eq_false_iff_not, ne_eq, zq_eq, Int32.toInt_toInt64, Int32.lt_iff_toInt_lt, Int32.le_iff_toInt_le, zq_l0, zq_lm1, zq_l1, zq_l2, zq_l3, zq_l4, zq_l5, zq_l6, zq_l7, zq_l8, zq_l9, zq_l12, zq_l16, zq_l23, zq_l24, zq_l40, zq_l39, zq_l50, zq_l51, zq_l60, zq_l120, zq_l128, zq_l255, zq_l4095, zq_l4096, zq_j0, zq_j1, zq_j4, zq_j5, zq_j7, zq_j8, zq_j9, zq_j23, zq_j255, zq_j4095]
        rw [if_pos hx, if_pos hb]
      · unfold zyF240
        simp only [zys186, zys208, ← e6, true_and, and_true, zqb_t0, Classical.not_not, Bool.not_eq_false, zq_bind, zqb_n0, zqb_e0, decide_eq_true_eq, decide_eq_false_iff_not, ne_eq, zq_eq, Int32.toInt_toInt64, Int32.lt_iff_toInt_lt, Int32.le_iff_toInt_le, zq_l0, zq_lm1, zq_l1, zq_l2, zq_l3, zq_l4, zq_l5, zq_l6, zq_l7, zq_l8, zq_l9, zq_l12, zq_l16, zq_l23, zq_l24, zq_l40, zq_l39, zq_l50, zq_l51, zq_l60, zq_l120, zq_l128, zq_l255, zq_l4095, zq_l4096, zq_j0, zq_j1, zq_j4, zq_j5, zq_j7, zq_j8, zq_j9, zq_j23, zq_j255, zq_j4095]
        rw [if_pos hx, if_pos hb]
    · by_cases hr : (s.1 1 4).toInt ≤ (zpc (s.1 1 3)).toInt
      · refine ⟨-5, s, s, ?_, ?_, h⟩
        · unfold zyF131
          simp only [zys26, zys86, zys91 l0 l1, true_and, and_true, zqb_t0, Classical.not_not, Bool.not_eq_false, zq_bind, zqb_n0, zqb_e0, decide_eq_true_eq, decide_eq_false_iff_not, ne_eq, zq_eq, Int32.toInt_toInt64, Int32.lt_iff_toInt_lt, Int32.le_iff_toInt_le, zq_l0, zq_lm1, zq_l1, zq_l2, zq_l3, zq_l4, zq_l5, zq_l6, zq_l7, zq_l8, zq_l9, zq_l12, zq_l16, zq_l23, zq_l24, zq_l40, zq_l39, zq_l50, zq_l51, zq_l60, zq_l120, zq_l128, zq_l255, zq_l4095, zq_l4096, zq_j0, zq_j1, zq_j4, zq_j5, zq_j7, zq_j8, zq_j9, zq_j23, zq_j255, zq_j4095]
          rw [if_pos hx, if_neg hb, if_neg (not_not_intro hr)]
        · unfold zyF240
          simp only [zys186, zys208, ← e6, zys219 (s := s) l0 l1, ← e5, true_and, and_true, zqb_t0, Classical.not_not, Bool.not_eq_false, zq_bind, zqb_n0, zqb_e0, decide_eq_true_eq, decide_eq_false_iff_not, ne_eq, zq_eq, Int32.toInt_toInt64, Int32.lt_iff_toInt_lt, Int32.le_iff_toInt_le, zq_l0, zq_lm1, zq_l1, zq_l2, zq_l3, zq_l4, zq_l5, zq_l6, zq_l7, zq_l8, zq_l9, zq_l12, zq_l16, zq_l23, zq_l24, zq_l40, zq_l39, zq_l50, zq_l51, zq_l60, zq_l120, zq_l128, zq_l255, zq_l4095, zq_l4096, zq_j0, zq_j1, zq_j4, zq_j5, zq_j7, zq_j8, zq_j9, zq_j23, zq_j255, zq_j4095]
          rw [if_pos hx, if_neg hb, if_neg (not_not_intro hr)]
      · obtain ⟨L, hL⟩ : ∃ L, L = s.1 1 3 ||| ((1 : Int32) <<< (x &&& 31)) := ⟨_, rfl⟩
        have hLb : zin L 0 16777215 := by rw [hL]; exact zbs_or l0 l1 hx.1 hx.2
        obtain ⟨k, hk⟩ : ∃ k, k = x.toNatClampNeg := ⟨_, rfl⟩
        have ek : (k : Int) = x.toInt := by rw [hk, zq_ix]; omega
        have e16 : ((16 : Int32) + x).toInt = 16 + x.toInt := by rw [zq_add (by rw [zq_l16]; omega) (by rw [zq_l16]; omega), zq_l16]
        have e16n : ((16 : Int32) + x).toNatClampNeg = 16 + k := by rw [zq_ix, e16]; omega
        obtain ⟨s1, hs1⟩ : ∃ s1, s1 = zy_up (zy_up (zy_up s 1 3 L) 2 k 0) 18 0 (s.1 18 0 + 1) := ⟨_, rfl⟩
        obtain ⟨s2, hs2⟩ : ∃ s2, s2 = zy_up (zy_up (zy_up s1 43 7 L) 44 (16 + k) 0) 54 0 (s.1 54 0 + 1) := ⟨_, rfl⟩
        have o1 : ∀ a b, a ≠ 1 → a ≠ 2 → a ≠ 18 → s1.1 a b = s.1 a b := fun a b a1 a2 a3 => by rw [hs1, zf_up a3, zf_up a2, zf_up a1]
        refine ⟨zpc L, s1, s2, ?_, ?_, ?_⟩
        · have f : zyF132 x s = some (zpc L, s1) := by
            unfold zyF132
            rw [if_pos (zq_in.mpr ⟨hx.1, by omega⟩), ← hL, ← hk, ← hs1]
            have g : s1.1 1 3 = L := by rw [hs1, zf_up (by decide), zf_up (by decide), zf_upe]
            rw [zys92 (s := s1) (by rw [g]; exact hLb.1) (by rw [g]; exact hLb.2), g]
            rfl
          unfold zyF131
          simp only [zys26, zys86, zys91 l0 l1, f, true_and, and_true, zqb_t0, Classical.not_not, Bool.not_eq_false, zq_bind, zqb_n0, zqb_e0, decide_eq_true_eq, decide_eq_false_iff_not, ne_eq, zq_eq, Int32.toInt_toInt64, Int32.lt_iff_toInt_lt, Int32.le_iff_toInt_le, zq_l0, zq_lm1, zq_l1, zq_l2, zq_l3, zq_l4, zq_l5, zq_l6, zq_l7, zq_l8, zq_l9, zq_l12, zq_l16, zq_l23, zq_l24, zq_l40, zq_l39, zq_l50, zq_l51, zq_l60, zq_l120, zq_l128, zq_l255, zq_l4095, zq_l4096, zq_j0, zq_j1, zq_j4, zq_j5, zq_j7, zq_j8, zq_j9, zq_j23, zq_j255, zq_j4095]
          rw [if_pos hx, if_neg hb, if_pos hr]
        · have g7 : s1.1 43 7 = s.1 1 3 := by rw [o1 43 7 (by decide) (by decide) (by decide), e6]
          have g40 : s1.1 44 40 = s.1 1 4 := by rw [o1 44 40 (by decide) (by decide) (by decide), e5]
          have g54 : s1.1 54 0 = s.1 54 0 := o1 54 0 (by decide) (by decide) (by decide)
          have f : (zyF209 L s2).bind (fun p5 => some (p5.1, p5.2)) = some (zpc L, s2) := by
            rw [zys209 s2 hLb.1 hLb.2]
            rfl
          unfold zyF240
          simp only [zys186, zys208, g7, zys219 (s := s1) l0 l1, g40, g54, true_and, and_true, zqb_t0, Classical.not_not, Bool.not_eq_false, zq_bind, zqb_n0, zqb_e0, decide_eq_true_eq, decide_eq_false_iff_not, ne_eq, zq_eq, Int32.toInt_toInt64, Int32.lt_iff_toInt_lt, Int32.le_iff_toInt_le, zq_l0, zq_lm1, zq_l1, zq_l2, zq_l3, zq_l4, zq_l5, zq_l6, zq_l7, zq_l8, zq_l9, zq_l12, zq_l16, zq_l23, zq_l24, zq_l40, zq_l39, zq_l50, zq_l51, zq_l60, zq_l120, zq_l128, zq_l255, zq_l4095, zq_l4096, zq_j0, zq_j1, zq_j4, zq_j5, zq_j7, zq_j8, zq_j9, zq_j23, zq_j255, zq_j4095]
          rw [if_pos hx, if_neg hb, if_pos hr, if_pos (zq_in.mpr ⟨by omega, by omega⟩), e16n, ← hL, ← hs2]
          exact f
        · have at2 : ∀ a b, s2.1 a b = if a = 54 ∧ b = 0 then s.1 54 0 + 1 else if a = 44 ∧ b = 16 + k then 0 else if a = 43 ∧ b = 7 then L else if a = 18 ∧ b = 0 then s.1 18 0 + 1 else if a = 2 ∧ b = k then 0 else if a = 1 ∧ b = 3 then L else s.1 a b := by
            intro a b
            rw [hs2, zy_up_at, zy_up_at, zy_up_at, hs1, zy_up_at, zy_up_at, zy_up_at]
          have e : ∀ a b, zch a → s2.1 a b = s.1 a b := by
            intro a b ha
            unfold zch at ha
            rw [at2, if_neg (by omega), if_neg (by omega), if_neg (by omega), if_neg (by omega), if_neg (by omega), if_neg (by omega)]
          have e1 : ∀ b, b ≠ 3 → s2.1 1 b = s.1 1 b := by
            intro b hb3
            rw [at2, if_neg (by omega), if_neg (by omega), if_neg (by omega), if_neg (by omega), if_neg (by omega), if_neg (by omega)]
          have e43 : ∀ b, b ≠ 7 → s2.1 43 b = s.1 43 b := by
            intro b hb7
            rw [at2, if_neg (by omega), if_neg (by omega), if_neg (by omega), if_neg (by omega), if_neg (by omega), if_neg (by omega)]
          have e2 : ∀ p, s2.1 2 p = if 2 = 2 ∧ p = k then 0 else s.1 2 p := by
            intro p
            rw [at2, if_neg (by omega), if_neg (by omega), if_neg (by omega), if_neg (by omega)]
            by_cases g : p = k
            · rw [if_pos ⟨rfl, g⟩, if_pos ⟨rfl, g⟩]
            · rw [if_neg (by omega), if_neg (by omega), if_neg (by omega)]
          have e3 : ∀ p, s2.1 3 p = if 3 = 2 ∧ p = k then 0 else s.1 3 p := by
            intro p
            rw [at2, if_neg (by omega), if_neg (by omega), if_neg (by omega), if_neg (by omega), if_neg (by omega), if_neg (by omega), if_neg (by omega)]
          have e4 : ∀ p, s2.1 4 p = if 4 = 2 ∧ p = k then 0 else s.1 4 p := by
            intro p
            rw [at2, if_neg (by omega), if_neg (by omega), if_neg (by omega), if_neg (by omega), if_neg (by omega), if_neg (by omega), if_neg (by omega)]
          have e44 : ∀ p, s2.1 44 p = if p = 16 + k then 0 else s.1 44 p := by
            intro p
            rw [at2, if_neg (by omega)]
            by_cases g : p = 16 + k
            · rw [if_pos ⟨rfl, g⟩, if_pos g]
            · rw [if_neg (by omega), if_neg (by omega), if_neg (by omega), if_neg (by omega), if_neg (by omega), if_neg g]
          obtain ⟨q2, q3, q4, q5⟩ := zPl_R (c := 2) (k := k) (q := 16 + k) (v := 0) (t := s2) (Or.inr (Or.inr (Or.inl ⟨rfl, by omega, rfl⟩))) ⟨fun g => absurd g (by decide), fun g => absurd g (by decide), fun _ => ⟨by decide, by decide⟩, fun g => absurd g (by decide)⟩ h2 h3 h4 h5 e3 e4 e2 (by rw [e1 4 (by decide), if_neg (by omega)]) e44
          have q6 : zR6 s2 := by
            unfold zR6
            have a1 : s2.1 1 3 = L := by rw [at2, if_neg (by omega), if_neg (by omega), if_neg (by omega), if_neg (by omega), if_neg (by omega), if_pos ⟨rfl, rfl⟩]
            have a2 : s2.1 43 7 = L := by rw [at2, if_neg (by omega), if_neg (by omega), if_pos ⟨rfl, rfl⟩]
            rw [a1, a2]
            exact ⟨rfl, hLb⟩
          have q7 : zR7 s2 := by
            intro p hp
            have g := h7 p hp
            have g0 := h7 0 (by decide)
            rw [at2, at2]
            by_cases gp : p = 0
            · subst gp
              rw [if_neg (by omega), if_neg (by omega), if_neg (by omega), if_pos ⟨rfl, rfl⟩, if_pos ⟨rfl, rfl⟩, g0]
            · rw [if_neg (by omega), if_neg (by omega), if_neg (by omega), if_neg (by omega), if_neg (by omega), if_neg (by omega), if_neg (by omega), if_neg (by omega), if_neg (by omega), if_neg (by omega), if_neg (by omega), if_neg (by omega)]
              exact g
          exact zI_chalk h (by rw [hs2, hs1]; rfl) (zRg_chalk hg e e1 e43 q5 q6) e e1 e43 q2 q3 q4 q5 q6 q7
  · refine ⟨-1, s, s, ?_, ?_, h⟩
    · unfold zyF131
      simp only [zys26, true_and, and_true, zqb_t0, Classical.not_not, Bool.not_eq_false, zq_bind, zqb_n0, zqb_e0, decide_eq_true_eq, decide_eq_false_iff_not, ne_eq, zq_eq, Int32.toInt_toInt64, Int32.lt_iff_toInt_lt, Int32.le_iff_toInt_le, zq_l0, zq_lm1, zq_l1, zq_l2, zq_l3, zq_l4, zq_l5, zq_l6, zq_l7, zq_l8, zq_l9, zq_l12, zq_l16, zq_l23, zq_l24, zq_l40, zq_l39, zq_l50, zq_l51, zq_l60, zq_l120, zq_l128, zq_l255, zq_l4095, zq_l4096, zq_j0, zq_j1, zq_j4, zq_j5, zq_j7, zq_j8, zq_j9, zq_j23, zq_j255, zq_j4095]
      rw [if_neg hx]
    · unfold zyF240
      simp only [zys186, true_and, and_true, zqb_t0, Classical.not_not, Bool.not_eq_false, zq_bind, zqb_n0, zqb_e0, decide_eq_true_eq, decide_eq_false_iff_not, ne_eq, zq_eq, Int32.toInt_toInt64, Int32.lt_iff_toInt_lt, Int32.le_iff_toInt_le, zq_l0, zq_lm1, zq_l1, zq_l2, zq_l3, zq_l4, zq_l5, zq_l6, zq_l7, zq_l8, zq_l9, zq_l12, zq_l16, zq_l23, zq_l24, zq_l40, zq_l39, zq_l50, zq_l51, zq_l60, zq_l120, zq_l128, zq_l255, zq_l4095, zq_l4096, zq_j0, zq_j1, zq_j4, zq_j5, zq_j7, zq_j8, zq_j9, zq_j23, zq_j255, zq_j4095]
      rw [if_neg hx]
end
section
/-! PART 46.7: feed, image, back. Made by wip/v4/gen_image.py. -/
-- feed
theorem zrg_tp : zrg 9 2 = (0, 120) ∧ zrg 43 9 = (0, 120) ∧ (∀ k, k < 120 → zrg 10 k = (0, 255) ∧ zrg 48 k = (0, 255)) := by decide +kernel
theorem zop_feed (x : Int32) {s : zy_S} (h : zI s) : ∃ r s1 s2, zyF33 x s = some (r, s1) ∧ zyF189 x s1 = some (r, s2) ∧ zI s2 := by
  obtain ⟨hw, hg, h1, h2, h3, h4, h5, h6, h7, h8, h9, h10, h11, h12, h13, h14, h15, h16, h17, h18, h19, h20, h21⟩ := id h
  obtain ⟨e18, b0, b1⟩ := id h18
  by_cases hx : 0 ≤ x.toInt ∧ x.toInt ≤ 255
  · by_cases hf : 120 ≤ (s.1 9 2).toInt
    · refine ⟨-3, s, s, ?_, ?_, h⟩
      · unfold zyF33
        simp only [zys34, true_and, and_true, zqb_t0, Classical.not_not, Bool.not_eq_false, zq_bind, zqb_n0, zqb_e0, decide_eq_true_eq, decide_eq_false_iff_not, ne_eq, zq_eq, Int32.toInt_toInt64, Int32.lt_iff_toInt_lt, Int32.le_iff_toInt_le, zq_l0, zq_lm1, zq_l1, zq_l2, zq_l3, zq_l4, zq_l5, zq_l6, zq_l7, zq_l8, zq_l9, zq_l12, zq_l16, zq_l23, zq_l24, zq_l40, zq_l39, zq_l50, zq_l51, zq_l60, zq_l120, zq_l128, zq_l255, zq_l4095, zq_l4096, zq_j0, zq_j1, zq_j4, zq_j5, zq_j7, zq_j8, zq_j9, zq_j23, zq_j255, zq_j4095]
        rw [if_neg (by omega), if_pos (by omega), if_neg (by omega)]
      · unfold zyF189
        simp only [zys179, ← e18, true_and, and_true, zqb_t0, Classical.not_not, Bool.not_eq_false, zq_bind, zqb_n0, zqb_e0, decide_eq_true_eq, decide_eq_false_iff_not, ne_eq, zq_eq, Int32.toInt_toInt64, Int32.lt_iff_toInt_lt, Int32.le_iff_toInt_le, zq_l0, zq_lm1, zq_l1, zq_l2, zq_l3, zq_l4, zq_l5, zq_l6, zq_l7, zq_l8, zq_l9, zq_l12, zq_l16, zq_l23, zq_l24, zq_l40, zq_l39, zq_l50, zq_l51, zq_l60, zq_l120, zq_l128, zq_l255, zq_l4095, zq_l4096, zq_j0, zq_j1, zq_j4, zq_j5, zq_j7, zq_j8, zq_j9, zq_j23, zq_j255, zq_j4095]
        rw [if_pos hx, if_neg (by omega)]
    · have en : (s.1 9 2 + 1).toInt = (s.1 9 2).toInt + 1 := zq_add (by rw [zq_l1]; omega) (by rw [zq_l1]; omega)
      have hin : zy_in (s.1 9 2) 120 = true := zq_in.mpr ⟨b0, by omega⟩
      obtain ⟨n, hn⟩ : ∃ n, n = (s.1 9 2).toNatClampNeg := ⟨_, rfl⟩
      have en2 : (n : Int) = (s.1 9 2).toInt := by rw [hn, zq_ix]; omega
      obtain ⟨t1, t2, t3⟩ := zrg_tp
      have hb : zin (s.1 9 2 + 1) 0 120 := ⟨by omega, by omega⟩
      refine ⟨s.1 9 2 + 1, zy_up (zy_up s 10 n x) 9 2 (s.1 9 2 + 1), zy_up (zy_up (zy_up (zy_up s 10 n x) 9 2 (s.1 9 2 + 1)) 48 n x) 43 9 (s.1 9 2 + 1), ?_, ?_, ?_⟩
      · unfold zyF33 zyF35
        simp only [zys34, true_and, and_true, zqb_t0, Classical.not_not, Bool.not_eq_false, zq_bind, zqb_n0, zqb_e0, decide_eq_true_eq, decide_eq_false_iff_not, ne_eq, zq_eq, Int32.toInt_toInt64, Int32.lt_iff_toInt_lt, Int32.le_iff_toInt_le, zq_l0, zq_lm1, zq_l1, zq_l2, zq_l3, zq_l4, zq_l5, zq_l6, zq_l7, zq_l8, zq_l9, zq_l12, zq_l16, zq_l23, zq_l24, zq_l40, zq_l39, zq_l50, zq_l51, zq_l60, zq_l120, zq_l128, zq_l255, zq_l4095, zq_l4096, zq_j0, zq_j1, zq_j4, zq_j5, zq_j7, zq_j8, zq_j9, zq_j23, zq_j255, zq_j4095]
        rw [if_neg (by omega), if_pos (by omega), if_pos (by omega), if_pos hin, ← hn]
        rfl
      · unfold zyF189
        have e : (zy_up (zy_up s 10 n x) 9 2 (s.1 9 2 + 1)).1 43 9 = s.1 9 2 := e18.symm
        simp only [zys179, e, true_and, and_true, zqb_t0, Classical.not_not, Bool.not_eq_false, zq_bind, zqb_n0, zqb_e0, decide_eq_true_eq, decide_eq_false_iff_not, ne_eq, zq_eq, Int32.toInt_toInt64, Int32.lt_iff_toInt_lt, Int32.le_iff_toInt_le, zq_l0, zq_lm1, zq_l1, zq_l2, zq_l3, zq_l4, zq_l5, zq_l6, zq_l7, zq_l8, zq_l9, zq_l12, zq_l16, zq_l23, zq_l24, zq_l40, zq_l39, zq_l50, zq_l51, zq_l60, zq_l120, zq_l128, zq_l255, zq_l4095, zq_l4096, zq_j0, zq_j1, zq_j4, zq_j5, zq_j7, zq_j8, zq_j9, zq_j23, zq_j255, zq_j4095]
        rw [if_pos hx, if_pos (by omega), if_pos hin, ← hn]
      · exact ⟨hw, (zRg_upF (zRg_upF (zRg_upF (zRg_upF hg (t3 n (by omega)).1 hx) t1 hb) (t3 n (by omega)).2 hx) t2 hb), h1, h2, h3, h4, h5, h6, h7, h8, h9, h10, h11, h12, h13, h14, h15, h16, h17, ⟨rfl, hb⟩, ⟨(fun p hp => by
          have := zf_two (o := 0) (k := n) (g := s.1 48) (fun p hp => by rw [Nat.zero_add]; exact h19.1 p hp) hx p hp
          rw [Nat.zero_add, Nat.zero_add] at this
          rw [zf_up (by decide), zf_up (by decide), zf_up (by decide), zf_upr, zf_up (by decide), zf_upr, zf_up (by decide), zf_up (by decide)]
          exact this), h19.2⟩, (zR20_of h20 rfl (fun d hd k => by rw [zf_sh (by decide) hd, zf_sh (by decide) hd, zf_sh (by decide) hd, zf_sh (by decide) hd]) (fun d hd => rfl) (fun d hd => rfl)), (zR21_of h21 (fun d hd k => by rw [zf_sh (by decide) hd, zf_sh (by decide) hd, zf_sh (by decide) hd, zf_sh (by decide) hd]) rfl)⟩
  · refine ⟨-1, s, s, ?_, ?_, h⟩
    · unfold zyF33
      simp only [true_and, and_true, zqb_t0, Classical.not_not, Bool.not_eq_false, zq_bind, zqb_n0, zqb_e0, decide_eq_true_eq, decide_eq_false_iff_not, ne_eq, zq_eq, Int32.toInt_toInt64, Int32.lt_iff_toInt_lt, Int32.le_iff_toInt_le, zq_l0, zq_lm1, zq_l1, zq_l2, zq_l3, zq_l4, zq_l5, zq_l6, zq_l7, zq_l8, zq_l9, zq_l12, zq_l16, zq_l23, zq_l24, zq_l40, zq_l39, zq_l50, zq_l51, zq_l60, zq_l120, zq_l128, zq_l255, zq_l4095, zq_l4096, zq_j0, zq_j1, zq_j4, zq_j5, zq_j7, zq_j8, zq_j9, zq_j23, zq_j255, zq_j4095]
      by_cases h0 : x.toInt < 0
      · rw [if_pos h0]
      · rw [if_neg h0, if_neg (by omega)]
    · unfold zyF189
      simp only [zys179, true_and, and_true, zqb_t0, Classical.not_not, Bool.not_eq_false, zq_bind, zqb_n0, zqb_e0, decide_eq_true_eq, decide_eq_false_iff_not, ne_eq, zq_eq, Int32.toInt_toInt64, Int32.lt_iff_toInt_lt, Int32.le_iff_toInt_le, zq_l0, zq_lm1, zq_l1, zq_l2, zq_l3, zq_l4, zq_l5, zq_l6, zq_l7, zq_l8, zq_l9, zq_l12, zq_l16, zq_l23, zq_l24, zq_l40, zq_l39, zq_l50, zq_l51, zq_l60, zq_l120, zq_l128, zq_l255, zq_l4095, zq_l4096, zq_j0, zq_j1, zq_j4, zq_j5, zq_j7, zq_j8, zq_j9, zq_j23, zq_j255, zq_j4095]
      rw [if_neg hx]
/-! image and back -/
theorem zl_245_80 : ∀ (n k : Nat) (i : Int32) (s : zy_S), k ≤ 5 → 5 - k < n → i.toInt = (k : Int) →
    ∃ t, zyF245_80 n i s = (zyF209 (t.1 43 7) t).bind (fun p1 => some (p1.1, p1.2)) ∧ t.2 = s.2 ∧ ∀ a b, t.1 a b = if a = 57 ∧ 0 + k ≤ b ∧ b < 0 + 5 then s.1 54 (b - 0 + 0) else s.1 a b
  | 0, k, i, s, hk, hn, hi => by omega
  | n + 1, k, i, s, hk, hn, hi => by
    show ∃ t, zyF245_80b (zyF245_80 n) i s = (zyF209 (t.1 43 7) t).bind (fun p1 => some (p1.1, p1.2)) ∧ _
    unfold zyF245_80b
    by_cases h : k = 5
    · rw [if_pos (by rw [Int32.le_iff_toInt_le, show (5 : Int32).toInt = 5 from rfl]; omega)]
      refine ⟨s, rfl, rfl, fun a b => ?_⟩
      rw [if_neg (by omega)]
    · have ei : i.toNatClampNeg = k := by rw [zq_ix]; omega
      rw [if_neg (by rw [Int32.le_iff_toInt_le, show (5 : Int32).toInt = 5 from rfl]; omega), if_pos (zq_in.mpr ⟨by omega, by omega⟩), if_pos (zq_in.mpr ⟨by omega, by omega⟩), ei]
      obtain ⟨t, q1, q2, q3⟩ := zl_245_80 n (k + 1) (i + 1) (zy_up s 57 (k) (s.1 54 (k))) (by omega) (by omega) (by rw [zq_add (by rw [zq_l1]; omega) (by rw [zq_l1]; omega), zq_l1, hi]; omega)
      refine ⟨t, q1, q2, fun a b => ?_⟩
      rw [q3, zf_up (show 54 ≠ 57 by decide), zy_up_at]
      by_cases g : a = 57 ∧ 0 + k ≤ b ∧ b < 0 + 5
      · rw [if_pos g]
        by_cases g2 : b = k
        · rw [if_neg (by omega), if_pos ⟨g.1, g2⟩, show b - 0 + 0 = k by omega]
        · rw [if_pos (by omega)]
      · rw [if_neg g, if_neg (by omega), if_neg (by omega)]
theorem zl_245_51 : ∀ (n k : Nat) (i : Int32) (s : zy_S), k ≤ 24 → 24 - k < n → i.toInt = (k : Int) →
    ∃ t, zyF245_51 n i s = zyF245_80 zy_fu 0 t ∧ t.2 = s.2 ∧ ∀ a b, t.1 a b = if a = 56 ∧ 0 + k ≤ b ∧ b < 0 + 24 then s.1 44 (b - 0 + 16) else s.1 a b
  | 0, k, i, s, hk, hn, hi => by omega
  | n + 1, k, i, s, hk, hn, hi => by
    show ∃ t, zyF245_51b (zyF245_51 n) i s = zyF245_80 zy_fu 0 t ∧ _
    unfold zyF245_51b
    by_cases h : k = 24
    · rw [if_pos (by rw [Int32.le_iff_toInt_le, zq_l24]; omega)]
      refine ⟨s, rfl, rfl, fun a b => ?_⟩
      rw [if_neg (by omega)]
    · have ei : i.toNatClampNeg = k := by rw [zq_ix]; omega
      have e16 : ((16 : Int32) + i).toInt = 16 + (k : Int) := by rw [zq_add (by rw [zq_l16]; omega) (by rw [zq_l16]; omega), zq_l16, hi]
      have e16n : ((16 : Int32) + i).toNatClampNeg = 16 + k := by rw [zq_ix, e16]; omega
      rw [if_neg (by rw [Int32.le_iff_toInt_le, zq_l24]; omega), if_pos (zq_in.mpr ⟨by omega, by omega⟩), if_pos (zq_in.mpr ⟨by omega, by omega⟩), ei, e16n]
      obtain ⟨t, q1, q2, q3⟩ := zl_245_51 n (k + 1) (i + 1) (zy_up s 56 (k) (s.1 44 (16 + k))) (by omega) (by omega) (by rw [zq_add (by rw [zq_l1]; omega) (by rw [zq_l1]; omega), zq_l1, hi]; omega)
      refine ⟨t, q1, q2, fun a b => ?_⟩
      rw [q3, zf_up (show 44 ≠ 56 by decide), zy_up_at]
      by_cases g : a = 56 ∧ 0 + k ≤ b ∧ b < 0 + 24
      · rw [if_pos g]
        by_cases g2 : b = k
        · rw [if_neg (by omega), if_pos ⟨g.1, g2⟩, show b - 0 + 16 = 16 + k by omega]
        · rw [if_pos (by omega)]
      · rw [if_neg g, if_neg (by omega), if_neg (by omega)]
theorem zl_245_23 (N : Nat) (h8 : N ≤ 8) : ∀ (n k : Nat) (i : Int32) (s : zy_S), (s.1 43 6).toInt = (N : Int) → k ≤ N → N - k < n → i.toInt = (k : Int) →
    ∃ t, zyF245_23 n i s = zyF245_51 zy_fu 0 t ∧ t.2 = s.2 ∧ ∀ a b, t.1 a b = if a = 55 ∧ 0 + k ≤ b ∧ b < 0 + N then s.1 44 (b - 0 + 0) else s.1 a b
  | 0, k, i, s, hN, hk, hn, hi => by omega
  | n + 1, k, i, s, hN, hk, hn, hi => by
    show ∃ t, zyF245_23b (zyF245_23 n) i s = zyF245_51 zy_fu 0 t ∧ _
    unfold zyF245_23b
    by_cases h : k = N
    · rw [if_pos (by rw [Int32.le_iff_toInt_le, hN]; omega)]
      refine ⟨s, rfl, rfl, fun a b => ?_⟩
      rw [if_neg (by omega)]
    · have ei : i.toNatClampNeg = k := by rw [zq_ix]; omega
      rw [if_neg (by rw [Int32.le_iff_toInt_le, hN]; omega), if_pos (zq_in.mpr ⟨by omega, by omega⟩), if_pos (zq_in.mpr ⟨by omega, by omega⟩), ei]
      obtain ⟨t, q1, q2, q3⟩ := zl_245_23 N h8 n (k + 1) (i + 1) (zy_up s 55 (k) (s.1 44 (k))) (by rw [zf_up (by decide)]; exact hN) (by omega) (by omega) (by rw [zq_add (by rw [zq_l1]; omega) (by rw [zq_l1]; omega), zq_l1, hi]; omega)
      refine ⟨t, q1, q2, fun a b => ?_⟩
      rw [q3, zf_up (show 44 ≠ 55 by decide), zy_up_at]
      by_cases g : a = 55 ∧ 0 + k ≤ b ∧ b < 0 + N
      · rw [if_pos g]
        by_cases g2 : b = k
        · rw [if_neg (by omega), if_pos ⟨g.1, g2⟩, show b - 0 + 0 = k by omega]
        · rw [if_pos (by omega)]
      · rw [if_neg g, if_neg (by omega), if_neg (by omega)]
theorem zl_246_77 : ∀ (n k : Nat) (i : Int32) (s : zy_S), k ≤ 5 → 5 - k < n → i.toInt = (k : Int) →
    ∃ t, zyF246_77 n i s = (zyF209 (t.1 43 7) t).bind (fun p1 => some (p1.1, p1.2)) ∧ t.2 = s.2 ∧ ∀ a b, t.1 a b = if a = 54 ∧ 0 + k ≤ b ∧ b < 0 + 5 then s.1 57 (b - 0 + 0) else s.1 a b
  | 0, k, i, s, hk, hn, hi => by omega
  | n + 1, k, i, s, hk, hn, hi => by
    show ∃ t, zyF246_77b (zyF246_77 n) i s = (zyF209 (t.1 43 7) t).bind (fun p1 => some (p1.1, p1.2)) ∧ _
    unfold zyF246_77b
    by_cases h : k = 5
    · rw [if_pos (by rw [Int32.le_iff_toInt_le, show (5 : Int32).toInt = 5 from rfl]; omega)]
      refine ⟨s, rfl, rfl, fun a b => ?_⟩
      rw [if_neg (by omega)]
    · have ei : i.toNatClampNeg = k := by rw [zq_ix]; omega
      rw [if_neg (by rw [Int32.le_iff_toInt_le, show (5 : Int32).toInt = 5 from rfl]; omega), if_pos (zq_in.mpr ⟨by omega, by omega⟩), if_pos (zq_in.mpr ⟨by omega, by omega⟩), ei]
      obtain ⟨t, q1, q2, q3⟩ := zl_246_77 n (k + 1) (i + 1) (zy_up s 54 (k) (s.1 57 (k))) (by omega) (by omega) (by rw [zq_add (by rw [zq_l1]; omega) (by rw [zq_l1]; omega), zq_l1, hi]; omega)
      refine ⟨t, q1, q2, fun a b => ?_⟩
      rw [q3, zf_up (show 57 ≠ 54 by decide), zy_up_at]
      by_cases g : a = 54 ∧ 0 + k ≤ b ∧ b < 0 + 5
      · rw [if_pos g]
        by_cases g2 : b = k
        · rw [if_neg (by omega), if_pos ⟨g.1, g2⟩, show b - 0 + 0 = k by omega]
        · rw [if_pos (by omega)]
      · rw [if_neg g, if_neg (by omega), if_neg (by omega)]
theorem zl_246_48 : ∀ (n k : Nat) (i : Int32) (s : zy_S), k ≤ 24 → 24 - k < n → i.toInt = (k : Int) →
    ∃ t, zyF246_48 n i s = zyF246_77 zy_fu 0 t ∧ t.2 = s.2 ∧ ∀ a b, t.1 a b = if a = 44 ∧ 16 + k ≤ b ∧ b < 16 + 24 then s.1 56 (b - 16 + 0) else s.1 a b
  | 0, k, i, s, hk, hn, hi => by omega
  | n + 1, k, i, s, hk, hn, hi => by
    show ∃ t, zyF246_48b (zyF246_48 n) i s = zyF246_77 zy_fu 0 t ∧ _
    unfold zyF246_48b
    by_cases h : k = 24
    · rw [if_pos (by rw [Int32.le_iff_toInt_le, zq_l24]; omega)]
      refine ⟨s, rfl, rfl, fun a b => ?_⟩
      rw [if_neg (by omega)]
    · have ei : i.toNatClampNeg = k := by rw [zq_ix]; omega
      have e16 : ((16 : Int32) + i).toInt = 16 + (k : Int) := by rw [zq_add (by rw [zq_l16]; omega) (by rw [zq_l16]; omega), zq_l16, hi]
      have e16n : ((16 : Int32) + i).toNatClampNeg = 16 + k := by rw [zq_ix, e16]; omega
      rw [if_neg (by rw [Int32.le_iff_toInt_le, zq_l24]; omega), if_pos (zq_in.mpr ⟨by omega, by omega⟩), if_pos (zq_in.mpr ⟨by omega, by omega⟩), ei, e16n]
      obtain ⟨t, q1, q2, q3⟩ := zl_246_48 n (k + 1) (i + 1) (zy_up s 44 (16 + k) (s.1 56 (k))) (by omega) (by omega) (by rw [zq_add (by rw [zq_l1]; omega) (by rw [zq_l1]; omega), zq_l1, hi]; omega)
      refine ⟨t, q1, q2, fun a b => ?_⟩
      rw [q3, zf_up (show 56 ≠ 44 by decide), zy_up_at]
      by_cases g : a = 44 ∧ 16 + k ≤ b ∧ b < 16 + 24
      · rw [if_pos g]
        by_cases g2 : b = 16 + k
        · rw [if_neg (by omega), if_pos ⟨g.1, g2⟩, show b - 16 + 0 = k by omega]
        · rw [if_pos (by omega)]
      · rw [if_neg g, if_neg (by omega), if_neg (by omega)]
theorem zl_246_20 (N : Nat) (h8 : N ≤ 8) : ∀ (n k : Nat) (i : Int32) (s : zy_S), (s.1 43 23).toInt = (N : Int) → k ≤ N → N - k < n → i.toInt = (k : Int) →
    ∃ t, zyF246_20 n i s = zyF246_48 zy_fu 0 t ∧ t.2 = s.2 ∧ ∀ a b, t.1 a b = if a = 44 ∧ 0 + k ≤ b ∧ b < 0 + N then s.1 55 (b - 0 + 0) else s.1 a b
  | 0, k, i, s, hN, hk, hn, hi => by omega
  | n + 1, k, i, s, hN, hk, hn, hi => by
    show ∃ t, zyF246_20b (zyF246_20 n) i s = zyF246_48 zy_fu 0 t ∧ _
    unfold zyF246_20b
    by_cases h : k = N
    · rw [if_pos (by rw [Int32.le_iff_toInt_le, hN]; omega)]
      refine ⟨s, rfl, rfl, fun a b => ?_⟩
      rw [if_neg (by omega)]
    · have ei : i.toNatClampNeg = k := by rw [zq_ix]; omega
      rw [if_neg (by rw [Int32.le_iff_toInt_le, hN]; omega), if_pos (zq_in.mpr ⟨by omega, by omega⟩), if_pos (zq_in.mpr ⟨by omega, by omega⟩), ei]
      obtain ⟨t, q1, q2, q3⟩ := zl_246_20 N h8 n (k + 1) (i + 1) (zy_up s 44 (k) (s.1 55 (k))) (by rw [zf_up (by decide)]; exact hN) (by omega) (by omega) (by rw [zq_add (by rw [zq_l1]; omega) (by rw [zq_l1]; omega), zq_l1, hi]; omega)
      refine ⟨t, q1, q2, fun a b => ?_⟩
      rw [q3, zf_up (show 55 ≠ 44 by decide), zy_up_at]
      by_cases g : a = 44 ∧ 0 + k ≤ b ∧ b < 0 + N
      · rw [if_pos g]
        by_cases g2 : b = k
        · rw [if_neg (by omega), if_pos ⟨g.1, g2⟩, show b - 0 + 0 = k by omega]
        · rw [if_pos (by omega)]
      · rw [if_neg g, if_neg (by omega), if_neg (by omega)]
/-- cells that an image leaves -/
def zim (a : Nat) : Prop := a < 17 ∨ a = 18 ∨ (22 ≤ a ∧ a < 43) ∨ (44 ≤ a ∧ a < 55) ∨ 58 ≤ a
theorem zim_sh {d : Nat} (h : d < 6) : zim (zy_sh d) := by unfold zim zy_sh; omega
theorem zI_image {s t : zy_S} (h : zI s) (ht2 : t.2 = s.2) (hgt : zRg t) (e : ∀ a b, zim a → t.1 a b = s.1 a b) (e43 : ∀ b, b ≠ 22 → b ≠ 23 → b ≠ 24 → t.1 43 b = s.1 43 b)
    (q8 : zR8 t) (q9 : zR9 t) (q10 : zR10 t) (q11 : zR11 t) : zI t := by
  obtain ⟨hw, hg, h1, h2, h3, h4, h5, h6, h7, h8, h9, h10, h11, h12, h13, h14, h15, h16, h17, h18, h19, h20, h21⟩ := h
  have hw' : zy_Wb t = true := by
    unfold zy_Wb
    rw [ht2]
    exact hw
  refine ⟨hw', hgt, ?_, ?_, ?_, ?_, ?_, ?_, ?_, ?_, ?_, ?_, ?_, ?_, ?_, ?_, ?_, ?_, ?_, ?_, ?_, ?_, ?_⟩
  · unfold zR1
    rw [e 1 5 (by unfold zim; omega), e43 6 (by decide) (by decide) (by decide)]
    exact h1
  · unfold zR2
    intro p hp
    rw [e 3 p (by unfold zim; omega), e 44 p (by unfold zim; omega)]
    exact h2 p hp
  · unfold zR3
    intro p hp
    rw [e 4 p (by unfold zim; omega), e 44 (8 + p) (by unfold zim; omega)]
    exact h3 p hp
  · unfold zR4
    intro p hp
    rw [e 2 p (by unfold zim; omega), e 44 (16 + p) (by unfold zim; omega)]
    exact h4 p hp
  · unfold zR5
    rw [e 1 4 (by unfold zim; omega), e 44 40 (by unfold zim; omega)]
    exact h5
  · unfold zR6
    rw [e 1 3 (by unfold zim; omega), e43 7 (by decide) (by decide) (by decide)]
    exact h6
  · unfold zR7
    intro p hp
    rw [e 18 p (by unfold zim; omega), e 54 p (by unfold zim; omega)]
    exact h7 p hp
  · exact q8
  · exact q9
  · exact q10
  · exact q11
  · unfold zR12
    rw [e 22 5 (by unfold zim; omega), e43 5 (by decide) (by decide) (by decide), e 22 6 (by unfold zim; omega), e43 4 (by decide) (by decide) (by decide)]
    exact h12
  · intro p hp
    rw [e 22 6 (by unfold zim; omega)] at hp
    rw [e 1 5 (by unfold zim; omega), e 23 p (by unfold zim; omega), e 24 p (by unfold zim; omega), e 25 p (by unfold zim; omega), e 26 p (by unfold zim; omega), e 45 p (by unfold zim; omega), e 46 p (by unfold zim; omega), e 47 p (by unfold zim; omega)]
    exact h13 p hp
  · unfold zR14
    rw [e 27 2 (by unfold zim; omega), e43 28 (by decide) (by decide) (by decide)]
    exact h14
  · unfold zR15
    intro p hp
    rw [e 28 p (by unfold zim; omega), e 58 p (by unfold zim; omega)]
    exact h15 p hp
  · unfold zR16
    rw [e 27 3 (by unfold zim; omega), e43 31 (by decide) (by decide) (by decide)]
    exact h16
  · unfold zR17
    intro p hp
    rw [e 29 p (by unfold zim; omega), e 59 p (by unfold zim; omega)]
    exact h17 p hp
  · unfold zR18
    rw [e 9 2 (by unfold zim; omega), e43 9 (by decide) (by decide) (by decide)]
    exact h18
  · unfold zR19
    refine ⟨fun p hp => ?_, ?_⟩
    · rw [e 10 p (by unfold zim; omega), e 48 p (by unfold zim; omega)]
      exact h19.1 p hp
    · rw [e 5 3 (by unfold zim; omega), e43 11 (by decide) (by decide) (by decide), show t.1 6 = s.1 6 from funext fun k => e 6 k (by unfold zim; omega), show t.1 49 = s.1 49 from funext fun k => e 49 k (by unfold zim; omega)]
      exact h19.2
  · intro d hd
    rw [e 27 2 (by unfold zim; omega), e _ _ (zim_sh hd), e _ _ (zim_sh hd), e _ _ (zim_sh hd), e 60 d (by unfold zim; omega), e 61 d (by unfold zim; omega)]
    exact h20 d hd
  · intro d hd j hj
    rw [e _ _ (zim_sh hd), ht2]
    exact h21 d hd j hj
theorem zrg_fuI : ∀ a, a ∈ [19, 20, 21, 55, 56, 57] → ∀ b, b < zrn a → zrg a b = (-2147483648, 2147483647) := by decide +kernel
theorem zrg_17 : ∀ b, b < zrn 17 → zrg 17 b = if b = 2 then (0, 1) else if b = 3 then (0, 16777215) else if b = 4 then (0, 8) else (-2147483648, 2147483647) := by decide +kernel
theorem zrg_43i : zrg 43 22 = (0, 1) ∧ zrg 43 23 = (0, 8) ∧ zrg 43 24 = (0, 16777215) := by decide +kernel
theorem zop_image {s : zy_S} (h : zI s) : ∃ r s1 s2, zyF140 s = some (r, s1) ∧ zyF245 s1 = some (r, s2) ∧ zI s2 := by
  obtain ⟨hw, hg, h1, h2, h3, h4, h5, h6, h7, h8, h9, h10, h11, h12, h13, h14, h15, h16, h17, h18, h19, h20, h21⟩ := id h
  obtain ⟨e6, l0, l1⟩ := id h6
  obtain ⟨e1, p0, p1⟩ := id h1
  obtain ⟨s1, hs1⟩ : ∃ s1, s1 = zy_ua (zy_ua (zy_ua (zy_up (zy_up (zy_up s 17 2 1) 17 3 (s.1 1 3)) 17 4 (s.1 1 5)) 19 (va_cpy (s.1 2) (s.1 19) 0 0 24)) 20 (va_cpy (s.1 3) (s.1 20) 0 0 8)) 21 (va_cpy (s.1 18) (s.1 21) 0 0 5) := ⟨_, rfl⟩
  have a1 : ∀ a b, s1.1 a b = if a = 21 then va_cpy (s.1 18) (s.1 21) 0 0 5 b else if a = 20 then va_cpy (s.1 3) (s.1 20) 0 0 8 b else if a = 19 then va_cpy (s.1 2) (s.1 19) 0 0 24 b else if a = 17 ∧ b = 4 then s.1 1 5 else if a = 17 ∧ b = 3 then s.1 1 3 else if a = 17 ∧ b = 2 then 1 else s.1 a b := by
    intro a b
    rw [hs1, zy_ua_at, zy_ua_at, zy_ua_at, zy_up_at, zy_up_at, zy_up_at]
  have o1 : ∀ a b, zim a ∨ 43 ≤ a → s1.1 a b = s.1 a b := by
    intro a b ha
    unfold zim at ha
    rw [a1, if_neg (by omega), if_neg (by omega), if_neg (by omega), if_neg (by omega), if_neg (by omega), if_neg (by omega)]
  obtain ⟨N, hN⟩ : ∃ N : Nat, (s.1 43 6).toInt = (N : Int) := ⟨(s.1 43 6).toInt.toNat, by rw [← e1]; omega⟩
  have hN8 : N ≤ 8 := by rw [← e1] at hN; omega
  obtain ⟨u, hu⟩ : ∃ u, u = zy_up (zy_up (zy_up s1 43 22 1) 43 23 (s.1 43 6)) 43 24 (s.1 43 7) := ⟨_, rfl⟩
  have au : ∀ a b, u.1 a b = if a = 43 ∧ b = 24 then s.1 43 7 else if a = 43 ∧ b = 23 then s.1 43 6 else if a = 43 ∧ b = 22 then 1 else s1.1 a b := by
    intro a b
    rw [hu, zy_up_at, zy_up_at, zy_up_at]
  have u6 : u.1 43 6 = s.1 43 6 := by rw [au, if_neg (by omega), if_neg (by omega), if_neg (by omega)]; exact o1 43 6 (Or.inr (by decide))
  obtain ⟨v, f1, g1, c1⟩ := zl_245_23 N hN8 zy_fu 0 0 u (by rw [u6]; exact hN) (by omega) (by unfold zy_fu; omega) rfl
  obtain ⟨w, f2, g2, c2⟩ := zl_245_51 zy_fu 0 0 v (by omega) (by unfold zy_fu; omega) rfl
  obtain ⟨t, f3, g3, c3⟩ := zl_245_80 zy_fu 0 0 w (by omega) (by unfold zy_fu; omega) rfl
  have at0 : ∀ a b, t.1 a b = if a = 57 ∧ b < 5 then u.1 54 b else if a = 56 ∧ b < 24 then u.1 44 (b + 16) else if a = 55 ∧ b < N then u.1 44 b else u.1 a b := by
    intro a b
    rw [c3 a b]
    by_cases k1 : a = 57 ∧ b < 5
    · rw [if_pos (by omega), if_pos k1, c2 54, if_neg (by omega), c1 54, if_neg (by omega), show b - 0 + 0 = b by omega]
    · rw [if_neg (by omega), if_neg k1, c2 a b]
      by_cases k2 : a = 56 ∧ b < 24
      · rw [if_pos (by omega), if_pos k2, c1 44, if_neg (by omega), show b - 0 + 16 = b + 16 by omega]
      · rw [if_neg (by omega), if_neg k2, c1 a b]
        by_cases k3 : a = 55 ∧ b < N
        · rw [if_pos (by omega), if_pos k3, show b - 0 + 0 = b by omega]
        · rw [if_neg (by omega), if_neg k3]
  have uo : ∀ a b, (zim a ∨ 44 ≤ a) → u.1 a b = s.1 a b := by
    intro a b ha
    unfold zim at ha
    rw [au, if_neg (by omega), if_neg (by omega), if_neg (by omega)]
    exact o1 a b (by unfold zim; omega)
  have e : ∀ a b, zim a → t.1 a b = s.1 a b := by
    intro a b ha
    have ha' := ha
    unfold zim at ha'
    rw [at0, if_neg (by omega), if_neg (by omega), if_neg (by omega)]
    exact uo a b (Or.inl ha)
  have e43 : ∀ b, b ≠ 22 → b ≠ 23 → b ≠ 24 → t.1 43 b = s.1 43 b := by
    intro b b1 b2 b3
    rw [at0, if_neg (by omega), if_neg (by omega), if_neg (by omega), au, if_neg (by omega), if_neg (by omega), if_neg (by omega)]
    exact o1 43 b (Or.inr (by decide))
  have t17 : ∀ b, t.1 17 b = if b = 4 then s.1 1 5 else if b = 3 then s.1 1 3 else if b = 2 then 1 else s.1 17 b := by
    intro b
    rw [at0, if_neg (by omega), if_neg (by omega), if_neg (by omega), au, if_neg (by omega), if_neg (by omega), if_neg (by omega), a1, if_neg (by omega), if_neg (by omega), if_neg (by omega)]
    by_cases b4 : b = 4
    · rw [if_pos ⟨rfl, b4⟩, if_pos b4]
    · rw [if_neg (by omega), if_neg b4]
      by_cases b3 : b = 3
      · rw [if_pos ⟨rfl, b3⟩, if_pos b3]
      · rw [if_neg (by omega), if_neg b3]
        by_cases b2 : b = 2
        · rw [if_pos ⟨rfl, b2⟩, if_pos b2]
        · rw [if_neg (by omega), if_neg b2]
  have t43 : ∀ b, t.1 43 b = if b = 24 then s.1 43 7 else if b = 23 then s.1 43 6 else if b = 22 then 1 else s.1 43 b := by
    intro b
    rw [at0, if_neg (by omega), if_neg (by omega), if_neg (by omega), au, o1 43 b (Or.inr (by decide))]
    by_cases b4 : b = 24
    · rw [if_pos ⟨rfl, b4⟩, if_pos b4]
    · rw [if_neg (by omega), if_neg b4]
      by_cases b3 : b = 23
      · rw [if_pos ⟨rfl, b3⟩, if_pos b3]
      · rw [if_neg (by omega), if_neg b3]
        by_cases b2 : b = 22
        · rw [if_pos ⟨rfl, b2⟩, if_pos b2]
        · rw [if_neg (by omega), if_neg b2]
  have row : ∀ a, a = 19 ∨ a = 20 ∨ a = 21 → ∀ b, t.1 a b = s1.1 a b := by
    intro a ha b
    rw [at0, if_neg (by omega), if_neg (by omega), if_neg (by omega), au, if_neg (by omega), if_neg (by omega), if_neg (by omega)]
  have u2 : t.1 17 2 = 1 := by rw [t17, if_neg (by decide), if_neg (by decide), if_pos rfl]
  have u3 : t.1 17 3 = s.1 1 3 := by rw [t17, if_neg (by decide), if_pos rfl]
  have u4 : t.1 17 4 = s.1 1 5 := by rw [t17, if_pos rfl]
  have v22 : t.1 43 22 = 1 := by rw [t43, if_neg (by decide), if_neg (by decide), if_pos rfl]
  have v23 : t.1 43 23 = s.1 43 6 := by rw [t43, if_neg (by decide), if_pos rfl]
  have v24 : t.1 43 24 = s.1 43 7 := by rw [t43, if_pos rfl]
  have q8 : zR8 t := by
    unfold zR8
    rw [e 1 5 (by unfold zim; omega), u2, u3, u4, v22, v23, v24]
    exact ⟨⟨rfl, by decide, by decide⟩, ⟨e6, l0, l1⟩, e1, p0, Int.le_refl _⟩
  have q9 : zR9 t := by
    intro p hp
    rw [t17 4, if_pos rfl] at hp
    have g := h2 p (by omega)
    rw [row 20 (by omega), a1, if_neg (by decide), if_pos rfl]
    unfold va_cpy
    rw [if_pos (by omega), show 0 + (p - 0) = p by omega, at0, if_neg (by omega), if_neg (by omega), if_pos (by rw [e1] at hp; omega), uo 44 p (Or.inr (by decide))]
    exact g
  have q10 : zR10 t := by
    intro p hp
    have g := h4 p hp
    rw [row 19 (by omega), a1, if_neg (by decide), if_neg (by decide), if_pos rfl]
    unfold va_cpy
    rw [if_pos (by omega), show 0 + (p - 0) = p by omega, at0, if_neg (by omega), if_pos (by omega), uo 44 _ (Or.inr (by decide)), Nat.add_comm p 16]
    exact g
  have q11 : zR11 t := by
    intro p hp
    have g := h7 p hp
    rw [row 21 (by omega), a1, if_pos rfl]
    unfold va_cpy
    rw [if_pos (by omega), show 0 + (p - 0) = p by omega, at0, if_pos (by omega), uo 54 _ (Or.inr (by decide))]
    exact g
  have hg' : zRg t := by
    intro a b hb
    obtain ⟨x1, x2, x3⟩ := zrg_43i
    by_cases hz : zim a
    · rw [e a b hz]
      exact hg a b hb
    · by_cases hm : a ∈ [19, 20, 21, 55, 56, 57]
      · rw [zrg_fuI a hm b hb]
        exact zin_full _
      · have ha : a = 17 ∨ a = 43 := by
          unfold zim at hz
          simp only [List.mem_cons, List.not_mem_nil, or_false, not_or] at hm
          omega
        rcases ha with rfl | rfl
        · rw [zrg_17 b hb]
          by_cases b2 : b = 2
          · rw [if_pos b2, b2, u2]; exact ⟨by decide, by decide⟩
          · rw [if_neg b2]
            by_cases b3 : b = 3
            · rw [if_pos b3, b3, u3]; exact ⟨l0, l1⟩
            · rw [if_neg b3]
              by_cases b4 : b = 4
              · rw [if_pos b4, b4, u4]; exact ⟨p0, p1⟩
              · rw [if_neg b4]; exact zin_full _
        · rw [t43]
          by_cases b4 : b = 24
          · subst b4; rw [x3, if_pos rfl, ← e6]; exact ⟨l0, l1⟩
          · rw [if_neg b4]
            by_cases b3 : b = 23
            · subst b3; rw [x2, if_pos rfl, ← e1]; exact ⟨p0, p1⟩
            · rw [if_neg b3]
              by_cases b2 : b = 22
              · subst b2; rw [x1, if_pos rfl]; exact ⟨by decide, by decide⟩
              · rw [if_neg b2]; exact hg 43 b hb
  refine ⟨zpc (s.1 1 3), s1, t, ?_, ?_, zI_image h (by rw [g3, g2, g1, hu, hs1]; rfl) hg' e e43 q8 q9 q10 q11⟩
  · unfold zyF140 zyF141
    rw [zq_bind, ← hs1]
    have g : s1.1 1 3 = s.1 1 3 := o1 1 3 (Or.inl (by unfold zim; omega))
    rw [zys92 (s := s1) (by rw [g]; exact l0) (by rw [g]; exact l1), g]
    rfl
  · have k6 : s1.1 43 6 = s.1 43 6 := o1 43 6 (Or.inr (by decide))
    have k7 : s1.1 43 7 = s.1 43 7 := o1 43 7 (Or.inr (by decide))
    have t7 : t.1 43 7 = s.1 1 3 := by rw [t43, if_neg (by decide), if_neg (by decide), if_neg (by decide), e6]
    unfold zyF245
    rw [k6, k7, ← hu, f1, f2, f3, t7, zys209 t l0 l1]
    rfl
theorem zop_back {s : zy_S} (h : zI s) : ∃ r s1 s2, zyF142 s = some (r, s1) ∧ zyF246 s1 = some (r, s2) ∧ zI s2 := by
  obtain ⟨hw, hg, h1, h2, h3, h4, h5, h6, h7, h8, h9, h10, h11, h12, h13, h14, h15, h16, h17, h18, h19, h20, h21⟩ := id h
  obtain ⟨⟨i1, i2, i3⟩, ⟨i4, l0, l1⟩, i5, p0, p1⟩ := id h8
  obtain ⟨e1, r0, r1⟩ := id h1
  by_cases hi : s.1 17 2 = 0
  · refine ⟨-5, s, s, ?_, ?_, h⟩
    · unfold zyF142
      rw [if_neg (show ¬ (s.1 17 2 ≠ 0) from fun g => g hi)]
    · unfold zyF246
      rw [if_neg (show ¬ (s.1 43 22 ≠ 0) from fun g => g (i1.symm.trans hi))]
  · obtain ⟨N, hN⟩ : ∃ N : Nat, (s.1 17 4).toInt = (N : Int) := ⟨(s.1 17 4).toInt.toNat, by omega⟩
    have hN8 : N ≤ 8 := by omega
    have hNn : (s.1 17 4).toNatClampNeg = N := by rw [zq_ix]; omega
    obtain ⟨s1, hs1⟩ : ∃ s1, s1 = zy_ua (zy_ua (zy_ua (zy_up s 1 3 (s.1 17 3)) 2 (va_cpy (s.1 19) (s.1 2) 0 0 24)) 3 (va_cpy (s.1 20) (s.1 3) 0 0 N)) 18 (va_cpy (s.1 21) (s.1 18) 0 0 5) := ⟨_, rfl⟩
    have a1 : ∀ a b, s1.1 a b = if a = 18 then va_cpy (s.1 21) (s.1 18) 0 0 5 b else if a = 3 then va_cpy (s.1 20) (s.1 3) 0 0 N b else if a = 2 then va_cpy (s.1 19) (s.1 2) 0 0 24 b else if a = 1 ∧ b = 3 then s.1 17 3 else s.1 a b := by
      intro a b
      rw [hs1, zy_ua_at, zy_ua_at, zy_ua_at, zy_up_at]
    have o1 : ∀ a b, 43 ≤ a → s1.1 a b = s.1 a b := by
      intro a b ha
      rw [a1, if_neg (by omega), if_neg (by omega), if_neg (by omega), if_neg (by omega)]
    obtain ⟨u, hu⟩ : ∃ u, u = zy_up s1 43 7 (s.1 43 24) := ⟨_, rfl⟩
    have au : ∀ a b, u.1 a b = if a = 43 ∧ b = 7 then s.1 43 24 else s1.1 a b := by
      intro a b
      rw [hu, zy_up_at]
    have u23 : u.1 43 23 = s.1 17 4 := by rw [au, if_neg (by omega), o1 43 23 (by decide), i5]
    obtain ⟨v, f1, g1, c1⟩ := zl_246_20 N hN8 zy_fu 0 0 u (by rw [u23]; exact hN) (by omega) (by unfold zy_fu; omega) rfl
    obtain ⟨w, f2, g2, c2⟩ := zl_246_48 zy_fu 0 0 v (by omega) (by unfold zy_fu; omega) rfl
    obtain ⟨t, f3, g3, c3⟩ := zl_246_77 zy_fu 0 0 w (by omega) (by unfold zy_fu; omega) rfl
    have at0 : ∀ a b, t.1 a b = if a = 54 ∧ b < 5 then u.1 57 b else if a = 44 ∧ 16 ≤ b ∧ b < 40 then u.1 56 (b - 16) else if a = 44 ∧ b < N then u.1 55 b else u.1 a b := by
      intro a b
      rw [c3 a b]
      by_cases k1 : a = 54 ∧ b < 5
      · rw [if_pos (by omega), if_pos k1, c2 57, if_neg (by omega), c1 57, if_neg (by omega), show b - 0 + 0 = b by omega]
      · rw [if_neg (by omega), if_neg k1, c2 a b]
        by_cases k2 : a = 44 ∧ 16 ≤ b ∧ b < 40
        · rw [if_pos (by omega), if_pos k2, c1 56, if_neg (by omega), show b - 16 + 0 = b - 16 by omega]
        · rw [if_neg (by omega), if_neg k2, c1 a b]
          by_cases k3 : a = 44 ∧ b < N
          · rw [if_pos (by omega), if_pos k3, show b - 0 + 0 = b by omega]
          · rw [if_neg (by omega), if_neg k3]
    have uo : ∀ a b, a ≠ 43 ∧ 43 ≤ a → u.1 a b = s.1 a b := by
      intro a b ha
      rw [au, if_neg (by omega)]
      exact o1 a b ha.2
    have tl : ∀ a b, a < 43 → t.1 a b = s1.1 a b := by
      intro a b ha
      rw [at0, if_neg (by omega), if_neg (by omega), if_neg (by omega), au, if_neg (by omega)]
    have e : ∀ a b, zch a → t.1 a b = s.1 a b := by
      intro a b ha
      unfold zch at ha
      rw [at0, if_neg (by omega), if_neg (by omega), if_neg (by omega), au, if_neg (by omega), a1, if_neg (by omega), if_neg (by omega), if_neg (by omega), if_neg (by omega)]
    have e1' : ∀ b, b ≠ 3 → t.1 1 b = s.1 1 b := by
      intro b hb
      rw [tl 1 b (by decide), a1, if_neg (by omega), if_neg (by omega), if_neg (by omega), if_neg (by omega)]
    have e43 : ∀ b, b ≠ 7 → t.1 43 b = s.1 43 b := by
      intro b hb
      rw [at0, if_neg (by omega), if_neg (by omega), if_neg (by omega), au, if_neg (by omega)]
      exact o1 43 b (by decide)
    have t13 : t.1 1 3 = s.1 17 3 := by rw [tl 1 3 (by decide), a1, if_neg (by decide), if_neg (by decide), if_neg (by decide), if_pos ⟨rfl, rfl⟩]
    have t437 : t.1 43 7 = s.1 17 3 := by rw [at0, if_neg (by omega), if_neg (by omega), if_neg (by omega), au, if_pos ⟨rfl, rfl⟩, i4]
    have q2 : zR2 t := by
      intro p hp
      have g := h2 p hp
      rw [tl 3 p (by decide), a1, if_neg (by decide), if_pos rfl, at0, if_neg (by omega), if_neg (by omega)]
      unfold va_cpy
      by_cases hpN : p < N
      · have g9 := h9 p (by omega)
        rw [if_pos (by omega), if_pos ⟨rfl, hpN⟩, show 0 + (p - 0) = p by omega, uo 55 p (by decide)]
        exact g9
      · rw [if_neg (by omega), if_neg (by omega), uo 44 p (by decide)]
        exact g
    have q3 : zR3 t := by
      intro p hp
      have g := h3 p hp
      rw [tl 4 p (by decide), a1, if_neg (by decide), if_neg (by decide), if_neg (by decide), if_neg (by omega), at0, if_neg (by omega), if_neg (by omega), if_neg (by omega), uo 44 _ (by decide)]
      exact g
    have q4 : zR4 t := by
      intro p hp
      have g := h10 p hp
      rw [tl 2 p (by decide), a1, if_neg (by decide), if_neg (by decide), if_pos rfl, at0, if_neg (by omega), if_pos (by omega), show 16 + p - 16 = p by omega, uo 56 p (by decide)]
      unfold va_cpy
      rw [if_pos (by omega), show 0 + (p - 0) = p by omega]
      exact g
    have q5 : zR5 t := by
      unfold zR5
      rw [e1' 4 (by decide), at0, if_neg (by omega), if_neg (by omega), if_neg (by omega), uo 44 40 (by decide)]
      exact h5
    have q6 : zR6 t := by
      unfold zR6
      rw [t13, t437]
      exact ⟨rfl, l0, l1⟩
    have q7 : zR7 t := by
      intro p hp
      have g := h11 p hp
      rw [tl 18 p (by decide), a1, if_pos rfl, at0, if_pos (by omega), uo 57 p (by decide)]
      unfold va_cpy
      rw [if_pos (by omega), show 0 + (p - 0) = p by omega]
      exact g
    refine ⟨zpc (s.1 17 3), s1, t, ?_, ?_, zI_chalk h (by rw [g3, g2, g1, hu, hs1]; rfl) (zRg_chalk hg e e1' e43 q5 q6) e e1' e43 q2 q3 q4 q5 q6 q7⟩
    · have hcp : zy_cpB 0 0 (s.1 17 4) 8 8 = true := decide_eq_true ⟨by decide, by decide, p0, by rw [zq_l0]; omega, by rw [zq_l0]; omega⟩
      have s13 : s1.1 1 3 = s.1 17 3 := by rw [a1, if_neg (by decide), if_neg (by decide), if_neg (by decide), if_pos ⟨rfl, rfl⟩]
      unfold zyF142 zyF143
      rw [if_pos (show s.1 17 2 ≠ 0 from hi), if_pos hcp, zq_bind, hNn, ← hs1, zys92 (s := s1) (by rw [s13]; exact l0) (by rw [s13]; exact l1), s13]
      rfl
    · have k22 : s1.1 43 22 = s.1 17 2 := by rw [o1 43 22 (by decide), i1]
      have k24 : s1.1 43 24 = s.1 43 24 := o1 43 24 (by decide)
      unfold zyF246
      rw [k22, if_pos (show s.1 17 2 ≠ 0 from hi), k24, ← hu, f1, f2, f3, t437, zys209 t l0 l1]
      rfl
end
