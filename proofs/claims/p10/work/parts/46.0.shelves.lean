/-! PART 46.0: shelves. Made by wip/v4/gen_sh.py. -/
theorem zsh_ne {d c : Nat} (hd : d < 6) (h : c < 31 ∨ 43 ≤ c) : c ≠ zy_sh d := by unfold zy_sh; omega
theorem zsh_inj {d d' : Nat} (h : zy_sh d = zy_sh d') : d = d' := by unfold zy_sh at h; omega
theorem zrg_sh {d : Nat} (h : d < 6) : zrg (zy_sh d) 1 = (-1, 49) ∧ zrg (zy_sh d) 2 = (-1, 4) ∧ zrg (zy_sh d) 3 = (0, 60) := by
  have key : ∀ d, d < 6 → zrg (zy_sh d) 1 = (-1, 49) ∧ zrg (zy_sh d) 2 = (-1, 4) ∧ zrg (zy_sh d) 3 = (0, 60) := by decide +kernel
  exact key d h
theorem zrg_60 {d : Nat} (h : d < 6) : zrg 60 d = (-1, 54) ∧ zrg 61 d = (0, 60) := by
  have key : ∀ d, d < 6 → zrg 60 d = (-1, 54) ∧ zrg 61 d = (0, 60) := by decide +kernel
  exact key d h
/-- all but shelves is as it was -/
theorem zI_fr {s t : zy_S} (h : zI s) (hW : t.2.2 = s.2.2) (hg : zRg t) (e : ∀ c k, (c < 31 ∨ 43 ≤ c) → c ≠ 60 → c ≠ 61 → t.1 c k = s.1 c k) (h20' : zR20 t) (h21' : zR21 t) : zI t := by
  obtain ⟨hw, hg0, h1, h2, h3, h4, h5, h6, h7, h8, h9, h10, h11, h12, h13, h14, h15, h16, h17, h18, h19, h20, h21⟩ := h
  have hw' : zy_Wb t = true := by
    unfold zy_Wb
    rw [hW]
    exact hw
  refine ⟨hw', hg, ?_, ?_, ?_, ?_, ?_, ?_, ?_, ?_, ?_, ?_, ?_, ?_, ?_, ?_, ?_, ?_, ?_, ?_, ?_, h20', h21'⟩
  · unfold zR1
    rw [e 1 5 (by decide) (by decide) (by decide), e 43 6 (by decide) (by decide) (by decide)]
    exact h1
  · unfold zR2
    intro p hp
    rw [e 3 p (by decide) (by decide) (by decide), e 44 p (by decide) (by decide) (by decide)]
    exact h2 p hp
  · unfold zR3
    intro p hp
    rw [e 4 p (by decide) (by decide) (by decide), e 44 (8 + p) (by decide) (by decide) (by decide)]
    exact h3 p hp
  · unfold zR4
    intro p hp
    rw [e 2 p (by decide) (by decide) (by decide), e 44 (16 + p) (by decide) (by decide) (by decide)]
    exact h4 p hp
  · unfold zR5
    rw [e 1 4 (by decide) (by decide) (by decide), e 44 40 (by decide) (by decide) (by decide)]
    exact h5
  · unfold zR6
    rw [e 1 3 (by decide) (by decide) (by decide), e 43 7 (by decide) (by decide) (by decide)]
    exact h6
  · unfold zR7
    intro p hp
    rw [e 18 p (by decide) (by decide) (by decide), e 54 p (by decide) (by decide) (by decide)]
    exact h7 p hp
  · unfold zR8
    rw [e 17 2 (by decide) (by decide) (by decide), e 43 22 (by decide) (by decide) (by decide), e 17 3 (by decide) (by decide) (by decide), e 43 24 (by decide) (by decide) (by decide), e 17 4 (by decide) (by decide) (by decide), e 43 23 (by decide) (by decide) (by decide), e 1 5 (by decide) (by decide) (by decide)]
    exact h8
  · intro p hp
    rw [e 17 4 (by decide) (by decide) (by decide)] at hp
    rw [e 20 p (by decide) (by decide) (by decide), e 55 p (by decide) (by decide) (by decide)]
    exact h9 p hp
  · unfold zR10
    intro p hp
    rw [e 19 p (by decide) (by decide) (by decide), e 56 p (by decide) (by decide) (by decide)]
    exact h10 p hp
  · unfold zR11
    intro p hp
    rw [e 21 p (by decide) (by decide) (by decide), e 57 p (by decide) (by decide) (by decide)]
    exact h11 p hp
  · unfold zR12
    rw [e 22 5 (by decide) (by decide) (by decide), e 43 5 (by decide) (by decide) (by decide), e 22 6 (by decide) (by decide) (by decide), e 43 4 (by decide) (by decide) (by decide)]
    exact h12
  · intro p hp
    rw [e 22 6 (by decide) (by decide) (by decide)] at hp
    rw [e 1 5 (by decide) (by decide) (by decide), e 23 p (by decide) (by decide) (by decide), e 24 p (by decide) (by decide) (by decide), e 25 p (by decide) (by decide) (by decide), e 26 p (by decide) (by decide) (by decide), e 45 p (by decide) (by decide) (by decide), e 46 p (by decide) (by decide) (by decide), e 47 p (by decide) (by decide) (by decide)]
    exact h13 p hp
  · unfold zR14
    rw [e 27 2 (by decide) (by decide) (by decide), e 43 28 (by decide) (by decide) (by decide)]
    exact h14
  · unfold zR15
    intro p hp
    rw [e 28 p (by decide) (by decide) (by decide), e 58 p (by decide) (by decide) (by decide)]
    exact h15 p hp
  · unfold zR16
    rw [e 27 3 (by decide) (by decide) (by decide), e 43 31 (by decide) (by decide) (by decide)]
    exact h16
  · unfold zR17
    intro p hp
    rw [e 29 p (by decide) (by decide) (by decide), e 59 p (by decide) (by decide) (by decide)]
    exact h17 p hp
  · unfold zR18
    rw [e 9 2 (by decide) (by decide) (by decide), e 43 9 (by decide) (by decide) (by decide)]
    exact h18
  · unfold zR19
    refine ⟨fun p hp => ?_, ?_⟩
    · rw [e 10 p (by decide) (by decide) (by decide), e 48 p (by decide) (by decide) (by decide)]
      exact h19.1 p hp
    · rw [e 5 3 (by decide) (by decide) (by decide), e 43 11 (by decide) (by decide) (by decide), show t.1 6 = s.1 6 from funext fun k => e 6 k (by decide) (by decide) (by decide), show t.1 49 = s.1 49 from funext fun k => e 49 k (by decide) (by decide) (by decide)]
      exact h19.2
/-- one shelf alone is another -/
theorem zI_sh1 {s t : zy_S} (h : zI s) {d : Nat} (hd : d < 6) (hg : zRg t) (hW : t.2.2 = s.2.2) (e : ∀ c k, c ≠ zy_sh d → ¬ (c = 60 ∧ k = d) → ¬ (c = 61 ∧ k = d) → t.1 c k = s.1 c k)
    (hs : zShelf (s.1 27 2) (t.1 (zy_sh d) 1) (t.1 (zy_sh d) 2) (t.1 (zy_sh d) 3) (t.1 60 d) (t.1 61 d))
    (e2 : ∀ d' j, d' < 6 → d' ≠ d → t.2.1 (zy_sh d' + 1) j = s.2.1 (zy_sh d' + 1) j) (e62 : ∀ d' j, d' < 6 → d' ≠ d → j < 60 → t.2.1 62 (60 * d' + j) = s.2.1 62 (60 * d' + j))
    (hj : ∀ j, j < 60 → t.2.1 (zy_sh d + 1) j = t.2.1 62 (60 * d + j) ∧ zfit (t.1 (zy_sh d) 2) (t.2.1 (zy_sh d + 1) j)) : zI t := by
  have h20 : zR20 s := h.2.2.2.2.2.2.2.2.2.2.2.2.2.2.2.2.2.2.2.2.2.1
  have h21 : zR21 s := h.2.2.2.2.2.2.2.2.2.2.2.2.2.2.2.2.2.2.2.2.2.2
  have e27 : t.1 27 2 = s.1 27 2 := e 27 2 (zsh_ne hd (by decide)) (fun q => absurd q.1 (by decide)) (fun q => absurd q.1 (by decide))
  have ne : ∀ d', d' < 6 → d' ≠ d → ∀ k, t.1 (zy_sh d') k = s.1 (zy_sh d') k := fun d' hd' q k =>
    e _ _ (fun w => q (zsh_inj w)) (fun w => zsh_ne hd' (c := 60) (by decide) w.1.symm) (fun w => zsh_ne hd' (c := 61) (by decide) w.1.symm)
  refine zI_fr h hW hg (fun c k hc h60 h61 => e c k (zsh_ne hd hc) (fun q => h60 q.1) (fun q => h61 q.1)) ?_ ?_
  · intro d' hd'
    rw [e27]
    by_cases q : d' = d
    · subst q; exact hs
    · rw [ne d' hd' q, ne d' hd' q, ne d' hd' q, e 60 d' (zsh_ne hd (by decide)) (fun w => q w.2) (fun w => q w.2), e 61 d' (zsh_ne hd (by decide)) (fun w => q w.2) (fun w => q w.2)]
      exact h20 d' hd'
  · intro d' hd' j hj'
    by_cases q : d' = d
    · subst q; exact hj j hj'
    · rw [e2 d' j hd' q, e62 d' j hd' q hj', ne d' hd' q]
      exact h21 d' hd' j hj'
theorem zx6 {x : Int32} (h : 0 ≤ x.toInt ∧ x.toInt ≤ 5) : zy_in x 6 = true ∧ x.toNatClampNeg < 6 ∧ x.toInt = (x.toNatClampNeg : Int) := by
  have e : x.toNatClampNeg = x.toInt.toNat := rfl
  exact ⟨zq_in.mpr ⟨h.1, by omega⟩, by omega, by omega⟩
theorem zop_keep (x y : Int32) {s : zy_S} (h : zI s) : ∃ r s1 s2, zyF161 x y s = some (r, s1) ∧ zyF256 x y s1 = some (r, s2) ∧ zI s2 := by
  obtain ⟨hw, hg, h1, h2, h3, h4, h5, h6, h7, h8, h9, h10, h11, h12, h13, h14, h15, h16, h17, h18, h19, h20, h21⟩ := id h
  obtain ⟨e14, b0, b1⟩ := id h14
  by_cases hx : 0 ≤ x.toInt ∧ x.toInt ≤ 5
  · obtain ⟨hin, hd, hxd⟩ := zx6 hx
    by_cases hy : y.toInt = -1 ∨ (0 ≤ y.toInt ∧ y.toInt < (s.1 27 2).toInt)
    · have k : zyF161_25 x y s = some (1, zy_up (zy_up (zy_up s (zy_sh x.toNatClampNeg) 1 y) (zy_sh x.toNatClampNeg) 2 (-1)) (zy_sh x.toNatClampNeg) 3 0) := by
        unfold zyF161_25 zyF162
        rw [if_pos hin, if_pos hw]
        rfl
      obtain ⟨d, hdd⟩ : ∃ d, d = x.toNatClampNeg := ⟨_, rfl⟩
      rw [← hdd] at k hd
      obtain ⟨s1, hs1⟩ : ∃ s1, s1 = zy_up (zy_up (zy_up s (zy_sh d) 1 y) (zy_sh d) 2 (-1)) (zy_sh d) 3 0 := ⟨_, rfl⟩
      rw [← hs1] at k
      have o1 : ∀ c k, c ≠ zy_sh d → s1.1 c k = s.1 c k := by
        intro c k hc
        rw [hs1, zf_up hc, zf_up hc, zf_up hc]
      have m28 : s1.1 43 28 = s.1 43 28 := o1 _ _ (zsh_ne hd (by decide))
      have k2 : zyF256_22 x y s1 = some (1, zy_up (zy_up s1 60 d y) 61 d 0) := by
        unfold zyF256_22
        rw [if_pos hin, if_pos hin, ← hdd]
      refine ⟨1, s1, zy_up (zy_up s1 60 d y) 61 d 0, ?_, ?_, ?_⟩
      · unfold zyF161
        simp only [zys18, zys154, true_and, and_true, zqb_t0, Classical.not_not, Bool.not_eq_false, zq_bind, zqb_n0, zqb_e0, decide_eq_true_eq, decide_eq_false_iff_not, ne_eq, zq_eq, Int32.toInt_toInt64, Int32.lt_iff_toInt_lt, Int32.le_iff_toInt_le, zq_l0, zq_lm1, zq_l1, zq_l2, zq_l3, zq_l4, zq_l5, zq_l6, zq_l7, zq_l8, zq_l9, zq_l12, zq_l16, zq_l23, zq_l24, zq_l40, zq_l39, zq_l50, zq_l51, zq_l60, zq_l120, zq_l128, zq_l255, zq_l4095, zq_l4096, zq_j0, zq_j1, zq_j4, zq_j5, zq_j7, zq_j8, zq_j9, zq_j23, zq_j255, zq_j4095]
        rw [if_neg (by omega)]
        by_cases e : y.toInt = -1
        · rw [if_pos e]; exact k
        · rw [if_neg e, if_pos (by omega)]; exact k
      · unfold zyF256
        simp only [zys182, zys249 y s1 (by rw [m28, ← e14]; exact ⟨b0, b1⟩), m28, ← e14, true_and, and_true, zqb_t0, Classical.not_not, Bool.not_eq_false, zq_bind, zqb_n0, zqb_e0, decide_eq_true_eq, decide_eq_false_iff_not, ne_eq, zq_eq, Int32.toInt_toInt64, Int32.lt_iff_toInt_lt, Int32.le_iff_toInt_le, zq_l0, zq_lm1, zq_l1, zq_l2, zq_l3, zq_l4, zq_l5, zq_l6, zq_l7, zq_l8, zq_l9, zq_l12, zq_l16, zq_l23, zq_l24, zq_l40, zq_l39, zq_l50, zq_l51, zq_l60, zq_l120, zq_l128, zq_l255, zq_l4095, zq_l4096, zq_j0, zq_j1, zq_j4, zq_j5, zq_j7, zq_j8, zq_j9, zq_j23, zq_j255, zq_j4095]
        rw [if_neg (by omega)]
        by_cases e : y.toInt = -1
        · rw [if_pos e]; exact k2
        · rw [if_neg e, if_pos (by omega)]; exact k2
      · have v1 : (zy_up (zy_up s1 60 d y) 61 d 0).1 (zy_sh d) 1 = y := by
          rw [zf_up (zsh_ne hd (by decide)).symm, zf_up (zsh_ne hd (by decide)).symm, hs1, zf_upk (by decide), zf_upk (by decide), zf_upe]
        have v2 : (zy_up (zy_up s1 60 d y) 61 d 0).1 (zy_sh d) 2 = -1 := by
          rw [zf_up (zsh_ne hd (by decide)).symm, zf_up (zsh_ne hd (by decide)).symm, hs1, zf_upk (by decide), zf_upe]
        have v3 : (zy_up (zy_up s1 60 d y) 61 d 0).1 (zy_sh d) 3 = 0 := by
          rw [zf_up (zsh_ne hd (by decide)).symm, zf_up (zsh_ne hd (by decide)).symm, hs1, zf_upe]
        have v4 : (zy_up (zy_up s1 60 d y) 61 d 0).1 60 d = y := by rw [zf_up (by decide), zf_upe]
        have v5 : (zy_up (zy_up s1 60 d y) 61 d 0).1 61 d = 0 := zf_upe
        have v0 : (zy_up (zy_up s1 60 d y) 61 d 0).2 = s.2 := by rw [hs1]; rfl
        obtain ⟨r1, r2, r3⟩ := zrg_sh hd
        obtain ⟨r4, r5⟩ := zrg_60 hd
        refine zI_sh1 h hd ?_ (congrArg Prod.snd v0) ?_ ?_ ?_ ?_ ?_
        · refine zRg_upF (zRg_upF ?_ r4 ⟨by omega, by omega⟩) r5 ⟨by decide, by decide⟩
          rw [hs1]
          exact zRg_upF (zRg_upF (zRg_upF hg r1 ⟨by omega, by omega⟩) r2 ⟨by decide, by decide⟩) r3 ⟨by decide, by decide⟩
        · intro c k hc h60 h61
          rw [zy_up_at, if_neg h61, zy_up_at, if_neg h60]
          exact o1 c k hc
        · rw [v1, v2, v3, v4, v5]
          exact ⟨rfl, ⟨by decide, by decide⟩, Or.inl ⟨rfl, rfl, by omega, by omega, rfl⟩⟩
        · intro d' j hd' q; rw [v0]
        · intro d' j hd' q hj; rw [v0]
        · intro j hj
          rw [v0, v2]
          exact ⟨(h21 d hd j hj).1, fun q => absurd q (by decide), fun q => absurd q (by decide)⟩
    · refine ⟨-1, s, s, ?_, ?_, h⟩
      · unfold zyF161
        simp only [zys18, zys154, true_and, and_true, zqb_t0, Classical.not_not, Bool.not_eq_false, zq_bind, zqb_n0, zqb_e0, decide_eq_true_eq, decide_eq_false_iff_not, ne_eq, zq_eq, Int32.toInt_toInt64, Int32.lt_iff_toInt_lt, Int32.le_iff_toInt_le, zq_l0, zq_lm1, zq_l1, zq_l2, zq_l3, zq_l4, zq_l5, zq_l6, zq_l7, zq_l8, zq_l9, zq_l12, zq_l16, zq_l23, zq_l24, zq_l40, zq_l39, zq_l50, zq_l51, zq_l60, zq_l120, zq_l128, zq_l255, zq_l4095, zq_l4096, zq_j0, zq_j1, zq_j4, zq_j5, zq_j7, zq_j8, zq_j9, zq_j23, zq_j255, zq_j4095]
        rw [if_neg (by omega), if_neg (by omega), if_neg (by omega)]
      · unfold zyF256
        simp only [zys182, zys249 y s (by rw [← e14]; exact ⟨b0, b1⟩), ← e14, true_and, and_true, zqb_t0, Classical.not_not, Bool.not_eq_false, zq_bind, zqb_n0, zqb_e0, decide_eq_true_eq, decide_eq_false_iff_not, ne_eq, zq_eq, Int32.toInt_toInt64, Int32.lt_iff_toInt_lt, Int32.le_iff_toInt_le, zq_l0, zq_lm1, zq_l1, zq_l2, zq_l3, zq_l4, zq_l5, zq_l6, zq_l7, zq_l8, zq_l9, zq_l12, zq_l16, zq_l23, zq_l24, zq_l40, zq_l39, zq_l50, zq_l51, zq_l60, zq_l120, zq_l128, zq_l255, zq_l4095, zq_l4096, zq_j0, zq_j1, zq_j4, zq_j5, zq_j7, zq_j8, zq_j9, zq_j23, zq_j255, zq_j4095]
        rw [if_neg (by omega), if_neg (by omega), if_neg (by omega)]
  · refine ⟨-1, s, s, ?_, ?_, h⟩
    · unfold zyF161
      simp only [zys18, true_and, and_true, zqb_t0, Classical.not_not, Bool.not_eq_false, zq_bind, zqb_n0, zqb_e0, decide_eq_true_eq, decide_eq_false_iff_not, ne_eq, zq_eq, Int32.toInt_toInt64, Int32.lt_iff_toInt_lt, Int32.le_iff_toInt_le, zq_l0, zq_lm1, zq_l1, zq_l2, zq_l3, zq_l4, zq_l5, zq_l6, zq_l7, zq_l8, zq_l9, zq_l12, zq_l16, zq_l23, zq_l24, zq_l40, zq_l39, zq_l50, zq_l51, zq_l60, zq_l120, zq_l128, zq_l255, zq_l4095, zq_l4096, zq_j0, zq_j1, zq_j4, zq_j5, zq_j7, zq_j8, zq_j9, zq_j23, zq_j255, zq_j4095]
      rw [if_pos (by omega)]
    · unfold zyF256
      simp only [zys182, true_and, and_true, zqb_t0, Classical.not_not, Bool.not_eq_false, zq_bind, zqb_n0, zqb_e0, decide_eq_true_eq, decide_eq_false_iff_not, ne_eq, zq_eq, Int32.toInt_toInt64, Int32.lt_iff_toInt_lt, Int32.le_iff_toInt_le, zq_l0, zq_lm1, zq_l1, zq_l2, zq_l3, zq_l4, zq_l5, zq_l6, zq_l7, zq_l8, zq_l9, zq_l12, zq_l16, zq_l23, zq_l24, zq_l40, zq_l39, zq_l50, zq_l51, zq_l60, zq_l120, zq_l128, zq_l255, zq_l4095, zq_l4096, zq_j0, zq_j1, zq_j4, zq_j5, zq_j7, zq_j8, zq_j9, zq_j23, zq_j255, zq_j4095]
      rw [if_pos (by omega)]
theorem zl_257 (x : Int32) {d : Nat} (hd : d < 6) (hx : x.toInt = (d : Int)) : ∀ (n k : Nat) (i : Int32) (s : zy_S), k ≤ 60 → 60 - k < n → i.toInt = 60 * (d : Int) + k →
    ∃ t, zyF257_57 n x i s = some (1, t) ∧ t.1 = s.1 ∧ t.2.2 = s.2.2 ∧ (∀ c, c ≠ 62 → t.2.1 c = s.2.1 c) ∧ ∀ j, t.2.1 62 j = if 60 * d + k ≤ j ∧ j < 60 * d + 60 then 0 else s.2.1 62 j
  | 0, k, i, s, hk, hn, hi => by omega
  | n + 1, k, i, s, hk, hn, hi => by
    have em : ((60 : Int32) * x).toInt = 60 * (d : Int) := by rw [zq_mul (by rw [zq_l60, hx]; omega) (by rw [zq_l60, hx]; omega), zq_l60, hx]
    have ea : ((60 : Int32) * x + 60).toInt = 60 * (d : Int) + 60 := by rw [zq_add (by rw [em, zq_l60]; omega) (by rw [em, zq_l60]; omega), em, zq_l60]
    show ∃ t, zyF257_57b (zyF257_57 n) x i s = some (1, t) ∧ _
    unfold zyF257_57b
    by_cases h : k = 60
    · rw [if_pos (by rw [Int32.le_iff_toInt_le, ea]; omega)]
      refine ⟨s, rfl, rfl, rfl, fun _ _ => rfl, fun j => ?_⟩
      rw [if_neg (by omega)]
    · rw [if_neg (by rw [Int32.le_iff_toInt_le, ea]; omega), if_pos (zq_in.mpr ⟨by omega, by omega⟩)]
      have en : (i + 1).toInt = 60 * (d : Int) + ((k + 1 : Nat) : Int) := by rw [zq_add (by rw [zq_l1]; omega) (by rw [zq_l1]; omega), zq_l1]; omega
      obtain ⟨t, q1, q2, q3, q4, q5⟩ := zl_257 x hd hx n (k + 1) (i + 1) (zy_uj s 62 i.toNatClampNeg 0) (by omega) (by omega) en
      refine ⟨t, q1, q2, q3, fun c hc => by rw [q4 c hc]; funext b; rw [zy_uj_at, if_neg (fun w => hc w.1)], fun j => ?_⟩
      rw [q5 j, zy_uj_at]
      have ei : i.toNatClampNeg = 60 * d + k := by rw [zq_ix]; omega
      rw [ei]
      by_cases h1 : 60 * d + k ≤ j ∧ j < 60 * d + 60
      · rw [if_pos h1]
        by_cases h2 : j = 60 * d + k
        · rw [if_neg (by omega), if_pos ⟨rfl, h2⟩]
        · rw [if_pos (by omega)]
      · rw [if_neg h1, if_neg (by omega), if_neg (by omega)]
theorem zop_row (x y z : Int32) {s : zy_S} (h : zI s) : ∃ r s1 s2, zyF163 x y z s = some (r, s1) ∧ zyF257 x y z s1 = some (r, s2) ∧ zI s2 := by
  obtain ⟨hw, hg, h1, h2, h3, h4, h5, h6, h7, h8, h9, h10, h11, h12, h13, h14, h15, h16, h17, h18, h19, h20, h21⟩ := id h
  by_cases hx : 0 ≤ x.toInt ∧ x.toInt ≤ 5
  · by_cases hy : 0 ≤ y.toInt ∧ y.toInt ≤ 4
    · by_cases hz1 : z.toInt ≤ 60
      · by_cases hz0 : 0 ≤ z.toInt
        · obtain ⟨hin, hd, hxd⟩ := zx6 hx
          obtain ⟨d, hdd⟩ : ∃ d, d = x.toNatClampNeg := ⟨_, rfl⟩
          rw [← hdd] at hd hxd
          obtain ⟨s1, hs1⟩ : ∃ s1, s1 = zy_ub (zy_up (zy_up (zy_up s (zy_sh d) 1 (-1)) (zy_sh d) 2 y) (zy_sh d) 3 z) (zy_sh d + 1) (fun j => if j < 60 then 0 else s.2.1 (zy_sh d + 1) j) := ⟨_, rfl⟩
          have o1 : ∀ c k, c ≠ zy_sh d → s1.1 c k = s.1 c k := by
            intro c k hc
            rw [hs1]
            show (zy_up (zy_up (zy_up s (zy_sh d) 1 (-1)) (zy_sh d) 2 y) (zy_sh d) 3 z).1 c k = _
            rw [zf_up hc, zf_up hc, zf_up hc]
          have em : ((60 : Int32) * x).toInt = 60 * (d : Int) + ((0 : Nat) : Int) := by rw [zq_mul (by rw [zq_l60, hxd]; omega) (by rw [zq_l60, hxd]; omega), zq_l60, hxd]; omega
          have e50 : ((50 : Int32) + y).toInt = 50 + y.toInt := zq_add (by rw [zq_l50]; omega) (by rw [zq_l50]; omega)
          obtain ⟨t, q1, q2, q3, q4, q5⟩ := zl_257 x hd hxd zy_fu 0 (60 * x) (zy_up (zy_up s1 60 d (50 + y)) 61 d z) (by omega) (by unfold zy_fu; omega) em
          refine ⟨1, s1, t, ?_, ?_, ?_⟩
          · unfold zyF163 zyF164
            simp only [zys18, true_and, and_true, zqb_t0, Classical.not_not, Bool.not_eq_false, zq_bind, zqb_n0, zqb_e0, decide_eq_true_eq, decide_eq_false_iff_not, ne_eq, zq_eq, Int32.toInt_toInt64, Int32.lt_iff_toInt_lt, Int32.le_iff_toInt_le, zq_l0, zq_lm1, zq_l1, zq_l2, zq_l3, zq_l4, zq_l5, zq_l6, zq_l7, zq_l8, zq_l9, zq_l12, zq_l16, zq_l23, zq_l24, zq_l40, zq_l39, zq_l50, zq_l51, zq_l60, zq_l120, zq_l128, zq_l255, zq_l4095, zq_l4096, zq_j0, zq_j1, zq_j4, zq_j5, zq_j7, zq_j8, zq_j9, zq_j23, zq_j255, zq_j4095]
            rw [if_neg (by omega), if_neg (by omega), if_neg (by omega), if_pos hz1, if_pos hz0, if_pos hin, if_pos hw, ← hdd, hs1]
          · unfold zyF257
            simp only [zys182, zys179, true_and, and_true, zqb_t0, Classical.not_not, Bool.not_eq_false, zq_bind, zqb_n0, zqb_e0, decide_eq_true_eq, decide_eq_false_iff_not, ne_eq, zq_eq, Int32.toInt_toInt64, Int32.lt_iff_toInt_lt, Int32.le_iff_toInt_le, zq_l0, zq_lm1, zq_l1, zq_l2, zq_l3, zq_l4, zq_l5, zq_l6, zq_l7, zq_l8, zq_l9, zq_l12, zq_l16, zq_l23, zq_l24, zq_l40, zq_l39, zq_l50, zq_l51, zq_l60, zq_l120, zq_l128, zq_l255, zq_l4095, zq_l4096, zq_j0, zq_j1, zq_j4, zq_j5, zq_j7, zq_j8, zq_j9, zq_j23, zq_j255, zq_j4095]
            rw [if_neg (by omega), if_neg (by omega), if_pos hz1, if_pos hz0, if_pos hin, if_pos hin, ← hdd]
            exact q1
          · have v1 : t.1 (zy_sh d) 1 = -1 := by
              rw [q2, zf_up (zsh_ne hd (by decide)).symm, zf_up (zsh_ne hd (by decide)).symm, hs1]
              show (zy_up (zy_up (zy_up s (zy_sh d) 1 (-1)) (zy_sh d) 2 y) (zy_sh d) 3 z).1 _ _ = _
              rw [zf_upk (by decide), zf_upk (by decide), zf_upe]
            have v2 : t.1 (zy_sh d) 2 = y := by
              rw [q2, zf_up (zsh_ne hd (by decide)).symm, zf_up (zsh_ne hd (by decide)).symm, hs1]
              show (zy_up (zy_up (zy_up s (zy_sh d) 1 (-1)) (zy_sh d) 2 y) (zy_sh d) 3 z).1 _ _ = _
              rw [zf_upk (by decide), zf_upe]
            have v3 : t.1 (zy_sh d) 3 = z := by
              rw [q2, zf_up (zsh_ne hd (by decide)).symm, zf_up (zsh_ne hd (by decide)).symm, hs1]
              show (zy_up (zy_up (zy_up s (zy_sh d) 1 (-1)) (zy_sh d) 2 y) (zy_sh d) 3 z).1 _ _ = _
              rw [zf_upe]
            have v4 : t.1 60 d = 50 + y := by rw [q2, zf_up (by decide), zf_upe]
            have v5 : t.1 61 d = z := by rw [q2]; exact zf_upe
            have n62 : ∀ d', d' < 6 → zy_sh d' + 1 ≠ 62 := fun d' g => by unfold zy_sh; omega
            have w2 : ∀ c, c ≠ zy_sh d + 1 → c ≠ 62 → t.2.1 c = s.2.1 c := by
              intro c h1 h2
              rw [q4 c h2]
              show s1.2.1 c = _
              rw [hs1]
              funext b
              rw [zy_ub_at, if_neg h1]
              rfl
            have w62 : ∀ j, t.2.1 62 j = if 60 * d + 0 ≤ j ∧ j < 60 * d + 60 then 0 else s.2.1 62 j := by
              intro j
              rw [q5 j]
              show (if _ then (0 : Int64) else s1.2.1 62 j) = _
              rw [hs1, zy_ub_at, if_neg (n62 d hd).symm]
              rfl
            obtain ⟨r1, r2, r3⟩ := zrg_sh hd
            obtain ⟨r4, r5⟩ := zrg_60 hd
            refine zI_sh1 h hd ?_ ?_ ?_ ?_ ?_ ?_ ?_
            · have hh : zRg (zy_up (zy_up s1 60 d (50 + y)) 61 d z) := by
                refine zRg_upF (zRg_upF ?_ r4 ⟨by omega, by omega⟩) r5 ⟨hz0, hz1⟩
                rw [hs1]
                exact zRg_ub (zRg_upF (zRg_upF (zRg_upF hg r1 ⟨by decide, by decide⟩) r2 ⟨by omega, by omega⟩) r3 ⟨hz0, hz1⟩)
              intro c k hk
              rw [q2]
              exact hh c k hk
            · rw [q3, hs1]; rfl
            · intro c k hc h60 h61
              rw [q2, zy_up_at, if_neg h61, zy_up_at, if_neg h60]
              exact o1 c k hc
            · rw [v1, v2, v3, v4, v5]
              exact ⟨rfl, ⟨hz0, hz1⟩, Or.inr ⟨hy, rfl, e50⟩⟩
            · intro d' j hd' q
              rw [w2 _ (fun w => q (zsh_inj (by omega))) (n62 d' hd')]
            · intro d' j hd' q hj
              rw [w62, if_neg (by omega)]
            · intro j hj
              have u : t.2.1 (zy_sh d + 1) j = 0 := by
                rw [q4 _ (n62 d hd)]
                show s1.2.1 _ j = _
                rw [hs1, zy_ub_at, if_pos rfl, if_pos hj]
              rw [u, w62, if_pos (by omega)]
              exact ⟨rfl, fun _ => ⟨by decide, by decide⟩, fun _ => ⟨by decide, by decide⟩⟩
        · refine ⟨-14, s, s, ?_, ?_, h⟩
          · unfold zyF163
            simp only [zys18, true_and, and_true, zqb_t0, Classical.not_not, Bool.not_eq_false, zq_bind, zqb_n0, zqb_e0, decide_eq_true_eq, decide_eq_false_iff_not, ne_eq, zq_eq, Int32.toInt_toInt64, Int32.lt_iff_toInt_lt, Int32.le_iff_toInt_le, zq_l0, zq_lm1, zq_l1, zq_l2, zq_l3, zq_l4, zq_l5, zq_l6, zq_l7, zq_l8, zq_l9, zq_l12, zq_l16, zq_l23, zq_l24, zq_l40, zq_l39, zq_l50, zq_l51, zq_l60, zq_l120, zq_l128, zq_l255, zq_l4095, zq_l4096, zq_j0, zq_j1, zq_j4, zq_j5, zq_j7, zq_j8, zq_j9, zq_j23, zq_j255, zq_j4095]
            rw [if_neg (by omega), if_neg (by omega), if_neg (by omega), if_pos hz1, if_neg hz0]
          · unfold zyF257
            simp only [zys182, zys179, true_and, and_true, zqb_t0, Classical.not_not, Bool.not_eq_false, zq_bind, zqb_n0, zqb_e0, decide_eq_true_eq, decide_eq_false_iff_not, ne_eq, zq_eq, Int32.toInt_toInt64, Int32.lt_iff_toInt_lt, Int32.le_iff_toInt_le, zq_l0, zq_lm1, zq_l1, zq_l2, zq_l3, zq_l4, zq_l5, zq_l6, zq_l7, zq_l8, zq_l9, zq_l12, zq_l16, zq_l23, zq_l24, zq_l40, zq_l39, zq_l50, zq_l51, zq_l60, zq_l120, zq_l128, zq_l255, zq_l4095, zq_l4096, zq_j0, zq_j1, zq_j4, zq_j5, zq_j7, zq_j8, zq_j9, zq_j23, zq_j255, zq_j4095]
            rw [if_neg (by omega), if_neg (by omega), if_pos hz1, if_neg hz0]
      · refine ⟨-1, s, s, ?_, ?_, h⟩
        · unfold zyF163
          simp only [zys18, true_and, and_true, zqb_t0, Classical.not_not, Bool.not_eq_false, zq_bind, zqb_n0, zqb_e0, decide_eq_true_eq, decide_eq_false_iff_not, ne_eq, zq_eq, Int32.toInt_toInt64, Int32.lt_iff_toInt_lt, Int32.le_iff_toInt_le, zq_l0, zq_lm1, zq_l1, zq_l2, zq_l3, zq_l4, zq_l5, zq_l6, zq_l7, zq_l8, zq_l9, zq_l12, zq_l16, zq_l23, zq_l24, zq_l40, zq_l39, zq_l50, zq_l51, zq_l60, zq_l120, zq_l128, zq_l255, zq_l4095, zq_l4096, zq_j0, zq_j1, zq_j4, zq_j5, zq_j7, zq_j8, zq_j9, zq_j23, zq_j255, zq_j4095]
          rw [if_neg (by omega), if_neg (by omega), if_neg (by omega), if_neg hz1]
        · unfold zyF257
          simp only [zys182, zys179, true_and, and_true, zqb_t0, Classical.not_not, Bool.not_eq_false, zq_bind, zqb_n0, zqb_e0, decide_eq_true_eq, decide_eq_false_iff_not, ne_eq, zq_eq, Int32.toInt_toInt64, Int32.lt_iff_toInt_lt, Int32.le_iff_toInt_le, zq_l0, zq_lm1, zq_l1, zq_l2, zq_l3, zq_l4, zq_l5, zq_l6, zq_l7, zq_l8, zq_l9, zq_l12, zq_l16, zq_l23, zq_l24, zq_l40, zq_l39, zq_l50, zq_l51, zq_l60, zq_l120, zq_l128, zq_l255, zq_l4095, zq_l4096, zq_j0, zq_j1, zq_j4, zq_j5, zq_j7, zq_j8, zq_j9, zq_j23, zq_j255, zq_j4095]
          rw [if_neg (by omega), if_neg (by omega), if_neg hz1]
    · refine ⟨-1, s, s, ?_, ?_, h⟩
      · unfold zyF163
        simp only [zys18, true_and, and_true, zqb_t0, Classical.not_not, Bool.not_eq_false, zq_bind, zqb_n0, zqb_e0, decide_eq_true_eq, decide_eq_false_iff_not, ne_eq, zq_eq, Int32.toInt_toInt64, Int32.lt_iff_toInt_lt, Int32.le_iff_toInt_le, zq_l0, zq_lm1, zq_l1, zq_l2, zq_l3, zq_l4, zq_l5, zq_l6, zq_l7, zq_l8, zq_l9, zq_l12, zq_l16, zq_l23, zq_l24, zq_l40, zq_l39, zq_l50, zq_l51, zq_l60, zq_l120, zq_l128, zq_l255, zq_l4095, zq_l4096, zq_j0, zq_j1, zq_j4, zq_j5, zq_j7, zq_j8, zq_j9, zq_j23, zq_j255, zq_j4095]
        rw [if_neg (by omega)]
        by_cases hy0 : y.toInt < 0
        · rw [if_pos hy0]
        · rw [if_neg hy0, if_pos (by omega)]
      · unfold zyF257
        simp only [zys182, zys179, true_and, and_true, zqb_t0, Classical.not_not, Bool.not_eq_false, zq_bind, zqb_n0, zqb_e0, decide_eq_true_eq, decide_eq_false_iff_not, ne_eq, zq_eq, Int32.toInt_toInt64, Int32.lt_iff_toInt_lt, Int32.le_iff_toInt_le, zq_l0, zq_lm1, zq_l1, zq_l2, zq_l3, zq_l4, zq_l5, zq_l6, zq_l7, zq_l8, zq_l9, zq_l12, zq_l16, zq_l23, zq_l24, zq_l40, zq_l39, zq_l50, zq_l51, zq_l60, zq_l120, zq_l128, zq_l255, zq_l4095, zq_l4096, zq_j0, zq_j1, zq_j4, zq_j5, zq_j7, zq_j8, zq_j9, zq_j23, zq_j255, zq_j4095]
        rw [if_neg (by omega), if_pos (by omega)]
  · refine ⟨-1, s, s, ?_, ?_, h⟩
    · unfold zyF163
      simp only [zys18, true_and, and_true, zqb_t0, Classical.not_not, Bool.not_eq_false, zq_bind, zqb_n0, zqb_e0, decide_eq_true_eq, decide_eq_false_iff_not, ne_eq, zq_eq, Int32.toInt_toInt64, Int32.lt_iff_toInt_lt, Int32.le_iff_toInt_le, zq_l0, zq_lm1, zq_l1, zq_l2, zq_l3, zq_l4, zq_l5, zq_l6, zq_l7, zq_l8, zq_l9, zq_l12, zq_l16, zq_l23, zq_l24, zq_l40, zq_l39, zq_l50, zq_l51, zq_l60, zq_l120, zq_l128, zq_l255, zq_l4095, zq_l4096, zq_j0, zq_j1, zq_j4, zq_j5, zq_j7, zq_j8, zq_j9, zq_j23, zq_j255, zq_j4095]
      rw [if_pos (by omega)]
    · unfold zyF257
      simp only [zys182, true_and, and_true, zqb_t0, Classical.not_not, Bool.not_eq_false, zq_bind, zqb_n0, zqb_e0, decide_eq_true_eq, decide_eq_false_iff_not, ne_eq, zq_eq, Int32.toInt_toInt64, Int32.lt_iff_toInt_lt, Int32.le_iff_toInt_le, zq_l0, zq_lm1, zq_l1, zq_l2, zq_l3, zq_l4, zq_l5, zq_l6, zq_l7, zq_l8, zq_l9, zq_l12, zq_l16, zq_l23, zq_l24, zq_l40, zq_l39, zq_l50, zq_l51, zq_l60, zq_l120, zq_l128, zq_l255, zq_l4095, zq_l4096, zq_j0, zq_j1, zq_j4, zq_j5, zq_j7, zq_j8, zq_j9, zq_j23, zq_j255, zq_j4095]
      rw [if_pos (by omega)]
