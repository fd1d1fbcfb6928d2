/-! PART 19x.2: what updates leave as it is. Made by wip/v4/gen_ops.py. -/
section ZF
variable {s s' : zy_S} {c k a b d j : Nat} {x : Int32}
theorem zf_up (h : a ≠ c) : (zy_up s c k x).1 a b = s.1 a b := by rw [zy_up_at, if_neg (fun q => h q.1)]
theorem zf_upk (h : b ≠ k) : (zy_up s c k x).1 a b = s.1 a b := by rw [zy_up_at, if_neg (fun q => h q.2)]
theorem zf_upe : (zy_up s c k x).1 c k = x := by rw [zy_up_at, if_pos ⟨rfl, rfl⟩]
theorem zf_upr : (zy_up s c k x).1 c b = if b = k then x else s.1 c b := by
  rw [zy_up_at]
  by_cases h : b = k
  · rw [if_pos ⟨rfl, h⟩, if_pos h]
  · rw [if_neg (fun q => h q.2), if_neg h]
theorem zf_sh (hc : c < 31 ∨ 43 ≤ c) (hd : d < 6) : (zy_up s c k x).1 (zy_sh d) j = s.1 (zy_sh d) j := zf_up (by unfold zy_sh; omega)
theorem zf_sha {f : Nat → Int32} (hc : c < 31 ∨ 43 ≤ c) (hd : d < 6) : (zy_ua s c f).1 (zy_sh d) j = s.1 (zy_sh d) j := by rw [zy_ua_at, if_neg (by unfold zy_sh; omega)]
theorem zR20_of (h : zR20 s) (h27 : s'.1 27 2 = s.1 27 2) (hc : ∀ d, d < 6 → ∀ k, s'.1 (zy_sh d) k = s.1 (zy_sh d) k) (h60 : ∀ d, d < 6 → s'.1 60 d = s.1 60 d) (h61 : ∀ d, d < 6 → s'.1 61 d = s.1 61 d) : zR20 s' := by
  intro d hd
  rw [h27, hc d hd, hc d hd, hc d hd, h60 d hd, h61 d hd]
  exact h d hd
theorem zR21_of (h : zR21 s) (hc : ∀ d, d < 6 → ∀ k, s'.1 (zy_sh d) k = s.1 (zy_sh d) k) (h2 : s'.2.1 = s.2.1) : zR21 s' := by
  intro d hd j hj
  rw [hc d hd, h2]
  exact h d hd j hj
/-- two rows that hold alike, both written at one place -/
theorem zf_two {f g : Nat → Int32} {n o k : Nat} {x : Int32} {lo hi : Int} (h : ∀ p, p < n → f p = g (o + p) ∧ zin (f p) lo hi) (hx : zin x lo hi) : ∀ p, p < n → (if p = k then x else f p) = (if o + p = o + k then x else g (o + p)) ∧ zin (if p = k then x else f p) lo hi := by
  intro p hp
  by_cases e : p = k
  · rw [if_pos e, if_pos (by omega)]
    exact ⟨rfl, hx⟩
  · rw [if_neg e, if_neg (by omega)]
    exact h p hp
end ZF
theorem zop_body (x : Int32) {s : zy_S} (h : zI s) : ∃ r s1 s2, zyF148 x s = some (r, s1) ∧ zyF247 x s1 = some (r, s2) ∧ zI s2 := by
  obtain ⟨hw, hg, h1, h2, h3, h4, h5, h6, h7, h8, h9, h10, h11, h12, h13, h14, h15, h16, h17, h18, h19, h20, h21⟩ := id h
  obtain ⟨e14, b0, b1⟩ := id h14
  by_cases hk : 0 ≤ x.toInt ∧ x.toInt ≤ 7
  · by_cases hf : 50 ≤ (s.1 27 2).toInt
    · refine ⟨-3, s, s, ?_, ?_, h⟩
      · unfold zyF148
        simp only [zys149, zys150, true_and, and_true, zqb_t0, Classical.not_not, Bool.not_eq_false, zq_bind, zqb_n0, zqb_e0, decide_eq_true_eq, decide_eq_false_iff_not, ne_eq, zq_eq, Int32.toInt_toInt64, Int32.lt_iff_toInt_lt, Int32.le_iff_toInt_le, zq_l0, zq_lm1, zq_l1, zq_l2, zq_l3, zq_l4, zq_l5, zq_l6, zq_l7, zq_l8, zq_l9, zq_l12, zq_l16, zq_l23, zq_l24, zq_l40, zq_l39, zq_l50, zq_l51, zq_l60, zq_l120, zq_l128, zq_l255, zq_l4095, zq_l4096, zq_j0, zq_j1, zq_j4, zq_j5, zq_j7, zq_j8, zq_j9, zq_j23, zq_j255, zq_j4095]
        rw [if_pos hk, if_neg (by omega)]
      · unfold zyF247
        simp only [zys179, ← e14, true_and, and_true, zqb_t0, Classical.not_not, Bool.not_eq_false, zq_bind, zqb_n0, zqb_e0, decide_eq_true_eq, decide_eq_false_iff_not, ne_eq, zq_eq, Int32.toInt_toInt64, Int32.lt_iff_toInt_lt, Int32.le_iff_toInt_le, zq_l0, zq_lm1, zq_l1, zq_l2, zq_l3, zq_l4, zq_l5, zq_l6, zq_l7, zq_l8, zq_l9, zq_l12, zq_l16, zq_l23, zq_l24, zq_l40, zq_l39, zq_l50, zq_l51, zq_l60, zq_l120, zq_l128, zq_l255, zq_l4095, zq_l4096, zq_j0, zq_j1, zq_j4, zq_j5, zq_j7, zq_j8, zq_j9, zq_j23, zq_j255, zq_j4095]
        rw [if_pos hk, if_neg (by omega)]
    · have en : (s.1 27 2 + 1).toInt = (s.1 27 2).toInt + 1 := zq_add (by rw [zq_l1]; omega) (by rw [zq_l1]; omega)
      have hin : zy_in (s.1 27 2) 50 = true := zq_in.mpr ⟨b0, by omega⟩
      refine ⟨s.1 27 2 + 1 - 1, zy_up (zy_up s 28 (s.1 27 2).toNatClampNeg x) 27 2 (s.1 27 2 + 1), zy_up (zy_up (zy_up (zy_up s 28 (s.1 27 2).toNatClampNeg x) 27 2 (s.1 27 2 + 1)) 58 (s.1 27 2).toNatClampNeg x) 43 28 (s.1 27 2 + 1), ?_, ?_, ?_⟩
      · unfold zyF148 zyF151
        simp only [zys149, zys150, true_and, and_true, zqb_t0, Classical.not_not, Bool.not_eq_false, zq_bind, zqb_n0, zqb_e0, decide_eq_true_eq, decide_eq_false_iff_not, ne_eq, zq_eq, Int32.toInt_toInt64, Int32.lt_iff_toInt_lt, Int32.le_iff_toInt_le, zq_l0, zq_lm1, zq_l1, zq_l2, zq_l3, zq_l4, zq_l5, zq_l6, zq_l7, zq_l8, zq_l9, zq_l12, zq_l16, zq_l23, zq_l24, zq_l40, zq_l39, zq_l50, zq_l51, zq_l60, zq_l120, zq_l128, zq_l255, zq_l4095, zq_l4096, zq_j0, zq_j1, zq_j4, zq_j5, zq_j7, zq_j8, zq_j9, zq_j23, zq_j255, zq_j4095]
        rw [if_pos hk, if_pos (by omega), if_pos hin]
        rfl
      · unfold zyF247
        have e : (zy_up (zy_up s 28 (s.1 27 2).toNatClampNeg x) 27 2 (s.1 27 2 + 1)).1 43 28 = s.1 27 2 := e14.symm
        simp only [zys179, e, true_and, and_true, zqb_t0, Classical.not_not, Bool.not_eq_false, zq_bind, zqb_n0, zqb_e0, decide_eq_true_eq, decide_eq_false_iff_not, ne_eq, zq_eq, Int32.toInt_toInt64, Int32.lt_iff_toInt_lt, Int32.le_iff_toInt_le, zq_l0, zq_lm1, zq_l1, zq_l2, zq_l3, zq_l4, zq_l5, zq_l6, zq_l7, zq_l8, zq_l9, zq_l12, zq_l16, zq_l23, zq_l24, zq_l40, zq_l39, zq_l50, zq_l51, zq_l60, zq_l120, zq_l128, zq_l255, zq_l4095, zq_l4096, zq_j0, zq_j1, zq_j4, zq_j5, zq_j7, zq_j8, zq_j9, zq_j23, zq_j255, zq_j4095]
        rw [if_pos hk, if_pos (by omega), if_pos hin]
      · have hx : zin x 0 7 := hk
        exact ⟨hw, (zRg_up (zRg_up (zRg_up (zRg_up hg (fun _ => hx)) (fun _ => (show zin (s.1 27 2 + 1) 0 50 from ⟨by omega, by omega⟩))) (fun _ => hx)) (fun _ => (show zin (s.1 27 2 + 1) 0 50 from ⟨by omega, by omega⟩))), h1, h2, h3, h4, h5, h6, h7, h8, h9, h10, h11, h12, h13, ⟨rfl, (show zin (s.1 27 2 + 1) 0 50 from ⟨by omega, by omega⟩)⟩, (fun p hp => by
          have := zf_two (o := 0) (k := (s.1 27 2).toNatClampNeg) (g := s.1 58) (fun p hp => by rw [Nat.zero_add]; exact h15 p hp) hx p hp
          rw [Nat.zero_add, Nat.zero_add] at this
          rw [zf_up (by decide), zf_up (by decide), zf_up (by decide), zf_upr, zf_up (by decide), zf_upr, zf_up (by decide), zf_up (by decide)]
          exact this), h16, h17, h18, h19, (fun d hd => by
          have q := h20 d hd
          rw [zf_up (by decide), zf_up (by decide), zf_upe, zf_sh (by decide) hd, zf_sh (by decide) hd, zf_sh (by decide) hd, zf_sh (by decide) hd, zf_sh (by decide) hd, zf_sh (by decide) hd, zf_sh (by decide) hd, zf_sh (by decide) hd, zf_sh (by decide) hd, zf_sh (by decide) hd, zf_sh (by decide) hd, zf_sh (by decide) hd, zf_up (by decide), zf_up (by decide), zf_up (by decide), zf_up (by decide), zf_up (by decide), zf_up (by decide), zf_up (by decide), zf_up (by decide)]
          obtain ⟨q1, q2, q3⟩ := q
          refine ⟨q1, q2, ?_⟩
          rcases q3 with ⟨a1, a2, a3, a4, a5⟩ | q3
          · exact Or.inl ⟨a1, a2, a3, by omega, a5⟩
          · exact Or.inr q3), (zR21_of h21 (fun d hd k => by rw [zf_sh (by decide) hd, zf_sh (by decide) hd, zf_sh (by decide) hd, zf_sh (by decide) hd]) rfl)⟩
  · refine ⟨-1, s, s, ?_, ?_, h⟩
    · unfold zyF148
      simp only [zys149, true_and, and_true, zqb_t0, Classical.not_not, Bool.not_eq_false, zq_bind, zqb_n0, zqb_e0, decide_eq_true_eq, decide_eq_false_iff_not, ne_eq, zq_eq, Int32.toInt_toInt64, Int32.lt_iff_toInt_lt, Int32.le_iff_toInt_le, zq_l0, zq_lm1, zq_l1, zq_l2, zq_l3, zq_l4, zq_l5, zq_l6, zq_l7, zq_l8, zq_l9, zq_l12, zq_l16, zq_l23, zq_l24, zq_l40, zq_l39, zq_l50, zq_l51, zq_l60, zq_l120, zq_l128, zq_l255, zq_l4095, zq_l4096, zq_j0, zq_j1, zq_j4, zq_j5, zq_j7, zq_j8, zq_j9, zq_j23, zq_j255, zq_j4095]
      rw [if_neg hk]
    · unfold zyF247
      simp only [zys179, true_and, and_true, zqb_t0, Classical.not_not, Bool.not_eq_false, zq_bind, zqb_n0, zqb_e0, decide_eq_true_eq, decide_eq_false_iff_not, ne_eq, zq_eq, Int32.toInt_toInt64, Int32.lt_iff_toInt_lt, Int32.le_iff_toInt_le, zq_l0, zq_lm1, zq_l1, zq_l2, zq_l3, zq_l4, zq_l5, zq_l6, zq_l7, zq_l8, zq_l9, zq_l12, zq_l16, zq_l23, zq_l24, zq_l40, zq_l39, zq_l50, zq_l51, zq_l60, zq_l120, zq_l128, zq_l255, zq_l4095, zq_l4096, zq_j0, zq_j1, zq_j4, zq_j5, zq_j7, zq_j8, zq_j9, zq_j23, zq_j255, zq_j4095]
      rw [if_neg hk]
