/-! PART 46.91: shift. Made by wip/v4/gen_shift.py. -/
theorem zl_150 (x3 x4 x5 : Int32) {d a m : Nat} (hx3 : x3.toInt = (d : Int)) (hd : d < 6) (hx4 : x4.toInt = (a : Int)) (hx5 : x5.toInt = (m : Int)) (hm : a + m ≤ 60) : ∀ (n k : Nat) (i : Int32) (s : zy_S), k ≤ m → m - k < n → i.toInt = (k : Int) →
    ∃ t, zyF262_150 n x3 x4 x5 i s = some (x5, t) ∧ t.1 = s.1 ∧ t.2.2 = s.2.2 ∧ (∀ c, c ≠ 62 → t.2.1 c = s.2.1 c) ∧ ∀ j, t.2.1 62 j = if 60 * d + a + k ≤ j ∧ j < 60 * d + a + m then s.2.1 63 (j - (60 * d + a)) else s.2.1 62 j
  | 0, k, i, s, hk, hn, hi => by omega
  | n + 1, k, i, s, hk, hn, hi => by
    have em : ((60 : Int32) * x3).toInt = 60 * (d : Int) := by rw [zq_mul (by rw [zq_l60, hx3]; omega) (by rw [zq_l60, hx3]; omega), zq_l60, hx3]
    have ea : ((60 : Int32) * x3 + x4).toInt = 60 * (d : Int) + a := by rw [zq_add (by rw [em]; omega) (by rw [em]; omega), em, hx4]
    have eb : ((60 : Int32) * x3 + x4 + i).toInt = 60 * (d : Int) + a + k := by rw [zq_add (by rw [ea]; omega) (by rw [ea]; omega), ea, hi]
    show ∃ t, zyF262_150b (zyF262_150 n) x3 x4 x5 i s = some (x5, t) ∧ _
    unfold zyF262_150b
    by_cases h : k = m
    · rw [if_pos (by rw [Int32.le_iff_toInt_le]; omega)]
      refine ⟨s, rfl, rfl, rfl, fun _ _ => rfl, fun j => ?_⟩
      rw [if_neg (by omega)]
    · have ei : i.toNatClampNeg = k := by rw [zq_ix]; omega
      have eib : ((60 : Int32) * x3 + x4 + i).toNatClampNeg = 60 * d + a + k := by rw [zq_ix]; omega
      rw [if_neg (by rw [Int32.le_iff_toInt_le]; omega), if_pos (zq_in.mpr ⟨by omega, by omega⟩), if_pos (zq_in.mpr ⟨by omega, by omega⟩), ei, eib]
      obtain ⟨t, q1, q2, q3, q4, q5⟩ := zl_150 x3 x4 x5 hx3 hd hx4 hx5 hm n (k + 1) (i + 1) (zy_uj s 62 (60 * d + a + k) (s.2.1 63 k)) (by omega) (by omega) (by rw [zq_add (by rw [zq_l1]; omega) (by rw [zq_l1]; omega), zq_l1, hi]; omega)
      refine ⟨t, q1, q2, q3, fun c hc => by rw [q4 c hc]; funext b; rw [zy_uj_at, if_neg (fun w => hc w.1)], fun j => ?_⟩
      have z1 : ∀ b', (zy_uj s 62 (60 * d + a + k) (s.2.1 63 k)).2.1 63 b' = s.2.1 63 b' := fun b' => by rw [zy_uj_at, if_neg (fun w => absurd w.1 (by decide))]
      rw [q5 j, z1, zy_uj_at]
      by_cases h1 : 60 * d + a + k ≤ j ∧ j < 60 * d + a + m
      · rw [if_pos h1]
        by_cases h2 : j = 60 * d + a + k
        · rw [if_neg (by omega), if_pos ⟨rfl, h2⟩, show j - (60 * d + a) = k by omega]
        · rw [if_pos (by omega)]
      · rw [if_neg h1, if_neg (by omega), if_neg (by omega)]
theorem zl_113 (x1 x2 x3 x4 x5 : Int32) {e b m : Nat} (hx1 : x1.toInt = (e : Int)) (he : e < 6) (hx2 : x2.toInt = (b : Int)) (hx5 : x5.toInt = (m : Int)) (hm : b + m ≤ 60) : ∀ (n k : Nat) (i : Int32) (s : zy_S), k ≤ m → m - k < n → i.toInt = (k : Int) →
    ∃ t, zyF262_113 n x1 x2 x3 x4 x5 i s = zyF262_150 zy_fu x3 x4 x5 0 t ∧ t.1 = s.1 ∧ t.2.2 = s.2.2 ∧ (∀ c, c ≠ 63 → t.2.1 c = s.2.1 c) ∧ ∀ j, t.2.1 63 j = if k ≤ j ∧ j < m then s.2.1 62 (60 * e + b + j) else s.2.1 63 j
  | 0, k, i, s, hk, hn, hi => by omega
  | n + 1, k, i, s, hk, hn, hi => by
    have em : ((60 : Int32) * x1).toInt = 60 * (e : Int) := by rw [zq_mul (by rw [zq_l60, hx1]; omega) (by rw [zq_l60, hx1]; omega), zq_l60, hx1]
    have ea : ((60 : Int32) * x1 + x2).toInt = 60 * (e : Int) + b := by rw [zq_add (by rw [em]; omega) (by rw [em]; omega), em, hx2]
    have eb : ((60 : Int32) * x1 + x2 + i).toInt = 60 * (e : Int) + b + k := by rw [zq_add (by rw [ea]; omega) (by rw [ea]; omega), ea, hi]
    show ∃ t, zyF262_113b (zyF262_113 n) x1 x2 x3 x4 x5 i s = zyF262_150 zy_fu x3 x4 x5 0 t ∧ _
    unfold zyF262_113b
    by_cases h : k = m
    · rw [if_pos (by rw [Int32.le_iff_toInt_le]; omega)]
      refine ⟨s, rfl, rfl, rfl, fun _ _ => rfl, fun j => ?_⟩
      rw [if_neg (by omega)]
    · have ei : i.toNatClampNeg = k := by rw [zq_ix]; omega
      have eib : ((60 : Int32) * x1 + x2 + i).toNatClampNeg = 60 * e + b + k := by rw [zq_ix]; omega
      rw [if_neg (by rw [Int32.le_iff_toInt_le]; omega), if_pos (zq_in.mpr ⟨by omega, by omega⟩), if_pos (zq_in.mpr ⟨by omega, by omega⟩), ei, eib]
      obtain ⟨t, q1, q2, q3, q4, q5⟩ := zl_113 x1 x2 x3 x4 x5 hx1 he hx2 hx5 hm n (k + 1) (i + 1) (zy_uj s 63 k (s.2.1 62 (60 * e + b + k))) (by omega) (by omega) (by rw [zq_add (by rw [zq_l1]; omega) (by rw [zq_l1]; omega), zq_l1, hi]; omega)
      refine ⟨t, q1, q2, q3, fun c hc => by rw [q4 c hc]; funext b'; rw [zy_uj_at, if_neg (fun w => hc w.1)], fun j => ?_⟩
      have z1 : ∀ b', (zy_uj s 63 k (s.2.1 62 (60 * e + b + k))).2.1 62 b' = s.2.1 62 b' := fun b' => by rw [zy_uj_at, if_neg (fun w => absurd w.1 (by decide))]
      rw [q5 j, z1, zy_uj_at]
      by_cases h1 : k ≤ j ∧ j < m
      · rw [if_pos h1]
        by_cases h2 : j = k
        · rw [if_neg (by omega), if_pos ⟨rfl, h2⟩, h2]
        · rw [if_pos (by omega)]
      · rw [if_neg h1, if_neg (by omega), if_neg (by omega)]

theorem zop_shift (x1 x2 x3 x4 x5 : Int32) {s : zy_S} (h : zI s) : ∃ r s1 s2, zyF171 x1 x2 x3 x4 x5 s = some (r, s1) ∧ zyF262 x1 x2 x3 x4 x5 s1 = some (r, s2) ∧ zI s2 := by
  obtain ⟨hw, hg, h1, h2, h3, h4, h5, h6, h7, h8, h9, h10, h11, h12, h13, h14, h15, h16, h17, h18, h19, h20, h21⟩ := id h
  obtain ⟨e14, nb0, nb1⟩ := id h14
  by_cases h1 : 0 ≤ x1.toInt ∧ x1.toInt ≤ 5
  · by_cases h3 : 0 ≤ x3.toInt ∧ x3.toInt ≤ 5
    · obtain ⟨hin1, hdl1, hxd1⟩ := zx6 h1
      obtain ⟨hin3, hdl3, hxd3⟩ := zx6 h3
      obtain ⟨d1, hd1⟩ : ∃ d, d = x1.toNatClampNeg := ⟨_, rfl⟩
      obtain ⟨d3, hd3⟩ : ∃ d, d = x3.toNatClampNeg := ⟨_, rfl⟩
      rw [← hd1] at hdl1 hxd1
      rw [← hd3] at hdl3 hxd3
      obtain ⟨a1, hl1, a2⟩ := h20 d1 hdl1
      obtain ⟨c1, hl3, c2⟩ := h20 d3 hdl3
      obtain ⟨n10, n11⟩ := id hl1
      obtain ⟨n30, n31⟩ := id hl3
      have q1 : ((s.1 (zy_sh d1) 1).toInt = -1 ∧ (s.1 (zy_sh d1) 2).toInt = -1 ∧ (s.1 60 d1).toInt = -1) ∨ (0 ≤ (s.1 (zy_sh d1) 1).toInt ∧ (s.1 (zy_sh d1) 2).toInt = -1 ∧ 0 ≤ (s.1 60 d1).toInt ∧ (s.1 60 d1).toInt < 50) ∨ (0 ≤ (s.1 (zy_sh d1) 2).toInt ∧ (s.1 60 d1).toInt = 50 + (s.1 (zy_sh d1) 2).toInt) := by
        rcases a2 with ⟨t, hb, b0, b1, hn0⟩ | ⟨⟨t0, t1⟩, b, hh⟩
        · rw [← hb]; omega
        · omega
      have q3 : ((s.1 (zy_sh d3) 1).toInt = -1 ∧ (s.1 (zy_sh d3) 2).toInt = -1 ∧ (s.1 60 d3).toInt = -1) ∨ (0 ≤ (s.1 (zy_sh d3) 1).toInt ∧ (s.1 (zy_sh d3) 2).toInt = -1 ∧ 0 ≤ (s.1 60 d3).toInt ∧ (s.1 60 d3).toInt < 50) ∨ (0 ≤ (s.1 (zy_sh d3) 2).toInt ∧ (s.1 60 d3).toInt = 50 + (s.1 (zy_sh d3) 2).toInt) := by
        rcases c2 with ⟨t, hb, b0, b1, hn0⟩ | ⟨⟨t0, t1⟩, b, hh⟩
        · rw [← hb]; omega
        · omega
      clear a2 c2
      by_cases k1 : (s.1 60 d1).toInt < 0
      · refine ⟨-11, s, s, ?_, ?_, h⟩
        · unfold zyF171
          simp only [zys18, zys19, zys20, zys21, zys23 _ _ _ s hl1, zys23 _ _ _ s hl3, ← hd1, ← hd3, zq_bind, zqb_n0, zqb_e0, decide_eq_true_eq, decide_eq_false_iff_not]
          rw [if_neg (not_not_intro h1), if_pos h3, if_pos hin1, if_pos hw, if_pos hin3, if_pos hw, if_pos (by omega)]
        · unfold zyF262
          simp only [zqb_t0, Classical.not_not, Bool.not_eq_false, zys182, ← hd1, ← hd3, zq_bind, zqb_n0, zqb_e0, decide_eq_true_eq, decide_eq_false_iff_not, Int32.lt_iff_toInt_lt, Int32.le_iff_toInt_le, zq_l0, zq_l50, zq_eq]
          rw [if_neg (not_not_intro h1), if_pos h3, if_pos hin1, if_pos k1]
      by_cases k3 : (s.1 60 d3).toInt < 0
      · refine ⟨-11, s, s, ?_, ?_, h⟩
        · unfold zyF171
          simp only [zys18, zys19, zys20, zys21, zys23 _ _ _ s hl1, zys23 _ _ _ s hl3, ← hd1, ← hd3, zq_bind, zqb_n0, zqb_e0, decide_eq_true_eq, decide_eq_false_iff_not]
          rw [if_neg (not_not_intro h1), if_pos h3, if_pos hin1, if_pos hw, if_pos hin3, if_pos hw, if_neg (by omega), if_neg (by omega)]
        · unfold zyF262
          simp only [zqb_t0, Classical.not_not, Bool.not_eq_false, zys182, ← hd1, ← hd3, zq_bind, zqb_n0, zqb_e0, decide_eq_true_eq, decide_eq_false_iff_not, Int32.lt_iff_toInt_lt, Int32.le_iff_toInt_le, zq_l0, zq_l50, zq_eq]
          rw [if_neg (not_not_intro h1), if_pos h3, if_pos hin1, if_neg k1, if_pos hin3, if_neg (by omega)]
      by_cases k2 : (s.1 60 d1).toInt < 50
      · refine ⟨-12, s, s, ?_, ?_, h⟩
        · unfold zyF171
          simp only [zys18, zys19, zys20, zys21, zys23 _ _ _ s hl1, zys23 _ _ _ s hl3, ← hd1, ← hd3, zq_bind, zqb_n0, zqb_e0, decide_eq_true_eq, decide_eq_false_iff_not]
          rw [if_neg (not_not_intro h1), if_pos h3, if_pos hin1, if_pos hw, if_pos hin3, if_pos hw, if_neg (by omega), if_pos (by omega), if_pos (by omega)]
        · unfold zyF262
          simp only [zqb_t0, Classical.not_not, Bool.not_eq_false, zys182, ← hd1, ← hd3, zq_bind, zqb_n0, zqb_e0, decide_eq_true_eq, decide_eq_false_iff_not, Int32.lt_iff_toInt_lt, Int32.le_iff_toInt_le, zq_l0, zq_l50, zq_eq]
          rw [if_neg (not_not_intro h1), if_pos h3, if_pos hin1, if_neg k1, if_pos hin3, if_pos (by omega), if_pos hin1, if_pos k2]
      by_cases k4 : (s.1 60 d1).toInt = (s.1 60 d3).toInt
      · by_cases kn : x5.toInt < 0
        · refine ⟨-13, s, s, ?_, ?_, h⟩
          · unfold zyF171
            simp only [zys18, zys19, zys20, zys21, zys23 _ _ _ s hl1, zys23 _ _ _ s hl3, ← hd1, ← hd3, zq_bind, zqb_n0, zqb_e0, decide_eq_true_eq, decide_eq_false_iff_not]
            rw [if_neg (not_not_intro h1), if_pos h3, if_pos hin1, if_pos hw, if_pos hin3, if_pos hw, if_neg (by omega), if_pos (by omega), if_neg (by omega), if_pos (by omega), if_pos (by omega)]
          · unfold zyF262
            simp only [zqb_t0, Classical.not_not, Bool.not_eq_false, zys182, ← hd1, ← hd3, zq_bind, zqb_n0, zqb_e0, decide_eq_true_eq, decide_eq_false_iff_not, Int32.lt_iff_toInt_lt, Int32.le_iff_toInt_le, zq_l0, zq_l50, zq_eq]
            rw [if_neg (not_not_intro h1), if_pos h3, if_pos hin1, if_neg k1, if_pos hin3, if_pos (by omega), if_pos hin1, if_neg k2, if_pos hin1, if_pos hin3, if_pos k4, if_pos kn]
        by_cases ki : x2.toInt < 0
        · refine ⟨-13, s, s, ?_, ?_, h⟩
          · unfold zyF171
            simp only [zys18, zys19, zys20, zys21, zys23 _ _ _ s hl1, zys23 _ _ _ s hl3, ← hd1, ← hd3, zq_bind, zqb_n0, zqb_e0, decide_eq_true_eq, decide_eq_false_iff_not]
            rw [if_neg (not_not_intro h1), if_pos h3, if_pos hin1, if_pos hw, if_pos hin3, if_pos hw, if_neg (by omega), if_pos (by omega), if_neg (by omega), if_pos (by omega), if_pos (by omega)]
          · unfold zyF262
            simp only [zqb_t0, Classical.not_not, Bool.not_eq_false, zys182, ← hd1, ← hd3, zq_bind, zqb_n0, zqb_e0, decide_eq_true_eq, decide_eq_false_iff_not, Int32.lt_iff_toInt_lt, Int32.le_iff_toInt_le, zq_l0, zq_l50, zq_eq]
            rw [if_neg (not_not_intro h1), if_pos h3, if_pos hin1, if_neg k1, if_pos hin3, if_pos (by omega), if_pos hin1, if_neg k2, if_pos hin1, if_pos hin3, if_pos k4, if_neg kn, if_pos ki]
        by_cases kj : x4.toInt < 0
        · by_cases rr : 0 ≤ x2.toInt ∧ 0 ≤ x5.toInt ∧ x2.toInt ≤ (s.1 (zy_sh d1) 3).toInt ∧ x5.toInt ≤ (s.1 (zy_sh d1) 3).toInt - x2.toInt
          · refine ⟨-13, s, s, ?_, ?_, h⟩
            · unfold zyF171
              simp only [zys18, zys19, zys20, zys21, zys23 _ _ _ s hl1, zys23 _ _ _ s hl3, ← hd1, ← hd3, zq_bind, zqb_n0, zqb_e0, decide_eq_true_eq, decide_eq_false_iff_not]
              rw [if_neg (not_not_intro h1), if_pos h3, if_pos hin1, if_pos hw, if_pos hin3, if_pos hw, if_neg (by omega), if_pos (by omega), if_neg (by omega), if_pos (by omega), if_neg (by omega), if_neg (by omega)]
            · unfold zyF262
              simp only [zqb_t0, Classical.not_not, Bool.not_eq_false, zys182, ← hd1, ← hd3, zq_bind, zqb_n0, zqb_e0, decide_eq_true_eq, decide_eq_false_iff_not, Int32.lt_iff_toInt_lt, Int32.le_iff_toInt_le, zq_l0, zq_l50, zq_eq]
              rw [if_neg (not_not_intro h1), if_pos h3, if_pos hin1, if_neg k1, if_pos hin3, if_pos (by omega), if_pos hin1, if_neg k2, if_pos hin1, if_pos hin3, if_pos k4, if_neg kn, if_neg ki, if_pos kj]
          · refine ⟨-13, s, s, ?_, ?_, h⟩
            · unfold zyF171
              simp only [zys18, zys19, zys20, zys21, zys23 _ _ _ s hl1, zys23 _ _ _ s hl3, ← hd1, ← hd3, zq_bind, zqb_n0, zqb_e0, decide_eq_true_eq, decide_eq_false_iff_not]
              rw [if_neg (not_not_intro h1), if_pos h3, if_pos hin1, if_pos hw, if_pos hin3, if_pos hw, if_neg (by omega), if_pos (by omega), if_neg (by omega), if_pos (by omega), if_pos rr]
            · unfold zyF262
              simp only [zqb_t0, Classical.not_not, Bool.not_eq_false, zys182, ← hd1, ← hd3, zq_bind, zqb_n0, zqb_e0, decide_eq_true_eq, decide_eq_false_iff_not, Int32.lt_iff_toInt_lt, Int32.le_iff_toInt_le, zq_l0, zq_l50, zq_eq]
              rw [if_neg (not_not_intro h1), if_pos h3, if_pos hin1, if_neg k1, if_pos hin3, if_pos (by omega), if_pos hin1, if_neg k2, if_pos hin1, if_pos hin3, if_pos k4, if_neg kn, if_neg ki, if_pos kj]
        have e1 : (s.1 61 d1 - x5).toInt = (s.1 (zy_sh d1) 3).toInt - x5.toInt := by
          rw [← a1]
          exact zq_sub (by have := zq_hi x5; omega) (by omega)
        have e3 : (s.1 61 d3 - x5).toInt = (s.1 (zy_sh d3) 3).toInt - x5.toInt := by
          rw [← c1]
          exact zq_sub (by have := zq_hi x5; omega) (by omega)
        by_cases r1 : (s.1 (zy_sh d1) 3).toInt - x5.toInt < x2.toInt
        · refine ⟨-13, s, s, ?_, ?_, h⟩
          · unfold zyF171
            simp only [zys18, zys19, zys20, zys21, zys23 _ _ _ s hl1, zys23 _ _ _ s hl3, ← hd1, ← hd3, zq_bind, zqb_n0, zqb_e0, decide_eq_true_eq, decide_eq_false_iff_not]
            rw [if_neg (not_not_intro h1), if_pos h3, if_pos hin1, if_pos hw, if_pos hin3, if_pos hw, if_neg (by omega), if_pos (by omega), if_neg (by omega), if_pos (by omega), if_pos (by omega)]
          · unfold zyF262
            simp only [e1, e3, zqb_t0, Classical.not_not, Bool.not_eq_false, zys182, ← hd1, ← hd3, zq_bind, zqb_n0, zqb_e0, decide_eq_true_eq, decide_eq_false_iff_not, Int32.lt_iff_toInt_lt, Int32.le_iff_toInt_le, zq_l0, zq_l50, zq_eq]
            rw [if_neg (not_not_intro h1), if_pos h3, if_pos hin1, if_neg k1, if_pos hin3, if_pos (by omega), if_pos hin1, if_neg k2, if_pos hin1, if_pos hin3, if_pos k4, if_neg kn, if_neg ki, if_neg kj, if_pos hin1, if_pos r1]
        by_cases r3 : x4.toInt ≤ (s.1 (zy_sh d3) 3).toInt - x5.toInt
        · have f2 : (x2.toNatClampNeg : Int) = x2.toInt := by rw [zq_ix]; omega
          have f4 : (x4.toNatClampNeg : Int) = x4.toInt := by rw [zq_ix]; omega
          have f5 : (x5.toNatClampNeg : Int) = x5.toInt := by rw [zq_ix]; omega
          have hcp : zy_cpB x2 x4 x5 60 60 = true := decide_eq_true ⟨by omega, by omega, by omega, by omega, by omega⟩
          obtain ⟨s1, hs1⟩ : ∃ s1, s1 = zy_ub s (zy_sh d3 + 1) (va_cpy (s.2.1 (zy_sh d1 + 1)) (s.2.1 (zy_sh d3 + 1)) x2.toNatClampNeg x4.toNatClampNeg x5.toNatClampNeg) := ⟨_, rfl⟩
          have o1 : s1.1 = s.1 := by rw [hs1]; rfl
          obtain ⟨v, v1, v2, v3, v4, v5⟩ := zl_113 x1 x2 x3 x4 x5 (e := d1) (b := x2.toNatClampNeg) (m := x5.toNatClampNeg) hxd1 hdl1 f2.symm f5.symm (by omega) zy_fu 0 0 s1 (by omega) (by unfold zy_fu; omega) rfl
          obtain ⟨t, t1, t2, t3, t4, t5⟩ := zl_150 x3 x4 x5 (d := d3) (a := x4.toNatClampNeg) (m := x5.toNatClampNeg) hxd3 hdl3 f4.symm f5.symm (by omega) zy_fu 0 0 v (by omega) (by unfold zy_fu; omega) rfl
          have n62 : ∀ d', d' < 6 → zy_sh d' + 1 ≠ 62 ∧ zy_sh d' + 1 ≠ 63 := fun d' g => by unfold zy_sh; omega
          have s62 : ∀ j, s1.2.1 62 j = s.2.1 62 j := fun j => by rw [hs1, zy_ub_at, if_neg (n62 d3 hdl3).1.symm]
          have tj : ∀ j, t.2.1 62 j = if 60 * d3 + x4.toNatClampNeg ≤ j ∧ j < 60 * d3 + x4.toNatClampNeg + x5.toNatClampNeg then s.2.1 62 (60 * d1 + x2.toNatClampNeg + (j - (60 * d3 + x4.toNatClampNeg))) else s.2.1 62 j := by
            intro j
            rw [t5, v5]
            by_cases g : 60 * d3 + x4.toNatClampNeg ≤ j ∧ j < 60 * d3 + x4.toNatClampNeg + x5.toNatClampNeg
            · rw [if_pos (by omega), if_pos (by omega), if_pos g, s62]
            · rw [if_neg (by omega), if_neg g, v4 62 (by decide), s62]
          have tc : ∀ c, c ≠ 62 → c ≠ 63 → t.2.1 c = s1.2.1 c := fun c g1 g2 => by rw [t4 c g1, v4 c g2]
          refine ⟨x5, s1, t, ?_, ?_, ?_⟩
          · unfold zyF171
            simp only [zys18, zys19, zys20, zys21, zys23 _ _ _ s hl1, zys23 _ _ _ s hl3, ← hd1, ← hd3, zq_bind, zqb_n0, zqb_e0, decide_eq_true_eq, decide_eq_false_iff_not]
            rw [if_neg (not_not_intro h1), if_pos h3, if_pos hin1, if_pos hw, if_pos hin3, if_pos hw, if_neg (by omega), if_pos (by omega), if_neg (by omega), if_pos (by omega), if_neg (by omega), if_pos (by omega), if_pos hcp, ← hs1]
          · unfold zyF262
            simp only [o1, e1, e3, zqb_t0, Classical.not_not, Bool.not_eq_false, zys182, ← hd1, ← hd3, zq_bind, zqb_n0, zqb_e0, decide_eq_true_eq, decide_eq_false_iff_not, Int32.lt_iff_toInt_lt, Int32.le_iff_toInt_le, zq_l0, zq_l50, zq_eq]
            rw [if_neg (not_not_intro h1), if_pos h3, if_pos hin1, if_neg k1, if_pos hin3, if_pos (by omega), if_pos hin1, if_neg k2, if_pos hin1, if_pos hin3, if_pos k4, if_neg kn, if_neg ki, if_neg kj, if_pos hin1, if_neg r1, if_pos hin3, if_pos r3]
            exact v1.trans t1
          · have te : t.1 = s.1 := by rw [t2, v2, o1]
            refine zI_sh1 h hdl3 ?_ ?_ (fun c k _ _ _ => by rw [te]) (by rw [te]; exact h20 d3 hdl3) ?_ ?_ ?_
            · unfold zRg
              rw [te]
              exact hg
            · rw [t3, v3, hs1]; rfl
            · intro d' j hd' g
              rw [tc _ (n62 d' hd').1 (n62 d' hd').2, hs1, zy_ub_at, if_neg (fun u => g (zsh_inj (by omega)))]
            · intro d' j hd' g hj
              rw [tj, if_neg (by omega)]
            · intro j hj
              rw [te, tc _ (n62 d3 hdl3).1 (n62 d3 hdl3).2, hs1, zy_ub_at, if_pos rfl, tj]
              unfold va_cpy
              by_cases g : x4.toNatClampNeg ≤ j ∧ j < x4.toNatClampNeg + x5.toNatClampNeg
              · obtain ⟨w1, w2⟩ := h21 d1 hdl1 (x2.toNatClampNeg + (j - x4.toNatClampNeg)) (by omega)
                have eT : s.1 (zy_sh d3) 2 = s.1 (zy_sh d1) 2 := zq_ext (by omega)
                rw [if_pos g, if_pos (by omega), eT]
                refine ⟨?_, w2⟩
                rw [w1, show 60 * d1 + (x2.toNatClampNeg + (j - x4.toNatClampNeg)) = 60 * d1 + x2.toNatClampNeg + (60 * d3 + j - (60 * d3 + x4.toNatClampNeg)) by omega]
              · obtain ⟨w1, w2⟩ := h21 d3 hdl3 j hj
                rw [if_neg g, if_neg (by omega)]
                exact ⟨w1, w2⟩
        · refine ⟨-13, s, s, ?_, ?_, h⟩
          · unfold zyF171
            simp only [zys18, zys19, zys20, zys21, zys23 _ _ _ s hl1, zys23 _ _ _ s hl3, ← hd1, ← hd3, zq_bind, zqb_n0, zqb_e0, decide_eq_true_eq, decide_eq_false_iff_not]
            rw [if_neg (not_not_intro h1), if_pos h3, if_pos hin1, if_pos hw, if_pos hin3, if_pos hw, if_neg (by omega), if_pos (by omega), if_neg (by omega), if_pos (by omega), if_neg (by omega), if_neg (by omega)]
          · unfold zyF262
            simp only [e1, e3, zqb_t0, Classical.not_not, Bool.not_eq_false, zys182, ← hd1, ← hd3, zq_bind, zqb_n0, zqb_e0, decide_eq_true_eq, decide_eq_false_iff_not, Int32.lt_iff_toInt_lt, Int32.le_iff_toInt_le, zq_l0, zq_l50, zq_eq]
            rw [if_neg (not_not_intro h1), if_pos h3, if_pos hin1, if_neg k1, if_pos hin3, if_pos (by omega), if_pos hin1, if_neg k2, if_pos hin1, if_pos hin3, if_pos k4, if_neg kn, if_neg ki, if_neg kj, if_pos hin1, if_neg r1, if_pos hin3, if_neg r3]
      · refine ⟨-12, s, s, ?_, ?_, h⟩
        · unfold zyF171
          simp only [zys18, zys19, zys20, zys21, zys23 _ _ _ s hl1, zys23 _ _ _ s hl3, ← hd1, ← hd3, zq_bind, zqb_n0, zqb_e0, decide_eq_true_eq, decide_eq_false_iff_not]
          rw [if_neg (not_not_intro h1), if_pos h3, if_pos hin1, if_pos hw, if_pos hin3, if_pos hw, if_neg (by omega), if_pos (by omega), if_neg (by omega), if_neg (by omega)]
        · unfold zyF262
          simp only [zqb_t0, Classical.not_not, Bool.not_eq_false, zys182, ← hd1, ← hd3, zq_bind, zqb_n0, zqb_e0, decide_eq_true_eq, decide_eq_false_iff_not, Int32.lt_iff_toInt_lt, Int32.le_iff_toInt_le, zq_l0, zq_l50, zq_eq]
          rw [if_neg (not_not_intro h1), if_pos h3, if_pos hin1, if_neg k1, if_pos hin3, if_pos (by omega), if_pos hin1, if_neg k2, if_pos hin1, if_pos hin3, if_neg k4]
    · refine ⟨-1, s, s, ?_, ?_, h⟩
      · unfold zyF171
        simp only [zys18, zq_bind, zqb_n0, zqb_e0, decide_eq_true_eq, decide_eq_false_iff_not]
        rw [if_neg (not_not_intro h1), if_neg h3]
      · unfold zyF262
        simp only [zqb_t0, Classical.not_not, Bool.not_eq_false, zys182, zq_bind, zqb_n0, zqb_e0, decide_eq_true_eq, decide_eq_false_iff_not, Int32.lt_iff_toInt_lt, Int32.le_iff_toInt_le, zq_l0, zq_l50, zq_eq]
        rw [if_neg (not_not_intro h1), if_neg h3]
  · refine ⟨-1, s, s, ?_, ?_, h⟩
    · unfold zyF171
      simp only [zys18, zq_bind, zqb_n0, zqb_e0, decide_eq_true_eq, decide_eq_false_iff_not]
      rw [if_pos h1]
    · unfold zyF262
      simp only [zqb_t0, Classical.not_not, Bool.not_eq_false, zys182, zq_bind, zqb_n0, zqb_e0, decide_eq_true_eq, decide_eq_false_iff_not, Int32.lt_iff_toInt_lt, Int32.le_iff_toInt_le, zq_l0, zq_l50, zq_eq]
      rw [if_pos h1]
