/-! PART 46.7: feed, image, back. Made by wip/v4/gen_image.py. -/
-- feed
theorem zrg_tp : zrg 9 2 = (0, 120) ∧ zrg 43 9 = (0, 120) ∧ (∀ k, k < 120 → zrg 10 k = (0, 255) ∧ zrg 48 k = (0, 255)) := by decide +kernel
theorem zop_feed (x : Int32) {s : zy_S} (h : zI s) : ∃ r s1 s2, zyF33 x s = some (r, s1) ∧ zyF189 x s1 = some (r, s2) ∧ zI s2 := by
  obtain ⟨hw, hg, h1, h2, h3, h4, h5, h6, h7, h8, h9, h10, h11, h12, h13, h14, h15, h16, h17, h18, h19, h20, h21⟩ := id h
  obtain ⟨e18, b0, b1⟩ := id h18
  by_cases hx : 0 ≤ x.toInt ∧ x.toInt ≤ 255
  · by_cases hf : 120 ≤ (s.1 9 2).toInt
    · refine ⟨-3, s, s, ?_, ?_, h⟩
      · unfold zyF33
        simp only [zys34, true_and, and_true, zqb_t0, Classical.not_not, Bool.not_eq_false, zq_bind, zqb_n0, zqb_e0, decide_eq_true_eq, decide_eq_false_iff_not, ne_eq, zq_eq, Int32.toInt_toInt64, Int32.lt_iff_toInt_lt, Int32.le_iff_toInt_le, zq_l0, zq_lm1, zq_l1, zq_l2, zq_l3, zq_l4, zq_l5, zq_l6, zq_l7, zq_l8, zq_l9, zq_l12, zq_l16, zq_l23, zq_l24, zq_l40, zq_l39, zq_l50, zq_l51, zq_l60, zq_l120, zq_l128, zq_l255, zq_l4095, zq_l4096, zq_j0, zq_j1, zq_j4, zq_j5, zq_j7, zq_j8, zq_j9, zq_j23, zq_j255, zq_j4095]
        rw [if_neg (by omega), if_pos (by omega), if_neg (by omega)]
      · unfold zyF189
        simp only [zys179, ← e18, true_and, and_true, zqb_t0, Classical.not_not, Bool.not_eq_false, zq_bind, zqb_n0, zqb_e0, decide_eq_true_eq, decide_eq_false_iff_not, ne_eq, zq_eq, Int32.toInt_toInt64, Int32.lt_iff_toInt_lt, Int32.le_iff_toInt_le, zq_l0, zq_lm1, zq_l1, zq_l2, zq_l3, zq_l4, zq_l5, zq_l6, zq_l7, zq_l8, zq_l9, zq_l12, zq_l16, zq_l23, zq_l24, zq_l40, zq_l39, zq_l50, zq_l51, zq_l60, zq_l120, zq_l128, zq_l255, zq_l4095, zq_l4096, zq_j0, zq_j1, zq_j4, zq_j5, zq_j7, zq_j8, zq_j9, zq_j23, zq_j255, zq_j4095]
        rw [if_pos hx, if_neg (by omega)]
    · have en : (s.1 9 2 + 1).toInt = (s.1 9 2).toInt + 1 := zq_add (by rw [zq_l1]; omega) (by rw [zq_l1]; omega)
      have hin : zy_in (s.1 9 2) 120 = true := zq_in.mpr ⟨b0, by omega⟩
      obtain ⟨n, hn⟩ : ∃ n, n = (s.1 9 2).toNatClampNeg := ⟨_, rfl⟩
      have en2 : (n : Int) = (s.1 9 2).toInt := by rw [hn, zq_ix]; omega
      obtain ⟨t1, t2, t3⟩ := zrg_tp
      have hb : zin (s.1 9 2 + 1) 0 120 := ⟨by omega, by omega⟩
      refine ⟨s.1 9 2 + 1, zy_up (zy_up s 10 n x) 9 2 (s.1 9 2 + 1), zy_up (zy_up (zy_up (zy_up s 10 n x) 9 2 (s.1 9 2 + 1)) 48 n x) 43 9 (s.1 9 2 + 1), ?_, ?_, ?_⟩
      · unfold zyF33 zyF35
        simp only [zys34, true_and, and_true, zqb_t0, Classical.not_not, Bool.not_eq_false, zq_bind, zqb_n0, zqb_e0, decide_eq_true_eq, decide_eq_false_iff_not, ne_eq, zq_eq, Int32.toInt_toInt64, Int32.lt_iff_toInt_lt, Int32.le_iff_toInt_le, zq_l0, zq_lm1, zq_l1, zq_l2, zq_l3, zq_l4, zq_l5, zq_l6, zq_l7, zq_l8, zq_l9, zq_l12, zq_l16, zq_l23, zq_l24, zq_l40, zq_l39, zq_l50, zq_l51, zq_l60, zq_l120, zq_l128, zq_l255, zq_l4095, zq_l4096, zq_j0, zq_j1, zq_j4, zq_j5, zq_j7, zq_j8, zq_j9, zq_j23, zq_j255, zq_j4095]
        rw [if_neg (by omega), if_pos (by omega), if_pos (by omega), if_pos hin, ← hn]
        rfl
      · unfold zyF189
        have e : (zy_up (zy_up s 10 n x) 9 2 (s.1 9 2 + 1)).1 43 9 = s.1 9 2 := e18.symm
        simp only [zys179, e, true_and, and_true, zqb_t0, Classical.not_not, Bool.not_eq_false, zq_bind, zqb_n0, zqb_e0, decide_eq_true_eq, decide_eq_false_iff_not, ne_eq, zq_eq, Int32.toInt_toInt64, Int32.lt_iff_toInt_lt, Int32.le_iff_toInt_le, zq_l0, zq_lm1, zq_l1, zq_l2, zq_l3, zq_l4, zq_l5, zq_l6, zq_l7, zq_l8, zq_l9, zq_l12, zq_l16, zq_l23, zq_l24, zq_l40, zq_l39, zq_l50, zq_l51, zq_l60, zq_l120, zq_l128, zq_l255, zq_l4095, zq_l4096, zq_j0, zq_j1, zq_j4, zq_j5, zq_j7, zq_j8, zq_j9, zq_j23, zq_j255, zq_j4095]
        rw [if_pos hx, if_pos (by omega), if_pos hin, ← hn]
      · exact ⟨hw, (zRg_upF (zRg_upF (zRg_upF (zRg_upF hg (t3 n (by omega)).1 hx) t1 hb) (t3 n (by omega)).2 hx) t2 hb), h1, h2, h3, h4, h5, h6, h7, h8, h9, h10, h11, h12, h13, h14, h15, h16, h17, ⟨rfl, hb⟩, ⟨(fun p hp => by
          have := zf_two (o := 0) (k := n) (g := s.1 48) (fun p hp => by rw [Nat.zero_add]; exact h19.1 p hp) hx p hp
          rw [Nat.zero_add, Nat.zero_add] at this
          rw [zf_up (by decide), zf_up (by decide), zf_up (by decide), zf_upr, zf_up (by decide), zf_upr, zf_up (by decide), zf_up (by decide)]
          exact this), h19.2⟩, (zR20_of h20 rfl (fun d hd k => by rw [zf_sh (by decide) hd, zf_sh (by decide) hd, zf_sh (by decide) hd, zf_sh (by decide) hd]) (fun d hd => rfl) (fun d hd => rfl)), (zR21_of h21 (fun d hd k => by rw [zf_sh (by decide) hd, zf_sh (by decide) hd, zf_sh (by decide) hd, zf_sh (by decide) hd]) rfl)⟩
  · refine ⟨-1, s, s, ?_, ?_, h⟩
    · unfold zyF33
      simp only [true_and, and_true, zqb_t0, Classical.not_not, Bool.not_eq_false, zq_bind, zqb_n0, zqb_e0, decide_eq_true_eq, decide_eq_false_iff_not, ne_eq, zq_eq, Int32.toInt_toInt64, Int32.lt_iff_toInt_lt, Int32.le_iff_toInt_le, zq_l0, zq_lm1, zq_l1, zq_l2, zq_l3, zq_l4, zq_l5, zq_l6, zq_l7, zq_l8, zq_l9, zq_l12, zq_l16, zq_l23, zq_l24, zq_l40, zq_l39, zq_l50, zq_l51, zq_l60, zq_l120, zq_l128, zq_l255, zq_l4095, zq_l4096, zq_j0, zq_j1, zq_j4, zq_j5, zq_j7, zq_j8, zq_j9, zq_j23, zq_j255, zq_j4095]
      by_cases h0 : x.toInt < 0
      · rw [if_pos h0]
      · rw [if_neg h0, if_neg (by omega)]
    · unfold zyF189
      simp only [zys179, true_and, and_true, zqb_t0, Classical.not_not, Bool.not_eq_false, zq_bind, zqb_n0, zqb_e0, decide_eq_true_eq, decide_eq_false_iff_not, ne_eq, zq_eq, Int32.toInt_toInt64, Int32.lt_iff_toInt_lt, Int32.le_iff_toInt_le, zq_l0, zq_lm1, zq_l1, zq_l2, zq_l3, zq_l4, zq_l5, zq_l6, zq_l7, zq_l8, zq_l9, zq_l12, zq_l16, zq_l23, zq_l24, zq_l40, zq_l39, zq_l50, zq_l51, zq_l60, zq_l120, zq_l128, zq_l255, zq_l4095, zq_l4096, zq_j0, zq_j1, zq_j4, zq_j5, zq_j7, zq_j8, zq_j9, zq_j23, zq_j255, zq_j4095]
      rw [if_neg hx]
/-! image and back -/
theorem zl_245_80 : ∀ (n k : Nat) (i : Int32) (s : zy_S), k ≤ 5 → 5 - k < n → i.toInt = (k : Int) →
    ∃ t, zyF245_80 n i s = (zyF209 (t.1 43 7) t).bind (fun p1 => some (p1.1, p1.2)) ∧ t.2 = s.2 ∧ ∀ a b, t.1 a b = if a = 57 ∧ 0 + k ≤ b ∧ b < 0 + 5 then s.1 54 (b - 0 + 0) else s.1 a b
  | 0, k, i, s, hk, hn, hi => by omega
  | n + 1, k, i, s, hk, hn, hi => by
    show ∃ t, zyF245_80b (zyF245_80 n) i s = (zyF209 (t.1 43 7) t).bind (fun p1 => some (p1.1, p1.2)) ∧ _
    unfold zyF245_80b
    by_cases h : k = 5
    · rw [if_pos (by rw [Int32.le_iff_toInt_le, show (5 : Int32).toInt = 5 from rfl]; omega)]
      refine ⟨s, rfl, rfl, fun a b => ?_⟩
      rw [if_neg (by omega)]
    · have ei : i.toNatClampNeg = k := by rw [zq_ix]; omega
      rw [if_neg (by rw [Int32.le_iff_toInt_le, show (5 : Int32).toInt = 5 from rfl]; omega), if_pos (zq_in.mpr ⟨by omega, by omega⟩), if_pos (zq_in.mpr ⟨by omega, by omega⟩), ei]
      obtain ⟨t, q1, q2, q3⟩ := zl_245_80 n (k + 1) (i + 1) (zy_up s 57 (k) (s.1 54 (k))) (by omega) (by omega) (by rw [zq_add (by rw [zq_l1]; omega) (by rw [zq_l1]; omega), zq_l1, hi]; omega)
      refine ⟨t, q1, q2, fun a b => ?_⟩
      rw [q3, zf_up (show 54 ≠ 57 by decide), zy_up_at]
      by_cases g : a = 57 ∧ 0 + k ≤ b ∧ b < 0 + 5
      · rw [if_pos g]
        by_cases g2 : b = k
        · rw [if_neg (by omega), if_pos ⟨g.1, g2⟩, show b - 0 + 0 = k by omega]
        · rw [if_pos (by omega)]
      · rw [if_neg g, if_neg (by omega), if_neg (by omega)]
theorem zl_245_51 : ∀ (n k : Nat) (i : Int32) (s : zy_S), k ≤ 24 → 24 - k < n → i.toInt = (k : Int) →
    ∃ t, zyF245_51 n i s = zyF245_80 zy_fu 0 t ∧ t.2 = s.2 ∧ ∀ a b, t.1 a b = if a = 56 ∧ 0 + k ≤ b ∧ b < 0 + 24 then s.1 44 (b - 0 + 16) else s.1 a b
  | 0, k, i, s, hk, hn, hi => by omega
  | n + 1, k, i, s, hk, hn, hi => by
    show ∃ t, zyF245_51b (zyF245_51 n) i s = zyF245_80 zy_fu 0 t ∧ _
    unfold zyF245_51b
    by_cases h : k = 24
    · rw [if_pos (by rw [Int32.le_iff_toInt_le, zq_l24]; omega)]
      refine ⟨s, rfl, rfl, fun a b => ?_⟩
      rw [if_neg (by omega)]
    · have ei : i.toNatClampNeg = k := by rw [zq_ix]; omega
      have e16 : ((16 : Int32) + i).toInt = 16 + (k : Int) := by rw [zq_add (by rw [zq_l16]; omega) (by rw [zq_l16]; omega), zq_l16, hi]
      have e16n : ((16 : Int32) + i).toNatClampNeg = 16 + k := by rw [zq_ix, e16]; omega
      rw [if_neg (by rw [Int32.le_iff_toInt_le, zq_l24]; omega), if_pos (zq_in.mpr ⟨by omega, by omega⟩), if_pos (zq_in.mpr ⟨by omega, by omega⟩), ei, e16n]
      obtain ⟨t, q1, q2, q3⟩ := zl_245_51 n (k + 1) (i + 1) (zy_up s 56 (k) (s.1 44 (16 + k))) (by omega) (by omega) (by rw [zq_add (by rw [zq_l1]; omega) (by rw [zq_l1]; omega), zq_l1, hi]; omega)
      refine ⟨t, q1, q2, fun a b => ?_⟩
      rw [q3, zf_up (show 44 ≠ 56 by decide), zy_up_at]
      by_cases g : a = 56 ∧ 0 + k ≤ b ∧ b < 0 + 24
      · rw [if_pos g]
        by_cases g2 : b = k
        · rw [if_neg (by omega), if_pos ⟨g.1, g2⟩, show b - 0 + 16 = 16 + k by omega]
        · rw [if_pos (by omega)]
      · rw [if_neg g, if_neg (by omega), if_neg (by omega)]
theorem zl_245_23 (N : Nat) (h8 : N ≤ 8) : ∀ (n k : Nat) (i : Int32) (s : zy_S), (s.1 43 6).toInt = (N : Int) → k ≤ N → N - k < n → i.toInt = (k : Int) →
    ∃ t, zyF245_23 n i s = zyF245_51 zy_fu 0 t ∧ t.2 = s.2 ∧ ∀ a b, t.1 a b = if a = 55 ∧ 0 + k ≤ b ∧ b < 0 + N then s.1 44 (b - 0 + 0) else s.1 a b
  | 0, k, i, s, hN, hk, hn, hi => by omega
  | n + 1, k, i, s, hN, hk, hn, hi => by
    show ∃ t, zyF245_23b (zyF245_23 n) i s = zyF245_51 zy_fu 0 t ∧ _
    unfold zyF245_23b
    by_cases h : k = N
    · rw [if_pos (by rw [Int32.le_iff_toInt_le, hN]; omega)]
      refine ⟨s, rfl, rfl, fun a b => ?_⟩
      rw [if_neg (by omega)]
    · have ei : i.toNatClampNeg = k := by rw [zq_ix]; omega
      rw [if_neg (by rw [Int32.le_iff_toInt_le, hN]; omega), if_pos (zq_in.mpr ⟨by omega, by omega⟩), if_pos (zq_in.mpr ⟨by omega, by omega⟩), ei]
      obtain ⟨t, q1, q2, q3⟩ := zl_245_23 N h8 n (k + 1) (i + 1) (zy_up s 55 (k) (s.1 44 (k))) (by rw [zf_up (by decide)]; exact hN) (by omega) (by omega) (by rw [zq_add (by rw [zq_l1]; omega) (by rw [zq_l1]; omega), zq_l1, hi]; omega)
      refine ⟨t, q1, q2, fun a b => ?_⟩
      rw [q3, zf_up (show 44 ≠ 55 by decide), zy_up_at]
      by_cases g : a = 55 ∧ 0 + k ≤ b ∧ b < 0 + N
      · rw [if_pos g]
        by_cases g2 : b = k
        · rw [if_neg (by omega), if_pos ⟨g.1, g2⟩, show b - 0 + 0 = k by omega]
        · rw [if_pos (by omega)]
      · rw [if_neg g, if_neg (by omega), if_neg (by omega)]
theorem zl_246_77 : ∀ (n k : Nat) (i : Int32) (s : zy_S), k ≤ 5 → 5 - k < n → i.toInt = (k : Int) →
    ∃ t, zyF246_77 n i s = (zyF209 (t.1 43 7) t).bind (fun p1 => some (p1.1, p1.2)) ∧ t.2 = s.2 ∧ ∀ a b, t.1 a b = if a = 54 ∧ 0 + k ≤ b ∧ b < 0 + 5 then s.1 57 (b - 0 + 0) else s.1 a b
  | 0, k, i, s, hk, hn, hi => by omega
  | n + 1, k, i, s, hk, hn, hi => by
    show ∃ t, zyF246_77b (zyF246_77 n) i s = (zyF209 (t.1 43 7) t).bind (fun p1 => some (p1.1, p1.2)) ∧ _
    unfold zyF246_77b
    by_cases h : k = 5
    · rw [if_pos (by rw [Int32.le_iff_toInt_le, show (5 : Int32).toInt = 5 from rfl]; omega)]
      refine ⟨s, rfl, rfl, fun a b => ?_⟩
      rw [if_neg (by omega)]
    · have ei : i.toNatClampNeg = k := by rw [zq_ix]; omega
      rw [if_neg (by rw [Int32.le_iff_toInt_le, show (5 : Int32).toInt = 5 from rfl]; omega), if_pos (zq_in.mpr ⟨by omega, by omega⟩), if_pos (zq_in.mpr ⟨by omega, by omega⟩), ei]
      obtain ⟨t, q1, q2, q3⟩ := zl_246_77 n (k + 1) (i + 1) (zy_up s 54 (k) (s.1 57 (k))) (by omega) (by omega) (by rw [zq_add (by rw [zq_l1]; omega) (by rw [zq_l1]; omega), zq_l1, hi]; omega)
      refine ⟨t, q1, q2, fun a b => ?_⟩
      rw [q3, zf_up (show 57 ≠ 54 by decide), zy_up_at]
      by_cases g : a = 54 ∧ 0 + k ≤ b ∧ b < 0 + 5
      · rw [if_pos g]
        by_cases g2 : b = k
        · rw [if_neg (by omega), if_pos ⟨g.1, g2⟩, show b - 0 + 0 = k by omega]
        · rw [if_pos (by omega)]
      · rw [if_neg g, if_neg (by omega), if_neg (by omega)]
theorem zl_246_48 : ∀ (n k : Nat) (i : Int32) (s : zy_S), k ≤ 24 → 24 - k < n → i.toInt = (k : Int) →
    ∃ t, zyF246_48 n i s = zyF246_77 zy_fu 0 t ∧ t.2 = s.2 ∧ ∀ a b, t.1 a b = if a = 44 ∧ 16 + k ≤ b ∧ b < 16 + 24 then s.1 56 (b - 16 + 0) else s.1 a b
  | 0, k, i, s, hk, hn, hi => by omega
  | n + 1, k, i, s, hk, hn, hi => by
    show ∃ t, zyF246_48b (zyF246_48 n) i s = zyF246_77 zy_fu 0 t ∧ _
    unfold zyF246_48b
    by_cases h : k = 24
    · rw [if_pos (by rw [Int32.le_iff_toInt_le, zq_l24]; omega)]
      refine ⟨s, rfl, rfl, fun a b => ?_⟩
      rw [if_neg (by omega)]
    · have ei : i.toNatClampNeg = k := by rw [zq_ix]; omega
      have e16 : ((16 : Int32) + i).toInt = 16 + (k : Int) := by rw [zq_add (by rw [zq_l16]; omega) (by rw [zq_l16]; omega), zq_l16, hi]
      have e16n : ((16 : Int32) + i).toNatClampNeg = 16 + k := by rw [zq_ix, e16]; omega
      rw [if_neg (by rw [Int32.le_iff_toInt_le, zq_l24]; omega), if_pos (zq_in.mpr ⟨by omega, by omega⟩), if_pos (zq_in.mpr ⟨by omega, by omega⟩), ei, e16n]
      obtain ⟨t, q1, q2, q3⟩ := zl_246_48 n (k + 1) (i + 1) (zy_up s 44 (16 + k) (s.1 56 (k))) (by omega) (by omega) (by rw [zq_add (by rw [zq_l1]; omega) (by rw [zq_l1]; omega), zq_l1, hi]; omega)
      refine ⟨t, q1, q2, fun a b => ?_⟩
      rw [q3, zf_up (show 56 ≠ 44 by decide), zy_up_at]
      by_cases g : a = 44 ∧ 16 + k ≤ b ∧ b < 16 + 24
      · rw [if_pos g]
        by_cases g2 : b = 16 + k
        · rw [if_neg (by omega), if_pos ⟨g.1, g2⟩, show b - 16 + 0 = k by omega]
        · rw [if_pos (by omega)]
      · rw [if_neg g, if_neg (by omega), if_neg (by omega)]
theorem zl_246_20 (N : Nat) (h8 : N ≤ 8) : ∀ (n k : Nat) (i : Int32) (s : zy_S), (s.1 43 23).toInt = (N : Int) → k ≤ N → N - k < n → i.toInt = (k : Int) →
    ∃ t, zyF246_20 n i s = zyF246_48 zy_fu 0 t ∧ t.2 = s.2 ∧ ∀ a b, t.1 a b = if a = 44 ∧ 0 + k ≤ b ∧ b < 0 + N then s.1 55 (b - 0 + 0) else s.1 a b
  | 0, k, i, s, hN, hk, hn, hi => by omega
  | n + 1, k, i, s, hN, hk, hn, hi => by
    show ∃ t, zyF246_20b (zyF246_20 n) i s = zyF246_48 zy_fu 0 t ∧ _
    unfold zyF246_20b
    by_cases h : k = N
    · rw [if_pos (by rw [Int32.le_iff_toInt_le, hN]; omega)]
      refine ⟨s, rfl, rfl, fun a b => ?_⟩
      rw [if_neg (by omega)]
    · have ei : i.toNatClampNeg = k := by rw [zq_ix]; omega
      rw [if_neg (by rw [Int32.le_iff_toInt_le, hN]; omega), if_pos (zq_in.mpr ⟨by omega, by omega⟩), if_pos (zq_in.mpr ⟨by omega, by omega⟩), ei]
      obtain ⟨t, q1, q2, q3⟩ := zl_246_20 N h8 n (k + 1) (i + 1) (zy_up s 44 (k) (s.1 55 (k))) (by rw [zf_up (by decide)]; exact hN) (by omega) (by omega) (by rw [zq_add (by rw [zq_l1]; omega) (by rw [zq_l1]; omega), zq_l1, hi]; omega)
      refine ⟨t, q1, q2, fun a b => ?_⟩
      rw [q3, zf_up (show 55 ≠ 44 by decide), zy_up_at]
      by_cases g : a = 44 ∧ 0 + k ≤ b ∧ b < 0 + N
      · rw [if_pos g]
        by_cases g2 : b = k
        · rw [if_neg (by omega), if_pos ⟨g.1, g2⟩, show b - 0 + 0 = k by omega]
        · rw [if_pos (by omega)]
      · rw [if_neg g, if_neg (by omega), if_neg (by omega)]
/-- cells that an image leaves -/
def zim (a : Nat) : Prop := a < 17 ∨ a = 18 ∨ (22 ≤ a ∧ a < 43) ∨ (44 ≤ a ∧ a < 55) ∨ 58 ≤ a
theorem zim_sh {d : Nat} (h : d < 6) : zim (zy_sh d) := by unfold zim zy_sh; omega
theorem zI_image {s t : zy_S} (h : zI s) (ht2 : t.2 = s.2) (hgt : zRg t) (e : ∀ a b, zim a → t.1 a b = s.1 a b) (e43 : ∀ b, b ≠ 22 → b ≠ 23 → b ≠ 24 → t.1 43 b = s.1 43 b)
    (q8 : zR8 t) (q9 : zR9 t) (q10 : zR10 t) (q11 : zR11 t) : zI t := by
  obtain ⟨hw, hg, h1, h2, h3, h4, h5, h6, h7, h8, h9, h10, h11, h12, h13, h14, h15, h16, h17, h18, h19, h20, h21⟩ := h
  have hw' : zy_Wb t = true := by
    unfold zy_Wb
    rw [ht2]
    exact hw
  refine ⟨hw', hgt, ?_, ?_, ?_, ?_, ?_, ?_, ?_, ?_, ?_, ?_, ?_, ?_, ?_, ?_, ?_, ?_, ?_, ?_, ?_, ?_, ?_⟩
  · unfold zR1
    rw [e 1 5 (by unfold zim; omega), e43 6 (by decide) (by decide) (by decide)]
    exact h1
  · unfold zR2
    intro p hp
    rw [e 3 p (by unfold zim; omega), e 44 p (by unfold zim; omega)]
    exact h2 p hp
  · unfold zR3
    intro p hp
    rw [e 4 p (by unfold zim; omega), e 44 (8 + p) (by unfold zim; omega)]
    exact h3 p hp
  · unfold zR4
    intro p hp
    rw [e 2 p (by unfold zim; omega), e 44 (16 + p) (by unfold zim; omega)]
    exact h4 p hp
  · unfold zR5
    rw [e 1 4 (by unfold zim; omega), e 44 40 (by unfold zim; omega)]
    exact h5
  · unfold zR6
    rw [e 1 3 (by unfold zim; omega), e43 7 (by decide) (by decide) (by decide)]
    exact h6
  · unfold zR7
    intro p hp
    rw [e 18 p (by unfold zim; omega), e 54 p (by unfold zim; omega)]
    exact h7 p hp
  · exact q8
  · exact q9
  · exact q10
  · exact q11
  · unfold zR12
    rw [e 22 5 (by unfold zim; omega), e43 5 (by decide) (by decide) (by decide), e 22 6 (by unfold zim; omega), e43 4 (by decide) (by decide) (by decide)]
    exact h12
  · intro p hp
    rw [e 22 6 (by unfold zim; omega)] at hp
    rw [e 1 5 (by unfold zim; omega), e 23 p (by unfold zim; omega), e 24 p (by unfold zim; omega), e 25 p (by unfold zim; omega), e 26 p (by unfold zim; omega), e 45 p (by unfold zim; omega), e 46 p (by unfold zim; omega), e 47 p (by unfold zim; omega)]
    exact h13 p hp
  · unfold zR14
    rw [e 27 2 (by unfold zim; omega), e43 28 (by decide) (by decide) (by decide)]
    exact h14
  · unfold zR15
    intro p hp
    rw [e 28 p (by unfold zim; omega), e 58 p (by unfold zim; omega)]
    exact h15 p hp
  · unfold zR16
    rw [e 27 3 (by unfold zim; omega), e43 31 (by decide) (by decide) (by decide)]
    exact h16
  · unfold zR17
    intro p hp
    rw [e 29 p (by unfold zim; omega), e 59 p (by unfold zim; omega)]
    exact h17 p hp
  · unfold zR18
    rw [e 9 2 (by unfold zim; omega), e43 9 (by decide) (by decide) (by decide)]
    exact h18
  · unfold zR19
    refine ⟨fun p hp => ?_, ?_⟩
    · rw [e 10 p (by unfold zim; omega), e 48 p (by unfold zim; omega)]
      exact h19.1 p hp
    · rw [e 5 3 (by unfold zim; omega), e43 11 (by decide) (by decide) (by decide), show t.1 6 = s.1 6 from funext fun k => e 6 k (by unfold zim; omega), show t.1 49 = s.1 49 from funext fun k => e 49 k (by unfold zim; omega)]
      exact h19.2
  · intro d hd
    rw [e 27 2 (by unfold zim; omega), e _ _ (zim_sh hd), e _ _ (zim_sh hd), e _ _ (zim_sh hd), e 60 d (by unfold zim; omega), e 61 d (by unfold zim; omega)]
    exact h20 d hd
  · intro d hd j hj
    rw [e _ _ (zim_sh hd), ht2]
    exact h21 d hd j hj
theorem zrg_fuI : ∀ a, a ∈ [19, 20, 21, 55, 56, 57] → ∀ b, b < zrn a → zrg a b = (-2147483648, 2147483647) := by decide +kernel
theorem zrg_17 : ∀ b, b < zrn 17 → zrg 17 b = if b = 2 then (0, 1) else if b = 3 then (0, 16777215) else if b = 4 then (0, 8) else (-2147483648, 2147483647) := by decide +kernel
theorem zrg_43i : zrg 43 22 = (0, 1) ∧ zrg 43 23 = (0, 8) ∧ zrg 43 24 = (0, 16777215) := by decide +kernel
theorem zop_image {s : zy_S} (h : zI s) : ∃ r s1 s2, zyF140 s = some (r, s1) ∧ zyF245 s1 = some (r, s2) ∧ zI s2 := by
  obtain ⟨hw, hg, h1, h2, h3, h4, h5, h6, h7, h8, h9, h10, h11, h12, h13, h14, h15, h16, h17, h18, h19, h20, h21⟩ := id h
  obtain ⟨e6, l0, l1⟩ := id h6
  obtain ⟨e1, p0, p1⟩ := id h1
  obtain ⟨s1, hs1⟩ : ∃ s1, s1 = zy_ua (zy_ua (zy_ua (zy_up (zy_up (zy_up s 17 2 1) 17 3 (s.1 1 3)) 17 4 (s.1 1 5)) 19 (va_cpy (s.1 2) (s.1 19) 0 0 24)) 20 (va_cpy (s.1 3) (s.1 20) 0 0 8)) 21 (va_cpy (s.1 18) (s.1 21) 0 0 5) := ⟨_, rfl⟩
  have a1 : ∀ a b, s1.1 a b = if a = 21 then va_cpy (s.1 18) (s.1 21) 0 0 5 b else if a = 20 then va_cpy (s.1 3) (s.1 20) 0 0 8 b else if a = 19 then va_cpy (s.1 2) (s.1 19) 0 0 24 b else if a = 17 ∧ b = 4 then s.1 1 5 else if a = 17 ∧ b = 3 then s.1 1 3 else if a = 17 ∧ b = 2 then 1 else s.1 a b := by
    intro a b
    rw [hs1, zy_ua_at, zy_ua_at, zy_ua_at, zy_up_at, zy_up_at, zy_up_at]
  have o1 : ∀ a b, zim a ∨ 43 ≤ a → s1.1 a b = s.1 a b := by
    intro a b ha
    unfold zim at ha
    rw [a1, if_neg (by omega), if_neg (by omega), if_neg (by omega), if_neg (by omega), if_neg (by omega), if_neg (by omega)]
  obtain ⟨N, hN⟩ : ∃ N : Nat, (s.1 43 6).toInt = (N : Int) := ⟨(s.1 43 6).toInt.toNat, by rw [← e1]; omega⟩
  have hN8 : N ≤ 8 := by rw [← e1] at hN; omega
  obtain ⟨u, hu⟩ : ∃ u, u = zy_up (zy_up (zy_up s1 43 22 1) 43 23 (s.1 43 6)) 43 24 (s.1 43 7) := ⟨_, rfl⟩
  have au : ∀ a b, u.1 a b = if a = 43 ∧ b = 24 then s.1 43 7 else if a = 43 ∧ b = 23 then s.1 43 6 else if a = 43 ∧ b = 22 then 1 else s1.1 a b := by
    intro a b
    rw [hu, zy_up_at, zy_up_at, zy_up_at]
  have u6 : u.1 43 6 = s.1 43 6 := by rw [au, if_neg (by omega), if_neg (by omega), if_neg (by omega)]; exact o1 43 6 (Or.inr (by decide))
  obtain ⟨v, f1, g1, c1⟩ := zl_245_23 N hN8 zy_fu 0 0 u (by rw [u6]; exact hN) (by omega) (by unfold zy_fu; omega) rfl
  obtain ⟨w, f2, g2, c2⟩ := zl_245_51 zy_fu 0 0 v (by omega) (by unfold zy_fu; omega) rfl
  obtain ⟨t, f3, g3, c3⟩ := zl_245_80 zy_fu 0 0 w (by omega) (by unfold zy_fu; omega) rfl
  have at0 : ∀ a b, t.1 a b = if a = 57 ∧ b < 5 then u.1 54 b else if a = 56 ∧ b < 24 then u.1 44 (b + 16) else if a = 55 ∧ b < N then u.1 44 b else u.1 a b := by
    intro a b
    rw [c3 a b]
    by_cases k1 : a = 57 ∧ b < 5
    · rw [if_pos (by omega), if_pos k1, c2 54, if_neg (by omega), c1 54, if_neg (by omega), show b - 0 + 0 = b by omega]
    · rw [if_neg (by omega), if_neg k1, c2 a b]
      by_cases k2 : a = 56 ∧ b < 24
      · rw [if_pos (by omega), if_pos k2, c1 44, if_neg (by omega), show b - 0 + 16 = b + 16 by omega]
      · rw [if_neg (by omega), if_neg k2, c1 a b]
        by_cases k3 : a = 55 ∧ b < N
        · rw [if_pos (by omega), if_pos k3, show b - 0 + 0 = b by omega]
        · rw [if_neg (by omega), if_neg k3]
  have uo : ∀ a b, (zim a ∨ 44 ≤ a) → u.1 a b = s.1 a b := by
    intro a b ha
    unfold zim at ha
    rw [au, if_neg (by omega), if_neg (by omega), if_neg (by omega)]
    exact o1 a b (by unfold zim; omega)
  have e : ∀ a b, zim a → t.1 a b = s.1 a b := by
    intro a b ha
    have ha' := ha
    unfold zim at ha'
    rw [at0, if_neg (by omega), if_neg (by omega), if_neg (by omega)]
    exact uo a b (Or.inl ha)
  have e43 : ∀ b, b ≠ 22 → b ≠ 23 → b ≠ 24 → t.1 43 b = s.1 43 b := by
    intro b b1 b2 b3
    rw [at0, if_neg (by omega), if_neg (by omega), if_neg (by omega), au, if_neg (by omega), if_neg (by omega), if_neg (by omega)]
    exact o1 43 b (Or.inr (by decide))
  have t17 : ∀ b, t.1 17 b = if b = 4 then s.1 1 5 else if b = 3 then s.1 1 3 else if b = 2 then 1 else s.1 17 b := by
    intro b
    rw [at0, if_neg (by omega), if_neg (by omega), if_neg (by omega), au, if_neg (by omega), if_neg (by omega), if_neg (by omega), a1, if_neg (by omega), if_neg (by omega), if_neg (by omega)]
    by_cases b4 : b = 4
    · rw [if_pos ⟨rfl, b4⟩, if_pos b4]
    · rw [if_neg (by omega), if_neg b4]
      by_cases b3 : b = 3
      · rw [if_pos ⟨rfl, b3⟩, if_pos b3]
      · rw [if_neg (by omega), if_neg b3]
        by_cases b2 : b = 2
        · rw [if_pos ⟨rfl, b2⟩, if_pos b2]
        · rw [if_neg (by omega), if_neg b2]
  have t43 : ∀ b, t.1 43 b = if b = 24 then s.1 43 7 else if b = 23 then s.1 43 6 else if b = 22 then 1 else s.1 43 b := by
    intro b
    rw [at0, if_neg (by omega), if_neg (by omega), if_neg (by omega), au, o1 43 b (Or.inr (by decide))]
    by_cases b4 : b = 24
    · rw [if_pos ⟨rfl, b4⟩, if_pos b4]
    · rw [if_neg (by omega), if_neg b4]
      by_cases b3 : b = 23
      · rw [if_pos ⟨rfl, b3⟩, if_pos b3]
      · rw [if_neg (by omega), if_neg b3]
        by_cases b2 : b = 22
        · rw [if_pos ⟨rfl, b2⟩, if_pos b2]
        · rw [if_neg (by omega), if_neg b2]
  have row : ∀ a, a = 19 ∨ a = 20 ∨ a = 21 → ∀ b, t.1 a b = s1.1 a b := by
    intro a ha b
    rw [at0, if_neg (by omega), if_neg (by omega), if_neg (by omega), au, if_neg (by omega), if_neg (by omega), if_neg (by omega)]
  have u2 : t.1 17 2 = 1 := by rw [t17, if_neg (by decide), if_neg (by decide), if_pos rfl]
  have u3 : t.1 17 3 = s.1 1 3 := by rw [t17, if_neg (by decide), if_pos rfl]
  have u4 : t.1 17 4 = s.1 1 5 := by rw [t17, if_pos rfl]
  have v22 : t.1 43 22 = 1 := by rw [t43, if_neg (by decide), if_neg (by decide), if_pos rfl]
  have v23 : t.1 43 23 = s.1 43 6 := by rw [t43, if_neg (by decide), if_pos rfl]
  have v24 : t.1 43 24 = s.1 43 7 := by rw [t43, if_pos rfl]
  have q8 : zR8 t := by
    unfold zR8
    rw [e 1 5 (by unfold zim; omega), u2, u3, u4, v22, v23, v24]
    exact ⟨⟨rfl, by decide, by decide⟩, ⟨e6, l0, l1⟩, e1, p0, Int.le_refl _⟩
  have q9 : zR9 t := by
    intro p hp
    rw [t17 4, if_pos rfl] at hp
    have g := h2 p (by omega)
    rw [row 20 (by omega), a1, if_neg (by decide), if_pos rfl]
    unfold va_cpy
    rw [if_pos (by omega), show 0 + (p - 0) = p by omega, at0, if_neg (by omega), if_neg (by omega), if_pos (by rw [e1] at hp; omega), uo 44 p (Or.inr (by decide))]
    exact g
  have q10 : zR10 t := by
    intro p hp
    have g := h4 p hp
    rw [row 19 (by omega), a1, if_neg (by decide), if_neg (by decide), if_pos rfl]
    unfold va_cpy
    rw [if_pos (by omega), show 0 + (p - 0) = p by omega, at0, if_neg (by omega), if_pos (by omega), uo 44 _ (Or.inr (by decide)), Nat.add_comm p 16]
    exact g
  have q11 : zR11 t := by
    intro p hp
    have g := h7 p hp
    rw [row 21 (by omega), a1, if_pos rfl]
    unfold va_cpy
    rw [if_pos (by omega), show 0 + (p - 0) = p by omega, at0, if_pos (by omega), uo 54 _ (Or.inr (by decide))]
    exact g
  have hg' : zRg t := by
    intro a b hb
    obtain ⟨x1, x2, x3⟩ := zrg_43i
    by_cases hz : zim a
    · rw [e a b hz]
      exact hg a b hb
    · by_cases hm : a ∈ [19, 20, 21, 55, 56, 57]
      · rw [zrg_fuI a hm b hb]
        exact zin_full _
      · have ha : a = 17 ∨ a = 43 := by
          unfold zim at hz
          simp only [List.mem_cons, List.not_mem_nil, or_false, not_or] at hm
          omega
        rcases ha with rfl | rfl
        · rw [zrg_17 b hb]
          by_cases b2 : b = 2
          · rw [if_pos b2, b2, u2]; exact ⟨by decide, by decide⟩
          · rw [if_neg b2]
            by_cases b3 : b = 3
            · rw [if_pos b3, b3, u3]; exact ⟨l0, l1⟩
            · rw [if_neg b3]
              by_cases b4 : b = 4
              · rw [if_pos b4, b4, u4]; exact ⟨p0, p1⟩
              · rw [if_neg b4]; exact zin_full _
        · rw [t43]
          by_cases b4 : b = 24
          · subst b4; rw [x3, if_pos rfl, ← e6]; exact ⟨l0, l1⟩
          · rw [if_neg b4]
            by_cases b3 : b = 23
            · subst b3; rw [x2, if_pos rfl, ← e1]; exact ⟨p0, p1⟩
            · rw [if_neg b3]
              by_cases b2 : b = 22
              · subst b2; rw [x1, if_pos rfl]; exact ⟨by decide, by decide⟩
              · rw [if_neg b2]; exact hg 43 b hb
  refine ⟨zpc (s.1 1 3), s1, t, ?_, ?_, zI_image h (by rw [g3, g2, g1, hu, hs1]; rfl) hg' e e43 q8 q9 q10 q11⟩
  · unfold zyF140 zyF141
    rw [zq_bind, ← hs1]
    have g : s1.1 1 3 = s.1 1 3 := o1 1 3 (Or.inl (by unfold zim; omega))
    rw [zys92 (s := s1) (by rw [g]; exact l0) (by rw [g]; exact l1), g]
    rfl
  · have k6 : s1.1 43 6 = s.1 43 6 := o1 43 6 (Or.inr (by decide))
    have k7 : s1.1 43 7 = s.1 43 7 := o1 43 7 (Or.inr (by decide))
    have t7 : t.1 43 7 = s.1 1 3 := by rw [t43, if_neg (by decide), if_neg (by decide), if_neg (by decide), e6]
    unfold zyF245
    rw [k6, k7, ← hu, f1, f2, f3, t7, zys209 t l0 l1]
    rfl
theorem zop_back {s : zy_S} (h : zI s) : ∃ r s1 s2, zyF142 s = some (r, s1) ∧ zyF246 s1 = some (r, s2) ∧ zI s2 := by
  obtain ⟨hw, hg, h1, h2, h3, h4, h5, h6, h7, h8, h9, h10, h11, h12, h13, h14, h15, h16, h17, h18, h19, h20, h21⟩ := id h
  obtain ⟨⟨i1, i2, i3⟩, ⟨i4, l0, l1⟩, i5, p0, p1⟩ := id h8
  obtain ⟨e1, r0, r1⟩ := id h1
  by_cases hi : s.1 17 2 = 0
  · refine ⟨-5, s, s, ?_, ?_, h⟩
    · unfold zyF142
      rw [if_neg (show ¬ (s.1 17 2 ≠ 0) from fun g => g hi)]
    · unfold zyF246
      rw [if_neg (show ¬ (s.1 43 22 ≠ 0) from fun g => g (i1.symm.trans hi))]
  · obtain ⟨N, hN⟩ : ∃ N : Nat, (s.1 17 4).toInt = (N : Int) := ⟨(s.1 17 4).toInt.toNat, by omega⟩
    have hN8 : N ≤ 8 := by omega
    have hNn : (s.1 17 4).toNatClampNeg = N := by rw [zq_ix]; omega
    obtain ⟨s1, hs1⟩ : ∃ s1, s1 = zy_ua (zy_ua (zy_ua (zy_up s 1 3 (s.1 17 3)) 2 (va_cpy (s.1 19) (s.1 2) 0 0 24)) 3 (va_cpy (s.1 20) (s.1 3) 0 0 N)) 18 (va_cpy (s.1 21) (s.1 18) 0 0 5) := ⟨_, rfl⟩
    have a1 : ∀ a b, s1.1 a b = if a = 18 then va_cpy (s.1 21) (s.1 18) 0 0 5 b else if a = 3 then va_cpy (s.1 20) (s.1 3) 0 0 N b else if a = 2 then va_cpy (s.1 19) (s.1 2) 0 0 24 b else if a = 1 ∧ b = 3 then s.1 17 3 else s.1 a b := by
      intro a b
      rw [hs1, zy_ua_at, zy_ua_at, zy_ua_at, zy_up_at]
    have o1 : ∀ a b, 43 ≤ a → s1.1 a b = s.1 a b := by
      intro a b ha
      rw [a1, if_neg (by omega), if_neg (by omega), if_neg (by omega), if_neg (by omega)]
    obtain ⟨u, hu⟩ : ∃ u, u = zy_up s1 43 7 (s.1 43 24) := ⟨_, rfl⟩
    have au : ∀ a b, u.1 a b = if a = 43 ∧ b = 7 then s.1 43 24 else s1.1 a b := by
      intro a b
      rw [hu, zy_up_at]
    have u23 : u.1 43 23 = s.1 17 4 := by rw [au, if_neg (by omega), o1 43 23 (by decide), i5]
    obtain ⟨v, f1, g1, c1⟩ := zl_246_20 N hN8 zy_fu 0 0 u (by rw [u23]; exact hN) (by omega) (by unfold zy_fu; omega) rfl
    obtain ⟨w, f2, g2, c2⟩ := zl_246_48 zy_fu 0 0 v (by omega) (by unfold zy_fu; omega) rfl
    obtain ⟨t, f3, g3, c3⟩ := zl_246_77 zy_fu 0 0 w (by omega) (by unfold zy_fu; omega) rfl
    have at0 : ∀ a b, t.1 a b = if a = 54 ∧ b < 5 then u.1 57 b else if a = 44 ∧ 16 ≤ b ∧ b < 40 then u.1 56 (b - 16) else if a = 44 ∧ b < N then u.1 55 b else u.1 a b := by
      intro a b
      rw [c3 a b]
      by_cases k1 : a = 54 ∧ b < 5
      · rw [if_pos (by omega), if_pos k1, c2 57, if_neg (by omega), c1 57, if_neg (by omega), show b - 0 + 0 = b by omega]
      · rw [if_neg (by omega), if_neg k1, c2 a b]
        by_cases k2 : a = 44 ∧ 16 ≤ b ∧ b < 40
        · rw [if_pos (by omega), if_pos k2, c1 56, if_neg (by omega), show b - 16 + 0 = b - 16 by omega]
        · rw [if_neg (by omega), if_neg k2, c1 a b]
          by_cases k3 : a = 44 ∧ b < N
          · rw [if_pos (by omega), if_pos k3, show b - 0 + 0 = b by omega]
          · rw [if_neg (by omega), if_neg k3]
    have uo : ∀ a b, a ≠ 43 ∧ 43 ≤ a → u.1 a b = s.1 a b := by
      intro a b ha
      rw [au, if_neg (by omega)]
      exact o1 a b ha.2
    have tl : ∀ a b, a < 43 → t.1 a b = s1.1 a b := by
      intro a b ha
      rw [at0, if_neg (by omega), if_neg (by omega), if_neg (by omega), au, if_neg (by omega)]
    have e : ∀ a b, zch a → t.1 a b = s.1 a b := by
      intro a b ha
      unfold zch at ha
      rw [at0, if_neg (by omega), if_neg (by omega), if_neg (by omega), au, if_neg (by omega), a1, if_neg (by omega), if_neg (by omega), if_neg (by omega), if_neg (by omega)]
    have e1' : ∀ b, b ≠ 3 → t.1 1 b = s.1 1 b := by
      intro b hb
      rw [tl 1 b (by decide), a1, if_neg (by omega), if_neg (by omega), if_neg (by omega), if_neg (by omega)]
    have e43 : ∀ b, b ≠ 7 → t.1 43 b = s.1 43 b := by
      intro b hb
      rw [at0, if_neg (by omega), if_neg (by omega), if_neg (by omega), au, if_neg (by omega)]
      exact o1 43 b (by decide)
    have t13 : t.1 1 3 = s.1 17 3 := by rw [tl 1 3 (by decide), a1, if_neg (by decide), if_neg (by decide), if_neg (by decide), if_pos ⟨rfl, rfl⟩]
    have t437 : t.1 43 7 = s.1 17 3 := by rw [at0, if_neg (by omega), if_neg (by omega), if_neg (by omega), au, if_pos ⟨rfl, rfl⟩, i4]
    have q2 : zR2 t := by
      intro p hp
      have g := h2 p hp
      rw [tl 3 p (by decide), a1, if_neg (by decide), if_pos rfl, at0, if_neg (by omega), if_neg (by omega)]
      unfold va_cpy
      by_cases hpN : p < N
      · have g9 := h9 p (by omega)
        rw [if_pos (by omega), if_pos ⟨rfl, hpN⟩, show 0 + (p - 0) = p by omega, uo 55 p (by decide)]
        exact g9
      · rw [if_neg (by omega), if_neg (by omega), uo 44 p (by decide)]
        exact g
    have q3 : zR3 t := by
      intro p hp
      have g := h3 p hp
      rw [tl 4 p (by decide), a1, if_neg (by decide), if_neg (by decide), if_neg (by decide), if_neg (by omega), at0, if_neg (by omega), if_neg (by omega), if_neg (by omega), uo 44 _ (by decide)]
      exact g
    have q4 : zR4 t := by
      intro p hp
      have g := h10 p hp
      rw [tl 2 p (by decide), a1, if_neg (by decide), if_neg (by decide), if_pos rfl, at0, if_neg (by omega), if_pos (by omega), show 16 + p - 16 = p by omega, uo 56 p (by decide)]
      unfold va_cpy
      rw [if_pos (by omega), show 0 + (p - 0) = p by omega]
      exact g
    have q5 : zR5 t := by
      unfold zR5
      rw [e1' 4 (by decide), at0, if_neg (by omega), if_neg (by omega), if_neg (by omega), uo 44 40 (by decide)]
      exact h5
    have q6 : zR6 t := by
      unfold zR6
      rw [t13, t437]
      exact ⟨rfl, l0, l1⟩
    have q7 : zR7 t := by
      intro p hp
      have g := h11 p hp
      rw [tl 18 p (by decide), a1, if_pos rfl, at0, if_pos (by omega), uo 57 p (by decide)]
      unfold va_cpy
      rw [if_pos (by omega), show 0 + (p - 0) = p by omega]
      exact g
    refine ⟨zpc (s.1 17 3), s1, t, ?_, ?_, zI_chalk h (by rw [g3, g2, g1, hu, hs1]; rfl) (zRg_chalk hg e e1' e43 q5 q6) e e1' e43 q2 q3 q4 q5 q6 q7⟩
    · have hcp : zy_cpB 0 0 (s.1 17 4) 8 8 = true := decide_eq_true ⟨by decide, by decide, p0, by rw [zq_l0]; omega, by rw [zq_l0]; omega⟩
      have s13 : s1.1 1 3 = s.1 17 3 := by rw [a1, if_neg (by decide), if_neg (by decide), if_neg (by decide), if_pos ⟨rfl, rfl⟩]
      unfold zyF142 zyF143
      rw [if_pos (show s.1 17 2 ≠ 0 from hi), if_pos hcp, zq_bind, hNn, ← hs1, zys92 (s := s1) (by rw [s13]; exact l0) (by rw [s13]; exact l1), s13]
      rfl
    · have k22 : s1.1 43 22 = s.1 17 2 := by rw [o1 43 22 (by decide), i1]
      have k24 : s1.1 43 24 = s.1 43 24 := o1 43 24 (by decide)
      unfold zyF246
      rw [k22, if_pos (show s.1 17 2 ≠ 0 from hi), k24, ← hu, f1, f2, f3, t437, zys209 t l0 l1]
      rfl
