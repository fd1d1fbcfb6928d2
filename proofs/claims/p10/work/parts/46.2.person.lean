/-! PART 46.2: the town; person. Made by wip/v4/gen_town.py. -/
theorem zys14_0 (x : Int32) (s : zy_S) : zyF14 0 x s = some (zqb (decide (0 ≤ x.toInt ∧ x.toInt ≤ 4095)), s) := by
  unfold zyF14
  rw [if_pos rfl]
  simp only [ne_eq, zq_eq, Int32.lt_iff_toInt_lt, Int32.le_iff_toInt_le, zq_l0, zq_lm1, zq_l1, zq_l2, zq_l3, zq_l4, zq_l5, zq_l6, zq_l7, zq_l8, zq_l9, zq_l12, zq_l16, zq_l23, zq_l24, zq_l40, zq_l39, zq_l50, zq_l51, zq_l60, zq_l120, zq_l128, zq_l255, zq_l4095, zq_l4096]
  refine zqb_d (x := 0) (fun h => ?_) (fun h => ?_)
  all_goals
    repeat' split
  all_goals first | rfl | (exfalso; omega)
theorem zys14_1 (x : Int32) (s : zy_S) : zyF14 1 x s = some (zqb (decide (0 ≤ x.toInt ∧ x.toInt ≤ 9)), s) := by
  unfold zyF14
  rw [if_neg (by decide), if_pos rfl]
  simp only [ne_eq, zq_eq, Int32.lt_iff_toInt_lt, Int32.le_iff_toInt_le, zq_l0, zq_lm1, zq_l1, zq_l2, zq_l3, zq_l4, zq_l5, zq_l6, zq_l7, zq_l8, zq_l9, zq_l12, zq_l16, zq_l23, zq_l24, zq_l40, zq_l39, zq_l50, zq_l51, zq_l60, zq_l120, zq_l128, zq_l255, zq_l4095, zq_l4096]
  refine zqb_d (x := 0) (fun h => ?_) (fun h => ?_)
  all_goals
    repeat' split
  all_goals first | rfl | (exfalso; omega)
theorem zys14_2 (x : Int32) (s : zy_S) : zyF14 2 x s = some (zqb (decide (0 ≤ x.toInt ∧ x.toInt ≤ 9)), s) := by
  unfold zyF14
  rw [if_neg (by decide), if_neg (by decide), if_pos rfl]
  simp only [ne_eq, zq_eq, Int32.lt_iff_toInt_lt, Int32.le_iff_toInt_le, zq_l0, zq_lm1, zq_l1, zq_l2, zq_l3, zq_l4, zq_l5, zq_l6, zq_l7, zq_l8, zq_l9, zq_l12, zq_l16, zq_l23, zq_l24, zq_l40, zq_l39, zq_l50, zq_l51, zq_l60, zq_l120, zq_l128, zq_l255, zq_l4095, zq_l4096]
  refine zqb_d (x := 0) (fun h => ?_) (fun h => ?_)
  all_goals
    repeat' split
  all_goals first | rfl | (exfalso; omega)
theorem zys14_3 (x : Int32) (s : zy_S) : zyF14 3 x s = some (zqb (decide (1 ≤ x.toInt ∧ x.toInt ≤ 9)), s) := by
  unfold zyF14
  rw [if_neg (by decide), if_neg (by decide), if_neg (by decide), if_pos rfl]
  simp only [ne_eq, zq_eq, Int32.lt_iff_toInt_lt, Int32.le_iff_toInt_le, zq_l0, zq_lm1, zq_l1, zq_l2, zq_l3, zq_l4, zq_l5, zq_l6, zq_l7, zq_l8, zq_l9, zq_l12, zq_l16, zq_l23, zq_l24, zq_l40, zq_l39, zq_l50, zq_l51, zq_l60, zq_l120, zq_l128, zq_l255, zq_l4095, zq_l4096]
  refine zqb_d (x := 0) (fun h => ?_) (fun h => ?_)
  all_goals
    repeat' split
  all_goals first | rfl | (exfalso; omega)
theorem zRow_mono {pe pe' w n b a q c e : Int32} (h : zRow pe w n b a q c e) (hp : pe.toInt ≤ pe'.toInt) : zRow pe' w n b a q c e := by
  obtain ⟨e1, e2, h⟩ := h
  refine ⟨e1, e2, ?_⟩
  rcases h with ⟨a1, a2, a3, a4⟩ | ⟨a1, a2, a3, a4⟩ | h
  · exact Or.inl ⟨a1, a2, by omega, a4⟩
  · exact Or.inr (Or.inl ⟨a1, a2, by omega, a4⟩)
  · exact Or.inr (Or.inr h)
theorem zrg_tw : zrg 1 5 = (0, 8) ∧ zrg 43 6 = (0, 8) ∧ zrg 1 3 = (0, 16777215) ∧ zrg 43 7 = (0, 16777215) := by decide +kernel
theorem zrg_fu : (∀ k, k < 8 → zrg 3 k = (-2147483648, 2147483647)) ∧ (∀ k, k < 8 → zrg 4 k = (-2147483648, 2147483647)) ∧ (∀ k, k < 24 → zrg 2 k = (-2147483648, 2147483647)) ∧ zrg 1 4 = (-2147483648, 2147483647) ∧ (∀ k, k < 41 → zrg 44 k = if k = 40 then (1, 9) else (-2147483648, 2147483647)) := by decide +kernel
theorem zin_full (x : Int32) : zin x (-2147483648) 2147483647 := ⟨zq_lo x, zq_hi x⟩
theorem zI_adds {s : zy_S} (h : zI s) {x y : Int32} (hx : 0 ≤ x.toInt ∧ x.toInt ≤ 4095) (hy : zin y 0 9) {p : Nat} (hpp : p = (s.1 1 5).toNatClampNeg) (hp : ¬ 8 ≤ (s.1 1 5).toInt) : zI (zy_up (zy_up (zy_up (zy_up (zy_up (zy_up s 3 p x) 4 p y) 1 5 (s.1 1 5 + 1)) 44 p x) 44 (8 + p) y) 43 6 (s.1 1 5 + 1)) := by
  obtain ⟨hw, hg, h1, h2, h3, h4, h5, h6, h7, h8, h9, h10, h11, h12, h13, h14, h15, h16, h17, h18, h19, h20, h21⟩ := id h
  obtain ⟨e1, p0, p1⟩ := id h1
  have ep : (p : Int) = (s.1 1 5).toInt := by rw [hpp, zq_ix]; omega
  have hp8 : p < 8 := by omega
  have en : (s.1 1 5 + 1).toInt = (s.1 1 5).toInt + 1 := zq_add (by rw [zq_l1]; omega) (by rw [zq_l1]; omega)
  obtain ⟨r1, r2, -, -⟩ := zrg_tw
  obtain ⟨f1, f2, f3, f4, f5⟩ := zrg_fu
  have a3 : ∀ q, (zy_up (zy_up (zy_up (zy_up (zy_up (zy_up s 3 p x) 4 p y) 1 5 (s.1 1 5 + 1)) 44 p x) 44 (8 + p) y) 43 6 (s.1 1 5 + 1)).1 3 q = if q = p then x else s.1 3 q := by
    intro q
    rw [zf_up (by decide), zf_up (by decide), zf_up (by decide), zf_up (by decide), zf_up (by decide), zf_upr]
  have a4 : ∀ q, (zy_up (zy_up (zy_up (zy_up (zy_up (zy_up s 3 p x) 4 p y) 1 5 (s.1 1 5 + 1)) 44 p x) 44 (8 + p) y) 43 6 (s.1 1 5 + 1)).1 4 q = if q = p then y else s.1 4 q := by
    intro q
    rw [zf_up (by decide), zf_up (by decide), zf_up (by decide), zf_up (by decide), zf_upr, zf_up (by decide)]
  have a44 : ∀ q, (zy_up (zy_up (zy_up (zy_up (zy_up (zy_up s 3 p x) 4 p y) 1 5 (s.1 1 5 + 1)) 44 p x) 44 (8 + p) y) 43 6 (s.1 1 5 + 1)).1 44 q = if q = 8 + p then y else if q = p then x else s.1 44 q := by
    intro q
    rw [zf_up (by decide), zf_upr, zf_upr, zf_up (by decide), zf_up (by decide), zf_up (by decide)]
  refine ⟨hw, ?_, ?_, ?_, ?_, ?_, ?_, h6, h7, ?_, h9, h10, h11, h12, ?_, h14, h15, h16, h17, h18, h19, (zR20_of h20 rfl (fun d hd k => by rw [zf_sh (by decide) hd, zf_sh (by decide) hd, zf_sh (by decide) hd, zf_sh (by decide) hd, zf_sh (by decide) hd, zf_sh (by decide) hd]) (fun d hd => rfl) (fun d hd => rfl)), (zR21_of h21 (fun d hd k => by rw [zf_sh (by decide) hd, zf_sh (by decide) hd, zf_sh (by decide) hd, zf_sh (by decide) hd, zf_sh (by decide) hd, zf_sh (by decide) hd]) rfl)⟩
  · have hn : zin (s.1 1 5 + 1) 0 8 := ⟨by omega, by omega⟩
    refine zRg_upF (zRg_upF (zRg_upF (zRg_upF (zRg_upF (zRg_upF hg (f1 p hp8) (zin_full _)) (f2 p hp8) (zin_full _)) r1 hn) ?_ (zin_full _)) ?_ (zin_full _)) r2 hn
    · rw [f5 p (by omega), if_neg (by omega)]
    · rw [f5 (8 + p) (by omega), if_neg (by omega)]
  · exact ⟨rfl, show zin (s.1 1 5 + 1) 0 8 from ⟨by omega, by omega⟩⟩
  · intro q hq
    have g := h2 q hq
    rw [a3, a44]
    by_cases e : q = p
    · rw [if_pos e, if_neg (by omega), if_pos e]
      exact ⟨rfl, hx⟩
    · rw [if_neg e, if_neg (by omega), if_neg e]
      exact g
  · intro q hq
    have g := h3 q hq
    rw [a4, a44]
    by_cases e : q = p
    · rw [if_pos e, if_pos (by omega)]
      exact ⟨rfl, hy⟩
    · rw [if_neg e, if_neg (by omega), if_neg (by omega)]
      exact g
  · intro q hq
    have g := h4 q hq
    rw [a44, if_neg (by omega), if_neg (by omega)]
    exact g
  · have g := h5
    unfold zR5 at g ⊢
    rw [a44, if_neg (by omega), if_neg (by omega)]
    exact g
  · obtain ⟨g1, g2, g3, g4, g5⟩ := h8
    refine ⟨g1, g2, g3, g4, ?_⟩
    show (s.1 17 4).toInt ≤ (s.1 1 5 + 1).toInt
    omega
  · intro q hq
    exact zRow_mono (h13 q hq) (show (s.1 1 5).toInt ≤ (s.1 1 5 + 1).toInt by omega)
theorem zop_person (x : Int32) {s : zy_S} (h : zI s) : ∃ r s1 s2, zyF13 x s = some (r, s1) ∧ zyF178 x s1 = some (r, s2) ∧ zI s2 := by
  obtain ⟨hw, hg, h1, h2, h3, h4, h5, h6, h7, h8, h9, h10, h11, h12, h13, h14, h15, h16, h17, h18, h19, h20, h21⟩ := id h
  obtain ⟨e1, p0, p1⟩ := id h1
  by_cases hx : 0 ≤ x.toInt ∧ x.toInt ≤ 4095
  · by_cases hp : 8 ≤ (s.1 1 5).toInt
    · refine ⟨-3, s, s, ?_, ?_, h⟩
      · unfold zyF13
        simp only [zys14_0, zys15, true_and, and_true, zqb_t0, Classical.not_not, Bool.not_eq_false, zq_bind, zqb_n0, zqb_e0, decide_eq_true_eq, decide_eq_false_iff_not, ne_eq, zq_eq, Int32.toInt_toInt64, Int32.lt_iff_toInt_lt, Int32.le_iff_toInt_le, zq_l0, zq_lm1, zq_l1, zq_l2, zq_l3, zq_l4, zq_l5, zq_l6, zq_l7, zq_l8, zq_l9, zq_l12, zq_l16, zq_l23, zq_l24, zq_l40, zq_l39, zq_l50, zq_l51, zq_l60, zq_l120, zq_l128, zq_l255, zq_l4095, zq_l4096, zq_j0, zq_j1, zq_j4, zq_j5, zq_j7, zq_j8, zq_j9, zq_j23, zq_j255, zq_j4095]
        rw [if_pos hx, if_neg (by omega)]
      · unfold zyF178
        simp only [zys179, ← e1, true_and, and_true, zqb_t0, Classical.not_not, Bool.not_eq_false, zq_bind, zqb_n0, zqb_e0, decide_eq_true_eq, decide_eq_false_iff_not, ne_eq, zq_eq, Int32.toInt_toInt64, Int32.lt_iff_toInt_lt, Int32.le_iff_toInt_le, zq_l0, zq_lm1, zq_l1, zq_l2, zq_l3, zq_l4, zq_l5, zq_l6, zq_l7, zq_l8, zq_l9, zq_l12, zq_l16, zq_l23, zq_l24, zq_l40, zq_l39, zq_l50, zq_l51, zq_l60, zq_l120, zq_l128, zq_l255, zq_l4095, zq_l4096, zq_j0, zq_j1, zq_j4, zq_j5, zq_j7, zq_j8, zq_j9, zq_j23, zq_j255, zq_j4095]
        rw [if_pos hx, if_neg (by omega)]
    · obtain ⟨p, hpp⟩ : ∃ p, p = (s.1 1 5).toNatClampNeg := ⟨_, rfl⟩
      have ep : (p : Int) = (s.1 1 5).toInt := by rw [hpp, zq_ix]; omega
      have hp8 : p < 8 := by omega
      have en : (s.1 1 5 + 1).toInt = (s.1 1 5).toInt + 1 := zq_add (by rw [zq_l1]; omega) (by rw [zq_l1]; omega)
      have e8 : ((8 : Int32) + s.1 1 5).toInt = 8 + (s.1 1 5).toInt := by rw [zq_add (by rw [zq_l8]; omega) (by rw [zq_l8]; omega), zq_l8]
      have e8n : ((8 : Int32) + s.1 1 5).toNatClampNeg = 8 + p := by rw [zq_ix, e8]; omega
      have em : s.1 1 5 + 1 - 1 = s.1 1 5 := zq_ext (by rw [zq_sub (by rw [zq_l1]; omega) (by rw [zq_l1]; omega), zq_l1]; omega)
      have hin : zy_in (s.1 1 5) 8 = true := zq_in.mpr ⟨p0, by omega⟩
      have hin41 : zy_in (s.1 1 5) 41 = true := zq_in.mpr ⟨p0, by omega⟩
      have hin8 : zy_in ((8 : Int32) + s.1 1 5) 41 = true := zq_in.mpr ⟨by omega, by omega⟩
      refine ⟨s.1 1 5, zy_up (zy_up (zy_up s 3 p x) 4 p 1) 1 5 (s.1 1 5 + 1), zy_up (zy_up (zy_up (zy_up (zy_up (zy_up s 3 p x) 4 p 1) 1 5 (s.1 1 5 + 1)) 44 p x) 44 (8 + p) 1) 43 6 (s.1 1 5 + 1), ?_, ?_, ?_⟩
      · unfold zyF13 zyF16
        simp only [zys14_0, zys15, true_and, and_true, zqb_t0, Classical.not_not, Bool.not_eq_false, zq_bind, zqb_n0, zqb_e0, decide_eq_true_eq, decide_eq_false_iff_not, ne_eq, zq_eq, Int32.toInt_toInt64, Int32.lt_iff_toInt_lt, Int32.le_iff_toInt_le, zq_l0, zq_lm1, zq_l1, zq_l2, zq_l3, zq_l4, zq_l5, zq_l6, zq_l7, zq_l8, zq_l9, zq_l12, zq_l16, zq_l23, zq_l24, zq_l40, zq_l39, zq_l50, zq_l51, zq_l60, zq_l120, zq_l128, zq_l255, zq_l4095, zq_l4096, zq_j0, zq_j1, zq_j4, zq_j5, zq_j7, zq_j8, zq_j9, zq_j23, zq_j255, zq_j4095]
        rw [if_pos hx, if_pos (by omega), if_pos hin, if_pos hin, ← hpp]
        rfl
      · have o1 : (zy_up (zy_up (zy_up s 3 p x) 4 p 1) 1 5 (s.1 1 5 + 1)).1 43 6 = s.1 1 5 := e1.symm
        have k : zyF180 x 1 (zy_up (zy_up (zy_up s 3 p x) 4 p 1) 1 5 (s.1 1 5 + 1)) = some (0, zy_up (zy_up (zy_up (zy_up (zy_up (zy_up s 3 p x) 4 p 1) 1 5 (s.1 1 5 + 1)) 44 p x) 44 (8 + p) 1) 43 6 (s.1 1 5 + 1)) := by
          unfold zyF180
          rw [o1, if_pos hin41, if_pos hin8, e8n, ← hpp]
        unfold zyF178
        simp only [zys179, o1, true_and, and_true, zqb_t0, Classical.not_not, Bool.not_eq_false, zq_bind, zqb_n0, zqb_e0, decide_eq_true_eq, decide_eq_false_iff_not, ne_eq, zq_eq, Int32.toInt_toInt64, Int32.lt_iff_toInt_lt, Int32.le_iff_toInt_le, zq_l0, zq_lm1, zq_l1, zq_l2, zq_l3, zq_l4, zq_l5, zq_l6, zq_l7, zq_l8, zq_l9, zq_l12, zq_l16, zq_l23, zq_l24, zq_l40, zq_l39, zq_l50, zq_l51, zq_l60, zq_l120, zq_l128, zq_l255, zq_l4095, zq_l4096, zq_j0, zq_j1, zq_j4, zq_j5, zq_j7, zq_j8, zq_j9, zq_j23, zq_j255, zq_j4095]
        rw [if_pos hx, if_pos (by omega), k, zq_bind]
        show some (s.1 1 5 + 1 - 1, _) = _
        rw [em]
      · exact zI_adds h hx ⟨by decide, by decide⟩ hpp hp
  · refine ⟨-1, s, s, ?_, ?_, h⟩
    · unfold zyF13
      simp only [zys14_0, true_and, and_true, zqb_t0, Classical.not_not, Bool.not_eq_false, zq_bind, zqb_n0, zqb_e0, decide_eq_true_eq, decide_eq_false_iff_not, ne_eq, zq_eq, Int32.toInt_toInt64, Int32.lt_iff_toInt_lt, Int32.le_iff_toInt_le, zq_l0, zq_lm1, zq_l1, zq_l2, zq_l3, zq_l4, zq_l5, zq_l6, zq_l7, zq_l8, zq_l9, zq_l12, zq_l16, zq_l23, zq_l24, zq_l40, zq_l39, zq_l50, zq_l51, zq_l60, zq_l120, zq_l128, zq_l255, zq_l4095, zq_l4096, zq_j0, zq_j1, zq_j4, zq_j5, zq_j7, zq_j8, zq_j9, zq_j23, zq_j255, zq_j4095]
      rw [if_neg hx]
    · unfold zyF178
      simp only [zys179, true_and, and_true, zqb_t0, Classical.not_not, Bool.not_eq_false, zq_bind, zqb_n0, zqb_e0, decide_eq_true_eq, decide_eq_false_iff_not, ne_eq, zq_eq, Int32.toInt_toInt64, Int32.lt_iff_toInt_lt, Int32.le_iff_toInt_le, zq_l0, zq_lm1, zq_l1, zq_l2, zq_l3, zq_l4, zq_l5, zq_l6, zq_l7, zq_l8, zq_l9, zq_l12, zq_l16, zq_l23, zq_l24, zq_l40, zq_l39, zq_l50, zq_l51, zq_l60, zq_l120, zq_l128, zq_l255, zq_l4095, zq_l4096, zq_j0, zq_j1, zq_j4, zq_j5, zq_j7, zq_j8, zq_j9, zq_j23, zq_j255, zq_j4095]
      rw [if_neg hx]
