/-! PART 46.97: of, led, taken. Made by wip/v4/gen_q.py. -/
theorem zop_of (n w : Int32) {s : zy_S} (h : zI s) : ∃ r s1 s2, zyF31 n w s = some (r, s1) ∧ zyF188 n w s1 = some (r, s2) ∧ zI s2 := by
  obtain ⟨hw, hg, h1, h2, h3, h4, h5, h6, h7, h8, h9, h10, h11, h12, h13, h14, h15, h16, h17, h18, h19, h20, h21⟩ := id h
  obtain ⟨e1, p0, p1⟩ := id h1
  have hp : zin (s.1 43 6) 0 8 := by rw [← e1]; exact ⟨p0, p1⟩
  obtain ⟨q, fq, eq⟩ := zys184 n w hp
  have yes : ∀ k : Nat, q.toInt = (k : Int) → k < 41 → zyF188 n w s = some (s.1 44 k, s) := by
    intro k e hk
    have ek : q.toNatClampNeg = k := by rw [zq_ix]; omega
    unfold zyF188
    rw [fq]
    simp only [zq_bind]
    rw [if_neg (by rw [Int32.lt_iff_toInt_lt, zq_l0]; omega), if_pos (zq_in.mpr ⟨by omega, by omega⟩), ek]
  have no : q.toInt < 0 → w ≠ 4 → zyF188 n w s = some (-1, s) := by
    intro e hw4
    unfold zyF188
    rw [fq]
    simp only [zq_bind]
    rw [if_pos (by rw [Int32.lt_iff_toInt_lt, zq_l0]; exact e), if_pos hw4]
  by_cases w4 : w = 4
  · subst w4
    have eq' : q.toInt = -1 := by
      rw [eq]
      unfold zqp
      rw [if_neg (by decide), if_neg (by decide), if_neg (by decide)]
    by_cases hn : 0 ≤ n.toInt ∧ n.toInt ≤ 23
    · refine ⟨((s.1 1 3) >>> (n &&& 31)) &&& (1 : Int32), s, s, ?_, ?_, h⟩
      · unfold zyF31
        rw [if_neg (by decide), zys26]
        simp only [zq_bind, zqb_e0, decide_eq_false_iff_not]
        rw [if_neg (not_not_intro hn)]
        rfl
      · unfold zyF188
        rw [fq]
        simp only [zq_bind]
        rw [if_pos (by rw [Int32.lt_iff_toInt_lt, zq_l0]; omega), if_neg (by decide), zys186]
        simp only [zq_bind, zqb_e0, decide_eq_false_iff_not, Int32.toInt_toInt64]
        rw [if_neg (not_not_intro hn), ← h6.1]
    · refine ⟨-1, s, s, ?_, ?_, h⟩
      · unfold zyF31
        rw [if_neg (by decide), zys26]
        simp only [zq_bind, zqb_e0, decide_eq_false_iff_not]
        rw [if_pos hn]
      · unfold zyF188
        rw [fq]
        simp only [zq_bind]
        rw [if_pos (by rw [Int32.lt_iff_toInt_lt, zq_l0]; omega), if_neg (by decide), zys186]
        simp only [zq_bind, zqb_e0, decide_eq_false_iff_not, Int32.toInt_toInt64]
        rw [if_pos hn]
  have good : ∀ (v : Int32) (k : Nat), zyF25 w n s = some (1, s) → zyF27 w n s = some (v, s) → q.toInt = (k : Int) → k < 41 → v = s.1 44 k → ∃ r s1 s2, zyF31 n w s = some (r, s1) ∧ zyF188 n w s1 = some (r, s2) ∧ zI s2 := by
    intro v k f25 f27 e hk ev
    refine ⟨v, s, s, ?_, by rw [yes k e hk, ev], h⟩
    unfold zyF31
    rw [if_pos w4, f25]
    simp only [zq_bind]
    rw [if_neg (show ¬ ((1 : Int32) = 0) by decide), f27]
    rfl
  have bad : zyF25 w n s = some (0, s) → q.toInt < 0 → ∃ r s1 s2, zyF31 n w s = some (r, s1) ∧ zyF188 n w s1 = some (r, s2) ∧ zI s2 := by
    intro f25 e
    refine ⟨-1, s, s, ?_, no e w4, h⟩
    unfold zyF31
    rw [if_pos w4, f25, zq_bind]
    exact if_pos rfl
  by_cases w0 : w = 0
  · subst w0
    unfold zqp at eq
    rw [if_pos ⟨by decide, by decide⟩, zq_l0] at eq
    by_cases hn : 0 ≤ n.toInt ∧ n.toInt < (s.1 1 5).toInt
    · rw [if_pos (by rw [← e1]; exact hn)] at eq
      refine good (s.1 3 n.toNatClampNeg) n.toNatClampNeg ?_ ?_ (by rw [zq_ix]; omega) (by rw [zq_ix]; omega) (h2 _ (by rw [zq_ix]; omega)).1
      · rw [zys25_0, decide_eq_true hn]; rfl
      · unfold zyF27
        rw [if_pos rfl, if_pos (zq_in.mpr ⟨hn.1, by omega⟩)]
    · rw [if_neg (by rw [← e1]; exact hn)] at eq
      refine bad ?_ (by omega)
      rw [zys25_0, decide_eq_false hn]; rfl
  by_cases w1 : w = 1
  · subst w1
    unfold zqp at eq
    rw [if_pos ⟨by decide, by decide⟩, zq_l1] at eq
    by_cases hn : 0 ≤ n.toInt ∧ n.toInt < (s.1 1 5).toInt
    · rw [if_pos (by rw [← e1]; exact hn)] at eq
      refine good (s.1 4 n.toNatClampNeg) (8 + n.toNatClampNeg) ?_ ?_ (by rw [zq_ix]; omega) (by rw [zq_ix]; omega) (h3 _ (by rw [zq_ix]; omega)).1
      · rw [zys25_1, decide_eq_true hn]; rfl
      · unfold zyF27
        rw [if_neg (by decide), if_pos rfl, if_pos (zq_in.mpr ⟨hn.1, by omega⟩)]
    · rw [if_neg (by rw [← e1]; exact hn)] at eq
      refine bad ?_ (by omega)
      rw [zys25_1, decide_eq_false hn]; rfl
  by_cases w2 : w = 2
  · subst w2
    unfold zqp at eq
    rw [if_neg (by decide), if_pos (show (2 : Int32).toInt = 2 from rfl)] at eq
    by_cases hn : 0 ≤ n.toInt ∧ n.toInt ≤ 23
    · rw [if_pos hn] at eq
      refine good (s.1 2 n.toNatClampNeg) (16 + n.toNatClampNeg) ?_ ?_ (by rw [zq_ix]; omega) (by rw [zq_ix]; omega) (h4 _ (by rw [zq_ix]; omega)).1
      · rw [zys25_2, decide_eq_true hn]; rfl
      · unfold zyF27
        rw [if_neg (by decide), if_neg (by decide), if_pos rfl, if_pos (zq_in.mpr ⟨hn.1, by omega⟩)]
    · rw [if_neg hn] at eq
      refine bad ?_ (by omega)
      rw [zys25_2, decide_eq_false hn]; rfl
  by_cases w3 : w = 3
  · subst w3
    unfold zqp at eq
    rw [if_neg (by decide), if_neg (by decide), if_pos (show (3 : Int32).toInt = 3 from rfl)] at eq
    by_cases hn : n.toInt = 0
    · rw [if_pos hn] at eq
      refine good (s.1 1 4) 40 ?_ ?_ eq (by omega) h5.1
      · rw [zys25_3, decide_eq_true hn]; rfl
      · unfold zyF27
        rw [if_neg (by decide), if_neg (by decide), if_neg (by decide)]
    · rw [if_neg hn] at eq
      refine bad ?_ (by omega)
      rw [zys25_3, decide_eq_false hn]; rfl
  · have t0 : w.toInt ≠ 0 := fun e => w0 (zq_ext e)
    have t1 : w.toInt ≠ 1 := fun e => w1 (zq_ext e)
    have t2 : w.toInt ≠ 2 := fun e => w2 (zq_ext e)
    have t3 : w.toInt ≠ 3 := fun e => w3 (zq_ext e)
    unfold zqp at eq
    rw [if_neg (by omega), if_neg t2, if_neg t3] at eq
    refine bad ?_ (by omega)
    unfold zyF25
    rw [if_neg w0, if_neg w1, if_neg w2, if_neg w3]
theorem zop_led (x : Int32) {s : zy_S} (h : zI s) : ∃ r s1 s2, zyF139 x s = some (r, s1) ∧ zyF244 x s1 = some (r, s2) ∧ zI s2 := by
  obtain ⟨hw, hg, h1, h2, h3, h4, h5, h6, h7, h8, h9, h10, h11, h12, h13, h14, h15, h16, h17, h18, h19, h20, h21⟩ := id h
  by_cases hx : 0 ≤ x.toInt ∧ x.toInt ≤ 4
  · have hl := h7 x.toNatClampNeg (by rw [zq_ix]; omega)
    refine ⟨s.1 18 x.toNatClampNeg, s, s, ?_, ?_, h⟩
    · unfold zyF139
      rw [if_neg (by rw [Int32.lt_iff_toInt_lt, zq_l0]; omega), if_neg (by rw [Int32.le_iff_toInt_le, zq_l5]; omega), if_pos (zq_in.mpr ⟨by omega, by omega⟩)]
    · unfold zyF244
      simp only [zys179, zq_bind, zqb_e0, decide_eq_false_iff_not, Int32.toInt_toInt64, zq_j0, zq_j4]
      rw [if_neg (not_not_intro hx), if_pos (zq_in.mpr ⟨by omega, by omega⟩), hl]
  · refine ⟨-1, s, s, ?_, ?_, h⟩
    · unfold zyF139
      by_cases g : x.toInt < 0
      · rw [if_pos (by rw [Int32.lt_iff_toInt_lt, zq_l0]; exact g)]
      · rw [if_neg (by rw [Int32.lt_iff_toInt_lt, zq_l0]; exact g), if_pos (by rw [Int32.le_iff_toInt_le, zq_l5]; omega)]
    · unfold zyF244
      simp only [zys179, zq_bind, zqb_e0, decide_eq_false_iff_not, Int32.toInt_toInt64, zq_j0, zq_j4]
      rw [if_pos hx]
/-! the KINDS above a KIND -/
theorem zl_173 (n : Nat) {k a i : Int32} (s : zy_S) (hi : i.toInt < 8) (ha : 0 ≤ a.toInt ∧ a.toInt ≤ 7) : zyF173_4 (n + 1) k a i s = if a = k then some (1, s) else zyF173_4 n k (zs_abv.getD a.toNatClampNeg 0) (i + 1) s := by
  show zyF173_4b (zyF173_4 n) k a i s = _
  unfold zyF173_4b
  rw [if_neg (by rw [Int32.le_iff_toInt_le, zq_l8]; omega)]
  simp only [zys149, zq_bind, zqb_e0, decide_eq_false_iff_not]
  rw [if_neg (not_not_intro ha)]
  by_cases e : a = k
  · rw [if_pos e, if_pos e]
    unfold zyF173_34
    rw [if_neg (not_not_intro e)]
  · rw [if_neg e, if_neg e, if_pos (zq_in.mpr ⟨ha.1, by omega⟩)]
theorem zl_173e (n : Nat) {k i : Int32} (s : zy_S) (hk : 0 ≤ k.toInt) : zyF173_4 (n + 1) k (-1) i s = some (0, s) := by
  have e : (-1 : Int32) ≠ k := fun e => by
    rw [← e] at hk
    exact absurd hk (by decide)
  have f : zyF173_34 k (-1) s = some (0, s) := by
    unfold zyF173_34
    rw [if_pos e]
  show zyF173_4b (zyF173_4 n) k (-1) i s = _
  unfold zyF173_4b
  split
  · exact f
  · simp only [zys149, zq_bind, zqb_e0, decide_eq_false_iff_not]
    rw [if_pos (by decide), f]
theorem zl_263 (n : Nat) {x k a : Int32} (s : zy_S) : zyF263_58 (n + 1) x k a s = if a = k then zyF263_75 x k a s else if a ≤ 0 then zyF263_75 x k a s else (zyF265 a s).bind fun p4 => zyF263_58 n x k p4.1 p4.2 := by
  show zyF263_58b (zyF263_58 n) x k a s = _
  unfold zyF263_58b
  rfl
theorem zl_abv : ∀ j : Nat, j < 8 → 1 ≤ j → ∀ s : zy_S, ∃ j' : Nat, j' < j ∧ (zs_abv.getD (Int32.ofInt (j : Int)).toNatClampNeg 0).toInt = (j' : Int) ∧ zyF265 (Int32.ofInt (j : Int)) s = some (zs_abv.getD (Int32.ofInt (j : Int)).toNatClampNeg 0, s) := by
  intro j hj h1 s
  rcases (by omega : j = 1 ∨ j = 2 ∨ j = 3 ∨ j = 4 ∨ j = 5 ∨ j = 6 ∨ j = 7) with rfl | rfl | rfl | rfl | rfl | rfl | rfl
  · exact ⟨0, by decide, by decide, rfl⟩
  · exact ⟨0, by decide, by decide, rfl⟩
  · exact ⟨2, by decide, by decide, rfl⟩
  · exact ⟨1, by decide, by decide, rfl⟩
  · exact ⟨3, by decide, by decide, rfl⟩
  · exact ⟨0, by decide, by decide, rfl⟩
  · exact ⟨4, by decide, by decide, rfl⟩
theorem zl_under (x k : Int32) (s : zy_S) (hk : 0 ≤ k.toInt) : ∀ (n m j : Nat) (a i : Int32), a.toInt = (j : Int) → j ≤ 7 → j + 1 < n → j < m → 0 ≤ i.toInt → i.toInt + j ≤ 7 → ∃ (b : Bool) (a' : Int32), zyF173_4 n k a i s = some (zqb b, s) ∧ zyF263_58 m x k a s = zyF263_75 x k a' s ∧ (a' = k ↔ b = true)
  | 0, m, j, a, i, ha, hj, hn, hm, hi, hij => by omega
  | n + 1, 0, j, a, i, ha, hj, hn, hm, hi, hij => by omega
  | n + 1, m + 1, j, a, i, ha, hj, hn, hm, hi, hij => by
    rw [zl_173 n s (by omega) ⟨by omega, by omega⟩, zl_263]
    by_cases e : a = k
    · rw [if_pos e, if_pos e]
      exact ⟨true, a, rfl, rfl, ⟨fun _ => rfl, fun _ => e⟩⟩
    · rw [if_neg e, if_neg e]
      by_cases j0 : j = 0
      · have a0 : a = 0 := zq_ext (by rw [ha, j0]; rfl)
        subst a0
        rw [if_pos (by decide)]
        refine ⟨false, 0, ?_, rfl, ⟨fun w => absurd w e, fun w => by cases w⟩⟩
        obtain ⟨n', rfl⟩ : ∃ n', n = n' + 1 := ⟨n - 1, by omega⟩
        exact zl_173e n' s hk
      · have ea : a = Int32.ofInt (j : Int) := zq_ext (by rw [ha]; exact (Int32.toInt_ofInt_of_le (by omega) (by omega)).symm)
        obtain ⟨j', hj', e1, e2⟩ := zl_abv j (by omega) (by omega) s
        rw [if_neg (by rw [Int32.le_iff_toInt_le, zq_l0]; omega), ea, e2, zq_bind]
        exact zl_under x k s hk n m j' _ (i + 1) e1 (by omega) (by omega) (by omega) (by rw [zq_add (by rw [zq_l1]; omega) (by rw [zq_l1]; omega), zq_l1]; omega) (by rw [zq_add (by rw [zq_l1]; omega) (by rw [zq_l1]; omega), zq_l1]; omega)
theorem zop_taken (x k : Int32) {s : zy_S} (h : zI s) : ∃ r s1 s2, zyF172 x k s = some (r, s1) ∧ zyF263 x k s1 = some (r, s2) ∧ zI s2 := by
  obtain ⟨hw, hg, h1, h2, h3, h4, h5, h6, h7, h8, h9, h10, h11, h12, h13, h14, h15, h16, h17, h18, h19, h20, h21⟩ := id h
  obtain ⟨-, nb0, nb1⟩ := id h14
  by_cases hx : 0 ≤ x.toInt ∧ x.toInt ≤ 5
  · obtain ⟨hin, hdl, hxd⟩ := zx6 hx
    obtain ⟨d, hd⟩ : ∃ d, d = x.toNatClampNeg := ⟨_, rfl⟩
    rw [← hd] at hdl hxd
    by_cases hk : 0 ≤ k.toInt ∧ k.toInt ≤ 7
    · obtain ⟨-, -, a2⟩ := h20 d hdl
      have st : ∀ r, (zyF19 (zy_sh d) s).bind (fun p5 => if p5.1 = 0 then (if zy_in x 6 then (if zy_Wb p5.2 then (zyF154 (p5.2.1 (zy_sh d) 1) p5.2).bind fun p8 => (if p8.1 = 0 then some ((-12 : Int32), p8.2) else (if zy_in (p5.2.1 (zy_sh d) 1) 50 then (zyF173 (p8.2.1 28 ((p5.2.1 (zy_sh d) 1)).toNatClampNeg) k p8.2).bind fun p10 => (if p10.1 = 0 then some ((-12 : Int32), p10.2) else (if zy_in (p5.2.1 (zy_sh d) 1) 50 then some ((p10.2.1 28 ((p5.2.1 (zy_sh d) 1)).toNatClampNeg), p10.2) else none)) else none)) else none) else none) else some ((-11 : Int32), p5.2)) = some (r, s) → zyF172 x k s = some (r, s) := by
        intro r e
        unfold zyF172
        simp only [zys18, zys149, zq_bind, zqb_e0, zqb_n0, decide_eq_false_iff_not, decide_eq_true_eq]
        rw [if_neg (not_not_intro hx), if_pos hk, if_pos hin, if_pos hw, ← hd]
        exact e
      have sm : ∀ r, (if 0 ≤ (s.1 60 d) then (if (s.1 60 d) < (50 : Int32) then (zyF264 (s.1 60 d) s).bind (fun p12 => zyF263_58 zy_fu x k p12.1 p12.2) else some ((-12 : Int32), s)) else some ((-11 : Int32), s)) = some (r, s) → zyF263 x k s = some (r, s) := by
        intro r e
        unfold zyF263
        simp only [zys182, zys179, zq_bind, zqb_e0, zqb_n0, decide_eq_false_iff_not, decide_eq_true_eq, Int32.toInt_toInt64, zq_j0, zq_j7]
        rw [if_neg (not_not_intro hx), if_pos hk, if_pos hin, if_pos hin, if_pos hin, ← hd]
        exact e
      rcases a2 with ⟨t, hb, b0, b1, -⟩ | ⟨⟨t0, t1⟩, b, hh⟩
      · by_cases hbb : (s.1 (zy_sh d) 1).toInt = -1
        · refine ⟨-11, s, s, st _ ?_, sm _ ?_, h⟩
          · simp only [zys19, zq_bind, zqb_e0, decide_eq_false_iff_not]
            rw [if_neg (not_not_intro ⟨hbb, t⟩)]
          · rw [if_neg (by rw [Int32.le_iff_toInt_le, zq_l0, ← hb]; omega)]
        · obtain ⟨y, hy⟩ : ∃ y, y = s.1 (zy_sh d) 1 := ⟨_, rfl⟩
          have ye : y.toInt = (s.1 (zy_sh d) 1).toInt := by rw [hy]
          have y0 : 0 ≤ y.toInt := by rw [hy]; omega
          have y1 : y.toInt < 50 := by rw [hy]; omega
          have yin : zy_in y 50 = true := zq_in.mpr ⟨y0, y1⟩
          have yn : y.toNatClampNeg < 50 := by rw [zq_ix]; omega
          obtain ⟨k1, k2, k3⟩ := h15 y.toNatClampNeg yn
          obtain ⟨bb, abb, q1, q2, q3⟩ := zl_under x k s hk.1 zy_fu zy_fu (s.1 28 y.toNatClampNeg).toInt.toNat (s.1 28 y.toNatClampNeg) 0 (by omega) (by omega) (by unfold zy_fu; omega) (by unfold zy_fu; omega) (by decide) (by rw [zq_l0]; omega)
          refine ⟨if bb = true then s.1 28 y.toNatClampNeg else -12, s, s, st _ ?_, sm _ ?_, h⟩
          · simp only [zys19, zys154, ← hy, zq_bind, zqb_e0, decide_eq_false_iff_not]
            rw [if_pos (by omega), if_pos hin, if_pos hw, if_neg (not_not_intro ⟨y0, by omega⟩), if_pos yin, show zyF173 (s.1 28 y.toNatClampNeg) k s = some (zqb bb, s) from q1, zq_bind]
            simp only [zqb_e0]
            cases bb with
            | false => rfl
            | true => rw [if_neg (by decide), if_pos yin]; rfl
          · have f264 : zyF264 y s = some (s.1 28 y.toNatClampNeg, s) := by
              unfold zyF264
              rw [if_pos yin, k1]
            rw [if_pos (by rw [Int32.le_iff_toInt_le, zq_l0, ← hb]; omega), if_pos (by rw [Int32.lt_iff_toInt_lt, zq_l50, ← hb]; omega), ← hb, ← hy, f264, zq_bind, q2]
            unfold zyF263_75
            rw [← hd, ← hb, ← hy]
            cases bb with
            | false => rw [if_pos (fun w => absurd (q3.mp w) (by decide))]; rfl
            | true => rw [if_neg (not_not_intro (q3.mpr rfl)), if_pos hin, f264]; rfl
      · refine ⟨-12, s, s, st _ ?_, sm _ ?_, h⟩
        · simp only [zys19, zys154, zq_bind, zqb_e0, decide_eq_false_iff_not]
          rw [if_pos (by omega), if_pos hin, if_pos hw, if_pos (by omega)]
        · rw [if_pos (by rw [Int32.le_iff_toInt_le, zq_l0]; omega), if_neg (by rw [Int32.lt_iff_toInt_lt, zq_l50]; omega)]
    · refine ⟨-1, s, s, ?_, ?_, h⟩
      · unfold zyF172
        simp only [zys18, zys149, zq_bind, zqb_e0, zqb_n0, decide_eq_false_iff_not, decide_eq_true_eq]
        rw [if_neg (not_not_intro hx), if_neg hk]
      · unfold zyF263
        simp only [zys182, zys179, zq_bind, zqb_e0, zqb_n0, decide_eq_false_iff_not, decide_eq_true_eq, Int32.toInt_toInt64, zq_j0, zq_j7]
        rw [if_neg (not_not_intro hx), if_neg hk]
  · refine ⟨-1, s, s, ?_, ?_, h⟩
    · unfold zyF172
      simp only [zys18, zq_bind, zqb_e0, decide_eq_false_iff_not]
      rw [if_pos hx]
    · unfold zyF263
      simp only [zys182, zq_bind, zqb_e0, decide_eq_false_iff_not]
      rw [if_pos hx]
