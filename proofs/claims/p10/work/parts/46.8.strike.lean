/-! PART 46.8: strike, rub, won. Made by wip/v4/gen_chalk2.py. -/
theorem zI_ck {s t : zy_S} (h : zI s) {L : Int32} (hL : zin L 0 16777215) (g : Nat → Int32) {c k Q : Nat} {v : Int32} (hp : zPl c k Q) (hc : c = 2 ∨ c = 3) (hv : zPv c v) (ht2 : t.2 = s.2)
    (e : ∀ a b, zch a → t.1 a b = s.1 a b) (e1 : ∀ b, b ≠ 3 → t.1 1 b = s.1 1 b) (e43 : ∀ b, b ≠ 7 → t.1 43 b = s.1 43 b) (e13 : t.1 1 3 = L) (e437 : t.1 43 7 = L)
    (e18 : ∀ p, p < 5 → t.1 18 p = g p) (e54 : ∀ p, p < 5 → t.1 54 p = g p) (e2 : ∀ p, t.1 2 p = if 2 = c ∧ p = k then v else s.1 2 p) (e3 : ∀ p, t.1 3 p = if 3 = c ∧ p = k then v else s.1 3 p) (e44 : ∀ p, t.1 44 p = if p = Q then v else s.1 44 p) : zI t := by
  obtain ⟨hw, hg, h1, h2, h3, h4, h5, h6, h7, h8, h9, h10, h11, h12, h13, h14, h15, h16, h17, h18, h19, h20, h21⟩ := id h
  obtain ⟨q2, q3, q4, q5⟩ := zPl_R (t := t) hp hv h2 h3 h4 h5 e3 (fun p => by rw [if_neg (by omega)]; exact e 4 p (by unfold zch; omega)) e2 (by rw [if_neg (by omega)]; exact e1 4 (by decide)) e44
  have q6 : zR6 t := by
    unfold zR6
    rw [e13, e437]
    exact ⟨rfl, hL⟩
  have q7 : zR7 t := by
    intro p hp
    rw [e18 p hp, e54 p hp]
  exact zI_chalk h ht2 (zRg_chalk hg e e1 e43 q5 q6) e e1 e43 q2 q3 q4 q5 q6 q7
theorem zpl0 : zPl 2 0 16 := Or.inr (Or.inr (Or.inl ⟨rfl, by decide, rfl⟩))
theorem zpv0 {s : zy_S} (h4 : zR4 s) : zPv 2 (s.1 2 0) := ⟨fun g => absurd g (by decide), fun g => absurd g (by decide), fun _ => (h4 0 (by decide)).2, fun g => absurd g (by decide)⟩
theorem zop_strike (x : Int32) {s : zy_S} (h : zI s) : ∃ r s1 s2, zyF133 x s = some (r, s1) ∧ zyF241 x s1 = some (r, s2) ∧ zI s2 := by
  obtain ⟨hw, hg, h1, h2, h3, h4, h5, h6, h7, h8, h9, h10, h11, h12, h13, h14, h15, h16, h17, h18, h19, h20, h21⟩ := id h
  obtain ⟨e6, l0, l1⟩ := id h6
  by_cases hx : 0 ≤ x.toInt ∧ x.toInt ≤ 23
  · by_cases hb : zbt (s.1 1 3) x = true
    · obtain ⟨L, hL⟩ : ∃ L, L = s.1 1 3 &&& (((1 : Int32) <<< (x &&& 31)) ^^^ (-1 : Int32)) := ⟨_, rfl⟩
      have hLb : zin L 0 16777215 := by
        have := zbs_an (L := s.1 1 3) (c := (1 : Int32) <<< (x &&& 31)) (n := 24) l0 (by omega) (by decide) (by rw [zbs_1 hx.1 hx.2]; exact Int.natCast_nonneg _)
        rw [hL]
        exact ⟨this.1, by have := this.2; omega⟩
      obtain ⟨s1, hs1⟩ : ∃ s1, s1 = zy_up (zy_up s 1 3 L) 18 1 (s.1 18 1 + 1) := ⟨_, rfl⟩
      obtain ⟨s2, hs2⟩ : ∃ s2, s2 = zy_up (zy_up s1 43 7 L) 54 1 (s.1 54 1 + 1) := ⟨_, rfl⟩
      have at2 : ∀ a b, s2.1 a b = if a = 54 ∧ b = 1 then s.1 54 1 + 1 else if a = 43 ∧ b = 7 then L else if a = 18 ∧ b = 1 then s.1 18 1 + 1 else if a = 1 ∧ b = 3 then L else s.1 a b := by
        intro a b
        rw [hs2, zy_up_at, zy_up_at, hs1, zy_up_at, zy_up_at]
      have o1 : ∀ a b, a ≠ 1 → a ≠ 18 → s1.1 a b = s.1 a b := fun a b a1 a3 => by rw [hs1, zf_up a3, zf_up a1]
      have e : ∀ a b, zch a → s2.1 a b = s.1 a b := by
        intro a b ha
        unfold zch at ha
        rw [at2]
        repeat' split
        all_goals first | rfl | (exfalso; omega)
      have e1 : ∀ b, b ≠ 3 → s2.1 1 b = s.1 1 b := by
        intro b hb3
        rw [at2]
        repeat' split
        all_goals first | rfl | (exfalso; omega)
      have e43 : ∀ b, b ≠ 7 → s2.1 43 b = s.1 43 b := by
        intro b hb7
        rw [at2]
        repeat' split
        all_goals first | rfl | (exfalso; omega)
      have hz : zI s2 := by
        refine zI_ck h hLb (fun p => if p = 1 then s.1 18 1 + 1 else s.1 18 p) zpl0 (Or.inl rfl) (zpv0 h4) (by rw [hs2, hs1]; rfl) e e1 e43 ?_ ?_ ?_ ?_ ?_ ?_ ?_
        · rw [at2]
          repeat' split
          all_goals first | rfl | (exfalso; omega)
        · rw [at2]
          repeat' split
          all_goals first | rfl | (exfalso; omega)
        · intro p hp
          rw [at2]
          repeat' split
          all_goals first | rfl | (exfalso; omega)
        · intro p hp
          have g := h7 p hp
          have g1 := h7 1 (by decide)
          rw [at2, g, g1]
          repeat' split
          all_goals first | rfl | (exfalso; omega)
        · intro p
          rw [at2]
          by_cases g : p = 0
          · subst g
            repeat' split
            all_goals first | rfl | (exfalso; omega)
          · repeat' split
            all_goals first | rfl | (exfalso; omega)
        · intro p
          rw [at2]
          repeat' split
          all_goals first | rfl | (exfalso; omega)
        · intro p
          have g4 := (h4 0 (by decide)).1
          rw [at2, g4]
          by_cases g : p = 16
          · subst g
            repeat' split
            all_goals first | rfl | (exfalso; omega)
          · repeat' split
            all_goals first | rfl | (exfalso; omega)
      refine ⟨zpc L, s1, s2, ?_, ?_, hz⟩
      · have g : s1.1 1 3 = L := by rw [hs1, zf_up (by decide), zf_upe]
        have f : zyF134 x s = some (zpc L, s1) := by
          unfold zyF134
          rw [← hL, ← hs1, zys92 (s := s1) (by rw [g]; exact hLb.1) (by rw [g]; exact hLb.2), g]
          rfl
        unfold zyF133
        simp only [zys26, zys86, f, zq_bind, zqb_n0, zqb_e0, decide_eq_true_eq]
        rw [if_pos hx, if_neg (by rw [hb]; decide)]
      · have g7 : s1.1 43 7 = s.1 1 3 := by rw [o1 43 7 (by decide) (by decide), e6]
        have g54 : s1.1 54 1 = s.1 54 1 := o1 54 1 (by decide) (by decide)
        unfold zyF241
        simp only [zys186, zys208, g7, g54, ← hL, ← hs2, zys209 s2 hLb.1 hLb.2, true_and, and_true, zqb_t0, Classical.not_not, Bool.not_eq_false, zq_bind, zqb_n0, zqb_e0, decide_eq_true_eq, decide_eq_false_iff_not, ne_eq, zq_eq, Int32.toInt_toInt64, Int32.lt_iff_toInt_lt, Int32.le_iff_toInt_le, zq_l0, zq_lm1, zq_l1, zq_l2, zq_l3, zq_l4, zq_l5, zq_l6, zq_l7, zq_l8, zq_l9, zq_l12, zq_l16, zq_l23, zq_l24, zq_l40, zq_l39, zq_l50, zq_l51, zq_l60, zq_l120, zq_l128, zq_l255, zq_l4095, zq_l4096, zq_j0, zq_j1, zq_j4, zq_j5, zq_j7, zq_j8, zq_j9, zq_j23, zq_j255, zq_j4095]
        rw [if_pos hx, if_pos hb]
    · refine ⟨-5, s, s, ?_, ?_, h⟩
      · unfold zyF133
        simp only [zys26, zys86, zq_bind, zqb_n0, zqb_e0, decide_eq_true_eq]
        rw [if_pos hx, if_pos (by simpa using hb)]
      · unfold zyF241
        simp only [zys186, zys208, ← e6, true_and, and_true, zqb_t0, Classical.not_not, Bool.not_eq_false, zq_bind, zqb_n0, zqb_e0, decide_eq_true_eq, decide_eq_false_iff_not, ne_eq, zq_eq, Int32.toInt_toInt64, Int32.lt_iff_toInt_lt, Int32.le_iff_toInt_le, zq_l0, zq_lm1, zq_l1, zq_l2, zq_l3, zq_l4, zq_l5, zq_l6, zq_l7, zq_l8, zq_l9, zq_l12, zq_l16, zq_l23, zq_l24, zq_l40, zq_l39, zq_l50, zq_l51, zq_l60, zq_l120, zq_l128, zq_l255, zq_l4095, zq_l4096, zq_j0, zq_j1, zq_j4, zq_j5, zq_j7, zq_j8, zq_j9, zq_j23, zq_j255, zq_j4095]
        rw [if_pos hx, if_neg hb]
  · refine ⟨-1, s, s, ?_, ?_, h⟩
    · unfold zyF133
      simp only [zys26, zq_bind, zqb_n0, decide_eq_true_eq]
      rw [if_neg hx]
    · unfold zyF241
      simp only [zys186, true_and, and_true, zqb_t0, Classical.not_not, Bool.not_eq_false, zq_bind, zqb_n0, zqb_e0, decide_eq_true_eq, decide_eq_false_iff_not, ne_eq, zq_eq, Int32.toInt_toInt64, Int32.lt_iff_toInt_lt, Int32.le_iff_toInt_le, zq_l0, zq_lm1, zq_l1, zq_l2, zq_l3, zq_l4, zq_l5, zq_l6, zq_l7, zq_l8, zq_l9, zq_l12, zq_l16, zq_l23, zq_l24, zq_l40, zq_l39, zq_l50, zq_l51, zq_l60, zq_l120, zq_l128, zq_l255, zq_l4095, zq_l4096, zq_j0, zq_j1, zq_j4, zq_j5, zq_j7, zq_j8, zq_j9, zq_j23, zq_j255, zq_j4095]
      rw [if_neg hx]
theorem zop_rub (x : Int32) {s : zy_S} (h : zI s) : ∃ r s1 s2, zyF135 x s = some (r, s1) ∧ zyF242 x s1 = some (r, s2) ∧ zI s2 := by
  obtain ⟨hw, hg, h1, h2, h3, h4, h5, h6, h7, h8, h9, h10, h11, h12, h13, h14, h15, h16, h17, h18, h19, h20, h21⟩ := id h
  obtain ⟨e6, l0, l1⟩ := id h6
  by_cases hx : 0 ≤ x.toInt ∧ x.toInt ≤ 23
  · by_cases hb : zbt (s.1 1 3) x = true
    · obtain ⟨k, hk⟩ : ∃ k, k = x.toNatClampNeg := ⟨_, rfl⟩
      have ek : (k : Int) = x.toInt := by rw [hk, zq_ix]; omega
      have e16 : ((16 : Int32) + x).toInt = 16 + x.toInt := by rw [zq_add (by rw [zq_l16]; omega) (by rw [zq_l16]; omega), zq_l16]
      have e16n : ((16 : Int32) + x).toNatClampNeg = 16 + k := by rw [zq_ix, e16]; omega
      have hin : zy_in x 24 = true := zq_in.mpr ⟨hx.1, by omega⟩
      have hin16 : zy_in ((16 : Int32) + x) 41 = true := zq_in.mpr ⟨by omega, by omega⟩
      obtain ⟨w44, w0, w1⟩ := h4 k (by omega)
      by_cases hw9 : (s.1 2 k).toInt < 9
      · have en : (s.1 2 k + 1).toInt = (s.1 2 k).toInt + 1 := zq_add (by rw [zq_l1]; omega) (by rw [zq_l1]; omega)
        obtain ⟨s1, hs1⟩ : ∃ s1, s1 = zy_up (zy_up s 18 2 (s.1 18 2 + 1)) 2 k (s.1 2 k + 1) := ⟨_, rfl⟩
        obtain ⟨s2, hs2⟩ : ∃ s2, s2 = zy_up (zy_up s1 54 2 (s.1 54 2 + 1)) 44 (16 + k) (s.1 2 k + 1) := ⟨_, rfl⟩
        have at2 : ∀ a b, s2.1 a b = if a = 44 ∧ b = 16 + k then s.1 2 k + 1 else if a = 54 ∧ b = 2 then s.1 54 2 + 1 else if a = 2 ∧ b = k then s.1 2 k + 1 else if a = 18 ∧ b = 2 then s.1 18 2 + 1 else s.1 a b := by
          intro a b
          rw [hs2, zy_up_at, zy_up_at, hs1, zy_up_at, zy_up_at]
        have o1 : ∀ a b, a ≠ 2 → a ≠ 18 → s1.1 a b = s.1 a b := fun a b a1 a3 => by rw [hs1, zf_up a1, zf_up a3]
        have e : ∀ a b, zch a → s2.1 a b = s.1 a b := by
          intro a b ha
          unfold zch at ha
          rw [at2]
          repeat' split
          all_goals first | rfl | (exfalso; omega)
        have e1 : ∀ b, b ≠ 3 → s2.1 1 b = s.1 1 b := by
          intro b hb3
          rw [at2]
          repeat' split
          all_goals first | rfl | (exfalso; omega)
        have e43 : ∀ b, b ≠ 7 → s2.1 43 b = s.1 43 b := by
          intro b hb7
          rw [at2]
          repeat' split
          all_goals first | rfl | (exfalso; omega)
        have hz : zI s2 := by
          refine zI_ck h (L := s.1 1 3) ⟨l0, l1⟩ (fun p => if p = 2 then s.1 18 2 + 1 else s.1 18 p) (c := 2) (k := k) (Q := 16 + k) (v := s.1 2 k + 1) (Or.inr (Or.inr (Or.inl ⟨rfl, by omega, rfl⟩))) (Or.inl rfl) ⟨fun g => absurd g (by decide), fun g => absurd g (by decide), fun _ => ⟨by omega, by omega⟩, fun g => absurd g (by decide)⟩ (by rw [hs2, hs1]; rfl) e e1 e43 ?_ ?_ ?_ ?_ ?_ ?_ ?_
          · rw [at2]
            repeat' split
            all_goals first | rfl | (exfalso; omega)
          · rw [e6, at2]
            repeat' split
            all_goals first | rfl | (exfalso; omega)
          · intro p hp
            rw [at2]
            repeat' split
            all_goals first | rfl | (exfalso; omega)
          · intro p hp
            have g := h7 p hp
            have g1 := h7 2 (by decide)
            rw [at2, g, g1]
            repeat' split
            all_goals first | rfl | (exfalso; omega)
          · intro p
            rw [at2]
            repeat' split
            all_goals first | rfl | (exfalso; omega)
          · intro p
            rw [at2]
            repeat' split
            all_goals first | rfl | (exfalso; omega)
          · intro p
            rw [at2]
            repeat' split
            all_goals first | rfl | (exfalso; omega)
        refine ⟨s.1 2 k + 1, s1, s2, ?_, ?_, hz⟩
        · have f : zyF136 x s = some (s.1 2 k + 1, s1) := by
            unfold zyF136
            rw [if_pos hin, ← hk, if_pos (by rw [Int32.lt_iff_toInt_lt, zq_l9]; exact hw9), if_pos hin, if_pos hin, if_pos hin, zf_upe, ← hs1]
          unfold zyF135
          simp only [zys26, zys86, f, zq_bind, zqb_n0, zqb_e0, decide_eq_true_eq]
          rw [if_pos hx, if_neg (by rw [hb]; decide)]
        · have g7 : s1.1 43 7 = s.1 1 3 := by rw [o1 43 7 (by decide) (by decide), e6]
          have g54 : s1.1 54 2 = s.1 54 2 := o1 54 2 (by decide) (by decide)
          have g44 : s1.1 44 (16 + k) = s.1 2 k := by rw [o1 44 (16 + k) (by decide) (by decide), w44]
          unfold zyF242
          simp only [zys186, zys208, g7, zq_bind, zqb_n0, zqb_e0, decide_eq_true_eq, Int32.toInt_toInt64]
          rw [if_pos hx, if_pos hb, if_pos hin16, e16n, g44, if_pos (show s.1 2 k ≠ 9 from fun g => by rw [g, zq_l9] at hw9; omega), if_pos hin16, if_pos hin16, if_pos hin16, zf_upe, g54, ← hs2]
      · obtain ⟨L, hL⟩ : ∃ L, L = s.1 1 3 &&& (((1 : Int32) <<< (x &&& 31)) ^^^ (-1 : Int32)) := ⟨_, rfl⟩
        have hLb : zin L 0 16777215 := by
          have := zbs_an (L := s.1 1 3) (c := (1 : Int32) <<< (x &&& 31)) (n := 24) l0 (by omega) (by decide) (by rw [zbs_1 hx.1 hx.2]; exact Int.natCast_nonneg _)
          rw [hL]
          exact ⟨this.1, by have := this.2; omega⟩
        have w9 : s.1 2 k = 9 := zq_ext (by rw [zq_l9]; omega)
        obtain ⟨s1, hs1⟩ : ∃ s1, s1 = zy_up (zy_up (zy_up s 18 2 (s.1 18 2 + 1)) 1 3 L) 18 4 (s.1 18 4 + 1) := ⟨_, rfl⟩
        obtain ⟨s2, hs2⟩ : ∃ s2, s2 = zy_up (zy_up (zy_up s1 54 2 (s.1 54 2 + 1)) 43 7 L) 54 4 (s.1 54 4 + 1) := ⟨_, rfl⟩
        have at2 : ∀ a b, s2.1 a b = if a = 54 ∧ b = 4 then s.1 54 4 + 1 else if a = 43 ∧ b = 7 then L else if a = 54 ∧ b = 2 then s.1 54 2 + 1 else if a = 18 ∧ b = 4 then s.1 18 4 + 1 else if a = 1 ∧ b = 3 then L else if a = 18 ∧ b = 2 then s.1 18 2 + 1 else s.1 a b := by
          intro a b
          rw [hs2, zy_up_at, zy_up_at, zy_up_at, hs1, zy_up_at, zy_up_at, zy_up_at]
        have o1 : ∀ a b, a ≠ 1 → a ≠ 18 → s1.1 a b = s.1 a b := fun a b a1 a3 => by rw [hs1, zf_up a3, zf_up a1, zf_up a3]
        have e : ∀ a b, zch a → s2.1 a b = s.1 a b := by
          intro a b ha
          unfold zch at ha
          rw [at2]
          repeat' split
          all_goals first | rfl | (exfalso; omega)
        have e1 : ∀ b, b ≠ 3 → s2.1 1 b = s.1 1 b := by
          intro b hb3
          rw [at2]
          repeat' split
          all_goals first | rfl | (exfalso; omega)
        have e43 : ∀ b, b ≠ 7 → s2.1 43 b = s.1 43 b := by
          intro b hb7
          rw [at2]
          repeat' split
          all_goals first | rfl | (exfalso; omega)
        have hz : zI s2 := by
          refine zI_ck h hLb (fun p => if p = 4 then s.1 18 4 + 1 else if p = 2 then s.1 18 2 + 1 else s.1 18 p) zpl0 (Or.inl rfl) (zpv0 h4) (by rw [hs2, hs1]; rfl) e e1 e43 ?_ ?_ ?_ ?_ ?_ ?_ ?_
          · rw [at2]
            repeat' split
            all_goals first | rfl | (exfalso; omega)
          · rw [at2]
            repeat' split
            all_goals first | rfl | (exfalso; omega)
          · intro p hp
            rw [at2]
            repeat' split
            all_goals first | rfl | (exfalso; omega)
          · intro p hp
            have g := h7 p hp
            have g1 := h7 2 (by decide)
            have g4 := h7 4 (by decide)
            rw [at2, g, g1, g4]
            repeat' split
            all_goals first | rfl | (exfalso; omega)
          · intro p
            rw [at2]
            by_cases g : p = 0
            · subst g
              repeat' split
              all_goals first | rfl | (exfalso; omega)
            · repeat' split
              all_goals first | rfl | (exfalso; omega)
          · intro p
            rw [at2]
            repeat' split
            all_goals first | rfl | (exfalso; omega)
          · intro p
            have g4 := (h4 0 (by decide)).1
            rw [at2, g4]
            by_cases g : p = 16
            · subst g
              repeat' split
              all_goals first | rfl | (exfalso; omega)
            · repeat' split
              all_goals first | rfl | (exfalso; omega)
        refine ⟨10, s1, s2, ?_, ?_, hz⟩
        · have f : zyF136 x s = some (10, s1) := by
            unfold zyF136
            rw [if_pos hin, ← hk, if_neg (by rw [Int32.lt_iff_toInt_lt, zq_l9]; exact hw9), ← hL, ← hs1]
          unfold zyF135
          simp only [zys26, zys86, f, zq_bind, zqb_n0, zqb_e0, decide_eq_true_eq]
          rw [if_pos hx, if_neg (by rw [hb]; decide)]
        · have g7 : s1.1 43 7 = s.1 1 3 := by rw [o1 43 7 (by decide) (by decide), e6]
          have g54 : s1.1 54 2 = s.1 54 2 := o1 54 2 (by decide) (by decide)
          have g544 : s1.1 54 4 = s.1 54 4 := o1 54 4 (by decide) (by decide)
          have g44 : s1.1 44 (16 + k) = s.1 2 k := by rw [o1 44 (16 + k) (by decide) (by decide), w44]
          unfold zyF242
          simp only [zys186, zys208, g7, zq_bind, zqb_n0, zqb_e0, decide_eq_true_eq, Int32.toInt_toInt64]
          rw [if_pos hx, if_pos hb, if_pos hin16, e16n, g44, if_neg (show ¬ (s.1 2 k ≠ 9) from fun g => g w9), ← hL, g54, g544, ← hs2]
    · refine ⟨-5, s, s, ?_, ?_, h⟩
      · unfold zyF135
        simp only [zys26, zys86, zq_bind, zqb_n0, zqb_e0, decide_eq_true_eq]
        rw [if_pos hx, if_pos (by simpa using hb)]
      · unfold zyF242
        simp only [zys186, zys208, ← e6, true_and, and_true, zqb_t0, Classical.not_not, Bool.not_eq_false, zq_bind, zqb_n0, zqb_e0, decide_eq_true_eq, decide_eq_false_iff_not, ne_eq, zq_eq, Int32.toInt_toInt64, Int32.lt_iff_toInt_lt, Int32.le_iff_toInt_le, zq_l0, zq_lm1, zq_l1, zq_l2, zq_l3, zq_l4, zq_l5, zq_l6, zq_l7, zq_l8, zq_l9, zq_l12, zq_l16, zq_l23, zq_l24, zq_l40, zq_l39, zq_l50, zq_l51, zq_l60, zq_l120, zq_l128, zq_l255, zq_l4095, zq_l4096, zq_j0, zq_j1, zq_j4, zq_j5, zq_j7, zq_j8, zq_j9, zq_j23, zq_j255, zq_j4095]
        rw [if_pos hx, if_neg hb]
  · refine ⟨-1, s, s, ?_, ?_, h⟩
    · unfold zyF135
      simp only [zys26, zq_bind, zqb_n0, decide_eq_true_eq]
      rw [if_neg hx]
    · unfold zyF242
      simp only [zys186, true_and, and_true, zqb_t0, Classical.not_not, Bool.not_eq_false, zq_bind, zqb_n0, zqb_e0, decide_eq_true_eq, decide_eq_false_iff_not, ne_eq, zq_eq, Int32.toInt_toInt64, Int32.lt_iff_toInt_lt, Int32.le_iff_toInt_le, zq_l0, zq_lm1, zq_l1, zq_l2, zq_l3, zq_l4, zq_l5, zq_l6, zq_l7, zq_l8, zq_l9, zq_l12, zq_l16, zq_l23, zq_l24, zq_l40, zq_l39, zq_l50, zq_l51, zq_l60, zq_l120, zq_l128, zq_l255, zq_l4095, zq_l4096, zq_j0, zq_j1, zq_j4, zq_j5, zq_j7, zq_j8, zq_j9, zq_j23, zq_j255, zq_j4095]
      rw [if_neg hx]
