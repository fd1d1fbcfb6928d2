/-! PARTS 46.8.strike to 46.924.law -/
section
/-! PART 46.8: strike, rub, won. Made by wip/v4/gen_chalk2.py. -/
theorem zI_ck {s t : zy_S} (h : zI s) {L : Int32} (hL : zin L 0 16777215) (g : Nat → Int32) {c k Q : Nat} {v : Int32} (hp : zPl c k Q) (hc : c = 2 ∨ c = 3) (hv : zPv c v) (ht2 : t.2 = s.2)
    (e : ∀ a b, zch a → t.1 a b = s.1 a b) (e1 : ∀ b, b ≠ 3 → t.1 1 b = s.1 1 b) (e43 : ∀ b, b ≠ 7 → t.1 43 b = s.1 43 b) (e13 : t.1 1 3 = L) (e437 : t.1 43 7 = L)
    (e18 : ∀ p, p < 5 → t.1 18 p = g p) (e54 : ∀ p, p < 5 → t.1 54 p = g p) (e2 : ∀ p, t.1 2 p = if 2 = c ∧ p = k then v else s.1 2 p) (e3 : ∀ p, t.1 3 p = if 3 = c ∧ p = k then v else s.1 3 p) (e44 : ∀ p, t.1 44 p = if p = Q then v else s.1 44 p) : zI t := by
  obtain ⟨hw, hg, h1, h2, h3, h4, h5, h6, h7, h8, h9, h10, h11, h12, h13, h14, h15, h16, h17, h18, h19, h20, h21⟩ := id h
  obtain ⟨q2, q3, q4, q5⟩ := zPl_R (t := t) hp hv h2 h3 h4 h5 e3 (fun p => by rw [if_neg (by omega)]; exact e 4 p (by unfold zch; omega)) e2 (by rw [if_neg (by omega)]; exact e1 4 (by decide)) e44
  have q6 : zR6 t := by
    unfold zR6
    rw [e13, e437]
    exact ⟨rfl, hL⟩
  have q7 : zR7 t := by
    intro p hp
    rw [e18 p hp, e54 p hp]
  exact zI_chalk h ht2 (zRg_chalk hg e e1 e43 q5 q6) e e1 e43 q2 q3 q4 q5 q6 q7
theorem zpl0 : zPl 2 0 16 := Or.inr (Or.inr (Or.inl ⟨rfl, by decide, rfl⟩))
theorem zpv0 {s : zy_S} (h4 : zR4 s) : zPv 2 (s.1 2 0) := ⟨fun g => absurd g (by decide), fun g => absurd g (by decide), fun _ => (h4 0 (by decide)).2, fun g => absurd g (by decide)⟩
theorem zop_strike (x : Int32) {s : zy_S} (h : zI s) : ∃ r s1 s2, zyF133 x s = some (r, s1) ∧ zyF241 x s1 = some (r, s2) ∧ zI s2 := by
  obtain ⟨hw, hg, h1, h2, h3, h4, h5, h6, h7, h8, h9, h10, h11, h12, h13, h14, h15, h16, h17, h18, h19, h20, h21⟩ := id h
  obtain ⟨e6, l0, l1⟩ := id h6
  by_cases hx : 0 ≤ x.toInt ∧ x.toInt ≤ 23
  · by_cases hb : zbt (s.1 1 3) x = true
    · obtain ⟨L, hL⟩ : ∃ L, L = s.1 1 3 &&& (((1 : Int32) <<< (x &&& 31)) ^^^ (-1 : Int32)) := ⟨_, rfl⟩
      have hLb : zin L 0 16777215 := by
        have := zbs_an (L := s.1 1 3) (c := (1 : Int32) <<< (x &&& 31)) (n := 24) l0 (by omega) (by decide) (by rw [zbs_1 hx.1 hx.2]; exact Int.natCast_nonneg _)
        rw [hL]
        exact ⟨this.1, by have := this.2; omega⟩
      obtain ⟨s1, hs1⟩ : ∃ s1, s1 = zy_up (zy_up s 1 3 L) 18 1 (s.1 18 1 + 1) := ⟨_, rfl⟩
      obtain ⟨s2, hs2⟩ : ∃ s2, s2 = zy_up (zy_up s1 43 7 L) 54 1 (s.1 54 1 + 1) := ⟨_, rfl⟩
      have at2 : ∀ a b, s2.1 a b = if a = 54 ∧ b = 1 then s.1 54 1 + 1 else if a = 43 ∧ b = 7 then L else if a = 18 ∧ b = 1 then s.1 18 1 + 1 else if a = 1 ∧ b = 3 then L else s.1 a b := by
        intro a b
        rw [hs2, zy_up_at, zy_up_at, hs1, zy_up_at, zy_up_at]
      have o1 : ∀ a b, a ≠ 1 → a ≠ 18 → s1.1 a b = s.1 a b := fun a b a1 a3 => by rw [hs1, zf_up a3, zf_up a1]
      have e : ∀ a b, zch a → s2.1 a b = s.1 a b := by
        intro a b ha
        unfold zch at ha
        rw [at2]
        repeat' split
        all_goals first | (exfalso; omega) | rfl
      have e1 : ∀ b, b ≠ 3 → s2.1 1 b = s.1 1 b := by
        intro b hb3
        rw [at2]
        repeat' split
        all_goals first | (exfalso; omega) | rfl
      have e43 : ∀ b, b ≠ 7 → s2.1 43 b = s.1 43 b := by
        intro b hb7
        rw [at2]
        repeat' split
        all_goals first | (exfalso; omega) | rfl
      have hz : zI s2 := by
        refine zI_ck h hLb (fun p => if p = 1 then s.1 18 1 + 1 else s.1 18 p) zpl0 (Or.inl rfl) (zpv0 h4) (by rw [hs2, hs1]; rfl) e e1 e43 ?_ ?_ ?_ ?_ ?_ ?_ ?_
        · rw [at2]
          repeat' split
          all_goals first | (exfalso; omega) | rfl
        · rw [at2]
          repeat' split
          all_goals first | (exfalso; omega) | rfl
        · intro p hp
          rw [at2]
          repeat' split
          all_goals first | (exfalso; omega) | rfl
        · intro p hp
          have g := h7 p hp
          have g1 := h7 1 (by decide)
          rw [at2, g, g1]
          repeat' split
          all_goals first | (exfalso; omega) | rfl
        · intro p
          rw [at2]
          by_cases g : p = 0
          · subst g
            repeat' split
            all_goals first | (exfalso; omega) | rfl
          · repeat' split
            all_goals first | (exfalso; omega) | rfl
        · intro p
          rw [at2]
          repeat' split
          all_goals first | (exfalso; omega) | rfl
        · intro p
          have g4 := (h4 0 (by decide)).1
          rw [at2, g4]
          by_cases g : p = 16
          · subst g
            repeat' split
            all_goals first | (exfalso; omega) | rfl
          · repeat' split
            all_goals first | (exfalso; omega) | rfl
      refine ⟨zpc L, s1, s2, ?_, ?_, hz⟩
      · have g : s1.1 1 3 = L := by rw [hs1, zf_up (by decide), zf_upe]
        have f : zyF134 x s = some (zpc L, s1) := by
          unfold zyF134
          rw [← hL, ← hs1, zys92 (s := s1) (by rw [g]; exact hLb.1) (by rw [g]; exact hLb.2), g]
          rfl
        unfold zyF133
        simp only [zys26, zys86, f, zq_bind, zqb_n0, zqb_e0, decide_eq_true_eq]
        rw [if_pos hx, if_neg (by rw [hb]; decide)]
      · have g7 : s1.1 43 7 = s.1 1 3 := by rw [o1 43 7 (by decide) (by decide), e6]
        have g54 : s1.1 54 1 = s.1 54 1 := o1 54 1 (by decide) (by decide)
        unfold zyF241
        simp only [zys186, zys208, g7, g54, ← hL, ← hs2, zys209 s2 hLb.1 hLb.2, true_and, and_true, zqb_t0, Classical.not_not, Bool.not_eq_false, zq_bind, zqb_n0, zqb_e0, decide_eq_true_eq, decide_eq_false_iff_not, ne_eq, zq_eq, Int32.toInt_toInt64, Int32.lt_iff_toInt_lt, Int32.le_iff_toInt_le, zq_l0, zq_lm1, zq_l1, zq_l2, zq_l3, zq_l4, zq_l5, zq_l6, zq_l7, zq_l8, zq_l9, zq_l12, zq_l16, zq_l23, zq_l24, zq_l40, zq_l39, zq_l50, zq_l51, zq_l60, zq_l120, zq_l128, zq_l255, zq_l4095, zq_l4096, zq_j0, zq_j1, zq_j4, zq_j5, zq_j7, zq_j8, zq_j9, zq_j23, zq_j255, zq_j4095]
        rw [if_pos hx, if_pos hb]
    · refine ⟨-5, s, s, ?_, ?_, h⟩
      · unfold zyF133
        simp only [zys26, zys86, zq_bind, zqb_n0, zqb_e0, decide_eq_true_eq]
        rw [if_pos hx, if_pos (by simpa using hb)]
      · unfold zyF241
        simp only [zys186, zys208, ← e6, true_and, and_true, zqb_t0, Classical.not_not, Bool.not_eq_false, zq_bind, zqb_n0, zqb_e0, decide_eq_true_eq, decide_eq_false_iff_not, ne_eq, zq_eq, Int32.toInt_toInt64, Int32.lt_iff_toInt_lt, Int32.le_iff_toInt_le, zq_l0, zq_lm1, zq_l1, zq_l2, zq_l3, zq_l4, zq_l5, zq_l6, zq_l7, zq_l8, zq_l9, zq_l12, zq_l16, zq_l23, zq_l24, zq_l40, zq_l39, zq_l50, zq_l51, zq_l60, zq_l120, zq_l128, zq_l255, zq_l4095, zq_l4096, zq_j0, zq_j1, zq_j4, zq_j5, zq_j7, zq_j8, zq_j9, zq_j23, zq_j255, zq_j4095]
        rw [if_pos hx, if_neg hb]
  · refine ⟨-1, s, s, ?_, ?_, h⟩
    · unfold zyF133
      simp only [zys26, zq_bind, zqb_n0, decide_eq_true_eq]
      rw [if_neg hx]
    · unfold zyF241
      simp only [zys186, true_and, and_true, zqb_t0, Classical.not_not, Bool.not_eq_false, zq_bind, zqb_n0, zqb_e0, decide_eq_true_eq, decide_eq_false_iff_not, ne_eq, zq_eq, Int32.toInt_toInt64, Int32.lt_iff_toInt_lt, Int32.le_iff_toInt_le, zq_l0, zq_lm1, zq_l1, zq_l2, zq_l3, zq_l4, zq_l5, zq_l6, zq_l7, zq_l8, zq_l9, zq_l12, zq_l16, zq_l23, zq_l24, zq_l40, zq_l39, zq_l50, zq_l51, zq_l60, zq_l120, zq_l128, zq_l255, zq_l4095, zq_l4096, zq_j0, zq_j1, zq_j4, zq_j5, zq_j7, zq_j8, zq_j9, zq_j23, zq_j255, zq_j4095]
      rw [if_neg hx]
theorem zop_rub (x : Int32) {s : zy_S} (h : zI s) : ∃ r s1 s2, zyF135 x s = some (r, s1) ∧ zyF242 x s1 = some (r, s2) ∧ zI s2 := by
  obtain ⟨hw, hg, h1, h2, h3, h4, h5, h6, h7, h8, h9, h10, h11, h12, h13, h14, h15, h16, h17, h18, h19, h20, h21⟩ := id h
  obtain ⟨e6, l0, l1⟩ := id h6
  by_cases hx : 0 ≤ x.toInt ∧ x.toInt ≤ 23
  · by_cases hb : zbt (s.1 1 3) x = true
    · obtain ⟨k, hk⟩ : ∃ k, k = x.toNatClampNeg := ⟨_, rfl⟩
      have ek : (k : Int) = x.toInt := by rw [hk, zq_ix]; omega
      have e16 : ((16 : Int32) + x).toInt = 16 + x.toInt := by rw [zq_add (by rw [zq_l16]; omega) (by rw [zq_l16]; omega), zq_l16]
      have e16n : ((16 : Int32) + x).toNatClampNeg = 16 + k := by rw [zq_ix, e16]; omega
      have hin : zy_in x 24 = true := zq_in.mpr ⟨hx.1, by omega⟩
      have hin16 : zy_in ((16 : Int32) + x) 41 = true := zq_in.mpr ⟨by omega, by omega⟩
      obtain ⟨w44, w0, w1⟩ := h4 k (by omega)
      by_cases hw9 : (s.1 2 k).toInt < 9
      · have en : (s.1 2 k + 1).toInt = (s.1 2 k).toInt + 1 := zq_add (by rw [zq_l1]; omega) (by rw [zq_l1]; omega)
        obtain ⟨s1, hs1⟩ : ∃ s1, s1 = zy_up (zy_up s 18 2 (s.1 18 2 + 1)) 2 k (s.1 2 k + 1) := ⟨_, rfl⟩
        obtain ⟨s2, hs2⟩ : ∃ s2, s2 = zy_up (zy_up s1 54 2 (s.1 54 2 + 1)) 44 (16 + k) (s.1 2 k + 1) := ⟨_, rfl⟩
        have at2 : ∀ a b, s2.1 a b = if a = 44 ∧ b = 16 + k then s.1 2 k + 1 else if a = 54 ∧ b = 2 then s.1 54 2 + 1 else if a = 2 ∧ b = k then s.1 2 k + 1 else if a = 18 ∧ b = 2 then s.1 18 2 + 1 else s.1 a b := by
          intro a b
          rw [hs2, zy_up_at, zy_up_at, hs1, zy_up_at, zy_up_at]
        have o1 : ∀ a b, a ≠ 2 → a ≠ 18 → s1.1 a b = s.1 a b := fun a b a1 a3 => by rw [hs1, zf_up a1, zf_up a3]
        have e : ∀ a b, zch a → s2.1 a b = s.1 a b := by
          intro a b ha
          unfold zch at ha
          rw [at2]
          repeat' split
          all_goals first | (exfalso; omega) | rfl
        have e1 : ∀ b, b ≠ 3 → s2.1 1 b = s.1 1 b := by
          intro b hb3
          rw [at2]
          repeat' split
          all_goals first | (exfalso; omega) | rfl
        have e43 : ∀ b, b ≠ 7 → s2.1 43 b = s.1 43 b := by
          intro b hb7
          rw [at2]
          repeat' split
          all_goals first | (exfalso; omega) | rfl
        have hz : zI s2 := by
          refine zI_ck h (L := s.1 1 3) ⟨l0, l1⟩ (fun p => if p = 2 then s.1 18 2 + 1 else s.1 18 p) (c := 2) (k := k) (Q := 16 + k) (v := s.1 2 k + 1) (Or.inr (Or.inr (Or.inl ⟨rfl, by omega, rfl⟩))) (Or.inl rfl) ⟨fun g => absurd g (by decide), fun g => absurd g (by decide), fun _ => ⟨by omega, by omega⟩, fun g => absurd g (by decide)⟩ (by rw [hs2, hs1]; rfl) e e1 e43 ?_ ?_ ?_ ?_ ?_ ?_ ?_
          · rw [at2]
            repeat' split
            all_goals first | (exfalso; omega) | rfl
          · rw [e6, at2]
            repeat' split
            all_goals first | (exfalso; omega) | rfl
          · intro p hp
            rw [at2]
            repeat' split
            all_goals first | (exfalso; omega) | rfl
          · intro p hp
            have g := h7 p hp
            have g1 := h7 2 (by decide)
            rw [at2, g, g1]
            repeat' split
            all_goals first | (exfalso; omega) | rfl
          · intro p
            rw [at2]
            repeat' split
            all_goals first | (exfalso; omega) | rfl
          · intro p
            rw [at2]
            repeat' split
            all_goals first | (exfalso; omega) | rfl
          · intro p
            rw [at2]
            repeat' split
            all_goals first | (exfalso; omega) | rfl
        refine ⟨s.1 2 k + 1, s1, s2, ?_, ?_, hz⟩
        · have f : zyF136 x s = some (s.1 2 k + 1, s1) := by
            unfold zyF136
            rw [if_pos hin, ← hk, if_pos (by rw [Int32.lt_iff_toInt_lt, zq_l9]; exact hw9), if_pos hin, if_pos hin, if_pos hin, zf_upe, ← hs1]
          unfold zyF135
          simp only [zys26, zys86, f, zq_bind, zqb_n0, zqb_e0, decide_eq_true_eq]
          rw [if_pos hx, if_neg (by rw [hb]; decide)]
        · have g7 : s1.1 43 7 = s.1 1 3 := by rw [o1 43 7 (by decide) (by decide), e6]
          have g54 : s1.1 54 2 = s.1 54 2 := o1 54 2 (by decide) (by decide)
          have g44 : s1.1 44 (16 + k) = s.1 2 k := by rw [o1 44 (16 + k) (by decide) (by decide), w44]
          unfold zyF242
          simp only [zys186, zys208, g7, zq_bind, zqb_n0, zqb_e0, decide_eq_true_eq, Int32.toInt_toInt64]
          rw [if_pos hx, if_pos hb, if_pos hin16, e16n, g44, if_pos (show s.1 2 k ≠ 9 from fun g => by rw [g, zq_l9] at hw9; omega), if_pos hin16, if_pos hin16, if_pos hin16, zf_upe, g54, ← hs2]
      · obtain ⟨L, hL⟩ : ∃ L, L = s.1 1 3 &&& (((1 : Int32) <<< (x &&& 31)) ^^^ (-1 : Int32)) := ⟨_, rfl⟩
        have hLb : zin L 0 16777215 := by
          have := zbs_an (L := s.1 1 3) (c := (1 : Int32) <<< (x &&& 31)) (n := 24) l0 (by omega) (by decide) (by rw [zbs_1 hx.1 hx.2]; exact Int.natCast_nonneg _)
          rw [hL]
          exact ⟨this.1, by have := this.2; omega⟩
        have w9 : s.1 2 k = 9 := zq_ext (by rw [zq_l9]; omega)
        obtain ⟨s1, hs1⟩ : ∃ s1, s1 = zy_up (zy_up (zy_up s 18 2 (s.1 18 2 + 1)) 1 3 L) 18 4 (s.1 18 4 + 1) := ⟨_, rfl⟩
        obtain ⟨s2, hs2⟩ : ∃ s2, s2 = zy_up (zy_up (zy_up s1 54 2 (s.1 54 2 + 1)) 43 7 L) 54 4 (s.1 54 4 + 1) := ⟨_, rfl⟩
        have at2 : ∀ a b, s2.1 a b = if a = 54 ∧ b = 4 then s.1 54 4 + 1 else if a = 43 ∧ b = 7 then L else if a = 54 ∧ b = 2 then s.1 54 2 + 1 else if a = 18 ∧ b = 4 then s.1 18 4 + 1 else if a = 1 ∧ b = 3 then L else if a = 18 ∧ b = 2 then s.1 18 2 + 1 else s.1 a b := by
          intro a b
          rw [hs2, zy_up_at, zy_up_at, zy_up_at, hs1, zy_up_at, zy_up_at, zy_up_at]
        have o1 : ∀ a b, a ≠ 1 → a ≠ 18 → s1.1 a b = s.1 a b := fun a b a1 a3 => by rw [hs1, zf_up a3, zf_up a1, zf_up a3]
        have e : ∀ a b, zch a → s2.1 a b = s.1 a b := by
          intro a b ha
          unfold zch at ha
          rw [at2]
          repeat' split
          all_goals first | (exfalso; omega) | rfl
        have e1 : ∀ b, b ≠ 3 → s2.1 1 b = s.1 1 b := by
          intro b hb3
          rw [at2]
          repeat' split
          all_goals first | (exfalso; omega) | rfl
        have e43 : ∀ b, b ≠ 7 → s2.1 43 b = s.1 43 b := by
          intro b hb7
          rw [at2]
          repeat' split
          all_goals first | (exfalso; omega) | rfl
        have hz : zI s2 := by
          refine zI_ck h hLb (fun p => if p = 4 then s.1 18 4 + 1 else if p = 2 then s.1 18 2 + 1 else s.1 18 p) zpl0 (Or.inl rfl) (zpv0 h4) (by rw [hs2, hs1]; rfl) e e1 e43 ?_ ?_ ?_ ?_ ?_ ?_ ?_
          · rw [at2]
            repeat' split
            all_goals first | (exfalso; omega) | rfl
          · rw [at2]
            repeat' split
            all_goals first | (exfalso; omega) | rfl
          · intro p hp
            rw [at2]
            repeat' split
            all_goals first | (exfalso; omega) | rfl
          · intro p hp
            have g := h7 p hp
            have g1 := h7 2 (by decide)
            have g4 := h7 4 (by decide)
            rw [at2, g, g1, g4]
            repeat' split
            all_goals first | (exfalso; omega) | rfl
          · intro p
            rw [at2]
            by_cases g : p = 0
            · subst g
              repeat' split
              all_goals first | (exfalso; omega) | rfl
            · repeat' split
              all_goals first | (exfalso; omega) | rfl
          · intro p
            rw [at2]
            repeat' split
            all_goals first | (exfalso; omega) | rfl
          · intro p
            have g4 := (h4 0 (by decide)).1
            rw [at2, g4]
            by_cases g : p = 16
            · subst g
              repeat' split
              all_goals first | (exfalso; omega) | rfl
            · repeat' split
              all_goals first | (exfalso; omega) | rfl
        refine ⟨10, s1, s2, ?_, ?_, hz⟩
        · have f : zyF136 x s = some (10, s1) := by
            unfold zyF136
            rw [if_pos hin, ← hk, if_neg (by rw [Int32.lt_iff_toInt_lt, zq_l9]; exact hw9), ← hL, ← hs1]
          unfold zyF135
          simp only [zys26, zys86, f, zq_bind, zqb_n0, zqb_e0, decide_eq_true_eq]
          rw [if_pos hx, if_neg (by rw [hb]; decide)]
        · have g7 : s1.1 43 7 = s.1 1 3 := by rw [o1 43 7 (by decide) (by decide), e6]
          have g54 : s1.1 54 2 = s.1 54 2 := o1 54 2 (by decide) (by decide)
          have g544 : s1.1 54 4 = s.1 54 4 := o1 54 4 (by decide) (by decide)
          have g44 : s1.1 44 (16 + k) = s.1 2 k := by rw [o1 44 (16 + k) (by decide) (by decide), w44]
          unfold zyF242
          simp only [zys186, zys208, g7, zq_bind, zqb_n0, zqb_e0, decide_eq_true_eq, Int32.toInt_toInt64]
          rw [if_pos hx, if_pos hb, if_pos hin16, e16n, g44, if_neg (show ¬ (s.1 2 k ≠ 9) from fun g => g w9), ← hL, g54, g544, ← hs2]
    · refine ⟨-5, s, s, ?_, ?_, h⟩
      · unfold zyF135
        simp only [zys26, zys86, zq_bind, zqb_n0, zqb_e0, decide_eq_true_eq]
        rw [if_pos hx, if_pos (by simpa using hb)]
      · unfold zyF242
        simp only [zys186, zys208, ← e6, true_and, and_true, zqb_t0, Classical.not_not, Bool.not_eq_false, zq_bind, zqb_n0, zqb_e0, decide_eq_true_eq, decide_eq_false_iff_not, ne_eq, zq_eq, Int32.toInt_toInt64, Int32.lt_iff_toInt_lt, Int32.le_iff_toInt_le, zq_l0, zq_lm1, zq_l1, zq_l2, zq_l3, zq_l4, zq_l5, zq_l6, zq_l7, zq_l8, zq_l9, zq_l12, zq_l16, zq_l23, zq_l24, zq_l40, zq_l39, zq_l50, zq_l51, zq_l60, zq_l120, zq_l128, zq_l255, zq_l4095, zq_l4096, zq_j0, zq_j1, zq_j4, zq_j5, zq_j7, zq_j8, zq_j9, zq_j23, zq_j255, zq_j4095]
        rw [if_pos hx, if_neg hb]
  · refine ⟨-1, s, s, ?_, ?_, h⟩
    · unfold zyF135
      simp only [zys26, zq_bind, zqb_n0, decide_eq_true_eq]
      rw [if_neg hx]
    · unfold zyF242
      simp only [zys186, true_and, and_true, zqb_t0, Classical.not_not, Bool.not_eq_false, zq_bind, zqb_n0, zqb_e0, decide_eq_true_eq, decide_eq_false_iff_not, ne_eq, zq_eq, Int32.toInt_toInt64, Int32.lt_iff_toInt_lt, Int32.le_iff_toInt_le, zq_l0, zq_lm1, zq_l1, zq_l2, zq_l3, zq_l4, zq_l5, zq_l6, zq_l7, zq_l8, zq_l9, zq_l12, zq_l16, zq_l23, zq_l24, zq_l40, zq_l39, zq_l50, zq_l51, zq_l60, zq_l120, zq_l128, zq_l255, zq_l4095, zq_l4096, zq_j0, zq_j1, zq_j4, zq_j5, zq_j7, zq_j8, zq_j9, zq_j23, zq_j255, zq_j4095]
      rw [if_neg hx]
end
section
/-! PART 46.9: won. Made by wip/v4/gen_won.py. -/
/-- whether a view is held; what it makes of what is believed -/
def zvw (b x : Int32) : Bool := decide (((b >>> (((2 : Int32) * (x / (4 : Int32))) &&& 31)) &&& (3 : Int32)) = x - x / (4 : Int32) * (4 : Int32))
def zvn (b x : Int32) : Int32 := (b &&& (((3 : Int32) <<< (((2 : Int32) * (x / (4 : Int32))) &&& 31)) ^^^ (-1 : Int32))) ||| ((x - x / (4 : Int32) * (4 : Int32)) <<< (((2 : Int32) * (x / (4 : Int32))) &&& 31))
theorem zvn_c : ∀ n : Nat, n < 24 → 0 ≤ ((3 : Int32) <<< (((2 : Int32) * (Int32.ofNat n / (4 : Int32))) &&& 31)).toInt ∧ 0 ≤ ((Int32.ofNat n - Int32.ofNat n / (4 : Int32) * (4 : Int32)) <<< (((2 : Int32) * (Int32.ofNat n / (4 : Int32))) &&& 31)).toInt ∧ ((Int32.ofNat n - Int32.ofNat n / (4 : Int32) * (4 : Int32)) <<< (((2 : Int32) * (Int32.ofNat n / (4 : Int32))) &&& 31)).toInt ≤ 4095 := by decide +kernel
theorem zvn_b {b x : Int32} (b0 : 0 ≤ b.toInt) (b1 : b.toInt ≤ 4095) (x0 : 0 ≤ x.toInt) (x1 : x.toInt ≤ 23) : zin (zvn b x) 0 4095 := by
  have ex : x = Int32.ofNat x.toInt.toNat := by
    apply zq_ext
    rw [zN_toInt (by omega)]
    omega
  obtain ⟨c1, c2, c3⟩ := zvn_c x.toInt.toNat (by omega)
  rw [← ex] at c1 c2 c3
  have h := zbs_an (L := b) (c := (3 : Int32) <<< (((2 : Int32) * (x / (4 : Int32))) &&& 31)) (n := 12) b0 (by omega) (by decide) c1
  unfold zvn
  generalize (b &&& (((3 : Int32) <<< (((2 : Int32) * (x / (4 : Int32))) &&& 31)) ^^^ (-1 : Int32))) = p at h ⊢
  generalize ((x - x / (4 : Int32) * (4 : Int32)) <<< (((2 : Int32) * (x / (4 : Int32))) &&& 31)) = q at c2 c3 ⊢
  have e : (p ||| q).toInt = zb_c 14 p.toInt q.toInt := zb_cEq 14 _ _ (by omega)
  have ep : p.toInt = (p.toInt.toNat : Int) := (Int.toNat_of_nonneg h.1).symm
  have eq : q.toInt = (q.toInt.toNat : Int) := (Int.toNat_of_nonneg c2).symm
  have h2 := h.2
  rw [ep, eq, zN_or (by omega) (by omega)] at e
  have v : p.toInt.toNat ||| q.toInt.toNat < 2 ^ 12 := Nat.or_lt_two_pow (by omega) (by omega)
  unfold zin
  omega
theorem zys96 {p : Int32} (x : Int32) (s : zy_S) (hp : zy_in p 8 = true) : zyF96 p x s = some (zqb (zvw (s.1 3 p.toNatClampNeg) x), s) := by
  unfold zyF96 zyF60 zvw
  rw [if_pos hp, zq_bind]
  refine zqb_d (x := 0) (fun h => ?_) (fun h => ?_)
  · rw [if_neg (fun g => g h)]
  · rw [if_pos h]
theorem zys222 {p : Int32} (x : Int32) (s : zy_S) (hp : zy_in p 41 = true) : zyF222 p x s = some (zqb (zvw (s.1 44 p.toNatClampNeg) x), s) := by
  unfold zyF222 zyF205 zyF206 zvw
  rw [if_pos hp, zq_bind, zq_bind]
  refine zqb_d (x := 0) (fun h => ?_) (fun h => ?_)
  · rw [if_neg (fun g => g h)]
  · rw [if_pos h]
theorem zop_won (p x : Int32) {s : zy_S} (h : zI s) : ∃ r s1 s2, zyF137 p x s = some (r, s1) ∧ zyF243 p x s1 = some (r, s2) ∧ zI s2 := by
  obtain ⟨hw, hg, h1, h2, h3, h4, h5, h6, h7, h8, h9, h10, h11, h12, h13, h14, h15, h16, h17, h18, h19, h20, h21⟩ := id h
  obtain ⟨e6, l0, l1⟩ := id h6
  obtain ⟨eP, p0, p1⟩ := id h1
  have hpz : zin (s.1 43 6) 0 8 := by rw [← eP]; exact ⟨p0, p1⟩
  by_cases hp : 0 ≤ p.toInt ∧ p.toInt < (s.1 1 5).toInt
  · by_cases hx : 0 ≤ x.toInt ∧ x.toInt ≤ 23
    · have hin : zy_in p 8 = true := zq_in.mpr ⟨hp.1, by omega⟩
      have hin41 : zy_in p 41 = true := zq_in.mpr ⟨hp.1, by omega⟩
      obtain ⟨k, hk⟩ : ∃ k, k = p.toNatClampNeg := ⟨_, rfl⟩
      have ek : (k : Int) = p.toInt := by rw [hk, zq_ix]; omega
      obtain ⟨w44, w0, w1⟩ := h2 k (by omega)
      by_cases hb : zvw (s.1 3 k) x = true
      · refine ⟨-5, s, s, ?_, ?_, h⟩
        · unfold zyF137
          simp only [zys25_0, zys26, zys96 x s hin, ← hk, zq_bind, zqb_n0, zqb_e0, decide_eq_true_eq, decide_eq_false_iff_not]
          rw [if_neg (not_not_intro hp), if_pos hx, if_neg (by rw [hb]; decide)]
        · unfold zyF243
          simp only [zys185 _ s hpz, zys186, zys222 x s hin41, ← hk, ← w44, ← eP, zq_bind, zqb_n0, zqb_e0, decide_eq_true_eq, decide_eq_false_iff_not, Int32.toInt_toInt64]
          rw [if_neg (not_not_intro hp), if_pos hx, if_neg (by rw [hb]; decide)]
      · have hb : zvw (s.1 3 k) x = false := by simpa using hb
        obtain ⟨W, hW⟩ : ∃ W, W = zvn (s.1 3 k) x := ⟨_, rfl⟩
        have hWb : zin W 0 4095 := by rw [hW]; exact zvn_b w0 w1 hx.1 hx.2
        obtain ⟨s1, hs1⟩ : ∃ s1, s1 = zy_up (zy_up s 3 k W) 18 3 (s.1 18 3 + 1) := ⟨_, rfl⟩
        obtain ⟨s2, hs2⟩ : ∃ s2, s2 = zy_up (zy_up s1 44 k W) 54 3 (s.1 54 3 + 1) := ⟨_, rfl⟩
        have at2 : ∀ a b, s2.1 a b = if a = 54 ∧ b = 3 then s.1 54 3 + 1 else if a = 44 ∧ b = k then W else if a = 18 ∧ b = 3 then s.1 18 3 + 1 else if a = 3 ∧ b = k then W else s.1 a b := by
          intro a b
          rw [hs2, zy_up_at, zy_up_at, hs1, zy_up_at, zy_up_at]
        have o1 : ∀ a b, a ≠ 3 → a ≠ 18 → s1.1 a b = s.1 a b := fun a b a1 a3 => by rw [hs1, zf_up a3, zf_up a1]
        have e : ∀ a b, zch a → s2.1 a b = s.1 a b := by
          intro a b ha
          unfold zch at ha
          rw [at2]
          repeat' split
          all_goals first | (exfalso; omega) | rfl
        have e1 : ∀ b, b ≠ 3 → s2.1 1 b = s.1 1 b := by
          intro b hb3
          rw [at2]
          repeat' split
          all_goals first | (exfalso; omega) | rfl
        have e43 : ∀ b, b ≠ 7 → s2.1 43 b = s.1 43 b := by
          intro b hb7
          rw [at2]
          repeat' split
          all_goals first | (exfalso; omega) | rfl
        have hz : zI s2 := by
          refine zI_ck h (L := s.1 1 3) ⟨l0, l1⟩ (fun p => if p = 3 then s.1 18 3 + 1 else s.1 18 p) (c := 3) (k := k) (Q := k) (v := W) (Or.inl ⟨rfl, by omega, rfl⟩) (Or.inr rfl) ⟨fun _ => hWb, fun g => absurd g (by decide), fun g => absurd g (by decide), fun g => absurd g (by decide)⟩ (by rw [hs2, hs1]; rfl) e e1 e43 ?_ ?_ ?_ ?_ ?_ ?_ ?_
          · rw [at2]
            repeat' split
            all_goals first | (exfalso; omega) | rfl
          · rw [e6, at2]
            repeat' split
            all_goals first | (exfalso; omega) | rfl
          · intro p hp
            rw [at2]
            repeat' split
            all_goals first | (exfalso; omega) | rfl
          · intro p hp
            have g := h7 p hp
            have g1 := h7 3 (by decide)
            rw [at2, g, g1]
            repeat' split
            all_goals first | (exfalso; omega) | rfl
          · intro p
            rw [at2]
            repeat' split
            all_goals first | (exfalso; omega) | rfl
          · intro p
            rw [at2]
            repeat' split
            all_goals first | (exfalso; omega) | rfl
          · intro p
            rw [at2]
            repeat' split
            all_goals first | (exfalso; omega) | rfl
        refine ⟨W, s1, s2, ?_, ?_, hz⟩
        · have f : zyF138 p x s = some (W, s1) := by
            unfold zyF138
            rw [if_pos hin, if_pos hin, if_pos hin, ← hk, zf_upe]
            show some (zvn (s.1 3 k) x, zy_up (zy_up s 3 k (zvn (s.1 3 k) x)) 18 3 (s.1 18 3 + 1)) = _
            rw [← hW, ← hs1]
          unfold zyF137
          simp only [zys25_0, zys26, zys96 x s hin, ← hk, f, zq_bind, zqb_n0, zqb_e0, decide_eq_true_eq, decide_eq_false_iff_not]
          rw [if_neg (not_not_intro hp), if_pos hx, if_pos hb]
        · have m6 : s1.1 43 6 = s.1 1 5 := by rw [o1 43 6 (by decide) (by decide), eP]
          have g44 : s1.1 44 k = s.1 3 k := by rw [o1 44 k (by decide) (by decide), w44]
          have g54 : s1.1 54 3 = s.1 54 3 := o1 54 3 (by decide) (by decide)
          unfold zyF243
          simp only [zys185 _ s1 (by rw [m6, eP]; exact hpz), zys186, zys222 x s1 hin41, ← hk, g44, m6, zq_bind, zqb_n0, zqb_e0, decide_eq_true_eq, decide_eq_false_iff_not, Int32.toInt_toInt64]
          rw [if_neg (not_not_intro hp), if_pos hx, if_pos hb, if_pos hin41, if_pos hin41, if_pos hin41, zf_upe]
          show some (zvn (s.1 3 k) x, zy_up (zy_up s1 44 k (zvn (s.1 3 k) x)) 54 3 (s1.1 54 3 + 1)) = _
          rw [← hW, g54, ← hs2]
    · refine ⟨-1, s, s, ?_, ?_, h⟩
      · unfold zyF137
        simp only [zys25_0, zys26, zq_bind, zqb_n0, zqb_e0, decide_eq_true_eq, decide_eq_false_iff_not]
        rw [if_neg (not_not_intro hp), if_neg hx]
      · unfold zyF243
        simp only [zys185 _ s hpz, zys186, ← eP, zq_bind, zqb_n0, zqb_e0, decide_eq_true_eq, decide_eq_false_iff_not, Int32.toInt_toInt64]
        rw [if_neg (not_not_intro hp), if_neg hx]
  · refine ⟨-1, s, s, ?_, ?_, h⟩
    · unfold zyF137
      simp only [zys25_0, zq_bind, zqb_e0, decide_eq_false_iff_not]
      rw [if_pos hp]
    · unfold zyF243
      simp only [zys185 _ s hpz, ← eP, zq_bind, zqb_e0, decide_eq_false_iff_not, Int32.toInt_toInt64]
      rw [if_pos hp]
end
section
/-! PART 46.91: shift. Made by wip/v4/gen_shift.py. -/
theorem zl_150 (x3 x4 x5 : Int32) {d a m : Nat} (hx3 : x3.toInt = (d : Int)) (hd : d < 6) (hx4 : x4.toInt = (a : Int)) (hx5 : x5.toInt = (m : Int)) (hm : a + m ≤ 60) : ∀ (n k : Nat) (i : Int32) (s : zy_S), k ≤ m → m - k < n → i.toInt = (k : Int) →
    ∃ t, zyF262_150 n x3 x4 x5 i s = some (x5, t) ∧ t.1 = s.1 ∧ t.2.2 = s.2.2 ∧ (∀ c, c ≠ 62 → t.2.1 c = s.2.1 c) ∧ ∀ j, t.2.1 62 j = if 60 * d + a + k ≤ j ∧ j < 60 * d + a + m then s.2.1 63 (j - (60 * d + a)) else s.2.1 62 j
  | 0, k, i, s, hk, hn, hi => by omega
  | n + 1, k, i, s, hk, hn, hi => by
    have em : ((60 : Int32) * x3).toInt = 60 * (d : Int) := by rw [zq_mul (by rw [zq_l60, hx3]; omega) (by rw [zq_l60, hx3]; omega), zq_l60, hx3]
    have ea : ((60 : Int32) * x3 + x4).toInt = 60 * (d : Int) + a := by rw [zq_add (by rw [em]; omega) (by rw [em]; omega), em, hx4]
    have eb : ((60 : Int32) * x3 + x4 + i).toInt = 60 * (d : Int) + a + k := by rw [zq_add (by rw [ea]; omega) (by rw [ea]; omega), ea, hi]
    show ∃ t, zyF262_150b (zyF262_150 n) x3 x4 x5 i s = some (x5, t) ∧ _
    unfold zyF262_150b
    by_cases h : k = m
    · rw [if_pos (by rw [Int32.le_iff_toInt_le]; omega)]
      refine ⟨s, rfl, rfl, rfl, fun _ _ => rfl, fun j => ?_⟩
      rw [if_neg (by omega)]
    · have ei : i.toNatClampNeg = k := by rw [zq_ix]; omega
      have eib : ((60 : Int32) * x3 + x4 + i).toNatClampNeg = 60 * d + a + k := by rw [zq_ix]; omega
      rw [if_neg (by rw [Int32.le_iff_toInt_le]; omega), if_pos (zq_in.mpr ⟨by omega, by omega⟩), if_pos (zq_in.mpr ⟨by omega, by omega⟩), ei, eib]
      obtain ⟨t, q1, q2, q3, q4, q5⟩ := zl_150 x3 x4 x5 hx3 hd hx4 hx5 hm n (k + 1) (i + 1) (zy_uj s 62 (60 * d + a + k) (s.2.1 63 k)) (by omega) (by omega) (by rw [zq_add (by rw [zq_l1]; omega) (by rw [zq_l1]; omega), zq_l1, hi]; omega)
      refine ⟨t, q1, q2, q3, fun c hc => by rw [q4 c hc]; funext b; rw [zy_uj_at, if_neg (fun w => hc w.1)], fun j => ?_⟩
      have z1 : ∀ b', (zy_uj s 62 (60 * d + a + k) (s.2.1 63 k)).2.1 63 b' = s.2.1 63 b' := fun b' => by rw [zy_uj_at, if_neg (fun w => absurd w.1 (by decide))]
      rw [q5 j, z1, zy_uj_at]
      by_cases h1 : 60 * d + a + k ≤ j ∧ j < 60 * d + a + m
      · rw [if_pos h1]
        by_cases h2 : j = 60 * d + a + k
        · rw [if_neg (by omega), if_pos ⟨rfl, h2⟩, show j - (60 * d + a) = k by omega]
        · rw [if_pos (by omega)]
      · rw [if_neg h1, if_neg (by omega), if_neg (by omega)]
theorem zl_113 (x1 x2 x3 x4 x5 : Int32) {e b m : Nat} (hx1 : x1.toInt = (e : Int)) (he : e < 6) (hx2 : x2.toInt = (b : Int)) (hx5 : x5.toInt = (m : Int)) (hm : b + m ≤ 60) : ∀ (n k : Nat) (i : Int32) (s : zy_S), k ≤ m → m - k < n → i.toInt = (k : Int) →
    ∃ t, zyF262_113 n x1 x2 x3 x4 x5 i s = zyF262_150 zy_fu x3 x4 x5 0 t ∧ t.1 = s.1 ∧ t.2.2 = s.2.2 ∧ (∀ c, c ≠ 63 → t.2.1 c = s.2.1 c) ∧ ∀ j, t.2.1 63 j = if k ≤ j ∧ j < m then s.2.1 62 (60 * e + b + j) else s.2.1 63 j
  | 0, k, i, s, hk, hn, hi => by omega
  | n + 1, k, i, s, hk, hn, hi => by
    have em : ((60 : Int32) * x1).toInt = 60 * (e : Int) := by rw [zq_mul (by rw [zq_l60, hx1]; omega) (by rw [zq_l60, hx1]; omega), zq_l60, hx1]
    have ea : ((60 : Int32) * x1 + x2).toInt = 60 * (e : Int) + b := by rw [zq_add (by rw [em]; omega) (by rw [em]; omega), em, hx2]
    have eb : ((60 : Int32) * x1 + x2 + i).toInt = 60 * (e : Int) + b + k := by rw [zq_add (by rw [ea]; omega) (by rw [ea]; omega), ea, hi]
    show ∃ t, zyF262_113b (zyF262_113 n) x1 x2 x3 x4 x5 i s = zyF262_150 zy_fu x3 x4 x5 0 t ∧ _
    unfold zyF262_113b
    by_cases h : k = m
    · rw [if_pos (by rw [Int32.le_iff_toInt_le]; omega)]
      refine ⟨s, rfl, rfl, rfl, fun _ _ => rfl, fun j => ?_⟩
      rw [if_neg (by omega)]
    · have ei : i.toNatClampNeg = k := by rw [zq_ix]; omega
      have eib : ((60 : Int32) * x1 + x2 + i).toNatClampNeg = 60 * e + b + k := by rw [zq_ix]; omega
      rw [if_neg (by rw [Int32.le_iff_toInt_le]; omega), if_pos (zq_in.mpr ⟨by omega, by omega⟩), if_pos (zq_in.mpr ⟨by omega, by omega⟩), ei, eib]
      obtain ⟨t, q1, q2, q3, q4, q5⟩ := zl_113 x1 x2 x3 x4 x5 hx1 he hx2 hx5 hm n (k + 1) (i + 1) (zy_uj s 63 k (s.2.1 62 (60 * e + b + k))) (by omega) (by omega) (by rw [zq_add (by rw [zq_l1]; omega) (by rw [zq_l1]; omega), zq_l1, hi]; omega)
      refine ⟨t, q1, q2, q3, fun c hc => by rw [q4 c hc]; funext b'; rw [zy_uj_at, if_neg (fun w => hc w.1)], fun j => ?_⟩
      have z1 : ∀ b', (zy_uj s 63 k (s.2.1 62 (60 * e + b + k))).2.1 62 b' = s.2.1 62 b' := fun b' => by rw [zy_uj_at, if_neg (fun w => absurd w.1 (by decide))]
      rw [q5 j, z1, zy_uj_at]
      by_cases h1 : k ≤ j ∧ j < m
      · rw [if_pos h1]
        by_cases h2 : j = k
        · rw [if_neg (by omega), if_pos ⟨rfl, h2⟩, h2]
        · rw [if_pos (by omega)]
      · rw [if_neg h1, if_neg (by omega), if_neg (by omega)]

theorem zop_shift (x1 x2 x3 x4 x5 : Int32) {s : zy_S} (h : zI s) : ∃ r s1 s2, zyF171 x1 x2 x3 x4 x5 s = some (r, s1) ∧ zyF262 x1 x2 x3 x4 x5 s1 = some (r, s2) ∧ zI s2 := by
  obtain ⟨hw, hg, h1, h2, h3, h4, h5, h6, h7, h8, h9, h10, h11, h12, h13, h14, h15, h16, h17, h18, h19, h20, h21⟩ := id h
  obtain ⟨e14, nb0, nb1⟩ := id h14
  by_cases h1 : 0 ≤ x1.toInt ∧ x1.toInt ≤ 5
  · by_cases h3 : 0 ≤ x3.toInt ∧ x3.toInt ≤ 5
    · obtain ⟨hin1, hdl1, hxd1⟩ := zx6 h1
      obtain ⟨hin3, hdl3, hxd3⟩ := zx6 h3
      obtain ⟨d1, hd1⟩ : ∃ d, d = x1.toNatClampNeg := ⟨_, rfl⟩
      obtain ⟨d3, hd3⟩ : ∃ d, d = x3.toNatClampNeg := ⟨_, rfl⟩
      rw [← hd1] at hdl1 hxd1
      rw [← hd3] at hdl3 hxd3
      obtain ⟨a1, hl1, a2⟩ := h20 d1 hdl1
      obtain ⟨c1, hl3, c2⟩ := h20 d3 hdl3
      obtain ⟨n10, n11⟩ := id hl1
      obtain ⟨n30, n31⟩ := id hl3
      have q1 : ((s.1 (zy_sh d1) 1).toInt = -1 ∧ (s.1 (zy_sh d1) 2).toInt = -1 ∧ (s.1 60 d1).toInt = -1) ∨ (0 ≤ (s.1 (zy_sh d1) 1).toInt ∧ (s.1 (zy_sh d1) 2).toInt = -1 ∧ 0 ≤ (s.1 60 d1).toInt ∧ (s.1 60 d1).toInt < 50) ∨ (0 ≤ (s.1 (zy_sh d1) 2).toInt ∧ (s.1 60 d1).toInt = 50 + (s.1 (zy_sh d1) 2).toInt) := by
        rcases a2 with ⟨t, hb, b0, b1, hn0⟩ | ⟨⟨t0, t1⟩, b, hh⟩
        · rw [← hb]; omega
        · omega
      have q3 : ((s.1 (zy_sh d3) 1).toInt = -1 ∧ (s.1 (zy_sh d3) 2).toInt = -1 ∧ (s.1 60 d3).toInt = -1) ∨ (0 ≤ (s.1 (zy_sh d3) 1).toInt ∧ (s.1 (zy_sh d3) 2).toInt = -1 ∧ 0 ≤ (s.1 60 d3).toInt ∧ (s.1 60 d3).toInt < 50) ∨ (0 ≤ (s.1 (zy_sh d3) 2).toInt ∧ (s.1 60 d3).toInt = 50 + (s.1 (zy_sh d3) 2).toInt) := by
        rcases c2 with ⟨t, hb, b0, b1, hn0⟩ | ⟨⟨t0, t1⟩, b, hh⟩
        · rw [← hb]; omega
        · omega
      clear a2 c2
      by_cases k1 : (s.1 60 d1).toInt < 0
      · refine ⟨-11, s, s, ?_, ?_, h⟩
        · unfold zyF171
          simp only [zys18, zys19, zys20, zys21, zys23 _ _ _ s hl1, zys23 _ _ _ s hl3, ← hd1, ← hd3, zq_bind, zqb_n0, zqb_e0, decide_eq_true_eq, decide_eq_false_iff_not]
          rw [if_neg (not_not_intro h1), if_pos h3, if_pos hin1, if_pos hw, if_pos hin3, if_pos hw, if_pos (by omega)]
        · unfold zyF262
          simp only [zqb_t0, Classical.not_not, Bool.not_eq_false, zys182, ← hd1, ← hd3, zq_bind, zqb_n0, zqb_e0, decide_eq_true_eq, decide_eq_false_iff_not, Int32.lt_iff_toInt_lt, Int32.le_iff_toInt_le, zq_l0, zq_l50, zq_eq]
          rw [if_neg (not_not_intro h1), if_pos h3, if_pos hin1, if_pos k1]
      by_cases k3 : (s.1 60 d3).toInt < 0
      · refine ⟨-11, s, s, ?_, ?_, h⟩
        · unfold zyF171
          simp only [zys18, zys19, zys20, zys21, zys23 _ _ _ s hl1, zys23 _ _ _ s hl3, ← hd1, ← hd3, zq_bind, zqb_n0, zqb_e0, decide_eq_true_eq, decide_eq_false_iff_not]
          rw [if_neg (not_not_intro h1), if_pos h3, if_pos hin1, if_pos hw, if_pos hin3, if_pos hw, if_neg (by omega), if_neg (by omega)]
        · unfold zyF262
          simp only [zqb_t0, Classical.not_not, Bool.not_eq_false, zys182, ← hd1, ← hd3, zq_bind, zqb_n0, zqb_e0, decide_eq_true_eq, decide_eq_false_iff_not, Int32.lt_iff_toInt_lt, Int32.le_iff_toInt_le, zq_l0, zq_l50, zq_eq]
          rw [if_neg (not_not_intro h1), if_pos h3, if_pos hin1, if_neg k1, if_pos hin3, if_neg (by omega)]
      by_cases k2 : (s.1 60 d1).toInt < 50
      · refine ⟨-12, s, s, ?_, ?_, h⟩
        · unfold zyF171
          simp only [zys18, zys19, zys20, zys21, zys23 _ _ _ s hl1, zys23 _ _ _ s hl3, ← hd1, ← hd3, zq_bind, zqb_n0, zqb_e0, decide_eq_true_eq, decide_eq_false_iff_not]
          rw [if_neg (not_not_intro h1), if_pos h3, if_pos hin1, if_pos hw, if_pos hin3, if_pos hw, if_neg (by omega), if_pos (by omega), if_pos (by omega)]
        · unfold zyF262
          simp only [zqb_t0, Classical.not_not, Bool.not_eq_false, zys182, ← hd1, ← hd3, zq_bind, zqb_n0, zqb_e0, decide_eq_true_eq, decide_eq_false_iff_not, Int32.lt_iff_toInt_lt, Int32.le_iff_toInt_le, zq_l0, zq_l50, zq_eq]
          rw [if_neg (not_not_intro h1), if_pos h3, if_pos hin1, if_neg k1, if_pos hin3, if_pos (by omega), if_pos hin1, if_pos k2]
      by_cases k4 : (s.1 60 d1).toInt = (s.1 60 d3).toInt
      · by_cases kn : x5.toInt < 0
        · refine ⟨-13, s, s, ?_, ?_, h⟩
          · unfold zyF171
            simp only [zys18, zys19, zys20, zys21, zys23 _ _ _ s hl1, zys23 _ _ _ s hl3, ← hd1, ← hd3, zq_bind, zqb_n0, zqb_e0, decide_eq_true_eq, decide_eq_false_iff_not]
            rw [if_neg (not_not_intro h1), if_pos h3, if_pos hin1, if_pos hw, if_pos hin3, if_pos hw, if_neg (by omega), if_pos (by omega), if_neg (by omega), if_pos (by omega), if_pos (by omega)]
          · unfold zyF262
            simp only [zqb_t0, Classical.not_not, Bool.not_eq_false, zys182, ← hd1, ← hd3, zq_bind, zqb_n0, zqb_e0, decide_eq_true_eq, decide_eq_false_iff_not, Int32.lt_iff_toInt_lt, Int32.le_iff_toInt_le, zq_l0, zq_l50, zq_eq]
            rw [if_neg (not_not_intro h1), if_pos h3, if_pos hin1, if_neg k1, if_pos hin3, if_pos (by omega), if_pos hin1, if_neg k2, if_pos hin1, if_pos hin3, if_pos k4, if_pos kn]
        by_cases ki : x2.toInt < 0
        · refine ⟨-13, s, s, ?_, ?_, h⟩
          · unfold zyF171
            simp only [zys18, zys19, zys20, zys21, zys23 _ _ _ s hl1, zys23 _ _ _ s hl3, ← hd1, ← hd3, zq_bind, zqb_n0, zqb_e0, decide_eq_true_eq, decide_eq_false_iff_not]
            rw [if_neg (not_not_intro h1), if_pos h3, if_pos hin1, if_pos hw, if_pos hin3, if_pos hw, if_neg (by omega), if_pos (by omega), if_neg (by omega), if_pos (by omega), if_pos (by omega)]
          · unfold zyF262
            simp only [zqb_t0, Classical.not_not, Bool.not_eq_false, zys182, ← hd1, ← hd3, zq_bind, zqb_n0, zqb_e0, decide_eq_true_eq, decide_eq_false_iff_not, Int32.lt_iff_toInt_lt, Int32.le_iff_toInt_le, zq_l0, zq_l50, zq_eq]
            rw [if_neg (not_not_intro h1), if_pos h3, if_pos hin1, if_neg k1, if_pos hin3, if_pos (by omega), if_pos hin1, if_neg k2, if_pos hin1, if_pos hin3, if_pos k4, if_neg kn, if_pos ki]
        by_cases kj : x4.toInt < 0
        · by_cases rr : 0 ≤ x2.toInt ∧ 0 ≤ x5.toInt ∧ x2.toInt ≤ (s.1 (zy_sh d1) 3).toInt ∧ x5.toInt ≤ (s.1 (zy_sh d1) 3).toInt - x2.toInt
          · refine ⟨-13, s, s, ?_, ?_, h⟩
            · unfold zyF171
              simp only [zys18, zys19, zys20, zys21, zys23 _ _ _ s hl1, zys23 _ _ _ s hl3, ← hd1, ← hd3, zq_bind, zqb_n0, zqb_e0, decide_eq_true_eq, decide_eq_false_iff_not]
              rw [if_neg (not_not_intro h1), if_pos h3, if_pos hin1, if_pos hw, if_pos hin3, if_pos hw, if_neg (by omega), if_pos (by omega), if_neg (by omega), if_pos (by omega), if_neg (by omega), if_neg (by omega)]
            · unfold zyF262
              simp only [zqb_t0, Classical.not_not, Bool.not_eq_false, zys182, ← hd1, ← hd3, zq_bind, zqb_n0, zqb_e0, decide_eq_true_eq, decide_eq_false_iff_not, Int32.lt_iff_toInt_lt, Int32.le_iff_toInt_le, zq_l0, zq_l50, zq_eq]
              rw [if_neg (not_not_intro h1), if_pos h3, if_pos hin1, if_neg k1, if_pos hin3, if_pos (by omega), if_pos hin1, if_neg k2, if_pos hin1, if_pos hin3, if_pos k4, if_neg kn, if_neg ki, if_pos kj]
          · refine ⟨-13, s, s, ?_, ?_, h⟩
            · unfold zyF171
              simp only [zys18, zys19, zys20, zys21, zys23 _ _ _ s hl1, zys23 _ _ _ s hl3, ← hd1, ← hd3, zq_bind, zqb_n0, zqb_e0, decide_eq_true_eq, decide_eq_false_iff_not]
              rw [if_neg (not_not_intro h1), if_pos h3, if_pos hin1, if_pos hw, if_pos hin3, if_pos hw, if_neg (by omega), if_pos (by omega), if_neg (by omega), if_pos (by omega), if_pos rr]
            · unfold zyF262
              simp only [zqb_t0, Classical.not_not, Bool.not_eq_false, zys182, ← hd1, ← hd3, zq_bind, zqb_n0, zqb_e0, decide_eq_true_eq, decide_eq_false_iff_not, Int32.lt_iff_toInt_lt, Int32.le_iff_toInt_le, zq_l0, zq_l50, zq_eq]
              rw [if_neg (not_not_intro h1), if_pos h3, if_pos hin1, if_neg k1, if_pos hin3, if_pos (by omega), if_pos hin1, if_neg k2, if_pos hin1, if_pos hin3, if_pos k4, if_neg kn, if_neg ki, if_pos kj]
        have e1 : (s.1 61 d1 - x5).toInt = (s.1 (zy_sh d1) 3).toInt - x5.toInt := by
          rw [← a1]
          exact zq_sub (by have := zq_hi x5; omega) (by omega)
        have e3 : (s.1 61 d3 - x5).toInt = (s.1 (zy_sh d3) 3).toInt - x5.toInt := by
          rw [← c1]
          exact zq_sub (by have := zq_hi x5; omega) (by omega)
        by_cases r1 : (s.1 (zy_sh d1) 3).toInt - x5.toInt < x2.toInt
        · refine ⟨-13, s, s, ?_, ?_, h⟩
          · unfold zyF171
            simp only [zys18, zys19, zys20, zys21, zys23 _ _ _ s hl1, zys23 _ _ _ s hl3, ← hd1, ← hd3, zq_bind, zqb_n0, zqb_e0, decide_eq_true_eq, decide_eq_false_iff_not]
            rw [if_neg (not_not_intro h1), if_pos h3, if_pos hin1, if_pos hw, if_pos hin3, if_pos hw, if_neg (by omega), if_pos (by omega), if_neg (by omega), if_pos (by omega), if_pos (by omega)]
          · unfold zyF262
            simp only [e1, e3, zqb_t0, Classical.not_not, Bool.not_eq_false, zys182, ← hd1, ← hd3, zq_bind, zqb_n0, zqb_e0, decide_eq_true_eq, decide_eq_false_iff_not, Int32.lt_iff_toInt_lt, Int32.le_iff_toInt_le, zq_l0, zq_l50, zq_eq]
            rw [if_neg (not_not_intro h1), if_pos h3, if_pos hin1, if_neg k1, if_pos hin3, if_pos (by omega), if_pos hin1, if_neg k2, if_pos hin1, if_pos hin3, if_pos k4, if_neg kn, if_neg ki, if_neg kj, if_pos hin1, if_pos r1]
        by_cases r3 : x4.toInt ≤ (s.1 (zy_sh d3) 3).toInt - x5.toInt
        · have f2 : (x2.toNatClampNeg : Int) = x2.toInt := by rw [zq_ix]; omega
          have f4 : (x4.toNatClampNeg : Int) = x4.toInt := by rw [zq_ix]; omega
          have f5 : (x5.toNatClampNeg : Int) = x5.toInt := by rw [zq_ix]; omega
          have hcp : zy_cpB x2 x4 x5 60 60 = true := decide_eq_true ⟨by omega, by omega, by omega, by omega, by omega⟩
          obtain ⟨s1, hs1⟩ : ∃ s1, s1 = zy_ub s (zy_sh d3 + 1) (va_cpy (s.2.1 (zy_sh d1 + 1)) (s.2.1 (zy_sh d3 + 1)) x2.toNatClampNeg x4.toNatClampNeg x5.toNatClampNeg) := ⟨_, rfl⟩
          have o1 : s1.1 = s.1 := by rw [hs1]; rfl
          obtain ⟨v, v1, v2, v3, v4, v5⟩ := zl_113 x1 x2 x3 x4 x5 (e := d1) (b := x2.toNatClampNeg) (m := x5.toNatClampNeg) hxd1 hdl1 f2.symm f5.symm (by omega) zy_fu 0 0 s1 (by omega) (by unfold zy_fu; omega) rfl
          obtain ⟨t, t1, t2, t3, t4, t5⟩ := zl_150 x3 x4 x5 (d := d3) (a := x4.toNatClampNeg) (m := x5.toNatClampNeg) hxd3 hdl3 f4.symm f5.symm (by omega) zy_fu 0 0 v (by omega) (by unfold zy_fu; omega) rfl
          have n62 : ∀ d', d' < 6 → zy_sh d' + 1 ≠ 62 ∧ zy_sh d' + 1 ≠ 63 := fun d' g => by unfold zy_sh; omega
          have s62 : ∀ j, s1.2.1 62 j = s.2.1 62 j := fun j => by rw [hs1, zy_ub_at, if_neg (n62 d3 hdl3).1.symm]
          have tj : ∀ j, t.2.1 62 j = if 60 * d3 + x4.toNatClampNeg ≤ j ∧ j < 60 * d3 + x4.toNatClampNeg + x5.toNatClampNeg then s.2.1 62 (60 * d1 + x2.toNatClampNeg + (j - (60 * d3 + x4.toNatClampNeg))) else s.2.1 62 j := by
            intro j
            rw [t5, v5]
            by_cases g : 60 * d3 + x4.toNatClampNeg ≤ j ∧ j < 60 * d3 + x4.toNatClampNeg + x5.toNatClampNeg
            · rw [if_pos (by omega), if_pos (by omega), if_pos g, s62]
            · rw [if_neg (by omega), if_neg g, v4 62 (by decide), s62]
          have tc : ∀ c, c ≠ 62 → c ≠ 63 → t.2.1 c = s1.2.1 c := fun c g1 g2 => by rw [t4 c g1, v4 c g2]
          refine ⟨x5, s1, t, ?_, ?_, ?_⟩
          · unfold zyF171
            simp only [zys18, zys19, zys20, zys21, zys23 _ _ _ s hl1, zys23 _ _ _ s hl3, ← hd1, ← hd3, zq_bind, zqb_n0, zqb_e0, decide_eq_true_eq, decide_eq_false_iff_not]
            rw [if_neg (not_not_intro h1), if_pos h3, if_pos hin1, if_pos hw, if_pos hin3, if_pos hw, if_neg (by omega), if_pos (by omega), if_neg (by omega), if_pos (by omega), if_neg (by omega), if_pos (by omega), if_pos hcp, ← hs1]
          · unfold zyF262
            simp only [o1, e1, e3, zqb_t0, Classical.not_not, Bool.not_eq_false, zys182, ← hd1, ← hd3, zq_bind, zqb_n0, zqb_e0, decide_eq_true_eq, decide_eq_false_iff_not, Int32.lt_iff_toInt_lt, Int32.le_iff_toInt_le, zq_l0, zq_l50, zq_eq]
            rw [if_neg (not_not_intro h1), if_pos h3, if_pos hin1, if_neg k1, if_pos hin3, if_pos (by omega), if_pos hin1, if_neg k2, if_pos hin1, if_pos hin3, if_pos k4, if_neg kn, if_neg ki, if_neg kj, if_pos hin1, if_neg r1, if_pos hin3, if_pos r3]
            exact v1.trans t1
          · have te : t.1 = s.1 := by rw [t2, v2, o1]
            refine zI_sh1 h hdl3 ?_ ?_ (fun c k _ _ _ => by rw [te]) (by rw [te]; exact h20 d3 hdl3) ?_ ?_ ?_
            · unfold zRg
              rw [te]
              exact hg
            · rw [t3, v3, hs1]; rfl
            · intro d' j hd' g
              rw [tc _ (n62 d' hd').1 (n62 d' hd').2, hs1, zy_ub_at, if_neg (fun u => g (zsh_inj (by omega)))]
            · intro d' j hd' g hj
              rw [tj, if_neg (by omega)]
            · intro j hj
              rw [te, tc _ (n62 d3 hdl3).1 (n62 d3 hdl3).2, hs1, zy_ub_at, if_pos rfl, tj]
              unfold va_cpy
              by_cases g : x4.toNatClampNeg ≤ j ∧ j < x4.toNatClampNeg + x5.toNatClampNeg
              · obtain ⟨w1, w2⟩ := h21 d1 hdl1 (x2.toNatClampNeg + (j - x4.toNatClampNeg)) (by omega)
                have eT : s.1 (zy_sh d3) 2 = s.1 (zy_sh d1) 2 := zq_ext (by omega)
                rw [if_pos g, if_pos (by omega), eT]
                refine ⟨?_, w2⟩
                rw [w1, show 60 * d1 + (x2.toNatClampNeg + (j - x4.toNatClampNeg)) = 60 * d1 + x2.toNatClampNeg + (60 * d3 + j - (60 * d3 + x4.toNatClampNeg)) by omega]
              · obtain ⟨w1, w2⟩ := h21 d3 hdl3 j hj
                rw [if_neg g, if_neg (by omega)]
                exact ⟨w1, w2⟩
        · refine ⟨-13, s, s, ?_, ?_, h⟩
          · unfold zyF171
            simp only [zys18, zys19, zys20, zys21, zys23 _ _ _ s hl1, zys23 _ _ _ s hl3, ← hd1, ← hd3, zq_bind, zqb_n0, zqb_e0, decide_eq_true_eq, decide_eq_false_iff_not]
            rw [if_neg (not_not_intro h1), if_pos h3, if_pos hin1, if_pos hw, if_pos hin3, if_pos hw, if_neg (by omega), if_pos (by omega), if_neg (by omega), if_pos (by omega), if_neg (by omega), if_neg (by omega)]
          · unfold zyF262
            simp only [e1, e3, zqb_t0, Classical.not_not, Bool.not_eq_false, zys182, ← hd1, ← hd3, zq_bind, zqb_n0, zqb_e0, decide_eq_true_eq, decide_eq_false_iff_not, Int32.lt_iff_toInt_lt, Int32.le_iff_toInt_le, zq_l0, zq_l50, zq_eq]
            rw [if_neg (not_not_intro h1), if_pos h3, if_pos hin1, if_neg k1, if_pos hin3, if_pos (by omega), if_pos hin1, if_neg k2, if_pos hin1, if_pos hin3, if_pos k4, if_neg kn, if_neg ki, if_neg kj, if_pos hin1, if_neg r1, if_pos hin3, if_neg r3]
      · refine ⟨-12, s, s, ?_, ?_, h⟩
        · unfold zyF171
          simp only [zys18, zys19, zys20, zys21, zys23 _ _ _ s hl1, zys23 _ _ _ s hl3, ← hd1, ← hd3, zq_bind, zqb_n0, zqb_e0, decide_eq_true_eq, decide_eq_false_iff_not]
          rw [if_neg (not_not_intro h1), if_pos h3, if_pos hin1, if_pos hw, if_pos hin3, if_pos hw, if_neg (by omega), if_pos (by omega), if_neg (by omega), if_neg (by omega)]
        · unfold zyF262
          simp only [zqb_t0, Classical.not_not, Bool.not_eq_false, zys182, ← hd1, ← hd3, zq_bind, zqb_n0, zqb_e0, decide_eq_true_eq, decide_eq_false_iff_not, Int32.lt_iff_toInt_lt, Int32.le_iff_toInt_le, zq_l0, zq_l50, zq_eq]
          rw [if_neg (not_not_intro h1), if_pos h3, if_pos hin1, if_neg k1, if_pos hin3, if_pos (by omega), if_pos hin1, if_neg k2, if_pos hin1, if_pos hin3, if_neg k4]
    · refine ⟨-1, s, s, ?_, ?_, h⟩
      · unfold zyF171
        simp only [zys18, zq_bind, zqb_n0, zqb_e0, decide_eq_true_eq, decide_eq_false_iff_not]
        rw [if_neg (not_not_intro h1), if_neg h3]
      · unfold zyF262
        simp only [zqb_t0, Classical.not_not, Bool.not_eq_false, zys182, zq_bind, zqb_n0, zqb_e0, decide_eq_true_eq, decide_eq_false_iff_not, Int32.lt_iff_toInt_lt, Int32.le_iff_toInt_le, zq_l0, zq_l50, zq_eq]
        rw [if_neg (not_not_intro h1), if_neg h3]
  · refine ⟨-1, s, s, ?_, ?_, h⟩
    · unfold zyF171
      simp only [zys18, zq_bind, zqb_n0, zqb_e0, decide_eq_true_eq, decide_eq_false_iff_not]
      rw [if_pos h1]
    · unfold zyF262
      simp only [zqb_t0, Classical.not_not, Bool.not_eq_false, zys182, zq_bind, zqb_n0, zqb_e0, decide_eq_true_eq, decide_eq_false_iff_not, Int32.lt_iff_toInt_lt, Int32.le_iff_toInt_le, zq_l0, zq_l50, zq_eq]
      rw [if_pos h1]
end
section
/-! PART 46.91: acts as lists of what ran. Made by wip/v6/gen_act.py. -/
/-- the counter at c, f and the row t say that just the bodies L have run -/
def zaN (c f t : Nat) (L : List Int32) (s : zy_S) : zy_S := zy_up (zy_ua s t (fun j => (L[j]?).getD (s.1 t j))) c f (Int32.ofNat L.length)
theorem zaN_at {c f t a b : Nat} {L : List Int32} {s : zy_S} : (zaN c f t L s).1 a b = if a = c ∧ b = f then Int32.ofNat L.length else if a = t then (L[b]?).getD (s.1 t b) else s.1 a b := by
  unfold zaN
  rw [zy_up_at, zy_ua_at]
theorem zaN_nil (c f t : Nat) (s : zy_S) : zaN c f t [] s = zy_up s c f 0 := by
  refine Prod.ext (funext fun a => funext fun b => ?_) rfl
  rw [zaN_at, zy_up_at]
  by_cases h1 : a = c ∧ b = f
  · rw [if_pos h1, if_pos h1]
    rfl
  · rw [if_neg h1, if_neg h1]
    by_cases h2 : a = t
    · rw [if_pos h2, h2]
      rfl
    · rw [if_neg h2]
theorem zaN_up {c f t : Nat} {L : List Int32} {s : zy_S} (v : Int32) (hL : L.length < 24) : zy_up (zy_up (zaN c f t L s) t (Int32.ofNat L.length).toNatClampNeg v) c f (Int32.ofNat L.length + 1) = zaN c f t (L ++ [v]) s := by
  refine Prod.ext (funext fun a => funext fun b => ?_) rfl
  have nl : (Int32.ofNat L.length).toNatClampNeg = L.length := by
    rw [zq_ix, zN_toInt (by omega)]
    omega
  rw [zy_up_at, zy_up_at, zaN_at, zaN_at, nl]
  by_cases h1 : a = c ∧ b = f
  · rw [if_pos h1, if_pos h1]
    refine zq_ext ?_
    rw [zq_add (by rw [zN_toInt (by omega), zq_l1]; omega) (by rw [zN_toInt (by omega), zq_l1]; omega), zN_toInt (by omega), zq_l1, zN_toInt (by rw [List.length_append, List.length_singleton]; omega), List.length_append, List.length_singleton]
    omega
  · rw [if_neg h1, if_neg h1, if_neg h1]
    by_cases h2 : a = t ∧ b = L.length
    · rw [if_pos h2, if_pos h2.1, h2.2, List.getElem?_append_right (Nat.le_refl _), Nat.sub_self]
      rfl
    · rw [if_neg h2]
      by_cases h3 : a = t
      · rw [if_pos h3, if_pos h3]
        have hb : b ≠ L.length := fun e => h2 ⟨h3, e⟩
        rcases Nat.lt_or_ge b L.length with g | g
        · rw [List.getElem?_append_left g]
        · rw [List.getElem?_eq_none g, List.getElem?_eq_none (by rw [List.length_append, List.length_singleton]; omega)]
      · rw [if_neg h3, if_neg h3]
theorem zaN_sh {c f t : Nat} {L : List Int32} {s : zy_S} {d j : Nat} (hc : c < 31 ∨ 43 ≤ c) (ht : t < 31 ∨ 43 ≤ t) (hd : d < 6) : (zaN c f t L s).1 (zy_sh d) j = s.1 (zy_sh d) j := by
  unfold zaN
  rw [zf_sh hc hd, zf_sha ht hd]
theorem zaN_28 {L : List Int32} {s : zy_S} (j : Nat) : (zaN 27 3 29 L s).1 28 j = s.1 28 j := rfl
theorem zaN_32 {L : List Int32} {s : zy_S} : (zaN 43 31 59 L s).1 43 32 = s.1 43 32 := rfl
theorem zaN_33 {L : List Int32} {s : zy_S} : (zaN 43 31 59 L s).1 43 33 = s.1 43 33 := rfl
theorem zaN_156 {L : List Int32} {s : zy_S} (v : Int32) (hL : L.length < 24) : zyF156 v (zaN 27 3 29 L s) = some (0, zaN 27 3 29 (L ++ [v]) s) := by
  have e : (zaN 27 3 29 L s).1 27 3 = Int32.ofNat L.length := rfl
  have n : (Int32.ofNat L.length).toInt = L.length := zN_toInt (by omega)
  unfold zyF156 zyF156_19
  rw [e, if_neg (by rw [Int32.le_iff_toInt_le, n, zq_l24]; omega), if_pos (zq_in.mpr (by rw [n]; omega)), zf_up (by decide), e, zaN_up v hL]
theorem zaN_251 {L : List Int32} {s : zy_S} (v : Int32) (hL : L.length < 24) : zyF251 v (zaN 43 31 59 L s) = some (0, zaN 43 31 59 (L ++ [v]) s) := by
  have e : (zaN 43 31 59 L s).1 43 31 = Int32.ofNat L.length := rfl
  have n : (Int32.ofNat L.length).toInt = L.length := zN_toInt (by omega)
  unfold zyF251 zyF251_19
  rw [e, if_neg (by rw [Int32.le_iff_toInt_le, n, zq_l24]; omega), if_pos (zq_in.mpr (by rw [n]; omega)), zf_up (by decide), e, zaN_up v hL]
theorem zaD {d : Int32} {h : Int} (g : 0 ≤ d.toInt ∧ d.toInt + h ≤ 40) : h ≤ 0 ∨ (d < (40 : Int32) ∧ (d + (1 : Int32)).toInt = d.toInt + 1) := by
  by_cases q : h ≤ 0
  · exact Or.inl q
  · refine Or.inr ⟨?_, ?_⟩
    · rw [Int32.lt_iff_toInt_lt, zq_l40]
      omega
    · rw [zq_add (by rw [zq_l1]; omega) (by rw [zq_l1]; omega), zq_l1]
theorem zaD' {d : Int32} {h : Int} (q : 0 < h) (g : 0 ≤ d.toInt ∧ d.toInt + h ≤ 40) : d < (40 : Int32) ∧ (d + (1 : Int32)).toInt = d.toInt + 1 := (zaD g).resolve_left (by omega)
section ZA
variable {g1 : Int32 → Int32 → Int32 → Int32 → Int32 → zy_S → Option (Int32 × zy_S)} {g2 : Int32 → Int32 → Int32 → Int32 → zy_S → Option (Int32 × zy_S)} {g3 : Int32 → Int32 → Int32 → Int32 → Int32 → zy_S → Option (Int32 × zy_S)} {x1 x2 x3 x4 x5 x6 x7 : Int32} {s : zy_S} {L : List Int32}
theorem zaq (n : Nat) : zyF155_6 g1 g2 g3 (n + 1) x1 x3 x4 x5 x6 x7 s = zyF155_6b g1 g2 g3 (zyF155_6 g1 g2 g3 n) x1 x3 x4 x5 x6 x7 s := rfl
theorem zak {k : Int32} (h0 : ¬ k < 0) (h8 : ¬ (8 : Int32) ≤ k) : zyF149 k s = some (1, s) := by
  unfold zyF149
  rw [if_neg h0, if_neg h8]
theorem zab {f : Option (Int32 × zy_S)} : (f.bind fun p => some (p.1, p.2)) = f := by
  cases f <;> rfl
theorem zav_0 : zs_abv.getD ((0 : Int32)).toNatClampNeg 0 = (-1 : Int32) := by decide +kernel
theorem zav_1 : zs_abv.getD ((1 : Int32)).toNatClampNeg 0 = (0 : Int32) := by decide +kernel
theorem zav_2 : zs_abv.getD ((2 : Int32)).toNatClampNeg 0 = (0 : Int32) := by decide +kernel
theorem zav_3 : zs_abv.getD ((3 : Int32)).toNatClampNeg 0 = (2 : Int32) := by decide +kernel
theorem zav_4 : zs_abv.getD ((4 : Int32)).toNatClampNeg 0 = (1 : Int32) := by decide +kernel
theorem zav_5 : zs_abv.getD ((5 : Int32)).toNatClampNeg 0 = (3 : Int32) := by decide +kernel
theorem zav_6 : zs_abv.getD ((6 : Int32)).toNatClampNeg 0 = (0 : Int32) := by decide +kernel
theorem zav_7 : zs_abv.getD ((7 : Int32)).toNatClampNeg 0 = (4 : Int32) := by decide +kernel
theorem zao_0_0 : zs_own.getD (((4 : Int32) * (0 : Int32)) + (0 : Int32)).toNatClampNeg 0 = (1 : Int32) ∧ zy_in (((4 : Int32) * (0 : Int32)) + (0 : Int32)) 32 = true := by decide +kernel
theorem zao_0_1 : zs_own.getD (((4 : Int32) * (0 : Int32)) + (1 : Int32)).toNatClampNeg 0 = (10 : Int32) ∧ zy_in (((4 : Int32) * (0 : Int32)) + (1 : Int32)) 32 = true := by decide +kernel
theorem zao_0_2 : zs_own.getD (((4 : Int32) * (0 : Int32)) + (2 : Int32)).toNatClampNeg 0 = (11 : Int32) ∧ zy_in (((4 : Int32) * (0 : Int32)) + (2 : Int32)) 32 = true := by decide +kernel
theorem zao_0_3 : zs_own.getD (((4 : Int32) * (0 : Int32)) + (3 : Int32)).toNatClampNeg 0 = (2 : Int32) ∧ zy_in (((4 : Int32) * (0 : Int32)) + (3 : Int32)) 32 = true := by decide +kernel
theorem zao_1_0 : zs_own.getD (((4 : Int32) * (1 : Int32)) + (0 : Int32)).toNatClampNeg 0 = (20 : Int32) ∧ zy_in (((4 : Int32) * (1 : Int32)) + (0 : Int32)) 32 = true := by decide +kernel
theorem zao_1_1 : zs_own.getD (((4 : Int32) * (1 : Int32)) + (1 : Int32)).toNatClampNeg 0 = (0 : Int32) ∧ zy_in (((4 : Int32) * (1 : Int32)) + (1 : Int32)) 32 = true := by decide +kernel
theorem zao_1_2 : zs_own.getD (((4 : Int32) * (1 : Int32)) + (2 : Int32)).toNatClampNeg 0 = (0 : Int32) ∧ zy_in (((4 : Int32) * (1 : Int32)) + (2 : Int32)) 32 = true := by decide +kernel
theorem zao_1_3 : zs_own.getD (((4 : Int32) * (1 : Int32)) + (3 : Int32)).toNatClampNeg 0 = (0 : Int32) ∧ zy_in (((4 : Int32) * (1 : Int32)) + (3 : Int32)) 32 = true := by decide +kernel
theorem zao_2_0 : zs_own.getD (((4 : Int32) * (2 : Int32)) + (0 : Int32)).toNatClampNeg 0 = (0 : Int32) ∧ zy_in (((4 : Int32) * (2 : Int32)) + (0 : Int32)) 32 = true := by decide +kernel
theorem zao_2_1 : zs_own.getD (((4 : Int32) * (2 : Int32)) + (1 : Int32)).toNatClampNeg 0 = (30 : Int32) ∧ zy_in (((4 : Int32) * (2 : Int32)) + (1 : Int32)) 32 = true := by decide +kernel
theorem zao_2_2 : zs_own.getD (((4 : Int32) * (2 : Int32)) + (2 : Int32)).toNatClampNeg 0 = (0 : Int32) ∧ zy_in (((4 : Int32) * (2 : Int32)) + (2 : Int32)) 32 = true := by decide +kernel
theorem zao_2_3 : zs_own.getD (((4 : Int32) * (2 : Int32)) + (3 : Int32)).toNatClampNeg 0 = (0 : Int32) ∧ zy_in (((4 : Int32) * (2 : Int32)) + (3 : Int32)) 32 = true := by decide +kernel
theorem zao_3_0 : zs_own.getD (((4 : Int32) * (3 : Int32)) + (0 : Int32)).toNatClampNeg 0 = (0 : Int32) ∧ zy_in (((4 : Int32) * (3 : Int32)) + (0 : Int32)) 32 = true := by decide +kernel
theorem zao_3_1 : zs_own.getD (((4 : Int32) * (3 : Int32)) + (1 : Int32)).toNatClampNeg 0 = (41 : Int32) ∧ zy_in (((4 : Int32) * (3 : Int32)) + (1 : Int32)) 32 = true := by decide +kernel
theorem zao_3_2 : zs_own.getD (((4 : Int32) * (3 : Int32)) + (2 : Int32)).toNatClampNeg 0 = (40 : Int32) ∧ zy_in (((4 : Int32) * (3 : Int32)) + (2 : Int32)) 32 = true := by decide +kernel
theorem zao_3_3 : zs_own.getD (((4 : Int32) * (3 : Int32)) + (3 : Int32)).toNatClampNeg 0 = (0 : Int32) ∧ zy_in (((4 : Int32) * (3 : Int32)) + (3 : Int32)) 32 = true := by decide +kernel
theorem zao_4_0 : zs_own.getD (((4 : Int32) * (4 : Int32)) + (0 : Int32)).toNatClampNeg 0 = (0 : Int32) ∧ zy_in (((4 : Int32) * (4 : Int32)) + (0 : Int32)) 32 = true := by decide +kernel
theorem zao_4_1 : zs_own.getD (((4 : Int32) * (4 : Int32)) + (1 : Int32)).toNatClampNeg 0 = (0 : Int32) ∧ zy_in (((4 : Int32) * (4 : Int32)) + (1 : Int32)) 32 = true := by decide +kernel
theorem zao_4_2 : zs_own.getD (((4 : Int32) * (4 : Int32)) + (2 : Int32)).toNatClampNeg 0 = (50 : Int32) ∧ zy_in (((4 : Int32) * (4 : Int32)) + (2 : Int32)) 32 = true := by decide +kernel
theorem zao_4_3 : zs_own.getD (((4 : Int32) * (4 : Int32)) + (3 : Int32)).toNatClampNeg 0 = (0 : Int32) ∧ zy_in (((4 : Int32) * (4 : Int32)) + (3 : Int32)) 32 = true := by decide +kernel
theorem zao_5_0 : zs_own.getD (((4 : Int32) * (5 : Int32)) + (0 : Int32)).toNatClampNeg 0 = (0 : Int32) ∧ zy_in (((4 : Int32) * (5 : Int32)) + (0 : Int32)) 32 = true := by decide +kernel
theorem zao_5_1 : zs_own.getD (((4 : Int32) * (5 : Int32)) + (1 : Int32)).toNatClampNeg 0 = (0 : Int32) ∧ zy_in (((4 : Int32) * (5 : Int32)) + (1 : Int32)) 32 = true := by decide +kernel
theorem zao_5_2 : zs_own.getD (((4 : Int32) * (5 : Int32)) + (2 : Int32)).toNatClampNeg 0 = (0 : Int32) ∧ zy_in (((4 : Int32) * (5 : Int32)) + (2 : Int32)) 32 = true := by decide +kernel
theorem zao_5_3 : zs_own.getD (((4 : Int32) * (5 : Int32)) + (3 : Int32)).toNatClampNeg 0 = (60 : Int32) ∧ zy_in (((4 : Int32) * (5 : Int32)) + (3 : Int32)) 32 = true := by decide +kernel
theorem zao_6_0 : zs_own.getD (((4 : Int32) * (6 : Int32)) + (0 : Int32)).toNatClampNeg 0 = (70 : Int32) ∧ zy_in (((4 : Int32) * (6 : Int32)) + (0 : Int32)) 32 = true := by decide +kernel
theorem zao_6_1 : zs_own.getD (((4 : Int32) * (6 : Int32)) + (1 : Int32)).toNatClampNeg 0 = (0 : Int32) ∧ zy_in (((4 : Int32) * (6 : Int32)) + (1 : Int32)) 32 = true := by decide +kernel
theorem zao_6_2 : zs_own.getD (((4 : Int32) * (6 : Int32)) + (2 : Int32)).toNatClampNeg 0 = (0 : Int32) ∧ zy_in (((4 : Int32) * (6 : Int32)) + (2 : Int32)) 32 = true := by decide +kernel
theorem zao_6_3 : zs_own.getD (((4 : Int32) * (6 : Int32)) + (3 : Int32)).toNatClampNeg 0 = (0 : Int32) ∧ zy_in (((4 : Int32) * (6 : Int32)) + (3 : Int32)) 32 = true := by decide +kernel
theorem zao_7_0 : zs_own.getD (((4 : Int32) * (7 : Int32)) + (0 : Int32)).toNatClampNeg 0 = (0 : Int32) ∧ zy_in (((4 : Int32) * (7 : Int32)) + (0 : Int32)) 32 = true := by decide +kernel
theorem zao_7_1 : zs_own.getD (((4 : Int32) * (7 : Int32)) + (1 : Int32)).toNatClampNeg 0 = (80 : Int32) ∧ zy_in (((4 : Int32) * (7 : Int32)) + (1 : Int32)) 32 = true := by decide +kernel
theorem zao_7_2 : zs_own.getD (((4 : Int32) * (7 : Int32)) + (2 : Int32)).toNatClampNeg 0 = (0 : Int32) ∧ zy_in (((4 : Int32) * (7 : Int32)) + (2 : Int32)) 32 = true := by decide +kernel
theorem zao_7_3 : zs_own.getD (((4 : Int32) * (7 : Int32)) + (3 : Int32)).toNatClampNeg 0 = (81 : Int32) ∧ zy_in (((4 : Int32) * (7 : Int32)) + (3 : Int32)) 32 = true := by decide +kernel
theorem zas_0_0 (hd : x5 < (40 : Int32)) (hL : L.length < 24) : zyF155_0 g1 g2 g3 x1 (0 : Int32) (0 : Int32) x4 x5 (zaN 27 3 29 L s) = g2 x1 (1 : Int32) x4 (x5 + (1 : Int32)) (zaN 27 3 29 (L ++ [(1 : Int32)]) s) := by
  show zyF155_6 g1 g2 g3 (9990 + 10) x1 (0 : Int32) x4 x5 (0 : Int32) (0 : Int32) (zaN 27 3 29 L s) = _
  rw [zaq]
  unfold zyF155_6b
  rw [if_neg (by decide), zak (by decide) (by decide), zq_bind]
  dsimp only
  rw [if_neg (by decide), if_pos zao_0_0.2, zao_0_0.1]
  rw [if_pos (by decide)]
  unfold zyF155_48
  rw [zak (by decide) (by decide), zq_bind]
  dsimp only
  rw [if_neg (by decide), if_pos hd, if_pos zao_0_0.2, zao_0_0.1, zaN_156 _ hL, zq_bind]
  dsimp only
  rw [if_pos (by decide), zav_0, if_neg (by decide), zab]
theorem zas_0_1 (hd : x5 < (40 : Int32)) (hL : L.length < 24) : zyF155_0 g1 g2 g3 x1 (0 : Int32) (1 : Int32) x4 x5 (zaN 27 3 29 L s) = g2 x1 (10 : Int32) x4 (x5 + (1 : Int32)) (zaN 27 3 29 (L ++ [(10 : Int32)]) s) := by
  show zyF155_6 g1 g2 g3 (9990 + 10) x1 (1 : Int32) x4 x5 (0 : Int32) (0 : Int32) (zaN 27 3 29 L s) = _
  rw [zaq]
  unfold zyF155_6b
  rw [if_neg (by decide), zak (by decide) (by decide), zq_bind]
  dsimp only
  rw [if_neg (by decide), if_pos zao_0_1.2, zao_0_1.1]
  rw [if_pos (by decide)]
  unfold zyF155_48
  rw [zak (by decide) (by decide), zq_bind]
  dsimp only
  rw [if_neg (by decide), if_pos hd, if_pos zao_0_1.2, zao_0_1.1, zaN_156 _ hL, zq_bind]
  dsimp only
  rw [if_pos (by decide), zav_0, if_neg (by decide), zab]
theorem zas_0_2 (hd : x5 < (40 : Int32)) (hL : L.length < 24) : zyF155_0 g1 g2 g3 x1 (0 : Int32) (2 : Int32) x4 x5 (zaN 27 3 29 L s) = g2 x1 (11 : Int32) x4 (x5 + (1 : Int32)) (zaN 27 3 29 (L ++ [(11 : Int32)]) s) := by
  show zyF155_6 g1 g2 g3 (9990 + 10) x1 (2 : Int32) x4 x5 (0 : Int32) (0 : Int32) (zaN 27 3 29 L s) = _
  rw [zaq]
  unfold zyF155_6b
  rw [if_neg (by decide), zak (by decide) (by decide), zq_bind]
  dsimp only
  rw [if_neg (by decide), if_pos zao_0_2.2, zao_0_2.1]
  rw [if_pos (by decide)]
  unfold zyF155_48
  rw [zak (by decide) (by decide), zq_bind]
  dsimp only
  rw [if_neg (by decide), if_pos hd, if_pos zao_0_2.2, zao_0_2.1, zaN_156 _ hL, zq_bind]
  dsimp only
  rw [if_pos (by decide), zav_0, if_neg (by decide), zab]
theorem zas_0_3 (hd : x5 < (40 : Int32)) (hL : L.length < 24) : zyF155_0 g1 g2 g3 x1 (0 : Int32) (3 : Int32) x4 x5 (zaN 27 3 29 L s) = g2 x1 (2 : Int32) x4 (x5 + (1 : Int32)) (zaN 27 3 29 (L ++ [(2 : Int32)]) s) := by
  show zyF155_6 g1 g2 g3 (9990 + 10) x1 (3 : Int32) x4 x5 (0 : Int32) (0 : Int32) (zaN 27 3 29 L s) = _
  rw [zaq]
  unfold zyF155_6b
  rw [if_neg (by decide), zak (by decide) (by decide), zq_bind]
  dsimp only
  rw [if_neg (by decide), if_pos zao_0_3.2, zao_0_3.1]
  rw [if_pos (by decide)]
  unfold zyF155_48
  rw [zak (by decide) (by decide), zq_bind]
  dsimp only
  rw [if_neg (by decide), if_pos hd, if_pos zao_0_3.2, zao_0_3.1, zaN_156 _ hL, zq_bind]
  dsimp only
  rw [if_pos (by decide), zav_0, if_neg (by decide), zab]
theorem zas_1_0 (hd : x5 < (40 : Int32)) (hL : L.length < 24) : zyF155_0 g1 g2 g3 x1 (1 : Int32) (0 : Int32) x4 x5 (zaN 27 3 29 L s) = g3 x1 (20 : Int32) (0 : Int32) x4 (x5 + (1 : Int32)) (zaN 27 3 29 (L ++ [(20 : Int32)]) s) := by
  show zyF155_6 g1 g2 g3 (9990 + 10) x1 (0 : Int32) x4 x5 (1 : Int32) (0 : Int32) (zaN 27 3 29 L s) = _
  rw [zaq]
  unfold zyF155_6b
  rw [if_neg (by decide), zak (by decide) (by decide), zq_bind]
  dsimp only
  rw [if_neg (by decide), if_pos zao_1_0.2, zao_1_0.1]
  rw [if_pos (by decide)]
  unfold zyF155_48
  rw [zak (by decide) (by decide), zq_bind]
  dsimp only
  rw [if_neg (by decide), if_pos hd, if_pos zao_1_0.2, zao_1_0.1, zaN_156 _ hL, zq_bind]
  dsimp only
  rw [if_pos (by decide), zav_1, if_pos (by decide), if_pos (by decide), zab]
theorem zas_1_1 (hd : x5 < (40 : Int32)) (hL : L.length < 24) : zyF155_0 g1 g2 g3 x1 (1 : Int32) (1 : Int32) x4 x5 (zaN 27 3 29 L s) = g2 x1 (10 : Int32) x4 (x5 + (1 : Int32)) (zaN 27 3 29 (L ++ [(10 : Int32)]) s) := by
  show zyF155_6 g1 g2 g3 (9990 + 10) x1 (1 : Int32) x4 x5 (1 : Int32) (0 : Int32) (zaN 27 3 29 L s) = _
  rw [zaq]
  unfold zyF155_6b
  rw [if_neg (by decide), zak (by decide) (by decide), zq_bind]
  dsimp only
  rw [if_neg (by decide), if_pos zao_1_1.2, zao_1_1.1]
  rw [if_neg (by decide), if_pos (by decide), zav_1]
  rw [zaq]
  unfold zyF155_6b
  rw [if_neg (by decide), zak (by decide) (by decide), zq_bind]
  dsimp only
  rw [if_neg (by decide), if_pos zao_0_1.2, zao_0_1.1]
  rw [if_pos (by decide)]
  unfold zyF155_48
  rw [zak (by decide) (by decide), zq_bind]
  dsimp only
  rw [if_neg (by decide), if_pos hd, if_pos zao_0_1.2, zao_0_1.1, zaN_156 _ hL, zq_bind]
  dsimp only
  rw [if_pos (by decide), zav_0, if_neg (by decide), zab]
theorem zas_1_2 (hd : x5 < (40 : Int32)) (hL : L.length < 24) : zyF155_0 g1 g2 g3 x1 (1 : Int32) (2 : Int32) x4 x5 (zaN 27 3 29 L s) = g2 x1 (11 : Int32) x4 (x5 + (1 : Int32)) (zaN 27 3 29 (L ++ [(11 : Int32)]) s) := by
  show zyF155_6 g1 g2 g3 (9990 + 10) x1 (2 : Int32) x4 x5 (1 : Int32) (0 : Int32) (zaN 27 3 29 L s) = _
  rw [zaq]
  unfold zyF155_6b
  rw [if_neg (by decide), zak (by decide) (by decide), zq_bind]
  dsimp only
  rw [if_neg (by decide), if_pos zao_1_2.2, zao_1_2.1]
  rw [if_neg (by decide), if_pos (by decide), zav_1]
  rw [zaq]
  unfold zyF155_6b
  rw [if_neg (by decide), zak (by decide) (by decide), zq_bind]
  dsimp only
  rw [if_neg (by decide), if_pos zao_0_2.2, zao_0_2.1]
  rw [if_pos (by decide)]
  unfold zyF155_48
  rw [zak (by decide) (by decide), zq_bind]
  dsimp only
  rw [if_neg (by decide), if_pos hd, if_pos zao_0_2.2, zao_0_2.1, zaN_156 _ hL, zq_bind]
  dsimp only
  rw [if_pos (by decide), zav_0, if_neg (by decide), zab]
theorem zas_1_3 (hd : x5 < (40 : Int32)) (hL : L.length < 24) : zyF155_0 g1 g2 g3 x1 (1 : Int32) (3 : Int32) x4 x5 (zaN 27 3 29 L s) = g2 x1 (2 : Int32) x4 (x5 + (1 : Int32)) (zaN 27 3 29 (L ++ [(2 : Int32)]) s) := by
  show zyF155_6 g1 g2 g3 (9990 + 10) x1 (3 : Int32) x4 x5 (1 : Int32) (0 : Int32) (zaN 27 3 29 L s) = _
  rw [zaq]
  unfold zyF155_6b
  rw [if_neg (by decide), zak (by decide) (by decide), zq_bind]
  dsimp only
  rw [if_neg (by decide), if_pos zao_1_3.2, zao_1_3.1]
  rw [if_neg (by decide), if_pos (by decide), zav_1]
  rw [zaq]
  unfold zyF155_6b
  rw [if_neg (by decide), zak (by decide) (by decide), zq_bind]
  dsimp only
  rw [if_neg (by decide), if_pos zao_0_3.2, zao_0_3.1]
  rw [if_pos (by decide)]
  unfold zyF155_48
  rw [zak (by decide) (by decide), zq_bind]
  dsimp only
  rw [if_neg (by decide), if_pos hd, if_pos zao_0_3.2, zao_0_3.1, zaN_156 _ hL, zq_bind]
  dsimp only
  rw [if_pos (by decide), zav_0, if_neg (by decide), zab]
theorem zas_2_0 (hd : x5 < (40 : Int32)) (hL : L.length < 24) : zyF155_0 g1 g2 g3 x1 (2 : Int32) (0 : Int32) x4 x5 (zaN 27 3 29 L s) = g2 x1 (1 : Int32) x4 (x5 + (1 : Int32)) (zaN 27 3 29 (L ++ [(1 : Int32)]) s) := by
  show zyF155_6 g1 g2 g3 (9990 + 10) x1 (0 : Int32) x4 x5 (2 : Int32) (0 : Int32) (zaN 27 3 29 L s) = _
  rw [zaq]
  unfold zyF155_6b
  rw [if_neg (by decide), zak (by decide) (by decide), zq_bind]
  dsimp only
  rw [if_neg (by decide), if_pos zao_2_0.2, zao_2_0.1]
  rw [if_neg (by decide), if_pos (by decide), zav_2]
  rw [zaq]
  unfold zyF155_6b
  rw [if_neg (by decide), zak (by decide) (by decide), zq_bind]
  dsimp only
  rw [if_neg (by decide), if_pos zao_0_0.2, zao_0_0.1]
  rw [if_pos (by decide)]
  unfold zyF155_48
  rw [zak (by decide) (by decide), zq_bind]
  dsimp only
  rw [if_neg (by decide), if_pos hd, if_pos zao_0_0.2, zao_0_0.1, zaN_156 _ hL, zq_bind]
  dsimp only
  rw [if_pos (by decide), zav_0, if_neg (by decide), zab]
theorem zas_2_1 (hd : x5 < (40 : Int32)) (hL : L.length < 24) : zyF155_0 g1 g2 g3 x1 (2 : Int32) (1 : Int32) x4 x5 (zaN 27 3 29 L s) = g3 x1 (30 : Int32) (0 : Int32) x4 (x5 + (1 : Int32)) (zaN 27 3 29 (L ++ [(30 : Int32)]) s) := by
  show zyF155_6 g1 g2 g3 (9990 + 10) x1 (1 : Int32) x4 x5 (2 : Int32) (0 : Int32) (zaN 27 3 29 L s) = _
  rw [zaq]
  unfold zyF155_6b
  rw [if_neg (by decide), zak (by decide) (by decide), zq_bind]
  dsimp only
  rw [if_neg (by decide), if_pos zao_2_1.2, zao_2_1.1]
  rw [if_pos (by decide)]
  unfold zyF155_48
  rw [zak (by decide) (by decide), zq_bind]
  dsimp only
  rw [if_neg (by decide), if_pos hd, if_pos zao_2_1.2, zao_2_1.1, zaN_156 _ hL, zq_bind]
  dsimp only
  rw [if_pos (by decide), zav_2, if_pos (by decide), if_pos (by decide), zab]
theorem zas_2_2 (hd : x5 < (40 : Int32)) (hL : L.length < 24) : zyF155_0 g1 g2 g3 x1 (2 : Int32) (2 : Int32) x4 x5 (zaN 27 3 29 L s) = g2 x1 (11 : Int32) x4 (x5 + (1 : Int32)) (zaN 27 3 29 (L ++ [(11 : Int32)]) s) := by
  show zyF155_6 g1 g2 g3 (9990 + 10) x1 (2 : Int32) x4 x5 (2 : Int32) (0 : Int32) (zaN 27 3 29 L s) = _
  rw [zaq]
  unfold zyF155_6b
  rw [if_neg (by decide), zak (by decide) (by decide), zq_bind]
  dsimp only
  rw [if_neg (by decide), if_pos zao_2_2.2, zao_2_2.1]
  rw [if_neg (by decide), if_pos (by decide), zav_2]
  rw [zaq]
  unfold zyF155_6b
  rw [if_neg (by decide), zak (by decide) (by decide), zq_bind]
  dsimp only
  rw [if_neg (by decide), if_pos zao_0_2.2, zao_0_2.1]
  rw [if_pos (by decide)]
  unfold zyF155_48
  rw [zak (by decide) (by decide), zq_bind]
  dsimp only
  rw [if_neg (by decide), if_pos hd, if_pos zao_0_2.2, zao_0_2.1, zaN_156 _ hL, zq_bind]
  dsimp only
  rw [if_pos (by decide), zav_0, if_neg (by decide), zab]
theorem zas_2_3 (hd : x5 < (40 : Int32)) (hL : L.length < 24) : zyF155_0 g1 g2 g3 x1 (2 : Int32) (3 : Int32) x4 x5 (zaN 27 3 29 L s) = g2 x1 (2 : Int32) x4 (x5 + (1 : Int32)) (zaN 27 3 29 (L ++ [(2 : Int32)]) s) := by
  show zyF155_6 g1 g2 g3 (9990 + 10) x1 (3 : Int32) x4 x5 (2 : Int32) (0 : Int32) (zaN 27 3 29 L s) = _
  rw [zaq]
  unfold zyF155_6b
  rw [if_neg (by decide), zak (by decide) (by decide), zq_bind]
  dsimp only
  rw [if_neg (by decide), if_pos zao_2_3.2, zao_2_3.1]
  rw [if_neg (by decide), if_pos (by decide), zav_2]
  rw [zaq]
  unfold zyF155_6b
  rw [if_neg (by decide), zak (by decide) (by decide), zq_bind]
  dsimp only
  rw [if_neg (by decide), if_pos zao_0_3.2, zao_0_3.1]
  rw [if_pos (by decide)]
  unfold zyF155_48
  rw [zak (by decide) (by decide), zq_bind]
  dsimp only
  rw [if_neg (by decide), if_pos hd, if_pos zao_0_3.2, zao_0_3.1, zaN_156 _ hL, zq_bind]
  dsimp only
  rw [if_pos (by decide), zav_0, if_neg (by decide), zab]
theorem zas_3_0 (hd : x5 < (40 : Int32)) (hL : L.length < 24) : zyF155_0 g1 g2 g3 x1 (3 : Int32) (0 : Int32) x4 x5 (zaN 27 3 29 L s) = g2 x1 (1 : Int32) x4 (x5 + (1 : Int32)) (zaN 27 3 29 (L ++ [(1 : Int32)]) s) := by
  show zyF155_6 g1 g2 g3 (9990 + 10) x1 (0 : Int32) x4 x5 (3 : Int32) (0 : Int32) (zaN 27 3 29 L s) = _
  rw [zaq]
  unfold zyF155_6b
  rw [if_neg (by decide), zak (by decide) (by decide), zq_bind]
  dsimp only
  rw [if_neg (by decide), if_pos zao_3_0.2, zao_3_0.1]
  rw [if_neg (by decide), if_pos (by decide), zav_3]
  rw [zaq]
  unfold zyF155_6b
  rw [if_neg (by decide), zak (by decide) (by decide), zq_bind]
  dsimp only
  rw [if_neg (by decide), if_pos zao_2_0.2, zao_2_0.1]
  rw [if_neg (by decide), if_pos (by decide), zav_2]
  rw [zaq]
  unfold zyF155_6b
  rw [if_neg (by decide), zak (by decide) (by decide), zq_bind]
  dsimp only
  rw [if_neg (by decide), if_pos zao_0_0.2, zao_0_0.1]
  rw [if_pos (by decide)]
  unfold zyF155_48
  rw [zak (by decide) (by decide), zq_bind]
  dsimp only
  rw [if_neg (by decide), if_pos hd, if_pos zao_0_0.2, zao_0_0.1, zaN_156 _ hL, zq_bind]
  dsimp only
  rw [if_pos (by decide), zav_0, if_neg (by decide), zab]
theorem zas_3_1 (hd : x5 < (40 : Int32)) (hL : L.length < 24) : zyF155_0 g1 g2 g3 x1 (3 : Int32) (1 : Int32) x4 x5 (zaN 27 3 29 L s) = g3 x1 (41 : Int32) (2 : Int32) x4 (x5 + (1 : Int32)) (zaN 27 3 29 (L ++ [(41 : Int32)]) s) := by
  show zyF155_6 g1 g2 g3 (9990 + 10) x1 (1 : Int32) x4 x5 (3 : Int32) (0 : Int32) (zaN 27 3 29 L s) = _
  rw [zaq]
  unfold zyF155_6b
  rw [if_neg (by decide), zak (by decide) (by decide), zq_bind]
  dsimp only
  rw [if_neg (by decide), if_pos zao_3_1.2, zao_3_1.1]
  rw [if_pos (by decide)]
  unfold zyF155_48
  rw [zak (by decide) (by decide), zq_bind]
  dsimp only
  rw [if_neg (by decide), if_pos hd, if_pos zao_3_1.2, zao_3_1.1, zaN_156 _ hL, zq_bind]
  dsimp only
  rw [if_pos (by decide), zav_3, if_pos (by decide), if_pos (by decide), zab]
theorem zas_3_2 (hd : x5 < (40 : Int32)) (hL : L.length < 24) : zyF155_0 g1 g2 g3 x1 (3 : Int32) (2 : Int32) x4 x5 (zaN 27 3 29 L s) = g3 x1 (40 : Int32) (2 : Int32) x4 (x5 + (1 : Int32)) (zaN 27 3 29 (L ++ [(40 : Int32)]) s) := by
  show zyF155_6 g1 g2 g3 (9990 + 10) x1 (2 : Int32) x4 x5 (3 : Int32) (0 : Int32) (zaN 27 3 29 L s) = _
  rw [zaq]
  unfold zyF155_6b
  rw [if_neg (by decide), zak (by decide) (by decide), zq_bind]
  dsimp only
  rw [if_neg (by decide), if_pos zao_3_2.2, zao_3_2.1]
  rw [if_pos (by decide)]
  unfold zyF155_48
  rw [zak (by decide) (by decide), zq_bind]
  dsimp only
  rw [if_neg (by decide), if_pos hd, if_pos zao_3_2.2, zao_3_2.1, zaN_156 _ hL, zq_bind]
  dsimp only
  rw [if_pos (by decide), zav_3, if_pos (by decide), if_pos (by decide), zab]
theorem zas_3_3 (hd : x5 < (40 : Int32)) (hL : L.length < 24) : zyF155_0 g1 g2 g3 x1 (3 : Int32) (3 : Int32) x4 x5 (zaN 27 3 29 L s) = g2 x1 (2 : Int32) x4 (x5 + (1 : Int32)) (zaN 27 3 29 (L ++ [(2 : Int32)]) s) := by
  show zyF155_6 g1 g2 g3 (9990 + 10) x1 (3 : Int32) x4 x5 (3 : Int32) (0 : Int32) (zaN 27 3 29 L s) = _
  rw [zaq]
  unfold zyF155_6b
  rw [if_neg (by decide), zak (by decide) (by decide), zq_bind]
  dsimp only
  rw [if_neg (by decide), if_pos zao_3_3.2, zao_3_3.1]
  rw [if_neg (by decide), if_pos (by decide), zav_3]
  rw [zaq]
  unfold zyF155_6b
  rw [if_neg (by decide), zak (by decide) (by decide), zq_bind]
  dsimp only
  rw [if_neg (by decide), if_pos zao_2_3.2, zao_2_3.1]
  rw [if_neg (by decide), if_pos (by decide), zav_2]
  rw [zaq]
  unfold zyF155_6b
  rw [if_neg (by decide), zak (by decide) (by decide), zq_bind]
  dsimp only
  rw [if_neg (by decide), if_pos zao_0_3.2, zao_0_3.1]
  rw [if_pos (by decide)]
  unfold zyF155_48
  rw [zak (by decide) (by decide), zq_bind]
  dsimp only
  rw [if_neg (by decide), if_pos hd, if_pos zao_0_3.2, zao_0_3.1, zaN_156 _ hL, zq_bind]
  dsimp only
  rw [if_pos (by decide), zav_0, if_neg (by decide), zab]
theorem zas_4_0 (hd : x5 < (40 : Int32)) (hL : L.length < 24) : zyF155_0 g1 g2 g3 x1 (4 : Int32) (0 : Int32) x4 x5 (zaN 27 3 29 L s) = g3 x1 (20 : Int32) (0 : Int32) x4 (x5 + (1 : Int32)) (zaN 27 3 29 (L ++ [(20 : Int32)]) s) := by
  show zyF155_6 g1 g2 g3 (9990 + 10) x1 (0 : Int32) x4 x5 (4 : Int32) (0 : Int32) (zaN 27 3 29 L s) = _
  rw [zaq]
  unfold zyF155_6b
  rw [if_neg (by decide), zak (by decide) (by decide), zq_bind]
  dsimp only
  rw [if_neg (by decide), if_pos zao_4_0.2, zao_4_0.1]
  rw [if_neg (by decide), if_pos (by decide), zav_4]
  rw [zaq]
  unfold zyF155_6b
  rw [if_neg (by decide), zak (by decide) (by decide), zq_bind]
  dsimp only
  rw [if_neg (by decide), if_pos zao_1_0.2, zao_1_0.1]
  rw [if_pos (by decide)]
  unfold zyF155_48
  rw [zak (by decide) (by decide), zq_bind]
  dsimp only
  rw [if_neg (by decide), if_pos hd, if_pos zao_1_0.2, zao_1_0.1, zaN_156 _ hL, zq_bind]
  dsimp only
  rw [if_pos (by decide), zav_1, if_pos (by decide), if_pos (by decide), zab]
theorem zas_4_1 (hd : x5 < (40 : Int32)) (hL : L.length < 24) : zyF155_0 g1 g2 g3 x1 (4 : Int32) (1 : Int32) x4 x5 (zaN 27 3 29 L s) = g2 x1 (10 : Int32) x4 (x5 + (1 : Int32)) (zaN 27 3 29 (L ++ [(10 : Int32)]) s) := by
  show zyF155_6 g1 g2 g3 (9990 + 10) x1 (1 : Int32) x4 x5 (4 : Int32) (0 : Int32) (zaN 27 3 29 L s) = _
  rw [zaq]
  unfold zyF155_6b
  rw [if_neg (by decide), zak (by decide) (by decide), zq_bind]
  dsimp only
  rw [if_neg (by decide), if_pos zao_4_1.2, zao_4_1.1]
  rw [if_neg (by decide), if_pos (by decide), zav_4]
  rw [zaq]
  unfold zyF155_6b
  rw [if_neg (by decide), zak (by decide) (by decide), zq_bind]
  dsimp only
  rw [if_neg (by decide), if_pos zao_1_1.2, zao_1_1.1]
  rw [if_neg (by decide), if_pos (by decide), zav_1]
  rw [zaq]
  unfold zyF155_6b
  rw [if_neg (by decide), zak (by decide) (by decide), zq_bind]
  dsimp only
  rw [if_neg (by decide), if_pos zao_0_1.2, zao_0_1.1]
  rw [if_pos (by decide)]
  unfold zyF155_48
  rw [zak (by decide) (by decide), zq_bind]
  dsimp only
  rw [if_neg (by decide), if_pos hd, if_pos zao_0_1.2, zao_0_1.1, zaN_156 _ hL, zq_bind]
  dsimp only
  rw [if_pos (by decide), zav_0, if_neg (by decide), zab]
theorem zas_4_2 (hd : x5 < (40 : Int32)) (hL : L.length < 24) : zyF155_0 g1 g2 g3 x1 (4 : Int32) (2 : Int32) x4 x5 (zaN 27 3 29 L s) = g3 x1 (50 : Int32) (1 : Int32) x4 (x5 + (1 : Int32)) (zaN 27 3 29 (L ++ [(50 : Int32)]) s) := by
  show zyF155_6 g1 g2 g3 (9990 + 10) x1 (2 : Int32) x4 x5 (4 : Int32) (0 : Int32) (zaN 27 3 29 L s) = _
  rw [zaq]
  unfold zyF155_6b
  rw [if_neg (by decide), zak (by decide) (by decide), zq_bind]
  dsimp only
  rw [if_neg (by decide), if_pos zao_4_2.2, zao_4_2.1]
  rw [if_pos (by decide)]
  unfold zyF155_48
  rw [zak (by decide) (by decide), zq_bind]
  dsimp only
  rw [if_neg (by decide), if_pos hd, if_pos zao_4_2.2, zao_4_2.1, zaN_156 _ hL, zq_bind]
  dsimp only
  rw [if_pos (by decide), zav_4, if_pos (by decide), if_pos (by decide), zab]
theorem zas_4_3 (hd : x5 < (40 : Int32)) (hL : L.length < 24) : zyF155_0 g1 g2 g3 x1 (4 : Int32) (3 : Int32) x4 x5 (zaN 27 3 29 L s) = g2 x1 (2 : Int32) x4 (x5 + (1 : Int32)) (zaN 27 3 29 (L ++ [(2 : Int32)]) s) := by
  show zyF155_6 g1 g2 g3 (9990 + 10) x1 (3 : Int32) x4 x5 (4 : Int32) (0 : Int32) (zaN 27 3 29 L s) = _
  rw [zaq]
  unfold zyF155_6b
  rw [if_neg (by decide), zak (by decide) (by decide), zq_bind]
  dsimp only
  rw [if_neg (by decide), if_pos zao_4_3.2, zao_4_3.1]
  rw [if_neg (by decide), if_pos (by decide), zav_4]
  rw [zaq]
  unfold zyF155_6b
  rw [if_neg (by decide), zak (by decide) (by decide), zq_bind]
  dsimp only
  rw [if_neg (by decide), if_pos zao_1_3.2, zao_1_3.1]
  rw [if_neg (by decide), if_pos (by decide), zav_1]
  rw [zaq]
  unfold zyF155_6b
  rw [if_neg (by decide), zak (by decide) (by decide), zq_bind]
  dsimp only
  rw [if_neg (by decide), if_pos zao_0_3.2, zao_0_3.1]
  rw [if_pos (by decide)]
  unfold zyF155_48
  rw [zak (by decide) (by decide), zq_bind]
  dsimp only
  rw [if_neg (by decide), if_pos hd, if_pos zao_0_3.2, zao_0_3.1, zaN_156 _ hL, zq_bind]
  dsimp only
  rw [if_pos (by decide), zav_0, if_neg (by decide), zab]
theorem zas_5_0 (hd : x5 < (40 : Int32)) (hL : L.length < 24) : zyF155_0 g1 g2 g3 x1 (5 : Int32) (0 : Int32) x4 x5 (zaN 27 3 29 L s) = g2 x1 (1 : Int32) x4 (x5 + (1 : Int32)) (zaN 27 3 29 (L ++ [(1 : Int32)]) s) := by
  show zyF155_6 g1 g2 g3 (9990 + 10) x1 (0 : Int32) x4 x5 (5 : Int32) (0 : Int32) (zaN 27 3 29 L s) = _
  rw [zaq]
  unfold zyF155_6b
  rw [if_neg (by decide), zak (by decide) (by decide), zq_bind]
  dsimp only
  rw [if_neg (by decide), if_pos zao_5_0.2, zao_5_0.1]
  rw [if_neg (by decide), if_pos (by decide), zav_5]
  rw [zaq]
  unfold zyF155_6b
  rw [if_neg (by decide), zak (by decide) (by decide), zq_bind]
  dsimp only
  rw [if_neg (by decide), if_pos zao_3_0.2, zao_3_0.1]
  rw [if_neg (by decide), if_pos (by decide), zav_3]
  rw [zaq]
  unfold zyF155_6b
  rw [if_neg (by decide), zak (by decide) (by decide), zq_bind]
  dsimp only
  rw [if_neg (by decide), if_pos zao_2_0.2, zao_2_0.1]
  rw [if_neg (by decide), if_pos (by decide), zav_2]
  rw [zaq]
  unfold zyF155_6b
  rw [if_neg (by decide), zak (by decide) (by decide), zq_bind]
  dsimp only
  rw [if_neg (by decide), if_pos zao_0_0.2, zao_0_0.1]
  rw [if_pos (by decide)]
  unfold zyF155_48
  rw [zak (by decide) (by decide), zq_bind]
  dsimp only
  rw [if_neg (by decide), if_pos hd, if_pos zao_0_0.2, zao_0_0.1, zaN_156 _ hL, zq_bind]
  dsimp only
  rw [if_pos (by decide), zav_0, if_neg (by decide), zab]
theorem zas_5_1 (hd : x5 < (40 : Int32)) (hL : L.length < 24) : zyF155_0 g1 g2 g3 x1 (5 : Int32) (1 : Int32) x4 x5 (zaN 27 3 29 L s) = g3 x1 (41 : Int32) (2 : Int32) x4 (x5 + (1 : Int32)) (zaN 27 3 29 (L ++ [(41 : Int32)]) s) := by
  show zyF155_6 g1 g2 g3 (9990 + 10) x1 (1 : Int32) x4 x5 (5 : Int32) (0 : Int32) (zaN 27 3 29 L s) = _
  rw [zaq]
  unfold zyF155_6b
  rw [if_neg (by decide), zak (by decide) (by decide), zq_bind]
  dsimp only
  rw [if_neg (by decide), if_pos zao_5_1.2, zao_5_1.1]
  rw [if_neg (by decide), if_pos (by decide), zav_5]
  rw [zaq]
  unfold zyF155_6b
  rw [if_neg (by decide), zak (by decide) (by decide), zq_bind]
  dsimp only
  rw [if_neg (by decide), if_pos zao_3_1.2, zao_3_1.1]
  rw [if_pos (by decide)]
  unfold zyF155_48
  rw [zak (by decide) (by decide), zq_bind]
  dsimp only
  rw [if_neg (by decide), if_pos hd, if_pos zao_3_1.2, zao_3_1.1, zaN_156 _ hL, zq_bind]
  dsimp only
  rw [if_pos (by decide), zav_3, if_pos (by decide), if_pos (by decide), zab]
theorem zas_5_2 (hd : x5 < (40 : Int32)) (hL : L.length < 24) : zyF155_0 g1 g2 g3 x1 (5 : Int32) (2 : Int32) x4 x5 (zaN 27 3 29 L s) = g3 x1 (40 : Int32) (2 : Int32) x4 (x5 + (1 : Int32)) (zaN 27 3 29 (L ++ [(40 : Int32)]) s) := by
  show zyF155_6 g1 g2 g3 (9990 + 10) x1 (2 : Int32) x4 x5 (5 : Int32) (0 : Int32) (zaN 27 3 29 L s) = _
  rw [zaq]
  unfold zyF155_6b
  rw [if_neg (by decide), zak (by decide) (by decide), zq_bind]
  dsimp only
  rw [if_neg (by decide), if_pos zao_5_2.2, zao_5_2.1]
  rw [if_neg (by decide), if_pos (by decide), zav_5]
  rw [zaq]
  unfold zyF155_6b
  rw [if_neg (by decide), zak (by decide) (by decide), zq_bind]
  dsimp only
  rw [if_neg (by decide), if_pos zao_3_2.2, zao_3_2.1]
  rw [if_pos (by decide)]
  unfold zyF155_48
  rw [zak (by decide) (by decide), zq_bind]
  dsimp only
  rw [if_neg (by decide), if_pos hd, if_pos zao_3_2.2, zao_3_2.1, zaN_156 _ hL, zq_bind]
  dsimp only
  rw [if_pos (by decide), zav_3, if_pos (by decide), if_pos (by decide), zab]
theorem zas_5_3 (hd : x5 < (40 : Int32)) (hL : L.length < 24) : zyF155_0 g1 g2 g3 x1 (5 : Int32) (3 : Int32) x4 x5 (zaN 27 3 29 L s) = g3 x1 (60 : Int32) (3 : Int32) x4 (x5 + (1 : Int32)) (zaN 27 3 29 (L ++ [(60 : Int32)]) s) := by
  show zyF155_6 g1 g2 g3 (9990 + 10) x1 (3 : Int32) x4 x5 (5 : Int32) (0 : Int32) (zaN 27 3 29 L s) = _
  rw [zaq]
  unfold zyF155_6b
  rw [if_neg (by decide), zak (by decide) (by decide), zq_bind]
  dsimp only
  rw [if_neg (by decide), if_pos zao_5_3.2, zao_5_3.1]
  rw [if_pos (by decide)]
  unfold zyF155_48
  rw [zak (by decide) (by decide), zq_bind]
  dsimp only
  rw [if_neg (by decide), if_pos hd, if_pos zao_5_3.2, zao_5_3.1, zaN_156 _ hL, zq_bind]
  dsimp only
  rw [if_pos (by decide), zav_5, if_pos (by decide), if_pos (by decide), zab]
theorem zas_6_0 (hd : x5 < (40 : Int32)) (hL : L.length < 24) : zyF155_0 g1 g2 g3 x1 (6 : Int32) (0 : Int32) x4 x5 (zaN 27 3 29 L s) = g3 x1 (70 : Int32) (0 : Int32) x4 (x5 + (1 : Int32)) (zaN 27 3 29 (L ++ [(70 : Int32)]) s) := by
  show zyF155_6 g1 g2 g3 (9990 + 10) x1 (0 : Int32) x4 x5 (6 : Int32) (0 : Int32) (zaN 27 3 29 L s) = _
  rw [zaq]
  unfold zyF155_6b
  rw [if_neg (by decide), zak (by decide) (by decide), zq_bind]
  dsimp only
  rw [if_neg (by decide), if_pos zao_6_0.2, zao_6_0.1]
  rw [if_pos (by decide)]
  unfold zyF155_48
  rw [zak (by decide) (by decide), zq_bind]
  dsimp only
  rw [if_neg (by decide), if_pos hd, if_pos zao_6_0.2, zao_6_0.1, zaN_156 _ hL, zq_bind]
  dsimp only
  rw [if_pos (by decide), zav_6, if_pos (by decide), if_pos (by decide), zab]
theorem zas_6_1 (hd : x5 < (40 : Int32)) (hL : L.length < 24) : zyF155_0 g1 g2 g3 x1 (6 : Int32) (1 : Int32) x4 x5 (zaN 27 3 29 L s) = g2 x1 (10 : Int32) x4 (x5 + (1 : Int32)) (zaN 27 3 29 (L ++ [(10 : Int32)]) s) := by
  show zyF155_6 g1 g2 g3 (9990 + 10) x1 (1 : Int32) x4 x5 (6 : Int32) (0 : Int32) (zaN 27 3 29 L s) = _
  rw [zaq]
  unfold zyF155_6b
  rw [if_neg (by decide), zak (by decide) (by decide), zq_bind]
  dsimp only
  rw [if_neg (by decide), if_pos zao_6_1.2, zao_6_1.1]
  rw [if_neg (by decide), if_pos (by decide), zav_6]
  rw [zaq]
  unfold zyF155_6b
  rw [if_neg (by decide), zak (by decide) (by decide), zq_bind]
  dsimp only
  rw [if_neg (by decide), if_pos zao_0_1.2, zao_0_1.1]
  rw [if_pos (by decide)]
  unfold zyF155_48
  rw [zak (by decide) (by decide), zq_bind]
  dsimp only
  rw [if_neg (by decide), if_pos hd, if_pos zao_0_1.2, zao_0_1.1, zaN_156 _ hL, zq_bind]
  dsimp only
  rw [if_pos (by decide), zav_0, if_neg (by decide), zab]
theorem zas_6_2 (hd : x5 < (40 : Int32)) (hL : L.length < 24) : zyF155_0 g1 g2 g3 x1 (6 : Int32) (2 : Int32) x4 x5 (zaN 27 3 29 L s) = g2 x1 (11 : Int32) x4 (x5 + (1 : Int32)) (zaN 27 3 29 (L ++ [(11 : Int32)]) s) := by
  show zyF155_6 g1 g2 g3 (9990 + 10) x1 (2 : Int32) x4 x5 (6 : Int32) (0 : Int32) (zaN 27 3 29 L s) = _
  rw [zaq]
  unfold zyF155_6b
  rw [if_neg (by decide), zak (by decide) (by decide), zq_bind]
  dsimp only
  rw [if_neg (by decide), if_pos zao_6_2.2, zao_6_2.1]
  rw [if_neg (by decide), if_pos (by decide), zav_6]
  rw [zaq]
  unfold zyF155_6b
  rw [if_neg (by decide), zak (by decide) (by decide), zq_bind]
  dsimp only
  rw [if_neg (by decide), if_pos zao_0_2.2, zao_0_2.1]
  rw [if_pos (by decide)]
  unfold zyF155_48
  rw [zak (by decide) (by decide), zq_bind]
  dsimp only
  rw [if_neg (by decide), if_pos hd, if_pos zao_0_2.2, zao_0_2.1, zaN_156 _ hL, zq_bind]
  dsimp only
  rw [if_pos (by decide), zav_0, if_neg (by decide), zab]
theorem zas_6_3 (hd : x5 < (40 : Int32)) (hL : L.length < 24) : zyF155_0 g1 g2 g3 x1 (6 : Int32) (3 : Int32) x4 x5 (zaN 27 3 29 L s) = g2 x1 (2 : Int32) x4 (x5 + (1 : Int32)) (zaN 27 3 29 (L ++ [(2 : Int32)]) s) := by
  show zyF155_6 g1 g2 g3 (9990 + 10) x1 (3 : Int32) x4 x5 (6 : Int32) (0 : Int32) (zaN 27 3 29 L s) = _
  rw [zaq]
  unfold zyF155_6b
  rw [if_neg (by decide), zak (by decide) (by decide), zq_bind]
  dsimp only
  rw [if_neg (by decide), if_pos zao_6_3.2, zao_6_3.1]
  rw [if_neg (by decide), if_pos (by decide), zav_6]
  rw [zaq]
  unfold zyF155_6b
  rw [if_neg (by decide), zak (by decide) (by decide), zq_bind]
  dsimp only
  rw [if_neg (by decide), if_pos zao_0_3.2, zao_0_3.1]
  rw [if_pos (by decide)]
  unfold zyF155_48
  rw [zak (by decide) (by decide), zq_bind]
  dsimp only
  rw [if_neg (by decide), if_pos hd, if_pos zao_0_3.2, zao_0_3.1, zaN_156 _ hL, zq_bind]
  dsimp only
  rw [if_pos (by decide), zav_0, if_neg (by decide), zab]
theorem zas_7_0 (hd : x5 < (40 : Int32)) (hL : L.length < 24) : zyF155_0 g1 g2 g3 x1 (7 : Int32) (0 : Int32) x4 x5 (zaN 27 3 29 L s) = g3 x1 (20 : Int32) (0 : Int32) x4 (x5 + (1 : Int32)) (zaN 27 3 29 (L ++ [(20 : Int32)]) s) := by
  show zyF155_6 g1 g2 g3 (9990 + 10) x1 (0 : Int32) x4 x5 (7 : Int32) (0 : Int32) (zaN 27 3 29 L s) = _
  rw [zaq]
  unfold zyF155_6b
  rw [if_neg (by decide), zak (by decide) (by decide), zq_bind]
  dsimp only
  rw [if_neg (by decide), if_pos zao_7_0.2, zao_7_0.1]
  rw [if_neg (by decide), if_pos (by decide), zav_7]
  rw [zaq]
  unfold zyF155_6b
  rw [if_neg (by decide), zak (by decide) (by decide), zq_bind]
  dsimp only
  rw [if_neg (by decide), if_pos zao_4_0.2, zao_4_0.1]
  rw [if_neg (by decide), if_pos (by decide), zav_4]
  rw [zaq]
  unfold zyF155_6b
  rw [if_neg (by decide), zak (by decide) (by decide), zq_bind]
  dsimp only
  rw [if_neg (by decide), if_pos zao_1_0.2, zao_1_0.1]
  rw [if_pos (by decide)]
  unfold zyF155_48
  rw [zak (by decide) (by decide), zq_bind]
  dsimp only
  rw [if_neg (by decide), if_pos hd, if_pos zao_1_0.2, zao_1_0.1, zaN_156 _ hL, zq_bind]
  dsimp only
  rw [if_pos (by decide), zav_1, if_pos (by decide), if_pos (by decide), zab]
theorem zas_7_1 (hd : x5 < (40 : Int32)) (hL : L.length < 24) : zyF155_0 g1 g2 g3 x1 (7 : Int32) (1 : Int32) x4 x5 (zaN 27 3 29 L s) = g3 x1 (80 : Int32) (4 : Int32) x4 (x5 + (1 : Int32)) (zaN 27 3 29 (L ++ [(80 : Int32)]) s) := by
  show zyF155_6 g1 g2 g3 (9990 + 10) x1 (1 : Int32) x4 x5 (7 : Int32) (0 : Int32) (zaN 27 3 29 L s) = _
  rw [zaq]
  unfold zyF155_6b
  rw [if_neg (by decide), zak (by decide) (by decide), zq_bind]
  dsimp only
  rw [if_neg (by decide), if_pos zao_7_1.2, zao_7_1.1]
  rw [if_pos (by decide)]
  unfold zyF155_48
  rw [zak (by decide) (by decide), zq_bind]
  dsimp only
  rw [if_neg (by decide), if_pos hd, if_pos zao_7_1.2, zao_7_1.1, zaN_156 _ hL, zq_bind]
  dsimp only
  rw [if_pos (by decide), zav_7, if_pos (by decide), if_pos (by decide), zab]
theorem zas_7_2 (hd : x5 < (40 : Int32)) (hL : L.length < 24) : zyF155_0 g1 g2 g3 x1 (7 : Int32) (2 : Int32) x4 x5 (zaN 27 3 29 L s) = g3 x1 (50 : Int32) (1 : Int32) x4 (x5 + (1 : Int32)) (zaN 27 3 29 (L ++ [(50 : Int32)]) s) := by
  show zyF155_6 g1 g2 g3 (9990 + 10) x1 (2 : Int32) x4 x5 (7 : Int32) (0 : Int32) (zaN 27 3 29 L s) = _
  rw [zaq]
  unfold zyF155_6b
  rw [if_neg (by decide), zak (by decide) (by decide), zq_bind]
  dsimp only
  rw [if_neg (by decide), if_pos zao_7_2.2, zao_7_2.1]
  rw [if_neg (by decide), if_pos (by decide), zav_7]
  rw [zaq]
  unfold zyF155_6b
  rw [if_neg (by decide), zak (by decide) (by decide), zq_bind]
  dsimp only
  rw [if_neg (by decide), if_pos zao_4_2.2, zao_4_2.1]
  rw [if_pos (by decide)]
  unfold zyF155_48
  rw [zak (by decide) (by decide), zq_bind]
  dsimp only
  rw [if_neg (by decide), if_pos hd, if_pos zao_4_2.2, zao_4_2.1, zaN_156 _ hL, zq_bind]
  dsimp only
  rw [if_pos (by decide), zav_4, if_pos (by decide), if_pos (by decide), zab]
theorem zas_7_3 (hd : x5 < (40 : Int32)) (hL : L.length < 24) : zyF155_0 g1 g2 g3 x1 (7 : Int32) (3 : Int32) x4 x5 (zaN 27 3 29 L s) = g3 x1 (81 : Int32) (4 : Int32) x4 (x5 + (1 : Int32)) (zaN 27 3 29 (L ++ [(81 : Int32)]) s) := by
  show zyF155_6 g1 g2 g3 (9990 + 10) x1 (3 : Int32) x4 x5 (7 : Int32) (0 : Int32) (zaN 27 3 29 L s) = _
  rw [zaq]
  unfold zyF155_6b
  rw [if_neg (by decide), zak (by decide) (by decide), zq_bind]
  dsimp only
  rw [if_neg (by decide), if_pos zao_7_3.2, zao_7_3.1]
  rw [if_pos (by decide)]
  unfold zyF155_48
  rw [zak (by decide) (by decide), zq_bind]
  dsimp only
  rw [if_neg (by decide), if_pos hd, if_pos zao_7_3.2, zao_7_3.1, zaN_156 _ hL, zq_bind]
  dsimp only
  rw [if_pos (by decide), zav_7, if_pos (by decide), if_pos (by decide), zab]
theorem zau_20 (hb : zy_in x1 50 = true) : zyF158_0 g1 g2 g3 x1 (20 : Int32) x3 x4 x5 s = (g1 x1 x3 (0 : Int32) x4 x5 s).bind fun p => some (p.1 + (3 : Int32), p.2) := by
  unfold zyF158_0
  rw [if_pos hb, if_pos rfl]
theorem zau_30 (hb : zy_in x1 50 = true) : zyF158_0 g1 g2 g3 x1 (30 : Int32) x3 x4 x5 s = (g1 x1 x3 (1 : Int32) x4 x5 s).bind fun p => some (-p.1, p.2) := by
  unfold zyF158_0
  rw [if_pos hb, if_neg (by decide), if_pos rfl]
theorem zau_40 (hb : zy_in x1 50 = true) : zyF158_0 g1 g2 g3 x1 (40 : Int32) x3 x4 x5 s = (g1 x1 x3 (2 : Int32) x4 x5 s).bind fun p => some (p.1 * (3 : Int32), p.2) := by
  unfold zyF158_0
  rw [if_pos hb, if_neg (by decide), if_neg (by decide), if_pos rfl]
theorem zau_41 (hb : zy_in x1 50 = true) : zyF158_0 g1 g2 g3 x1 (41 : Int32) x3 x4 x5 s = g1 x1 x3 (1 : Int32) (x4 + (1 : Int32)) x5 s := by
  unfold zyF158_0
  rw [if_pos hb, if_neg (by decide), if_neg (by decide), if_neg (by decide), if_pos rfl, zab]
theorem zau_50 (hb : zy_in x1 50 = true) : zyF158_0 g1 g2 g3 x1 (50 : Int32) x3 x4 x5 s = (g1 x1 x3 (2 : Int32) x4 x5 s).bind fun p => (g1 x1 (s.1 28 x1.toNatClampNeg) (0 : Int32) (2 : Int32) x5 p.2).bind fun q => some (p.1 - q.1, q.2) := by
  unfold zyF158_0
  rw [if_pos hb, if_neg (by decide), if_neg (by decide), if_neg (by decide), if_neg (by decide), if_pos rfl]
theorem zau_60 (hb : zy_in x1 50 = true) : zyF158_0 g1 g2 g3 x1 (60 : Int32) x3 x4 x5 s = (g1 x1 x3 (3 : Int32) x4 x5 s).bind fun p => some (p.1 ^^^ (5 : Int32), p.2) := by
  unfold zyF158_0
  rw [if_pos hb, if_neg (by decide), if_neg (by decide), if_neg (by decide), if_neg (by decide), if_neg (by decide), if_pos rfl]
theorem zau_70 (hb : zy_in x1 50 = true) : zyF158_0 g1 g2 g3 x1 (70 : Int32) x3 x4 x5 s = (g1 x1 x3 (0 : Int32) x4 x5 s).bind fun p => some (p.1 * (2 : Int32), p.2) := by
  unfold zyF158_0
  rw [if_pos hb, if_neg (by decide), if_neg (by decide), if_neg (by decide), if_neg (by decide), if_neg (by decide), if_neg (by decide), if_pos rfl]
theorem zau_80 (hb : zy_in x1 50 = true) : zyF158_0 g1 g2 g3 x1 (80 : Int32) x3 x4 x5 s = (g1 x1 x3 (1 : Int32) x4 x5 s).bind fun p => (g1 x1 (s.1 28 x1.toNatClampNeg) (2 : Int32) (2 : Int32) x5 p.2).bind fun q => some (p.1 + q.1, q.2) := by
  unfold zyF158_0
  rw [if_pos hb, if_neg (by decide), if_neg (by decide), if_neg (by decide), if_neg (by decide), if_neg (by decide), if_neg (by decide), if_neg (by decide), if_pos rfl]
theorem zau_81 (hb : zy_in x1 50 = true) : zyF158_0 g1 g2 g3 x1 (81 : Int32) x3 x4 x5 s = (g1 x1 x3 (3 : Int32) x4 x5 s).bind fun p => some (p.1 - (1 : Int32), p.2) := by
  unfold zyF158_0
  rw [if_pos hb, if_neg (by decide), if_neg (by decide), if_neg (by decide), if_neg (by decide), if_neg (by decide), if_neg (by decide), if_neg (by decide), if_neg (by decide)]
theorem zau_1 (hb : zy_in x1 50 = true) : zyF157_0 g1 g2 g3 x1 (1 : Int32) x3 x4 s = some (x3 + x1, s) := by
  unfold zyF157_0
  rw [if_pos hb, if_pos rfl]
theorem zau_10 (hb : zy_in x1 50 = true) : zyF157_0 g1 g2 g3 x1 (10 : Int32) x3 x4 s = (g1 x1 (s.1 28 x1.toNatClampNeg) (0 : Int32) x3 x4 s).bind fun p => some (p.1 * (2 : Int32), p.2) := by
  unfold zyF157_0
  rw [if_pos hb, if_neg (by decide), if_pos rfl]
theorem zau_11 (hb : zy_in x1 50 = true) : zyF157_0 g1 g2 g3 x1 (11 : Int32) x3 x4 s = some (x3 ^^^ x1, s) := by
  unfold zyF157_0
  rw [if_pos hb, if_neg (by decide), if_neg (by decide), if_pos rfl]
theorem zau_2 (hb : zy_in x1 50 = true) : zyF157_0 g1 g2 g3 x1 (2 : Int32) x3 x4 s = (g1 x1 (s.1 28 x1.toNatClampNeg) (1 : Int32) x3 x4 s).bind fun p => (g1 x1 (s.1 28 x1.toNatClampNeg) (2 : Int32) (1 : Int32) x4 p.2).bind fun q => some (p.1 - q.1, q.2) := by
  unfold zyF157_0
  rw [if_pos hb, if_neg (by decide), if_neg (by decide), if_neg (by decide)]
end ZA
end
section
/-! PART 46.911: what each kind runs, in the class. Made by wip/v6/gen_act.py. -/
section ZB
variable {b : Int32} {s : zy_S}
theorem zca_0_0_0 (hb : zy_in b 50 = true) (hk : s.1 28 b.toNatClampNeg = (0 : Int32)) (N : Nat) (hN : 2 ≤ N) (x d : Int32) (L : List Int32) (hd : 0 ≤ d.toInt ∧ d.toInt + 1 ≤ 40) (hL : L.length + 1 ≤ 24) : (zyG155 N).1 b (0 : Int32) (0 : Int32) x d (zaN 27 3 29 L s) = some ((x + b), zaN 27 3 29 (L ++ [(1 : Int32)]) s) := by
  obtain ⟨n, rfl⟩ : ∃ n, N = n + 2 := ⟨N - 2, by omega⟩
  obtain ⟨d0, d1⟩ := zaD' (h := 1) (by omega) hd
  rw [zyS155, zas_0_0 d0 (by omega)]
  rw [zyS157]
  rw [zau_1 hb]
theorem zca_0_0_1 (hb : zy_in b 50 = true) (hk : s.1 28 b.toNatClampNeg = (0 : Int32)) (N : Nat) (hN : 4 ≤ N) (x d : Int32) (L : List Int32) (hd : 0 ≤ d.toInt ∧ d.toInt + 2 ≤ 40) (hL : L.length + 2 ≤ 24) : (zyG155 N).1 b (0 : Int32) (1 : Int32) x d (zaN 27 3 29 L s) = some (((x + b) * (2 : Int32)), zaN 27 3 29 (L ++ [(10 : Int32), (1 : Int32)]) s) := by
  obtain ⟨n, rfl⟩ : ∃ n, N = n + 2 := ⟨N - 2, by omega⟩
  obtain ⟨d0, d1⟩ := zaD' (h := 2) (by omega) hd
  rw [zyS155, zas_0_1 d0 (by omega)]
  rw [zyS157]
  rw [zau_10 hb, zaN_28, hk, zca_0_0_0 hb hk n (by omega) x _ _ ⟨by omega, by omega⟩ (by simp only [List.length_append, List.length_cons, List.length_nil]; omega), zq_bind]
  simp only [List.append_assoc, List.cons_append, List.nil_append]
theorem zca_0_0_2 (hb : zy_in b 50 = true) (hk : s.1 28 b.toNatClampNeg = (0 : Int32)) (N : Nat) (hN : 2 ≤ N) (x d : Int32) (L : List Int32) (hd : 0 ≤ d.toInt ∧ d.toInt + 1 ≤ 40) (hL : L.length + 1 ≤ 24) : (zyG155 N).1 b (0 : Int32) (2 : Int32) x d (zaN 27 3 29 L s) = some ((x ^^^ b), zaN 27 3 29 (L ++ [(11 : Int32)]) s) := by
  obtain ⟨n, rfl⟩ : ∃ n, N = n + 2 := ⟨N - 2, by omega⟩
  obtain ⟨d0, d1⟩ := zaD' (h := 1) (by omega) hd
  rw [zyS155, zas_0_2 d0 (by omega)]
  rw [zyS157]
  rw [zau_11 hb]
theorem zca_0_0_3 (hb : zy_in b 50 = true) (hk : s.1 28 b.toNatClampNeg = (0 : Int32)) (N : Nat) (hN : 6 ≤ N) (x d : Int32) (L : List Int32) (hd : 0 ≤ d.toInt ∧ d.toInt + 3 ≤ 40) (hL : L.length + 4 ≤ 24) : (zyG155 N).1 b (0 : Int32) (3 : Int32) x d (zaN 27 3 29 L s) = some ((((x + b) * (2 : Int32)) - ((1 : Int32) ^^^ b)), zaN 27 3 29 (L ++ [(2 : Int32), (10 : Int32), (1 : Int32), (11 : Int32)]) s) := by
  obtain ⟨n, rfl⟩ : ∃ n, N = n + 2 := ⟨N - 2, by omega⟩
  obtain ⟨d0, d1⟩ := zaD' (h := 3) (by omega) hd
  rw [zyS155, zas_0_3 d0 (by omega)]
  rw [zyS157]
  rw [zau_2 hb, zaN_28, hk, zca_0_0_1 hb hk n (by omega) x _ _ ⟨by omega, by omega⟩ (by simp only [List.length_append, List.length_cons, List.length_nil]; omega), zq_bind]
  dsimp only
  rw [zca_0_0_2 hb hk n (by omega) (1 : Int32) _ _ ⟨by omega, by omega⟩ (by simp only [List.length_append, List.length_cons, List.length_nil]; omega), zq_bind]
  simp only [List.append_assoc, List.cons_append, List.nil_append]
theorem zca_1_0_0 (hb : zy_in b 50 = true) (hk : s.1 28 b.toNatClampNeg = (1 : Int32)) (N : Nat) (hN : 2 ≤ N) (x d : Int32) (L : List Int32) (hd : 0 ≤ d.toInt ∧ d.toInt + 1 ≤ 40) (hL : L.length + 1 ≤ 24) : (zyG155 N).1 b (0 : Int32) (0 : Int32) x d (zaN 27 3 29 L s) = some ((x + b), zaN 27 3 29 (L ++ [(1 : Int32)]) s) := by
  obtain ⟨n, rfl⟩ : ∃ n, N = n + 2 := ⟨N - 2, by omega⟩
  obtain ⟨d0, d1⟩ := zaD' (h := 1) (by omega) hd
  rw [zyS155, zas_0_0 d0 (by omega)]
  rw [zyS157]
  rw [zau_1 hb]
theorem zca_1_1_0 (hb : zy_in b 50 = true) (hk : s.1 28 b.toNatClampNeg = (1 : Int32)) (N : Nat) (hN : 4 ≤ N) (x d : Int32) (L : List Int32) (hd : 0 ≤ d.toInt ∧ d.toInt + 2 ≤ 40) (hL : L.length + 2 ≤ 24) : (zyG155 N).1 b (1 : Int32) (0 : Int32) x d (zaN 27 3 29 L s) = some (((x + b) + (3 : Int32)), zaN 27 3 29 (L ++ [(20 : Int32), (1 : Int32)]) s) := by
  obtain ⟨n, rfl⟩ : ∃ n, N = n + 2 := ⟨N - 2, by omega⟩
  obtain ⟨d0, d1⟩ := zaD' (h := 2) (by omega) hd
  rw [zyS155, zas_1_0 d0 (by omega)]
  rw [zyS158]
  rw [zau_20 hb, zca_1_0_0 hb hk n (by omega) x _ _ ⟨by omega, by omega⟩ (by simp only [List.length_append, List.length_cons, List.length_nil]; omega), zq_bind]
  simp only [List.append_assoc, List.cons_append, List.nil_append]
theorem zca_1_1_1 (hb : zy_in b 50 = true) (hk : s.1 28 b.toNatClampNeg = (1 : Int32)) (N : Nat) (hN : 6 ≤ N) (x d : Int32) (L : List Int32) (hd : 0 ≤ d.toInt ∧ d.toInt + 3 ≤ 40) (hL : L.length + 3 ≤ 24) : (zyG155 N).1 b (1 : Int32) (1 : Int32) x d (zaN 27 3 29 L s) = some ((((x + b) + (3 : Int32)) * (2 : Int32)), zaN 27 3 29 (L ++ [(10 : Int32), (20 : Int32), (1 : Int32)]) s) := by
  obtain ⟨n, rfl⟩ : ∃ n, N = n + 2 := ⟨N - 2, by omega⟩
  obtain ⟨d0, d1⟩ := zaD' (h := 3) (by omega) hd
  rw [zyS155, zas_1_1 d0 (by omega)]
  rw [zyS157]
  rw [zau_10 hb, zaN_28, hk, zca_1_1_0 hb hk n (by omega) x _ _ ⟨by omega, by omega⟩ (by simp only [List.length_append, List.length_cons, List.length_nil]; omega), zq_bind]
  simp only [List.append_assoc, List.cons_append, List.nil_append]
theorem zca_1_1_2 (hb : zy_in b 50 = true) (hk : s.1 28 b.toNatClampNeg = (1 : Int32)) (N : Nat) (hN : 2 ≤ N) (x d : Int32) (L : List Int32) (hd : 0 ≤ d.toInt ∧ d.toInt + 1 ≤ 40) (hL : L.length + 1 ≤ 24) : (zyG155 N).1 b (1 : Int32) (2 : Int32) x d (zaN 27 3 29 L s) = some ((x ^^^ b), zaN 27 3 29 (L ++ [(11 : Int32)]) s) := by
  obtain ⟨n, rfl⟩ : ∃ n, N = n + 2 := ⟨N - 2, by omega⟩
  obtain ⟨d0, d1⟩ := zaD' (h := 1) (by omega) hd
  rw [zyS155, zas_1_2 d0 (by omega)]
  rw [zyS157]
  rw [zau_11 hb]
theorem zca_1_1_3 (hb : zy_in b 50 = true) (hk : s.1 28 b.toNatClampNeg = (1 : Int32)) (N : Nat) (hN : 8 ≤ N) (x d : Int32) (L : List Int32) (hd : 0 ≤ d.toInt ∧ d.toInt + 4 ≤ 40) (hL : L.length + 5 ≤ 24) : (zyG155 N).1 b (1 : Int32) (3 : Int32) x d (zaN 27 3 29 L s) = some (((((x + b) + (3 : Int32)) * (2 : Int32)) - ((1 : Int32) ^^^ b)), zaN 27 3 29 (L ++ [(2 : Int32), (10 : Int32), (20 : Int32), (1 : Int32), (11 : Int32)]) s) := by
  obtain ⟨n, rfl⟩ : ∃ n, N = n + 2 := ⟨N - 2, by omega⟩
  obtain ⟨d0, d1⟩ := zaD' (h := 4) (by omega) hd
  rw [zyS155, zas_1_3 d0 (by omega)]
  rw [zyS157]
  rw [zau_2 hb, zaN_28, hk, zca_1_1_1 hb hk n (by omega) x _ _ ⟨by omega, by omega⟩ (by simp only [List.length_append, List.length_cons, List.length_nil]; omega), zq_bind]
  dsimp only
  rw [zca_1_1_2 hb hk n (by omega) (1 : Int32) _ _ ⟨by omega, by omega⟩ (by simp only [List.length_append, List.length_cons, List.length_nil]; omega), zq_bind]
  simp only [List.append_assoc, List.cons_append, List.nil_append]
theorem zca_2_2_0 (hb : zy_in b 50 = true) (hk : s.1 28 b.toNatClampNeg = (2 : Int32)) (N : Nat) (hN : 2 ≤ N) (x d : Int32) (L : List Int32) (hd : 0 ≤ d.toInt ∧ d.toInt + 1 ≤ 40) (hL : L.length + 1 ≤ 24) : (zyG155 N).1 b (2 : Int32) (0 : Int32) x d (zaN 27 3 29 L s) = some ((x + b), zaN 27 3 29 (L ++ [(1 : Int32)]) s) := by
  obtain ⟨n, rfl⟩ : ∃ n, N = n + 2 := ⟨N - 2, by omega⟩
  obtain ⟨d0, d1⟩ := zaD' (h := 1) (by omega) hd
  rw [zyS155, zas_2_0 d0 (by omega)]
  rw [zyS157]
  rw [zau_1 hb]
theorem zca_2_0_1 (hb : zy_in b 50 = true) (hk : s.1 28 b.toNatClampNeg = (2 : Int32)) (N : Nat) (hN : 4 ≤ N) (x d : Int32) (L : List Int32) (hd : 0 ≤ d.toInt ∧ d.toInt + 2 ≤ 40) (hL : L.length + 2 ≤ 24) : (zyG155 N).1 b (0 : Int32) (1 : Int32) x d (zaN 27 3 29 L s) = some (((x + b) * (2 : Int32)), zaN 27 3 29 (L ++ [(10 : Int32), (1 : Int32)]) s) := by
  obtain ⟨n, rfl⟩ : ∃ n, N = n + 2 := ⟨N - 2, by omega⟩
  obtain ⟨d0, d1⟩ := zaD' (h := 2) (by omega) hd
  rw [zyS155, zas_0_1 d0 (by omega)]
  rw [zyS157]
  rw [zau_10 hb, zaN_28, hk, zca_2_2_0 hb hk n (by omega) x _ _ ⟨by omega, by omega⟩ (by simp only [List.length_append, List.length_cons, List.length_nil]; omega), zq_bind]
  simp only [List.append_assoc, List.cons_append, List.nil_append]
theorem zca_2_2_1 (hb : zy_in b 50 = true) (hk : s.1 28 b.toNatClampNeg = (2 : Int32)) (N : Nat) (hN : 6 ≤ N) (x d : Int32) (L : List Int32) (hd : 0 ≤ d.toInt ∧ d.toInt + 3 ≤ 40) (hL : L.length + 3 ≤ 24) : (zyG155 N).1 b (2 : Int32) (1 : Int32) x d (zaN 27 3 29 L s) = some ((-((x + b) * (2 : Int32))), zaN 27 3 29 (L ++ [(30 : Int32), (10 : Int32), (1 : Int32)]) s) := by
  obtain ⟨n, rfl⟩ : ∃ n, N = n + 2 := ⟨N - 2, by omega⟩
  obtain ⟨d0, d1⟩ := zaD' (h := 3) (by omega) hd
  rw [zyS155, zas_2_1 d0 (by omega)]
  rw [zyS158]
  rw [zau_30 hb, zca_2_0_1 hb hk n (by omega) x _ _ ⟨by omega, by omega⟩ (by simp only [List.length_append, List.length_cons, List.length_nil]; omega), zq_bind]
  simp only [List.append_assoc, List.cons_append, List.nil_append]
theorem zca_2_2_2 (hb : zy_in b 50 = true) (hk : s.1 28 b.toNatClampNeg = (2 : Int32)) (N : Nat) (hN : 2 ≤ N) (x d : Int32) (L : List Int32) (hd : 0 ≤ d.toInt ∧ d.toInt + 1 ≤ 40) (hL : L.length + 1 ≤ 24) : (zyG155 N).1 b (2 : Int32) (2 : Int32) x d (zaN 27 3 29 L s) = some ((x ^^^ b), zaN 27 3 29 (L ++ [(11 : Int32)]) s) := by
  obtain ⟨n, rfl⟩ : ∃ n, N = n + 2 := ⟨N - 2, by omega⟩
  obtain ⟨d0, d1⟩ := zaD' (h := 1) (by omega) hd
  rw [zyS155, zas_2_2 d0 (by omega)]
  rw [zyS157]
  rw [zau_11 hb]
theorem zca_2_2_3 (hb : zy_in b 50 = true) (hk : s.1 28 b.toNatClampNeg = (2 : Int32)) (N : Nat) (hN : 8 ≤ N) (x d : Int32) (L : List Int32) (hd : 0 ≤ d.toInt ∧ d.toInt + 4 ≤ 40) (hL : L.length + 5 ≤ 24) : (zyG155 N).1 b (2 : Int32) (3 : Int32) x d (zaN 27 3 29 L s) = some (((-((x + b) * (2 : Int32))) - ((1 : Int32) ^^^ b)), zaN 27 3 29 (L ++ [(2 : Int32), (30 : Int32), (10 : Int32), (1 : Int32), (11 : Int32)]) s) := by
  obtain ⟨n, rfl⟩ : ∃ n, N = n + 2 := ⟨N - 2, by omega⟩
  obtain ⟨d0, d1⟩ := zaD' (h := 4) (by omega) hd
  rw [zyS155, zas_2_3 d0 (by omega)]
  rw [zyS157]
  rw [zau_2 hb, zaN_28, hk, zca_2_2_1 hb hk n (by omega) x _ _ ⟨by omega, by omega⟩ (by simp only [List.length_append, List.length_cons, List.length_nil]; omega), zq_bind]
  dsimp only
  rw [zca_2_2_2 hb hk n (by omega) (1 : Int32) _ _ ⟨by omega, by omega⟩ (by simp only [List.length_append, List.length_cons, List.length_nil]; omega), zq_bind]
  simp only [List.append_assoc, List.cons_append, List.nil_append]
theorem zca_3_3_0 (hb : zy_in b 50 = true) (hk : s.1 28 b.toNatClampNeg = (3 : Int32)) (N : Nat) (hN : 2 ≤ N) (x d : Int32) (L : List Int32) (hd : 0 ≤ d.toInt ∧ d.toInt + 1 ≤ 40) (hL : L.length + 1 ≤ 24) : (zyG155 N).1 b (3 : Int32) (0 : Int32) x d (zaN 27 3 29 L s) = some ((x + b), zaN 27 3 29 (L ++ [(1 : Int32)]) s) := by
  obtain ⟨n, rfl⟩ : ∃ n, N = n + 2 := ⟨N - 2, by omega⟩
  obtain ⟨d0, d1⟩ := zaD' (h := 1) (by omega) hd
  rw [zyS155, zas_3_0 d0 (by omega)]
  rw [zyS157]
  rw [zau_1 hb]
theorem zca_3_0_1 (hb : zy_in b 50 = true) (hk : s.1 28 b.toNatClampNeg = (3 : Int32)) (N : Nat) (hN : 4 ≤ N) (x d : Int32) (L : List Int32) (hd : 0 ≤ d.toInt ∧ d.toInt + 2 ≤ 40) (hL : L.length + 2 ≤ 24) : (zyG155 N).1 b (0 : Int32) (1 : Int32) x d (zaN 27 3 29 L s) = some (((x + b) * (2 : Int32)), zaN 27 3 29 (L ++ [(10 : Int32), (1 : Int32)]) s) := by
  obtain ⟨n, rfl⟩ : ∃ n, N = n + 2 := ⟨N - 2, by omega⟩
  obtain ⟨d0, d1⟩ := zaD' (h := 2) (by omega) hd
  rw [zyS155, zas_0_1 d0 (by omega)]
  rw [zyS157]
  rw [zau_10 hb, zaN_28, hk, zca_3_3_0 hb hk n (by omega) x _ _ ⟨by omega, by omega⟩ (by simp only [List.length_append, List.length_cons, List.length_nil]; omega), zq_bind]
  simp only [List.append_assoc, List.cons_append, List.nil_append]
theorem zca_3_2_1 (hb : zy_in b 50 = true) (hk : s.1 28 b.toNatClampNeg = (3 : Int32)) (N : Nat) (hN : 6 ≤ N) (x d : Int32) (L : List Int32) (hd : 0 ≤ d.toInt ∧ d.toInt + 3 ≤ 40) (hL : L.length + 3 ≤ 24) : (zyG155 N).1 b (2 : Int32) (1 : Int32) x d (zaN 27 3 29 L s) = some ((-((x + b) * (2 : Int32))), zaN 27 3 29 (L ++ [(30 : Int32), (10 : Int32), (1 : Int32)]) s) := by
  obtain ⟨n, rfl⟩ : ∃ n, N = n + 2 := ⟨N - 2, by omega⟩
  obtain ⟨d0, d1⟩ := zaD' (h := 3) (by omega) hd
  rw [zyS155, zas_2_1 d0 (by omega)]
  rw [zyS158]
  rw [zau_30 hb, zca_3_0_1 hb hk n (by omega) x _ _ ⟨by omega, by omega⟩ (by simp only [List.length_append, List.length_cons, List.length_nil]; omega), zq_bind]
  simp only [List.append_assoc, List.cons_append, List.nil_append]
theorem zca_3_3_1 (hb : zy_in b 50 = true) (hk : s.1 28 b.toNatClampNeg = (3 : Int32)) (N : Nat) (hN : 8 ≤ N) (x d : Int32) (L : List Int32) (hd : 0 ≤ d.toInt ∧ d.toInt + 4 ≤ 40) (hL : L.length + 4 ≤ 24) : (zyG155 N).1 b (3 : Int32) (1 : Int32) x d (zaN 27 3 29 L s) = some ((-(((x + (1 : Int32)) + b) * (2 : Int32))), zaN 27 3 29 (L ++ [(41 : Int32), (30 : Int32), (10 : Int32), (1 : Int32)]) s) := by
  obtain ⟨n, rfl⟩ : ∃ n, N = n + 2 := ⟨N - 2, by omega⟩
  obtain ⟨d0, d1⟩ := zaD' (h := 4) (by omega) hd
  rw [zyS155, zas_3_1 d0 (by omega)]
  rw [zyS158]
  rw [zau_41 hb, zca_3_2_1 hb hk n (by omega) (x + (1 : Int32)) _ _ ⟨by omega, by omega⟩ (by simp only [List.length_append, List.length_cons, List.length_nil]; omega)]
  simp only [List.append_assoc, List.cons_append, List.nil_append]
theorem zca_3_2_2 (hb : zy_in b 50 = true) (hk : s.1 28 b.toNatClampNeg = (3 : Int32)) (N : Nat) (hN : 2 ≤ N) (x d : Int32) (L : List Int32) (hd : 0 ≤ d.toInt ∧ d.toInt + 1 ≤ 40) (hL : L.length + 1 ≤ 24) : (zyG155 N).1 b (2 : Int32) (2 : Int32) x d (zaN 27 3 29 L s) = some ((x ^^^ b), zaN 27 3 29 (L ++ [(11 : Int32)]) s) := by
  obtain ⟨n, rfl⟩ : ∃ n, N = n + 2 := ⟨N - 2, by omega⟩
  obtain ⟨d0, d1⟩ := zaD' (h := 1) (by omega) hd
  rw [zyS155, zas_2_2 d0 (by omega)]
  rw [zyS157]
  rw [zau_11 hb]
theorem zca_3_3_2 (hb : zy_in b 50 = true) (hk : s.1 28 b.toNatClampNeg = (3 : Int32)) (N : Nat) (hN : 4 ≤ N) (x d : Int32) (L : List Int32) (hd : 0 ≤ d.toInt ∧ d.toInt + 2 ≤ 40) (hL : L.length + 2 ≤ 24) : (zyG155 N).1 b (3 : Int32) (2 : Int32) x d (zaN 27 3 29 L s) = some (((x ^^^ b) * (3 : Int32)), zaN 27 3 29 (L ++ [(40 : Int32), (11 : Int32)]) s) := by
  obtain ⟨n, rfl⟩ : ∃ n, N = n + 2 := ⟨N - 2, by omega⟩
  obtain ⟨d0, d1⟩ := zaD' (h := 2) (by omega) hd
  rw [zyS155, zas_3_2 d0 (by omega)]
  rw [zyS158]
  rw [zau_40 hb, zca_3_2_2 hb hk n (by omega) x _ _ ⟨by omega, by omega⟩ (by simp only [List.length_append, List.length_cons, List.length_nil]; omega), zq_bind]
  simp only [List.append_assoc, List.cons_append, List.nil_append]
theorem zca_3_3_3 (hb : zy_in b 50 = true) (hk : s.1 28 b.toNatClampNeg = (3 : Int32)) (N : Nat) (hN : 10 ≤ N) (x d : Int32) (L : List Int32) (hd : 0 ≤ d.toInt ∧ d.toInt + 5 ≤ 40) (hL : L.length + 7 ≤ 24) : (zyG155 N).1 b (3 : Int32) (3 : Int32) x d (zaN 27 3 29 L s) = some (((-(((x + (1 : Int32)) + b) * (2 : Int32))) - (((1 : Int32) ^^^ b) * (3 : Int32))), zaN 27 3 29 (L ++ [(2 : Int32), (41 : Int32), (30 : Int32), (10 : Int32), (1 : Int32), (40 : Int32), (11 : Int32)]) s) := by
  obtain ⟨n, rfl⟩ : ∃ n, N = n + 2 := ⟨N - 2, by omega⟩
  obtain ⟨d0, d1⟩ := zaD' (h := 5) (by omega) hd
  rw [zyS155, zas_3_3 d0 (by omega)]
  rw [zyS157]
  rw [zau_2 hb, zaN_28, hk, zca_3_3_1 hb hk n (by omega) x _ _ ⟨by omega, by omega⟩ (by simp only [List.length_append, List.length_cons, List.length_nil]; omega), zq_bind]
  dsimp only
  rw [zca_3_3_2 hb hk n (by omega) (1 : Int32) _ _ ⟨by omega, by omega⟩ (by simp only [List.length_append, List.length_cons, List.length_nil]; omega), zq_bind]
  simp only [List.append_assoc, List.cons_append, List.nil_append]
theorem zca_4_0_0 (hb : zy_in b 50 = true) (hk : s.1 28 b.toNatClampNeg = (4 : Int32)) (N : Nat) (hN : 2 ≤ N) (x d : Int32) (L : List Int32) (hd : 0 ≤ d.toInt ∧ d.toInt + 1 ≤ 40) (hL : L.length + 1 ≤ 24) : (zyG155 N).1 b (0 : Int32) (0 : Int32) x d (zaN 27 3 29 L s) = some ((x + b), zaN 27 3 29 (L ++ [(1 : Int32)]) s) := by
  obtain ⟨n, rfl⟩ : ∃ n, N = n + 2 := ⟨N - 2, by omega⟩
  obtain ⟨d0, d1⟩ := zaD' (h := 1) (by omega) hd
  rw [zyS155, zas_0_0 d0 (by omega)]
  rw [zyS157]
  rw [zau_1 hb]
theorem zca_4_4_0 (hb : zy_in b 50 = true) (hk : s.1 28 b.toNatClampNeg = (4 : Int32)) (N : Nat) (hN : 4 ≤ N) (x d : Int32) (L : List Int32) (hd : 0 ≤ d.toInt ∧ d.toInt + 2 ≤ 40) (hL : L.length + 2 ≤ 24) : (zyG155 N).1 b (4 : Int32) (0 : Int32) x d (zaN 27 3 29 L s) = some (((x + b) + (3 : Int32)), zaN 27 3 29 (L ++ [(20 : Int32), (1 : Int32)]) s) := by
  obtain ⟨n, rfl⟩ : ∃ n, N = n + 2 := ⟨N - 2, by omega⟩
  obtain ⟨d0, d1⟩ := zaD' (h := 2) (by omega) hd
  rw [zyS155, zas_4_0 d0 (by omega)]
  rw [zyS158]
  rw [zau_20 hb, zca_4_0_0 hb hk n (by omega) x _ _ ⟨by omega, by omega⟩ (by simp only [List.length_append, List.length_cons, List.length_nil]; omega), zq_bind]
  simp only [List.append_assoc, List.cons_append, List.nil_append]
theorem zca_4_4_1 (hb : zy_in b 50 = true) (hk : s.1 28 b.toNatClampNeg = (4 : Int32)) (N : Nat) (hN : 6 ≤ N) (x d : Int32) (L : List Int32) (hd : 0 ≤ d.toInt ∧ d.toInt + 3 ≤ 40) (hL : L.length + 3 ≤ 24) : (zyG155 N).1 b (4 : Int32) (1 : Int32) x d (zaN 27 3 29 L s) = some ((((x + b) + (3 : Int32)) * (2 : Int32)), zaN 27 3 29 (L ++ [(10 : Int32), (20 : Int32), (1 : Int32)]) s) := by
  obtain ⟨n, rfl⟩ : ∃ n, N = n + 2 := ⟨N - 2, by omega⟩
  obtain ⟨d0, d1⟩ := zaD' (h := 3) (by omega) hd
  rw [zyS155, zas_4_1 d0 (by omega)]
  rw [zyS157]
  rw [zau_10 hb, zaN_28, hk, zca_4_4_0 hb hk n (by omega) x _ _ ⟨by omega, by omega⟩ (by simp only [List.length_append, List.length_cons, List.length_nil]; omega), zq_bind]
  simp only [List.append_assoc, List.cons_append, List.nil_append]
theorem zca_4_1_2 (hb : zy_in b 50 = true) (hk : s.1 28 b.toNatClampNeg = (4 : Int32)) (N : Nat) (hN : 2 ≤ N) (x d : Int32) (L : List Int32) (hd : 0 ≤ d.toInt ∧ d.toInt + 1 ≤ 40) (hL : L.length + 1 ≤ 24) : (zyG155 N).1 b (1 : Int32) (2 : Int32) x d (zaN 27 3 29 L s) = some ((x ^^^ b), zaN 27 3 29 (L ++ [(11 : Int32)]) s) := by
  obtain ⟨n, rfl⟩ : ∃ n, N = n + 2 := ⟨N - 2, by omega⟩
  obtain ⟨d0, d1⟩ := zaD' (h := 1) (by omega) hd
  rw [zyS155, zas_1_2 d0 (by omega)]
  rw [zyS157]
  rw [zau_11 hb]
theorem zca_4_4_2 (hb : zy_in b 50 = true) (hk : s.1 28 b.toNatClampNeg = (4 : Int32)) (N : Nat) (hN : 6 ≤ N) (x d : Int32) (L : List Int32) (hd : 0 ≤ d.toInt ∧ d.toInt + 3 ≤ 40) (hL : L.length + 4 ≤ 24) : (zyG155 N).1 b (4 : Int32) (2 : Int32) x d (zaN 27 3 29 L s) = some (((x ^^^ b) - (((2 : Int32) + b) + (3 : Int32))), zaN 27 3 29 (L ++ [(50 : Int32), (11 : Int32), (20 : Int32), (1 : Int32)]) s) := by
  obtain ⟨n, rfl⟩ : ∃ n, N = n + 2 := ⟨N - 2, by omega⟩
  obtain ⟨d0, d1⟩ := zaD' (h := 3) (by omega) hd
  rw [zyS155, zas_4_2 d0 (by omega)]
  rw [zyS158]
  rw [zau_50 hb, zaN_28, hk, zca_4_1_2 hb hk n (by omega) x _ _ ⟨by omega, by omega⟩ (by simp only [List.length_append, List.length_cons, List.length_nil]; omega), zq_bind]
  dsimp only
  rw [zca_4_4_0 hb hk n (by omega) (2 : Int32) _ _ ⟨by omega, by omega⟩ (by simp only [List.length_append, List.length_cons, List.length_nil]; omega), zq_bind]
  simp only [List.append_assoc, List.cons_append, List.nil_append]
theorem zca_4_4_3 (hb : zy_in b 50 = true) (hk : s.1 28 b.toNatClampNeg = (4 : Int32)) (N : Nat) (hN : 8 ≤ N) (x d : Int32) (L : List Int32) (hd : 0 ≤ d.toInt ∧ d.toInt + 4 ≤ 40) (hL : L.length + 8 ≤ 24) : (zyG155 N).1 b (4 : Int32) (3 : Int32) x d (zaN 27 3 29 L s) = some (((((x + b) + (3 : Int32)) * (2 : Int32)) - (((1 : Int32) ^^^ b) - (((2 : Int32) + b) + (3 : Int32)))), zaN 27 3 29 (L ++ [(2 : Int32), (10 : Int32), (20 : Int32), (1 : Int32), (50 : Int32), (11 : Int32), (20 : Int32), (1 : Int32)]) s) := by
  obtain ⟨n, rfl⟩ : ∃ n, N = n + 2 := ⟨N - 2, by omega⟩
  obtain ⟨d0, d1⟩ := zaD' (h := 4) (by omega) hd
  rw [zyS155, zas_4_3 d0 (by omega)]
  rw [zyS157]
  rw [zau_2 hb, zaN_28, hk, zca_4_4_1 hb hk n (by omega) x _ _ ⟨by omega, by omega⟩ (by simp only [List.length_append, List.length_cons, List.length_nil]; omega), zq_bind]
  dsimp only
  rw [zca_4_4_2 hb hk n (by omega) (1 : Int32) _ _ ⟨by omega, by omega⟩ (by simp only [List.length_append, List.length_cons, List.length_nil]; omega), zq_bind]
  simp only [List.append_assoc, List.cons_append, List.nil_append]
theorem zca_5_5_0 (hb : zy_in b 50 = true) (hk : s.1 28 b.toNatClampNeg = (5 : Int32)) (N : Nat) (hN : 2 ≤ N) (x d : Int32) (L : List Int32) (hd : 0 ≤ d.toInt ∧ d.toInt + 1 ≤ 40) (hL : L.length + 1 ≤ 24) : (zyG155 N).1 b (5 : Int32) (0 : Int32) x d (zaN 27 3 29 L s) = some ((x + b), zaN 27 3 29 (L ++ [(1 : Int32)]) s) := by
  obtain ⟨n, rfl⟩ : ∃ n, N = n + 2 := ⟨N - 2, by omega⟩
  obtain ⟨d0, d1⟩ := zaD' (h := 1) (by omega) hd
  rw [zyS155, zas_5_0 d0 (by omega)]
  rw [zyS157]
  rw [zau_1 hb]
theorem zca_5_0_1 (hb : zy_in b 50 = true) (hk : s.1 28 b.toNatClampNeg = (5 : Int32)) (N : Nat) (hN : 4 ≤ N) (x d : Int32) (L : List Int32) (hd : 0 ≤ d.toInt ∧ d.toInt + 2 ≤ 40) (hL : L.length + 2 ≤ 24) : (zyG155 N).1 b (0 : Int32) (1 : Int32) x d (zaN 27 3 29 L s) = some (((x + b) * (2 : Int32)), zaN 27 3 29 (L ++ [(10 : Int32), (1 : Int32)]) s) := by
  obtain ⟨n, rfl⟩ : ∃ n, N = n + 2 := ⟨N - 2, by omega⟩
  obtain ⟨d0, d1⟩ := zaD' (h := 2) (by omega) hd
  rw [zyS155, zas_0_1 d0 (by omega)]
  rw [zyS157]
  rw [zau_10 hb, zaN_28, hk, zca_5_5_0 hb hk n (by omega) x _ _ ⟨by omega, by omega⟩ (by simp only [List.length_append, List.length_cons, List.length_nil]; omega), zq_bind]
  simp only [List.append_assoc, List.cons_append, List.nil_append]
theorem zca_5_2_1 (hb : zy_in b 50 = true) (hk : s.1 28 b.toNatClampNeg = (5 : Int32)) (N : Nat) (hN : 6 ≤ N) (x d : Int32) (L : List Int32) (hd : 0 ≤ d.toInt ∧ d.toInt + 3 ≤ 40) (hL : L.length + 3 ≤ 24) : (zyG155 N).1 b (2 : Int32) (1 : Int32) x d (zaN 27 3 29 L s) = some ((-((x + b) * (2 : Int32))), zaN 27 3 29 (L ++ [(30 : Int32), (10 : Int32), (1 : Int32)]) s) := by
  obtain ⟨n, rfl⟩ : ∃ n, N = n + 2 := ⟨N - 2, by omega⟩
  obtain ⟨d0, d1⟩ := zaD' (h := 3) (by omega) hd
  rw [zyS155, zas_2_1 d0 (by omega)]
  rw [zyS158]
  rw [zau_30 hb, zca_5_0_1 hb hk n (by omega) x _ _ ⟨by omega, by omega⟩ (by simp only [List.length_append, List.length_cons, List.length_nil]; omega), zq_bind]
  simp only [List.append_assoc, List.cons_append, List.nil_append]
theorem zca_5_5_1 (hb : zy_in b 50 = true) (hk : s.1 28 b.toNatClampNeg = (5 : Int32)) (N : Nat) (hN : 8 ≤ N) (x d : Int32) (L : List Int32) (hd : 0 ≤ d.toInt ∧ d.toInt + 4 ≤ 40) (hL : L.length + 4 ≤ 24) : (zyG155 N).1 b (5 : Int32) (1 : Int32) x d (zaN 27 3 29 L s) = some ((-(((x + (1 : Int32)) + b) * (2 : Int32))), zaN 27 3 29 (L ++ [(41 : Int32), (30 : Int32), (10 : Int32), (1 : Int32)]) s) := by
  obtain ⟨n, rfl⟩ : ∃ n, N = n + 2 := ⟨N - 2, by omega⟩
  obtain ⟨d0, d1⟩ := zaD' (h := 4) (by omega) hd
  rw [zyS155, zas_5_1 d0 (by omega)]
  rw [zyS158]
  rw [zau_41 hb, zca_5_2_1 hb hk n (by omega) (x + (1 : Int32)) _ _ ⟨by omega, by omega⟩ (by simp only [List.length_append, List.length_cons, List.length_nil]; omega)]
  simp only [List.append_assoc, List.cons_append, List.nil_append]
theorem zca_5_2_2 (hb : zy_in b 50 = true) (hk : s.1 28 b.toNatClampNeg = (5 : Int32)) (N : Nat) (hN : 2 ≤ N) (x d : Int32) (L : List Int32) (hd : 0 ≤ d.toInt ∧ d.toInt + 1 ≤ 40) (hL : L.length + 1 ≤ 24) : (zyG155 N).1 b (2 : Int32) (2 : Int32) x d (zaN 27 3 29 L s) = some ((x ^^^ b), zaN 27 3 29 (L ++ [(11 : Int32)]) s) := by
  obtain ⟨n, rfl⟩ : ∃ n, N = n + 2 := ⟨N - 2, by omega⟩
  obtain ⟨d0, d1⟩ := zaD' (h := 1) (by omega) hd
  rw [zyS155, zas_2_2 d0 (by omega)]
  rw [zyS157]
  rw [zau_11 hb]
theorem zca_5_5_2 (hb : zy_in b 50 = true) (hk : s.1 28 b.toNatClampNeg = (5 : Int32)) (N : Nat) (hN : 4 ≤ N) (x d : Int32) (L : List Int32) (hd : 0 ≤ d.toInt ∧ d.toInt + 2 ≤ 40) (hL : L.length + 2 ≤ 24) : (zyG155 N).1 b (5 : Int32) (2 : Int32) x d (zaN 27 3 29 L s) = some (((x ^^^ b) * (3 : Int32)), zaN 27 3 29 (L ++ [(40 : Int32), (11 : Int32)]) s) := by
  obtain ⟨n, rfl⟩ : ∃ n, N = n + 2 := ⟨N - 2, by omega⟩
  obtain ⟨d0, d1⟩ := zaD' (h := 2) (by omega) hd
  rw [zyS155, zas_5_2 d0 (by omega)]
  rw [zyS158]
  rw [zau_40 hb, zca_5_2_2 hb hk n (by omega) x _ _ ⟨by omega, by omega⟩ (by simp only [List.length_append, List.length_cons, List.length_nil]; omega), zq_bind]
  simp only [List.append_assoc, List.cons_append, List.nil_append]
theorem zca_5_3_3 (hb : zy_in b 50 = true) (hk : s.1 28 b.toNatClampNeg = (5 : Int32)) (N : Nat) (hN : 10 ≤ N) (x d : Int32) (L : List Int32) (hd : 0 ≤ d.toInt ∧ d.toInt + 5 ≤ 40) (hL : L.length + 7 ≤ 24) : (zyG155 N).1 b (3 : Int32) (3 : Int32) x d (zaN 27 3 29 L s) = some (((-(((x + (1 : Int32)) + b) * (2 : Int32))) - (((1 : Int32) ^^^ b) * (3 : Int32))), zaN 27 3 29 (L ++ [(2 : Int32), (41 : Int32), (30 : Int32), (10 : Int32), (1 : Int32), (40 : Int32), (11 : Int32)]) s) := by
  obtain ⟨n, rfl⟩ : ∃ n, N = n + 2 := ⟨N - 2, by omega⟩
  obtain ⟨d0, d1⟩ := zaD' (h := 5) (by omega) hd
  rw [zyS155, zas_3_3 d0 (by omega)]
  rw [zyS157]
  rw [zau_2 hb, zaN_28, hk, zca_5_5_1 hb hk n (by omega) x _ _ ⟨by omega, by omega⟩ (by simp only [List.length_append, List.length_cons, List.length_nil]; omega), zq_bind]
  dsimp only
  rw [zca_5_5_2 hb hk n (by omega) (1 : Int32) _ _ ⟨by omega, by omega⟩ (by simp only [List.length_append, List.length_cons, List.length_nil]; omega), zq_bind]
  simp only [List.append_assoc, List.cons_append, List.nil_append]
theorem zca_5_5_3 (hb : zy_in b 50 = true) (hk : s.1 28 b.toNatClampNeg = (5 : Int32)) (N : Nat) (hN : 12 ≤ N) (x d : Int32) (L : List Int32) (hd : 0 ≤ d.toInt ∧ d.toInt + 6 ≤ 40) (hL : L.length + 8 ≤ 24) : (zyG155 N).1 b (5 : Int32) (3 : Int32) x d (zaN 27 3 29 L s) = some ((((-(((x + (1 : Int32)) + b) * (2 : Int32))) - (((1 : Int32) ^^^ b) * (3 : Int32))) ^^^ (5 : Int32)), zaN 27 3 29 (L ++ [(60 : Int32), (2 : Int32), (41 : Int32), (30 : Int32), (10 : Int32), (1 : Int32), (40 : Int32), (11 : Int32)]) s) := by
  obtain ⟨n, rfl⟩ : ∃ n, N = n + 2 := ⟨N - 2, by omega⟩
  obtain ⟨d0, d1⟩ := zaD' (h := 6) (by omega) hd
  rw [zyS155, zas_5_3 d0 (by omega)]
  rw [zyS158]
  rw [zau_60 hb, zca_5_3_3 hb hk n (by omega) x _ _ ⟨by omega, by omega⟩ (by simp only [List.length_append, List.length_cons, List.length_nil]; omega), zq_bind]
  simp only [List.append_assoc, List.cons_append, List.nil_append]
theorem zca_6_0_0 (hb : zy_in b 50 = true) (hk : s.1 28 b.toNatClampNeg = (6 : Int32)) (N : Nat) (hN : 2 ≤ N) (x d : Int32) (L : List Int32) (hd : 0 ≤ d.toInt ∧ d.toInt + 1 ≤ 40) (hL : L.length + 1 ≤ 24) : (zyG155 N).1 b (0 : Int32) (0 : Int32) x d (zaN 27 3 29 L s) = some ((x + b), zaN 27 3 29 (L ++ [(1 : Int32)]) s) := by
  obtain ⟨n, rfl⟩ : ∃ n, N = n + 2 := ⟨N - 2, by omega⟩
  obtain ⟨d0, d1⟩ := zaD' (h := 1) (by omega) hd
  rw [zyS155, zas_0_0 d0 (by omega)]
  rw [zyS157]
  rw [zau_1 hb]
theorem zca_6_6_0 (hb : zy_in b 50 = true) (hk : s.1 28 b.toNatClampNeg = (6 : Int32)) (N : Nat) (hN : 4 ≤ N) (x d : Int32) (L : List Int32) (hd : 0 ≤ d.toInt ∧ d.toInt + 2 ≤ 40) (hL : L.length + 2 ≤ 24) : (zyG155 N).1 b (6 : Int32) (0 : Int32) x d (zaN 27 3 29 L s) = some (((x + b) * (2 : Int32)), zaN 27 3 29 (L ++ [(70 : Int32), (1 : Int32)]) s) := by
  obtain ⟨n, rfl⟩ : ∃ n, N = n + 2 := ⟨N - 2, by omega⟩
  obtain ⟨d0, d1⟩ := zaD' (h := 2) (by omega) hd
  rw [zyS155, zas_6_0 d0 (by omega)]
  rw [zyS158]
  rw [zau_70 hb, zca_6_0_0 hb hk n (by omega) x _ _ ⟨by omega, by omega⟩ (by simp only [List.length_append, List.length_cons, List.length_nil]; omega), zq_bind]
  simp only [List.append_assoc, List.cons_append, List.nil_append]
theorem zca_6_6_1 (hb : zy_in b 50 = true) (hk : s.1 28 b.toNatClampNeg = (6 : Int32)) (N : Nat) (hN : 6 ≤ N) (x d : Int32) (L : List Int32) (hd : 0 ≤ d.toInt ∧ d.toInt + 3 ≤ 40) (hL : L.length + 3 ≤ 24) : (zyG155 N).1 b (6 : Int32) (1 : Int32) x d (zaN 27 3 29 L s) = some ((((x + b) * (2 : Int32)) * (2 : Int32)), zaN 27 3 29 (L ++ [(10 : Int32), (70 : Int32), (1 : Int32)]) s) := by
  obtain ⟨n, rfl⟩ : ∃ n, N = n + 2 := ⟨N - 2, by omega⟩
  obtain ⟨d0, d1⟩ := zaD' (h := 3) (by omega) hd
  rw [zyS155, zas_6_1 d0 (by omega)]
  rw [zyS157]
  rw [zau_10 hb, zaN_28, hk, zca_6_6_0 hb hk n (by omega) x _ _ ⟨by omega, by omega⟩ (by simp only [List.length_append, List.length_cons, List.length_nil]; omega), zq_bind]
  simp only [List.append_assoc, List.cons_append, List.nil_append]
theorem zca_6_6_2 (hb : zy_in b 50 = true) (hk : s.1 28 b.toNatClampNeg = (6 : Int32)) (N : Nat) (hN : 2 ≤ N) (x d : Int32) (L : List Int32) (hd : 0 ≤ d.toInt ∧ d.toInt + 1 ≤ 40) (hL : L.length + 1 ≤ 24) : (zyG155 N).1 b (6 : Int32) (2 : Int32) x d (zaN 27 3 29 L s) = some ((x ^^^ b), zaN 27 3 29 (L ++ [(11 : Int32)]) s) := by
  obtain ⟨n, rfl⟩ : ∃ n, N = n + 2 := ⟨N - 2, by omega⟩
  obtain ⟨d0, d1⟩ := zaD' (h := 1) (by omega) hd
  rw [zyS155, zas_6_2 d0 (by omega)]
  rw [zyS157]
  rw [zau_11 hb]
theorem zca_6_6_3 (hb : zy_in b 50 = true) (hk : s.1 28 b.toNatClampNeg = (6 : Int32)) (N : Nat) (hN : 8 ≤ N) (x d : Int32) (L : List Int32) (hd : 0 ≤ d.toInt ∧ d.toInt + 4 ≤ 40) (hL : L.length + 5 ≤ 24) : (zyG155 N).1 b (6 : Int32) (3 : Int32) x d (zaN 27 3 29 L s) = some (((((x + b) * (2 : Int32)) * (2 : Int32)) - ((1 : Int32) ^^^ b)), zaN 27 3 29 (L ++ [(2 : Int32), (10 : Int32), (70 : Int32), (1 : Int32), (11 : Int32)]) s) := by
  obtain ⟨n, rfl⟩ : ∃ n, N = n + 2 := ⟨N - 2, by omega⟩
  obtain ⟨d0, d1⟩ := zaD' (h := 4) (by omega) hd
  rw [zyS155, zas_6_3 d0 (by omega)]
  rw [zyS157]
  rw [zau_2 hb, zaN_28, hk, zca_6_6_1 hb hk n (by omega) x _ _ ⟨by omega, by omega⟩ (by simp only [List.length_append, List.length_cons, List.length_nil]; omega), zq_bind]
  dsimp only
  rw [zca_6_6_2 hb hk n (by omega) (1 : Int32) _ _ ⟨by omega, by omega⟩ (by simp only [List.length_append, List.length_cons, List.length_nil]; omega), zq_bind]
  simp only [List.append_assoc, List.cons_append, List.nil_append]
theorem zca_7_0_0 (hb : zy_in b 50 = true) (hk : s.1 28 b.toNatClampNeg = (7 : Int32)) (N : Nat) (hN : 2 ≤ N) (x d : Int32) (L : List Int32) (hd : 0 ≤ d.toInt ∧ d.toInt + 1 ≤ 40) (hL : L.length + 1 ≤ 24) : (zyG155 N).1 b (0 : Int32) (0 : Int32) x d (zaN 27 3 29 L s) = some ((x + b), zaN 27 3 29 (L ++ [(1 : Int32)]) s) := by
  obtain ⟨n, rfl⟩ : ∃ n, N = n + 2 := ⟨N - 2, by omega⟩
  obtain ⟨d0, d1⟩ := zaD' (h := 1) (by omega) hd
  rw [zyS155, zas_0_0 d0 (by omega)]
  rw [zyS157]
  rw [zau_1 hb]
theorem zca_7_7_0 (hb : zy_in b 50 = true) (hk : s.1 28 b.toNatClampNeg = (7 : Int32)) (N : Nat) (hN : 4 ≤ N) (x d : Int32) (L : List Int32) (hd : 0 ≤ d.toInt ∧ d.toInt + 2 ≤ 40) (hL : L.length + 2 ≤ 24) : (zyG155 N).1 b (7 : Int32) (0 : Int32) x d (zaN 27 3 29 L s) = some (((x + b) + (3 : Int32)), zaN 27 3 29 (L ++ [(20 : Int32), (1 : Int32)]) s) := by
  obtain ⟨n, rfl⟩ : ∃ n, N = n + 2 := ⟨N - 2, by omega⟩
  obtain ⟨d0, d1⟩ := zaD' (h := 2) (by omega) hd
  rw [zyS155, zas_7_0 d0 (by omega)]
  rw [zyS158]
  rw [zau_20 hb, zca_7_0_0 hb hk n (by omega) x _ _ ⟨by omega, by omega⟩ (by simp only [List.length_append, List.length_cons, List.length_nil]; omega), zq_bind]
  simp only [List.append_assoc, List.cons_append, List.nil_append]
theorem zca_7_4_1 (hb : zy_in b 50 = true) (hk : s.1 28 b.toNatClampNeg = (7 : Int32)) (N : Nat) (hN : 6 ≤ N) (x d : Int32) (L : List Int32) (hd : 0 ≤ d.toInt ∧ d.toInt + 3 ≤ 40) (hL : L.length + 3 ≤ 24) : (zyG155 N).1 b (4 : Int32) (1 : Int32) x d (zaN 27 3 29 L s) = some ((((x + b) + (3 : Int32)) * (2 : Int32)), zaN 27 3 29 (L ++ [(10 : Int32), (20 : Int32), (1 : Int32)]) s) := by
  obtain ⟨n, rfl⟩ : ∃ n, N = n + 2 := ⟨N - 2, by omega⟩
  obtain ⟨d0, d1⟩ := zaD' (h := 3) (by omega) hd
  rw [zyS155, zas_4_1 d0 (by omega)]
  rw [zyS157]
  rw [zau_10 hb, zaN_28, hk, zca_7_7_0 hb hk n (by omega) x _ _ ⟨by omega, by omega⟩ (by simp only [List.length_append, List.length_cons, List.length_nil]; omega), zq_bind]
  simp only [List.append_assoc, List.cons_append, List.nil_append]
theorem zca_7_1_2 (hb : zy_in b 50 = true) (hk : s.1 28 b.toNatClampNeg = (7 : Int32)) (N : Nat) (hN : 2 ≤ N) (x d : Int32) (L : List Int32) (hd : 0 ≤ d.toInt ∧ d.toInt + 1 ≤ 40) (hL : L.length + 1 ≤ 24) : (zyG155 N).1 b (1 : Int32) (2 : Int32) x d (zaN 27 3 29 L s) = some ((x ^^^ b), zaN 27 3 29 (L ++ [(11 : Int32)]) s) := by
  obtain ⟨n, rfl⟩ : ∃ n, N = n + 2 := ⟨N - 2, by omega⟩
  obtain ⟨d0, d1⟩ := zaD' (h := 1) (by omega) hd
  rw [zyS155, zas_1_2 d0 (by omega)]
  rw [zyS157]
  rw [zau_11 hb]
theorem zca_7_7_2 (hb : zy_in b 50 = true) (hk : s.1 28 b.toNatClampNeg = (7 : Int32)) (N : Nat) (hN : 6 ≤ N) (x d : Int32) (L : List Int32) (hd : 0 ≤ d.toInt ∧ d.toInt + 3 ≤ 40) (hL : L.length + 4 ≤ 24) : (zyG155 N).1 b (7 : Int32) (2 : Int32) x d (zaN 27 3 29 L s) = some (((x ^^^ b) - (((2 : Int32) + b) + (3 : Int32))), zaN 27 3 29 (L ++ [(50 : Int32), (11 : Int32), (20 : Int32), (1 : Int32)]) s) := by
  obtain ⟨n, rfl⟩ : ∃ n, N = n + 2 := ⟨N - 2, by omega⟩
  obtain ⟨d0, d1⟩ := zaD' (h := 3) (by omega) hd
  rw [zyS155, zas_7_2 d0 (by omega)]
  rw [zyS158]
  rw [zau_50 hb, zaN_28, hk, zca_7_1_2 hb hk n (by omega) x _ _ ⟨by omega, by omega⟩ (by simp only [List.length_append, List.length_cons, List.length_nil]; omega), zq_bind]
  dsimp only
  rw [zca_7_7_0 hb hk n (by omega) (2 : Int32) _ _ ⟨by omega, by omega⟩ (by simp only [List.length_append, List.length_cons, List.length_nil]; omega), zq_bind]
  simp only [List.append_assoc, List.cons_append, List.nil_append]
theorem zca_7_7_1 (hb : zy_in b 50 = true) (hk : s.1 28 b.toNatClampNeg = (7 : Int32)) (N : Nat) (hN : 8 ≤ N) (x d : Int32) (L : List Int32) (hd : 0 ≤ d.toInt ∧ d.toInt + 4 ≤ 40) (hL : L.length + 8 ≤ 24) : (zyG155 N).1 b (7 : Int32) (1 : Int32) x d (zaN 27 3 29 L s) = some (((((x + b) + (3 : Int32)) * (2 : Int32)) + (((2 : Int32) ^^^ b) - (((2 : Int32) + b) + (3 : Int32)))), zaN 27 3 29 (L ++ [(80 : Int32), (10 : Int32), (20 : Int32), (1 : Int32), (50 : Int32), (11 : Int32), (20 : Int32), (1 : Int32)]) s) := by
  obtain ⟨n, rfl⟩ : ∃ n, N = n + 2 := ⟨N - 2, by omega⟩
  obtain ⟨d0, d1⟩ := zaD' (h := 4) (by omega) hd
  rw [zyS155, zas_7_1 d0 (by omega)]
  rw [zyS158]
  rw [zau_80 hb, zaN_28, hk, zca_7_4_1 hb hk n (by omega) x _ _ ⟨by omega, by omega⟩ (by simp only [List.length_append, List.length_cons, List.length_nil]; omega), zq_bind]
  dsimp only
  rw [zca_7_7_2 hb hk n (by omega) (2 : Int32) _ _ ⟨by omega, by omega⟩ (by simp only [List.length_append, List.length_cons, List.length_nil]; omega), zq_bind]
  simp only [List.append_assoc, List.cons_append, List.nil_append]
theorem zca_7_4_3 (hb : zy_in b 50 = true) (hk : s.1 28 b.toNatClampNeg = (7 : Int32)) (N : Nat) (hN : 10 ≤ N) (x d : Int32) (L : List Int32) (hd : 0 ≤ d.toInt ∧ d.toInt + 5 ≤ 40) (hL : L.length + 13 ≤ 24) : (zyG155 N).1 b (4 : Int32) (3 : Int32) x d (zaN 27 3 29 L s) = some ((((((x + b) + (3 : Int32)) * (2 : Int32)) + (((2 : Int32) ^^^ b) - (((2 : Int32) + b) + (3 : Int32)))) - (((1 : Int32) ^^^ b) - (((2 : Int32) + b) + (3 : Int32)))), zaN 27 3 29 (L ++ [(2 : Int32), (80 : Int32), (10 : Int32), (20 : Int32), (1 : Int32), (50 : Int32), (11 : Int32), (20 : Int32), (1 : Int32), (50 : Int32), (11 : Int32), (20 : Int32), (1 : Int32)]) s) := by
  obtain ⟨n, rfl⟩ : ∃ n, N = n + 2 := ⟨N - 2, by omega⟩
  obtain ⟨d0, d1⟩ := zaD' (h := 5) (by omega) hd
  rw [zyS155, zas_4_3 d0 (by omega)]
  rw [zyS157]
  rw [zau_2 hb, zaN_28, hk, zca_7_7_1 hb hk n (by omega) x _ _ ⟨by omega, by omega⟩ (by simp only [List.length_append, List.length_cons, List.length_nil]; omega), zq_bind]
  dsimp only
  rw [zca_7_7_2 hb hk n (by omega) (1 : Int32) _ _ ⟨by omega, by omega⟩ (by simp only [List.length_append, List.length_cons, List.length_nil]; omega), zq_bind]
  simp only [List.append_assoc, List.cons_append, List.nil_append]
theorem zca_7_7_3 (hb : zy_in b 50 = true) (hk : s.1 28 b.toNatClampNeg = (7 : Int32)) (N : Nat) (hN : 12 ≤ N) (x d : Int32) (L : List Int32) (hd : 0 ≤ d.toInt ∧ d.toInt + 6 ≤ 40) (hL : L.length + 14 ≤ 24) : (zyG155 N).1 b (7 : Int32) (3 : Int32) x d (zaN 27 3 29 L s) = some (((((((x + b) + (3 : Int32)) * (2 : Int32)) + (((2 : Int32) ^^^ b) - (((2 : Int32) + b) + (3 : Int32)))) - (((1 : Int32) ^^^ b) - (((2 : Int32) + b) + (3 : Int32)))) - (1 : Int32)), zaN 27 3 29 (L ++ [(81 : Int32), (2 : Int32), (80 : Int32), (10 : Int32), (20 : Int32), (1 : Int32), (50 : Int32), (11 : Int32), (20 : Int32), (1 : Int32), (50 : Int32), (11 : Int32), (20 : Int32), (1 : Int32)]) s) := by
  obtain ⟨n, rfl⟩ : ∃ n, N = n + 2 := ⟨N - 2, by omega⟩
  obtain ⟨d0, d1⟩ := zaD' (h := 6) (by omega) hd
  rw [zyS155, zas_7_3 d0 (by omega)]
  rw [zyS158]
  rw [zau_81 hb, zca_7_4_3 hb hk n (by omega) x _ _ ⟨by omega, by omega⟩ (by simp only [List.length_append, List.length_cons, List.length_nil]; omega), zq_bind]
  simp only [List.append_assoc, List.cons_append, List.nil_append]
end ZB
end
section
/-! PART 46.912: what each kind runs, in the model. Made by wip/v6/gen_act.py. -/
section ZB
variable {b : Int32} {t : zy_S}
theorem zma_0_0_0 (hk : t.1 43 32 = (0 : Int32)) (hn : t.1 43 33 = b) (N : Nat) (hN : 1 ≤ N) (x : Int32) (L : List Int32) (hL : L.length + 1 ≤ 24) : zyG250 N (0 : Int32) x (zaN 43 31 59 L t) = some ((x + b), zaN 43 31 59 (L ++ [(1 : Int32)]) t) := by
  obtain ⟨n, rfl⟩ : ∃ n, N = n + 1 := ⟨N - 1, by omega⟩
  rw [zyS250]
  unfold zyF250_0
  rw [if_neg (by decide), if_neg (by decide), if_pos (by decide), if_pos (by decide)]
  rw [zaN_251 _ (by omega), zq_bind]
  dsimp only
  rw [zaN_33, hn]
theorem zma_0_0_1 (hk : t.1 43 32 = (0 : Int32)) (hn : t.1 43 33 = b) (N : Nat) (hN : 1 ≤ N) (x : Int32) (L : List Int32) (hL : L.length + 2 ≤ 24) : zyG252 N (0 : Int32) x (zaN 43 31 59 L t) = some (((x + b) * (2 : Int32)), zaN 43 31 59 (L ++ [(10 : Int32), (1 : Int32)]) t) := by
  obtain ⟨n, rfl⟩ : ∃ n, N = n + 1 := ⟨N - 1, by omega⟩
  rw [zyS252]
  unfold zyF252_0
  rw [if_neg (by decide), if_pos (by decide), if_pos (by decide), if_pos (by decide)]
  rw [zaN_251 _ (by omega), zq_bind]
  dsimp only
  rw [zaN_32, hk, show zyF250 = zyG250 100 from rfl, zma_0_0_0 hk hn 100 (by omega) x _ (by simp only [List.length_append, List.length_cons, List.length_nil]; omega), zq_bind]
  dsimp only
  simp only [List.append_assoc, List.cons_append, List.nil_append]
theorem zma_0_0_2 (hk : t.1 43 32 = (0 : Int32)) (hn : t.1 43 33 = b) (N : Nat) (hN : 1 ≤ N) (x : Int32) (L : List Int32) (hL : L.length + 1 ≤ 24) : zyG253 N (0 : Int32) x (zaN 43 31 59 L t) = some ((x ^^^ b), zaN 43 31 59 (L ++ [(11 : Int32)]) t) := by
  obtain ⟨n, rfl⟩ : ∃ n, N = n + 1 := ⟨N - 1, by omega⟩
  rw [zyS253]
  unfold zyF253_0
  rw [if_neg (by decide), if_pos (by decide), if_neg (by decide), if_pos (by decide)]
  rw [zaN_251 _ (by omega), zq_bind]
  dsimp only
  rw [zaN_33, hn]
theorem zma_0_0_3 (hk : t.1 43 32 = (0 : Int32)) (hn : t.1 43 33 = b) (N : Nat) (hN : 1 ≤ N) (x : Int32) (L : List Int32) (hL : L.length + 4 ≤ 24) : zyG254 N (0 : Int32) x (zaN 43 31 59 L t) = some ((((x + b) * (2 : Int32)) - ((1 : Int32) ^^^ b)), zaN 43 31 59 (L ++ [(2 : Int32), (10 : Int32), (1 : Int32), (11 : Int32)]) t) := by
  obtain ⟨n, rfl⟩ : ∃ n, N = n + 1 := ⟨N - 1, by omega⟩
  rw [zyS254]
  unfold zyF254_0
  rw [if_pos (by decide), if_pos (by decide)]
  rw [zaN_251 _ (by omega), zq_bind]
  dsimp only
  rw [zaN_32, hk, show zyF252 = zyG252 100 from rfl, zma_0_0_1 hk hn 100 (by omega) x _ (by simp only [List.length_append, List.length_cons, List.length_nil]; omega), zq_bind]
  dsimp only
  rw [zaN_32, hk, show zyF253 = zyG253 100 from rfl, zma_0_0_2 hk hn 100 (by omega) (1 : Int32) _ (by simp only [List.length_append, List.length_cons, List.length_nil]; omega), zq_bind]
  dsimp only
  simp only [List.append_assoc, List.cons_append, List.nil_append]
theorem zma_1_0_0 (hk : t.1 43 32 = (1 : Int32)) (hn : t.1 43 33 = b) (N : Nat) (hN : 1 ≤ N) (x : Int32) (L : List Int32) (hL : L.length + 1 ≤ 24) : zyG250 N (0 : Int32) x (zaN 43 31 59 L t) = some ((x + b), zaN 43 31 59 (L ++ [(1 : Int32)]) t) := by
  obtain ⟨n, rfl⟩ : ∃ n, N = n + 1 := ⟨N - 1, by omega⟩
  rw [zyS250]
  unfold zyF250_0
  rw [if_neg (by decide), if_neg (by decide), if_pos (by decide), if_pos (by decide)]
  rw [zaN_251 _ (by omega), zq_bind]
  dsimp only
  rw [zaN_33, hn]
theorem zma_1_1_0 (hk : t.1 43 32 = (1 : Int32)) (hn : t.1 43 33 = b) (N : Nat) (hN : 2 ≤ N) (x : Int32) (L : List Int32) (hL : L.length + 2 ≤ 24) : zyG250 N (1 : Int32) x (zaN 43 31 59 L t) = some (((x + b) + (3 : Int32)), zaN 43 31 59 (L ++ [(20 : Int32), (1 : Int32)]) t) := by
  obtain ⟨n, rfl⟩ : ∃ n, N = n + 1 := ⟨N - 1, by omega⟩
  rw [zyS250]
  unfold zyF250_0
  rw [if_pos (by decide)]
  unfold zyF250_16
  rw [zaN_251 _ (by omega), zq_bind]
  dsimp only
  rw [zma_1_0_0 hk hn n (by omega) x _ (by simp only [List.length_append, List.length_cons, List.length_nil]; omega), zq_bind]
  dsimp only
  simp only [List.append_assoc, List.cons_append, List.nil_append]
theorem zma_1_1_1 (hk : t.1 43 32 = (1 : Int32)) (hn : t.1 43 33 = b) (N : Nat) (hN : 1 ≤ N) (x : Int32) (L : List Int32) (hL : L.length + 3 ≤ 24) : zyG252 N (1 : Int32) x (zaN 43 31 59 L t) = some ((((x + b) + (3 : Int32)) * (2 : Int32)), zaN 43 31 59 (L ++ [(10 : Int32), (20 : Int32), (1 : Int32)]) t) := by
  obtain ⟨n, rfl⟩ : ∃ n, N = n + 1 := ⟨N - 1, by omega⟩
  rw [zyS252]
  unfold zyF252_0
  rw [if_neg (by decide), if_pos (by decide), if_pos (by decide), if_pos (by decide)]
  rw [zaN_251 _ (by omega), zq_bind]
  dsimp only
  rw [zaN_32, hk, show zyF250 = zyG250 100 from rfl, zma_1_1_0 hk hn 100 (by omega) x _ (by simp only [List.length_append, List.length_cons, List.length_nil]; omega), zq_bind]
  dsimp only
  simp only [List.append_assoc, List.cons_append, List.nil_append]
theorem zma_1_1_2 (hk : t.1 43 32 = (1 : Int32)) (hn : t.1 43 33 = b) (N : Nat) (hN : 1 ≤ N) (x : Int32) (L : List Int32) (hL : L.length + 1 ≤ 24) : zyG253 N (1 : Int32) x (zaN 43 31 59 L t) = some ((x ^^^ b), zaN 43 31 59 (L ++ [(11 : Int32)]) t) := by
  obtain ⟨n, rfl⟩ : ∃ n, N = n + 1 := ⟨N - 1, by omega⟩
  rw [zyS253]
  unfold zyF253_0
  rw [if_neg (by decide), if_pos (by decide), if_neg (by decide), if_pos (by decide)]
  rw [zaN_251 _ (by omega), zq_bind]
  dsimp only
  rw [zaN_33, hn]
theorem zma_1_1_3 (hk : t.1 43 32 = (1 : Int32)) (hn : t.1 43 33 = b) (N : Nat) (hN : 1 ≤ N) (x : Int32) (L : List Int32) (hL : L.length + 5 ≤ 24) : zyG254 N (1 : Int32) x (zaN 43 31 59 L t) = some (((((x + b) + (3 : Int32)) * (2 : Int32)) - ((1 : Int32) ^^^ b)), zaN 43 31 59 (L ++ [(2 : Int32), (10 : Int32), (20 : Int32), (1 : Int32), (11 : Int32)]) t) := by
  obtain ⟨n, rfl⟩ : ∃ n, N = n + 1 := ⟨N - 1, by omega⟩
  rw [zyS254]
  unfold zyF254_0
  rw [if_pos (by decide), if_pos (by decide)]
  rw [zaN_251 _ (by omega), zq_bind]
  dsimp only
  rw [zaN_32, hk, show zyF252 = zyG252 100 from rfl, zma_1_1_1 hk hn 100 (by omega) x _ (by simp only [List.length_append, List.length_cons, List.length_nil]; omega), zq_bind]
  dsimp only
  rw [zaN_32, hk, show zyF253 = zyG253 100 from rfl, zma_1_1_2 hk hn 100 (by omega) (1 : Int32) _ (by simp only [List.length_append, List.length_cons, List.length_nil]; omega), zq_bind]
  dsimp only
  simp only [List.append_assoc, List.cons_append, List.nil_append]
theorem zma_2_2_0 (hk : t.1 43 32 = (2 : Int32)) (hn : t.1 43 33 = b) (N : Nat) (hN : 1 ≤ N) (x : Int32) (L : List Int32) (hL : L.length + 1 ≤ 24) : zyG250 N (2 : Int32) x (zaN 43 31 59 L t) = some ((x + b), zaN 43 31 59 (L ++ [(1 : Int32)]) t) := by
  obtain ⟨n, rfl⟩ : ∃ n, N = n + 1 := ⟨N - 1, by omega⟩
  rw [zyS250]
  unfold zyF250_0
  rw [if_neg (by decide), if_neg (by decide), if_pos (by decide), if_pos (by decide)]
  rw [zaN_251 _ (by omega), zq_bind]
  dsimp only
  rw [zaN_33, hn]
theorem zma_2_0_1 (hk : t.1 43 32 = (2 : Int32)) (hn : t.1 43 33 = b) (N : Nat) (hN : 1 ≤ N) (x : Int32) (L : List Int32) (hL : L.length + 2 ≤ 24) : zyG252 N (0 : Int32) x (zaN 43 31 59 L t) = some (((x + b) * (2 : Int32)), zaN 43 31 59 (L ++ [(10 : Int32), (1 : Int32)]) t) := by
  obtain ⟨n, rfl⟩ : ∃ n, N = n + 1 := ⟨N - 1, by omega⟩
  rw [zyS252]
  unfold zyF252_0
  rw [if_neg (by decide), if_pos (by decide), if_pos (by decide), if_pos (by decide)]
  rw [zaN_251 _ (by omega), zq_bind]
  dsimp only
  rw [zaN_32, hk, show zyF250 = zyG250 100 from rfl, zma_2_2_0 hk hn 100 (by omega) x _ (by simp only [List.length_append, List.length_cons, List.length_nil]; omega), zq_bind]
  dsimp only
  simp only [List.append_assoc, List.cons_append, List.nil_append]
theorem zma_2_2_1 (hk : t.1 43 32 = (2 : Int32)) (hn : t.1 43 33 = b) (N : Nat) (hN : 2 ≤ N) (x : Int32) (L : List Int32) (hL : L.length + 3 ≤ 24) : zyG252 N (2 : Int32) x (zaN 43 31 59 L t) = some ((-((x + b) * (2 : Int32))), zaN 43 31 59 (L ++ [(30 : Int32), (10 : Int32), (1 : Int32)]) t) := by
  obtain ⟨n, rfl⟩ : ∃ n, N = n + 1 := ⟨N - 1, by omega⟩
  rw [zyS252]
  unfold zyF252_0
  rw [if_neg (by decide), if_pos (by decide), if_neg (by decide)]
  rw [zaN_251 _ (by omega), zq_bind]
  dsimp only
  rw [zma_2_0_1 hk hn n (by omega) x _ (by simp only [List.length_append, List.length_cons, List.length_nil]; omega), zq_bind]
  dsimp only
  simp only [List.append_assoc, List.cons_append, List.nil_append]
theorem zma_2_2_2 (hk : t.1 43 32 = (2 : Int32)) (hn : t.1 43 33 = b) (N : Nat) (hN : 1 ≤ N) (x : Int32) (L : List Int32) (hL : L.length + 1 ≤ 24) : zyG253 N (2 : Int32) x (zaN 43 31 59 L t) = some ((x ^^^ b), zaN 43 31 59 (L ++ [(11 : Int32)]) t) := by
  obtain ⟨n, rfl⟩ : ∃ n, N = n + 1 := ⟨N - 1, by omega⟩
  rw [zyS253]
  unfold zyF253_0
  rw [if_neg (by decide), if_pos (by decide), if_neg (by decide), if_pos (by decide)]
  rw [zaN_251 _ (by omega), zq_bind]
  dsimp only
  rw [zaN_33, hn]
theorem zma_2_2_3 (hk : t.1 43 32 = (2 : Int32)) (hn : t.1 43 33 = b) (N : Nat) (hN : 1 ≤ N) (x : Int32) (L : List Int32) (hL : L.length + 5 ≤ 24) : zyG254 N (2 : Int32) x (zaN 43 31 59 L t) = some (((-((x + b) * (2 : Int32))) - ((1 : Int32) ^^^ b)), zaN 43 31 59 (L ++ [(2 : Int32), (30 : Int32), (10 : Int32), (1 : Int32), (11 : Int32)]) t) := by
  obtain ⟨n, rfl⟩ : ∃ n, N = n + 1 := ⟨N - 1, by omega⟩
  rw [zyS254]
  unfold zyF254_0
  rw [if_pos (by decide), if_pos (by decide)]
  rw [zaN_251 _ (by omega), zq_bind]
  dsimp only
  rw [zaN_32, hk, show zyF252 = zyG252 100 from rfl, zma_2_2_1 hk hn 100 (by omega) x _ (by simp only [List.length_append, List.length_cons, List.length_nil]; omega), zq_bind]
  dsimp only
  rw [zaN_32, hk, show zyF253 = zyG253 100 from rfl, zma_2_2_2 hk hn 100 (by omega) (1 : Int32) _ (by simp only [List.length_append, List.length_cons, List.length_nil]; omega), zq_bind]
  dsimp only
  simp only [List.append_assoc, List.cons_append, List.nil_append]
theorem zma_3_3_0 (hk : t.1 43 32 = (3 : Int32)) (hn : t.1 43 33 = b) (N : Nat) (hN : 1 ≤ N) (x : Int32) (L : List Int32) (hL : L.length + 1 ≤ 24) : zyG250 N (3 : Int32) x (zaN 43 31 59 L t) = some ((x + b), zaN 43 31 59 (L ++ [(1 : Int32)]) t) := by
  obtain ⟨n, rfl⟩ : ∃ n, N = n + 1 := ⟨N - 1, by omega⟩
  rw [zyS250]
  unfold zyF250_0
  rw [if_neg (by decide), if_neg (by decide), if_pos (by decide), if_pos (by decide)]
  rw [zaN_251 _ (by omega), zq_bind]
  dsimp only
  rw [zaN_33, hn]
theorem zma_3_0_1 (hk : t.1 43 32 = (3 : Int32)) (hn : t.1 43 33 = b) (N : Nat) (hN : 1 ≤ N) (x : Int32) (L : List Int32) (hL : L.length + 2 ≤ 24) : zyG252 N (0 : Int32) x (zaN 43 31 59 L t) = some (((x + b) * (2 : Int32)), zaN 43 31 59 (L ++ [(10 : Int32), (1 : Int32)]) t) := by
  obtain ⟨n, rfl⟩ : ∃ n, N = n + 1 := ⟨N - 1, by omega⟩
  rw [zyS252]
  unfold zyF252_0
  rw [if_neg (by decide), if_pos (by decide), if_pos (by decide), if_pos (by decide)]
  rw [zaN_251 _ (by omega), zq_bind]
  dsimp only
  rw [zaN_32, hk, show zyF250 = zyG250 100 from rfl, zma_3_3_0 hk hn 100 (by omega) x _ (by simp only [List.length_append, List.length_cons, List.length_nil]; omega), zq_bind]
  dsimp only
  simp only [List.append_assoc, List.cons_append, List.nil_append]
theorem zma_3_2_1 (hk : t.1 43 32 = (3 : Int32)) (hn : t.1 43 33 = b) (N : Nat) (hN : 2 ≤ N) (x : Int32) (L : List Int32) (hL : L.length + 3 ≤ 24) : zyG252 N (2 : Int32) x (zaN 43 31 59 L t) = some ((-((x + b) * (2 : Int32))), zaN 43 31 59 (L ++ [(30 : Int32), (10 : Int32), (1 : Int32)]) t) := by
  obtain ⟨n, rfl⟩ : ∃ n, N = n + 1 := ⟨N - 1, by omega⟩
  rw [zyS252]
  unfold zyF252_0
  rw [if_neg (by decide), if_pos (by decide), if_neg (by decide)]
  rw [zaN_251 _ (by omega), zq_bind]
  dsimp only
  rw [zma_3_0_1 hk hn n (by omega) x _ (by simp only [List.length_append, List.length_cons, List.length_nil]; omega), zq_bind]
  dsimp only
  simp only [List.append_assoc, List.cons_append, List.nil_append]
theorem zma_3_3_1 (hk : t.1 43 32 = (3 : Int32)) (hn : t.1 43 33 = b) (N : Nat) (hN : 3 ≤ N) (x : Int32) (L : List Int32) (hL : L.length + 4 ≤ 24) : zyG252 N (3 : Int32) x (zaN 43 31 59 L t) = some ((-(((x + (1 : Int32)) + b) * (2 : Int32))), zaN 43 31 59 (L ++ [(41 : Int32), (30 : Int32), (10 : Int32), (1 : Int32)]) t) := by
  obtain ⟨n, rfl⟩ : ∃ n, N = n + 1 := ⟨N - 1, by omega⟩
  rw [zyS252]
  unfold zyF252_0
  rw [if_pos (by decide)]
  unfold zyF252_10
  rw [zaN_251 _ (by omega), zq_bind]
  dsimp only
  rw [zma_3_2_1 hk hn n (by omega) (x + (1 : Int32)) _ (by simp only [List.length_append, List.length_cons, List.length_nil]; omega), zq_bind]
  dsimp only
  simp only [List.append_assoc, List.cons_append, List.nil_append]
theorem zma_3_2_2 (hk : t.1 43 32 = (3 : Int32)) (hn : t.1 43 33 = b) (N : Nat) (hN : 1 ≤ N) (x : Int32) (L : List Int32) (hL : L.length + 1 ≤ 24) : zyG253 N (2 : Int32) x (zaN 43 31 59 L t) = some ((x ^^^ b), zaN 43 31 59 (L ++ [(11 : Int32)]) t) := by
  obtain ⟨n, rfl⟩ : ∃ n, N = n + 1 := ⟨N - 1, by omega⟩
  rw [zyS253]
  unfold zyF253_0
  rw [if_neg (by decide), if_pos (by decide), if_neg (by decide), if_pos (by decide)]
  rw [zaN_251 _ (by omega), zq_bind]
  dsimp only
  rw [zaN_33, hn]
theorem zma_3_3_2 (hk : t.1 43 32 = (3 : Int32)) (hn : t.1 43 33 = b) (N : Nat) (hN : 2 ≤ N) (x : Int32) (L : List Int32) (hL : L.length + 2 ≤ 24) : zyG253 N (3 : Int32) x (zaN 43 31 59 L t) = some (((x ^^^ b) * (3 : Int32)), zaN 43 31 59 (L ++ [(40 : Int32), (11 : Int32)]) t) := by
  obtain ⟨n, rfl⟩ : ∃ n, N = n + 1 := ⟨N - 1, by omega⟩
  rw [zyS253]
  unfold zyF253_0
  rw [if_pos (by decide)]
  unfold zyF253_10
  rw [zaN_251 _ (by omega), zq_bind]
  dsimp only
  rw [zma_3_2_2 hk hn n (by omega) x _ (by simp only [List.length_append, List.length_cons, List.length_nil]; omega), zq_bind]
  dsimp only
  simp only [List.append_assoc, List.cons_append, List.nil_append]
theorem zma_3_3_3 (hk : t.1 43 32 = (3 : Int32)) (hn : t.1 43 33 = b) (N : Nat) (hN : 1 ≤ N) (x : Int32) (L : List Int32) (hL : L.length + 7 ≤ 24) : zyG254 N (3 : Int32) x (zaN 43 31 59 L t) = some (((-(((x + (1 : Int32)) + b) * (2 : Int32))) - (((1 : Int32) ^^^ b) * (3 : Int32))), zaN 43 31 59 (L ++ [(2 : Int32), (41 : Int32), (30 : Int32), (10 : Int32), (1 : Int32), (40 : Int32), (11 : Int32)]) t) := by
  obtain ⟨n, rfl⟩ : ∃ n, N = n + 1 := ⟨N - 1, by omega⟩
  rw [zyS254]
  unfold zyF254_0
  rw [if_pos (by decide), if_pos (by decide)]
  rw [zaN_251 _ (by omega), zq_bind]
  dsimp only
  rw [zaN_32, hk, show zyF252 = zyG252 100 from rfl, zma_3_3_1 hk hn 100 (by omega) x _ (by simp only [List.length_append, List.length_cons, List.length_nil]; omega), zq_bind]
  dsimp only
  rw [zaN_32, hk, show zyF253 = zyG253 100 from rfl, zma_3_3_2 hk hn 100 (by omega) (1 : Int32) _ (by simp only [List.length_append, List.length_cons, List.length_nil]; omega), zq_bind]
  dsimp only
  simp only [List.append_assoc, List.cons_append, List.nil_append]
theorem zma_4_0_0 (hk : t.1 43 32 = (4 : Int32)) (hn : t.1 43 33 = b) (N : Nat) (hN : 1 ≤ N) (x : Int32) (L : List Int32) (hL : L.length + 1 ≤ 24) : zyG250 N (0 : Int32) x (zaN 43 31 59 L t) = some ((x + b), zaN 43 31 59 (L ++ [(1 : Int32)]) t) := by
  obtain ⟨n, rfl⟩ : ∃ n, N = n + 1 := ⟨N - 1, by omega⟩
  rw [zyS250]
  unfold zyF250_0
  rw [if_neg (by decide), if_neg (by decide), if_pos (by decide), if_pos (by decide)]
  rw [zaN_251 _ (by omega), zq_bind]
  dsimp only
  rw [zaN_33, hn]
theorem zma_4_4_0 (hk : t.1 43 32 = (4 : Int32)) (hn : t.1 43 33 = b) (N : Nat) (hN : 2 ≤ N) (x : Int32) (L : List Int32) (hL : L.length + 2 ≤ 24) : zyG250 N (4 : Int32) x (zaN 43 31 59 L t) = some (((x + b) + (3 : Int32)), zaN 43 31 59 (L ++ [(20 : Int32), (1 : Int32)]) t) := by
  obtain ⟨n, rfl⟩ : ∃ n, N = n + 1 := ⟨N - 1, by omega⟩
  rw [zyS250]
  unfold zyF250_0
  rw [if_neg (by decide), if_pos (by decide)]
  unfold zyF250_16
  rw [zaN_251 _ (by omega), zq_bind]
  dsimp only
  rw [zma_4_0_0 hk hn n (by omega) x _ (by simp only [List.length_append, List.length_cons, List.length_nil]; omega), zq_bind]
  dsimp only
  simp only [List.append_assoc, List.cons_append, List.nil_append]
theorem zma_4_4_1 (hk : t.1 43 32 = (4 : Int32)) (hn : t.1 43 33 = b) (N : Nat) (hN : 1 ≤ N) (x : Int32) (L : List Int32) (hL : L.length + 3 ≤ 24) : zyG252 N (4 : Int32) x (zaN 43 31 59 L t) = some ((((x + b) + (3 : Int32)) * (2 : Int32)), zaN 43 31 59 (L ++ [(10 : Int32), (20 : Int32), (1 : Int32)]) t) := by
  obtain ⟨n, rfl⟩ : ∃ n, N = n + 1 := ⟨N - 1, by omega⟩
  rw [zyS252]
  unfold zyF252_0
  rw [if_neg (by decide), if_pos (by decide), if_pos (by decide), if_pos (by decide)]
  rw [zaN_251 _ (by omega), zq_bind]
  dsimp only
  rw [zaN_32, hk, show zyF250 = zyG250 100 from rfl, zma_4_4_0 hk hn 100 (by omega) x _ (by simp only [List.length_append, List.length_cons, List.length_nil]; omega), zq_bind]
  dsimp only
  simp only [List.append_assoc, List.cons_append, List.nil_append]
theorem zma_4_1_2 (hk : t.1 43 32 = (4 : Int32)) (hn : t.1 43 33 = b) (N : Nat) (hN : 1 ≤ N) (x : Int32) (L : List Int32) (hL : L.length + 1 ≤ 24) : zyG253 N (1 : Int32) x (zaN 43 31 59 L t) = some ((x ^^^ b), zaN 43 31 59 (L ++ [(11 : Int32)]) t) := by
  obtain ⟨n, rfl⟩ : ∃ n, N = n + 1 := ⟨N - 1, by omega⟩
  rw [zyS253]
  unfold zyF253_0
  rw [if_neg (by decide), if_pos (by decide), if_neg (by decide), if_pos (by decide)]
  rw [zaN_251 _ (by omega), zq_bind]
  dsimp only
  rw [zaN_33, hn]
theorem zma_4_4_2 (hk : t.1 43 32 = (4 : Int32)) (hn : t.1 43 33 = b) (N : Nat) (hN : 2 ≤ N) (x : Int32) (L : List Int32) (hL : L.length + 4 ≤ 24) : zyG253 N (4 : Int32) x (zaN 43 31 59 L t) = some (((x ^^^ b) - (((2 : Int32) + b) + (3 : Int32))), zaN 43 31 59 (L ++ [(50 : Int32), (11 : Int32), (20 : Int32), (1 : Int32)]) t) := by
  obtain ⟨n, rfl⟩ : ∃ n, N = n + 1 := ⟨N - 1, by omega⟩
  rw [zyS253]
  unfold zyF253_0
  rw [if_neg (by decide), if_pos (by decide), if_pos (by decide)]
  unfold zyF253_36
  rw [zaN_251 _ (by omega), zq_bind]
  dsimp only
  rw [zma_4_1_2 hk hn n (by omega) x _ (by simp only [List.length_append, List.length_cons, List.length_nil]; omega), zq_bind]
  dsimp only
  rw [zaN_32, hk, show zyF250 = zyG250 100 from rfl, zma_4_4_0 hk hn 100 (by omega) (2 : Int32) _ (by simp only [List.length_append, List.length_cons, List.length_nil]; omega), zq_bind]
  dsimp only
  simp only [List.append_assoc, List.cons_append, List.nil_append]
theorem zma_4_4_3 (hk : t.1 43 32 = (4 : Int32)) (hn : t.1 43 33 = b) (N : Nat) (hN : 1 ≤ N) (x : Int32) (L : List Int32) (hL : L.length + 8 ≤ 24) : zyG254 N (4 : Int32) x (zaN 43 31 59 L t) = some (((((x + b) + (3 : Int32)) * (2 : Int32)) - (((1 : Int32) ^^^ b) - (((2 : Int32) + b) + (3 : Int32)))), zaN 43 31 59 (L ++ [(2 : Int32), (10 : Int32), (20 : Int32), (1 : Int32), (50 : Int32), (11 : Int32), (20 : Int32), (1 : Int32)]) t) := by
  obtain ⟨n, rfl⟩ : ∃ n, N = n + 1 := ⟨N - 1, by omega⟩
  rw [zyS254]
  unfold zyF254_0
  rw [if_pos (by decide), if_pos (by decide)]
  rw [zaN_251 _ (by omega), zq_bind]
  dsimp only
  rw [zaN_32, hk, show zyF252 = zyG252 100 from rfl, zma_4_4_1 hk hn 100 (by omega) x _ (by simp only [List.length_append, List.length_cons, List.length_nil]; omega), zq_bind]
  dsimp only
  rw [zaN_32, hk, show zyF253 = zyG253 100 from rfl, zma_4_4_2 hk hn 100 (by omega) (1 : Int32) _ (by simp only [List.length_append, List.length_cons, List.length_nil]; omega), zq_bind]
  dsimp only
  simp only [List.append_assoc, List.cons_append, List.nil_append]
theorem zma_5_5_0 (hk : t.1 43 32 = (5 : Int32)) (hn : t.1 43 33 = b) (N : Nat) (hN : 1 ≤ N) (x : Int32) (L : List Int32) (hL : L.length + 1 ≤ 24) : zyG250 N (5 : Int32) x (zaN 43 31 59 L t) = some ((x + b), zaN 43 31 59 (L ++ [(1 : Int32)]) t) := by
  obtain ⟨n, rfl⟩ : ∃ n, N = n + 1 := ⟨N - 1, by omega⟩
  rw [zyS250]
  unfold zyF250_0
  rw [if_neg (by decide), if_neg (by decide), if_pos (by decide), if_pos (by decide)]
  rw [zaN_251 _ (by omega), zq_bind]
  dsimp only
  rw [zaN_33, hn]
theorem zma_5_0_1 (hk : t.1 43 32 = (5 : Int32)) (hn : t.1 43 33 = b) (N : Nat) (hN : 1 ≤ N) (x : Int32) (L : List Int32) (hL : L.length + 2 ≤ 24) : zyG252 N (0 : Int32) x (zaN 43 31 59 L t) = some (((x + b) * (2 : Int32)), zaN 43 31 59 (L ++ [(10 : Int32), (1 : Int32)]) t) := by
  obtain ⟨n, rfl⟩ : ∃ n, N = n + 1 := ⟨N - 1, by omega⟩
  rw [zyS252]
  unfold zyF252_0
  rw [if_neg (by decide), if_pos (by decide), if_pos (by decide), if_pos (by decide)]
  rw [zaN_251 _ (by omega), zq_bind]
  dsimp only
  rw [zaN_32, hk, show zyF250 = zyG250 100 from rfl, zma_5_5_0 hk hn 100 (by omega) x _ (by simp only [List.length_append, List.length_cons, List.length_nil]; omega), zq_bind]
  dsimp only
  simp only [List.append_assoc, List.cons_append, List.nil_append]
theorem zma_5_2_1 (hk : t.1 43 32 = (5 : Int32)) (hn : t.1 43 33 = b) (N : Nat) (hN : 2 ≤ N) (x : Int32) (L : List Int32) (hL : L.length + 3 ≤ 24) : zyG252 N (2 : Int32) x (zaN 43 31 59 L t) = some ((-((x + b) * (2 : Int32))), zaN 43 31 59 (L ++ [(30 : Int32), (10 : Int32), (1 : Int32)]) t) := by
  obtain ⟨n, rfl⟩ : ∃ n, N = n + 1 := ⟨N - 1, by omega⟩
  rw [zyS252]
  unfold zyF252_0
  rw [if_neg (by decide), if_pos (by decide), if_neg (by decide)]
  rw [zaN_251 _ (by omega), zq_bind]
  dsimp only
  rw [zma_5_0_1 hk hn n (by omega) x _ (by simp only [List.length_append, List.length_cons, List.length_nil]; omega), zq_bind]
  dsimp only
  simp only [List.append_assoc, List.cons_append, List.nil_append]
theorem zma_5_5_1 (hk : t.1 43 32 = (5 : Int32)) (hn : t.1 43 33 = b) (N : Nat) (hN : 3 ≤ N) (x : Int32) (L : List Int32) (hL : L.length + 4 ≤ 24) : zyG252 N (5 : Int32) x (zaN 43 31 59 L t) = some ((-(((x + (1 : Int32)) + b) * (2 : Int32))), zaN 43 31 59 (L ++ [(41 : Int32), (30 : Int32), (10 : Int32), (1 : Int32)]) t) := by
  obtain ⟨n, rfl⟩ : ∃ n, N = n + 1 := ⟨N - 1, by omega⟩
  rw [zyS252]
  unfold zyF252_0
  rw [if_neg (by decide), if_neg (by decide)]
  unfold zyF252_10
  rw [zaN_251 _ (by omega), zq_bind]
  dsimp only
  rw [zma_5_2_1 hk hn n (by omega) (x + (1 : Int32)) _ (by simp only [List.length_append, List.length_cons, List.length_nil]; omega), zq_bind]
  dsimp only
  simp only [List.append_assoc, List.cons_append, List.nil_append]
theorem zma_5_2_2 (hk : t.1 43 32 = (5 : Int32)) (hn : t.1 43 33 = b) (N : Nat) (hN : 1 ≤ N) (x : Int32) (L : List Int32) (hL : L.length + 1 ≤ 24) : zyG253 N (2 : Int32) x (zaN 43 31 59 L t) = some ((x ^^^ b), zaN 43 31 59 (L ++ [(11 : Int32)]) t) := by
  obtain ⟨n, rfl⟩ : ∃ n, N = n + 1 := ⟨N - 1, by omega⟩
  rw [zyS253]
  unfold zyF253_0
  rw [if_neg (by decide), if_pos (by decide), if_neg (by decide), if_pos (by decide)]
  rw [zaN_251 _ (by omega), zq_bind]
  dsimp only
  rw [zaN_33, hn]
theorem zma_5_5_2 (hk : t.1 43 32 = (5 : Int32)) (hn : t.1 43 33 = b) (N : Nat) (hN : 2 ≤ N) (x : Int32) (L : List Int32) (hL : L.length + 2 ≤ 24) : zyG253 N (5 : Int32) x (zaN 43 31 59 L t) = some (((x ^^^ b) * (3 : Int32)), zaN 43 31 59 (L ++ [(40 : Int32), (11 : Int32)]) t) := by
  obtain ⟨n, rfl⟩ : ∃ n, N = n + 1 := ⟨N - 1, by omega⟩
  rw [zyS253]
  unfold zyF253_0
  rw [if_neg (by decide), if_neg (by decide)]
  unfold zyF253_10
  rw [zaN_251 _ (by omega), zq_bind]
  dsimp only
  rw [zma_5_2_2 hk hn n (by omega) x _ (by simp only [List.length_append, List.length_cons, List.length_nil]; omega), zq_bind]
  dsimp only
  simp only [List.append_assoc, List.cons_append, List.nil_append]
theorem zma_5_3_3 (hk : t.1 43 32 = (5 : Int32)) (hn : t.1 43 33 = b) (N : Nat) (hN : 1 ≤ N) (x : Int32) (L : List Int32) (hL : L.length + 7 ≤ 24) : zyG254 N (3 : Int32) x (zaN 43 31 59 L t) = some (((-(((x + (1 : Int32)) + b) * (2 : Int32))) - (((1 : Int32) ^^^ b) * (3 : Int32))), zaN 43 31 59 (L ++ [(2 : Int32), (41 : Int32), (30 : Int32), (10 : Int32), (1 : Int32), (40 : Int32), (11 : Int32)]) t) := by
  obtain ⟨n, rfl⟩ : ∃ n, N = n + 1 := ⟨N - 1, by omega⟩
  rw [zyS254]
  unfold zyF254_0
  rw [if_pos (by decide), if_pos (by decide)]
  rw [zaN_251 _ (by omega), zq_bind]
  dsimp only
  rw [zaN_32, hk, show zyF252 = zyG252 100 from rfl, zma_5_5_1 hk hn 100 (by omega) x _ (by simp only [List.length_append, List.length_cons, List.length_nil]; omega), zq_bind]
  dsimp only
  rw [zaN_32, hk, show zyF253 = zyG253 100 from rfl, zma_5_5_2 hk hn 100 (by omega) (1 : Int32) _ (by simp only [List.length_append, List.length_cons, List.length_nil]; omega), zq_bind]
  dsimp only
  simp only [List.append_assoc, List.cons_append, List.nil_append]
theorem zma_5_5_3 (hk : t.1 43 32 = (5 : Int32)) (hn : t.1 43 33 = b) (N : Nat) (hN : 2 ≤ N) (x : Int32) (L : List Int32) (hL : L.length + 8 ≤ 24) : zyG254 N (5 : Int32) x (zaN 43 31 59 L t) = some ((((-(((x + (1 : Int32)) + b) * (2 : Int32))) - (((1 : Int32) ^^^ b) * (3 : Int32))) ^^^ (5 : Int32)), zaN 43 31 59 (L ++ [(60 : Int32), (2 : Int32), (41 : Int32), (30 : Int32), (10 : Int32), (1 : Int32), (40 : Int32), (11 : Int32)]) t) := by
  obtain ⟨n, rfl⟩ : ∃ n, N = n + 1 := ⟨N - 1, by omega⟩
  rw [zyS254]
  unfold zyF254_0
  rw [if_neg (by decide)]
  rw [zaN_251 _ (by omega), zq_bind]
  dsimp only
  rw [zma_5_3_3 hk hn n (by omega) x _ (by simp only [List.length_append, List.length_cons, List.length_nil]; omega), zq_bind]
  dsimp only
  simp only [List.append_assoc, List.cons_append, List.nil_append]
theorem zma_6_0_0 (hk : t.1 43 32 = (6 : Int32)) (hn : t.1 43 33 = b) (N : Nat) (hN : 1 ≤ N) (x : Int32) (L : List Int32) (hL : L.length + 1 ≤ 24) : zyG250 N (0 : Int32) x (zaN 43 31 59 L t) = some ((x + b), zaN 43 31 59 (L ++ [(1 : Int32)]) t) := by
  obtain ⟨n, rfl⟩ : ∃ n, N = n + 1 := ⟨N - 1, by omega⟩
  rw [zyS250]
  unfold zyF250_0
  rw [if_neg (by decide), if_neg (by decide), if_pos (by decide), if_pos (by decide)]
  rw [zaN_251 _ (by omega), zq_bind]
  dsimp only
  rw [zaN_33, hn]
theorem zma_6_6_0 (hk : t.1 43 32 = (6 : Int32)) (hn : t.1 43 33 = b) (N : Nat) (hN : 2 ≤ N) (x : Int32) (L : List Int32) (hL : L.length + 2 ≤ 24) : zyG250 N (6 : Int32) x (zaN 43 31 59 L t) = some (((x + b) * (2 : Int32)), zaN 43 31 59 (L ++ [(70 : Int32), (1 : Int32)]) t) := by
  obtain ⟨n, rfl⟩ : ∃ n, N = n + 1 := ⟨N - 1, by omega⟩
  rw [zyS250]
  unfold zyF250_0
  rw [if_neg (by decide), if_neg (by decide), if_pos (by decide), if_neg (by decide)]
  rw [zaN_251 _ (by omega), zq_bind]
  dsimp only
  rw [zma_6_0_0 hk hn n (by omega) x _ (by simp only [List.length_append, List.length_cons, List.length_nil]; omega), zq_bind]
  dsimp only
  simp only [List.append_assoc, List.cons_append, List.nil_append]
theorem zma_6_6_1 (hk : t.1 43 32 = (6 : Int32)) (hn : t.1 43 33 = b) (N : Nat) (hN : 1 ≤ N) (x : Int32) (L : List Int32) (hL : L.length + 3 ≤ 24) : zyG252 N (6 : Int32) x (zaN 43 31 59 L t) = some ((((x + b) * (2 : Int32)) * (2 : Int32)), zaN 43 31 59 (L ++ [(10 : Int32), (70 : Int32), (1 : Int32)]) t) := by
  obtain ⟨n, rfl⟩ : ∃ n, N = n + 1 := ⟨N - 1, by omega⟩
  rw [zyS252]
  unfold zyF252_0
  rw [if_neg (by decide), if_pos (by decide), if_pos (by decide), if_pos (by decide)]
  rw [zaN_251 _ (by omega), zq_bind]
  dsimp only
  rw [zaN_32, hk, show zyF250 = zyG250 100 from rfl, zma_6_6_0 hk hn 100 (by omega) x _ (by simp only [List.length_append, List.length_cons, List.length_nil]; omega), zq_bind]
  dsimp only
  simp only [List.append_assoc, List.cons_append, List.nil_append]
theorem zma_6_6_2 (hk : t.1 43 32 = (6 : Int32)) (hn : t.1 43 33 = b) (N : Nat) (hN : 1 ≤ N) (x : Int32) (L : List Int32) (hL : L.length + 1 ≤ 24) : zyG253 N (6 : Int32) x (zaN 43 31 59 L t) = some ((x ^^^ b), zaN 43 31 59 (L ++ [(11 : Int32)]) t) := by
  obtain ⟨n, rfl⟩ : ∃ n, N = n + 1 := ⟨N - 1, by omega⟩
  rw [zyS253]
  unfold zyF253_0
  rw [if_neg (by decide), if_pos (by decide), if_neg (by decide), if_pos (by decide)]
  rw [zaN_251 _ (by omega), zq_bind]
  dsimp only
  rw [zaN_33, hn]
theorem zma_6_6_3 (hk : t.1 43 32 = (6 : Int32)) (hn : t.1 43 33 = b) (N : Nat) (hN : 1 ≤ N) (x : Int32) (L : List Int32) (hL : L.length + 5 ≤ 24) : zyG254 N (6 : Int32) x (zaN 43 31 59 L t) = some (((((x + b) * (2 : Int32)) * (2 : Int32)) - ((1 : Int32) ^^^ b)), zaN 43 31 59 (L ++ [(2 : Int32), (10 : Int32), (70 : Int32), (1 : Int32), (11 : Int32)]) t) := by
  obtain ⟨n, rfl⟩ : ∃ n, N = n + 1 := ⟨N - 1, by omega⟩
  rw [zyS254]
  unfold zyF254_0
  rw [if_pos (by decide), if_pos (by decide)]
  rw [zaN_251 _ (by omega), zq_bind]
  dsimp only
  rw [zaN_32, hk, show zyF252 = zyG252 100 from rfl, zma_6_6_1 hk hn 100 (by omega) x _ (by simp only [List.length_append, List.length_cons, List.length_nil]; omega), zq_bind]
  dsimp only
  rw [zaN_32, hk, show zyF253 = zyG253 100 from rfl, zma_6_6_2 hk hn 100 (by omega) (1 : Int32) _ (by simp only [List.length_append, List.length_cons, List.length_nil]; omega), zq_bind]
  dsimp only
  simp only [List.append_assoc, List.cons_append, List.nil_append]
theorem zma_7_0_0 (hk : t.1 43 32 = (7 : Int32)) (hn : t.1 43 33 = b) (N : Nat) (hN : 1 ≤ N) (x : Int32) (L : List Int32) (hL : L.length + 1 ≤ 24) : zyG250 N (0 : Int32) x (zaN 43 31 59 L t) = some ((x + b), zaN 43 31 59 (L ++ [(1 : Int32)]) t) := by
  obtain ⟨n, rfl⟩ : ∃ n, N = n + 1 := ⟨N - 1, by omega⟩
  rw [zyS250]
  unfold zyF250_0
  rw [if_neg (by decide), if_neg (by decide), if_pos (by decide), if_pos (by decide)]
  rw [zaN_251 _ (by omega), zq_bind]
  dsimp only
  rw [zaN_33, hn]
theorem zma_7_7_0 (hk : t.1 43 32 = (7 : Int32)) (hn : t.1 43 33 = b) (N : Nat) (hN : 2 ≤ N) (x : Int32) (L : List Int32) (hL : L.length + 2 ≤ 24) : zyG250 N (7 : Int32) x (zaN 43 31 59 L t) = some (((x + b) + (3 : Int32)), zaN 43 31 59 (L ++ [(20 : Int32), (1 : Int32)]) t) := by
  obtain ⟨n, rfl⟩ : ∃ n, N = n + 1 := ⟨N - 1, by omega⟩
  rw [zyS250]
  unfold zyF250_0
  rw [if_neg (by decide), if_neg (by decide), if_neg (by decide)]
  unfold zyF250_16
  rw [zaN_251 _ (by omega), zq_bind]
  dsimp only
  rw [zma_7_0_0 hk hn n (by omega) x _ (by simp only [List.length_append, List.length_cons, List.length_nil]; omega), zq_bind]
  dsimp only
  simp only [List.append_assoc, List.cons_append, List.nil_append]
theorem zma_7_4_1 (hk : t.1 43 32 = (7 : Int32)) (hn : t.1 43 33 = b) (N : Nat) (hN : 1 ≤ N) (x : Int32) (L : List Int32) (hL : L.length + 3 ≤ 24) : zyG252 N (4 : Int32) x (zaN 43 31 59 L t) = some ((((x + b) + (3 : Int32)) * (2 : Int32)), zaN 43 31 59 (L ++ [(10 : Int32), (20 : Int32), (1 : Int32)]) t) := by
  obtain ⟨n, rfl⟩ : ∃ n, N = n + 1 := ⟨N - 1, by omega⟩
  rw [zyS252]
  unfold zyF252_0
  rw [if_neg (by decide), if_pos (by decide), if_pos (by decide), if_pos (by decide)]
  rw [zaN_251 _ (by omega), zq_bind]
  dsimp only
  rw [zaN_32, hk, show zyF250 = zyG250 100 from rfl, zma_7_7_0 hk hn 100 (by omega) x _ (by simp only [List.length_append, List.length_cons, List.length_nil]; omega), zq_bind]
  dsimp only
  simp only [List.append_assoc, List.cons_append, List.nil_append]
theorem zma_7_1_2 (hk : t.1 43 32 = (7 : Int32)) (hn : t.1 43 33 = b) (N : Nat) (hN : 1 ≤ N) (x : Int32) (L : List Int32) (hL : L.length + 1 ≤ 24) : zyG253 N (1 : Int32) x (zaN 43 31 59 L t) = some ((x ^^^ b), zaN 43 31 59 (L ++ [(11 : Int32)]) t) := by
  obtain ⟨n, rfl⟩ : ∃ n, N = n + 1 := ⟨N - 1, by omega⟩
  rw [zyS253]
  unfold zyF253_0
  rw [if_neg (by decide), if_pos (by decide), if_neg (by decide), if_pos (by decide)]
  rw [zaN_251 _ (by omega), zq_bind]
  dsimp only
  rw [zaN_33, hn]
theorem zma_7_7_2 (hk : t.1 43 32 = (7 : Int32)) (hn : t.1 43 33 = b) (N : Nat) (hN : 2 ≤ N) (x : Int32) (L : List Int32) (hL : L.length + 4 ≤ 24) : zyG253 N (7 : Int32) x (zaN 43 31 59 L t) = some (((x ^^^ b) - (((2 : Int32) + b) + (3 : Int32))), zaN 43 31 59 (L ++ [(50 : Int32), (11 : Int32), (20 : Int32), (1 : Int32)]) t) := by
  obtain ⟨n, rfl⟩ : ∃ n, N = n + 1 := ⟨N - 1, by omega⟩
  rw [zyS253]
  unfold zyF253_0
  rw [if_neg (by decide), if_pos (by decide), if_neg (by decide), if_neg (by decide)]
  unfold zyF253_36
  rw [zaN_251 _ (by omega), zq_bind]
  dsimp only
  rw [zma_7_1_2 hk hn n (by omega) x _ (by simp only [List.length_append, List.length_cons, List.length_nil]; omega), zq_bind]
  dsimp only
  rw [zaN_32, hk, show zyF250 = zyG250 100 from rfl, zma_7_7_0 hk hn 100 (by omega) (2 : Int32) _ (by simp only [List.length_append, List.length_cons, List.length_nil]; omega), zq_bind]
  dsimp only
  simp only [List.append_assoc, List.cons_append, List.nil_append]
theorem zma_7_7_1 (hk : t.1 43 32 = (7 : Int32)) (hn : t.1 43 33 = b) (N : Nat) (hN : 2 ≤ N) (x : Int32) (L : List Int32) (hL : L.length + 8 ≤ 24) : zyG252 N (7 : Int32) x (zaN 43 31 59 L t) = some (((((x + b) + (3 : Int32)) * (2 : Int32)) + (((2 : Int32) ^^^ b) - (((2 : Int32) + b) + (3 : Int32)))), zaN 43 31 59 (L ++ [(80 : Int32), (10 : Int32), (20 : Int32), (1 : Int32), (50 : Int32), (11 : Int32), (20 : Int32), (1 : Int32)]) t) := by
  obtain ⟨n, rfl⟩ : ∃ n, N = n + 1 := ⟨N - 1, by omega⟩
  rw [zyS252]
  unfold zyF252_0
  rw [if_neg (by decide), if_pos (by decide), if_pos (by decide), if_neg (by decide)]
  rw [zaN_251 _ (by omega), zq_bind]
  dsimp only
  rw [zma_7_4_1 hk hn n (by omega) x _ (by simp only [List.length_append, List.length_cons, List.length_nil]; omega), zq_bind]
  dsimp only
  rw [zaN_32, hk, show zyF253 = zyG253 100 from rfl, zma_7_7_2 hk hn 100 (by omega) (2 : Int32) _ (by simp only [List.length_append, List.length_cons, List.length_nil]; omega), zq_bind]
  dsimp only
  simp only [List.append_assoc, List.cons_append, List.nil_append]
theorem zma_7_4_3 (hk : t.1 43 32 = (7 : Int32)) (hn : t.1 43 33 = b) (N : Nat) (hN : 1 ≤ N) (x : Int32) (L : List Int32) (hL : L.length + 13 ≤ 24) : zyG254 N (4 : Int32) x (zaN 43 31 59 L t) = some ((((((x + b) + (3 : Int32)) * (2 : Int32)) + (((2 : Int32) ^^^ b) - (((2 : Int32) + b) + (3 : Int32)))) - (((1 : Int32) ^^^ b) - (((2 : Int32) + b) + (3 : Int32)))), zaN 43 31 59 (L ++ [(2 : Int32), (80 : Int32), (10 : Int32), (20 : Int32), (1 : Int32), (50 : Int32), (11 : Int32), (20 : Int32), (1 : Int32), (50 : Int32), (11 : Int32), (20 : Int32), (1 : Int32)]) t) := by
  obtain ⟨n, rfl⟩ : ∃ n, N = n + 1 := ⟨N - 1, by omega⟩
  rw [zyS254]
  unfold zyF254_0
  rw [if_pos (by decide), if_pos (by decide)]
  rw [zaN_251 _ (by omega), zq_bind]
  dsimp only
  rw [zaN_32, hk, show zyF252 = zyG252 100 from rfl, zma_7_7_1 hk hn 100 (by omega) x _ (by simp only [List.length_append, List.length_cons, List.length_nil]; omega), zq_bind]
  dsimp only
  rw [zaN_32, hk, show zyF253 = zyG253 100 from rfl, zma_7_7_2 hk hn 100 (by omega) (1 : Int32) _ (by simp only [List.length_append, List.length_cons, List.length_nil]; omega), zq_bind]
  dsimp only
  simp only [List.append_assoc, List.cons_append, List.nil_append]
theorem zma_7_7_3 (hk : t.1 43 32 = (7 : Int32)) (hn : t.1 43 33 = b) (N : Nat) (hN : 2 ≤ N) (x : Int32) (L : List Int32) (hL : L.length + 14 ≤ 24) : zyG254 N (7 : Int32) x (zaN 43 31 59 L t) = some (((((((x + b) + (3 : Int32)) * (2 : Int32)) + (((2 : Int32) ^^^ b) - (((2 : Int32) + b) + (3 : Int32)))) - (((1 : Int32) ^^^ b) - (((2 : Int32) + b) + (3 : Int32)))) - (1 : Int32)), zaN 43 31 59 (L ++ [(81 : Int32), (2 : Int32), (80 : Int32), (10 : Int32), (20 : Int32), (1 : Int32), (50 : Int32), (11 : Int32), (20 : Int32), (1 : Int32), (50 : Int32), (11 : Int32), (20 : Int32), (1 : Int32)]) t) := by
  obtain ⟨n, rfl⟩ : ∃ n, N = n + 1 := ⟨N - 1, by omega⟩
  rw [zyS254]
  unfold zyF254_0
  rw [if_pos (by decide), if_neg (by decide)]
  rw [zaN_251 _ (by omega), zq_bind]
  dsimp only
  rw [zma_7_4_3 hk hn n (by omega) x _ (by simp only [List.length_append, List.length_cons, List.length_nil]; omega), zq_bind]
  dsimp only
  simp only [List.append_assoc, List.cons_append, List.nil_append]
end ZB
end
section
/-! PART 46.913: act, trace, count on both sides. Made by wip/v6/gen_act.py. -/
/-- the model's four acts -/
noncomputable def zmd (a k x : Int32) (t : zy_S) : Option (Int32 × zy_S) := if a = 0 then zyF250 k x t else if a = 1 then zyF252 k x t else if a = 2 then zyF253 k x t else zyF254 k x t
def zaP (b a k x : Int32) (s : zy_S) : Prop := ∃ v N, N.length ≤ 24 ∧ (zyG155 100).1 b k a x 0 (zaN 27 3 29 [] s) = some (v, zaN 27 3 29 N s) ∧ ∀ t : zy_S, t.1 43 32 = k → t.1 43 33 = b → zmd a k x (zaN 43 31 59 [] t) = some (v, zaN 43 31 59 N t)
theorem zap_0_0 {b : Int32} {s : zy_S} (hb : zy_in b 50 = true) (hk : s.1 28 b.toNatClampNeg = (0 : Int32)) (x : Int32) : zaP b (0 : Int32) (0 : Int32) x s := ⟨(x + b), [(1 : Int32)], by decide, zca_0_0_0 hb hk 100 (by omega) x 0 [] ⟨by decide, by decide⟩ (by decide), fun t h1 h2 => by
  unfold zmd
  rw [if_pos rfl]
  exact zma_0_0_0 h1 h2 100 (by omega) x [] (by decide)⟩
theorem zap_0_1 {b : Int32} {s : zy_S} (hb : zy_in b 50 = true) (hk : s.1 28 b.toNatClampNeg = (0 : Int32)) (x : Int32) : zaP b (1 : Int32) (0 : Int32) x s := ⟨((x + b) * (2 : Int32)), [(10 : Int32), (1 : Int32)], by decide, zca_0_0_1 hb hk 100 (by omega) x 0 [] ⟨by decide, by decide⟩ (by decide), fun t h1 h2 => by
  unfold zmd
  rw [if_neg (by decide), if_pos rfl]
  exact zma_0_0_1 h1 h2 100 (by omega) x [] (by decide)⟩
theorem zap_0_2 {b : Int32} {s : zy_S} (hb : zy_in b 50 = true) (hk : s.1 28 b.toNatClampNeg = (0 : Int32)) (x : Int32) : zaP b (2 : Int32) (0 : Int32) x s := ⟨(x ^^^ b), [(11 : Int32)], by decide, zca_0_0_2 hb hk 100 (by omega) x 0 [] ⟨by decide, by decide⟩ (by decide), fun t h1 h2 => by
  unfold zmd
  rw [if_neg (by decide), if_neg (by decide), if_pos rfl]
  exact zma_0_0_2 h1 h2 100 (by omega) x [] (by decide)⟩
theorem zap_0_3 {b : Int32} {s : zy_S} (hb : zy_in b 50 = true) (hk : s.1 28 b.toNatClampNeg = (0 : Int32)) (x : Int32) : zaP b (3 : Int32) (0 : Int32) x s := ⟨(((x + b) * (2 : Int32)) - ((1 : Int32) ^^^ b)), [(2 : Int32), (10 : Int32), (1 : Int32), (11 : Int32)], by decide, zca_0_0_3 hb hk 100 (by omega) x 0 [] ⟨by decide, by decide⟩ (by decide), fun t h1 h2 => by
  unfold zmd
  rw [if_neg (by decide), if_neg (by decide), if_neg (by decide)]
  exact zma_0_0_3 h1 h2 100 (by omega) x [] (by decide)⟩
theorem zap_1_0 {b : Int32} {s : zy_S} (hb : zy_in b 50 = true) (hk : s.1 28 b.toNatClampNeg = (1 : Int32)) (x : Int32) : zaP b (0 : Int32) (1 : Int32) x s := ⟨((x + b) + (3 : Int32)), [(20 : Int32), (1 : Int32)], by decide, zca_1_1_0 hb hk 100 (by omega) x 0 [] ⟨by decide, by decide⟩ (by decide), fun t h1 h2 => by
  unfold zmd
  rw [if_pos rfl]
  exact zma_1_1_0 h1 h2 100 (by omega) x [] (by decide)⟩
theorem zap_1_1 {b : Int32} {s : zy_S} (hb : zy_in b 50 = true) (hk : s.1 28 b.toNatClampNeg = (1 : Int32)) (x : Int32) : zaP b (1 : Int32) (1 : Int32) x s := ⟨(((x + b) + (3 : Int32)) * (2 : Int32)), [(10 : Int32), (20 : Int32), (1 : Int32)], by decide, zca_1_1_1 hb hk 100 (by omega) x 0 [] ⟨by decide, by decide⟩ (by decide), fun t h1 h2 => by
  unfold zmd
  rw [if_neg (by decide), if_pos rfl]
  exact zma_1_1_1 h1 h2 100 (by omega) x [] (by decide)⟩
theorem zap_1_2 {b : Int32} {s : zy_S} (hb : zy_in b 50 = true) (hk : s.1 28 b.toNatClampNeg = (1 : Int32)) (x : Int32) : zaP b (2 : Int32) (1 : Int32) x s := ⟨(x ^^^ b), [(11 : Int32)], by decide, zca_1_1_2 hb hk 100 (by omega) x 0 [] ⟨by decide, by decide⟩ (by decide), fun t h1 h2 => by
  unfold zmd
  rw [if_neg (by decide), if_neg (by decide), if_pos rfl]
  exact zma_1_1_2 h1 h2 100 (by omega) x [] (by decide)⟩
theorem zap_1_3 {b : Int32} {s : zy_S} (hb : zy_in b 50 = true) (hk : s.1 28 b.toNatClampNeg = (1 : Int32)) (x : Int32) : zaP b (3 : Int32) (1 : Int32) x s := ⟨((((x + b) + (3 : Int32)) * (2 : Int32)) - ((1 : Int32) ^^^ b)), [(2 : Int32), (10 : Int32), (20 : Int32), (1 : Int32), (11 : Int32)], by decide, zca_1_1_3 hb hk 100 (by omega) x 0 [] ⟨by decide, by decide⟩ (by decide), fun t h1 h2 => by
  unfold zmd
  rw [if_neg (by decide), if_neg (by decide), if_neg (by decide)]
  exact zma_1_1_3 h1 h2 100 (by omega) x [] (by decide)⟩
theorem zap_2_0 {b : Int32} {s : zy_S} (hb : zy_in b 50 = true) (hk : s.1 28 b.toNatClampNeg = (2 : Int32)) (x : Int32) : zaP b (0 : Int32) (2 : Int32) x s := ⟨(x + b), [(1 : Int32)], by decide, zca_2_2_0 hb hk 100 (by omega) x 0 [] ⟨by decide, by decide⟩ (by decide), fun t h1 h2 => by
  unfold zmd
  rw [if_pos rfl]
  exact zma_2_2_0 h1 h2 100 (by omega) x [] (by decide)⟩
theorem zap_2_1 {b : Int32} {s : zy_S} (hb : zy_in b 50 = true) (hk : s.1 28 b.toNatClampNeg = (2 : Int32)) (x : Int32) : zaP b (1 : Int32) (2 : Int32) x s := ⟨(-((x + b) * (2 : Int32))), [(30 : Int32), (10 : Int32), (1 : Int32)], by decide, zca_2_2_1 hb hk 100 (by omega) x 0 [] ⟨by decide, by decide⟩ (by decide), fun t h1 h2 => by
  unfold zmd
  rw [if_neg (by decide), if_pos rfl]
  exact zma_2_2_1 h1 h2 100 (by omega) x [] (by decide)⟩
theorem zap_2_2 {b : Int32} {s : zy_S} (hb : zy_in b 50 = true) (hk : s.1 28 b.toNatClampNeg = (2 : Int32)) (x : Int32) : zaP b (2 : Int32) (2 : Int32) x s := ⟨(x ^^^ b), [(11 : Int32)], by decide, zca_2_2_2 hb hk 100 (by omega) x 0 [] ⟨by decide, by decide⟩ (by decide), fun t h1 h2 => by
  unfold zmd
  rw [if_neg (by decide), if_neg (by decide), if_pos rfl]
  exact zma_2_2_2 h1 h2 100 (by omega) x [] (by decide)⟩
theorem zap_2_3 {b : Int32} {s : zy_S} (hb : zy_in b 50 = true) (hk : s.1 28 b.toNatClampNeg = (2 : Int32)) (x : Int32) : zaP b (3 : Int32) (2 : Int32) x s := ⟨((-((x + b) * (2 : Int32))) - ((1 : Int32) ^^^ b)), [(2 : Int32), (30 : Int32), (10 : Int32), (1 : Int32), (11 : Int32)], by decide, zca_2_2_3 hb hk 100 (by omega) x 0 [] ⟨by decide, by decide⟩ (by decide), fun t h1 h2 => by
  unfold zmd
  rw [if_neg (by decide), if_neg (by decide), if_neg (by decide)]
  exact zma_2_2_3 h1 h2 100 (by omega) x [] (by decide)⟩
theorem zap_3_0 {b : Int32} {s : zy_S} (hb : zy_in b 50 = true) (hk : s.1 28 b.toNatClampNeg = (3 : Int32)) (x : Int32) : zaP b (0 : Int32) (3 : Int32) x s := ⟨(x + b), [(1 : Int32)], by decide, zca_3_3_0 hb hk 100 (by omega) x 0 [] ⟨by decide, by decide⟩ (by decide), fun t h1 h2 => by
  unfold zmd
  rw [if_pos rfl]
  exact zma_3_3_0 h1 h2 100 (by omega) x [] (by decide)⟩
theorem zap_3_1 {b : Int32} {s : zy_S} (hb : zy_in b 50 = true) (hk : s.1 28 b.toNatClampNeg = (3 : Int32)) (x : Int32) : zaP b (1 : Int32) (3 : Int32) x s := ⟨(-(((x + (1 : Int32)) + b) * (2 : Int32))), [(41 : Int32), (30 : Int32), (10 : Int32), (1 : Int32)], by decide, zca_3_3_1 hb hk 100 (by omega) x 0 [] ⟨by decide, by decide⟩ (by decide), fun t h1 h2 => by
  unfold zmd
  rw [if_neg (by decide), if_pos rfl]
  exact zma_3_3_1 h1 h2 100 (by omega) x [] (by decide)⟩
theorem zap_3_2 {b : Int32} {s : zy_S} (hb : zy_in b 50 = true) (hk : s.1 28 b.toNatClampNeg = (3 : Int32)) (x : Int32) : zaP b (2 : Int32) (3 : Int32) x s := ⟨((x ^^^ b) * (3 : Int32)), [(40 : Int32), (11 : Int32)], by decide, zca_3_3_2 hb hk 100 (by omega) x 0 [] ⟨by decide, by decide⟩ (by decide), fun t h1 h2 => by
  unfold zmd
  rw [if_neg (by decide), if_neg (by decide), if_pos rfl]
  exact zma_3_3_2 h1 h2 100 (by omega) x [] (by decide)⟩
theorem zap_3_3 {b : Int32} {s : zy_S} (hb : zy_in b 50 = true) (hk : s.1 28 b.toNatClampNeg = (3 : Int32)) (x : Int32) : zaP b (3 : Int32) (3 : Int32) x s := ⟨((-(((x + (1 : Int32)) + b) * (2 : Int32))) - (((1 : Int32) ^^^ b) * (3 : Int32))), [(2 : Int32), (41 : Int32), (30 : Int32), (10 : Int32), (1 : Int32), (40 : Int32), (11 : Int32)], by decide, zca_3_3_3 hb hk 100 (by omega) x 0 [] ⟨by decide, by decide⟩ (by decide), fun t h1 h2 => by
  unfold zmd
  rw [if_neg (by decide), if_neg (by decide), if_neg (by decide)]
  exact zma_3_3_3 h1 h2 100 (by omega) x [] (by decide)⟩
theorem zap_4_0 {b : Int32} {s : zy_S} (hb : zy_in b 50 = true) (hk : s.1 28 b.toNatClampNeg = (4 : Int32)) (x : Int32) : zaP b (0 : Int32) (4 : Int32) x s := ⟨((x + b) + (3 : Int32)), [(20 : Int32), (1 : Int32)], by decide, zca_4_4_0 hb hk 100 (by omega) x 0 [] ⟨by decide, by decide⟩ (by decide), fun t h1 h2 => by
  unfold zmd
  rw [if_pos rfl]
  exact zma_4_4_0 h1 h2 100 (by omega) x [] (by decide)⟩
theorem zap_4_1 {b : Int32} {s : zy_S} (hb : zy_in b 50 = true) (hk : s.1 28 b.toNatClampNeg = (4 : Int32)) (x : Int32) : zaP b (1 : Int32) (4 : Int32) x s := ⟨(((x + b) + (3 : Int32)) * (2 : Int32)), [(10 : Int32), (20 : Int32), (1 : Int32)], by decide, zca_4_4_1 hb hk 100 (by omega) x 0 [] ⟨by decide, by decide⟩ (by decide), fun t h1 h2 => by
  unfold zmd
  rw [if_neg (by decide), if_pos rfl]
  exact zma_4_4_1 h1 h2 100 (by omega) x [] (by decide)⟩
theorem zap_4_2 {b : Int32} {s : zy_S} (hb : zy_in b 50 = true) (hk : s.1 28 b.toNatClampNeg = (4 : Int32)) (x : Int32) : zaP b (2 : Int32) (4 : Int32) x s := ⟨((x ^^^ b) - (((2 : Int32) + b) + (3 : Int32))), [(50 : Int32), (11 : Int32), (20 : Int32), (1 : Int32)], by decide, zca_4_4_2 hb hk 100 (by omega) x 0 [] ⟨by decide, by decide⟩ (by decide), fun t h1 h2 => by
  unfold zmd
  rw [if_neg (by decide), if_neg (by decide), if_pos rfl]
  exact zma_4_4_2 h1 h2 100 (by omega) x [] (by decide)⟩
theorem zap_4_3 {b : Int32} {s : zy_S} (hb : zy_in b 50 = true) (hk : s.1 28 b.toNatClampNeg = (4 : Int32)) (x : Int32) : zaP b (3 : Int32) (4 : Int32) x s := ⟨((((x + b) + (3 : Int32)) * (2 : Int32)) - (((1 : Int32) ^^^ b) - (((2 : Int32) + b) + (3 : Int32)))), [(2 : Int32), (10 : Int32), (20 : Int32), (1 : Int32), (50 : Int32), (11 : Int32), (20 : Int32), (1 : Int32)], by decide, zca_4_4_3 hb hk 100 (by omega) x 0 [] ⟨by decide, by decide⟩ (by decide), fun t h1 h2 => by
  unfold zmd
  rw [if_neg (by decide), if_neg (by decide), if_neg (by decide)]
  exact zma_4_4_3 h1 h2 100 (by omega) x [] (by decide)⟩
theorem zap_5_0 {b : Int32} {s : zy_S} (hb : zy_in b 50 = true) (hk : s.1 28 b.toNatClampNeg = (5 : Int32)) (x : Int32) : zaP b (0 : Int32) (5 : Int32) x s := ⟨(x + b), [(1 : Int32)], by decide, zca_5_5_0 hb hk 100 (by omega) x 0 [] ⟨by decide, by decide⟩ (by decide), fun t h1 h2 => by
  unfold zmd
  rw [if_pos rfl]
  exact zma_5_5_0 h1 h2 100 (by omega) x [] (by decide)⟩
theorem zap_5_1 {b : Int32} {s : zy_S} (hb : zy_in b 50 = true) (hk : s.1 28 b.toNatClampNeg = (5 : Int32)) (x : Int32) : zaP b (1 : Int32) (5 : Int32) x s := ⟨(-(((x + (1 : Int32)) + b) * (2 : Int32))), [(41 : Int32), (30 : Int32), (10 : Int32), (1 : Int32)], by decide, zca_5_5_1 hb hk 100 (by omega) x 0 [] ⟨by decide, by decide⟩ (by decide), fun t h1 h2 => by
  unfold zmd
  rw [if_neg (by decide), if_pos rfl]
  exact zma_5_5_1 h1 h2 100 (by omega) x [] (by decide)⟩
theorem zap_5_2 {b : Int32} {s : zy_S} (hb : zy_in b 50 = true) (hk : s.1 28 b.toNatClampNeg = (5 : Int32)) (x : Int32) : zaP b (2 : Int32) (5 : Int32) x s := ⟨((x ^^^ b) * (3 : Int32)), [(40 : Int32), (11 : Int32)], by decide, zca_5_5_2 hb hk 100 (by omega) x 0 [] ⟨by decide, by decide⟩ (by decide), fun t h1 h2 => by
  unfold zmd
  rw [if_neg (by decide), if_neg (by decide), if_pos rfl]
  exact zma_5_5_2 h1 h2 100 (by omega) x [] (by decide)⟩
theorem zap_5_3 {b : Int32} {s : zy_S} (hb : zy_in b 50 = true) (hk : s.1 28 b.toNatClampNeg = (5 : Int32)) (x : Int32) : zaP b (3 : Int32) (5 : Int32) x s := ⟨(((-(((x + (1 : Int32)) + b) * (2 : Int32))) - (((1 : Int32) ^^^ b) * (3 : Int32))) ^^^ (5 : Int32)), [(60 : Int32), (2 : Int32), (41 : Int32), (30 : Int32), (10 : Int32), (1 : Int32), (40 : Int32), (11 : Int32)], by decide, zca_5_5_3 hb hk 100 (by omega) x 0 [] ⟨by decide, by decide⟩ (by decide), fun t h1 h2 => by
  unfold zmd
  rw [if_neg (by decide), if_neg (by decide), if_neg (by decide)]
  exact zma_5_5_3 h1 h2 100 (by omega) x [] (by decide)⟩
theorem zap_6_0 {b : Int32} {s : zy_S} (hb : zy_in b 50 = true) (hk : s.1 28 b.toNatClampNeg = (6 : Int32)) (x : Int32) : zaP b (0 : Int32) (6 : Int32) x s := ⟨((x + b) * (2 : Int32)), [(70 : Int32), (1 : Int32)], by decide, zca_6_6_0 hb hk 100 (by omega) x 0 [] ⟨by decide, by decide⟩ (by decide), fun t h1 h2 => by
  unfold zmd
  rw [if_pos rfl]
  exact zma_6_6_0 h1 h2 100 (by omega) x [] (by decide)⟩
theorem zap_6_1 {b : Int32} {s : zy_S} (hb : zy_in b 50 = true) (hk : s.1 28 b.toNatClampNeg = (6 : Int32)) (x : Int32) : zaP b (1 : Int32) (6 : Int32) x s := ⟨(((x + b) * (2 : Int32)) * (2 : Int32)), [(10 : Int32), (70 : Int32), (1 : Int32)], by decide, zca_6_6_1 hb hk 100 (by omega) x 0 [] ⟨by decide, by decide⟩ (by decide), fun t h1 h2 => by
  unfold zmd
  rw [if_neg (by decide), if_pos rfl]
  exact zma_6_6_1 h1 h2 100 (by omega) x [] (by decide)⟩
theorem zap_6_2 {b : Int32} {s : zy_S} (hb : zy_in b 50 = true) (hk : s.1 28 b.toNatClampNeg = (6 : Int32)) (x : Int32) : zaP b (2 : Int32) (6 : Int32) x s := ⟨(x ^^^ b), [(11 : Int32)], by decide, zca_6_6_2 hb hk 100 (by omega) x 0 [] ⟨by decide, by decide⟩ (by decide), fun t h1 h2 => by
  unfold zmd
  rw [if_neg (by decide), if_neg (by decide), if_pos rfl]
  exact zma_6_6_2 h1 h2 100 (by omega) x [] (by decide)⟩
theorem zap_6_3 {b : Int32} {s : zy_S} (hb : zy_in b 50 = true) (hk : s.1 28 b.toNatClampNeg = (6 : Int32)) (x : Int32) : zaP b (3 : Int32) (6 : Int32) x s := ⟨((((x + b) * (2 : Int32)) * (2 : Int32)) - ((1 : Int32) ^^^ b)), [(2 : Int32), (10 : Int32), (70 : Int32), (1 : Int32), (11 : Int32)], by decide, zca_6_6_3 hb hk 100 (by omega) x 0 [] ⟨by decide, by decide⟩ (by decide), fun t h1 h2 => by
  unfold zmd
  rw [if_neg (by decide), if_neg (by decide), if_neg (by decide)]
  exact zma_6_6_3 h1 h2 100 (by omega) x [] (by decide)⟩
theorem zap_7_0 {b : Int32} {s : zy_S} (hb : zy_in b 50 = true) (hk : s.1 28 b.toNatClampNeg = (7 : Int32)) (x : Int32) : zaP b (0 : Int32) (7 : Int32) x s := ⟨((x + b) + (3 : Int32)), [(20 : Int32), (1 : Int32)], by decide, zca_7_7_0 hb hk 100 (by omega) x 0 [] ⟨by decide, by decide⟩ (by decide), fun t h1 h2 => by
  unfold zmd
  rw [if_pos rfl]
  exact zma_7_7_0 h1 h2 100 (by omega) x [] (by decide)⟩
theorem zap_7_1 {b : Int32} {s : zy_S} (hb : zy_in b 50 = true) (hk : s.1 28 b.toNatClampNeg = (7 : Int32)) (x : Int32) : zaP b (1 : Int32) (7 : Int32) x s := ⟨((((x + b) + (3 : Int32)) * (2 : Int32)) + (((2 : Int32) ^^^ b) - (((2 : Int32) + b) + (3 : Int32)))), [(80 : Int32), (10 : Int32), (20 : Int32), (1 : Int32), (50 : Int32), (11 : Int32), (20 : Int32), (1 : Int32)], by decide, zca_7_7_1 hb hk 100 (by omega) x 0 [] ⟨by decide, by decide⟩ (by decide), fun t h1 h2 => by
  unfold zmd
  rw [if_neg (by decide), if_pos rfl]
  exact zma_7_7_1 h1 h2 100 (by omega) x [] (by decide)⟩
theorem zap_7_2 {b : Int32} {s : zy_S} (hb : zy_in b 50 = true) (hk : s.1 28 b.toNatClampNeg = (7 : Int32)) (x : Int32) : zaP b (2 : Int32) (7 : Int32) x s := ⟨((x ^^^ b) - (((2 : Int32) + b) + (3 : Int32))), [(50 : Int32), (11 : Int32), (20 : Int32), (1 : Int32)], by decide, zca_7_7_2 hb hk 100 (by omega) x 0 [] ⟨by decide, by decide⟩ (by decide), fun t h1 h2 => by
  unfold zmd
  rw [if_neg (by decide), if_neg (by decide), if_pos rfl]
  exact zma_7_7_2 h1 h2 100 (by omega) x [] (by decide)⟩
theorem zap_7_3 {b : Int32} {s : zy_S} (hb : zy_in b 50 = true) (hk : s.1 28 b.toNatClampNeg = (7 : Int32)) (x : Int32) : zaP b (3 : Int32) (7 : Int32) x s := ⟨((((((x + b) + (3 : Int32)) * (2 : Int32)) + (((2 : Int32) ^^^ b) - (((2 : Int32) + b) + (3 : Int32)))) - (((1 : Int32) ^^^ b) - (((2 : Int32) + b) + (3 : Int32)))) - (1 : Int32)), [(81 : Int32), (2 : Int32), (80 : Int32), (10 : Int32), (20 : Int32), (1 : Int32), (50 : Int32), (11 : Int32), (20 : Int32), (1 : Int32), (50 : Int32), (11 : Int32), (20 : Int32), (1 : Int32)], by decide, zca_7_7_3 hb hk 100 (by omega) x 0 [] ⟨by decide, by decide⟩ (by decide), fun t h1 h2 => by
  unfold zmd
  rw [if_neg (by decide), if_neg (by decide), if_neg (by decide)]
  exact zma_7_7_3 h1 h2 100 (by omega) x [] (by decide)⟩
theorem zap {b a x : Int32} {s : zy_S} (hb : zy_in b 50 = true) (hk : zin (s.1 28 b.toNatClampNeg) 0 7) (ha : 0 ≤ a.toInt ∧ a.toInt ≤ 3) : zaP b a (s.1 28 b.toNatClampNeg) x s := by
  obtain ⟨k, ek⟩ : ∃ k, k = s.1 28 b.toNatClampNeg := ⟨_, rfl⟩
  rw [← ek] at hk ⊢
  obtain ⟨k0, k1⟩ := hk
  have hk := ek.symm
  rcases (by omega : a.toInt = 0 ∨ a.toInt = 1 ∨ a.toInt = 2 ∨ a.toInt = 3) with q | q | q | q
  · have e : a = (0 : Int32) := zq_ext q
    subst e
    rcases (by omega : k.toInt = 0 ∨ k.toInt = 1 ∨ k.toInt = 2 ∨ k.toInt = 3 ∨ k.toInt = 4 ∨ k.toInt = 5 ∨ k.toInt = 6 ∨ k.toInt = 7) with q | q | q | q | q | q | q | q
    · have e : k = (0 : Int32) := zq_ext q
      rw [e] at hk ⊢
      exact zap_0_0 hb hk x
    · have e : k = (1 : Int32) := zq_ext q
      rw [e] at hk ⊢
      exact zap_1_0 hb hk x
    · have e : k = (2 : Int32) := zq_ext q
      rw [e] at hk ⊢
      exact zap_2_0 hb hk x
    · have e : k = (3 : Int32) := zq_ext q
      rw [e] at hk ⊢
      exact zap_3_0 hb hk x
    · have e : k = (4 : Int32) := zq_ext q
      rw [e] at hk ⊢
      exact zap_4_0 hb hk x
    · have e : k = (5 : Int32) := zq_ext q
      rw [e] at hk ⊢
      exact zap_5_0 hb hk x
    · have e : k = (6 : Int32) := zq_ext q
      rw [e] at hk ⊢
      exact zap_6_0 hb hk x
    · have e : k = (7 : Int32) := zq_ext q
      rw [e] at hk ⊢
      exact zap_7_0 hb hk x
  · have e : a = (1 : Int32) := zq_ext q
    subst e
    rcases (by omega : k.toInt = 0 ∨ k.toInt = 1 ∨ k.toInt = 2 ∨ k.toInt = 3 ∨ k.toInt = 4 ∨ k.toInt = 5 ∨ k.toInt = 6 ∨ k.toInt = 7) with q | q | q | q | q | q | q | q
    · have e : k = (0 : Int32) := zq_ext q
      rw [e] at hk ⊢
      exact zap_0_1 hb hk x
    · have e : k = (1 : Int32) := zq_ext q
      rw [e] at hk ⊢
      exact zap_1_1 hb hk x
    · have e : k = (2 : Int32) := zq_ext q
      rw [e] at hk ⊢
      exact zap_2_1 hb hk x
    · have e : k = (3 : Int32) := zq_ext q
      rw [e] at hk ⊢
      exact zap_3_1 hb hk x
    · have e : k = (4 : Int32) := zq_ext q
      rw [e] at hk ⊢
      exact zap_4_1 hb hk x
    · have e : k = (5 : Int32) := zq_ext q
      rw [e] at hk ⊢
      exact zap_5_1 hb hk x
    · have e : k = (6 : Int32) := zq_ext q
      rw [e] at hk ⊢
      exact zap_6_1 hb hk x
    · have e : k = (7 : Int32) := zq_ext q
      rw [e] at hk ⊢
      exact zap_7_1 hb hk x
  · have e : a = (2 : Int32) := zq_ext q
    subst e
    rcases (by omega : k.toInt = 0 ∨ k.toInt = 1 ∨ k.toInt = 2 ∨ k.toInt = 3 ∨ k.toInt = 4 ∨ k.toInt = 5 ∨ k.toInt = 6 ∨ k.toInt = 7) with q | q | q | q | q | q | q | q
    · have e : k = (0 : Int32) := zq_ext q
      rw [e] at hk ⊢
      exact zap_0_2 hb hk x
    · have e : k = (1 : Int32) := zq_ext q
      rw [e] at hk ⊢
      exact zap_1_2 hb hk x
    · have e : k = (2 : Int32) := zq_ext q
      rw [e] at hk ⊢
      exact zap_2_2 hb hk x
    · have e : k = (3 : Int32) := zq_ext q
      rw [e] at hk ⊢
      exact zap_3_2 hb hk x
    · have e : k = (4 : Int32) := zq_ext q
      rw [e] at hk ⊢
      exact zap_4_2 hb hk x
    · have e : k = (5 : Int32) := zq_ext q
      rw [e] at hk ⊢
      exact zap_5_2 hb hk x
    · have e : k = (6 : Int32) := zq_ext q
      rw [e] at hk ⊢
      exact zap_6_2 hb hk x
    · have e : k = (7 : Int32) := zq_ext q
      rw [e] at hk ⊢
      exact zap_7_2 hb hk x
  · have e : a = (3 : Int32) := zq_ext q
    subst e
    rcases (by omega : k.toInt = 0 ∨ k.toInt = 1 ∨ k.toInt = 2 ∨ k.toInt = 3 ∨ k.toInt = 4 ∨ k.toInt = 5 ∨ k.toInt = 6 ∨ k.toInt = 7) with q | q | q | q | q | q | q | q
    · have e : k = (0 : Int32) := zq_ext q
      rw [e] at hk ⊢
      exact zap_0_3 hb hk x
    · have e : k = (1 : Int32) := zq_ext q
      rw [e] at hk ⊢
      exact zap_1_3 hb hk x
    · have e : k = (2 : Int32) := zq_ext q
      rw [e] at hk ⊢
      exact zap_2_3 hb hk x
    · have e : k = (3 : Int32) := zq_ext q
      rw [e] at hk ⊢
      exact zap_3_3 hb hk x
    · have e : k = (4 : Int32) := zq_ext q
      rw [e] at hk ⊢
      exact zap_4_3 hb hk x
    · have e : k = (5 : Int32) := zq_ext q
      rw [e] at hk ⊢
      exact zap_5_3 hb hk x
    · have e : k = (6 : Int32) := zq_ext q
      rw [e] at hk ⊢
      exact zap_6_3 hb hk x
    · have e : k = (7 : Int32) := zq_ext q
      rw [e] at hk ⊢
      exact zap_7_3 hb hk x
theorem zarg : zrg 27 3 = (0, 100000) ∧ zrg 43 31 = (0, 100000) ∧ zrg 43 32 = (0, 7) ∧ zrg 43 33 = (0, 49) ∧ zrn 29 = 24 ∧ zrn 59 = 24 ∧ (∀ k, k < 24 → zrg 29 k = (-2147483648, 2147483647)) ∧ ∀ k, k < 24 → zrg 59 k = (-2147483648, 2147483647) := by decide +kernel
theorem zaRg {c f t : Nat} {L : List Int32} {s : zy_S} (h : zRg s) (hL : L.length ≤ 24) (e : zrg c f = (0, 100000)) (hn : zrn t = 24) (ht : ∀ k, k < 24 → zrg t k = (-2147483648, 2147483647)) : zRg (zaN c f t L s) := by
  unfold zaN
  refine zRg_upF (zRg_ua h (fun k hk => ?_)) e ?_
  · rw [hn] at hk
    rw [ht k hk]
    exact ⟨zq_lo _, zq_hi _⟩
  · unfold zin
    rw [zN_toInt (by omega)]
    omega
theorem zy_upc {s : zy_S} {c k k' : Nat} {x y : Int32} (h : k ≠ k') : zy_up (zy_up s c k x) c k' y = zy_up (zy_up s c k' y) c k x := by
  refine Prod.ext (funext fun a => funext fun b => ?_) rfl
  rw [zy_up_at, zy_up_at, zy_up_at, zy_up_at]
  by_cases h1 : a = c ∧ b = k
  · rw [if_pos h1, if_neg (fun q => h (h1.2.symm.trans q.2)), if_pos h1]
  · rw [if_neg h1, if_neg h1]
theorem zI_act {s : zy_S} (h : zI s) {N : List Int32} (hN : N.length ≤ 24) {k b : Int32} (hk : zin k 0 7) (hb : zin b 0 49) : zI (zaN 43 31 59 N (zy_up (zy_up (zaN 27 3 29 N s) 43 32 k) 43 33 b)) := by
  obtain ⟨r1, r2, r3, r4, r5, r6, r7, r8⟩ := zarg
  obtain ⟨hw, hg, h1, h2, h3, h4, h5, h6, h7, h8, h9, h10, h11, h12, h13, h14, h15, h16, h17, h18, h19, h20, h21⟩ := id h
  have sh : ∀ d, d < 6 → ∀ j, (zaN 43 31 59 N (zy_up (zy_up (zaN 27 3 29 N s) 43 32 k) 43 33 b)).1 (zy_sh d) j = s.1 (zy_sh d) j := fun d hd j => by rw [zaN_sh (by decide) (by decide) hd, zf_sh (by decide) hd, zf_sh (by decide) hd, zaN_sh (by decide) (by decide) hd]
  refine ⟨hw, zaRg (zRg_upF (zRg_upF (zaRg hg hN r1 r5 r7) r3 hk) r4 hb) hN r2 r6 r8, h1, h2, h3, h4, h5, h6, h7, h8, h9, h10, h11, h12, h13, h14, h15, ?_, ?_, h18, h19, zR20_of h20 rfl sh (fun d hd => rfl) (fun d hd => rfl), zR21_of h21 sh rfl⟩
  · refine ⟨rfl, ?_⟩
    show zin (Int32.ofNat N.length) 0 100000
    unfold zin
    rw [zN_toInt (by omega)]
    omega
  · intro p hp
    show (N[p]?).getD (s.1 29 p) = (N[p]?).getD (s.1 59 p)
    rw [h17 p hp]
theorem zI_no {s : zy_S} (h : zI s) : zI (zy_up (zy_up s 27 3 0) 43 31 0) := by
  obtain ⟨r1, r2, r3, r4, r5, r6, r7, r8⟩ := zarg
  obtain ⟨hw, hg, h1, h2, h3, h4, h5, h6, h7, h8, h9, h10, h11, h12, h13, h14, h15, h16, h17, h18, h19, h20, h21⟩ := id h
  have z0 : zin (0 : Int32) 0 100000 := ⟨by decide, by decide⟩
  exact ⟨hw, (zRg_upF (zRg_upF hg r1 z0) r2 z0), h1, h2, h3, h4, h5, h6, h7, h8, h9, h10, h11, h12, h13, h14, h15, ⟨rfl, z0⟩, h17, h18, h19, (zR20_of h20 rfl (fun d hd k => by rw [zf_sh (by decide) hd, zf_sh (by decide) hd]) (fun d hd => rfl) (fun d hd => rfl)), (zR21_of h21 (fun d hd k => by rw [zf_sh (by decide) hd, zf_sh (by decide) hd]) rfl)⟩
theorem zI_no2 {s : zy_S} (h : zI s) {k b : Int32} (hk : zin k 0 7) (hb : zin b 0 49) : zI (zy_up (zy_up s 43 32 k) 43 33 b) := by
  obtain ⟨r1, r2, r3, r4, r5, r6, r7, r8⟩ := zarg
  obtain ⟨hw, hg, h1, h2, h3, h4, h5, h6, h7, h8, h9, h10, h11, h12, h13, h14, h15, h16, h17, h18, h19, h20, h21⟩ := id h
  exact ⟨hw, (zRg_upF (zRg_upF hg r3 hk) r4 hb), h1, h2, h3, h4, h5, h6, h7, h8, h9, h10, h11, h12, h13, h14, h15, h16, h17, h18, h19, (zR20_of h20 rfl (fun d hd k => by rw [zf_sh (by decide) hd, zf_sh (by decide) hd]) (fun d hd => rfl) (fun d hd => rfl)), (zR21_of h21 (fun d hd k => by rw [zf_sh (by decide) hd, zf_sh (by decide) hd]) rfl)⟩
theorem zop_act (x1 x2 x3 : Int32) {s : zy_S} (h : zI s) : ∃ r s1 s2, zyF152 x1 x2 x3 s = some (r, s1) ∧ zyF248 x1 x2 x3 s1 = some (r, s2) ∧ zI s2 := by
  obtain ⟨hw, hg, h1, h2, h3, h4, h5, h6, h7, h8, h9, h10, h11, h12, h13, h14, h15, h16, h17, h18, h19, h20, h21⟩ := id h
  obtain ⟨e14, b0, b1⟩ := id h14
  have c1 : (zy_up s 27 3 (0 : Int32)).1 27 2 = s.1 27 2 := rfl
  by_cases hb : 0 ≤ x1.toInt ∧ x1.toInt < (s.1 27 2).toInt
  · have hb5 : zy_in x1 50 = true := zq_in.mpr ⟨hb.1, by omega⟩
    have hbj : x1.toNatClampNeg < 50 := by rw [zq_ix]; omega
    obtain ⟨e15, k0, k1⟩ := h15 x1.toNatClampNeg hbj
    have hbz : zin x1 0 49 := ⟨hb.1, by omega⟩
    by_cases ha : 0 ≤ x2.toInt ∧ x2.toInt ≤ 3
    · obtain ⟨v, N, hN, f1, f2⟩ := zap (x := x3) hb5 ⟨k0, k1⟩ ha
      refine ⟨v, zaN 27 3 29 N s, zaN 43 31 59 N (zy_up (zy_up (zaN 27 3 29 N s) 43 32 (s.1 28 x1.toNatClampNeg)) 43 33 x1), ?_, ?_, zI_act h hN ⟨k0, k1⟩ hbz⟩
      · unfold zyF152 zyF153
        rw [zys154, c1, zqb_t (decide_eq_true hb), zq_bind]
        dsimp only
        rw [if_neg (by decide), if_neg (by rw [Int32.lt_iff_toInt_lt, zq_l0]; omega), if_neg (by rw [Int32.le_iff_toInt_le, zq_l4]; omega)]
        unfold zyF153_27
        rw [if_neg (by decide), if_pos hb5, ← zaN_nil 27 3 29 s, zaN_28, show zyF155 = (zyG155 100).1 from rfl, f1, zq_bind, zq_bind]
      · have g := f2 (zy_up (zy_up (zaN 27 3 29 N s) 43 32 (s.1 28 x1.toNatClampNeg)) 43 33 x1) rfl rfl
        rw [zaN_nil, zy_upc (k := 33) (k' := 31) (by decide), zy_upc (k := 32) (k' := 31) (by decide)] at g
        have c2 : (zy_up (zaN 27 3 29 N s) 43 31 (0 : Int32)).1 43 28 = s.1 43 28 := rfl
        have c3 : (zy_up (zaN 27 3 29 N s) 43 31 (0 : Int32)).1 58 x1.toNatClampNeg = s.1 28 x1.toNatClampNeg := e15.symm
        unfold zyF248
        rw [zys249 _ _ (by rw [c2, ← e14]; exact ⟨b0, b1⟩), c2, ← e14, zqb_t (decide_eq_true hb), zq_bind]
        dsimp only
        rw [if_pos (by decide), if_pos hb5, c3]
        unfold zmd at g
        by_cases q0 : x2 = 0
        · rw [if_pos q0] at g
          rw [if_pos q0, g, zq_bind]
        · rw [if_neg q0] at g
          rw [if_neg q0]
          by_cases q1 : x2 = 1
          · rw [if_pos q1] at g
            rw [if_pos q1, g, zq_bind]
          · rw [if_neg q1] at g
            rw [if_neg q1]
            by_cases q2 : x2 = 2
            · rw [if_pos q2] at g
              rw [if_pos q2, g, zq_bind]
            · rw [if_neg q2] at g
              have n0 : ¬ x2.toInt = 0 := fun e => q0 (zq_ext e)
              have n1 : ¬ x2.toInt = 1 := fun e => q1 (zq_ext e)
              have n2 : ¬ x2.toInt = 2 := fun e => q2 (zq_ext e)
              have q3 : x2 = 3 := zq_ext (by show x2.toInt = 3; omega)
              rw [if_neg q2, if_pos q3, g, zq_bind]
    · refine ⟨0, zy_up s 27 3 0, zy_up (zy_up (zy_up (zy_up s 27 3 0) 43 31 0) 43 32 (s.1 28 x1.toNatClampNeg)) 43 33 x1, ?_, ?_, zI_no2 (zI_no h) ⟨k0, k1⟩ hbz⟩
      · unfold zyF152 zyF153 zyF153_26 zyF153_27
        rw [zys154, c1, zqb_t (decide_eq_true hb), zq_bind]
        dsimp only
        rw [if_neg (by decide)]
        by_cases q : x2.toInt < 0
        · rw [if_pos (by rw [Int32.lt_iff_toInt_lt, zq_l0]; exact q), if_pos rfl, zq_bind]
        · rw [if_neg (by rw [Int32.lt_iff_toInt_lt, zq_l0]; exact q), if_pos (by rw [Int32.le_iff_toInt_le, zq_l4]; omega), if_pos rfl, zq_bind]
      · have c2 : (zy_up (zy_up s 27 3 (0 : Int32)) 43 31 (0 : Int32)).1 43 28 = s.1 43 28 := rfl
        have c3 : (zy_up (zy_up s 27 3 (0 : Int32)) 43 31 (0 : Int32)).1 58 x1.toNatClampNeg = s.1 28 x1.toNatClampNeg := e15.symm
        have n : ∀ k : Int32, 0 ≤ k.toInt → k.toInt ≤ 3 → ¬ x2 = k := fun k a1 a2 e => ha ⟨by rw [e]; exact a1, by rw [e]; exact a2⟩
        unfold zyF248
        rw [zys249 _ _ (by rw [c2, ← e14]; exact ⟨b0, b1⟩), c2, ← e14, zqb_t (decide_eq_true hb), zq_bind]
        dsimp only
        rw [if_pos (by decide), if_pos hb5, c3, if_neg (n 0 (by decide) (by decide)), if_neg (n 1 (by decide) (by decide)), if_neg (n 2 (by decide) (by decide)), if_neg (n 3 (by decide) (by decide))]
  · refine ⟨0, zy_up s 27 3 0, zy_up (zy_up s 27 3 0) 43 31 0, ?_, ?_, zI_no h⟩
    · unfold zyF152 zyF153 zyF153_26 zyF153_27
      rw [zys154, c1, zqb_f (decide_eq_false hb), zq_bind]
      dsimp only
      rw [if_pos rfl, if_pos rfl, zq_bind]
    · have c2 : (zy_up (zy_up s 27 3 (0 : Int32)) 43 31 (0 : Int32)).1 43 28 = s.1 43 28 := rfl
      unfold zyF248
      rw [zys249 _ _ (by rw [c2, ← e14]; exact ⟨b0, b1⟩), c2, ← e14, zqb_f (decide_eq_false hb), zq_bind]
      dsimp only
      rw [if_neg (by decide)]
theorem zop_trace (x : Int32) {s : zy_S} (h : zI s) : ∃ r s1 s2, zyF159 x s = some (r, s1) ∧ zyF255 x s1 = some (r, s2) ∧ zI s2 := by
  obtain ⟨hw, hg, h1, h2, h3, h4, h5, h6, h7, h8, h9, h10, h11, h12, h13, h14, h15, h16, h17, h18, h19, h20, h21⟩ := id h
  obtain ⟨e16, r0, r1⟩ := id h16
  by_cases hx : x.toInt < 0
  · refine ⟨-1, s, s, ?_, ?_, h⟩
    · unfold zyF159
      rw [if_pos (by rw [Int32.lt_iff_toInt_lt, zq_l0]; exact hx)]
    · unfold zyF255
      rw [if_pos (by rw [Int32.lt_iff_toInt_lt, zq_l0]; exact hx)]
  have lt0 : ¬ x < 0 := by
    rw [Int32.lt_iff_toInt_lt, zq_l0]
    exact hx
  obtain ⟨m, hm, em⟩ : ∃ m : Int32, zyF160 s = some (m, s) ∧ ((m.toInt = (s.1 27 3).toInt ∧ m.toInt ≤ 24) ∨ (m.toInt = 24 ∧ 24 < (s.1 27 3).toInt)) := by
    unfold zyF160 zyF68
    by_cases q : (24 : Int32) < s.1 27 3
    · refine ⟨24, by rw [if_pos q, zq_bind], Or.inr ⟨rfl, ?_⟩⟩
      rw [Int32.lt_iff_toInt_lt, zq_l24] at q
      exact q
    · refine ⟨s.1 27 3, by rw [if_neg q, zq_bind], Or.inl ⟨rfl, ?_⟩⟩
      rw [Int32.lt_iff_toInt_lt, zq_l24] at q
      omega
  by_cases hi : x.toInt < m.toInt
  · have hin : zy_in x 24 = true := zq_in.mpr ⟨by omega, by omega⟩
    refine ⟨s.1 29 x.toNatClampNeg, s, s, ?_, ?_, h⟩
    · unfold zyF159
      rw [if_neg lt0, hm, zq_bind]
      dsimp only
      rw [if_neg (by rw [Int32.le_iff_toInt_le]; omega), if_pos hin]
    · unfold zyF255
      rw [if_neg lt0, ← e16, if_neg (by rw [Int32.le_iff_toInt_le]; omega), if_neg (by rw [Int32.le_iff_toInt_le, zq_l24]; omega), if_pos hin, h17 _ (by rw [zq_ix]; omega)]
  · refine ⟨-1, s, s, ?_, ?_, h⟩
    · unfold zyF159
      rw [if_neg lt0, hm, zq_bind]
      dsimp only
      rw [if_pos (by rw [Int32.le_iff_toInt_le]; omega)]
    · unfold zyF255
      rw [if_neg lt0, ← e16]
      by_cases q : (s.1 27 3).toInt ≤ x.toInt
      · rw [if_pos (by rw [Int32.le_iff_toInt_le]; exact q)]
      · rw [if_neg (by rw [Int32.le_iff_toInt_le]; exact q), if_pos (by rw [Int32.le_iff_toInt_le, zq_l24]; omega)]
theorem zop_count (x : Int32) {s : zy_S} (h : zI s) : ∃ r s1 s2, zyF174 x s = some (r, s1) ∧ zyF266 x s1 = some (r, s2) ∧ zI s2 := by
  obtain ⟨hw, hg, h1, h2, h3, h4, h5, h6, h7, h8, h9, h10, h11, h12, h13, h14, h15, h16, h17, h18, h19, h20, h21⟩ := id h
  obtain ⟨e6, l0, l1⟩ := id h6
  unfold zyF174 zyF266
  by_cases q0 : x = 0
  · exact ⟨_, s, s, if_pos q0, (if_pos q0).trans (by rw [h1.1]), h⟩
  rw [if_neg q0]
  by_cases q1 : x = 1
  · refine ⟨zpc (s.1 1 3), s, s, ?_, ?_, h⟩
    · rw [if_pos q1, zys92 l0 l1, zq_bind]
    · rw [if_neg q0, if_pos q1, ← e6, zys209 s l0 l1, zq_bind]
  rw [if_neg q1]
  by_cases q2 : x = 2
  · exact ⟨_, s, s, if_pos q2, by rw [if_neg q0, if_neg q1, if_pos q2, h18.1], h⟩
  rw [if_neg q2]
  by_cases q3 : x = 3
  · exact ⟨_, s, s, if_pos q3, by rw [if_neg q0, if_neg q1, if_neg q2, if_pos q3, h12.1], h⟩
  rw [if_neg q3]
  by_cases q4 : x = 4
  · exact ⟨_, s, s, if_pos q4, by rw [if_neg q0, if_neg q1, if_neg q2, if_neg q3, if_pos q4, h14.1], h⟩
  rw [if_neg q4]
  by_cases q5 : x = 5
  · exact ⟨_, s, s, if_pos q5, by rw [if_neg q0, if_neg q1, if_neg q2, if_neg q3, if_neg q4, if_pos q5, h16.1], h⟩
  rw [if_neg q5]
  exact ⟨-1, s, s, rfl, by rw [if_neg q0, if_neg q1, if_neg q2, if_neg q3, if_neg q4, if_neg q5], h⟩
end
section
/-! PART 46.92: people. Made by wip/v4/gen_people.py. -/
/-- the class's cells of one state, the model's of another -/
def zwmx (a b : zy_S) : zy_S := (fun c k => if c < 43 then a.1 c k else b.1 c k, a.2)
theorem zwmx_lo {a b : zy_S} {c : Nat} (h : c < 43) (k : Nat) : (zwmx a b).1 c k = a.1 c k := by
  show (if c < 43 then a.1 c k else b.1 c k) = _
  exact if_pos h
theorem zwmx_hi {a b : zy_S} {c : Nat} (h : ¬ c < 43) (k : Nat) : (zwmx a b).1 c k = b.1 c k := by
  show (if c < 43 then a.1 c k else b.1 c k) = _
  exact if_neg h
theorem zwmx_self (a : zy_S) : zwmx a a = a := Prod.ext (funext fun c => funext fun k => by
  by_cases h : c < 43
  · exact zwmx_lo h k
  · exact zwmx_hi h k) rfl
theorem zwmx_upC {a b : zy_S} {c k : Nat} {x : Int32} (h : c < 43) : zy_up (zwmx a b) c k x = zwmx (zy_up a c k x) b := Prod.ext (funext fun p => funext fun q => by
  show (zy_up (zwmx a b) c k x).1 p q = (zwmx (zy_up a c k x) b).1 p q
  rw [zy_up_at]
  by_cases hp : p < 43
  · rw [zwmx_lo hp, zwmx_lo hp, zy_up_at]
  · rw [zwmx_hi hp, zwmx_hi hp, if_neg (fun w => hp (by omega))]) rfl
theorem zwmx_upM {a b : zy_S} {c k : Nat} {x : Int32} (h : ¬ c < 43) : zy_up (zwmx a b) c k x = zwmx a (zy_up b c k x) := Prod.ext (funext fun p => funext fun q => by
  show (zy_up (zwmx a b) c k x).1 p q = (zwmx a (zy_up b c k x)).1 p q
  rw [zy_up_at]
  by_cases hp : p < 43
  · rw [zwmx_lo hp, zwmx_lo hp, if_neg (fun w => h (by omega))]
  · rw [zwmx_hi hp, zwmx_hi hp, zy_up_at]) rfl
theorem zq_j32 {v : Int64} (h : -32768 ≤ v.toInt ∧ v.toInt ≤ 32767) : v.toInt32.toInt = v.toInt := by
  rw [Int64.toInt_toInt32]
  exact Int.bmod_eq_of_le (by omega) (by omega)
theorem zys16 (x y : Int32) {u : zy_S} (h : zin (u.1 1 5) 0 8) (h8 : ¬ 8 ≤ (u.1 1 5).toInt) : zyF16 x y u = some (u.1 1 5, zy_up (zy_up (zy_up u 3 (u.1 1 5).toNatClampNeg x) 4 (u.1 1 5).toNatClampNeg y) 1 5 (u.1 1 5 + 1)) := by
  obtain ⟨h0, h1⟩ := h
  have hin : zy_in (u.1 1 5) 8 = true := zq_in.mpr ⟨h0, by omega⟩
  unfold zyF16
  rw [if_pos hin, if_pos hin]
theorem zys180 (x y : Int32) {u : zy_S} (h : zin (u.1 43 6) 0 8) : zyF180 x y u = some (0, zy_up (zy_up (zy_up u 44 (u.1 43 6).toNatClampNeg x) 44 (8 + (u.1 43 6).toNatClampNeg) y) 43 6 (u.1 43 6 + 1)) := by
  obtain ⟨h0, h1⟩ := h
  have e8 : ((8 : Int32) + u.1 43 6).toInt = 8 + (u.1 43 6).toInt := by rw [zq_add (by rw [zq_l8]; omega) (by rw [zq_l8]; omega), zq_l8]
  have e8n : ((8 : Int32) + u.1 43 6).toNatClampNeg = 8 + (u.1 43 6).toNatClampNeg := by rw [zq_ix, zq_ix, e8]; omega
  unfold zyF180
  rw [if_pos (zq_in.mpr ⟨h0, by omega⟩), if_pos (zq_in.mpr ⟨by omega, by omega⟩), e8n]
/-- nobody comes: the model's loop -/
theorem zl_no (n : Nat) (x1 x2 x3 x4 : Int32) (u : zy_S) : zyF181_110 (zyF181_69 (n + 1)) x1 x2 x3 x4 u = some (x4, u) := by
  unfold zyF181_110 zyF181_111
  rw [if_pos rfl]
  unfold zyF181_171 zyF181_172
  rw [if_pos rfl]
  unfold zyF181_204
  show zyF181_69b (zyF181_69 n) x1 x2 x3 x4 0 u = _
  unfold zyF181_69b
  rw [if_pos rfl]
/-- whether one comes -/
def zcm (s : zy_S) (d : Nat) (x2 x4 : Int32) : Prop := ¬ 8 ≤ (s.1 1 5).toInt ∧ x2.toInt + 2 * x4.toInt + 2 ≤ (s.1 (zy_sh d) 3).toInt ∧
  (0 ≤ (s.2.1 62 (60 * d + (x2.toInt + 2 * x4.toInt).toNat)).toInt ∧ (s.2.1 62 (60 * d + (x2.toInt + 2 * x4.toInt).toNat)).toInt ≤ 4095) ∧
  (0 ≤ (s.2.1 62 (60 * d + (x2.toInt + 2 * x4.toInt).toNat + 1)).toInt ∧ (s.2.1 62 (60 * d + (x2.toInt + 2 * x4.toInt).toNat + 1)).toInt ≤ 9)
/-- the state behind it -/
def zca (s : zy_S) (x y : Int32) : zy_S := zy_up (zy_up (zy_up s 3 (s.1 1 5).toNatClampNeg x) 4 (s.1 1 5).toNatClampNeg y) 1 5 (s.1 1 5 + 1)
def zma (s : zy_S) (x y : Int32) : zy_S := zy_up (zy_up (zy_up s 44 (s.1 43 6).toNatClampNeg x) 44 (8 + (s.1 43 6).toNatClampNeg) y) 43 6 (s.1 43 6 + 1)
theorem zca_mx (s b : zy_S) (x y : Int32) : zca (zwmx s b) x y = zwmx (zca s x y) b := by
  unfold zca
  rw [zwmx_lo (by decide), zwmx_upC (by decide), zwmx_upC (by decide), zwmx_upC (by decide)]
theorem zma_mx (a s : zy_S) (x y : Int32) : zma (zwmx a s) x y = zwmx a (zma s x y) := by
  unfold zma
  rw [zwmx_hi (by decide), zwmx_upM (by decide), zwmx_upM (by decide), zwmx_upM (by decide)]
theorem zca_I {s : zy_S} (h : zI s) {x y : Int32} (hx : 0 ≤ x.toInt ∧ x.toInt ≤ 4095) (hy : zin y 0 9) (hp : ¬ 8 ≤ (s.1 1 5).toInt) : zI (zma (zca s x y) x y) := by
  have h1 : zR1 s := h.2.2.1
  have e : (zca s x y).1 43 6 = s.1 1 5 := h1.1.symm
  unfold zma
  rw [e]
  exact zI_adds h hx hy rfl hp
section ZP
variable {s : zy_S} {d : Nat} {x1 x2 x3 : Int32}
theorem zcm_C (h : zI s) (hd : d < 6) (ht : (s.1 (zy_sh d) 2).toInt = 1) {x4 : Int32} (h2 : 0 ≤ x2.toInt) (h4 : 0 ≤ x4.toInt) (h4' : x4.toInt ≤ 8) (hm : zcm s d x2 x4) (b : zy_S) :
    zyF22 (zy_sh d) (x2 + (2 : Int32) * x4) (zwmx s b) = some (1, zwmx (zca s (s.2.1 62 (60 * d + (x2.toInt + 2 * x4.toInt).toNat)).toInt32 (s.2.1 62 (60 * d + (x2.toInt + 2 * x4.toInt).toNat + 1)).toInt32) b) := by
  obtain ⟨hw, hg, h1, h2, h3, h4, h5, h6, h7, h8, h9, h10, h11, h12, h13, h14, h15, h16, h17, h18, h19, h20, h21⟩ := id h
  obtain ⟨m1, m2, m3, m4⟩ := hm
  obtain ⟨-, ⟨l0, l1⟩, -⟩ := h20 d hd
  have sd : zy_sh d < 43 := by unfold zy_sh; omega
  have e2 : ((2 : Int32) * x4).toInt = 2 * x4.toInt := by rw [zq_mul (by rw [zq_l2]; omega) (by rw [zq_l2]; omega), zq_l2]
  have ea : (x2 + (2 : Int32) * x4).toInt = x2.toInt + 2 * x4.toInt := by rw [zq_add (by rw [e2]; omega) (by rw [e2]; omega), e2]
  have eb : (x2 + (2 : Int32) * x4 + 1).toInt = x2.toInt + 2 * x4.toInt + 1 := by rw [zq_add (by rw [ea, zq_l1]; omega) (by rw [ea, zq_l1]; omega), ea, zq_l1]
  obtain ⟨q, hq⟩ : ∃ q, q = (x2.toInt + 2 * x4.toInt).toNat := ⟨_, rfl⟩
  have ean : (x2 + (2 : Int32) * x4).toNatClampNeg = q := by rw [zq_ix, ea, hq]
  have ebn : (x2 + (2 : Int32) * x4 + 1).toNatClampNeg = q + 1 := by rw [zq_ix, eb, hq]; omega
  rw [← hq] at m3 m4 ⊢
  have hq58 : q + 1 < 60 := by omega
  have w3 := (h21 d hd q (by omega)).1
  have w4 := (h21 d hd (q + 1) (by omega)).1
  have j3 := zq_j32 (v := s.2.1 62 (60 * d + q)) ⟨by omega, by omega⟩
  have j4 := zq_j32 (v := s.2.1 62 (60 * d + q + 1)) ⟨by omega, by omega⟩
  have o15 : (zwmx s b).1 1 5 = s.1 1 5 := zwmx_lo (by decide) 5
  have o3 : (zwmx s b).1 (zy_sh d) 3 = s.1 (zy_sh d) 3 := zwmx_lo sd 3
  have ow : ∀ c k, (zwmx s b).2.1 c k = s.2.1 c k := fun c k => rfl
  have hl : zin ((zwmx s b).1 (zy_sh d) 3) 0 60 := by rw [o3]; exact ⟨l0, l1⟩
  unfold zyF22
  simp only [zys15, zys23 _ _ _ (zwmx s b) hl, zys14_0, zys14_1, o15, o3, ow, ea, eb, ean, ebn, w3, w4, ← Nat.add_assoc, j3, j4, zq_bind, zqb_n0, zqb_e0, decide_eq_true_eq, decide_eq_false_iff_not, zq_l2]
  rw [if_neg m1, if_pos ⟨by omega, by omega, by omega, by omega⟩, if_pos (zq_in.mpr ⟨by omega, by omega⟩), if_pos (zq_in.mpr ⟨by omega, by omega⟩), if_neg (not_not_intro m3), if_pos m4, zys16 _ _ (by rw [o15]; exact h1.2) (by rw [o15]; exact m1), zq_bind]
  exact congrArg (fun w => some ((1 : Int32), w)) (zca_mx s b _ _)
theorem zcm_Cn (h : zI s) (hd : d < 6) (ht : (s.1 (zy_sh d) 2).toInt = 1) {x4 : Int32} (h2 : 0 ≤ x2.toInt ∨ x4.toInt = 0) (h4 : 0 ≤ x4.toInt) (h4' : x4.toInt ≤ 8) (hm : ¬ (0 ≤ x2.toInt ∧ zcm s d x2 x4)) (b : zy_S) :
    zyF22 (zy_sh d) (x2 + (2 : Int32) * x4) (zwmx s b) = some (0, zwmx s b) := by
  obtain ⟨hw, hg, h1, h2, h3, h4, h5, h6, h7, h8, h9, h10, h11, h12, h13, h14, h15, h16, h17, h18, h19, h20, h21⟩ := id h
  obtain ⟨-, ⟨l0, l1⟩, -⟩ := h20 d hd
  have sd : zy_sh d < 43 := by unfold zy_sh; omega
  have e2 : ((2 : Int32) * x4).toInt = 2 * x4.toInt := by rw [zq_mul (by rw [zq_l2]; omega) (by rw [zq_l2]; omega), zq_l2]
  have o15 : (zwmx s b).1 1 5 = s.1 1 5 := zwmx_lo (by decide) 5
  have o3 : (zwmx s b).1 (zy_sh d) 3 = s.1 (zy_sh d) 3 := zwmx_lo sd 3
  have ow : ∀ c k, (zwmx s b).2.1 c k = s.2.1 c k := fun c k => rfl
  have hl : zin ((zwmx s b).1 (zy_sh d) 3) 0 60 := by rw [o3]; exact ⟨l0, l1⟩
  unfold zyF22
  simp only [zys15, zys23 _ _ _ (zwmx s b) hl, zys14_0, zys14_1, o15, o3, ow, zq_bind, zqb_n0, zqb_e0, decide_eq_true_eq, decide_eq_false_iff_not, zq_l2]
  by_cases m1 : 8 ≤ (s.1 1 5).toInt
  · rw [if_pos m1]
  rw [if_neg m1]
  by_cases hx : 0 ≤ (x2 + (2 : Int32) * x4).toInt ∧ 0 ≤ (2 : Int) ∧ (x2 + (2 : Int32) * x4).toInt ≤ (s.1 (zy_sh d) 3).toInt ∧ 2 ≤ (s.1 (zy_sh d) 3).toInt - (x2 + (2 : Int32) * x4).toInt
  · rw [if_pos hx]
    obtain ⟨g0, -, g1, g2⟩ := hx
    by_cases hp2 : 0 ≤ x2.toInt
    · by_cases hov : x2.toInt + 2 * x4.toInt ≤ 2147483647
      · have ea : (x2 + (2 : Int32) * x4).toInt = x2.toInt + 2 * x4.toInt := by rw [zq_add (by rw [e2]; omega) (by rw [e2]; omega), e2]
        have eb : (x2 + (2 : Int32) * x4 + 1).toInt = x2.toInt + 2 * x4.toInt + 1 := by rw [zq_add (by rw [ea, zq_l1]; omega) (by rw [ea, zq_l1]; omega), ea, zq_l1]
        obtain ⟨q, hq⟩ : ∃ q, q = (x2.toInt + 2 * x4.toInt).toNat := ⟨_, rfl⟩
        have ean : (x2 + (2 : Int32) * x4).toNatClampNeg = q := by rw [zq_ix, ea, hq]
        have ebn : (x2 + (2 : Int32) * x4 + 1).toNatClampNeg = q + 1 := by rw [zq_ix, eb, hq]; omega
        have w3 := h21 d hd q (by omega)
        have w4 := h21 d hd (q + 1) (by omega)
        have f3 := w3.2.2 ht
        have f4 := w4.2.2 ht
        rw [w3.1] at f3
        rw [w4.1] at f4
        have j3 := zq_j32 f3
        have j4 := zq_j32 f4
        rw [if_pos (zq_in.mpr ⟨by omega, by omega⟩), if_pos (zq_in.mpr ⟨by omega, by omega⟩), ean, ebn, w3.1, w4.1, j3, j4]
        by_cases m3 : 0 ≤ (s.2.1 62 (60 * d + q)).toInt ∧ (s.2.1 62 (60 * d + q)).toInt ≤ 4095
        · rw [if_neg (not_not_intro m3)]
          by_cases m4 : 0 ≤ (s.2.1 62 (60 * d + (q + 1))).toInt ∧ (s.2.1 62 (60 * d + (q + 1))).toInt ≤ 9
          · exfalso
            refine hm ⟨hp2, m1, by omega, ?_, ?_⟩
            · rw [← hq]; exact m3
            · rw [← hq, Nat.add_assoc]; exact m4
          · rw [if_neg m4]
        · rw [if_pos m3]
      · exfalso
        have hx2 := zq_hi x2
        have this : (x2 + (2 : Int32) * x4).toInt = (x2.toInt + 2 * x4.toInt - ((2 ^ 32 : Nat) : Int)).bmod (2 ^ 32) := by rw [Int.sub_bmod_right, Int32.toInt_add, e2]
        rw [Int.bmod_eq_of_le (by omega) (by omega)] at this
        omega
    · exfalso
      have e0 : x4.toInt = 0 := by omega
      have ea : (x2 + (2 : Int32) * x4).toInt = x2.toInt + 2 * x4.toInt := by rw [zq_add (by rw [e2, e0]; have := zq_lo x2; omega) (by rw [e2, e0]; have := zq_hi x2; omega), e2]
      omega
  · rw [if_neg hx]
/-- the model's step -/
theorem zcm_M (h : zI s) (hd : d < 6) (hxd : x1.toInt = (d : Int)) (ht : (s.1 (zy_sh d) 2).toInt = 1) {x4 : Int32} (h2 : 0 ≤ x2.toInt) (h4 : 0 ≤ x4.toInt) (h43 : x4.toInt < x3.toInt) (h3 : x3.toInt ≤ 8) (hm : zcm s d x2 x4) (a : zy_S) (ha : a.2 = s.2) (n : Nat) :
    zyF181_69 (n + 1) x1 x2 x3 x4 1 (zwmx a s) = zyF181_69 n x1 x2 x3 (x4 + 1) 1 (zwmx a (zma s (s.2.1 62 (60 * d + (x2.toInt + 2 * x4.toInt).toNat)).toInt32 (s.2.1 62 (60 * d + (x2.toInt + 2 * x4.toInt).toNat + 1)).toInt32)) := by
  obtain ⟨hw, hg, h1, h2, h3, h4, h5, h6, h7, h8, h9, h10, h11, h12, h13, h14, h15, h16, h17, h18, h19, h20, h21⟩ := id h
  obtain ⟨m1, m2, m3, m4⟩ := hm
  obtain ⟨el, ⟨l0, l1⟩, -⟩ := h20 d hd
  have e2 : ((2 : Int32) * x4).toInt = 2 * x4.toInt := by rw [zq_mul (by rw [zq_l2]; omega) (by rw [zq_l2]; omega), zq_l2]
  have em : ((60 : Int32) * x1).toInt = 60 * (d : Int) := by rw [zq_mul (by rw [zq_l60, hxd]; omega) (by rw [zq_l60, hxd]; omega), zq_l60, hxd]
  have eu : ((60 : Int32) * x1 + x2).toInt = 60 * (d : Int) + x2.toInt := by rw [zq_add (by rw [em]; omega) (by rw [em]; omega), em]
  obtain ⟨q, hq⟩ : ∃ q, q = (x2.toInt + 2 * x4.toInt).toNat := ⟨_, rfl⟩
  have ea : ((60 : Int32) * x1 + x2 + (2 : Int32) * x4).toInt = 60 * (d : Int) + q := by rw [zq_add (by rw [eu, e2]; omega) (by rw [eu, e2]; omega), eu, e2]; omega
  have eb : ((60 : Int32) * x1 + x2 + (2 : Int32) * x4 + 1).toInt = 60 * (d : Int) + q + 1 := by rw [zq_add (by rw [ea, zq_l1]; omega) (by rw [ea, zq_l1]; omega), ea, zq_l1]
  have ean : ((60 : Int32) * x1 + x2 + (2 : Int32) * x4).toNatClampNeg = 60 * d + q := by rw [zq_ix, ea]; omega
  have ebn : ((60 : Int32) * x1 + x2 + (2 : Int32) * x4 + 1).toNatClampNeg = 60 * d + q + 1 := by rw [zq_ix, eb]; omega
  rw [← hq] at m3 m4 ⊢
  have edn : x1.toNatClampNeg = d := by rw [zq_ix]; omega
  have o61 : (zwmx a s).1 61 x1.toNatClampNeg = s.1 (zy_sh d) 3 := by rw [edn, zwmx_hi (by decide)]; exact el.symm
  have o6 : (zwmx a s).1 43 6 = s.1 1 5 := by rw [zwmx_hi (by decide)]; exact h1.1.symm
  have ow : ∀ k, (zwmx a s).2.1 62 k = s.2.1 62 k := fun k => by show a.2.1 62 k = _; rw [ha]
  have eL : (s.1 (zy_sh d) 3 - 2 - (2 : Int32) * x4).toInt = (s.1 (zy_sh d) 3).toInt - 2 - 2 * x4.toInt := by
    have k1 : (s.1 (zy_sh d) 3 - 2).toInt = (s.1 (zy_sh d) 3).toInt - 2 := by rw [zq_sub (by rw [zq_l2]; omega) (by rw [zq_l2]; omega), zq_l2]
    rw [zq_sub (by rw [k1, e2]; omega) (by rw [k1, e2]; omega), k1, e2]
  show zyF181_69b (zyF181_69 n) x1 x2 x3 x4 1 (zwmx a s) = _
  unfold zyF181_69b
  rw [if_neg (by decide), if_neg (by rw [Int32.le_iff_toInt_le]; omega), if_pos (zq_in.mpr ⟨by omega, by omega⟩), o61, o6, if_neg (by rw [Int32.lt_iff_toInt_lt, eL]; omega), if_neg (by rw [Int32.le_iff_toInt_le, zq_l8]; exact m1)]
  unfold zyF181_111
  rw [if_neg (by decide), if_pos (zq_in.mpr ⟨by omega, by omega⟩)]
  simp only [zys179, ean, ebn, ow, zq_bind, zqb_e0, decide_eq_false_iff_not, zq_j0, zq_j9, zq_j4095]
  rw [if_neg (not_not_intro m3), if_pos (zq_in.mpr ⟨by omega, by omega⟩), if_neg (not_not_intro m4)]
  unfold zyF181_172 zyF181_204
  rw [if_neg (by decide), if_pos (zq_in.mpr ⟨by omega, by omega⟩), if_pos (zq_in.mpr ⟨by omega, by omega⟩)]
  simp only [ean, ebn, ow]
  rw [zys180 _ _ (by rw [o6]; exact h1.2), zq_bind]
  exact congrArg (fun w => zyF181_69 n x1 x2 x3 (x4 + 1) 1 w) (zma_mx a s _ _)
theorem zcm_Mn (h : zI s) (hd : d < 6) (hxd : x1.toInt = (d : Int)) (ht : (s.1 (zy_sh d) 2).toInt = 1) {x4 : Int32} (h2 : 0 ≤ x2.toInt) (h4 : 0 ≤ x4.toInt) (h3 : x3.toInt ≤ 8) (hm : ¬ zcm s d x2 x4) (a : zy_S) (ha : a.2 = s.2) (n : Nat) :
    zyF181_69 (n + 2) x1 x2 x3 x4 1 (zwmx a s) = some (x4, zwmx a s) := by
  obtain ⟨hw, hg, h1, h2, h3, h4, h5, h6, h7, h8, h9, h10, h11, h12, h13, h14, h15, h16, h17, h18, h19, h20, h21⟩ := id h
  obtain ⟨el, ⟨l0, l1⟩, -⟩ := h20 d hd
  show zyF181_69b (zyF181_69 (n + 1)) x1 x2 x3 x4 1 (zwmx a s) = _
  unfold zyF181_69b
  rw [if_neg (by decide)]
  by_cases h43 : x3.toInt ≤ x4.toInt
  · rw [if_pos (by rw [Int32.le_iff_toInt_le]; omega)]
  rw [if_neg (by rw [Int32.le_iff_toInt_le]; omega), if_pos (zq_in.mpr ⟨by omega, by omega⟩)]
  have e2 : ((2 : Int32) * x4).toInt = 2 * x4.toInt := by rw [zq_mul (by rw [zq_l2]; omega) (by rw [zq_l2]; omega), zq_l2]
  have edn : x1.toNatClampNeg = d := by rw [zq_ix]; omega
  have o61 : (zwmx a s).1 61 x1.toNatClampNeg = s.1 (zy_sh d) 3 := by rw [edn, zwmx_hi (by decide)]; exact el.symm
  have o6 : (zwmx a s).1 43 6 = s.1 1 5 := by rw [zwmx_hi (by decide)]; exact h1.1.symm
  have ow : ∀ k, (zwmx a s).2.1 62 k = s.2.1 62 k := fun k => by show a.2.1 62 k = _; rw [ha]
  have eL : (s.1 (zy_sh d) 3 - 2 - (2 : Int32) * x4).toInt = (s.1 (zy_sh d) 3).toInt - 2 - 2 * x4.toInt := by
    have k1 : (s.1 (zy_sh d) 3 - 2).toInt = (s.1 (zy_sh d) 3).toInt - 2 := by rw [zq_sub (by rw [zq_l2]; omega) (by rw [zq_l2]; omega), zq_l2]
    rw [zq_sub (by rw [k1, e2]; omega) (by rw [k1, e2]; omega), k1, e2]
  rw [o61, o6]
  by_cases r1 : (s.1 (zy_sh d) 3).toInt - 2 - 2 * x4.toInt < x2.toInt
  · rw [if_pos (by rw [Int32.lt_iff_toInt_lt, eL]; exact r1)]
    exact zl_no n x1 x2 x3 x4 _
  rw [if_neg (by rw [Int32.lt_iff_toInt_lt, eL]; exact r1)]
  by_cases m1 : 8 ≤ (s.1 1 5).toInt
  · rw [if_pos (by rw [Int32.le_iff_toInt_le, zq_l8]; exact m1)]
    exact zl_no n x1 x2 x3 x4 _
  rw [if_neg (by rw [Int32.le_iff_toInt_le, zq_l8]; exact m1)]
  have em : ((60 : Int32) * x1).toInt = 60 * (d : Int) := by rw [zq_mul (by rw [zq_l60, hxd]; omega) (by rw [zq_l60, hxd]; omega), zq_l60, hxd]
  have eu : ((60 : Int32) * x1 + x2).toInt = 60 * (d : Int) + x2.toInt := by rw [zq_add (by rw [em]; omega) (by rw [em]; omega), em]
  obtain ⟨q, hq⟩ : ∃ q, q = (x2.toInt + 2 * x4.toInt).toNat := ⟨_, rfl⟩
  have ea : ((60 : Int32) * x1 + x2 + (2 : Int32) * x4).toInt = 60 * (d : Int) + q := by rw [zq_add (by rw [eu, e2]; omega) (by rw [eu, e2]; omega), eu, e2]; omega
  have eb : ((60 : Int32) * x1 + x2 + (2 : Int32) * x4 + 1).toInt = 60 * (d : Int) + q + 1 := by rw [zq_add (by rw [ea, zq_l1]; omega) (by rw [ea, zq_l1]; omega), ea, zq_l1]
  have ean : ((60 : Int32) * x1 + x2 + (2 : Int32) * x4).toNatClampNeg = 60 * d + q := by rw [zq_ix, ea]; omega
  have ebn : ((60 : Int32) * x1 + x2 + (2 : Int32) * x4 + 1).toNatClampNeg = 60 * d + q + 1 := by rw [zq_ix, eb]; omega
  have no : ∀ y, zyF181_171 (zyF181_69 (n + 1)) x1 x2 x3 x4 y (zwmx a s) = some (x4, zwmx a s) := by
    intro y
    unfold zyF181_171 zyF181_172
    rw [if_pos rfl]
    unfold zyF181_204
    show zyF181_69b (zyF181_69 n) x1 x2 x3 x4 0 _ = _
    unfold zyF181_69b
    rw [if_pos rfl]
  unfold zyF181_111
  rw [if_neg (by decide), if_pos (zq_in.mpr ⟨by omega, by omega⟩)]
  simp only [zys179, ean, ebn, ow, no, zq_bind, zqb_e0, decide_eq_false_iff_not, zq_j0, zq_j9, zq_j4095]
  by_cases m3 : 0 ≤ (s.2.1 62 (60 * d + q)).toInt ∧ (s.2.1 62 (60 * d + q)).toInt ≤ 4095
  · rw [if_neg (not_not_intro m3), if_pos (zq_in.mpr ⟨by omega, by omega⟩)]
    by_cases m4 : 0 ≤ (s.2.1 62 (60 * d + q + 1)).toInt ∧ (s.2.1 62 (60 * d + q + 1)).toInt ≤ 9
    · exfalso
      refine hm ⟨m1, by omega, ?_, ?_⟩
      · rw [← hq]; exact m3
      · rw [← hq]; exact m4
    · rw [if_pos m4]
  · rw [if_pos m3]
end ZP
/-- the two loops -/
theorem zl_people {d : Nat} {x1 x2 x3 : Int32} (hd : d < 6) (hxd : x1.toInt = (d : Int)) (h2 : 0 ≤ x2.toInt) (h3 : x3.toInt ≤ 8) : ∀ (n k : Nat) (x4 : Int32) (s : zy_S), zI s → (s.1 (zy_sh d) 2).toInt = 1 → k + n = 9 → x4.toInt = (k : Int) → x4.toInt ≤ x3.toInt →
    ∃ r t, zI t ∧ t.2 = s.2 ∧ (∀ b : zy_S, zyF17_53 (zy_fu - k) x2 x3 (zy_sh d) x4 (zwmx s b) = some (r, zwmx t b)) ∧ (∀ a : zy_S, a.2 = s.2 → zyF181_69 (zy_fu - k) x1 x2 x3 x4 1 (zwmx a s) = some (r, zwmx a t))
  | 0, k, x4, s, h, ht, hk, e4, h43 => by omega
  | n + 1, k, x4, s, h, ht, hk, e4, h43 => by
    obtain ⟨m, hm⟩ : ∃ m, zy_fu - k = m + 2 := ⟨zy_fu - k - 2, by unfold zy_fu; omega⟩
    have hm' : zy_fu - (k + 1) = m + 1 := by omega
    have no : (∀ b : zy_S, zyF22 (zy_sh d) (x2 + (2 : Int32) * x4) (zwmx s b) = some (0, zwmx s b)) ∨ x3.toInt ≤ x4.toInt → ∀ b : zy_S, zyF17_53 (zy_fu - k) x2 x3 (zy_sh d) x4 (zwmx s b) = some (x4, zwmx s b) := by
      intro hh b
      rw [hm]
      show zyF17_53b (zyF17_53 (m + 1)) x2 x3 (zy_sh d) x4 (zwmx s b) = _
      unfold zyF17_53b
      by_cases g : x3.toInt ≤ x4.toInt
      · rw [if_pos (by rw [Int32.le_iff_toInt_le]; exact g)]
      · rcases hh with hh | hh
        · rw [if_neg (by rw [Int32.le_iff_toInt_le]; exact g), hh b, zq_bind, if_pos rfl]
        · exact absurd hh g
    by_cases hc : zcm s d x2 x4
    · by_cases g : x3.toInt ≤ x4.toInt
      · refine ⟨x4, s, h, rfl, no (Or.inr g), fun a ha => ?_⟩
        rw [hm]
        show zyF181_69b (zyF181_69 (m + 1)) x1 x2 x3 x4 1 (zwmx a s) = _
        unfold zyF181_69b
        rw [if_neg (by decide), if_pos (by rw [Int32.le_iff_toInt_le]; exact g)]
      · have h1 : zR1 s := h.2.2.1
        obtain ⟨m1, m2, m3, m4⟩ := id hc
        have e4' : (x4 + 1).toInt = ((k + 1 : Nat) : Int) := by rw [zq_add (by rw [zq_l1]; omega) (by rw [zq_l1]; omega), zq_l1]; omega
        obtain ⟨x, hx⟩ : ∃ x, x = (s.2.1 62 (60 * d + (x2.toInt + 2 * x4.toInt).toNat)).toInt32 := ⟨_, rfl⟩
        obtain ⟨y, hy⟩ : ∃ y, y = (s.2.1 62 (60 * d + (x2.toInt + 2 * x4.toInt).toNat + 1)).toInt32 := ⟨_, rfl⟩
        have hI := zca_I h (x := x) (y := y) (by rw [hx, zq_j32 (by omega)]; exact m3) (show zin y 0 9 by rw [hy]; unfold zin; rw [zq_j32 (by omega)]; exact m4) m1
        have sd : zy_sh d < 43 := by unfold zy_sh; omega
        have oT : ∀ j, (zma (zca s x y) x y).1 (zy_sh d) j = s.1 (zy_sh d) j := fun j => by
          unfold zma zca
          rw [zf_sh (by decide) hd, zf_sh (by decide) hd, zf_sh (by decide) hd, zf_sh (by decide) hd, zf_sh (by decide) hd, zf_sh (by decide) hd]
        obtain ⟨r, t, q1, q2, q3, q4⟩ := zl_people hd hxd h2 h3 n (k + 1) (x4 + 1) (zma (zca s x y) x y) hI (by rw [oT]; exact ht) (by omega) e4' (by omega)
        refine ⟨r, t, q1, q2, fun b => ?_, fun a ha => ?_⟩
        · rw [hm]
          show zyF17_53b (zyF17_53 (m + 1)) x2 x3 (zy_sh d) x4 (zwmx s b) = _
          unfold zyF17_53b
          rw [if_neg (by rw [Int32.le_iff_toInt_le]; exact g), zcm_C h hd ht h2 (by omega) (by omega) hc b, zq_bind, if_neg (show ¬ ((1 : Int32) = 0) by decide), ← hx, ← hy, ← hm']
          have := q3 b
          have e : zwmx (zma (zca s x y) x y) b = zwmx (zca s x y) b := Prod.ext (funext fun p => funext fun q => by
            show (zwmx (zma (zca s x y) x y) b).1 p q = (zwmx (zca s x y) b).1 p q
            by_cases hp : p < 43
            · rw [zwmx_lo hp, zwmx_lo hp]
              unfold zma
              rw [zf_up (by omega), zf_up (by omega), zf_up (by omega)]
            · rw [zwmx_hi hp, zwmx_hi hp]) rfl
          rw [e] at this
          exact this
        · rw [hm, zcm_M h hd hxd ht h2 (by omega) (by omega) h3 hc a ha, ← hx, ← hy, ← hm']
          have := q4 a ha
          have e : zwmx a (zma (zca s x y) x y) = zwmx a (zma s x y) := Prod.ext (funext fun p => funext fun q => by
            show (zwmx a (zma (zca s x y) x y)).1 p q = (zwmx a (zma s x y)).1 p q
            by_cases hp : p < 43
            · rw [zwmx_lo hp, zwmx_lo hp]
            · rw [zwmx_hi hp, zwmx_hi hp]
              have o : (zca s x y).1 43 6 = s.1 43 6 := rfl
              unfold zma
              rw [o, zy_up_at, zy_up_at, zy_up_at, zy_up_at, zy_up_at, zy_up_at]
              have o2 : (zca s x y).1 p q = s.1 p q := by
                unfold zca
                rw [zf_up (by omega), zf_up (by omega), zf_up (by omega)]
              rw [o2]) rfl
          rw [e] at this
          exact this
    · refine ⟨x4, s, h, rfl, no (Or.inl (fun b => zcm_Cn h hd ht (Or.inl h2) (by omega) (by omega) (fun w => hc w.2) b)), fun a ha => ?_⟩
      rw [hm]
      exact zcm_Mn h hd hxd ht h2 (by omega) h3 hc a ha m
theorem zop_people (x1 x2 x3 : Int32) {s : zy_S} (h : zI s) : ∃ r s1 s2, zyF17 x1 x2 x3 s = some (r, s1) ∧ zyF181 x1 x2 x3 s1 = some (r, s2) ∧ zI s2 := by
  obtain ⟨hw, hg, h1, h2, h3, h4, h5, h6, h7, h8, h9, h10, h11, h12, h13, h14, h15, h16, h17, h18, h19, h20, h21⟩ := id h
  by_cases hx : 0 ≤ x1.toInt ∧ x1.toInt ≤ 5
  · obtain ⟨hin, hdl, hxd⟩ := zx6 hx
    obtain ⟨d, hd⟩ : ∃ d, d = x1.toNatClampNeg := ⟨_, rfl⟩
    rw [← hd] at hdl hxd
    by_cases hn : 1 ≤ x3.toInt ∧ x3.toInt ≤ 8
    · obtain ⟨el, hl, a2⟩ := h20 d hdl
      have q1 : ((s.1 (zy_sh d) 1).toInt = -1 ∧ (s.1 (zy_sh d) 2).toInt = -1 ∧ (s.1 60 d).toInt = -1) ∨ (0 ≤ (s.1 (zy_sh d) 1).toInt ∧ (s.1 (zy_sh d) 2).toInt = -1 ∧ 0 ≤ (s.1 60 d).toInt ∧ (s.1 60 d).toInt < 50) ∨ (0 ≤ (s.1 (zy_sh d) 2).toInt ∧ (s.1 60 d).toInt = 50 + (s.1 (zy_sh d) 2).toInt) := by
        obtain ⟨-, nb0, nb1⟩ := h14
        rcases a2 with ⟨t, hb, b0, b1, hn0⟩ | ⟨⟨t0, t1⟩, b, hh⟩
        · rw [← hb]; omega
        · omega
      have n0 : ∀ t : zy_S, zyF181_66 x1 x2 x3 0 t = some (0, t) := by
        intro t
        unfold zyF181_66 zyF181_67
        show zyF181_69b (zyF181_69 (zy_fu - 1)) x1 x2 x3 0 0 t = _
        unfold zyF181_69b
        rw [if_pos rfl]
      by_cases hb : (s.1 60 d).toInt < 0
      · refine ⟨0, s, s, ?_, ?_, h⟩
        · unfold zyF17
          simp only [zys18, zys19, zys21, ← hd, true_and, and_true, zqb_t0, Classical.not_not, Bool.not_eq_false, zq_bind, zqb_n0, zqb_e0, decide_eq_true_eq, decide_eq_false_iff_not, ne_eq, zq_eq, Int32.toInt_toInt64, Int32.lt_iff_toInt_lt, Int32.le_iff_toInt_le, zq_l0, zq_lm1, zq_l1, zq_l2, zq_l3, zq_l4, zq_l5, zq_l6, zq_l7, zq_l8, zq_l9, zq_l12, zq_l16, zq_l23, zq_l24, zq_l40, zq_l39, zq_l50, zq_l51, zq_l60, zq_l120, zq_l128, zq_l255, zq_l4095, zq_l4096, zq_j0, zq_j1, zq_j4, zq_j5, zq_j7, zq_j8, zq_j9, zq_j23, zq_j255, zq_j4095]
          rw [if_neg (not_not_intro hx), if_neg (by omega), if_pos hn.2, if_pos hin, if_pos hw, if_neg (by omega)]
        · unfold zyF181
          simp only [zys182, zys179, ← hd, n0, true_and, and_true, zqb_t0, Classical.not_not, Bool.not_eq_false, zq_bind, zqb_n0, zqb_e0, decide_eq_true_eq, decide_eq_false_iff_not, ne_eq, zq_eq, Int32.toInt_toInt64, Int32.lt_iff_toInt_lt, Int32.le_iff_toInt_le, zq_l0, zq_lm1, zq_l1, zq_l2, zq_l3, zq_l4, zq_l5, zq_l6, zq_l7, zq_l8, zq_l9, zq_l12, zq_l16, zq_l23, zq_l24, zq_l40, zq_l39, zq_l50, zq_l51, zq_l60, zq_l120, zq_l128, zq_l255, zq_l4095, zq_l4096, zq_j0, zq_j1, zq_j4, zq_j5, zq_j7, zq_j8, zq_j9, zq_j23, zq_j255, zq_j4095]
          rw [if_neg (not_not_intro hx), if_pos hn, if_pos hin, if_pos hb]
          unfold zyF181_44
          rw [if_pos hin, ← hd, if_pos (fun w => absurd (congrArg Int32.toInt w) (by rw [zq_l51]; omega)), n0]
      by_cases ht : (s.1 (zy_sh d) 2).toInt = 1
      · by_cases h2 : 0 ≤ x2.toInt
        · obtain ⟨r, t, c1, c2, c3, c4⟩ := zl_people hdl hxd h2 hn.2 9 0 0 s h ht rfl rfl (by rw [zq_l0]; omega)
          have c3 := c3 s
          have c4 := c4 t c2
          rw [zwmx_self] at c3 c4
          refine ⟨r, zwmx t s, t, ?_, ?_, c1⟩
          · unfold zyF17
            simp only [zys18, zys19, zys21, ← hd, true_and, and_true, zqb_t0, Classical.not_not, Bool.not_eq_false, zq_bind, zqb_n0, zqb_e0, decide_eq_true_eq, decide_eq_false_iff_not, ne_eq, zq_eq, Int32.toInt_toInt64, Int32.lt_iff_toInt_lt, Int32.le_iff_toInt_le, zq_l0, zq_lm1, zq_l1, zq_l2, zq_l3, zq_l4, zq_l5, zq_l6, zq_l7, zq_l8, zq_l9, zq_l12, zq_l16, zq_l23, zq_l24, zq_l40, zq_l39, zq_l50, zq_l51, zq_l60, zq_l120, zq_l128, zq_l255, zq_l4095, zq_l4096, zq_j0, zq_j1, zq_j4, zq_j5, zq_j7, zq_j8, zq_j9, zq_j23, zq_j255, zq_j4095]
            rw [if_neg (not_not_intro hx), if_neg (by omega), if_pos hn.2, if_pos hin, if_pos hw, if_pos (by omega), if_pos (by omega)]
            exact c3
          · have o60 : (zwmx t s).1 60 d = s.1 60 d := zwmx_hi (by decide) d
            unfold zyF181
            simp only [zys182, zys179, ← hd, o60, true_and, and_true, zqb_t0, Classical.not_not, Bool.not_eq_false, zq_bind, zqb_n0, zqb_e0, decide_eq_true_eq, decide_eq_false_iff_not, ne_eq, zq_eq, Int32.toInt_toInt64, Int32.lt_iff_toInt_lt, Int32.le_iff_toInt_le, zq_l0, zq_lm1, zq_l1, zq_l2, zq_l3, zq_l4, zq_l5, zq_l6, zq_l7, zq_l8, zq_l9, zq_l12, zq_l16, zq_l23, zq_l24, zq_l40, zq_l39, zq_l50, zq_l51, zq_l60, zq_l120, zq_l128, zq_l255, zq_l4095, zq_l4096, zq_j0, zq_j1, zq_j4, zq_j5, zq_j7, zq_j8, zq_j9, zq_j23, zq_j255, zq_j4095]
            rw [if_neg (not_not_intro hx), if_pos hn, if_pos hin, if_neg hb, if_pos hin, if_pos (by omega)]
            unfold zyF181_44
            rw [if_pos hin, ← hd, o60, if_neg (fun w => w (zq_ext (by rw [zq_l51]; omega))), if_neg (by rw [Int32.lt_iff_toInt_lt, zq_l0]; omega)]
            exact c4
        · have k : zyF22 (zy_sh d) (x2 + (2 : Int32) * 0) s = some (0, s) := by
            have := zcm_Cn h hdl ht (x2 := x2) (x4 := 0) (Or.inr rfl) (by decide) (by decide) (fun w => h2 w.1) s
            rw [zwmx_self] at this
            exact this
          refine ⟨0, s, s, ?_, ?_, h⟩
          · unfold zyF17
            simp only [zys18, zys19, zys21, ← hd, true_and, and_true, zqb_t0, Classical.not_not, Bool.not_eq_false, zq_bind, zqb_n0, zqb_e0, decide_eq_true_eq, decide_eq_false_iff_not, ne_eq, zq_eq, Int32.toInt_toInt64, Int32.lt_iff_toInt_lt, Int32.le_iff_toInt_le, zq_l0, zq_lm1, zq_l1, zq_l2, zq_l3, zq_l4, zq_l5, zq_l6, zq_l7, zq_l8, zq_l9, zq_l12, zq_l16, zq_l23, zq_l24, zq_l40, zq_l39, zq_l50, zq_l51, zq_l60, zq_l120, zq_l128, zq_l255, zq_l4095, zq_l4096, zq_j0, zq_j1, zq_j4, zq_j5, zq_j7, zq_j8, zq_j9, zq_j23, zq_j255, zq_j4095]
            rw [if_neg (not_not_intro hx), if_neg (by omega), if_pos hn.2, if_pos hin, if_pos hw, if_pos (by omega), if_pos (by omega)]
            show zyF17_53b (zyF17_53 (zy_fu - 1)) x2 x3 (zy_sh d) 0 s = _
            unfold zyF17_53b
            rw [if_neg (by rw [Int32.le_iff_toInt_le, zq_l0]; omega), k, zq_bind, if_pos rfl]
          · unfold zyF181
            simp only [zys182, zys179, ← hd, n0, true_and, and_true, zqb_t0, Classical.not_not, Bool.not_eq_false, zq_bind, zqb_n0, zqb_e0, decide_eq_true_eq, decide_eq_false_iff_not, ne_eq, zq_eq, Int32.toInt_toInt64, Int32.lt_iff_toInt_lt, Int32.le_iff_toInt_le, zq_l0, zq_lm1, zq_l1, zq_l2, zq_l3, zq_l4, zq_l5, zq_l6, zq_l7, zq_l8, zq_l9, zq_l12, zq_l16, zq_l23, zq_l24, zq_l40, zq_l39, zq_l50, zq_l51, zq_l60, zq_l120, zq_l128, zq_l255, zq_l4095, zq_l4096, zq_j0, zq_j1, zq_j4, zq_j5, zq_j7, zq_j8, zq_j9, zq_j23, zq_j255, zq_j4095]
            rw [if_neg (not_not_intro hx), if_pos hn, if_pos hin, if_neg hb, if_pos hin, if_pos (by omega)]
            unfold zyF181_44
            rw [if_pos hin, ← hd, if_neg (fun w => w (zq_ext (by rw [zq_l51]; omega))), if_pos (by rw [Int32.lt_iff_toInt_lt, zq_l0]; omega), n0]
      · refine ⟨-12, s, s, ?_, ?_, h⟩
        · unfold zyF17
          simp only [zys18, zys19, zys21, ← hd, true_and, and_true, zqb_t0, Classical.not_not, Bool.not_eq_false, zq_bind, zqb_n0, zqb_e0, decide_eq_true_eq, decide_eq_false_iff_not, ne_eq, zq_eq, Int32.toInt_toInt64, Int32.lt_iff_toInt_lt, Int32.le_iff_toInt_le, zq_l0, zq_lm1, zq_l1, zq_l2, zq_l3, zq_l4, zq_l5, zq_l6, zq_l7, zq_l8, zq_l9, zq_l12, zq_l16, zq_l23, zq_l24, zq_l40, zq_l39, zq_l50, zq_l51, zq_l60, zq_l120, zq_l128, zq_l255, zq_l4095, zq_l4096, zq_j0, zq_j1, zq_j4, zq_j5, zq_j7, zq_j8, zq_j9, zq_j23, zq_j255, zq_j4095]
          rw [if_neg (not_not_intro hx), if_neg (by omega), if_pos hn.2, if_pos hin, if_pos hw, if_pos (by omega), if_neg (by omega)]
        · unfold zyF181
          simp only [zys182, zys179, ← hd, true_and, and_true, zqb_t0, Classical.not_not, Bool.not_eq_false, zq_bind, zqb_n0, zqb_e0, decide_eq_true_eq, decide_eq_false_iff_not, ne_eq, zq_eq, Int32.toInt_toInt64, Int32.lt_iff_toInt_lt, Int32.le_iff_toInt_le, zq_l0, zq_lm1, zq_l1, zq_l2, zq_l3, zq_l4, zq_l5, zq_l6, zq_l7, zq_l8, zq_l9, zq_l12, zq_l16, zq_l23, zq_l24, zq_l40, zq_l39, zq_l50, zq_l51, zq_l60, zq_l120, zq_l128, zq_l255, zq_l4095, zq_l4096, zq_j0, zq_j1, zq_j4, zq_j5, zq_j7, zq_j8, zq_j9, zq_j23, zq_j255, zq_j4095]
          rw [if_neg (not_not_intro hx), if_pos hn, if_pos hin, if_neg hb, if_pos hin, if_neg (by omega)]
    · refine ⟨-1, s, s, ?_, ?_, h⟩
      · unfold zyF17
        simp only [zys18, true_and, and_true, zqb_t0, Classical.not_not, Bool.not_eq_false, zq_bind, zqb_n0, zqb_e0, decide_eq_true_eq, decide_eq_false_iff_not, ne_eq, zq_eq, Int32.toInt_toInt64, Int32.lt_iff_toInt_lt, Int32.le_iff_toInt_le, zq_l0, zq_lm1, zq_l1, zq_l2, zq_l3, zq_l4, zq_l5, zq_l6, zq_l7, zq_l8, zq_l9, zq_l12, zq_l16, zq_l23, zq_l24, zq_l40, zq_l39, zq_l50, zq_l51, zq_l60, zq_l120, zq_l128, zq_l255, zq_l4095, zq_l4096, zq_j0, zq_j1, zq_j4, zq_j5, zq_j7, zq_j8, zq_j9, zq_j23, zq_j255, zq_j4095]
        rw [if_neg (not_not_intro hx)]
        by_cases g : x3.toInt < 1
        · rw [if_pos g]
        · rw [if_neg g, if_neg (by omega)]
      · unfold zyF181
        simp only [zys182, zys179, true_and, and_true, zqb_t0, Classical.not_not, Bool.not_eq_false, zq_bind, zqb_n0, zqb_e0, decide_eq_true_eq, decide_eq_false_iff_not, ne_eq, zq_eq, Int32.toInt_toInt64, Int32.lt_iff_toInt_lt, Int32.le_iff_toInt_le, zq_l0, zq_lm1, zq_l1, zq_l2, zq_l3, zq_l4, zq_l5, zq_l6, zq_l7, zq_l8, zq_l9, zq_l12, zq_l16, zq_l23, zq_l24, zq_l40, zq_l39, zq_l50, zq_l51, zq_l60, zq_l120, zq_l128, zq_l255, zq_l4095, zq_l4096, zq_j0, zq_j1, zq_j4, zq_j5, zq_j7, zq_j8, zq_j9, zq_j23, zq_j255, zq_j4095]
        rw [if_neg (not_not_intro hx), if_neg hn]
  · refine ⟨-1, s, s, ?_, ?_, h⟩
    · unfold zyF17
      simp only [zys18, true_and, and_true, zqb_t0, Classical.not_not, Bool.not_eq_false, zq_bind, zqb_n0, zqb_e0, decide_eq_true_eq, decide_eq_false_iff_not, ne_eq, zq_eq, Int32.toInt_toInt64, Int32.lt_iff_toInt_lt, Int32.le_iff_toInt_le, zq_l0, zq_lm1, zq_l1, zq_l2, zq_l3, zq_l4, zq_l5, zq_l6, zq_l7, zq_l8, zq_l9, zq_l12, zq_l16, zq_l23, zq_l24, zq_l40, zq_l39, zq_l50, zq_l51, zq_l60, zq_l120, zq_l128, zq_l255, zq_l4095, zq_l4096, zq_j0, zq_j1, zq_j4, zq_j5, zq_j7, zq_j8, zq_j9, zq_j23, zq_j255, zq_j4095]
      rw [if_pos hx]
    · unfold zyF181
      simp only [zys182, true_and, and_true, zqb_t0, Classical.not_not, Bool.not_eq_false, zq_bind, zqb_n0, zqb_e0, decide_eq_true_eq, decide_eq_false_iff_not, ne_eq, zq_eq, Int32.toInt_toInt64, Int32.lt_iff_toInt_lt, Int32.le_iff_toInt_le, zq_l0, zq_lm1, zq_l1, zq_l2, zq_l3, zq_l4, zq_l5, zq_l6, zq_l7, zq_l8, zq_l9, zq_l12, zq_l16, zq_l23, zq_l24, zq_l40, zq_l39, zq_l50, zq_l51, zq_l60, zq_l120, zq_l128, zq_l255, zq_l4095, zq_l4096, zq_j0, zq_j1, zq_j4, zq_j5, zq_j7, zq_j8, zq_j9, zq_j23, zq_j255, zq_j4095]
      rw [if_pos hx]
end
section
/-! PART 46.920: the reading of a text, as a function. Made by wip/v6/gen_parse.py. -/
theorem zq_neg {a : Int32} (h : -2147483648 < a.toInt) : (-a).toInt = -a.toInt := by
  have := zq_hi a
  rw [Int32.toInt_neg]
  exact Int.bmod_eq_of_le (by omega) (by omega)
theorem zN_ix {n : Nat} (h : n < 2147483647) : (Int32.ofNat n).toNatClampNeg = n := by
  rw [zq_ix, zN_toInt (by omega)]
  omega
theorem zN_succ {n : Nat} (h : n < 2147483646) : Int32.ofNat n + 1 = Int32.ofNat (n + 1) := by
  refine zq_ext ?_
  rw [zq_add (by rw [zN_toInt (by omega), zq_l1]; omega) (by rw [zN_toInt (by omega), zq_l1]; omega), zN_toInt (by omega), zN_toInt (by omega), zq_l1]
  omega
/-- the letter at a place, as the class has it; as the model has it -/
def zpB (b : Nat → Int32) (n a : Nat) : Int32 := if a < n then b a else 0
theorem zpBN (b : Nat → Int32) (n a : Nat) : (zpB b n a = zpN b n a ∧ a < n) ∨ ((zpB b n a).toInt = 0 ∧ (zpN b n a).toInt = -1 ∧ n ≤ a) := by
  unfold zpB zpN
  by_cases h : a < n
  · rw [if_pos h, if_pos h]
    exact Or.inl ⟨rfl, h⟩
  · rw [if_neg h, if_neg h]
    exact Or.inr ⟨rfl, rfl, by omega⟩
theorem zpN_lt {b : Nat → Int32} {n a : Nat} (h : (zpN b n a).toInt ≠ -1) : a < n := by
  rcases zpBN b n a with ⟨-, q⟩ | ⟨-, q, -⟩
  · exact q
  · exact absurd q h
/-- a letter's level, a letter's name -/
theorem zys47 (x : Int32) (s : zy_S) : zyF47 x s = some (zlv x, s) := by
  unfold zyF47 zlv
  by_cases h0 : x = (37 : Int32)
  · rw [if_pos h0, if_pos h0]
  rw [if_neg h0, if_neg h0]
  by_cases h1 : x = (38 : Int32)
  · rw [if_pos h1, if_pos h1]
  rw [if_neg h1, if_neg h1]
  by_cases h2 : x = (42 : Int32)
  · rw [if_pos h2, if_pos h2]
  rw [if_neg h2, if_neg h2]
  by_cases h3 : x = (43 : Int32)
  · rw [if_pos h3, if_pos h3]
  rw [if_neg h3, if_neg h3]
  by_cases h4 : x = (45 : Int32)
  · rw [if_pos h4, if_pos h4]
  rw [if_neg h4, if_neg h4]
  by_cases h5 : x = (47 : Int32)
  · rw [if_pos h5, if_pos h5]
  rw [if_neg h5, if_neg h5]
  by_cases h6 : x = (60 : Int32)
  · rw [if_pos h6, if_pos h6]
  rw [if_neg h6, if_neg h6]
  by_cases h7 : x = (61 : Int32)
  · rw [if_pos h7, if_pos h7]
  rw [if_neg h7, if_neg h7]
  by_cases h8 : x = (62 : Int32)
  · rw [if_pos h8, if_pos h8]
  rw [if_neg h8, if_neg h8]
  by_cases h9 : x = (124 : Int32)
  · rw [if_pos h9, if_pos h9]
  rw [if_neg h9, if_neg h9]
theorem zys45 (x : Int32) (s : zy_S) : zyF45 x s = some (znm x, s) := by
  unfold zyF45 znm
  by_cases h0 : x = (100 : Int32)
  · rw [if_pos h0, if_pos h0]
  rw [if_neg h0, if_neg h0]
  by_cases h1 : x = (101 : Int32)
  · rw [if_pos h1, if_pos h1]
  rw [if_neg h1, if_neg h1]
  by_cases h2 : x = (102 : Int32)
  · rw [if_pos h2, if_pos h2]
  rw [if_neg h2, if_neg h2]
  by_cases h3 : x = (103 : Int32)
  · rw [if_pos h3, if_pos h3]
  rw [if_neg h3, if_neg h3]
  by_cases h4 : x = (104 : Int32)
  · rw [if_pos h4, if_pos h4]
  rw [if_neg h4, if_neg h4]
  by_cases h5 : x = (105 : Int32)
  · rw [if_pos h5, if_pos h5]
  rw [if_neg h5, if_neg h5]
  by_cases h6 : x = (106 : Int32)
  · rw [if_pos h6, if_pos h6]
  rw [if_neg h6, if_neg h6]
  by_cases h7 : x = (107 : Int32)
  · rw [if_pos h7, if_pos h7]
  rw [if_neg h7, if_neg h7]
  by_cases h8 : x = (108 : Int32)
  · rw [if_pos h8, if_pos h8]
  rw [if_neg h8, if_neg h8]
  by_cases h9 : x = (109 : Int32)
  · rw [if_pos h9, if_pos h9]
  rw [if_neg h9, if_neg h9]
  by_cases h10 : x = (110 : Int32)
  · rw [if_pos h10, if_pos h10]
  rw [if_neg h10, if_neg h10]
  by_cases h11 : x = (111 : Int32)
  · rw [if_pos h11, if_pos h11]
  rw [if_neg h11, if_neg h11]
  by_cases h12 : x = (112 : Int32)
  · rw [if_pos h12, if_pos h12]
  rw [if_neg h12, if_neg h12]
  by_cases h13 : x = (113 : Int32)
  · rw [if_pos h13, if_pos h13]
  rw [if_neg h13, if_neg h13]
  by_cases h14 : x = (114 : Int32)
  · rw [if_pos h14, if_pos h14]
  rw [if_neg h14, if_neg h14]
  by_cases h15 : x = (115 : Int32)
  · rw [if_pos h15, if_pos h15]
  rw [if_neg h15, if_neg h15]
  by_cases h16 : x = (116 : Int32)
  · rw [if_pos h16, if_pos h16]
  rw [if_neg h16, if_neg h16]
  by_cases h17 : x = (117 : Int32)
  · rw [if_pos h17, if_pos h17]
  rw [if_neg h17, if_neg h17]
  by_cases h18 : x = (118 : Int32)
  · rw [if_pos h18, if_pos h18]
  rw [if_neg h18, if_neg h18]
  by_cases h19 : x = (119 : Int32)
  · rw [if_pos h19, if_pos h19]
  rw [if_neg h19, if_neg h19]
theorem zys201 (x : Int32) (s : zy_S) : zyF201 x s = some (znm x, s) := by
  unfold zyF201 znm
  by_cases h0 : x = (100 : Int32)
  · rw [if_pos h0, if_pos h0]
  rw [if_neg h0, if_neg h0]
  by_cases h1 : x = (101 : Int32)
  · rw [if_pos h1, if_pos h1]
  rw [if_neg h1, if_neg h1]
  by_cases h2 : x = (102 : Int32)
  · rw [if_pos h2, if_pos h2]
  rw [if_neg h2, if_neg h2]
  by_cases h3 : x = (103 : Int32)
  · rw [if_pos h3, if_pos h3]
  rw [if_neg h3, if_neg h3]
  by_cases h4 : x = (104 : Int32)
  · rw [if_pos h4, if_pos h4]
  rw [if_neg h4, if_neg h4]
  by_cases h5 : x = (105 : Int32)
  · rw [if_pos h5, if_pos h5]
  rw [if_neg h5, if_neg h5]
  by_cases h6 : x = (106 : Int32)
  · rw [if_pos h6, if_pos h6]
  rw [if_neg h6, if_neg h6]
  by_cases h7 : x = (107 : Int32)
  · rw [if_pos h7, if_pos h7]
  rw [if_neg h7, if_neg h7]
  by_cases h8 : x = (108 : Int32)
  · rw [if_pos h8, if_pos h8]
  rw [if_neg h8, if_neg h8]
  by_cases h9 : x = (109 : Int32)
  · rw [if_pos h9, if_pos h9]
  rw [if_neg h9, if_neg h9]
  by_cases h10 : x = (110 : Int32)
  · rw [if_pos h10, if_pos h10]
  rw [if_neg h10, if_neg h10]
  by_cases h11 : x = (111 : Int32)
  · rw [if_pos h11, if_pos h11]
  rw [if_neg h11, if_neg h11]
  by_cases h12 : x = (112 : Int32)
  · rw [if_pos h12, if_pos h12]
  rw [if_neg h12, if_neg h12]
  by_cases h13 : x = (113 : Int32)
  · rw [if_pos h13, if_pos h13]
  rw [if_neg h13, if_neg h13]
  by_cases h14 : x = (114 : Int32)
  · rw [if_pos h14, if_pos h14]
  rw [if_neg h14, if_neg h14]
  by_cases h15 : x = (115 : Int32)
  · rw [if_pos h15, if_pos h15]
  rw [if_neg h15, if_neg h15]
  by_cases h16 : x = (116 : Int32)
  · rw [if_pos h16, if_pos h16]
  rw [if_neg h16, if_neg h16]
  by_cases h17 : x = (117 : Int32)
  · rw [if_pos h17, if_pos h17]
  rw [if_neg h17, if_neg h17]
  by_cases h18 : x = (118 : Int32)
  · rw [if_pos h18, if_pos h18]
  rw [if_neg h18, if_neg h18]
  by_cases h19 : x = (119 : Int32)
  · rw [if_pos h19, if_pos h19]
  rw [if_neg h19, if_neg h19]
theorem zlvC (x : Int32) : (x.toInt = 37 ∧ (zlv x).toInt = 4) ∨ (x.toInt = 38 ∧ (zlv x).toInt = 1) ∨ (x.toInt = 42 ∧ (zlv x).toInt = 4) ∨ (x.toInt = 43 ∧ (zlv x).toInt = 3) ∨ (x.toInt = 45 ∧ (zlv x).toInt = 3) ∨ (x.toInt = 47 ∧ (zlv x).toInt = 4) ∨ (x.toInt = 60 ∧ (zlv x).toInt = 2) ∨ (x.toInt = 61 ∧ (zlv x).toInt = 2) ∨ (x.toInt = 62 ∧ (zlv x).toInt = 2) ∨ (x.toInt = 124 ∧ (zlv x).toInt = 0) ∨ ((zlv x).toInt = -1 ∧ x.toInt ≠ 37 ∧ x.toInt ≠ 38 ∧ x.toInt ≠ 42 ∧ x.toInt ≠ 43 ∧ x.toInt ≠ 45 ∧ x.toInt ≠ 47 ∧ x.toInt ≠ 60 ∧ x.toInt ≠ 61 ∧ x.toInt ≠ 62 ∧ x.toInt ≠ 124) := by
  unfold zlv
  by_cases h0 : x = (37 : Int32)
  · have e : x.toInt = 37 := by rw [h0]; rfl
    have v : (4 : Int32).toInt = 4 := rfl
    rw [if_pos h0]
    exact Or.inl ⟨e, v⟩
  rw [if_neg h0]
  have n0 : ¬ x.toInt = 37 := fun q => h0 (zq_ext q)
  by_cases h1 : x = (38 : Int32)
  · have e : x.toInt = 38 := by rw [h1]; rfl
    have v : (1 : Int32).toInt = 1 := rfl
    rw [if_pos h1]
    exact Or.inr (Or.inl ⟨e, v⟩)
  rw [if_neg h1]
  have n1 : ¬ x.toInt = 38 := fun q => h1 (zq_ext q)
  by_cases h2 : x = (42 : Int32)
  · have e : x.toInt = 42 := by rw [h2]; rfl
    have v : (4 : Int32).toInt = 4 := rfl
    rw [if_pos h2]
    exact Or.inr (Or.inr (Or.inl ⟨e, v⟩))
  rw [if_neg h2]
  have n2 : ¬ x.toInt = 42 := fun q => h2 (zq_ext q)
  by_cases h3 : x = (43 : Int32)
  · have e : x.toInt = 43 := by rw [h3]; rfl
    have v : (3 : Int32).toInt = 3 := rfl
    rw [if_pos h3]
    exact Or.inr (Or.inr (Or.inr (Or.inl ⟨e, v⟩)))
  rw [if_neg h3]
  have n3 : ¬ x.toInt = 43 := fun q => h3 (zq_ext q)
  by_cases h4 : x = (45 : Int32)
  · have e : x.toInt = 45 := by rw [h4]; rfl
    have v : (3 : Int32).toInt = 3 := rfl
    rw [if_pos h4]
    exact Or.inr (Or.inr (Or.inr (Or.inr (Or.inl ⟨e, v⟩))))
  rw [if_neg h4]
  have n4 : ¬ x.toInt = 45 := fun q => h4 (zq_ext q)
  by_cases h5 : x = (47 : Int32)
  · have e : x.toInt = 47 := by rw [h5]; rfl
    have v : (4 : Int32).toInt = 4 := rfl
    rw [if_pos h5]
    exact Or.inr (Or.inr (Or.inr (Or.inr (Or.inr (Or.inl ⟨e, v⟩)))))
  rw [if_neg h5]
  have n5 : ¬ x.toInt = 47 := fun q => h5 (zq_ext q)
  by_cases h6 : x = (60 : Int32)
  · have e : x.toInt = 60 := by rw [h6]; rfl
    have v : (2 : Int32).toInt = 2 := rfl
    rw [if_pos h6]
    exact Or.inr (Or.inr (Or.inr (Or.inr (Or.inr (Or.inr (Or.inl ⟨e, v⟩))))))
  rw [if_neg h6]
  have n6 : ¬ x.toInt = 60 := fun q => h6 (zq_ext q)
  by_cases h7 : x = (61 : Int32)
  · have e : x.toInt = 61 := by rw [h7]; rfl
    have v : (2 : Int32).toInt = 2 := rfl
    rw [if_pos h7]
    exact Or.inr (Or.inr (Or.inr (Or.inr (Or.inr (Or.inr (Or.inr (Or.inl ⟨e, v⟩)))))))
  rw [if_neg h7]
  have n7 : ¬ x.toInt = 61 := fun q => h7 (zq_ext q)
  by_cases h8 : x = (62 : Int32)
  · have e : x.toInt = 62 := by rw [h8]; rfl
    have v : (2 : Int32).toInt = 2 := rfl
    rw [if_pos h8]
    exact Or.inr (Or.inr (Or.inr (Or.inr (Or.inr (Or.inr (Or.inr (Or.inr (Or.inl ⟨e, v⟩))))))))
  rw [if_neg h8]
  have n8 : ¬ x.toInt = 62 := fun q => h8 (zq_ext q)
  by_cases h9 : x = (124 : Int32)
  · have e : x.toInt = 124 := by rw [h9]; rfl
    have v : (0 : Int32).toInt = 0 := rfl
    rw [if_pos h9]
    exact Or.inr (Or.inr (Or.inr (Or.inr (Or.inr (Or.inr (Or.inr (Or.inr (Or.inr (Or.inl ⟨e, v⟩)))))))))
  rw [if_neg h9]
  have n9 : ¬ x.toInt = 124 := fun q => h9 (zq_ext q)
  have v : (-1 : Int32).toInt = -1 := rfl
  refine Or.inr (Or.inr (Or.inr (Or.inr (Or.inr (Or.inr (Or.inr (Or.inr (Or.inr (Or.inr (⟨v, ?_⟩))))))))))
  omega
theorem znmC (x : Int32) : (x.toInt = 100 ∧ (znm x).toInt = 0) ∨ (x.toInt = 107 ∧ (znm x).toInt = 4) ∨ (x.toInt = 109 ∧ (znm x).toInt = 2) ∨ (x.toInt = 115 ∧ (znm x).toInt = 1) ∨ (x.toInt = 118 ∧ (znm x).toInt = 5) ∨ (x.toInt = 119 ∧ (znm x).toInt = 3) ∨ ((znm x).toInt = -1 ∧ x.toInt ≠ 100 ∧ x.toInt ≠ 107 ∧ x.toInt ≠ 109 ∧ x.toInt ≠ 115 ∧ x.toInt ≠ 118 ∧ x.toInt ≠ 119) := by
  unfold znm
  by_cases h0 : x = (100 : Int32)
  · have e : x.toInt = 100 := by rw [h0]; rfl
    have v : (0 : Int32).toInt = 0 := rfl
    rw [if_pos h0]
    exact Or.inl ⟨e, v⟩
  rw [if_neg h0]
  have n0 : ¬ x.toInt = 100 := fun q => h0 (zq_ext q)
  by_cases h1 : x = (101 : Int32)
  · have e : x.toInt = 101 := by rw [h1]; rfl
    have v : (-1 : Int32).toInt = -1 := rfl
    rw [if_pos h1]
    refine Or.inr (Or.inr (Or.inr (Or.inr (Or.inr (Or.inr (⟨v, ?_⟩))))))
    omega
  rw [if_neg h1]
  have n1 : ¬ x.toInt = 101 := fun q => h1 (zq_ext q)
  by_cases h2 : x = (102 : Int32)
  · have e : x.toInt = 102 := by rw [h2]; rfl
    have v : (-1 : Int32).toInt = -1 := rfl
    rw [if_pos h2]
    refine Or.inr (Or.inr (Or.inr (Or.inr (Or.inr (Or.inr (⟨v, ?_⟩))))))
    omega
  rw [if_neg h2]
  have n2 : ¬ x.toInt = 102 := fun q => h2 (zq_ext q)
  by_cases h3 : x = (103 : Int32)
  · have e : x.toInt = 103 := by rw [h3]; rfl
    have v : (-1 : Int32).toInt = -1 := rfl
    rw [if_pos h3]
    refine Or.inr (Or.inr (Or.inr (Or.inr (Or.inr (Or.inr (⟨v, ?_⟩))))))
    omega
  rw [if_neg h3]
  have n3 : ¬ x.toInt = 103 := fun q => h3 (zq_ext q)
  by_cases h4 : x = (104 : Int32)
  · have e : x.toInt = 104 := by rw [h4]; rfl
    have v : (-1 : Int32).toInt = -1 := rfl
    rw [if_pos h4]
    refine Or.inr (Or.inr (Or.inr (Or.inr (Or.inr (Or.inr (⟨v, ?_⟩))))))
    omega
  rw [if_neg h4]
  have n4 : ¬ x.toInt = 104 := fun q => h4 (zq_ext q)
  by_cases h5 : x = (105 : Int32)
  · have e : x.toInt = 105 := by rw [h5]; rfl
    have v : (-1 : Int32).toInt = -1 := rfl
    rw [if_pos h5]
    refine Or.inr (Or.inr (Or.inr (Or.inr (Or.inr (Or.inr (⟨v, ?_⟩))))))
    omega
  rw [if_neg h5]
  have n5 : ¬ x.toInt = 105 := fun q => h5 (zq_ext q)
  by_cases h6 : x = (106 : Int32)
  · have e : x.toInt = 106 := by rw [h6]; rfl
    have v : (-1 : Int32).toInt = -1 := rfl
    rw [if_pos h6]
    refine Or.inr (Or.inr (Or.inr (Or.inr (Or.inr (Or.inr (⟨v, ?_⟩))))))
    omega
  rw [if_neg h6]
  have n6 : ¬ x.toInt = 106 := fun q => h6 (zq_ext q)
  by_cases h7 : x = (107 : Int32)
  · have e : x.toInt = 107 := by rw [h7]; rfl
    have v : (4 : Int32).toInt = 4 := rfl
    rw [if_pos h7]
    exact Or.inr (Or.inl ⟨e, v⟩)
  rw [if_neg h7]
  have n7 : ¬ x.toInt = 107 := fun q => h7 (zq_ext q)
  by_cases h8 : x = (108 : Int32)
  · have e : x.toInt = 108 := by rw [h8]; rfl
    have v : (-1 : Int32).toInt = -1 := rfl
    rw [if_pos h8]
    refine Or.inr (Or.inr (Or.inr (Or.inr (Or.inr (Or.inr (⟨v, ?_⟩))))))
    omega
  rw [if_neg h8]
  have n8 : ¬ x.toInt = 108 := fun q => h8 (zq_ext q)
  by_cases h9 : x = (109 : Int32)
  · have e : x.toInt = 109 := by rw [h9]; rfl
    have v : (2 : Int32).toInt = 2 := rfl
    rw [if_pos h9]
    exact Or.inr (Or.inr (Or.inl ⟨e, v⟩))
  rw [if_neg h9]
  have n9 : ¬ x.toInt = 109 := fun q => h9 (zq_ext q)
  by_cases h10 : x = (110 : Int32)
  · have e : x.toInt = 110 := by rw [h10]; rfl
    have v : (-1 : Int32).toInt = -1 := rfl
    rw [if_pos h10]
    refine Or.inr (Or.inr (Or.inr (Or.inr (Or.inr (Or.inr (⟨v, ?_⟩))))))
    omega
  rw [if_neg h10]
  have n10 : ¬ x.toInt = 110 := fun q => h10 (zq_ext q)
  by_cases h11 : x = (111 : Int32)
  · have e : x.toInt = 111 := by rw [h11]; rfl
    have v : (-1 : Int32).toInt = -1 := rfl
    rw [if_pos h11]
    refine Or.inr (Or.inr (Or.inr (Or.inr (Or.inr (Or.inr (⟨v, ?_⟩))))))
    omega
  rw [if_neg h11]
  have n11 : ¬ x.toInt = 111 := fun q => h11 (zq_ext q)
  by_cases h12 : x = (112 : Int32)
  · have e : x.toInt = 112 := by rw [h12]; rfl
    have v : (-1 : Int32).toInt = -1 := rfl
    rw [if_pos h12]
    refine Or.inr (Or.inr (Or.inr (Or.inr (Or.inr (Or.inr (⟨v, ?_⟩))))))
    omega
  rw [if_neg h12]
  have n12 : ¬ x.toInt = 112 := fun q => h12 (zq_ext q)
  by_cases h13 : x = (113 : Int32)
  · have e : x.toInt = 113 := by rw [h13]; rfl
    have v : (-1 : Int32).toInt = -1 := rfl
    rw [if_pos h13]
    refine Or.inr (Or.inr (Or.inr (Or.inr (Or.inr (Or.inr (⟨v, ?_⟩))))))
    omega
  rw [if_neg h13]
  have n13 : ¬ x.toInt = 113 := fun q => h13 (zq_ext q)
  by_cases h14 : x = (114 : Int32)
  · have e : x.toInt = 114 := by rw [h14]; rfl
    have v : (-1 : Int32).toInt = -1 := rfl
    rw [if_pos h14]
    refine Or.inr (Or.inr (Or.inr (Or.inr (Or.inr (Or.inr (⟨v, ?_⟩))))))
    omega
  rw [if_neg h14]
  have n14 : ¬ x.toInt = 114 := fun q => h14 (zq_ext q)
  by_cases h15 : x = (115 : Int32)
  · have e : x.toInt = 115 := by rw [h15]; rfl
    have v : (1 : Int32).toInt = 1 := rfl
    rw [if_pos h15]
    exact Or.inr (Or.inr (Or.inr (Or.inl ⟨e, v⟩)))
  rw [if_neg h15]
  have n15 : ¬ x.toInt = 115 := fun q => h15 (zq_ext q)
  by_cases h16 : x = (116 : Int32)
  · have e : x.toInt = 116 := by rw [h16]; rfl
    have v : (-1 : Int32).toInt = -1 := rfl
    rw [if_pos h16]
    refine Or.inr (Or.inr (Or.inr (Or.inr (Or.inr (Or.inr (⟨v, ?_⟩))))))
    omega
  rw [if_neg h16]
  have n16 : ¬ x.toInt = 116 := fun q => h16 (zq_ext q)
  by_cases h17 : x = (117 : Int32)
  · have e : x.toInt = 117 := by rw [h17]; rfl
    have v : (-1 : Int32).toInt = -1 := rfl
    rw [if_pos h17]
    refine Or.inr (Or.inr (Or.inr (Or.inr (Or.inr (Or.inr (⟨v, ?_⟩))))))
    omega
  rw [if_neg h17]
  have n17 : ¬ x.toInt = 117 := fun q => h17 (zq_ext q)
  by_cases h18 : x = (118 : Int32)
  · have e : x.toInt = 118 := by rw [h18]; rfl
    have v : (5 : Int32).toInt = 5 := rfl
    rw [if_pos h18]
    exact Or.inr (Or.inr (Or.inr (Or.inr (Or.inl ⟨e, v⟩))))
  rw [if_neg h18]
  have n18 : ¬ x.toInt = 118 := fun q => h18 (zq_ext q)
  by_cases h19 : x = (119 : Int32)
  · have e : x.toInt = 119 := by rw [h19]; rfl
    have v : (3 : Int32).toInt = 3 := rfl
    rw [if_pos h19]
    exact Or.inr (Or.inr (Or.inr (Or.inr (Or.inr (Or.inl ⟨e, v⟩)))))
  rw [if_neg h19]
  have n19 : ¬ x.toInt = 119 := fun q => h19 (zq_ext q)
  have v : (-1 : Int32).toInt = -1 := rfl
  refine Or.inr (Or.inr (Or.inr (Or.inr (Or.inr (Or.inr (⟨v, ?_⟩))))))
  omega
/-- the lines behind a line that ends at b -/
theorem zpNum_s (g : Nat → Int32) (k a : Nat) (v : Int32) : zpNum g (k + 1) a v = if zpDig (g a) = true then zpNum g k (a + 1) (((10 : Int32) * v + g a) - (48 : Int32)) else (a, v) := rfl
theorem zpL_0 (sub : Nat → Nat × Bool × List Int32) (g : Nat → Int32) (lev : Nat) (r : Nat × Bool × List Int32) : zpL sub g lev 0 r = r := rfl
theorem zpL_s (sub : Nat → Nat × Bool × List Int32) (g : Nat → Int32) (lev k : Nat) (r : Nat × Bool × List Int32) : zpL sub g lev (k + 1) r = if r.2.1 = false ∧ (zlv (g r.1)).toInt = (lev : Int) then zpL sub g lev k ((sub (r.1 + 1)).1, (sub (r.1 + 1)).2.1, r.2.2 ++ ((sub (r.1 + 1)).2.2 ++ [-(g r.1)])) else r := rfl
theorem zpS_s (g : Nat → Int32) (f lev o a : Nat) : zpS g (f + 1) lev o a =
    if lev < 5 then zpL (fun b => zpS g f (lev + 1) o b) g lev (if lev = 2 then 1 else 120) (zpS g f (lev + 1) o a)
    else if zpDig (g a) = true then ((zpNum g 4 a 0).1, false, [(zpNum g 4 a 0).2])
    else if 0 ≤ (znm (g a)).toInt then (a + 1, false, [(10000 : Int32) + znm (g a)])
    else if o < 6 ∧ (g a).toInt = 40 then
      (if (zpS g f 0 (o + 1) (a + 1)).2.1 = false ∧ (g (zpS g f 0 (o + 1) (a + 1)).1).toInt = 41 then ((zpS g f 0 (o + 1) (a + 1)).1 + 1, false, (zpS g f 0 (o + 1) (a + 1)).2.2) else ((zpS g f 0 (o + 1) (a + 1)).1, true, (zpS g f 0 (o + 1) (a + 1)).2.2))
    else if o < 6 ∧ (g a).toInt = 33 then ((zpS g f 5 (o + 1) (a + 1)).1, (zpS g f 5 (o + 1) (a + 1)).2.1, (zpS g f 5 (o + 1) (a + 1)).2.2 ++ [(-33 : Int32)])
    else if o < 6 ∧ (g a).toInt = 45 then ((zpS g f 5 (o + 1) (a + 1)).1, (zpS g f 5 (o + 1) (a + 1)).2.1, (zpS g f 5 (o + 1) (a + 1)).2.2 ++ [(-126 : Int32)])
    else (a, true, []) := rfl
theorem zpU_s (g : Nat → Int32) (k b : Nat) (br : Bool) : zpU g (k + 1) b br = if br = false ∧ (g b).toInt = 59 then
      ((zpU g k (zpLine g (b + 1)).1 (zpLine g (b + 1)).2.1).1, (zpU g k (zpLine g (b + 1)).1 (zpLine g (b + 1)).2.1).2.1, (zpLine g (b + 1)).2.2 ++ (zpU g k (zpLine g (b + 1)).1 (zpLine g (b + 1)).2.1).2.2)
    else (b, br, []) := rfl
/-- letters: none behind n, bytes ahead of it -/
theorem zpG.lt {n : Nat} {g : Nat → Int32} (h : zpG n g) {a : Nat} (q : (g a).toInt ≠ -1) : a < n := by
  rcases Nat.lt_or_ge a n with k | k
  · exact k
  · exact absurd (by rw [h.1 a k]; rfl) q
/-- a step is one of these -/
def zpC (c : Int32) : Prop := -255 ≤ c.toInt ∧ c.toInt ≤ 10005
def zpOk (n a : Nat) (q : Nat × Bool × List Int32) : Prop := a ≤ q.1 ∧ q.1 ≤ n ∧ a + q.2.2.length ≤ q.1 ∧ (q.2.1 = false → a < q.1) ∧ ∀ c ∈ q.2.2, zpC c
section ZP
variable {n : Nat} {g : Nat → Int32}
theorem zpNum_ok (hg : zpG n g) : ∀ (k a : Nat) (v : Int32), a ≤ n → 0 ≤ v.toInt → (k = 4 ∧ v.toInt = 0 ∨ k = 3 ∧ v.toInt ≤ 9 ∨ k = 2 ∧ v.toInt ≤ 99 ∨ k = 1 ∧ v.toInt ≤ 999 ∨ k = 0 ∧ v.toInt ≤ 9999) → a ≤ (zpNum g k a v).1 ∧ (zpNum g k a v).1 ≤ n ∧ 0 ≤ (zpNum g k a v).2.toInt ∧ (zpNum g k a v).2.toInt ≤ 9999
  | 0, a, v, ha, h0, hv => ⟨Nat.le_refl _, ha, h0, by show v.toInt ≤ 9999; omega⟩
  | k + 1, a, v, ha, h0, hv => by
    rw [zpNum_s]
    by_cases h : zpDig (g a) = true
    · rw [if_pos h]
      obtain ⟨d0, d1⟩ := of_decide_eq_true h
      have han : a < n := hg.lt (by omega)
      have l10 : (10 : Int32).toInt = 10 := rfl
      have l48 : (48 : Int32).toInt = 48 := rfl
      have e1 : ((10 : Int32) * v).toInt = 10 * v.toInt := by rw [zq_mul (by rw [l10]; omega) (by rw [l10]; omega), l10]
      have e2 : ((10 : Int32) * v + g a).toInt = 10 * v.toInt + (g a).toInt := by rw [zq_add (by omega) (by omega), e1]
      have e3 : (((10 : Int32) * v + g a) - (48 : Int32)).toInt = 10 * v.toInt + (g a).toInt - 48 := by rw [zq_sub (by omega) (by omega), e2, l48]
      obtain ⟨q1, q2⟩ := zpNum_ok hg k (a + 1) (((10 : Int32) * v + g a) - (48 : Int32)) (by omega) (by omega) (by omega)
      exact ⟨by omega, q2⟩
    · rw [if_neg h]
      exact ⟨Nat.le_refl _, ha, h0, by show v.toInt ≤ 9999; omega⟩
theorem zpNum_1 (hg : zpG n g) {a : Nat} (ha : a ≤ n) (h : zpDig (g a) = true) : a + 1 ≤ (zpNum g 4 a 0).1 ∧ (zpNum g 4 a 0).1 ≤ n ∧ 0 ≤ (zpNum g 4 a 0).2.toInt ∧ (zpNum g 4 a 0).2.toInt ≤ 9999 := by
  have hall := zpNum_ok hg 4 a 0 ha (by decide) (Or.inl ⟨rfl, rfl⟩)
  refine ⟨?_, hall.2⟩
  show a + 1 ≤ (zpNum g (3 + 1) a 0).1
  rw [zpNum_s, if_pos h]
  obtain ⟨d0, d1⟩ := of_decide_eq_true h
  have han : a < n := hg.lt (by omega)
  have l10 : ((10 : Int32) * 0).toInt = 0 := rfl
  have l48 : (48 : Int32).toInt = 48 := rfl
  have e2 : ((10 : Int32) * 0 + g a).toInt = (g a).toInt := by rw [zq_add (by omega) (by omega), l10]; omega
  have e3 : (((10 : Int32) * 0 + g a) - (48 : Int32)).toInt = (g a).toInt - 48 := by rw [zq_sub (by omega) (by omega), e2, l48]
  exact (zpNum_ok hg 3 (a + 1) (((10 : Int32) * 0 + g a) - (48 : Int32)) (by omega) (by omega) (by omega)).1
theorem zpL_ok (hg : zpG n g) {sub : Nat → Nat × Bool × List Int32} (hs : ∀ b, b ≤ n → zpOk n b (sub b)) {lev a : Nat} : ∀ (k : Nat) (r : Nat × Bool × List Int32), zpOk n a r → zpOk n a (zpL sub g lev k r)
  | 0, r, h => h
  | k + 1, r, h => by
    rw [zpL_s]
    by_cases c : r.2.1 = false ∧ (zlv (g r.1)).toInt = (lev : Int)
    · rw [if_pos c]
      obtain ⟨h1, h2, h3, h4, h5⟩ := h
      have hr : r.1 < n := hg.lt (by have hc := zlvC (g r.1); omega)
      have hb := hg.2 r.1 hr
      obtain ⟨q1, q2, q3, q4, q5⟩ := hs (r.1 + 1) hr
      refine zpL_ok hg hs k _ ⟨by show a ≤ (sub (r.1 + 1)).1; omega, q2, ?_, fun _ => by show a < (sub (r.1 + 1)).1; omega, ?_⟩
      · show a + (r.2.2 ++ ((sub (r.1 + 1)).2.2 ++ [-(g r.1)])).length ≤ (sub (r.1 + 1)).1
        rw [List.length_append, List.length_append, List.length_singleton]
        omega
      · intro x hx
        have hx : x ∈ r.2.2 ++ ((sub (r.1 + 1)).2.2 ++ [-(g r.1)]) := hx
        rcases List.mem_append.mp hx with hx | hx
        · exact h5 x hx
        rcases List.mem_append.mp hx with hx | hx
        · exact q5 x hx
        rw [List.mem_singleton.mp hx]
        unfold zpC
        rw [zq_neg (by omega)]
        omega
    · rw [if_neg c]
      exact h
theorem zpOk_1 {a : Nat} {x : Int32} (ha : a < n) (hx : zpC x) : zpOk n a (a + 1, false, [x]) := ⟨by show a ≤ a + 1; omega, ha, Nat.le_refl _, fun _ => by show a < a + 1; omega, fun c hc => by rw [List.mem_singleton.mp hc]; exact hx⟩
theorem zpS_ok (hg : zpG n g) : ∀ (f lev o a : Nat), a ≤ n → zpOk n a (zpS g f lev o a)
  | 0, lev, o, a, ha => ⟨Nat.le_refl _, ha, Nat.le_refl _, (fun h => absurd (show true = false from h) (by decide)), (fun c hc => nomatch (show c ∈ ([] : List Int32) from hc))⟩
  | f + 1, lev, o, a, ha => by
    have no : zpOk n a (a, true, []) := ⟨Nat.le_refl _, ha, Nat.le_refl _, (fun h => absurd (show true = false from h) (by decide)), (fun c hc => nomatch (show c ∈ ([] : List Int32) from hc))⟩
    rw [zpS_s]
    by_cases h5 : lev < 5
    · rw [if_pos h5]
      exact zpL_ok hg (fun b hb => zpS_ok hg f (lev + 1) o b hb) _ _ (zpS_ok hg f (lev + 1) o a ha)
    rw [if_neg h5]
    by_cases hd : zpDig (g a) = true
    · rw [if_pos hd]
      obtain ⟨q1, q2, q3, q4⟩ := zpNum_1 hg ha hd
      exact ⟨by show a ≤ (zpNum g 4 a 0).1; omega, q2, by show a + 1 ≤ (zpNum g 4 a 0).1; omega, fun _ => by show a < (zpNum g 4 a 0).1; omega, fun c hc => by rw [List.mem_singleton.mp hc]; exact ⟨by omega, by omega⟩⟩
    rw [if_neg hd]
    have hm := znmC (g a)
    by_cases hn : 0 ≤ (znm (g a)).toInt
    · rw [if_pos hn]
      have l : (10000 : Int32).toInt = 10000 := rfl
      exact zpOk_1 (hg.lt (by omega)) (by unfold zpC; rw [zq_add (by rw [l]; omega) (by rw [l]; omega), l]; omega)
    rw [if_neg hn]
    have un : ∀ (x : Int32), zpC x → (g a).toInt ≠ -1 → ∀ q, zpOk n (a + 1) q → zpOk n a (q.1, q.2.1, q.2.2 ++ [x]) := fun x hx _ q hq => by
      obtain ⟨q1, q2, q3, q4, q5⟩ := hq
      refine ⟨by show a ≤ q.1; omega, q2, ?_, fun _ => by show a < q.1; omega, ?_⟩
      · show a + (q.2.2 ++ [x]).length ≤ q.1
        rw [List.length_append, List.length_singleton]
        omega
      · intro c hc
        have hc : c ∈ q.2.2 ++ [x] := hc
        rcases List.mem_append.mp hc with hc | hc
        · exact q5 c hc
        · rw [List.mem_singleton.mp hc]
          exact hx
    by_cases h40 : o < 6 ∧ (g a).toInt = 40
    · rw [if_pos h40]
      have han : a < n := hg.lt (by omega)
      obtain ⟨q1, q2, q3, q4, q5⟩ := zpS_ok hg f 0 (o + 1) (a + 1) han
      by_cases hc : (zpS g f 0 (o + 1) (a + 1)).2.1 = false ∧ (g (zpS g f 0 (o + 1) (a + 1)).1).toInt = 41
      · rw [if_pos hc]
        have hlt : (zpS g f 0 (o + 1) (a + 1)).1 < n := hg.lt (by omega)
        exact ⟨by show a ≤ (zpS g f 0 (o + 1) (a + 1)).1 + 1; omega, hlt, by show a + (zpS g f 0 (o + 1) (a + 1)).2.2.length ≤ (zpS g f 0 (o + 1) (a + 1)).1 + 1; omega, (fun _ => by show a < (zpS g f 0 (o + 1) (a + 1)).1 + 1; omega), q5⟩
      · rw [if_neg hc]
        exact ⟨by show a ≤ (zpS g f 0 (o + 1) (a + 1)).1; omega, q2, by show a + (zpS g f 0 (o + 1) (a + 1)).2.2.length ≤ (zpS g f 0 (o + 1) (a + 1)).1; omega, (fun h => absurd (show true = false from h) (by decide)), q5⟩
    rw [if_neg h40]
    by_cases h33 : o < 6 ∧ (g a).toInt = 33
    · rw [if_pos h33]
      exact un _ ⟨by decide, by decide⟩ (by omega) _ (zpS_ok hg f 5 (o + 1) (a + 1) (hg.lt (by omega)))
    rw [if_neg h33]
    by_cases h45 : o < 6 ∧ (g a).toInt = 45
    · rw [if_pos h45]
      exact un _ ⟨by decide, by decide⟩ (by omega) _ (zpS_ok hg f 5 (o + 1) (a + 1) (hg.lt (by omega)))
    rw [if_neg h45]
    exact no
/-- a line; its last step is one more -/
def zpOk' (n a : Nat) (q : Nat × Bool × List Int32) : Prop := a ≤ q.1 ∧ q.1 ≤ n ∧ a + q.2.2.length ≤ q.1 + 1 ∧ (q.2.1 = false → a < q.1) ∧ ∀ c ∈ q.2.2, zpC c
theorem zpLine_ok (hg : zpG n g) {a : Nat} (ha : a ≤ n) : zpOk' n a (zpLine g a) := by
  obtain ⟨q1, q2, q3, q4, q5⟩ := zpS_ok hg 50 0 0 a ha
  unfold zpLine
  by_cases hc : (zpS g 50 0 0 a).2.1 = false ∧ (g (zpS g 50 0 0 a).1).toInt = 63
  · rw [if_pos hc]
    have hlt : (zpS g 50 0 0 a).1 < n := hg.lt (by omega)
    obtain ⟨r1, r2, r3, r4, r5⟩ := zpS_ok hg 50 0 0 ((zpS g 50 0 0 a).1 + 1) hlt
    refine ⟨by show a ≤ (zpS g 50 0 0 ((zpS g 50 0 0 a).1 + 1)).1; omega, r2, ?_, fun _ => by show a < (zpS g 50 0 0 ((zpS g 50 0 0 a).1 + 1)).1; omega, ?_⟩
    · show a + ((zpS g 50 0 0 a).2.2 ++ ([(-63 : Int32)] ++ ((zpS g 50 0 0 ((zpS g 50 0 0 a).1 + 1)).2.2 ++ [(-59 : Int32)]))).length ≤ (zpS g 50 0 0 ((zpS g 50 0 0 a).1 + 1)).1 + 1
      rw [List.length_append, List.length_append, List.length_append, List.length_singleton, List.length_singleton]
      omega
    · intro c hc
      have hc : c ∈ (zpS g 50 0 0 a).2.2 ++ ([(-63 : Int32)] ++ ((zpS g 50 0 0 ((zpS g 50 0 0 a).1 + 1)).2.2 ++ [(-59 : Int32)])) := hc
      rcases List.mem_append.mp hc with hc | hc
      · exact q5 c hc
      rcases List.mem_append.mp hc with hc | hc
      · rw [List.mem_singleton.mp hc]
        exact ⟨by decide, by decide⟩
      rcases List.mem_append.mp hc with hc | hc
      · exact r5 c hc
      · rw [List.mem_singleton.mp hc]
        exact ⟨by decide, by decide⟩
  · rw [if_neg hc]
    refine ⟨q1, q2, ?_, q4, ?_⟩
    · show a + ((zpS g 50 0 0 a).2.2 ++ [(-59 : Int32)]).length ≤ (zpS g 50 0 0 a).1 + 1
      rw [List.length_append, List.length_singleton]
      omega
    · intro c hc
      have hc : c ∈ (zpS g 50 0 0 a).2.2 ++ [(-59 : Int32)] := hc
      rcases List.mem_append.mp hc with hc | hc
      · exact q5 c hc
      · rw [List.mem_singleton.mp hc]
        exact ⟨by decide, by decide⟩
theorem zpU_ok (hg : zpG n g) : ∀ (k b : Nat) (br : Bool), b ≤ n → b ≤ (zpU g k b br).1 ∧ (zpU g k b br).1 ≤ n ∧ b + (zpU g k b br).2.2.length ≤ (zpU g k b br).1 ∧ ∀ c ∈ (zpU g k b br).2.2, zpC c
  | 0, b, br, hb => ⟨Nat.le_refl _, hb, Nat.le_refl _, (fun c hc => nomatch (show c ∈ ([] : List Int32) from hc))⟩
  | k + 1, b, br, hb => by
    rw [zpU_s]
    by_cases c : br = false ∧ (g b).toInt = 59
    · rw [if_pos c]
      have hlt : b < n := hg.lt (by omega)
      obtain ⟨q1, q2, q3, q4, q5⟩ := zpLine_ok hg (a := b + 1) hlt
      obtain ⟨r1, r2, r3, r4⟩ := zpU_ok hg k (zpLine g (b + 1)).1 (zpLine g (b + 1)).2.1 q2
      refine ⟨by show b ≤ (zpU g k (zpLine g (b + 1)).1 (zpLine g (b + 1)).2.1).1; omega, r2, ?_, ?_⟩
      · show b + ((zpLine g (b + 1)).2.2 ++ (zpU g k (zpLine g (b + 1)).1 (zpLine g (b + 1)).2.1).2.2).length ≤ (zpU g k (zpLine g (b + 1)).1 (zpLine g (b + 1)).2.1).1
        rw [List.length_append]
        omega
      · intro x hx
        rcases List.mem_append.mp hx with hx | hx
        · exact q5 x hx
        · exact r4 x hx
    · rw [if_neg c]
      exact ⟨Nat.le_refl _, hb, Nat.le_refl _, (fun c hc => nomatch (show c ∈ ([] : List Int32) from hc))⟩
theorem zpT_ok (hg : zpG n g) : (zpT g).1 ≤ n ∧ (zpT g).2.2.length ≤ (zpT g).1 + 1 ∧ ∀ c ∈ (zpT g).2.2, zpC c := by
  obtain ⟨q1, q2, q3, q4, q5⟩ := zpLine_ok hg (a := 0) (Nat.zero_le _)
  obtain ⟨r1, r2, r3, r4⟩ := zpU_ok hg 120 (zpLine g 0).1 (zpLine g 0).2.1 q2
  unfold zpT
  refine ⟨r2, ?_, ?_⟩
  · show ((zpLine g 0).2.2 ++ (zpU g 120 (zpLine g 0).1 (zpLine g 0).2.1).2.2).length ≤ (zpU g 120 (zpLine g 0).1 (zpLine g 0).2.1).1 + 1
    rw [List.length_append]
    omega
  · intro x hx
    rcases List.mem_append.mp hx with hx | hx
    · exact q5 x hx
    · exact r4 x hx
end ZP
end
section
/-! PART 46.921: the class reads so. Made by wip/v6/gen_parse.py. -/
/-- s, but the reading stands at a, broken or not, and has made the steps C -/
def zcW (s : zy_S) (a : Nat) (br : Bool) (C : List Int32) : zy_S := zy_up (zy_up (zy_up (zy_ua s 11 (fun j => (C[j]?).getD (s.1 11 j))) 9 3 (Int32.ofNat C.length)) 9 4 (Int32.ofNat a)) 9 5 (zqb br)
theorem zxS {s t : zy_S} (h : ∀ a b, s.1 a b = t.1 a b) (h2 : s.2 = t.2) : s = t := Prod.ext (funext fun a => funext fun b => h a b) h2
theorem zcW_at {s : zy_S} {a x y : Nat} {br : Bool} {C : List Int32} : (zcW s a br C).1 x y = if x = 9 ∧ y = 5 then zqb br else if x = 9 ∧ y = 4 then Int32.ofNat a else if x = 9 ∧ y = 3 then Int32.ofNat C.length else if x = 11 then (C[y]?).getD (s.1 11 y) else s.1 x y := by
  unfold zcW
  rw [zy_up_at, zy_up_at, zy_up_at, zy_ua_at]
theorem zcW_4 {s : zy_S} {a b : Nat} {br : Bool} {C : List Int32} : zy_up (zcW s a br C) 9 4 (Int32.ofNat b) = zcW s b br C := by
  refine zxS (fun x y => ?_) rfl
  rw [zy_up_at, zcW_at, zcW_at]
  by_cases h4 : x = 9 ∧ y = 4
  · rw [if_pos h4, if_neg (by omega), if_pos h4]
  · rw [if_neg h4, if_neg h4, if_neg h4]
theorem zcW_5 {s : zy_S} {a : Nat} {br c : Bool} {C : List Int32} : zy_up (zcW s a br C) 9 5 (zqb c) = zcW s a c C := by
  refine zxS (fun x y => ?_) rfl
  rw [zy_up_at, zcW_at, zcW_at]
  by_cases h5 : x = 9 ∧ y = 5
  · rw [if_pos h5, if_pos h5]
  · rw [if_neg h5, if_neg h5, if_neg h5]
theorem zcW_m {s : zy_S} {a : Nat} {br : Bool} {C : List Int32} (v : Int32) (hL : C.length < 128) : zy_up (zy_up (zcW s a br C) 11 (Int32.ofNat C.length).toNatClampNeg v) 9 3 (Int32.ofNat C.length + 1) = zcW s a br (C ++ [v]) := by
  refine zxS (fun x y => ?_) rfl
  rw [zy_up_at, zy_up_at, zcW_at, zcW_at, zN_ix (by omega), zN_succ (by omega)]
  by_cases h3 : x = 9 ∧ y = 3
  · rw [if_pos h3, if_neg (by omega), if_neg (by omega), if_pos h3, List.length_append, List.length_singleton]
  rw [if_neg h3]
  by_cases hc : x = 11 ∧ y = C.length
  · rw [if_pos hc, if_neg (by omega), if_neg (by omega), if_neg (by omega), if_pos hc.1, hc.2, List.getElem?_append_right (Nat.le_refl _), Nat.sub_self]
    try rfl
  rw [if_neg hc]
  by_cases h5 : x = 9 ∧ y = 5
  · rw [if_pos h5, if_pos h5]
  rw [if_neg h5, if_neg h5]
  by_cases h4 : x = 9 ∧ y = 4
  · rw [if_pos h4, if_pos h4]
  rw [if_neg h4, if_neg h4, if_neg h3, if_neg h3]
  by_cases h11 : x = 11
  · rw [if_pos h11, if_pos h11]
    have hb : y ≠ C.length := fun e => hc ⟨h11, e⟩
    rcases Nat.lt_or_ge y C.length with k | k
    · rw [List.getElem?_append_left k]
    · rw [List.getElem?_eq_none k, List.getElem?_eq_none (by rw [List.length_append, List.length_singleton]; omega)]
  · rw [if_neg h11, if_neg h11]
section ZC
variable {s : zy_S} {n a : Nat} {br : Bool} {C : List Int32}
theorem zys41 (hn : s.1 9 2 = Int32.ofNat n) (h120 : n ≤ 120) (ha : a ≤ n) : zyF41 (zcW s a br C) = some (zpN (s.1 10) n a, zcW s a br C) := by
  have e2 : (zcW s a br C).1 9 2 = Int32.ofNat n := hn
  have e4 : (zcW s a br C).1 9 4 = Int32.ofNat a := rfl
  unfold zyF41 zpN
  rw [e2, e4]
  by_cases h : a < n
  · rw [if_neg (by rw [Int32.le_iff_toInt_le, zN_toInt (by omega), zN_toInt (by omega)]; omega), if_pos (zq_in.mpr (by rw [zN_toInt (by omega)]; omega)), zN_ix (by omega), if_pos h]
    try rfl
  · rw [if_pos (by rw [Int32.le_iff_toInt_le, zN_toInt (by omega), zN_toInt (by omega)]; omega), if_neg h]
theorem zys46 (hn : s.1 9 2 = Int32.ofNat n) (h120 : n ≤ 120) (ha : a ≤ n) (x : Int32) : zyF46 x (zcW s a br C) = if br = false ∧ zpN (s.1 10) n a = x then some (1, zcW s (a + 1) br C) else some (0, zcW s a br C) := by
  have e5 : (zcW s a br C).1 9 5 = zqb br := rfl
  have e4 : (zcW s a br C).1 9 4 = Int32.ofNat a := rfl
  have no : zyF46_19 (zcW s a br C) = some (0, zcW s a br C) := by
    unfold zyF46_19 zyF46_20 zyF46_35
    rw [if_pos rfl, if_pos (Or.inl rfl), e4, Int32.add_zero, zcW_4]
  unfold zyF46
  rw [e5]
  cases br with
  | true => rw [if_pos (by decide), no, if_neg (fun q => by cases q.1)]
  | false =>
    rw [if_neg (by decide), zys41 hn h120 ha, zq_bind]
    try dsimp only
    by_cases h : zpN (s.1 10) n a = x
    · rw [if_neg (not_not_intro h), if_pos ⟨rfl, h⟩]
      unfold zyF46_20 zyF46_35
      rw [if_neg (by decide), if_pos (Or.inr rfl), e4, zN_succ (by omega), zcW_4]
    · rw [if_pos h, if_neg (fun q => h q.2)]
      exact no
theorem zys44 (v : Int32) (hL : C.length < 128) : zyF44 v (zcW s a br C) = some (0, zcW s a br (C ++ [v])) := by
  have e3 : (zcW s a br C).1 9 3 = Int32.ofNat C.length := rfl
  unfold zyF44
  rw [e3, if_neg (by rw [Int32.le_iff_toInt_le, zN_toInt (by omega), show (128 : Int32).toInt = 128 from rfl]; omega), if_pos (zq_in.mpr (by rw [zN_toInt (by omega)]; omega)), zcW_m v hL]
theorem zys42 (x : Int32) (s : zy_S) : zyF42 x s = some (zqb (zpDig x), s) := by
  unfold zyF42 zpDig
  by_cases h : 48 ≤ x.toInt ∧ x.toInt ≤ 57
  · rw [if_neg (by rw [Int32.lt_iff_toInt_lt, show (48 : Int32).toInt = 48 from rfl]; omega), if_neg (by rw [Int32.lt_iff_toInt_lt, show (57 : Int32).toInt = 57 from rfl]; omega), decide_eq_true h]
    try rfl
  · rw [decide_eq_false h]
    by_cases h2 : x.toInt < 48
    · rw [if_pos (by rw [Int32.lt_iff_toInt_lt]; exact h2)]
      try rfl
    · rw [if_neg (by rw [Int32.lt_iff_toInt_lt]; exact h2), if_pos (by rw [Int32.lt_iff_toInt_lt, show (57 : Int32).toInt = 57 from rfl]; omega)]
      try rfl
theorem zl_43 (hn : s.1 9 2 = Int32.ofNat n) (h120 : n ≤ 120) (hL : C.length < 128) : ∀ (k m a : Nat) (v i : Int32), a ≤ n → k < m → 0 ≤ i.toInt → i.toInt + (k : Int) = 4 → zyF43_4 m v i (zcW s a br C) = some (0, zcW s (zpNum (zpN (s.1 10) n) k a v).1 br (C ++ [(zpNum (zpN (s.1 10) n) k a v).2]))
  | k, 0, a, v, i, ha, hm, i0, hi => by omega
  | 0, m + 1, a, v, i, ha, hm, i0, hi => by
    show zyF43_4b (zyF43_4 m) v i (zcW s a br C) = _
    unfold zyF43_4b zyF43_48
    rw [if_pos (by rw [Int32.le_iff_toInt_le, zq_l4]; omega), zys44 v hL]
    try rfl
  | k + 1, m + 1, a, v, i, ha, hm, i0, hi => by
    show zyF43_4b (zyF43_4 m) v i (zcW s a br C) = _
    unfold zyF43_4b
    rw [zpNum_s]
    rw [if_neg (by rw [Int32.le_iff_toInt_le, zq_l4]; omega), zys41 hn h120 ha, zq_bind]
    try dsimp only
    rw [zys42, zq_bind]
    try dsimp only
    by_cases h : zpDig (zpN (s.1 10) n a) = true
    · obtain ⟨d0, d1⟩ := of_decide_eq_true h
      have han : a < n := zpN_lt (b := s.1 10) (by omega)
      rw [if_pos h, h, if_neg (by decide), zys41 hn h120 ha, zq_bind]
      try dsimp only
      rw [show (zcW s a br C).1 9 4 = Int32.ofNat a from rfl, zN_succ (by omega), zcW_4]
      exact zl_43 hn h120 hL k m (a + 1) _ (i + 1) (by omega) (by omega) (by rw [zq_add (by rw [zq_l1]; omega) (by rw [zq_l1]; omega), zq_l1]; omega) (by rw [zq_add (by rw [zq_l1]; omega) (by rw [zq_l1]; omega), zq_l1]; omega)
    · rw [if_neg h, if_pos (by rw [Bool.not_eq_true] at h; rw [h]; rfl)]
      unfold zyF43_48
      rw [zys44 v hL]
      try rfl
theorem zys43 (hn : s.1 9 2 = Int32.ofNat n) (h120 : n ≤ 120) (hL : C.length < 128) (ha : a ≤ n) : zyF43 (zcW s a br C) = some (0, zcW s (zpNum (zpN (s.1 10) n) 4 a 0).1 br (C ++ [(zpNum (zpN (s.1 10) n) 4 a 0).2])) := by
  unfold zyF43
  exact zl_43 hn h120 hL 4 zy_fu a 0 0 ha (by unfold zy_fu; omega) (by decide) (by decide)
end ZC
section ZD
variable {s : zy_S} {n : Nat}
theorem zl_39 {g39 : Int32 → Int32 → zy_S → Option (Int32 × zy_S)} {g40 : Int32 → zy_S → Option (Int32 × zy_S)} {x1 x2 most : Int32} {lev : Nat} {sub : Nat → Nat × Bool × List Int32} {C0 : List Int32} {a0 : Nat} (hn : s.1 9 2 = Int32.ofNat n) (h120 : n ≤ 120) (hg : zpG n (zpN (s.1 10) n)) (hx : x1.toInt = (lev : Int)) (hl : lev < 5) (hC : C0.length + (n - a0) ≤ 127) (hm : 0 ≤ most.toInt ∧ most.toInt ≤ 120)
    (hs : ∀ (b : Nat) (C : List Int32) (x : Int32), b ≤ n → C.length + (n - b) ≤ 127 → x.toInt = (lev : Int) + 1 → g39 x x2 (zcW s b false C) = some (0, zcW s (sub b).1 (sub b).2.1 (C ++ (sub b).2.2))) (hok : ∀ b, b ≤ n → zpOk n b (sub b)) :
    ∀ (k m : Nat) (i : Int32) (r : Nat × Bool × List Int32), 0 ≤ i.toInt → i.toInt + (k : Int) = most.toInt → k < m → zpOk n a0 r → zyF39_34 g39 g40 m x1 x2 most i (zcW s r.1 r.2.1 (C0 ++ r.2.2)) = some (0, zcW s (zpL sub (zpN (s.1 10) n) lev k r).1 (zpL sub (zpN (s.1 10) n) lev k r).2.1 (C0 ++ (zpL sub (zpN (s.1 10) n) lev k r).2.2))
  | k, 0, i, r, i0, hi, hk, h => by omega
  | 0, m + 1, i, r, i0, hi, hk, h => by
    show zyF39_34b g39 g40 (zyF39_34 g39 g40 m) x1 x2 most i _ = _
    unfold zyF39_34b
    rw [if_pos (by rw [Int32.le_iff_toInt_le]; omega)]
    try rfl
  | k + 1, m + 1, i, r, i0, hi, hk, h => by
    obtain ⟨h1, h2, h3, h4, h5⟩ := id h
    show zyF39_34b g39 g40 (zyF39_34 g39 g40 m) x1 x2 most i _ = _
    unfold zyF39_34b
    rw [zpL_s]
    rw [if_neg (by rw [Int32.le_iff_toInt_le]; omega), show (zcW s r.1 r.2.1 (C0 ++ r.2.2)).1 9 5 = zqb r.2.1 from rfl]
    by_cases hb : r.2.1 = true
    · rw [hb, if_pos (by decide), if_neg (fun q => by cases q.1)]
      rw [hb]
    have hb : r.2.1 = false := by simpa using hb
    rw [if_neg (by rw [hb]; decide), zys41 hn h120 h2, zq_bind]
    try dsimp only
    rw [zys47, zq_bind]
    try dsimp only
    by_cases hc : (zlv (zpN (s.1 10) n r.1)).toInt = (lev : Int)
    · have hz := zlvC (zpN (s.1 10) n r.1)
      have hr : r.1 < n := zpN_lt (b := s.1 10) (by omega)
      obtain ⟨q1, q2, q3, q4, q5⟩ := hok (r.1 + 1) hr
      have el : (C0 ++ r.2.2).length = C0.length + r.2.2.length := List.length_append
      have ex : (x1 + 1).toInt = (lev : Int) + 1 := by rw [zq_add (by rw [zq_l1]; omega) (by rw [zq_l1]; omega), zq_l1, hx]
      rw [if_neg (not_not_intro (zq_ext (by rw [hc, hx]))), if_pos ⟨hb, hc⟩, zys41 hn h120 h2, zq_bind]
      try dsimp only
      rw [show (zcW s r.1 r.2.1 (C0 ++ r.2.2)).1 9 4 = Int32.ofNat r.1 from rfl, zN_succ (by omega), zcW_4, hb, hs (r.1 + 1) (C0 ++ r.2.2) (x1 + 1) hr (by omega) ex, zq_bind]
      try dsimp only
      rw [zys44 _ (by rw [List.length_append]; omega), zq_bind]
      try dsimp only
      rw [List.append_assoc, List.append_assoc]
      have hok2 : zpOk n a0 ((sub (r.1 + 1)).1, (sub (r.1 + 1)).2.1, r.2.2 ++ ((sub (r.1 + 1)).2.2 ++ [-(zpN (s.1 10) n r.1)])) := by
        have := zpL_ok (sub := sub) (lev := lev) hg hok 1 r h
        rw [show (1 : Nat) = 0 + 1 from rfl, zpL_s, if_pos ⟨hb, hc⟩, zpL_0] at this
        exact this
      exact zl_39 hn h120 hg hx hl hC hm hs hok k m (i + 1) ((sub (r.1 + 1)).1, (sub (r.1 + 1)).2.1, r.2.2 ++ ((sub (r.1 + 1)).2.2 ++ [-(zpN (s.1 10) n r.1)])) (by rw [zq_add (by rw [zq_l1]; omega) (by rw [zq_l1]; omega), zq_l1]; omega) (by rw [zq_add (by rw [zq_l1]; omega) (by rw [zq_l1]; omega), zq_l1]; omega) (by omega) hok2
    · rw [if_pos (fun q => hc (by rw [q, hx])), if_neg (fun q => hc q.2)]
theorem zcS (hn : s.1 9 2 = Int32.ofNat n) (h120 : n ≤ 120) (hg : zpG n (zpN (s.1 10) n)) : ∀ f : Nat,
    (∀ (o a N : Nat) (x : Int32) (C : List Int32), x.toInt = (o : Int) → o ≤ 6 → a ≤ n → 7 * (6 - o) < f → 2 * f ≤ N + 1 → C.length + (n - a) ≤ 127 → (zyG39 N).2 x (zcW s a false C) = some (0, zcW s (zpS (zpN (s.1 10) n) f 5 o a).1 (zpS (zpN (s.1 10) n) f 5 o a).2.1 (C ++ (zpS (zpN (s.1 10) n) f 5 o a).2.2))) ∧
    (∀ (lev o a N : Nat) (x1 x : Int32) (C : List Int32), x1.toInt = (lev : Int) → lev ≤ 5 → x.toInt = (o : Int) → o ≤ 6 → a ≤ n → 7 * (6 - o) + (5 - lev) < f → 2 * f ≤ N → C.length + (n - a) ≤ 127 → (zyG39 N).1 x1 x (zcW s a false C) = some (0, zcW s (zpS (zpN (s.1 10) n) f lev o a).1 (zpS (zpN (s.1 10) n) f lev o a).2.1 (C ++ (zpS (zpN (s.1 10) n) f lev o a).2.2)))
  | 0 => ⟨fun o a N x C hx ho ha h => by omega, fun lev o a N x1 x C h1 h2 hx ho ha h => by omega⟩
  | f + 1 => by
    obtain ⟨i1, i2⟩ := zcS hn h120 hg f
    have key : ∀ (o a N : Nat) (x : Int32) (C : List Int32), x.toInt = (o : Int) → o ≤ 6 → a ≤ n → 7 * (6 - o) < f + 1 → 2 * (f + 1) ≤ N + 1 → C.length + (n - a) ≤ 127 → (zyG39 N).2 x (zcW s a false C) = some (0, zcW s (zpS (zpN (s.1 10) n) (f + 1) 5 o a).1 (zpS (zpN (s.1 10) n) (f + 1) 5 o a).2.1 (C ++ (zpS (zpN (s.1 10) n) (f + 1) 5 o a).2.2)) := by
      intro o a N x C hx ho ha hf hN hC
      obtain ⟨N, rfl⟩ : ∃ M, N = M + 1 := ⟨N - 1, by omega⟩
      have e10000 : (10000 : Int32).toInt = 10000 := rfl
      rw [zyS40]
      unfold zyF40_0
      rw [zpS_s]
      rw [if_neg (by decide), zys41 hn h120 ha, zq_bind]
      try dsimp only
      rw [zys42, zq_bind]
      try dsimp only
      by_cases hd : zpDig (zpN (s.1 10) n a) = true
      · rw [if_pos hd, hd, if_neg (by decide), zys43 hn h120 (by omega) ha, zq_bind]
      rw [if_neg hd, if_pos (by rw [Bool.not_eq_true] at hd; rw [hd]; rfl), zys45, zq_bind]
      try dsimp only
      have hm := znmC (zpN (s.1 10) n a)
      by_cases hnm : 0 ≤ (znm (zpN (s.1 10) n a)).toInt
      · have han : a < n := zpN_lt (b := s.1 10) (by omega)
        rw [if_pos hnm, if_neg (by rw [Int32.lt_iff_toInt_lt, zq_l0]; omega), show (zcW s a false C).1 9 4 = Int32.ofNat a from rfl, zN_succ (by omega), zcW_4, zys45, zq_bind]
        try dsimp only
        rw [zys44 _ (by omega), zq_bind]
      rw [if_neg hnm, if_pos (by rw [Int32.lt_iff_toInt_lt, zq_l0]; omega)]
      have brk : zyF40_157 (zyG39 N).1 (zyG39 N).2 (zcW s a false C) = some (0, zcW s a true (C ++ [])) := by
        unfold zyF40_157
        rw [show (1 : Int32) = zqb true from rfl, zcW_5, List.append_nil]
      by_cases ho6 : o < 6
      · have n6 : ¬ (6 : Int32) ≤ x := by
          rw [Int32.le_iff_toInt_le, zq_l6]
          omega
        have ex : (x + 1).toInt = ((o + 1 : Nat) : Int) := by rw [zq_add (by rw [zq_l1]; omega) (by rw [zq_l1]; omega), zq_l1, hx]; omega
        have l40 : (40 : Int32).toInt = 40 := rfl
        have l33 : (33 : Int32).toInt = 33 := rfl
        have l45 : (45 : Int32).toInt = 45 := rfl
        rw [if_neg n6, zys46 hn h120 ha]
        by_cases h40 : (zpN (s.1 10) n a).toInt = 40
        · have han : a < n := zpN_lt (b := s.1 10) (by omega)
          obtain ⟨q1, q2, q3, q4, q5⟩ := zpS_ok hg f 0 (o + 1) (a + 1) han
          rw [if_pos ⟨rfl, zq_ext h40⟩, zq_bind, if_pos (show o < 6 ∧ (zpN (s.1 10) n a).toInt = 40 from ⟨ho6, h40⟩)]
          try dsimp only
          rw [if_neg (by decide), i2 0 (o + 1) (a + 1) N 0 (x + 1) C rfl (by omega) ex (by omega) han (by omega) (by omega) (by omega), zq_bind]
          try dsimp only
          rw [zys46 hn h120 q2]
          by_cases hc : (zpS (zpN (s.1 10) n) f 0 (o + 1) (a + 1)).2.1 = false ∧ (zpN (s.1 10) n (zpS (zpN (s.1 10) n) f 0 (o + 1) (a + 1)).1).toInt = 41
          · rw [if_pos hc, if_pos ⟨hc.1, zq_ext hc.2⟩, zq_bind]
            try dsimp only
            rw [if_pos (by decide)]
            unfold zyF40_89
            rw [if_pos (Or.inl rfl), show (0 : Int32) = zqb false from rfl, zcW_5]
          · rw [if_neg hc, if_neg (fun q => hc ⟨q.1, by rw [q.2]; rfl⟩), zq_bind]
            try dsimp only
            rw [if_neg (by decide)]
            unfold zyF40_89
            rw [if_pos (Or.inr rfl), show (1 : Int32) = zqb true from rfl, zcW_5]
            try rfl
        rw [if_neg (fun q => h40 (by rw [q.2]; rfl)), zq_bind, if_neg (show ¬ (o < 6 ∧ (zpN (s.1 10) n a).toInt = 40) from fun q => h40 q.2)]
        try dsimp only
        rw [if_pos rfl]
        unfold zyF40_95
        rw [if_neg n6, zys46 hn h120 ha]
        by_cases h33 : (zpN (s.1 10) n a).toInt = 33
        · have han : a < n := zpN_lt (b := s.1 10) (by omega)
          obtain ⟨q1, q2, q3, q4, q5⟩ := zpS_ok hg f 5 (o + 1) (a + 1) han
          rw [if_pos ⟨rfl, zq_ext h33⟩, zq_bind, if_pos (show o < 6 ∧ (zpN (s.1 10) n a).toInt = 33 from ⟨ho6, h33⟩)]
          try dsimp only
          rw [if_neg (by decide), i1 (o + 1) (a + 1) N (x + 1) C ex (by omega) han (by omega) (by omega) (by omega), zq_bind]
          try dsimp only
          rw [zys44 _ (by rw [List.length_append]; omega), zq_bind, List.append_assoc]
        rw [if_neg (fun q => h33 (by rw [q.2]; rfl)), zq_bind, if_neg (show ¬ (o < 6 ∧ (zpN (s.1 10) n a).toInt = 33) from fun q => h33 q.2)]
        try dsimp only
        rw [if_pos rfl]
        unfold zyF40_126
        rw [if_neg n6, zys46 hn h120 ha]
        by_cases h45 : (zpN (s.1 10) n a).toInt = 45
        · have han : a < n := zpN_lt (b := s.1 10) (by omega)
          obtain ⟨q1, q2, q3, q4, q5⟩ := zpS_ok hg f 5 (o + 1) (a + 1) han
          rw [if_pos ⟨rfl, zq_ext h45⟩, zq_bind, if_pos (show o < 6 ∧ (zpN (s.1 10) n a).toInt = 45 from ⟨ho6, h45⟩)]
          try dsimp only
          rw [if_neg (by decide), i1 (o + 1) (a + 1) N (x + 1) C ex (by omega) han (by omega) (by omega) (by omega), zq_bind]
          try dsimp only
          rw [zys44 _ (by rw [List.length_append]; omega), zq_bind, List.append_assoc]
        rw [if_neg (fun q => h45 (by rw [q.2]; rfl)), zq_bind, if_neg (show ¬ (o < 6 ∧ (zpN (s.1 10) n a).toInt = 45) from fun q => h45 q.2)]
        try dsimp only
        rw [if_pos rfl]
        exact brk
      · have y6 : (6 : Int32) ≤ x := by
          rw [Int32.le_iff_toInt_le, zq_l6]
          omega
        rw [if_pos y6, if_neg (fun q => ho6 q.1), if_neg (fun q => ho6 q.1), if_neg (fun q => ho6 q.1)]
        unfold zyF40_95 zyF40_126
        rw [if_pos y6, if_pos y6]
        exact brk
    refine ⟨key, ?_⟩
    intro lev o a N x1 x C h1 hl hx ho ha hf hN hC
    obtain ⟨N, rfl⟩ : ∃ M, N = M + 1 := ⟨N - 1, by omega⟩
    rw [zyS39]
    by_cases h5 : lev = 5
    · unfold zyF39_0
      rw [if_neg (by rw [Int32.lt_iff_toInt_lt, show (5 : Int32).toInt = 5 from rfl]; omega), key o a N x C hx ho ha (by omega) (by omega) hC, zq_bind, h5]
    have ex : (x1 + 1).toInt = ((lev + 1 : Nat) : Int) := by rw [zq_add (by rw [zq_l1]; omega) (by rw [zq_l1]; omega), zq_l1, h1]; omega
    have hok : ∀ b, b ≤ n → zpOk n b (zpS (zpN (s.1 10) n) f (lev + 1) o b) := fun b hb => zpS_ok hg f (lev + 1) o b hb
    have sub : ∀ (b : Nat) (C : List Int32) (y : Int32), b ≤ n → C.length + (n - b) ≤ 127 → y.toInt = (lev : Int) + 1 → (zyG39 N).1 y x (zcW s b false C) = some (0, zcW s (zpS (zpN (s.1 10) n) f (lev + 1) o b).1 (zpS (zpN (s.1 10) n) f (lev + 1) o b).2.1 (C ++ (zpS (zpN (s.1 10) n) f (lev + 1) o b).2.2)) := fun b C y hb hC hy => i2 (lev + 1) o b N y x C (by rw [hy]; omega) (by omega) hx ho hb (by omega) (by omega) hC
    have l5 : (5 : Int32).toInt = 5 := rfl
    have l2 : (2 : Int32).toInt = 2 := rfl
    unfold zyF39_0
    rw [zpS_s]
    rw [if_pos (by rw [Int32.lt_iff_toInt_lt, l5]; omega), sub a C (x1 + 1) ha hC (by rw [ex]; omega), zq_bind, if_pos (show lev < 5 by omega)]
    try dsimp only
    by_cases h2 : lev = 2
    · rw [if_neg (not_not_intro (zq_ext (by rw [h1, h2]; rfl))), if_pos h2]
      unfold zyF39_30
      exact zl_39 hn h120 hg h1 (by omega) hC (most := 1) ⟨by decide, by decide⟩ sub hok 1 zy_fu 0 _ (by decide) (by decide) (by unfold zy_fu; omega) (hok a ha)
    · rw [if_pos (fun q => h2 (by rw [q] at h1; omega)), if_neg h2]
      unfold zyF39_30
      exact zl_39 hn h120 hg h1 (by omega) hC (most := 120) ⟨by decide, by decide⟩ sub hok 120 zy_fu 0 _ (by decide) (by decide) (by unfold zy_fu; omega) (hok a ha)
theorem zys39 (hn : s.1 9 2 = Int32.ofNat n) (h120 : n ≤ 120) (hg : zpG n (zpN (s.1 10) n)) {a : Nat} {C : List Int32} (ha : a ≤ n) (hC : C.length + (n - a) ≤ 127) : zyF39 0 0 (zcW s a false C) = some (0, zcW s (zpS (zpN (s.1 10) n) 50 0 0 a).1 (zpS (zpN (s.1 10) n) 50 0 0 a).2.1 (C ++ (zpS (zpN (s.1 10) n) 50 0 0 a).2.2)) := by
  unfold zyF39
  exact (zcS hn h120 hg 50).2 0 0 a 100 0 0 C rfl (by omega) rfl (by omega) ha (by omega) (by omega) hC
theorem zys38 (hn : s.1 9 2 = Int32.ofNat n) (h120 : n ≤ 120) (hg : zpG n (zpN (s.1 10) n)) {a : Nat} {C : List Int32} (ha : a ≤ n) (hC : C.length ≤ a) : zyF38 (zcW s a false C) = some (0, zcW s (zpLine (zpN (s.1 10) n) a).1 (zpLine (zpN (s.1 10) n) a).2.1 (C ++ (zpLine (zpN (s.1 10) n) a).2.2)) := by
  obtain ⟨q1, q2, q3, q4, q5⟩ := zpS_ok hg 50 0 0 a ha
  unfold zyF38 zpLine
  rw [zys39 hn h120 hg ha (by omega), zq_bind]
  try dsimp only
  rw [zys46 hn h120 q2]
  by_cases hc : (zpS (zpN (s.1 10) n) 50 0 0 a).2.1 = false ∧ (zpN (s.1 10) n (zpS (zpN (s.1 10) n) 50 0 0 a).1).toInt = 63
  · have hlt : (zpS (zpN (s.1 10) n) 50 0 0 a).1 < n := zpN_lt (b := s.1 10) (by omega)
    obtain ⟨r1, r2, r3, r4, r5⟩ := zpS_ok hg 50 0 0 ((zpS (zpN (s.1 10) n) 50 0 0 a).1 + 1) hlt
    rw [if_pos hc, if_pos ⟨hc.1, zq_ext hc.2⟩, zq_bind]
    try dsimp only
    rw [if_neg (by decide), zys44 _ (by rw [List.length_append]; omega), zq_bind]
    try dsimp only
    rw [hc.1, zys39 hn h120 hg (a := (zpS (zpN (s.1 10) n) 50 0 0 a).1 + 1) hlt (by rw [List.length_append, List.length_append, List.length_singleton]; omega), zq_bind]
    try dsimp only
    unfold zyF38_27
    rw [zys44 _ (by rw [List.length_append, List.length_append, List.length_append, List.length_singleton]; omega), zq_bind]
    simp only [List.append_assoc]
  · rw [if_neg hc, if_neg (fun q => hc ⟨q.1, by rw [q.2]; rfl⟩), zq_bind]
    try dsimp only
    rw [if_pos rfl]
    unfold zyF38_27
    rw [zys44 _ (by rw [List.length_append]; omega), zq_bind, List.append_assoc]
/-- where a reading is at fault; -1: nowhere -/
theorem zpF_t {n a : Nat} {br : Bool} {l : List Int32} : zpF n (a, br, l) = zpf n a br := rfl
theorem zpF_x {n : Nat} {q : Nat × Bool × List Int32} {l : List Int32} : zpF n q = zpF n (q.1, q.2.1, l) := rfl
theorem zpT_F {n : Nat} {g : Nat → Int32} : zpF n (zpT g) = zpF n (zpU g 120 (zpLine g 0).1 (zpLine g 0).2.1) := by
  unfold zpT
  exact zpF_x.symm
theorem zl_37 (hn : s.1 9 2 = Int32.ofNat n) (h120 : n ≤ 120) (hg : zpG n (zpN (s.1 10) n)) : ∀ (k m b : Nat) (br : Bool) (C : List Int32) (i : Int32), b ≤ n → C.length ≤ b + 1 → 0 ≤ i.toInt → i.toInt + (k : Int) = 120 → k < m → zyF37_21 m i (zcW s b br C) = some (zpF n (zpU (zpN (s.1 10) n) k b br), zcW s (zpU (zpN (s.1 10) n) k b br).1 (zpU (zpN (s.1 10) n) k b br).2.1 (C ++ (zpU (zpN (s.1 10) n) k b br).2.2))
  | k, 0, b, br, C, i, hb, hC, i0, hi, hm => by omega
  | k, m + 1, b, br, C, i, hb, hC, i0, hi, hm => by
    have fin : zyF37_46 (zcW s b br C) = some (zpF n (b, br, []), zcW s b br (C ++ [])) := by
      unfold zyF37_46
      rw [zpF_t]
      unfold zpf
      rw [show (zcW s b br C).1 9 5 = zqb br from rfl, show (zcW s b br C).1 9 2 = Int32.ofNat n from hn, show (zcW s b br C).1 9 4 = Int32.ofNat b from rfl, List.append_nil]
      cases br with
      | true => rw [if_pos (by decide), if_pos (Or.inl rfl)]
      | false =>
        rw [if_neg (by decide)]
        by_cases hlt : b < n
        · rw [if_neg (by rw [Int32.le_iff_toInt_le, zN_toInt (by omega), zN_toInt (by omega)]; omega), if_pos (Or.inr hlt)]
        · rw [if_pos (by rw [Int32.le_iff_toInt_le, zN_toInt (by omega), zN_toInt (by omega)]; omega), if_neg (fun q => by
            rcases q with q | q
            · exact absurd (show false = true from q) (by decide)
            · exact hlt q)]
    have l120 : (120 : Int32).toInt = 120 := rfl
    show zyF37_21b (zyF37_21 m) i (zcW s b br C) = _
    unfold zyF37_21b
    cases k with
    | zero =>
      rw [if_pos (by rw [Int32.le_iff_toInt_le, l120]; omega), fin]
      try rfl
    | succ k =>
      rw [if_neg (by rw [Int32.le_iff_toInt_le, l120]; omega), zys46 hn h120 hb]
      rw [zpU_s]
      by_cases hc : br = false ∧ (zpN (s.1 10) n b).toInt = 59
      · have hlt : b < n := zpN_lt (b := s.1 10) (by omega)
        obtain ⟨q1, q2, q3, q4, q5⟩ := zpLine_ok hg (a := b + 1) hlt
        rw [if_pos hc, if_pos ⟨hc.1, zq_ext hc.2⟩, zq_bind]
        try dsimp only
        rw [if_neg (by decide), hc.1, zys38 hn h120 hg (a := b + 1) hlt hC, zq_bind]
        try dsimp only
        rw [zl_37 hn h120 hg k m _ _ _ (i + 1) q2 (by rw [List.length_append]; omega) (by rw [zq_add (by rw [zq_l1]; omega) (by rw [zq_l1]; omega), zq_l1]; omega) (by rw [zq_add (by rw [zq_l1]; omega) (by rw [zq_l1]; omega), zq_l1]; omega) (by omega), List.append_assoc, ← zpF_x]
        try rfl
      · rw [if_neg hc, if_neg (fun q => hc ⟨q.1, by rw [q.2]; rfl⟩), zq_bind]
        try dsimp only
        rw [if_pos rfl]
        exact fin
theorem zys37 (hn : s.1 9 2 = Int32.ofNat n) (h120 : n ≤ 120) (hg : zpG n (zpN (s.1 10) n)) : zyF37 s = some (zpF n (zpT (zpN (s.1 10) n)), zcW s (zpT (zpN (s.1 10) n)).1 (zpT (zpN (s.1 10) n)).2.1 (zpT (zpN (s.1 10) n)).2.2) := by
  obtain ⟨q1, q2, q3, q4, q5⟩ := zpLine_ok hg (a := 0) (Nat.zero_le _)
  have e : zy_up (zy_up (zy_up s 9 4 (0 : Int32)) 9 3 (0 : Int32)) 9 5 (0 : Int32) = zcW s 0 false [] := by
    refine zxS (fun x y => ?_) rfl
    rw [zy_up_at, zy_up_at, zy_up_at, zcW_at]
    by_cases h5 : x = 9 ∧ y = 5
    · rw [if_pos h5, if_pos h5]
      try rfl
    rw [if_neg h5, if_neg h5]
    by_cases h3 : x = 9 ∧ y = 3
    · rw [if_pos h3, if_neg (by omega), if_pos h3]
      try rfl
    rw [if_neg h3, if_neg h3]
    by_cases h4 : x = 9 ∧ y = 4
    · rw [if_pos h4, if_pos h4]
      try rfl
    rw [if_neg h4, if_neg h4]
    by_cases h11 : x = 11
    · rw [if_pos h11, h11]
      try rfl
    · rw [if_neg h11]
  rw [zpT_F]
  unfold zyF37 zpT
  rw [e, zys38 hn h120 hg (Nat.zero_le _) (Nat.le_refl _), zq_bind]
  try dsimp only
  rw [zl_37 hn h120 hg 120 zy_fu _ _ _ 0 q2 (by rw [List.nil_append]; omega) (by decide) (by decide) (by unfold zy_fu; omega), List.nil_append]
  try rfl
end ZD
end
section
/-! PART 46.922: what steps are worth. Made by wip/v6/gen_parse.py. -/
def zclp (v : Int32) : Int32 := if v.toInt < 0 then 0 else if 99 < v.toInt then 99 else v
/-- two joined by a sign -/
def zjw (c l r : Int32) : Int32 :=
  if c = 124 then (if l = 0 ∧ r = 0 then 0 else 1)
  else if c = 38 then (if l = 0 ∨ r = 0 then 0 else 1)
  else if c = 60 then (if l < r then 1 else 0)
  else if c = 61 then (if l = r then 1 else 0)
  else if c = 62 then (if r < l then 1 else 0)
  else if c = 43 then l + r
  else if c = 45 then l - r
  else if c = 42 then l * r
  else if c = 47 then (if r = 0 then 0 else l / r)
  else (if r = 0 then 0 else l - l / r * r)
theorem zjw_124 (l r : Int32) : zjw (124 : Int32) l r = if l = 0 ∧ r = 0 then 0 else 1 := by
  unfold zjw
  rw [if_pos rfl]
theorem zjw_38 (l r : Int32) : zjw (38 : Int32) l r = if l = 0 ∨ r = 0 then 0 else 1 := by
  unfold zjw
  rw [if_neg (by decide), if_pos rfl]
theorem zjw_60 (l r : Int32) : zjw (60 : Int32) l r = if l < r then 1 else 0 := by
  unfold zjw
  rw [if_neg (by decide), if_neg (by decide), if_pos rfl]
theorem zjw_61 (l r : Int32) : zjw (61 : Int32) l r = if l = r then 1 else 0 := by
  unfold zjw
  rw [if_neg (by decide), if_neg (by decide), if_neg (by decide), if_pos rfl]
theorem zjw_62 (l r : Int32) : zjw (62 : Int32) l r = if r < l then 1 else 0 := by
  unfold zjw
  rw [if_neg (by decide), if_neg (by decide), if_neg (by decide), if_neg (by decide), if_pos rfl]
theorem zjw_43 (l r : Int32) : zjw (43 : Int32) l r = l + r := by
  unfold zjw
  rw [if_neg (by decide), if_neg (by decide), if_neg (by decide), if_neg (by decide), if_neg (by decide), if_pos rfl]
theorem zjw_45 (l r : Int32) : zjw (45 : Int32) l r = l - r := by
  unfold zjw
  rw [if_neg (by decide), if_neg (by decide), if_neg (by decide), if_neg (by decide), if_neg (by decide), if_neg (by decide), if_pos rfl]
theorem zjw_42 (l r : Int32) : zjw (42 : Int32) l r = l * r := by
  unfold zjw
  rw [if_neg (by decide), if_neg (by decide), if_neg (by decide), if_neg (by decide), if_neg (by decide), if_neg (by decide), if_neg (by decide), if_pos rfl]
theorem zjw_47 (l r : Int32) : zjw (47 : Int32) l r = if r = 0 then 0 else l / r := by
  unfold zjw
  rw [if_neg (by decide), if_neg (by decide), if_neg (by decide), if_neg (by decide), if_neg (by decide), if_neg (by decide), if_neg (by decide), if_neg (by decide), if_pos rfl]
theorem zjw_37 (l r : Int32) : zjw (37 : Int32) l r = if r = 0 then 0 else l - l / r * r := by
  unfold zjw
  rw [if_neg (by decide), if_neg (by decide), if_neg (by decide), if_neg (by decide), if_neg (by decide), if_neg (by decide), if_neg (by decide), if_neg (by decide), if_neg (by decide)]
/-- steps from here on, with names, passing or not, over a stack -/
def zwv (nm : Nat → Int32) : List Int32 → Bool → List Int32 → Int32
  | [], _, _ => 0
  | c :: cs, p, st =>
    if p = true then zwv nm cs (decide (c.toInt ≠ -59)) st
    else if 0 ≤ c.toInt then zwv nm cs false ((if c.toInt < 10000 then c else nm (c - (10000 : Int32)).toNatClampNeg) :: st)
    else if c.toInt = -59 then zclp (st.headD 0)
    else if c.toInt = -63 then zwv nm cs (decide (st.headD 0 = 0)) st.tail
    else if c.toInt = -33 then zwv nm cs false ((if st.headD 0 = 0 then 1 else 0) :: st.tail)
    else if c.toInt = -126 then zwv nm cs false (-(st.headD 0) :: st.tail)
    else zwv nm cs false (zjw (-c) (st.tail.headD 0) (st.headD 0) :: st.tail.tail)
theorem zwv_s (nm : Nat → Int32) (c : Int32) (cs : List Int32) (p : Bool) (st : List Int32) : zwv nm (c :: cs) p st =
    if p = true then zwv nm cs (decide (c.toInt ≠ -59)) st
    else if 0 ≤ c.toInt then zwv nm cs false ((if c.toInt < 10000 then c else nm (c - (10000 : Int32)).toNatClampNeg) :: st)
    else if c.toInt = -59 then zclp (st.headD 0)
    else if c.toInt = -63 then zwv nm cs (decide (st.headD 0 = 0)) st.tail
    else if c.toInt = -33 then zwv nm cs false ((if st.headD 0 = 0 then 1 else 0) :: st.tail)
    else if c.toInt = -126 then zwv nm cs false (-(st.headD 0) :: st.tail)
    else zwv nm cs false (zjw (-c) (st.tail.headD 0) (st.headD 0) :: st.tail.tail) := rfl
/-- steps that leave one value -/
def zpE (nm : Nat → Int32) (cs : List Int32) (v : Int32) : Prop := (∀ rest st, zwv nm (cs ++ rest) true st = zwv nm rest true st) ∧ ∀ rest st, zwv nm (cs ++ rest) false st = zwv nm rest false (v :: st)
section ZE
variable {nm : Nat → Int32} {v w c : Int32} {a b : List Int32}
theorem zwv_t (h : c.toInt ≠ -59) (rest st : List Int32) : zwv nm (c :: rest) true st = zwv nm rest true st := by
  rw [zwv_s, if_pos rfl, decide_eq_true h]
theorem zpE_num (h0 : 0 ≤ v.toInt) (h1 : v.toInt < 10000) : zpE nm [v] v := by
  refine ⟨fun rest st => ?_, fun rest st => ?_⟩
  · show zwv nm (v :: rest) true st = _
    exact zwv_t (by omega) rest st
  · show zwv nm (v :: rest) false st = _
    rw [zwv_s, if_neg (by decide), if_pos h0, if_pos h1]
theorem zpE_nm (h0 : 0 ≤ v.toInt) (h1 : v.toInt ≤ 5) : zpE nm [(10000 : Int32) + v] (nm v.toNatClampNeg) := by
  have l : (10000 : Int32).toInt = 10000 := rfl
  have e : ((10000 : Int32) + v).toInt = 10000 + v.toInt := by rw [zq_add (by rw [l]; omega) (by rw [l]; omega), l]
  have e2 : (10000 : Int32) + v - (10000 : Int32) = v := zq_ext (by rw [zq_sub (by rw [l]; omega) (by rw [l]; omega), l, e]; omega)
  refine ⟨fun rest st => ?_, fun rest st => ?_⟩
  · show zwv nm (((10000 : Int32) + v) :: rest) true st = _
    exact zwv_t (by omega) rest st
  · show zwv nm (((10000 : Int32) + v) :: rest) false st = _
    rw [zwv_s, if_neg (by decide), if_pos (by omega), if_neg (by omega), e2]
theorem zpE_not (h : zpE nm a v) : zpE nm (a ++ [(-33 : Int32)]) (if v = 0 then 1 else 0) := by
  have l : (-33 : Int32).toInt = -33 := rfl
  refine ⟨fun rest st => ?_, fun rest st => ?_⟩
  · rw [List.append_assoc, h.1]
    exact zwv_t (by omega) rest st
  · rw [List.append_assoc, h.2]
    show zwv nm ((-33 : Int32) :: rest) false (v :: st) = _
    rw [zwv_s, if_neg (by decide), if_neg (by omega), if_neg (by omega), if_neg (by omega), if_pos l]
    try rfl
theorem zpE_neg (h : zpE nm a v) : zpE nm (a ++ [(-126 : Int32)]) (-v) := by
  have l : (-126 : Int32).toInt = -126 := rfl
  refine ⟨fun rest st => ?_, fun rest st => ?_⟩
  · rw [List.append_assoc, h.1]
    exact zwv_t (by omega) rest st
  · rw [List.append_assoc, h.2]
    show zwv nm ((-126 : Int32) :: rest) false (v :: st) = _
    rw [zwv_s, if_neg (by decide), if_neg (by omega), if_neg (by omega), if_neg (by omega), if_neg (by omega), if_pos l]
    try rfl
theorem zpE_jn (h : zpE nm a v) (k : zpE nm b w) (hc : 0 ≤ (zlv c).toInt) : zpE nm (a ++ (b ++ [-c])) (zjw c v w) := by
  have hz := zlvC c
  have e : (-c).toInt = -c.toInt := zq_neg (by omega)
  have e2 : -(-c) = c := zq_ext (by rw [zq_neg (by omega), e]; omega)
  refine ⟨fun rest st => ?_, fun rest st => ?_⟩
  · rw [List.append_assoc, h.1, List.append_assoc, k.1]
    exact zwv_t (by omega) rest st
  · rw [List.append_assoc, h.2, List.append_assoc, k.2]
    show zwv nm ((-c) :: rest) false (w :: v :: st) = _
    rw [zwv_s, if_neg (by decide), if_neg (by omega), if_neg (by omega), if_neg (by omega), if_neg (by omega), if_neg (by omega), e2]
    try rfl
end ZE
end
section
/-! PART 46.923: the model reads so, and works it out. Made by wip/v6/gen_parse.py. -/
/-- t, but the reading stands at a, with this fault, this many open -/
def zmW (t : zy_S) (a : Nat) (fl ov : Int32) : zy_S := zy_up (zy_up (zy_up t 43 13 (Int32.ofNat a)) 43 15 fl) 43 16 ov
theorem zmW_at {t : zy_S} {a x y : Nat} {fl ov : Int32} : (zmW t a fl ov).1 x y = if x = 43 ∧ y = 16 then ov else if x = 43 ∧ y = 15 then fl else if x = 43 ∧ y = 13 then Int32.ofNat a else t.1 x y := by
  unfold zmW
  rw [zy_up_at, zy_up_at, zy_up_at]
section ZM
variable {t : zy_S} {n a : Nat} {fl ov : Int32} {bs : Nat → Int32}
theorem zmW_13 {b : Nat} : zy_up (zmW t a fl ov) 43 13 (Int32.ofNat b) = zmW t b fl ov := by
  refine zxS (fun x y => ?_) rfl
  rw [zy_up_at, zmW_at, zmW_at]
  by_cases h : x = 43 ∧ y = 13
  · rw [if_pos h, if_neg (by omega), if_neg (by omega), if_pos h]
  · rw [if_neg h, if_neg h, if_neg h]
theorem zmW_15 {f : Int32} : zy_up (zmW t a fl ov) 43 15 f = zmW t a f ov := by
  refine zxS (fun x y => ?_) rfl
  rw [zy_up_at, zmW_at, zmW_at]
  by_cases h : x = 43 ∧ y = 15
  · rw [if_pos h, if_neg (by omega), if_pos h]
  · rw [if_neg h, if_neg h, if_neg h]
theorem zmW_16 {f : Int32} : zy_up (zmW t a fl ov) 43 16 f = zmW t a fl f := by
  refine zxS (fun x y => ?_) rfl
  rw [zy_up_at, zmW_at, zmW_at]
  by_cases h : x = 43 ∧ y = 16
  · rw [if_pos h, if_pos h]
  · rw [if_neg h, if_neg h, if_neg h]
/-- what is read: n letters of a row -/
def zmH (t : zy_S) (n : Nat) (bs : Nat → Int32) : Prop := t.1 43 14 = Int32.ofNat n ∧ n ≤ 120 ∧ (((t.1 43 12).toInt < 0 ∧ bs = t.1 48) ∨ ((t.1 43 12).toInt = 0 ∧ bs = t.1 49))
theorem zys198 (H : zmH t n bs) (ha : a ≤ n) : zyF198 (zmW t a fl ov) = some (zpB bs n a, zmW t a fl ov) := by
  obtain ⟨hn, h120, hb⟩ := H
  unfold zyF198 zpB
  rw [show (zmW t a fl ov).1 43 14 = Int32.ofNat n from hn, show (zmW t a fl ov).1 43 13 = Int32.ofNat a from rfl, show (zmW t a fl ov).1 43 12 = t.1 43 12 from rfl]
  by_cases h : a < n
  · rw [if_neg (by rw [Int32.le_iff_toInt_le, zN_toInt (by omega), zN_toInt (by omega)]; omega), if_pos h]
    have hin : zy_in (Int32.ofNat a) 120 = true := zq_in.mpr (by rw [zN_toInt (by omega)]; omega)
    rcases hb with ⟨h1, e⟩ | ⟨h1, e⟩
    · rw [if_neg (by rw [Int32.le_iff_toInt_le, zq_l0]; omega), if_pos hin, zN_ix (by omega), e]
      try rfl
    · have e0 : t.1 43 12 = 0 := zq_ext h1
      rw [e0, if_pos (by decide), Int32.zero_add, if_pos hin, zN_ix (by omega), e]
      try rfl
  · rw [if_pos (by rw [Int32.le_iff_toInt_le, zN_toInt (by omega), zN_toInt (by omega)]; omega), if_neg h]
theorem zys200 (H : zmH t n bs) (ha : a ≤ n) (x : Int32) : zyF200 x (zmW t a fl ov) = if fl.toInt < 0 ∧ zpB bs n a = x then some (1, zmW t (a + 1) fl ov) else some (0, zmW t a fl ov) := by
  have h120 := H.2.1
  unfold zyF200
  rw [show (zmW t a fl ov).1 43 15 = fl from rfl]
  by_cases h : fl.toInt < 0
  · rw [if_neg (by rw [Int32.le_iff_toInt_le, zq_l0]; omega), zys198 H ha, zq_bind]
    try dsimp only
    by_cases e : zpB bs n a = x
    · rw [if_pos e, if_pos ⟨h, e⟩, show (zmW t a fl ov).1 43 13 = Int32.ofNat a from rfl, zN_succ (by omega), zmW_13]
    · rw [if_neg e, if_neg (fun q => e q.2)]
  · rw [if_pos (by rw [Int32.le_iff_toInt_le, zq_l0]; omega), if_neg (fun q => h q.1)]
theorem zys199 (h : fl.toInt < 0) : zyF199 (zmW t a fl ov) = some (0, zmW t a (Int32.ofNat a) ov) := by
  unfold zyF199 zyF199_19
  rw [show (zmW t a fl ov).1 43 15 = fl from rfl, if_neg (by rw [Int32.le_iff_toInt_le, zq_l0]; omega), show (zmW t a fl ov).1 43 13 = Int32.ofNat a from rfl, zmW_15]
theorem zys199' (h : 0 ≤ fl.toInt) : zyF199 (zmW t a fl ov) = some (0, zmW t a fl ov) := by
  unfold zyF199 zyF199_19
  rw [show (zmW t a fl ov).1 43 15 = fl from rfl, if_pos (by rw [Int32.le_iff_toInt_le, zq_l0]; omega), zmW_15]
/-- where the model stands behind what has been read -/
def zmZ (nm : Nat → Int32) (o : Int32) (r : Nat × Bool × List Int32) (v fl ov : Int32) : Prop := (o.toInt ≤ ov.toInt ∧ ov.toInt ≤ 6) ∧ ((r.2.1 = true ∧ fl.toInt = (r.1 : Int)) ∨ (r.2.1 = false ∧ fl = -1 ∧ ov = o ∧ zpE nm r.2.2 v))
def zmQ (t : zy_S) (nm : Nat → Int32) (o : Int32) (q : Nat × Bool × List Int32) (R : Option (Int32 × zy_S)) : Prop := ∃ v fl ov, R = some (v, zmW t q.1 fl ov) ∧ zmZ nm o q v fl ov
theorem zl_mm {nm : Nat → Int32} {sub : Nat → Nat × Bool × List Int32} {M : zy_S → Option (Int32 × zy_S)} {lp : Nat → Int32 → zy_S → Option (Int32 × zy_S)} {lev : Nat} {o : Int32} (hg : zpG n (zpN bs n))
    (hsub : ∀ b, b ≤ n → zmQ t nm o (sub b) (M (zmW t b (-1) o))) (hok : ∀ b, b ≤ n → zpOk n b (sub b))
    (ha : ∀ (m : Nat) (v : Int32) (b : Nat) (fl ov : Int32), b ≤ n → 0 ≤ fl.toInt → lp (m + 1) v (zmW t b fl ov) = some (v, zmW t b fl ov))
    (hb : ∀ (m : Nat) (v : Int32) (b : Nat) (ov : Int32), b ≤ n → (zlv (zpN bs n b)).toInt ≠ (lev : Int) → lp (m + 1) v (zmW t b (-1) ov) = some (v, zmW t b (-1) ov))
    (hc : ∀ (m : Nat) (v : Int32) (b : Nat), b ≤ n → (zlv (zpN bs n b)).toInt = (lev : Int) → lp (m + 1) v (zmW t b (-1) o) = (M (zmW t (b + 1) (-1) o)).bind fun p => lp m (zjw (zpN bs n b) v p.1) p.2) :
    ∀ (k m : Nat) (r : Nat × Bool × List Int32) (v fl ov : Int32) (a0 : Nat), n ≤ r.1 + k → k < m → zpOk n a0 r → zmZ nm o r v fl ov → zmQ t nm o (zpL sub (zpN bs n) lev k r) (lp m v (zmW t r.1 fl ov))
  | k, 0, r, v, fl, ov, a0, h1, h2, h3, h4 => by omega
  | 0, m + 1, r, v, fl, ov, a0, h1, h2, h3, h4 => by
    obtain ⟨k1, k2, k3, k4, k5⟩ := h3
    rw [zpL_0]
    refine ⟨v, fl, ov, ?_, h4⟩
    rcases h4.2 with ⟨c1, c2⟩ | ⟨c1, c2, c3, c4⟩
    · exact ha m v r.1 fl ov k2 (by omega)
    · subst c2
      refine hb m v r.1 ov k2 (fun q => ?_)
      have hz := zlvC (zpN bs n r.1)
      have : r.1 < n := zpN_lt (b := bs) (by omega)
      omega
  | k + 1, m + 1, r, v, fl, ov, a0, h1, h2, h3, h4 => by
    obtain ⟨k1, k2, k3, k4, k5⟩ := id h3
    rw [zpL_s]
    rcases id h4.2 with ⟨c1, c2⟩ | ⟨c1, c2, c3, c4⟩
    · rw [if_neg (fun q => by rw [c1] at q; cases q.1)]
      exact ⟨v, fl, ov, ha m v r.1 fl ov k2 (by omega), h4⟩
    · subst c2
      by_cases c : (zlv (zpN bs n r.1)).toInt = (lev : Int)
      · have hz := zlvC (zpN bs n r.1)
        have hlt : r.1 < n := zpN_lt (b := bs) (by omega)
        rw [if_pos ⟨c1, c⟩, c3, hc m v r.1 k2 c]
        obtain ⟨w, fl', ov', e, hov, hz'⟩ := hsub (r.1 + 1) hlt
        rw [e, zq_bind]
        try dsimp only
        have hok2 := zpL_ok (sub := sub) (lev := lev) hg hok 1 r h3
        rw [show (1 : Nat) = 0 + 1 from rfl, zpL_s, if_pos ⟨c1, c⟩, zpL_0] at hok2
        obtain ⟨q1, q2, q3, q4, q5⟩ := hok (r.1 + 1) hlt
        refine zl_mm hg hsub hok ha hb hc k m ((sub (r.1 + 1)).1, (sub (r.1 + 1)).2.1, r.2.2 ++ ((sub (r.1 + 1)).2.2 ++ [-(zpN bs n r.1)])) (zjw (zpN bs n r.1) v w) fl' ov' a0 (by show n ≤ (sub (r.1 + 1)).1 + k; omega) (by omega) hok2 ⟨hov, ?_⟩
        rcases hz' with ⟨d1, d2⟩ | ⟨d1, d2, d3, d4⟩
        · exact Or.inl ⟨d1, d2⟩
        · exact Or.inr ⟨d1, d2, d3, zpE_jn c4 d4 (by omega)⟩
      · rw [if_neg (fun q => c q.2)]
        exact ⟨v, -1, ov, hb m v r.1 ov k2 c, h4⟩
/-- the six methods by their levels -/
noncomputable def zmf6 (lev N : Nat) : zy_S → Option (Int32 × zy_S) := if lev = 0 then (zyG192 N).1 else if lev = 1 then (zyG192 N).2.1 else if lev = 2 then (zyG192 N).2.2.1 else if lev = 3 then (zyG192 N).2.2.2.1 else if lev = 4 then (zyG192 N).2.2.2.2.1 else (zyG192 N).2.2.2.2.2
theorem zbe {α β : Type} {x : Option α} {f g : α → Option β} (h : ∀ p, f p = g p) : x.bind f = x.bind g := congrArg (Option.bind x) (funext h)
section ZG
variable {g2 g3 g4 g5 g6 g7 : zy_S → Option (Int32 × zy_S)}
theorem zm0a (H : zmH t n bs) (m : Nat) (v : Int32) (b : Nat) (fl ov : Int32) (hb : b ≤ n) (hf : 0 ≤ fl.toInt) : zyF192_5 g2 g3 g4 g5 g6 g7 (m + 1) v (zmW t b fl ov) = some (v, zmW t b fl ov) := by
  show zyF192_5b g2 g3 g4 g5 g6 g7 (zyF192_5 g2 g3 g4 g5 g6 g7 m) v _ = _
  unfold zyF192_5b
  rw [zys200 H hb, if_neg (fun q => by have := q.1; omega), zq_bind]
  try dsimp only
  rw [if_pos rfl]
theorem zm0b (H : zmH t n bs) (m : Nat) (v : Int32) (b : Nat) (ov : Int32) (hb : b ≤ n) (hl : (zlv (zpN bs n b)).toInt ≠ ((0 : Nat) : Int)) : zyF192_5 g2 g3 g4 g5 g6 g7 (m + 1) v (zmW t b (-1) ov) = some (v, zmW t b (-1) ov) := by
  have hz := zlvC (zpN bs n b)
  have hB := zpBN bs n b
  show zyF192_5b g2 g3 g4 g5 g6 g7 (zyF192_5 g2 g3 g4 g5 g6 g7 m) v _ = _
  unfold zyF192_5b
  rw [zys200 H hb, if_neg (fun q => by
    have e : (zpB bs n b).toInt = 124 := by rw [q.2]; rfl
    rcases hB with ⟨h1, h2⟩ | ⟨h1, h2, h3⟩
    · rw [h1] at e
      omega
    · omega), zq_bind]
  try dsimp only
  rw [if_pos rfl]
theorem zm0c (H : zmH t n bs) (m : Nat) (v o : Int32) (b : Nat) (hb : b ≤ n) (hl : (zlv (zpN bs n b)).toInt = ((0 : Nat) : Int)) : zyF192_5 g2 g3 g4 g5 g6 g7 (m + 1) v (zmW t b (-1) o) = (g3 (zmW t (b + 1) (-1) o)).bind fun p => zyF192_5 g2 g3 g4 g5 g6 g7 m (zjw (zpN bs n b) v p.1) p.2 := by
  have hz := zlvC (zpN bs n b)
  have eg : zpN bs n b = 124 := zq_ext (by show (zpN bs n b).toInt = 124; omega)
  have eB : zpB bs n b = 124 := by
    rcases zpBN bs n b with ⟨h1, h2⟩ | ⟨h1, h2, h3⟩
    · rw [h1, eg]
    · omega
  show zyF192_5b g2 g3 g4 g5 g6 g7 (zyF192_5 g2 g3 g4 g5 g6 g7 m) v _ = _
  unfold zyF192_5b
  rw [zys200 H hb, if_pos ⟨by decide, eB⟩, zq_bind]
  try dsimp only
  rw [if_neg (by decide), eg]
  refine zbe (fun p => ?_)
  unfold zyF192_27 zyF192_32
  rw [zjw_124]
  by_cases h1 : v = 0
  · rw [if_neg (not_not_intro h1)]
    by_cases h2 : p.1 = 0
    · rw [if_pos h2, if_pos ⟨h1, h2⟩]
    · rw [if_neg h2, if_neg (fun q => h2 q.2)]
  · rw [if_pos h1, if_neg (fun q => h1 q.1)]
theorem zm1a (H : zmH t n bs) (m : Nat) (v : Int32) (b : Nat) (fl ov : Int32) (hb : b ≤ n) (hf : 0 ≤ fl.toInt) : zyF193_5 g2 g3 g4 g5 g6 g7 (m + 1) v (zmW t b fl ov) = some (v, zmW t b fl ov) := by
  show zyF193_5b g2 g3 g4 g5 g6 g7 (zyF193_5 g2 g3 g4 g5 g6 g7 m) v _ = _
  unfold zyF193_5b
  rw [zys200 H hb, if_neg (fun q => by have := q.1; omega), zq_bind]
  try dsimp only
  rw [if_pos rfl]
theorem zm1b (H : zmH t n bs) (m : Nat) (v : Int32) (b : Nat) (ov : Int32) (hb : b ≤ n) (hl : (zlv (zpN bs n b)).toInt ≠ ((1 : Nat) : Int)) : zyF193_5 g2 g3 g4 g5 g6 g7 (m + 1) v (zmW t b (-1) ov) = some (v, zmW t b (-1) ov) := by
  have hz := zlvC (zpN bs n b)
  have hB := zpBN bs n b
  show zyF193_5b g2 g3 g4 g5 g6 g7 (zyF193_5 g2 g3 g4 g5 g6 g7 m) v _ = _
  unfold zyF193_5b
  rw [zys200 H hb, if_neg (fun q => by
    have e : (zpB bs n b).toInt = 38 := by rw [q.2]; rfl
    rcases hB with ⟨h1, h2⟩ | ⟨h1, h2, h3⟩
    · rw [h1] at e
      omega
    · omega), zq_bind]
  try dsimp only
  rw [if_pos rfl]
theorem zm1c (H : zmH t n bs) (m : Nat) (v o : Int32) (b : Nat) (hb : b ≤ n) (hl : (zlv (zpN bs n b)).toInt = ((1 : Nat) : Int)) : zyF193_5 g2 g3 g4 g5 g6 g7 (m + 1) v (zmW t b (-1) o) = (g4 (zmW t (b + 1) (-1) o)).bind fun p => zyF193_5 g2 g3 g4 g5 g6 g7 m (zjw (zpN bs n b) v p.1) p.2 := by
  have hz := zlvC (zpN bs n b)
  have eg : zpN bs n b = 38 := zq_ext (by show (zpN bs n b).toInt = 38; omega)
  have eB : zpB bs n b = 38 := by
    rcases zpBN bs n b with ⟨h1, h2⟩ | ⟨h1, h2, h3⟩
    · rw [h1, eg]
    · omega
  show zyF193_5b g2 g3 g4 g5 g6 g7 (zyF193_5 g2 g3 g4 g5 g6 g7 m) v _ = _
  unfold zyF193_5b
  rw [zys200 H hb, if_pos ⟨by decide, eB⟩, zq_bind]
  try dsimp only
  rw [if_neg (by decide), eg]
  refine zbe (fun p => ?_)
  unfold zyF193_31 zyF193_32
  rw [zjw_38]
  by_cases h1 : v = 0
  · rw [if_pos h1, if_pos (Or.inl h1)]
  · rw [if_neg h1]
    by_cases h2 : p.1 = 0
    · rw [if_pos h2, if_pos (Or.inr h2)]
    · rw [if_neg h2, if_neg (fun q => q.elim h1 h2)]
theorem zm3a (H : zmH t n bs) (m : Nat) (v : Int32) (b : Nat) (fl ov : Int32) (hb : b ≤ n) (hf : 0 ≤ fl.toInt) : zyF195_5 g2 g3 g4 g5 g6 g7 (m + 1) v (zmW t b fl ov) = some (v, zmW t b fl ov) := by
  show zyF195_5b g2 g3 g4 g5 g6 g7 (zyF195_5 g2 g3 g4 g5 g6 g7 m) v _ = _
  unfold zyF195_5b
  rw [show (zmW t b fl ov).1 43 15 = fl from rfl, if_pos (by rw [Int32.le_iff_toInt_le, zq_l0]; exact hf)]
theorem zm3b (H : zmH t n bs) (m : Nat) (v : Int32) (b : Nat) (ov : Int32) (hb : b ≤ n) (hl : (zlv (zpN bs n b)).toInt ≠ ((3 : Nat) : Int)) : zyF195_5 g2 g3 g4 g5 g6 g7 (m + 1) v (zmW t b (-1) ov) = some (v, zmW t b (-1) ov) := by
  have hz := zlvC (zpN bs n b)
  have no : ∀ x : Int32, x.toInt = 43 ∨ x.toInt = 45 → ¬ zpB bs n b = x := fun x hx q => by
    rw [← q] at hx
    rcases zpBN bs n b with ⟨h1, h2⟩ | ⟨h1, h2, h3⟩
    · rw [h1] at hx
      omega
    · omega
  show zyF195_5b g2 g3 g4 g5 g6 g7 (zyF195_5 g2 g3 g4 g5 g6 g7 m) v _ = _
  unfold zyF195_5b
  rw [show (zmW t b (-1) ov).1 43 15 = -1 from rfl, if_neg (by decide), zys198 H hb, zq_bind]
  try dsimp only
  rw [if_neg (no 43 (Or.inl rfl)), zys198 H hb, zq_bind]
  try dsimp only
  rw [if_pos (no 45 (Or.inr rfl))]
theorem zm3c (H : zmH t n bs) (m : Nat) (v o : Int32) (b : Nat) (hb : b ≤ n) (hl : (zlv (zpN bs n b)).toInt = ((3 : Nat) : Int)) : zyF195_5 g2 g3 g4 g5 g6 g7 (m + 1) v (zmW t b (-1) o) = (g6 (zmW t (b + 1) (-1) o)).bind fun p => zyF195_5 g2 g3 g4 g5 g6 g7 m (zjw (zpN bs n b) v p.1) p.2 := by
  have hz := zlvC (zpN bs n b)
  have h120 := H.2.1
  have eB : zpB bs n b = zpN bs n b := by
    rcases zpBN bs n b with ⟨h1, h2⟩ | ⟨h1, h2, h3⟩
    · exact h1
    · omega
  have up : zy_up (zmW t b (-1) o) 43 13 ((zmW t b (-1) o).1 43 13 + 1) = zmW t (b + 1) (-1) o := by
    rw [show (zmW t b (-1) o).1 43 13 = Int32.ofNat b from rfl, zN_succ (by omega), zmW_13]
  show zyF195_5b g2 g3 g4 g5 g6 g7 (zyF195_5 g2 g3 g4 g5 g6 g7 m) v _ = _
  unfold zyF195_5b zyF195_30 zyF195_44 zyF195_73
  rw [show (zmW t b (-1) o).1 43 15 = -1 from rfl, if_neg (by decide), zys198 H hb, zq_bind, eB]
  try dsimp only
  rcases (by omega : (zpN bs n b).toInt = 43 ∨ (zpN bs n b).toInt = 45) with h | h
  · have eg : zpN bs n b = 43 := zq_ext h
    rw [eg, if_pos rfl, zys198 H hb, zq_bind, eB, eg]
    try dsimp only
    rw [if_neg (by decide), up]
    refine zbe (fun p => ?_)
    rw [if_neg (show ¬ (1 : Int32) = 0 by decide), zjw_43]
  · have eg : zpN bs n b = 45 := zq_ext h
    rw [eg, if_neg (by decide), zys198 H hb, zq_bind, eB, eg]
    try dsimp only
    rw [if_neg (by decide), zys198 H hb, zq_bind, eB, eg]
    try dsimp only
    rw [if_pos (by decide), up]
    refine zbe (fun p => ?_)
    rw [if_pos (rfl : (0 : Int32) = 0), zjw_45]
theorem zm4a (H : zmH t n bs) (m : Nat) (v : Int32) (b : Nat) (fl ov : Int32) (hb : b ≤ n) (hf : 0 ≤ fl.toInt) : ((zyF198 (zmW t b fl ov)).bind fun p => zyF196_10 g2 g3 g4 g5 g6 g7 (m + 1) v p.1 p.2) = some (v, zmW t b fl ov) := by
  rw [zys198 H hb, zq_bind]
  show zyF196_10b g2 g3 g4 g5 g6 g7 (zyF196_10 g2 g3 g4 g5 g6 g7 m) v _ _ = _
  unfold zyF196_10b
  try dsimp only
  rw [show (zmW t b fl ov).1 43 15 = fl from rfl, if_pos (by rw [Int32.le_iff_toInt_le, zq_l0]; exact hf)]
theorem zm4b (H : zmH t n bs) (m : Nat) (v : Int32) (b : Nat) (ov : Int32) (hb : b ≤ n) (hl : (zlv (zpN bs n b)).toInt ≠ ((4 : Nat) : Int)) : ((zyF198 (zmW t b (-1) ov)).bind fun p => zyF196_10 g2 g3 g4 g5 g6 g7 (m + 1) v p.1 p.2) = some (v, zmW t b (-1) ov) := by
  have hz := zlvC (zpN bs n b)
  have no : ∀ x : Int32, x.toInt = 42 ∨ x.toInt = 47 ∨ x.toInt = 37 → ¬ zpB bs n b = x := fun x hx q => by
    rw [← q] at hx
    rcases zpBN bs n b with ⟨h1, h2⟩ | ⟨h1, h2, h3⟩
    · rw [h1] at hx
      omega
    · omega
  rw [zys198 H hb, zq_bind]
  show zyF196_10b g2 g3 g4 g5 g6 g7 (zyF196_10 g2 g3 g4 g5 g6 g7 m) v _ _ = _
  unfold zyF196_10b
  try dsimp only
  rw [show (zmW t b (-1) ov).1 43 15 = -1 from rfl, if_neg (by decide), if_neg (no 42 (Or.inl rfl)), if_neg (no 47 (Or.inr (Or.inl rfl))), if_pos (no 37 (Or.inr (Or.inr rfl)))]
theorem zm4c (H : zmH t n bs) (m : Nat) (v o : Int32) (b : Nat) (hb : b ≤ n) (hl : (zlv (zpN bs n b)).toInt = ((4 : Nat) : Int)) : ((zyF198 (zmW t b (-1) o)).bind fun p => zyF196_10 g2 g3 g4 g5 g6 g7 (m + 1) v p.1 p.2) = (g7 (zmW t (b + 1) (-1) o)).bind fun p => (zyF198 p.2).bind fun q => zyF196_10 g2 g3 g4 g5 g6 g7 m (zjw (zpN bs n b) v p.1) q.1 q.2 := by
  have hz := zlvC (zpN bs n b)
  have h120 := H.2.1
  have eB : zpB bs n b = zpN bs n b := by
    rcases zpBN bs n b with ⟨h1, h2⟩ | ⟨h1, h2, h3⟩
    · exact h1
    · omega
  have up : zy_up (zmW t b (-1) o) 43 13 ((zmW t b (-1) o).1 43 13 + 1) = zmW t (b + 1) (-1) o := by
    rw [show (zmW t b (-1) o).1 43 13 = Int32.ofNat b from rfl, zN_succ (by omega), zmW_13]
  rw [zys198 H hb, zq_bind]
  show zyF196_10b g2 g3 g4 g5 g6 g7 (zyF196_10 g2 g3 g4 g5 g6 g7 m) v _ _ = _
  unfold zyF196_10b zyF196_35 zyF196_85
  try dsimp only
  rw [show (zmW t b (-1) o).1 43 15 = -1 from rfl, if_neg (by decide), eB, up]
  rcases (by omega : (zpN bs n b).toInt = 42 ∨ (zpN bs n b).toInt = 47 ∨ (zpN bs n b).toInt = 37) with h | h | h
  · have eg : zpN bs n b = 42 := zq_ext h
    rw [eg, if_pos rfl]
    refine zbe (fun p => ?_)
    rw [if_neg (show ¬ (42 : Int32) ≠ 42 by decide), zjw_42]
  · have eg : zpN bs n b = 47 := zq_ext h
    rw [eg, if_neg (by decide), if_pos rfl]
    refine zbe (fun p => ?_)
    rw [if_pos (show (47 : Int32) ≠ 42 by decide), zjw_47]
    by_cases h0 : p.1 = 0
    · rw [if_neg (not_not_intro h0), if_pos h0]
    · rw [if_pos h0, if_neg (show ¬ (47 : Int32) ≠ 47 by decide), if_pos h0, if_neg h0]
  · have eg : zpN bs n b = 37 := zq_ext h
    rw [eg, if_neg (by decide), if_neg (by decide), if_neg (by decide)]
    refine zbe (fun p => ?_)
    rw [if_pos (show (37 : Int32) ≠ 42 by decide), zjw_37]
    by_cases h0 : p.1 = 0
    · rw [if_neg (not_not_intro h0), if_pos h0]
    · rw [if_pos h0, if_pos (show (37 : Int32) ≠ 47 by decide), if_pos h0, if_neg h0]
theorem zm2 {nm : Nat → Int32} {sub : Nat → Nat × Bool × List Int32} {o : Int32} (H : zmH t n bs) (hsub : ∀ b, b ≤ n → zmQ t nm o (sub b) (g5 (zmW t b (-1) o))) {r : Nat × Bool × List Int32} (hr : r.1 ≤ n) {v fl ov : Int32} (hz4 : zmZ nm o r v fl ov) :
    zmQ t nm o (zpL sub (zpN bs n) 2 1 r) ((zyF198 (zmW t r.1 fl ov)).bind fun p8 => if 0 ≤ (p8.2.1 43 15) then some (v, p8.2) else if p8.1 = (60 : Int32) then zyF194_37 g2 g3 g4 g5 g6 g7 v p8.1 p8.2 else if p8.1 = (61 : Int32) then zyF194_37 g2 g3 g4 g5 g6 g7 v p8.1 p8.2 else if p8.1 = (62 : Int32) then zyF194_37 g2 g3 g4 g5 g6 g7 v p8.1 p8.2 else some (v, p8.2)) := by
  have hz := zlvC (zpN bs n r.1)
  have h120 := H.2.1
  rw [zys198 H hr, zq_bind, show (1 : Nat) = 0 + 1 from rfl, zpL_s]
  try dsimp only
  rw [show (zmW t r.1 fl ov).1 43 15 = fl from rfl]
  rcases id hz4.2 with ⟨c1, c2⟩ | ⟨c1, c2, c3, c4⟩
  · rw [if_pos (show (0 : Int32) ≤ fl by rw [Int32.le_iff_toInt_le, zq_l0]; omega), if_neg (show ¬ (r.2.1 = false ∧ (zlv (zpN bs n r.1)).toInt = ((2 : Nat) : Int)) from fun q => by rw [c1] at q; cases q.1)]
    exact ⟨v, fl, ov, rfl, hz4⟩
  · subst c2
    rw [if_neg (show ¬ (0 : Int32) ≤ -1 by decide)]
    by_cases c : (zlv (zpN bs n r.1)).toInt = ((2 : Nat) : Int)
    · have hlt : r.1 < n := zpN_lt (b := bs) (by omega)
      have eB : zpB bs n r.1 = zpN bs n r.1 := by
        rcases zpBN bs n r.1 with ⟨h1, h2⟩ | ⟨h1, h2, h3⟩
        · exact h1
        · omega
      have up : zy_up (zmW t r.1 (-1) o) 43 13 ((zmW t r.1 (-1) o).1 43 13 + 1) = zmW t (r.1 + 1) (-1) o := by
        rw [show (zmW t r.1 (-1) o).1 43 13 = Int32.ofNat r.1 from rfl, zN_succ (by omega), zmW_13]
      obtain ⟨w, fl', ov', e, hov, hz'⟩ := hsub (r.1 + 1) hlt
      have key : zyF194_37 g2 g3 g4 g5 g6 g7 v (zpN bs n r.1) (zmW t r.1 (-1) o) = some (zjw (zpN bs n r.1) v w, zmW t (sub (r.1 + 1)).1 fl' ov') := by
        unfold zyF194_37
        rw [up, e, zq_bind]
        try dsimp only
        rcases (by omega : (zpN bs n r.1).toInt = 60 ∨ (zpN bs n r.1).toInt = 61 ∨ (zpN bs n r.1).toInt = 62) with h | h | h
        · have eg : zpN bs n r.1 = 60 := zq_ext h
          rw [eg, if_neg (show ¬ (60 : Int32) ≠ 60 by decide), zjw_60]
          by_cases q : w ≤ v
          · rw [if_pos q, if_neg (by rw [Int32.lt_iff_toInt_lt]; rw [Int32.le_iff_toInt_le] at q; omega)]
          · rw [if_neg q, if_pos (by rw [Int32.lt_iff_toInt_lt]; rw [Int32.le_iff_toInt_le] at q; omega)]
        · have eg : zpN bs n r.1 = 61 := zq_ext h
          rw [eg, if_pos (show (61 : Int32) ≠ 60 by decide), if_neg (show ¬ (61 : Int32) ≠ 61 by decide), zjw_61]
          by_cases q : v = w
          · rw [if_neg (not_not_intro q), if_pos q]
          · rw [if_pos q, if_neg q]
        · have eg : zpN bs n r.1 = 62 := zq_ext h
          rw [eg, if_pos (show (62 : Int32) ≠ 60 by decide), if_pos (show (62 : Int32) ≠ 61 by decide), zjw_62]
          by_cases q : v ≤ w
          · rw [if_pos q, if_neg (by rw [Int32.lt_iff_toInt_lt]; rw [Int32.le_iff_toInt_le] at q; omega)]
          · rw [if_neg q, if_pos (by rw [Int32.lt_iff_toInt_lt]; rw [Int32.le_iff_toInt_le] at q; omega)]
      rw [if_pos ⟨c1, c⟩, zpL_0, eB, c3]
      refine ⟨zjw (zpN bs n r.1) v w, fl', ov', ?_, hov, ?_⟩
      · rcases (by omega : (zpN bs n r.1).toInt = 60 ∨ (zpN bs n r.1).toInt = 61 ∨ (zpN bs n r.1).toInt = 62) with h | h | h
        · rw [if_pos (zq_ext h)]
          exact key
        · have eg : zpN bs n r.1 = 61 := zq_ext h
          rw [eg] at key ⊢
          rw [if_neg (by decide), if_pos rfl]
          exact key
        · have eg : zpN bs n r.1 = 62 := zq_ext h
          rw [eg] at key ⊢
          rw [if_neg (by decide), if_neg (by decide), if_pos rfl]
          exact key
      · rcases hz' with ⟨d1, d2⟩ | ⟨d1, d2, d3, d4⟩
        · exact Or.inl ⟨d1, d2⟩
        · exact Or.inr ⟨d1, d2, d3, zpE_jn c4 d4 (by omega)⟩
    · have no : ∀ x : Int32, x.toInt = 60 ∨ x.toInt = 61 ∨ x.toInt = 62 → ¬ zpB bs n r.1 = x := fun x hx q => by
        rw [← q] at hx
        rcases zpBN bs n r.1 with ⟨h1, h2⟩ | ⟨h1, h2, h3⟩
        · rw [h1] at hx
          omega
        · omega
      rw [if_neg (no 60 (Or.inl rfl)), if_neg (no 61 (Or.inr (Or.inl rfl))), if_neg (no 62 (Or.inr (Or.inr rfl))), if_neg (show ¬ (r.2.1 = false ∧ (zlv (zpN bs n r.1)).toInt = ((2 : Nat) : Int)) from fun q => c q.2)]
      exact ⟨v, -1, ov, rfl, hz4⟩
theorem zl_176 (H : zmH t n bs) {o : Int32} : ∀ (k m a : Nat) (v i : Int32), a ≤ n → k < m → 0 ≤ i.toInt → i.toInt + (k : Int) = 4 → (i.toInt ≠ 0 ∨ zpDig (zpN bs n a) = true) → zyF197_176 g2 g3 g4 g5 g6 g7 m v i (zmW t a (-1) o) = some ((zpNum (zpN bs n) k a v).2, zmW t (zpNum (zpN bs n) k a v).1 (-1) o)
  | k, 0, a, v, i, ha, hm, i0, hi, hd => by omega
  | 0, m + 1, a, v, i, ha, hm, i0, hi, hd => by
    show zyF197_176b g2 g3 g4 g5 g6 g7 (zyF197_176 g2 g3 g4 g5 g6 g7 m) v i _ = _
    unfold zyF197_176b zyF197_229
    rw [if_pos (by rw [Int32.le_iff_toInt_le, zq_l4]; omega), if_pos (fun q => by rw [q, zq_l0] at hi; omega)]
    try rfl
  | k + 1, m + 1, a, v, i, ha, hm, i0, hi, hd => by
    have h120 := H.2.1
    have l48 : (48 : Int32).toInt = 48 := rfl
    have l57 : (57 : Int32).toInt = 57 := rfl
    have hB := zpBN bs n a
    show zyF197_176b g2 g3 g4 g5 g6 g7 (zyF197_176 g2 g3 g4 g5 g6 g7 m) v i _ = _
    unfold zyF197_176b
    rw [zpNum_s, if_neg (by rw [Int32.le_iff_toInt_le, zq_l4]; omega), zys198 H ha, zq_bind]
    try dsimp only
    by_cases h : zpDig (zpN bs n a) = true
    · obtain ⟨d0, d1⟩ := of_decide_eq_true h
      have eB : zpB bs n a = zpN bs n a := by
        rcases hB with ⟨h1, h2⟩ | ⟨h1, h2, h3⟩
        · exact h1
        · omega
      have han : a < n := zpN_lt (b := bs) (by omega)
      rw [if_pos h, eB, if_neg (by rw [Int32.lt_iff_toInt_lt, l48]; omega), zys198 H ha, zq_bind]
      try dsimp only
      rw [eB, if_neg (by rw [Int32.lt_iff_toInt_lt, l57]; omega), zys198 H ha, zq_bind]
      try dsimp only
      have ei : (i + 1).toInt = i.toInt + 1 := by rw [zq_add (by rw [zq_l1]; omega) (by rw [zq_l1]; omega), zq_l1]
      rw [show (zmW t a (-1) o).1 43 13 = Int32.ofNat a from rfl, zN_succ (by omega), zmW_13, eB]
      exact zl_176 H k m (a + 1) _ (i + 1) (by omega) (by omega) (by omega) (by omega) (Or.inl (by omega))
    · have hi0 : i.toInt ≠ 0 := hd.resolve_right h
      have nd : ¬ (48 ≤ (zpN bs n a).toInt ∧ (zpN bs n a).toInt ≤ 57) := fun q => h (decide_eq_true q)
      have ni : i ≠ 0 := fun q => hi0 (by rw [q]; rfl)
      rw [if_neg h]
      unfold zyF197_229
      by_cases q : (zpB bs n a).toInt < 48
      · rw [if_pos (by rw [Int32.lt_iff_toInt_lt, l48]; exact q), if_pos ni]
      · rw [if_neg (by rw [Int32.lt_iff_toInt_lt, l48]; exact q), zys198 H ha, zq_bind]
        try dsimp only
        rw [if_pos (by
          rw [Int32.lt_iff_toInt_lt, l57]
          rcases hB with ⟨h1, h2⟩ | ⟨h1, h2, h3⟩
          · rw [h1] at q ⊢
            omega
          · omega), if_pos ni]
theorem zm_no {nm : Nat → Int32} {o : Nat} (ho : o ≤ 6) (ha : a ≤ 120) : zmQ t nm (Int32.ofNat o) (a, true, []) (some (0, zmW t a (Int32.ofNat a) (Int32.ofNat o))) := ⟨0, Int32.ofNat a, Int32.ofNat o, rfl, ⟨Int.le_refl _, by rw [zN_toInt (by omega)]; omega⟩, Or.inl ⟨rfl, zN_toInt (by omega)⟩⟩
/-- one: with the ways in it told -/
theorem zm5 {nm : Nat → Int32} (en : nm = t.1 50) (H : zmH t n bs) (hg : zpG n (zpN bs n)) {f o : Nat} (ho : o ≤ 6) (ha : a ≤ n) (hE : o < 6 → ∀ b, b ≤ n → zmQ t nm (Int32.ofNat (o + 1)) (zpS (zpN bs n) f 0 (o + 1) b) (g2 (zmW t b (-1) (Int32.ofNat (o + 1))))) (hO : o < 6 → ∀ b, b ≤ n → zmQ t nm (Int32.ofNat (o + 1)) (zpS (zpN bs n) f 5 (o + 1) b) (g7 (zmW t b (-1) (Int32.ofNat (o + 1))))) :
    zmQ t nm (Int32.ofNat o) (zpS (zpN bs n) (f + 1) 5 o a) (zyF197_0 g2 g3 g4 g5 g6 g7 (zmW t a (-1) (Int32.ofNat o))) := by
  have h120 := H.2.1
  have hB := zpBN bs n a
  have hm := znmC (zpN bs n a)
  have hmB := znmC (zpB bs n a)
  have eo : (Int32.ofNat o).toInt = (o : Int) := zN_toInt (by omega)
  have eo1 : (Int32.ofNat (o + 1)).toInt = ((o + 1 : Nat) : Int) := zN_toInt (by omega)
  have l6 : (6 : Int32).toInt = 6 := rfl
  have bad : zyF197_32 g2 g3 g4 g5 g6 g7 (zpB bs n a) (zmW t a (-1) (Int32.ofNat 6)) = some (0, zmW t a (Int32.ofNat a) (Int32.ofNat 6)) := by
    unfold zyF197_32
    rw [show (zmW t a (-1) (Int32.ofNat 6)).1 43 16 = 6 from rfl, if_neg (by decide), zys199 (by decide), zq_bind]
  have up : ∀ ov : Int32, zy_up (zy_up (zmW t a (-1) ov) 43 16 (ov + 1)) 43 13 (Int32.ofNat a + 1) = zmW t (a + 1) (-1) (ov + 1) := fun ov => by rw [zmW_16, zN_succ (by omega), zmW_13]
  have nv : ∀ y : Int32, ((zpB bs n a).toInt = 33 ∨ (zpB bs n a).toInt = 40 ∨ (zpB bs n a).toInt = 45) → y.toInt ≠ (zpB bs n a).toInt → ¬ zpB bs n a = y := fun y _ q e => q (by rw [e])
  rw [zpS_s, if_neg (by decide)]
  unfold zyF197_0
  rw [show (zmW t a (-1) (Int32.ofNat o)).1 43 15 = -1 from rfl, if_pos (show (-1 : Int32) < 0 by decide), zys198 H ha, zq_bind]
  try dsimp only
  by_cases hs : (zpB bs n a).toInt = 33 ∨ (zpB bs n a).toInt = 40 ∨ (zpB bs n a).toInt = 45
  · -- a sign that opens
    have eB : zpB bs n a = zpN bs n a := by
      rcases hB with ⟨h1, h2⟩ | ⟨h1, h2, h3⟩
      · exact h1
      · omega
    have han : a < n := by
      rcases hB with ⟨h1, h2⟩ | ⟨h1, h2, h3⟩
      · exact h2
      · omega
    rw [eB] at hs
    have go : (if zpB bs n a = (33 : Int32) then zyF197_32 g2 g3 g4 g5 g6 g7 (zpB bs n a) (zmW t a (-1) (Int32.ofNat o)) else if zpB bs n a = (45 : Int32) then zyF197_32 g2 g3 g4 g5 g6 g7 (zpB bs n a) (zmW t a (-1) (Int32.ofNat o)) else if zpB bs n a ≠ (40 : Int32) then (zyF201 (zpB bs n a) (zmW t a (-1) (Int32.ofNat o))).bind fun p22 => if p22.1 < 0 then zyF197_176 g2 g3 g4 g5 g6 g7 zy_fu (0 : Int32) (0 : Int32) p22.2 else if zy_in p22.1 6 then some ((p22.2.1 50 (p22.1).toNatClampNeg), (zy_up p22.2 43 13 ((p22.2.1 43 13) + (1 : Int32)))) else none else zyF197_32 g2 g3 g4 g5 g6 g7 (zpB bs n a) (zmW t a (-1) (Int32.ofNat o))) = zyF197_32 g2 g3 g4 g5 g6 g7 (zpB bs n a) (zmW t a (-1) (Int32.ofNat o)) := by
      by_cases c1 : zpB bs n a = (33 : Int32)
      · rw [if_pos c1]
      rw [if_neg c1]
      by_cases c2 : zpB bs n a = (45 : Int32)
      · rw [if_pos c2]
      rw [if_neg c2]
      have n1 : ¬ (zpB bs n a).toInt = 33 := fun q => c1 (zq_ext q)
      have n2 : ¬ (zpB bs n a).toInt = 45 := fun q => c2 (zq_ext q)
      rw [eB] at n1 n2
      rw [if_neg (not_not_intro (zq_ext (by rw [eB]; show (zpN bs n a).toInt = 40; omega)))]
    rw [go, if_neg (show ¬ zpDig (zpN bs n a) = true by unfold zpDig; rw [decide_eq_true_eq]; omega), if_neg (show ¬ 0 ≤ (znm (zpN bs n a)).toInt by omega)]
    by_cases h6 : o = 6
    · subst h6
      rw [bad, if_neg (by omega), if_neg (by omega), if_neg (by omega)]
      exact zm_no ho (by omega)
    have ho6 : o < 6 := by omega
    have e1 : Int32.ofNat o + 1 = Int32.ofNat (o + 1) := zN_succ (by omega)
    have e0 : Int32.ofNat (o + 1) - 1 = Int32.ofNat o := zq_ext (by rw [zq_sub (by rw [eo1, zq_l1]; omega) (by rw [eo1, zq_l1]; omega), eo1, eo, zq_l1]; omega)
    unfold zyF197_32
    rw [show (zmW t a (-1) (Int32.ofNat o)).1 43 16 = Int32.ofNat o from rfl, show (zmW t a (-1) (Int32.ofNat o)).1 43 13 = Int32.ofNat a from rfl, if_pos (show Int32.ofNat o ≠ (6 : Int32) from fun q => by rw [q, l6] at eo; omega), up, e1]
    by_cases h40 : (zpN bs n a).toInt = 40
    · rw [if_neg (not_not_intro (zq_ext (by rw [eB]; exact h40))), if_pos (show o < 6 ∧ (zpN bs n a).toInt = 40 from ⟨ho6, h40⟩)]
      obtain ⟨v, fl, ov, e, ⟨o1, o2⟩, hz⟩ := hE ho6 (a + 1) han
      obtain ⟨q1, q2, q3, q4, q5⟩ := zpS_ok hg f 0 (o + 1) (a + 1) han
      rw [e, zq_bind]
      try dsimp only
      unfold zyF197_83
      rw [if_neg (not_not_intro (zq_ext (by rw [eB]; exact h40))), zys200 H q2]
      have hB2 := zpBN bs n (zpS (zpN bs n) f 0 (o + 1) (a + 1)).1
      by_cases hc : (zpS (zpN bs n) f 0 (o + 1) (a + 1)).2.1 = false ∧ (zpN bs n (zpS (zpN bs n) f 0 (o + 1) (a + 1)).1).toInt = 41
      · rcases hz with ⟨d1, d2⟩ | ⟨d1, d2, d3, d4⟩
        · rw [hc.1] at d1
          cases d1
        · subst d2
          rw [if_pos hc, if_pos ⟨by decide, zq_ext (by
            rcases hB2 with ⟨k1, k2⟩ | ⟨k1, k2, k3⟩
            · rw [k1, hc.2]
              try rfl
            · omega)⟩, zq_bind]
          try dsimp only
          rw [if_pos (show (1 : Int32) ≠ 0 by decide)]
          unfold zyF197_104
          rw [if_neg (not_not_intro (zq_ext (by rw [eB]; exact h40))), show (zmW t ((zpS (zpN bs n) f 0 (o + 1) (a + 1)).1 + 1) (-1) ov).1 43 16 = ov from rfl, zmW_16, d3, e0]
          exact ⟨v, -1, Int32.ofNat o, rfl, ⟨Int.le_refl _, by omega⟩, Or.inr ⟨rfl, rfl, rfl, d4⟩⟩
      · rw [if_neg hc]
        rcases hz with ⟨d1, d2⟩ | ⟨d1, d2, d3, d4⟩
        · rw [if_neg (fun q => by have := q.1; omega), zq_bind]
          try dsimp only
          rw [if_neg (show ¬ (0 : Int32) ≠ 0 by decide), zys199' (by omega), zq_bind]
          exact ⟨0, fl, ov, rfl, ⟨by omega, o2⟩, Or.inl ⟨rfl, d2⟩⟩
        · subst d2
          rw [if_neg (fun q => hc ⟨d1, by
            have e41 : (zpB bs n (zpS (zpN bs n) f 0 (o + 1) (a + 1)).1).toInt = 41 := by rw [q.2]; rfl
            rcases hB2 with ⟨k1, k2⟩ | ⟨k1, k2, k3⟩
            · rw [← k1]
              exact e41
            · omega⟩), zq_bind]
          try dsimp only
          rw [if_neg (show ¬ (0 : Int32) ≠ 0 by decide), zys199 (by decide), zq_bind]
          exact ⟨0, _, ov, rfl, ⟨by omega, o2⟩, Or.inl ⟨rfl, zN_toInt (by omega)⟩⟩
    · rw [if_pos (show zpB bs n a ≠ (40 : Int32) from fun q => h40 (by rw [← eB, q]; rfl)), if_neg (show ¬ (o < 6 ∧ (zpN bs n a).toInt = 40) from fun q => h40 q.2)]
      obtain ⟨v, fl, ov, e, ⟨o1, o2⟩, hz⟩ := hO ho6 (a + 1) han
      rw [e, zq_bind]
      try dsimp only
      unfold zyF197_83 zyF197_104
      rw [if_pos (show zpB bs n a ≠ (40 : Int32) from fun q => h40 (by rw [← eB, q]; rfl)), if_pos (show zpB bs n a ≠ (40 : Int32) from fun q => h40 (by rw [← eB, q]; rfl)), show (zmW t (zpS (zpN bs n) f 5 (o + 1) (a + 1)).1 fl ov).1 43 16 = ov from rfl, zmW_16]
      have eov : (ov - 1).toInt = ov.toInt - 1 := by rw [zq_sub (by rw [zq_l1]; omega) (by rw [zq_l1]; omega), zq_l1]
      by_cases h33 : (zpN bs n a).toInt = 33
      · rw [if_pos (show o < 6 ∧ (zpN bs n a).toInt = 33 from ⟨ho6, h33⟩), if_pos (show zpB bs n a ≠ (45 : Int32) from fun q => by
          have : (zpN bs n a).toInt = 45 := by rw [← eB, q]; rfl
          omega)]
        have val : (if v ≠ 0 then some ((0 : Int32), zmW t (zpS (zpN bs n) f 5 (o + 1) (a + 1)).1 fl (ov - 1)) else some ((1 : Int32), zmW t (zpS (zpN bs n) f 5 (o + 1) (a + 1)).1 fl (ov - 1))) = some ((if v = 0 then 1 else 0 : Int32), zmW t (zpS (zpN bs n) f 5 (o + 1) (a + 1)).1 fl (ov - 1)) := by
          by_cases q : v = 0
          · rw [if_neg (not_not_intro q), if_pos q]
          · rw [if_pos q, if_neg q]
        rw [val]
        refine ⟨_, fl, ov - 1, rfl, ⟨by omega, by omega⟩, ?_⟩
        rcases hz with ⟨d1, d2⟩ | ⟨d1, d2, d3, d4⟩
        · exact Or.inl ⟨d1, d2⟩
        · exact Or.inr ⟨d1, d2, by rw [d3, e0], zpE_not d4⟩
      · have h45 : (zpN bs n a).toInt = 45 := by omega
        rw [if_neg (show ¬ (o < 6 ∧ (zpN bs n a).toInt = 33) from fun q => h33 q.2), if_pos (show o < 6 ∧ (zpN bs n a).toInt = 45 from ⟨ho6, h45⟩), if_neg (not_not_intro (zq_ext (by rw [eB]; exact h45)))]
        refine ⟨_, fl, ov - 1, rfl, ⟨by omega, by omega⟩, ?_⟩
        rcases hz with ⟨d1, d2⟩ | ⟨d1, d2, d3, d4⟩
        · exact Or.inl ⟨d1, d2⟩
        · exact Or.inr ⟨d1, d2, by rw [d3, e0], zpE_neg d4⟩
  · have n33 : ¬ zpB bs n a = (33 : Int32) := fun q => hs (Or.inl (by rw [q]; rfl))
    have n45 : ¬ zpB bs n a = (45 : Int32) := fun q => hs (Or.inr (Or.inr (by rw [q]; rfl)))
    have n40 : zpB bs n a ≠ (40 : Int32) := fun q => hs (Or.inr (Or.inl (by rw [q]; rfl)))
    rw [if_neg n33, if_neg n45, if_pos n40, zys201, zq_bind]
    try dsimp only
    by_cases hn : 0 ≤ (znm (zpN bs n a)).toInt
    · have eB : zpB bs n a = zpN bs n a := by
        rcases hB with ⟨h1, h2⟩ | ⟨h1, h2, h3⟩
        · exact h1
        · omega
      rw [if_neg (show ¬ zpDig (zpN bs n a) = true by unfold zpDig; rw [decide_eq_true_eq]; omega), if_pos hn, eB, if_neg (show ¬ znm (zpN bs n a) < 0 by rw [Int32.lt_iff_toInt_lt, zq_l0]; omega), if_pos (zq_in.mpr ⟨hn, by omega⟩), show (zmW t a (-1) (Int32.ofNat o)).1 43 13 = Int32.ofNat a from rfl, zN_succ (by omega), zmW_13]
      refine ⟨_, -1, Int32.ofNat o, rfl, ⟨Int.le_refl _, by omega⟩, Or.inr ⟨rfl, rfl, rfl, ?_⟩⟩
      rw [en]
      exact zpE_nm hn (by omega)
    · have nB : (znm (zpB bs n a)).toInt < 0 := by
        rcases hB with ⟨h1, h2⟩ | ⟨h1, h2, h3⟩
        · rw [h1]
          omega
        · omega
      rw [if_pos (show znm (zpB bs n a) < 0 by rw [Int32.lt_iff_toInt_lt, zq_l0]; exact nB)]
      by_cases hd : zpDig (zpN bs n a) = true
      · rw [if_pos hd, zl_176 H 4 zy_fu a 0 0 ha (by unfold zy_fu; omega) (by decide) (by decide) (Or.inr hd)]
        obtain ⟨q1, q2, q3, q4⟩ := zpNum_1 hg ha hd
        exact ⟨_, -1, Int32.ofNat o, rfl, ⟨Int.le_refl _, by omega⟩, Or.inr ⟨rfl, rfl, rfl, zpE_num q3 (by omega)⟩⟩
      · have nd : ¬ (48 ≤ (zpN bs n a).toInt ∧ (zpN bs n a).toInt ≤ 57) := fun q => hd (decide_eq_true q)
        have hsN : ¬ ((zpN bs n a).toInt = 33 ∨ (zpN bs n a).toInt = 40 ∨ (zpN bs n a).toInt = 45) := by
          rcases hB with ⟨h1, h2⟩ | ⟨h1, h2, h3⟩
          · rw [← h1]
            exact hs
          · omega
        rw [if_neg hd, if_neg hn, if_neg (by omega), if_neg (by omega), if_neg (by omega)]
        have e : zyF197_176 g2 g3 g4 g5 g6 g7 zy_fu 0 0 (zmW t a (-1) (Int32.ofNat o)) = some (0, zmW t a (Int32.ofNat a) (Int32.ofNat o)) := by
          have l48 : (48 : Int32).toInt = 48 := rfl
          have l57 : (57 : Int32).toInt = 57 := rfl
          show zyF197_176b g2 g3 g4 g5 g6 g7 (zyF197_176 g2 g3 g4 g5 g6 g7 9999) 0 0 _ = _
          unfold zyF197_176b zyF197_229
          rw [if_neg (by decide), zys198 H ha, zq_bind]
          try dsimp only
          by_cases q : (zpB bs n a).toInt < 48
          · rw [if_pos (by rw [Int32.lt_iff_toInt_lt, l48]; exact q), if_neg (by decide), zys199 (by decide), zq_bind]
          · rw [if_neg (by rw [Int32.lt_iff_toInt_lt, l48]; exact q), zys198 H ha, zq_bind]
            try dsimp only
            rw [if_pos (by
              rw [Int32.lt_iff_toInt_lt, l57]
              rcases hB with ⟨h1, h2⟩ | ⟨h1, h2, h3⟩
              · rw [h1] at q ⊢
                omega
              · omega), if_neg (by decide), zys199 (by decide), zq_bind]
        rw [e]
        exact zm_no ho (by omega)
end ZG
theorem zmSp {nm : Nat → Int32} (en : nm = t.1 50) (H : zmH t n bs) (hg : zpG n (zpN bs n)) : ∀ (f lev o a N : Nat), lev ≤ 5 → o ≤ 6 → a ≤ n → 7 * (6 - o) + (5 - lev) < f → f ≤ N → zmQ t nm (Int32.ofNat o) (zpS (zpN bs n) f lev o a) (zmf6 lev N (zmW t a (-1) (Int32.ofNat o)))
  | 0, lev, o, a, N, hl, ho, ha, hf, hN => by omega
  | f + 1, lev, o, a, N, hl, ho, ha, hf, hN => by
    obtain ⟨M, rfl⟩ : ∃ M, N = M + 1 := ⟨N - 1, by omega⟩
    have h120 := H.2.1
    have hok : ∀ l b, b ≤ n → zpOk n b (zpS (zpN bs n) f l o b) := fun l b hb => zpS_ok hg f l o b hb
    have hsub : ∀ l, l ≤ 5 → 7 * (6 - o) + (5 - l) < f → ∀ b, b ≤ n → zmQ t nm (Int32.ofNat o) (zpS (zpN bs n) f l o b) (zmf6 l M (zmW t b (-1) (Int32.ofNat o))) := fun l h1 h2 b hb => zmSp en H hg f l o b M h1 ho hb h2 (by omega)
    rcases (by omega : lev = 0 ∨ lev = 1 ∨ lev = 2 ∨ lev = 3 ∨ lev = 4 ∨ lev = 5) with rfl | rfl | rfl | rfl | rfl | rfl
    · show zmQ t nm _ _ ((zyG192 (M + 1)).1 _)
      rw [zyS192, zpS_s, if_pos (by decide), if_neg (by decide)]
      unfold zyF192_0
      obtain ⟨v, fl, ov, e, hz⟩ := hsub 1 (by decide) (by omega) a ha
      rw [show (zyG192 M).2.1 (zmW t a (-1) (Int32.ofNat o)) = _ from e, zq_bind]
      exact zl_mm (lp := fun m => zyF192_5 (zyG192 M).1 (zyG192 M).2.1 (zyG192 M).2.2.1 (zyG192 M).2.2.2.1 (zyG192 M).2.2.2.2.1 (zyG192 M).2.2.2.2.2 m) (M := (zyG192 M).2.1) hg (hsub 1 (by decide) (by omega)) (hok 1) (zm0a H) (zm0b H) (fun m v b => zm0c H m v _ b) 120 zy_fu (zpS (zpN bs n) f 1 o a) v fl ov a (by omega) (by unfold zy_fu; omega) (hok 1 a ha) hz
    · show zmQ t nm _ _ ((zyG192 (M + 1)).2.1 _)
      rw [zyS193, zpS_s, if_pos (by decide), if_neg (by decide)]
      unfold zyF193_0
      obtain ⟨v, fl, ov, e, hz⟩ := hsub 2 (by decide) (by omega) a ha
      rw [show (zyG192 M).2.2.1 (zmW t a (-1) (Int32.ofNat o)) = _ from e, zq_bind]
      exact zl_mm (lp := fun m => zyF193_5 (zyG192 M).1 (zyG192 M).2.1 (zyG192 M).2.2.1 (zyG192 M).2.2.2.1 (zyG192 M).2.2.2.2.1 (zyG192 M).2.2.2.2.2 m) (M := (zyG192 M).2.2.1) hg (hsub 2 (by decide) (by omega)) (hok 2) (zm1a H) (zm1b H) (fun m v b => zm1c H m v _ b) 120 zy_fu (zpS (zpN bs n) f 2 o a) v fl ov a (by omega) (by unfold zy_fu; omega) (hok 2 a ha) hz
    · show zmQ t nm _ _ ((zyG192 (M + 1)).2.2.1 _)
      rw [zyS194, zpS_s, if_pos (by decide), if_pos rfl]
      unfold zyF194_0
      obtain ⟨v, fl, ov, e, hz⟩ := hsub 3 (by decide) (by omega) a ha
      rw [show (zyG192 M).2.2.2.1 (zmW t a (-1) (Int32.ofNat o)) = _ from e, zq_bind]
      exact zm2 H (hsub 3 (by decide) (by omega)) (hok 3 a ha).2.1 hz
    · show zmQ t nm _ _ ((zyG192 (M + 1)).2.2.2.1 _)
      rw [zyS195, zpS_s, if_pos (by decide), if_neg (by decide)]
      unfold zyF195_0
      obtain ⟨v, fl, ov, e, hz⟩ := hsub 4 (by decide) (by omega) a ha
      rw [show (zyG192 M).2.2.2.2.1 (zmW t a (-1) (Int32.ofNat o)) = _ from e, zq_bind]
      exact zl_mm (lp := fun m => zyF195_5 (zyG192 M).1 (zyG192 M).2.1 (zyG192 M).2.2.1 (zyG192 M).2.2.2.1 (zyG192 M).2.2.2.2.1 (zyG192 M).2.2.2.2.2 m) (M := (zyG192 M).2.2.2.2.1) hg (hsub 4 (by decide) (by omega)) (hok 4) (zm3a H) (zm3b H) (fun m v b => zm3c H m v _ b) 120 zy_fu (zpS (zpN bs n) f 4 o a) v fl ov a (by omega) (by unfold zy_fu; omega) (hok 4 a ha) hz
    · show zmQ t nm _ _ ((zyG192 (M + 1)).2.2.2.2.1 _)
      rw [zyS196, zpS_s, if_pos (by decide), if_neg (by decide)]
      unfold zyF196_0
      obtain ⟨v, fl, ov, e, hz⟩ := hsub 5 (by decide) (by omega) a ha
      rw [show (zyG192 M).2.2.2.2.2 (zmW t a (-1) (Int32.ofNat o)) = _ from e, zq_bind]
      exact zl_mm (lp := fun m v s => (zyF198 s).bind fun p => zyF196_10 (zyG192 M).1 (zyG192 M).2.1 (zyG192 M).2.2.1 (zyG192 M).2.2.2.1 (zyG192 M).2.2.2.2.1 (zyG192 M).2.2.2.2.2 m v p.1 p.2) (M := (zyG192 M).2.2.2.2.2) hg (hsub 5 (by decide) (by omega)) (hok 5) (zm4a H) (zm4b H) (fun m v b => zm4c H m v _ b) 120 zy_fu (zpS (zpN bs n) f 5 o a) v fl ov a (by omega) (by unfold zy_fu; omega) (hok 5 a ha) hz
    · show zmQ t nm _ _ ((zyG192 (M + 1)).2.2.2.2.2 _)
      rw [zyS197]
      exact zm5 en H hg ho ha (fun h6 b hb => zmSp en H hg f 0 (o + 1) b M (by omega) (by omega) hb (by omega) (by omega)) (fun h6 b hb => zmSp en H hg f 5 (o + 1) b M (by omega) (by omega) hb (by omega) (by omega))
theorem zys192 {nm : Nat → Int32} (en : nm = t.1 50) (H : zmH t n bs) (hg : zpG n (zpN bs n)) (ha : a ≤ n) : zmQ t nm 0 (zpS (zpN bs n) 50 0 0 a) (zyF192 (zmW t a (-1) 0)) := zmSp en H hg 50 0 0 a 100 (by omega) (by omega) ha (by omega) (by omega)
/-- a line -/
theorem zm_line {nm : Nat → Int32} (en : nm = t.1 50) (H : zmH t n bs) (hg : zpG n (zpN bs n)) (ha : a ≤ n) (k33 : Int32 → Int32 → Int32 → zy_S → Option (Int32 × zy_S)) (x3 x4 : Int32) (hx : x3 = 0 → x4 = 0) : ∃ y3 y4 fl ov, zyF191_33b k33 x3 x4 1 (zmW t a (-1) 0) = zyF191_96 k33 y3 y4 (zmW t (zpLine (zpN bs n) a).1 fl ov) ∧ (0 ≤ ov.toInt ∧ ov.toInt ≤ 6) ∧ (((zpLine (zpN bs n) a).2.1 = true ∧ fl.toInt = ((zpLine (zpN bs n) a).1 : Int)) ∨ ((zpLine (zpN bs n) a).2.1 = false ∧ fl = -1 ∧ ov = 0 ∧ (y3 = 0 → y4 = 0) ∧ ∀ rest, (if x3 ≠ 0 then zclp x4 else zwv nm ((zpLine (zpN bs n) a).2.2 ++ rest) false []) = if y3 ≠ 0 then zclp y4 else zwv nm rest false [])) := by
  obtain ⟨q1, q2, q3, q4, q5⟩ := zpS_ok hg 50 0 0 a ha
  obtain ⟨v, fl, ov, e, ⟨o1, o2⟩, hz⟩ := zys192 en H hg ha
  have hB := zpBN bs n (zpS (zpN bs n) 50 0 0 a).1
  have l59 : (-59 : Int32).toInt = -59 := rfl
  have l63 : (-63 : Int32).toInt = -63 := rfl
  have w59 : ∀ (rest st : List Int32), zwv nm ([(-59 : Int32)] ++ rest) false st = zclp (st.headD 0) := fun rest st => by
    show zwv nm ((-59 : Int32) :: rest) false st = _
    rw [zwv_s, if_neg (by decide), if_neg (by omega), if_pos l59]
  have w59t : ∀ (rest st : List Int32), zwv nm ([(-59 : Int32)] ++ rest) true st = zwv nm rest false st := fun rest st => by
    show zwv nm ((-59 : Int32) :: rest) true st = _
    rw [zwv_s, if_pos rfl]
    try rfl
  have w63 : ∀ (x : Int32) (rest : List Int32), zwv nm ([(-63 : Int32)] ++ rest) false [x] = zwv nm rest (decide (x = 0)) [] := fun x rest => by
    show zwv nm ((-63 : Int32) :: rest) false [x] = _
    rw [zwv_s, if_neg (by decide), if_neg (by omega), if_neg (by omega), if_pos l63]
    try rfl
  unfold zyF191_33b zpLine
  rw [if_neg (by decide), e, zq_bind]
  try dsimp only
  rw [zys200 H q2]
  by_cases hc : (zpS (zpN bs n) 50 0 0 a).2.1 = false ∧ (zpN bs n (zpS (zpN bs n) 50 0 0 a).1).toInt = 63
  · rcases hz with ⟨d1, d2⟩ | ⟨d1, d2, d3, d4⟩
    · rw [hc.1] at d1
      cases d1
    subst d2
    have hlt : (zpS (zpN bs n) 50 0 0 a).1 < n := zpN_lt (b := bs) (by omega)
    obtain ⟨w, fl', ov', e', ⟨p1, p2⟩, hz'⟩ := zys192 en H hg (a := (zpS (zpN bs n) 50 0 0 a).1 + 1) hlt
    rw [if_pos hc, if_pos ⟨by decide, zq_ext (by
      rcases hB with ⟨k1, k2⟩ | ⟨k1, k2, k3⟩
      · rw [k1, hc.2]
        try rfl
      · omega)⟩, zq_bind, d3]
    try dsimp only
    rw [if_neg (by decide)]
    have fin : ∀ y0 : Int32, zyF191_66 k33 x3 x4 y0 (zmW t ((zpS (zpN bs n) 50 0 0 a).1 + 1) (-1) 0) = zyF191_74 k33 x3 x4 w y0 (zmW t (zpS (zpN bs n) 50 0 0 ((zpS (zpN bs n) 50 0 0 a).1 + 1)).1 fl' ov') := fun y0 => by
      unfold zyF191_66
      rw [e', zq_bind]
    have asc : ∀ rest : List Int32, ((zpS (zpN bs n) 50 0 0 a).2.2 ++ ([(-63 : Int32)] ++ ((zpS (zpN bs n) 50 0 0 ((zpS (zpN bs n) 50 0 0 a).1 + 1)).2.2 ++ [(-59 : Int32)]))) ++ rest = (zpS (zpN bs n) 50 0 0 a).2.2 ++ ([(-63 : Int32)] ++ ((zpS (zpN bs n) 50 0 0 ((zpS (zpN bs n) 50 0 0 a).1 + 1)).2.2 ++ ([(-59 : Int32)] ++ rest))) := fun rest => by simp only [List.append_assoc]
    by_cases hv : v = 0
    · rw [if_pos hv, fin]
      unfold zyF191_74
      refine ⟨x3, x4, fl', ov', ?_, ⟨by rw [zq_l0] at p1; exact p1, p2⟩, ?_⟩
      · rw [show (zmW t (zpS (zpN bs n) 50 0 0 ((zpS (zpN bs n) 50 0 0 a).1 + 1)).1 fl' ov').1 43 15 = fl' from rfl, if_pos (rfl : (0 : Int32) = 0)]
        by_cases q : (0 : Int32) ≤ fl'
        · rw [if_pos q]
        · rw [if_neg q]
      · rcases hz' with ⟨c1, c2⟩ | ⟨c1, c2, c3, c4⟩
        · exact Or.inl ⟨c1, c2⟩
        · refine Or.inr ⟨c1, c2, c3, hx, fun rest => ?_⟩
          try dsimp only
          by_cases q : x3 ≠ 0
          · rw [if_pos q, if_pos q]
          · rw [if_neg q, if_neg q, asc, d4.2, w63, decide_eq_true hv, c4.1, w59t]
    · rw [if_neg hv, fin]
      unfold zyF191_74
      rw [show (zmW t (zpS (zpN bs n) 50 0 0 ((zpS (zpN bs n) 50 0 0 a).1 + 1)).1 fl' ov').1 43 15 = fl' from rfl, if_neg (by decide : ¬ (1 : Int32) = 0)]
      rcases hz' with ⟨c1, c2⟩ | ⟨c1, c2, c3, c4⟩
      · refine ⟨x3, x4, fl', ov', ?_, ⟨by rw [zq_l0] at p1; exact p1, p2⟩, Or.inl ⟨c1, c2⟩⟩
        rw [if_pos (by rw [Int32.le_iff_toInt_le, zq_l0]; omega)]
      · subst c2
        rw [if_neg (by decide)]
        by_cases q : x3 ≠ 0
        · rw [if_pos q]
          refine ⟨x3, x4, -1, ov', rfl, ⟨by rw [zq_l0] at p1; exact p1, p2⟩, Or.inr ⟨c1, rfl, c3, hx, fun rest => ?_⟩⟩
          rw [if_pos q, if_pos q]
        · rw [if_neg q]
          refine ⟨1, w, -1, ov', rfl, ⟨by rw [zq_l0] at p1; exact p1, p2⟩, Or.inr ⟨c1, rfl, c3, fun h => absurd h (by decide), fun rest => ?_⟩⟩
          try dsimp only
          rw [if_neg q, if_pos (by decide), asc, d4.2, w63, decide_eq_false hv, c4.2, w59]
          try rfl
  · rw [if_neg hc]
    have tk : (if fl.toInt < 0 ∧ zpB bs n (zpS (zpN bs n) 50 0 0 a).1 = (63 : Int32) then some ((1 : Int32), zmW t ((zpS (zpN bs n) 50 0 0 a).1 + 1) fl ov) else some (0, zmW t (zpS (zpN bs n) 50 0 0 a).1 fl ov)) = some (0, zmW t (zpS (zpN bs n) 50 0 0 a).1 fl ov) := by
      refine if_neg (fun q => ?_)
      have e63 : (zpB bs n (zpS (zpN bs n) 50 0 0 a).1).toInt = 63 := by rw [q.2]; rfl
      rcases hz with ⟨d1, d2⟩ | ⟨d1, d2, d3, d4⟩
      · omega
      · refine hc ⟨d1, ?_⟩
        rcases hB with ⟨k1, k2⟩ | ⟨k1, k2, k3⟩
        · rw [← k1]
          exact e63
        · omega
    rw [tk, zq_bind]
    try dsimp only
    rw [if_pos (rfl : (0 : Int32) = 0)]
    unfold zyF191_74
    rw [show (zmW t (zpS (zpN bs n) 50 0 0 a).1 fl ov).1 43 15 = fl from rfl, if_neg (by decide : ¬ (1 : Int32) = 0)]
    rcases hz with ⟨c1, c2⟩ | ⟨c1, c2, c3, c4⟩
    · refine ⟨x3, x4, fl, ov, ?_, ⟨by rw [zq_l0] at o1; exact o1, o2⟩, Or.inl ⟨c1, c2⟩⟩
      rw [if_pos (by rw [Int32.le_iff_toInt_le, zq_l0]; omega)]
    · subst c2
      rw [if_neg (by decide)]
      by_cases q : x3 ≠ 0
      · rw [if_pos q]
        refine ⟨x3, x4, -1, ov, rfl, ⟨by rw [zq_l0] at o1; exact o1, o2⟩, Or.inr ⟨c1, rfl, c3, hx, fun rest => ?_⟩⟩
        rw [if_pos q, if_pos q]
      · rw [if_neg q]
        refine ⟨1, v, -1, ov, rfl, ⟨by rw [zq_l0] at o1; exact o1, o2⟩, Or.inr ⟨c1, rfl, c3, fun h => absurd h (by decide), fun rest => ?_⟩⟩
        try dsimp only
        rw [if_neg q, if_pos (by decide), List.append_assoc, c4.2, w59]
        try rfl
theorem zpF_no {q : Nat × Bool × List Int32} (h : zpF n q = -1) (hq : q.1 ≤ 120) : q.2.1 = false ∧ n ≤ q.1 := by
  unfold zpF zpf at h
  split at h
  · have := congrArg Int32.toInt h
    rw [zN_toInt (by omega), zq_lm1] at this
    omega
  · next c =>
    refine ⟨?_, by omega⟩
    cases e : q.2.1 with
    | false => rfl
    | true => exact absurd (Or.inl e) c
theorem zm_lines {nm : Nat → Int32} (en : nm = t.1 50) (H : zmH t n bs) (hg : zpG n (zpN bs n)) : ∀ (k m b : Nat) (br : Bool) (fl ov x3 x4 : Int32), b ≤ n → n ≤ b + k → k < m → (0 ≤ ov.toInt ∧ ov.toInt ≤ 6) → ((br = true ∧ fl.toInt = (b : Int)) ∨ (br = false ∧ fl = -1 ∧ ov = 0 ∧ (x3 = 0 → x4 = 0))) →
    ∃ v fl' ov', zyF191_96 (zyF191_33 m) x3 x4 (zmW t b fl ov) = some (v, zmW t (zpU (zpN bs n) k b br).1 fl' ov') ∧ (0 ≤ ov'.toInt ∧ ov'.toInt ≤ 6) ∧ fl' = zpF n (zpU (zpN bs n) k b br) ∧ (zpF n (zpU (zpN bs n) k b br) = -1 → zclp v = if x3 ≠ 0 then zclp x4 else zwv nm (zpU (zpN bs n) k b br).2.2 false [])
  | k, 0, b, br, fl, ov, x3, x4, hb, hk, hm, ho, hz => by omega
  | k, m + 1, b, br, fl, ov, x3, x4, hb, hk, hm, ho, hz => by
    have h120 := H.2.1
    have hB := zpBN bs n b
    have c0 : zclp 0 = 0 := by decide
    have fin : ¬ (br = false ∧ (zpN bs n b).toInt = 59) → ∃ v fl' ov', zyF191_96 (zyF191_33 (m + 1)) x3 x4 (zmW t b fl ov) = some (v, zmW t b fl' ov') ∧ (0 ≤ ov'.toInt ∧ ov'.toInt ≤ 6) ∧ fl' = zpF n (b, br, []) ∧ (zpF n (b, br, []) = -1 → zclp v = if x3 ≠ 0 then zclp x4 else zwv nm [] false []) := by
      intro hc
      have tk : (if fl.toInt < 0 ∧ zpB bs n b = (59 : Int32) then some ((1 : Int32), zmW t (b + 1) fl ov) else some (0, zmW t b fl ov)) = some (0, zmW t b fl ov) := by
        refine if_neg (fun q => ?_)
        have e59 : (zpB bs n b).toInt = 59 := by rw [q.2]; rfl
        rcases hz with ⟨d1, d2⟩ | ⟨d1, d2, d3, d4⟩
        · omega
        · refine hc ⟨d1, ?_⟩
          rcases hB with ⟨k1, k2⟩ | ⟨k1, k2, k3⟩
          · rw [← k1]
            exact e59
          · omega
      unfold zyF191_96
      rw [zys200 H hb, tk, zq_bind]
      show ∃ v fl' ov', zyF191_33b (zyF191_33 m) x3 x4 0 (zmW t b fl ov) = _ ∧ _
      unfold zyF191_33b
      rw [if_pos (rfl : (0 : Int32) = 0), show (zmW t b fl ov).1 43 15 = fl from rfl, show (zmW t b fl ov).1 43 14 = Int32.ofNat n from H.1, show (zmW t b fl ov).1 43 13 = Int32.ofNat b from rfl]
      rcases hz with ⟨d1, d2⟩ | ⟨d1, d2, d3, d4⟩
      · have ef : zpF n (b, br, []) = Int32.ofNat b := if_pos (Or.inl d1)
        rw [if_pos (by rw [Int32.le_iff_toInt_le, zq_l0]; omega), ef]
        refine ⟨x4, fl, ov, rfl, ho, zq_ext (by rw [zN_toInt (by omega)]; exact d2), fun h => ?_⟩
        have := congrArg Int32.toInt h
        rw [zN_toInt (by omega), zq_lm1] at this
        omega
      · subst d2
        rw [if_neg (by decide)]
        by_cases hn : n ≤ b
        · have ef : zpF n (b, br, []) = -1 := if_neg (fun q => by
            rcases q with q | q
            · rw [d1] at q
              cases q
            · exact absurd (show b < n from q) (by omega))
          rw [if_pos (by rw [Int32.le_iff_toInt_le, zN_toInt (by omega), zN_toInt (by omega)]; omega), ef]
          refine ⟨x4, -1, ov, rfl, ho, rfl, fun _ => ?_⟩
          by_cases q : x3 = 0
          · rw [if_neg (not_not_intro q), d4 q, c0]
            try rfl
          · rw [if_pos q]
        · have ef : zpF n (b, br, []) = Int32.ofNat b := if_pos (Or.inr (show b < n by omega))
          rw [if_neg (by rw [Int32.le_iff_toInt_le, zN_toInt (by omega), zN_toInt (by omega)]; omega), zys199 (by decide), zq_bind, ef]
          refine ⟨0, Int32.ofNat b, ov, rfl, ho, rfl, fun h => ?_⟩
          have := congrArg Int32.toInt h
          rw [zN_toInt (by omega), zq_lm1] at this
          omega
    cases k with
    | zero =>
      refine fin (fun q => ?_)
      have : b < n := zpN_lt (b := bs) (by omega)
      omega
    | succ k =>
      rw [zpU_s]
      by_cases hc : br = false ∧ (zpN bs n b).toInt = 59
      · rw [if_pos hc]
        rcases hz with ⟨d1, d2⟩ | ⟨d1, d2, d3, d4⟩
        · rw [hc.1] at d1
          cases d1
        subst d2
        have hlt : b < n := zpN_lt (b := bs) (by omega)
        obtain ⟨q1, q2, q3, q4, q5⟩ := zpLine_ok hg (a := b + 1) hlt
        obtain ⟨y3, y4, fl1, ov1, e, o1, hl⟩ := zm_line en H hg (a := b + 1) hlt (zyF191_33 m) x3 x4 d4
        unfold zyF191_96
        rw [zys200 H hb, if_pos ⟨by decide, zq_ext (by
          rcases hB with ⟨k1, k2⟩ | ⟨k1, k2, k3⟩
          · rw [k1, hc.2]
            try rfl
          · omega)⟩, zq_bind, d3]
        show ∃ v fl' ov', zyF191_33b (zyF191_33 m) x3 x4 1 (zmW t (b + 1) (-1) 0) = _ ∧ _
        rw [e]
        obtain ⟨v, fl2, ov2, f1, f2, f3, f4⟩ := zm_lines en H hg k m (zpLine (zpN bs n) (b + 1)).1 (zpLine (zpN bs n) (b + 1)).2.1 fl1 ov1 y3 y4 q2 (by omega) (by omega) o1 (by
          rcases hl with ⟨c1, c2⟩ | ⟨c1, c2, c3, c4, -⟩
          · exact Or.inl ⟨c1, c2⟩
          · exact Or.inr ⟨c1, c2, c3, c4⟩)
        refine ⟨v, fl2, ov2, f1, f2, f3.trans zpF_x, fun h => ?_⟩
        have h' : zpF n (zpU (zpN bs n) k (zpLine (zpN bs n) (b + 1)).1 (zpLine (zpN bs n) (b + 1)).2.1) = -1 := zpF_x.trans h
        rw [f4 h']
        obtain ⟨u1, u2, u3, u4⟩ := zpU_ok hg k (zpLine (zpN bs n) (b + 1)).1 (zpLine (zpN bs n) (b + 1)).2.1 q2
        rcases hl with ⟨c1, c2⟩ | ⟨c1, c2, c3, c4, c5⟩
        · exfalso
          have g := (zpF_no h' (by omega)).1
          rw [c1] at g
          cases k with
          | zero => exact absurd (show true = false from g) (by decide)
          | succ k =>
            rw [zpU_s, if_neg (fun q => by cases q.1)] at g
            exact absurd (show true = false from g) (by decide)
        · exact (c5 _).symm
      · rw [if_neg hc]
        exact fin hc
theorem zys191 {nm : Nat → Int32} {u : zy_S} {x1 x2 : Int32} (en : nm = u.1 50) (H : zmH (zy_up (zy_up u 43 12 x1) 43 14 x2) n bs) (hg : zpG n (zpN bs n)) : ∃ v ov, zyF191 x1 x2 u = some (v, zmW (zy_up (zy_up u 43 12 x1) 43 14 x2) (zpT (zpN bs n)).1 (zpF n (zpT (zpN bs n))) ov) ∧ (0 ≤ ov.toInt ∧ ov.toInt ≤ 6) ∧ (zpF n (zpT (zpN bs n)) = -1 → zclp v = zwv nm (zpT (zpN bs n)).2.2 false []) := by
  have e : zy_up (zy_up (zy_up (zy_up (zy_up u 43 12 x1) 43 13 (0 : Int32)) 43 14 x2) 43 15 (-1 : Int32)) 43 16 (0 : Int32) = zmW (zy_up (zy_up u 43 12 x1) 43 14 x2) 0 (-1) 0 := by
    refine zxS (fun x y => ?_) rfl
    rw [zmW_at, zy_up_at, zy_up_at, zy_up_at, zy_up_at, zy_up_at, zy_up_at, zy_up_at]
    by_cases h16 : x = 43 ∧ y = 16
    · rw [if_pos h16, if_pos h16]
    rw [if_neg h16, if_neg h16]
    by_cases h15 : x = 43 ∧ y = 15
    · rw [if_pos h15, if_pos h15]
    rw [if_neg h15, if_neg h15]
    by_cases h14 : x = 43 ∧ y = 14
    · rw [if_pos h14, if_neg (by omega), if_pos h14]
    rw [if_neg h14, if_neg h14]
    by_cases h13 : x = 43 ∧ y = 13
    · rw [if_pos h13, if_pos h13]
      try rfl
    rw [if_neg h13, if_neg h13]
  obtain ⟨q1, q2, q3, q4, q5⟩ := zpLine_ok hg (a := 0) (Nat.zero_le _)
  obtain ⟨y3, y4, fl1, ov1, f, o1, hl⟩ := zm_line (t := zy_up (zy_up u 43 12 x1) 43 14 x2) (nm := nm) en H hg (a := 0) (Nat.zero_le _) (zyF191_33 9999) 0 0 (fun _ => rfl)
  obtain ⟨v, fl2, ov2, f1, f2, f3, f4⟩ := zm_lines (t := zy_up (zy_up u 43 12 x1) 43 14 x2) (nm := nm) en H hg 120 9999 (zpLine (zpN bs n) 0).1 (zpLine (zpN bs n) 0).2.1 fl1 ov1 y3 y4 q2 (by have := H.2.1; omega) (by omega) o1 (by
    rcases hl with ⟨c1, c2⟩ | ⟨c1, c2, c3, c4, -⟩
    · exact Or.inl ⟨c1, c2⟩
    · exact Or.inr ⟨c1, c2, c3, c4⟩)
  unfold zyF191
  rw [e, zpT_F]
  unfold zpT
  refine ⟨v, ov2, ?_, f2, fun h' => ?_⟩
  · show zyF191_33b (zyF191_33 9999) 0 0 1 _ = _
    rw [f, f1, f3]
  · rw [f4 h']
    obtain ⟨u1, u2, u3, u4⟩ := zpU_ok hg 120 (zpLine (zpN bs n) 0).1 (zpLine (zpN bs n) 0).2.1 q2
    rcases hl with ⟨c1, c2⟩ | ⟨c1, c2, c3, c4, c5⟩
    · exfalso
      have g := (zpF_no h' (by have := H.2.1; omega)).1
      rw [c1, show (120 : Nat) = 119 + 1 from rfl, zpU_s, if_neg (fun q => by cases q.1)] at g
      exact absurd (show true = false from g) (by decide)
    · have := c5 (zpU (zpN bs n) 120 (zpLine (zpN bs n) 0).1 (zpLine (zpN bs n) 0).2.1).2.2
      rw [if_neg (by decide)] at this
      exact this.symm
end ZM
end
section
/-! PART 46.924: law on both sides. Made by wip/v6/gen_lawop.py. -/
/-- t is as s in all that is told, and in all that is no int -/
def zUn (s t : zy_S) : Prop := t.2 = s.2 ∧ ∀ c k, zto c k = true → t.1 c k = s.1 c k
theorem zUn_refl (s : zy_S) : zUn s s := ⟨rfl, fun _ _ _ => rfl⟩
theorem zUn_up {s t : zy_S} {c k : Nat} {x : Int32} (h : zUn s t) (hc : zto c k = false) : zUn s (zy_up t c k x) := by
  refine ⟨h.1, fun a b hb => ?_⟩
  rw [zy_up_at, if_neg (fun q => by rw [q.1, q.2, hc] at hb; cases hb)]
  exact h.2 a b hb
theorem zUn_ua {s t : zy_S} {c : Nat} {f : Nat → Int32} (h : zUn s t) (hc : ∀ k, zto c k = false) : zUn s (zy_ua t c f) := by
  refine ⟨h.1, fun a b hb => ?_⟩
  rw [zy_ua_at, if_neg (fun q => by rw [q, hc b] at hb; cases hb)]
  exact h.2 a b hb
theorem zUn_both {s t : zy_S} {c k : Nat} {x : Int32} (h : zUn s t) : zUn (zy_up s c k x) (zy_up t c k x) := by
  refine ⟨h.1, fun a b hb => ?_⟩
  rw [zy_up_at, zy_up_at]
  split
  · rfl
  · exact h.2 a b hb
theorem zUn_bothA {s t : zy_S} {c : Nat} {f : Nat → Int32} (h : zUn s t) : zUn (zy_ua s c f) (zy_ua t c f) := by
  refine ⟨h.1, fun a b hb => ?_⟩
  rw [zy_ua_at, zy_ua_at]
  split
  · rfl
  · exact h.2 a b hb
theorem zself (s : zy_S) (c a b : Nat) : zy_up (zy_ua s c (s.1 c)) a b (s.1 a b) = s := by
  refine zxS (fun x y => ?_) rfl
  rw [zy_up_at, zy_ua_at]
  by_cases h : x = a ∧ y = b
  · rw [if_pos h, h.1, h.2]
  · rw [if_neg h]
    by_cases h2 : x = c
    · rw [if_pos h2, h2]
    · rw [if_neg h2]
theorem zI_un {s t : zy_S} (h : zI s) (u : zUn s t) (hg : zRg t) : zI t := by
  have hw : zy_Wb t = true := by
    have := h.1
    unfold zy_Wb at this ⊢
    rw [u.1]
    exact this
  exact zI_same h hw hg u.2 (fun d _ => by rw [u.1]) (by rw [u.1])
theorem zlrg : zrg 9 2 = (0, 120) ∧ zrg 9 3 = (0, 128) ∧ zrg 9 4 = (0, 120) ∧ zrg 9 5 = (0, 1) ∧ zrg 5 3 = (0, 128) ∧ zrn 11 = 128 ∧ zrn 6 = 128 ∧ (∀ k, k < 128 → zrg 11 k = (-255, 10005)) ∧ ∀ k, k < 128 → zrg 6 k = (-255, 10005) := by decide +kernel
theorem zlrm : zrg 43 9 = (0, 120) ∧ zrg 43 11 = (-1, 120) ∧ zrg 43 12 = (-1, 0) ∧ zrg 43 13 = (0, 120) ∧ zrg 43 14 = (0, 120) ∧ zrg 43 15 = (-1, 120) ∧ zrg 43 16 = (0, 6) ∧ zrn 49 = 120 ∧ zrn 48 = 120 ∧ (∀ k, k < 120 → zrg 49 k = (0, 255)) ∧ ∀ k, k < 120 → zrg 48 k = (0, 255) := by decide +kernel
theorem zto_9 : zto 9 3 = false ∧ zto 9 4 = false ∧ zto 9 5 = false ∧ zto 5 3 = true ∧ zto 43 11 = true ∧ zto 43 12 = false ∧ zto 43 13 = false ∧ zto 43 14 = false ∧ zto 43 15 = false ∧ zto 43 16 = false ∧ zto 43 9 = true := by decide +kernel
theorem zlzN {n : Nat} {m : Nat} (h : n ≤ m) (hm : m < 2147483647) : zin (Int32.ofNat n) 0 m := by
  unfold zin
  rw [zN_toInt (by omega)]
  omega
theorem zcW_un (s : zy_S) (a : Nat) (br : Bool) (C : List Int32) : zUn s (zcW s a br C) := by
  obtain ⟨t1, t2, t3, -⟩ := zto_9
  exact zUn_up (zUn_up (zUn_up (zUn_ua (zUn_refl s) (fun _ => rfl)) t1) t2) t3
theorem zcW_rg {s : zy_S} {a : Nat} {br : Bool} {C : List Int32} (h : zRg s) (ha : a ≤ 120) (hC : C.length ≤ 128) (hc : ∀ c ∈ C, zpC c) : zRg (zcW s a br C) := by
  obtain ⟨-, r3, r4, r5, -, n11, -, r11, -⟩ := zlrg
  unfold zcW
  refine zRg_upF (zRg_upF (zRg_upF (zRg_ua h (fun k hk => ?_)) r3 (zlzN hC (by decide))) r4 (zlzN ha (by decide))) r5 ?_
  · rw [n11] at hk
    rw [r11 k hk]
    cases e : C[k]? with
    | none =>
      have := h 11 k (by rw [n11]; exact hk)
      rw [r11 k hk] at this
      exact this
    | some c => exact hc c (List.mem_of_getElem? e)
  · cases br
    · exact ⟨by decide, by decide⟩
    · exact ⟨by decide, by decide⟩
theorem zmW_un {s t : zy_S} {a : Nat} {fl ov : Int32} (h : zUn s t) : zUn s (zmW t a fl ov) := by
  obtain ⟨-, -, -, -, -, -, t13, -, t15, t16, -⟩ := zto_9
  exact zUn_up (zUn_up (zUn_up h t13) t15) t16
theorem zmW_rg {t : zy_S} {a : Nat} {fl ov : Int32} (h : zRg t) (ha : a ≤ 120) (hf : zin fl (-1) 120) (ho : zin ov 0 6) : zRg (zmW t a fl ov) := by
  obtain ⟨-, -, -, r13, -, r15, r16, -⟩ := zlrm
  exact zRg_upF (zRg_upF (zRg_upF h r13 (zlzN ha (by decide))) r15 hf) r16 ho
theorem zpF_in {n : Nat} {q : Nat × Bool × List Int32} (h : q.1 ≤ n) (h120 : n ≤ 120) : zin (zpF n q) (-1) 120 := by
  unfold zpF zpf zin
  split
  · rw [zN_toInt (by omega)]
    omega
  · rw [zq_lm1]
    omega
/-- what law answers -/
def zlr (F : Int32) : Int32 := if F = -1 then 1 else (-100 : Int32) - F
/-- the letters of s's tape -/
def zlg (s : zy_S) : Nat → Int32 := zpN (s.1 10) (s.1 9 2).toNatClampNeg
theorem zlg_in {s : zy_S} (h18 : zin (s.1 9 2) 0 120) : s.1 9 2 = Int32.ofNat (s.1 9 2).toNatClampNeg ∧ (s.1 9 2).toNatClampNeg ≤ 120 := by
  obtain ⟨a, b⟩ := h18
  refine ⟨zq_ext ?_, by rw [zq_ix]; omega⟩
  rw [zN_toInt (by rw [zq_ix]; omega), zq_ix]
  omega
theorem zlg_G {s : zy_S} (h18 : zin (s.1 9 2) 0 120) (hb : ∀ p, p < 120 → zin (s.1 10 p) 0 255) : zpG (s.1 9 2).toNatClampNeg (zlg s) := by
  obtain ⟨-, h120⟩ := zlg_in h18
  refine ⟨fun j hj => if_neg (by omega), fun j hj => ?_⟩
  unfold zlg zpN
  rw [if_pos hj]
  exact hb j (by omega)
/-- the class's law: its answer, what it leaves; and the steps -/
theorem zlaw_c {s : zy_S} (hr : zRg s) (h18 : zin (s.1 9 2) 0 120) (hb : ∀ p, p < 120 → zin (s.1 10 p) 0 255) : ∃ t, zyF36 s = some (zlr (zpF (s.1 9 2).toNatClampNeg (zpT (zlg s))), t) ∧ zRg t ∧ zUn (zy_up (zy_up (zy_ua s 6 (t.1 6)) 5 3 (t.1 5 3)) 9 2 0) t ∧
    (zpF (s.1 9 2).toNatClampNeg (zpT (zlg s)) = -1 → t.1 5 3 = Int32.ofNat (zpT (zlg s)).2.2.length ∧ ∀ (j : Nat) (c : Int32), (zpT (zlg s)).2.2[j]? = some c → t.1 6 j = c) ∧
    (zpF (s.1 9 2).toNatClampNeg (zpT (zlg s)) ≠ -1 → t.1 5 3 = s.1 5 3 ∧ t.1 6 = s.1 6) := by
  obtain ⟨hn, h120⟩ := zlg_in h18
  have hg := zlg_G h18 hb
  obtain ⟨k1, k2, k3⟩ := zpT_ok hg
  have e := zys37 (s := s) hn h120 hg
  obtain ⟨r2, r3, r4, r5, r53, n11, n6, r11, r6⟩ := zlrg
  obtain ⟨t1, t2, t3, t53, -⟩ := zto_9
  change zyF37 s = some (zpF _ (zpT (zlg s)), zcW s (zpT (zlg s)).1 (zpT (zlg s)).2.1 (zpT (zlg s)).2.2) at e
  obtain ⟨q, hq⟩ : ∃ q, q = zpT (zlg s) := ⟨_, rfl⟩
  rw [← hq] at k1 k2 k3 e ⊢
  obtain ⟨n, hnn⟩ : ∃ n, n = (s.1 9 2).toNatClampNeg := ⟨_, rfl⟩
  rw [← hnn] at k1 h120 e ⊢
  have hW := zcW_rg (s := s) (a := q.1) (br := q.2.1) (C := q.2.2) hr (by omega) (by omega) k3
  have hU := zcW_un s q.1 q.2.1 q.2.2
  have z0 : zin (0 : Int32) 0 120 := ⟨by decide, by decide⟩
  unfold zyF36 zyF36_34 zyF49
  rw [e, zq_bind]
  dsimp only
  by_cases hF : zpF n q = -1
  · have hcp : zy_cpB 0 0 (Int32.ofNat q.2.2.length) 128 128 = true := decide_eq_true ⟨by decide, by decide, by rw [zN_toInt (by omega)]; omega, by rw [zN_toInt (by omega), zq_l0]; omega, by rw [zN_toInt (by omega), zq_l0]; omega⟩
    have hL : (zcW s q.1 q.2.1 q.2.2).1 9 3 = Int32.ofNat q.2.2.length := rfl
    refine ⟨zy_up (zy_up (zy_ua (zcW s q.1 q.2.1 q.2.2) 6 (va_cpy ((zcW s q.1 q.2.1 q.2.2).1 11) ((zcW s q.1 q.2.1 q.2.2).1 6) 0 0 q.2.2.length)) 5 3 (Int32.ofNat q.2.2.length)) 9 2 0, ?_, ?_, ?_, fun _ => ⟨rfl, fun j c hj => ?_⟩, fun w => absurd hF w⟩
    · unfold zyF48 zlr
      rw [if_neg (not_not_intro hF), hL, if_pos hcp, zq_bind, zN_ix (by omega), zq_bind, if_neg (not_not_intro hF), if_pos hF]
    · refine zRg_upF (zRg_upF (zRg_ua hW (fun k hk => ?_)) r53 (zlzN (m := 128) (by omega) (by decide))) r2 z0
      rw [n6] at hk
      rw [r6 k hk]
      unfold va_cpy
      by_cases c : 0 ≤ k ∧ k < 0 + q.2.2.length
      · rw [if_pos c]
        have := hW 11 (0 + (k - 0)) (by rw [n11]; omega)
        rw [r11 _ (by omega)] at this
        exact this
      · rw [if_neg c]
        have := hW 6 k (by rw [n6]; exact hk)
        rw [r6 k hk] at this
        exact this
    · exact zUn_both (zUn_both (zUn_bothA hU))
    · show va_cpy ((zcW s q.1 q.2.1 q.2.2).1 11) ((zcW s q.1 q.2.1 q.2.2).1 6) 0 0 q.2.2.length j = c
      have hj2 : j < q.2.2.length := (List.getElem?_eq_some_iff.mp hj).1
      unfold va_cpy
      rw [if_pos (by omega), show 0 + (j - 0) = j by omega]
      show (q.2.2[j]?).getD (s.1 11 j) = c
      rw [hj]
      try rfl
  · refine ⟨zy_up (zcW s q.1 q.2.1 q.2.2) 9 2 0, ?_, zRg_upF hW r2 z0, ?_, fun w => absurd w hF, fun _ => ⟨rfl, rfl⟩⟩
    · unfold zlr
      rw [if_pos hF, zq_bind, if_pos hF, if_neg hF]
    · show zUn (zy_up (zy_up (zy_ua s 6 (s.1 6)) 5 3 (s.1 5 3)) 9 2 0) _
      rw [zself]
      exact zUn_both hU
/-- the row 49 up to i as the row 48 -/
def zmX (u : zy_S) (i : Nat) : zy_S := zy_ua u 49 (fun j => if j < i then u.1 48 j else u.1 49 j)
theorem zmX_s {u : zy_S} {i : Nat} (hi : i < 120) : zy_up (zmX u i) 49 (Int32.ofNat i).toNatClampNeg ((zmX u i).1 48 (Int32.ofNat i).toNatClampNeg) = zmX u (i + 1) := by
  rw [zN_ix (by omega), show (zmX u i).1 48 i = u.1 48 i from rfl]
  unfold zmX
  refine zxS (fun x y => ?_) rfl
  rw [zy_up_at, zy_ua_at, zy_ua_at]
  by_cases h : x = 49 ∧ y = i
  · rw [if_pos h, if_pos h.1, if_pos (by omega), h.2]
  · rw [if_neg h]
    by_cases h9 : x = 49
    · rw [if_pos h9, if_pos h9]
      by_cases hy : y < i
      · rw [if_pos hy, if_pos (by omega)]
      · rw [if_neg hy, if_neg (by omega)]
    · rw [if_neg h9, if_neg h9]
theorem zl_190 {u : zy_S} {n : Nat} (hn : n ≤ 120) : ∀ (m i : Nat), i ≤ n → n - i < m → zyF190_37 m (Int32.ofNat n) (Int32.ofNat i) (zmX u i) = some (1, zy_up (zmX u n) 43 11 (Int32.ofNat n))
  | 0, i, hi, hm => by omega
  | m + 1, i, hi, hm => by
    show zyF190_37b (zyF190_37 m) (Int32.ofNat n) (Int32.ofNat i) (zmX u i) = _
    unfold zyF190_37b
    by_cases h : i = n
    · rw [if_pos (by rw [Int32.le_iff_toInt_le, zN_toInt (by omega), zN_toInt (by omega)]; omega), h]
    · have hin : zy_in (Int32.ofNat i) 120 = true := zq_in.mpr (by rw [zN_toInt (by omega)]; omega)
      rw [if_neg (by rw [Int32.le_iff_toInt_le, zN_toInt (by omega), zN_toInt (by omega)]; omega), if_pos hin, if_pos hin, zmX_s (by omega), zN_succ (by omega)]
      exact zl_190 hn m (i + 1) (by omega) (by omega)
/-- the model's law: its answer, what it leaves; and the text -/
theorem zlaw_m {u : zy_S} (hr : zRg u) {n : Nat} (h120 : n ≤ 120) (hn : u.1 43 9 = Int32.ofNat n) {g : Nat → Int32} (eg : g = zpN (u.1 48) n) (hg : zpG n g) : ∃ t, zyF190 u = some (zlr (zpF n (zpT g)), t) ∧ zRg t ∧ zUn (zy_up (zy_ua (zy_up u 43 9 0) 49 (t.1 49)) 43 11 (t.1 43 11)) t ∧
    (zpF n (zpT g) = -1 → t.1 43 11 = Int32.ofNat n ∧ ∀ j, j < n → t.1 49 j = u.1 48 j) ∧ (zpF n (zpT g) ≠ -1 → t.1 43 11 = u.1 43 11 ∧ t.1 49 = u.1 49) := by
  subst eg
  obtain ⟨r9, r11, r12, r13, r14, r15, r16, n49, n48, r49, r48⟩ := zlrm
  obtain ⟨-, -, -, -, t11, t12, t13, t14, t15, t16, -⟩ := zto_9
  obtain ⟨k1, k2, k3⟩ := zpT_ok hg
  have H : zmH (zy_up (zy_up u 43 12 (-1)) 43 14 (u.1 43 9)) n (u.1 48) := ⟨hn, h120, Or.inl ⟨by show (-1 : Int32).toInt < 0; decide, rfl⟩⟩
  obtain ⟨v, ov, e, ho, -⟩ := zys191 (nm := u.1 50) (u := u) (x1 := -1) (x2 := u.1 43 9) rfl H hg
  obtain ⟨q, hq⟩ : ∃ q, q = zpT (zpN (u.1 48) n) := ⟨_, rfl⟩
  rw [← hq] at k1 k2 k3 e ⊢
  obtain ⟨V, hV⟩ : ∃ V, V = zmW (zy_up (zy_up u 43 12 (-1)) 43 14 (u.1 43 9)) q.1 (zpF n q) ov := ⟨_, rfl⟩
  rw [← hV] at e
  have z0 : zin (0 : Int32) 0 120 := ⟨by decide, by decide⟩
  have e15 : V.1 43 15 = zpF n q := by rw [hV]; rfl
  have e9 : V.1 43 9 = Int32.ofNat n := by rw [hV]; exact hn
  have e11 : V.1 43 11 = u.1 43 11 := by rw [hV]; rfl
  have e48 : V.1 48 = u.1 48 := by rw [hV]; rfl
  have e49 : V.1 49 = u.1 49 := by rw [hV]; rfl
  have fin := zpF_in (n := n) (q := q) k1 h120
  have gV : zRg V := by
    rw [hV]
    refine zmW_rg (zRg_upF (zRg_upF hr r12 ⟨by decide, by decide⟩) r14 ?_) (by omega) fin ho
    rw [hn]
    exact zlzN h120 (by decide)
  have uV : zUn u V := by
    rw [hV]
    exact zmW_un (zUn_up (zUn_up (zUn_refl u) t12) t14)
  have gV0 : zRg (zy_up V 43 9 0) := zRg_upF gV r9 z0
  unfold zyF190
  rw [e, zq_bind]
  dsimp only
  rw [e15]
  by_cases hF : zpF n q = -1
  · rw [hF, if_pos (by decide), e9]
    have e0 : zy_up V 43 9 0 = zmX (zy_up V 43 9 0) 0 := by
      unfold zmX
      refine zxS (fun x y => ?_) rfl
      rw [zy_ua_at]
      by_cases h : x = 49
      · rw [if_pos h, if_neg (by omega), h]
      · rw [if_neg h]
    have l := zl_190 (u := zy_up V 43 9 0) h120 zy_fu 0 (Nat.zero_le _) (by unfold zy_fu; omega)
    rw [← e0] at l
    refine ⟨zy_up (zmX (zy_up V 43 9 0) n) 43 11 (Int32.ofNat n), ?_, ?_, ?_, fun _ => ⟨rfl, fun j hj => ?_⟩, fun w => absurd rfl w⟩
    · exact l
    · refine zRg_upF (zRg_ua gV0 (fun k hk => ?_)) r11 ?_
      · rw [n49] at hk
        rw [r49 k hk]
        by_cases c : k < n
        · rw [if_pos c]
          have := gV 48 k (by rw [n48]; exact hk)
          rw [r48 k hk] at this
          exact this
        · rw [if_neg c]
          have := gV 49 k (by rw [n49]; exact hk)
          rw [r49 k hk] at this
          exact this
      · have := zlzN h120 (by decide)
        exact ⟨by have := this.1; omega, this.2⟩
    · exact zUn_both (zUn_bothA (zUn_both uV))
    · show (if j < n then V.1 48 j else V.1 49 j) = u.1 48 j
      rw [if_pos hj, e48]
  · have hpos : ¬ zpF n q < 0 := by
      rw [Int32.lt_iff_toInt_lt, zq_l0]
      have : ¬ (zpF n q).toInt = -1 := fun w => hF (zq_ext w)
      have := fin.1
      omega
    rw [if_neg hpos]
    refine ⟨zy_up V 43 9 0, ?_, gV0, ?_, fun w => absurd w hF, fun _ => ⟨e11, e49⟩⟩
    · unfold zlr
      rw [if_neg hF]
    · have a49 : (zy_up V 43 9 0).1 49 = (zy_up u 43 9 0).1 49 := e49
      have a11 : (zy_up V 43 9 0).1 43 11 = (zy_up u 43 9 0).1 43 11 := e11
      rw [a49, a11, zself]
      exact zUn_both uV
theorem zop_law {s : zy_S} (h : zI s) : ∃ r s1 s2, zyF36 s = some (r, s1) ∧ zyF190 s1 = some (r, s2) ∧ zI s2 := by
  obtain ⟨hw, hg, h1, h2, h3, h4, h5, h6, h7, h8, h9, h10, h11, h12, h13, h14, h15, h16, h17, h18, h19, h20, h21⟩ := id h
  obtain ⟨e18, l0, l1⟩ := id h18
  have hb : ∀ p, p < 120 → zin (s.1 10 p) 0 255 := fun p hp => (h19.1 p hp).2
  obtain ⟨t, f1, g1, u1, p1, q1⟩ := zlaw_c hg ⟨l0, l1⟩ hb
  obtain ⟨hn, h120⟩ := zlg_in (s := s) ⟨l0, l1⟩
  have t9 : t.1 43 9 = s.1 43 9 := u1.2 43 9 rfl
  have t48 : ∀ k, t.1 48 k = s.1 48 k := fun k => u1.2 48 k rfl
  have e9 : t.1 43 9 = Int32.ofNat (s.1 9 2).toNatClampNeg := by
    rw [t9, ← hn]
    exact e18.symm
  have e48 : zlg s = zpN (t.1 48) (s.1 9 2).toNatClampNeg := by
    unfold zlg
    funext a
    unfold zpN
    by_cases c : a < (s.1 9 2).toNatClampNeg
    · rw [if_pos c, if_pos c, (h19.1 a (by omega)).1, t48]
    · rw [if_neg c, if_neg c]
  obtain ⟨w, f2, g2, u2, p2, q2⟩ := zlaw_m g1 h120 e9 e48 (zlg_G ⟨l0, l1⟩ hb)
  have z0 : zin (0 : Int32) 0 120 := ⟨by decide, by decide⟩
  obtain ⟨r2, -⟩ := zlrg
  obtain ⟨r9, -⟩ := zlrm
  have law : zLw (t.1 5 3) (w.1 43 11) (t.1 6) (w.1 49) := by
    by_cases hF : zpF (s.1 9 2).toNatClampNeg (zpT (zlg s)) = -1
    · obtain ⟨a1, a2⟩ := p1 hF
      obtain ⟨b1, b2⟩ := p2 hF
      have eg : zpN (w.1 49) (s.1 9 2).toNatClampNeg = zlg s := by
        rw [e48]
        funext a
        unfold zpN
        by_cases c : a < (s.1 9 2).toNatClampNeg
        · rw [if_pos c, if_pos c, b2 a c]
        · rw [if_neg c, if_neg c]
      refine Or.inr ⟨(s.1 9 2).toNatClampNeg, b1, h120, ?_⟩
      rw [eg]
      exact ⟨zlg_G ⟨l0, l1⟩ hb, hF, a1, a2⟩
    · obtain ⟨a1, a2⟩ := q1 hF
      obtain ⟨b1, b2⟩ := q2 hF
      have c1 : t.1 43 11 = s.1 43 11 := u1.2 43 11 rfl
      have c2 : t.1 49 = s.1 49 := funext fun k => u1.2 49 k rfl
      rw [a1, a2, b1, b2, c1, c2]
      exact h19.2
  have sh : ∀ d, d < 6 → ∀ j, (zy_up (zy_ua (zy_up (zy_up (zy_up (zy_ua s 6 (t.1 6)) 5 3 (t.1 5 3)) 9 2 0) 43 9 0) 49 (w.1 49)) 43 11 (w.1 43 11)).1 (zy_sh d) j = s.1 (zy_sh d) j := fun d hd j => by rw [zf_sh (by decide) hd, zf_sha (by decide) hd, zf_sh (by decide) hd, zf_sh (by decide) hd, zf_sh (by decide) hd, zf_sha (by decide) hd]
  refine ⟨_, t, w, f1, f2, zI_un (s := zy_up (zy_ua (zy_up (zy_up (zy_up (zy_ua s 6 (t.1 6)) 5 3 (t.1 5 3)) 9 2 0) 43 9 0) 49 (w.1 49)) 43 11 (w.1 43 11)) ?_ ?_ g2⟩
  · refine ⟨hw, zRg_up (zRg_ua (zRg_upF (zRg_upF (zRg_up (zRg_ua hg (fun k hk => g1 6 k hk)) (fun hk => g1 5 3 hk)) r2 z0) r9 z0) (fun k hk => g2 49 k hk)) (fun hk => g2 43 11 hk), h1, h2, h3, h4, h5, h6, h7, h8, h9, h10, h11, h12, h13, h14, h15, h16, h17, ⟨rfl, z0⟩, ⟨h19.1, law⟩, zR20_of h20 rfl sh (fun d hd => rfl) (fun d hd => rfl), zR21_of h21 sh rfl⟩
  · have b1 := zUn_both (c := 43) (k := 11) (x := w.1 43 11) (zUn_bothA (c := 49) (f := w.1 49) (zUn_both (c := 43) (k := 9) (x := 0) u1))
    exact ⟨u2.1.trans b1.1, fun c k hc => (u2.2 c k hc).trans (b1.2 c k hc)⟩
end
