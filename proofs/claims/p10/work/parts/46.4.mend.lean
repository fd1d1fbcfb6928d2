/-! PART 46.4: mend. Made by wip/v4/gen_mend2.py. -/
/-- cells that a change of the town leaves -/
def zmn (a : Nat) : Prop := a = 0 ∨ (5 ≤ a ∧ a < 22) ∨ (27 ≤ a ∧ a < 43) ∨ 48 ≤ a
theorem zmn_sh {d : Nat} (h : d < 6) : zmn (zy_sh d) := by unfold zmn zy_sh; omega
theorem zI_mend {s t : zy_S} (h : zI s) (ht2 : t.2 = s.2) (hgt : zRg t) (e : ∀ a b, zmn a → t.1 a b = s.1 a b) (e1 : ∀ b, b ≠ 4 → t.1 1 b = s.1 1 b) (e43 : ∀ b, b ≠ 4 → b ≠ 5 → t.1 43 b = s.1 43 b)
    (q2 : zR2 t) (q3 : zR3 t) (q4 : zR4 t) (q5 : zR5 t) (q12 : zR12 t) (q13 : zR13 t) : zI t := by
  obtain ⟨hw, hg, h1, h2, h3, h4, h5, h6, h7, h8, h9, h10, h11, h12, h13, h14, h15, h16, h17, h18, h19, h20, h21⟩ := h
  have hw' : zy_Wb t = true := by
    unfold zy_Wb
    rw [ht2]
    exact hw
  refine ⟨hw', hgt, ?_, ?_, ?_, ?_, ?_, ?_, ?_, ?_, ?_, ?_, ?_, ?_, ?_, ?_, ?_, ?_, ?_, ?_, ?_, ?_, ?_⟩
  · unfold zR1
    rw [e1 5 (by decide), e43 6 (by decide) (by decide)]
    exact h1
  · exact q2
  · exact q3
  · exact q4
  · exact q5
  · unfold zR6
    rw [e1 3 (by decide), e43 7 (by decide) (by decide)]
    exact h6
  · unfold zR7
    intro p hp
    rw [e 18 p (by unfold zmn; omega), e 54 p (by unfold zmn; omega)]
    exact h7 p hp
  · unfold zR8
    rw [e 17 2 (by unfold zmn; omega), e43 22 (by decide) (by decide), e 17 3 (by unfold zmn; omega), e43 24 (by decide) (by decide), e 17 4 (by unfold zmn; omega), e43 23 (by decide) (by decide), e1 5 (by decide)]
    exact h8
  · intro p hp
    rw [e 17 4 (by unfold zmn; omega)] at hp
    rw [e 20 p (by unfold zmn; omega), e 55 p (by unfold zmn; omega)]
    exact h9 p hp
  · unfold zR10
    intro p hp
    rw [e 19 p (by unfold zmn; omega), e 56 p (by unfold zmn; omega)]
    exact h10 p hp
  · unfold zR11
    intro p hp
    rw [e 21 p (by unfold zmn; omega), e 57 p (by unfold zmn; omega)]
    exact h11 p hp
  · exact q12
  · exact q13
  · unfold zR14
    rw [e 27 2 (by unfold zmn; omega), e43 28 (by decide) (by decide)]
    exact h14
  · unfold zR15
    intro p hp
    rw [e 28 p (by unfold zmn; omega), e 58 p (by unfold zmn; omega)]
    exact h15 p hp
  · unfold zR16
    rw [e 27 3 (by unfold zmn; omega), e43 31 (by decide) (by decide)]
    exact h16
  · unfold zR17
    intro p hp
    rw [e 29 p (by unfold zmn; omega), e 59 p (by unfold zmn; omega)]
    exact h17 p hp
  · unfold zR18
    rw [e 9 2 (by unfold zmn; omega), e43 9 (by decide) (by decide)]
    exact h18
  · unfold zR19
    refine ⟨fun p hp => ?_, ?_⟩
    · rw [e 10 p (by unfold zmn; omega), e 48 p (by unfold zmn; omega)]
      exact h19.1 p hp
    · rw [e 5 3 (by unfold zmn; omega), e43 11 (by decide) (by decide), show t.1 6 = s.1 6 from funext fun k => e 6 k (by unfold zmn; omega), show t.1 49 = s.1 49 from funext fun k => e 49 k (by unfold zmn; omega)]
      exact h19.2
  · intro d hd
    rw [e 27 2 (by unfold zmn; omega), e _ _ (zmn_sh hd), e _ _ (zmn_sh hd), e _ _ (zmn_sh hd), e 60 d (by unfold zmn; omega), e 61 d (by unfold zmn; omega)]
    exact h20 d hd
  · intro d hd j hj
    rw [e _ _ (zmn_sh hd), ht2]
    exact h21 d hd j hj
theorem zrg_fuJ : ∀ a, a ∈ [2, 3, 4, 23, 24, 25, 26, 45, 46, 47] → ∀ b, b < zrn a → zrg a b = (-2147483648, 2147483647) := by decide +kernel
theorem zrg_22 : ∀ b, b < zrn 22 → zrg 22 b = if b < 5 then (-2147483648, 2147483647) else (0, 40) := by decide +kernel
theorem zrg_44 : ∀ b, b < zrn 44 → zrg 44 b = if b = 40 then (1, 9) else (-2147483648, 2147483647) := by decide +kernel
theorem zrg_43 : zrg 43 4 = (0, 40) ∧ zrg 43 5 = (0, 40) ∧ zrg 1 4 = (-2147483648, 2147483647) ∧ zrn 22 = 7 := by decide +kernel
theorem zRg_mend {s t : zy_S} (hg : zRg s) (e : ∀ a b, zmn a → t.1 a b = s.1 a b) (e1 : ∀ b, b ≠ 4 → t.1 1 b = s.1 1 b) (e43 : ∀ b, b ≠ 4 → b ≠ 5 → t.1 43 b = s.1 43 b) (q5 : zR5 t) (q12 : zR12 t) : zRg t := by
  intro a b hb
  obtain ⟨c1, c2, c3, c4⟩ := zrg_43
  obtain ⟨j1, j2, j3, j4, j5⟩ := q12
  by_cases hz : zmn a
  · rw [e a b hz]
    exact hg a b hb
  · by_cases hm : a ∈ [2, 3, 4, 23, 24, 25, 26, 45, 46, 47]
    · rw [zrg_fuJ a hm b hb]
      exact zin_full _
    · have ha : a = 1 ∨ a = 22 ∨ a = 43 ∨ a = 44 := by
        unfold zmn at hz
        simp only [List.mem_cons, List.not_mem_nil, or_false, not_or] at hm
        omega
      rcases ha with rfl | rfl | rfl | rfl
      · by_cases hb4 : b = 4
        · subst hb4
          rw [c3]
          exact zin_full _
        · rw [e1 b hb4]
          exact hg 1 b hb
      · rw [zrg_22 b hb]
        by_cases hb5 : b < 5
        · rw [if_pos hb5]; exact zin_full _
        · rw [if_neg hb5]
          rw [c4] at hb
          rcases (by omega : b = 5 ∨ b = 6) with rfl | rfl
          · exact ⟨by show 0 ≤ _; omega, by show _ ≤ (40 : Int); omega⟩
          · exact ⟨by show 0 ≤ _; omega, by show _ ≤ (40 : Int); omega⟩
      · by_cases h4 : b = 4
        · subst h4
          rw [c1, ← j2]
          exact ⟨by show 0 ≤ _; omega, by show _ ≤ (40 : Int); omega⟩
        · by_cases h5 : b = 5
          · subst h5
            rw [c2, ← j1]
            exact ⟨by show 0 ≤ _; omega, by show _ ≤ (40 : Int); omega⟩
          · rw [e43 b h4 h5]
            exact hg 43 b hb
      · rw [zrg_44 b hb]
        by_cases h40 : b = 40
        · subst h40
          rw [if_pos rfl, ← q5.1]
          exact q5.2
        · rw [if_neg h40]
          exact zin_full _
/-- the class's place c, k is the model's place q -/
def zPl (c k q : Nat) : Prop := (c = 3 ∧ k < 8 ∧ q = k) ∨ (c = 4 ∧ k < 8 ∧ q = 8 + k) ∨ (c = 2 ∧ k < 24 ∧ q = 16 + k) ∨ (c = 1 ∧ k = 4 ∧ q = 40)
def zPv (c : Nat) (v : Int32) : Prop := (c = 3 → zin v 0 4095) ∧ (c = 4 → zin v 0 9) ∧ (c = 2 → zin v 0 9) ∧ (c = 1 → zin v 1 9)
theorem zPl_e {c k q : Nat} {s : zy_S} (hp : zPl c k q) (h : zI s) : s.1 c k = s.1 44 q := by
  obtain ⟨hw, hg, h1, h2, h3, h4, h5, h6, h7, h8, h9, h10, h11, h12, h13, h14, h15, h16, h17, h18, h19, h20, h21⟩ := h
  rcases hp with ⟨rfl, hk, rfl⟩ | ⟨rfl, hk, rfl⟩ | ⟨rfl, hk, rfl⟩ | ⟨rfl, rfl, rfl⟩
  · exact (h2 _ hk).1
  · exact (h3 _ hk).1
  · exact (h4 _ hk).1
  · exact h5.1
/-- the town's rows, one place changed on both sides -/
theorem zPl_R {c k q : Nat} {v : Int32} {s t : zy_S} (hp : zPl c k q) (hv : zPv c v) (h2 : zR2 s) (h3 : zR3 s) (h4 : zR4 s) (h5 : zR5 s)
    (e3 : ∀ p, t.1 3 p = if 3 = c ∧ p = k then v else s.1 3 p) (e4 : ∀ p, t.1 4 p = if 4 = c ∧ p = k then v else s.1 4 p) (e2 : ∀ p, t.1 2 p = if 2 = c ∧ p = k then v else s.1 2 p) (e1 : t.1 1 4 = if 1 = c ∧ 4 = k then v else s.1 1 4) (e44 : ∀ p, t.1 44 p = if p = q then v else s.1 44 p) : zR2 t ∧ zR3 t ∧ zR4 t ∧ zR5 t := by
  obtain ⟨v3, v4, v2, v1⟩ := hv
  have hb : ∀ {C Q : Prop} [Decidable C] [Decidable Q] (x y : Int32) (lo hi : Int), (C ↔ Q) → (C → zin v lo hi) → x = y ∧ zin x lo hi → (if C then v else x) = (if Q then v else y) ∧ zin (if C then v else x) lo hi := by
    intro C Q _ _ x y lo hi hcq hv hx
    by_cases hC : C
    · rw [if_pos hC, if_pos (hcq.mp hC)]
      exact ⟨rfl, hv hC⟩
    · rw [if_neg hC, if_neg (fun w => hC (hcq.mpr w))]
      exact hx
  refine ⟨?_, ?_, ?_, ?_⟩
  · intro p hk
    rw [e3, e44]
    exact hb _ _ _ _ (by unfold zPl at hp; omega) (fun w => v3 w.1.symm) (h2 p hk)
  · intro p hk
    rw [e4, e44]
    exact hb _ _ _ _ (by unfold zPl at hp; omega) (fun w => v4 w.1.symm) (h3 p hk)
  · intro p hk
    rw [e2, e44]
    exact hb _ _ _ _ (by unfold zPl at hp; omega) (fun w => v2 w.1.symm) (h4 p hk)
  · unfold zR5
    rw [e1, e44]
    exact hb _ _ _ _ (by unfold zPl at hp; omega) (fun w => v1 w.1.symm) h5
theorem zop_mendC {c k : Nat} {q w n v : Int32} {s : zy_S} (h : zI s) (hp : zPl c k q.toNatClampNeg) (hq : zy_in q 41 = true) (hv : zPv c v) (hr : zRow (s.1 1 5) w n (s.1 c k) v q (s.1 c k) v)
    (f27 : zyF27 w n s = some (s.1 c k, s)) (f28 : zyF28 w n v s = some (0, zy_up s c k v)) :
    ∃ s1 s2, (if s.1 c k = v then some (s.1 c k, s) else (zyF28 w n v s).bind fun p4 => (zyF29 w n (s.1 c k) v p4.2).bind fun p5 => some (s.1 c k, p5.2)) = some (s.1 c k, s1) ∧ zyF187 q v s1 = some (s.1 c k, s2) ∧ s1.1 43 6 = s.1 43 6 ∧ zI s2 := by
  have hc : c = 1 ∨ c = 2 ∨ c = 3 ∨ c = 4 := by unfold zPl at hp; omega
  have hc1 : c = 1 → k = 4 := by unfold zPl at hp; omega
  have ee := zPl_e hp h
  by_cases hsame : s.1 c k = v
  · rw [if_pos hsame]
    refine ⟨s, s, rfl, ?_, rfl, h⟩
    rw [zys187_s q v hq (ee.symm.trans hsame), hsame]
  · obtain ⟨hw, hg, h1, h2, h3, h4, h5, h6, h7, h8, h9, h10, h11, h12, h13, h14, h15, h16, h17, h18, h19, h20, h21⟩ := id h
    obtain ⟨j1, j2, j3, j4, j5⟩ := id h12
    rw [if_neg hsame, f28, zq_bind]
    have o22 : ∀ b, (zy_up s c k v).1 22 b = s.1 22 b := fun b => zf_up (by omega)
    obtain ⟨s1, g0, g1, g2, g3, g4, g5, g6⟩ := zys29 w n (s.1 c k) v (s := zy_up s c k v) (by rw [o22]; exact j3) (by rw [o22]; omega)
    rw [o22] at g4 g5 g6
    have m43 : ∀ b, s1.1 43 b = s.1 43 b := fun b => by rw [g2 43 b (by decide) (by decide) (by decide) (by decide) (by decide), zf_up (by omega)]
    have m44 : ∀ b, s1.1 44 b = s.1 44 b := fun b => by rw [g2 44 b (by decide) (by decide) (by decide) (by decide) (by decide), zf_up (by omega)]
    have mrow : ∀ a b, a = 45 ∨ a = 46 ∨ a = 47 → s1.1 a b = s.1 a b := fun a b ha => by rw [g2 a b (by omega) (by omega) (by omega) (by omega) (by omega), zf_up (by omega)]
    obtain ⟨s2, k0, k1, k2, k3, k4, k5, k6, k7⟩ := zys187 q v (s := s1) (by rw [m43, ← j1]; exact j3) (by rw [m43, ← j1]; omega) hq (by rw [m44, ← ee]; exact hsame)
    rw [m44, ← ee] at k0 k7
    rw [m43] at k5 k6 k7
    refine ⟨s1, s2, by rw [g0]; rfl, k0, m43 6, ?_⟩
    have e : ∀ a b, zmn a → s2.1 a b = s.1 a b := by
      intro a b ha
      unfold zmn at ha
      rw [k2 a b (by omega) (by omega) (by omega) (by omega) (by omega), g2 a b (by omega) (by omega) (by omega) (by omega) (by omega), zf_up (by omega)]
    have e0 : ∀ a b, a < 5 → s2.1 a b = (zy_up s c k v).1 a b := by
      intro a b ha
      rw [k2 a b (by omega) (by omega) (by omega) (by omega) (by omega), g2 a b (by omega) (by omega) (by omega) (by omega) (by omega)]
    have eJ : ∀ a b, 22 ≤ a → a < 27 → s2.1 a b = s1.1 a b := fun a b ha hb => k2 a b (by omega) (by omega) (by omega) (by omega) (by omega)
    have e1 : ∀ b, b ≠ 4 → s2.1 1 b = s.1 1 b := by
      intro b hb
      rw [e0 1 b (by decide), zy_up_at, if_neg (by omega)]
    have e43 : ∀ b, b ≠ 4 → b ≠ 5 → s2.1 43 b = s.1 43 b := by
      intro b h4 h5
      rw [k3 b h4 h5, m43]
    obtain ⟨q2, q3, q4, q5⟩ := zPl_R (t := s2) hp hv h2 h3 h4 h5 (fun p => by rw [e0 3 p (by decide), zy_up_at]) (fun p => by rw [e0 4 p (by decide), zy_up_at]) (fun p => by rw [e0 2 p (by decide), zy_up_at]) (by rw [e0 1 4 (by decide), zy_up_at]) (fun p => by rw [k4 p, m44])
    have ju : zju (s.1 22 5) = zju (s.1 43 5) := by rw [j1]
    have js : zjs (s.1 22 5) = zjs (s.1 43 5) := by rw [j1]
    have jb : zju (s.1 22 5) ≤ 39 ∧ ∀ p, p < zju (s.1 22 5) → ((p + zjs (s.1 22 5) : Nat) : Int) < (s.1 22 5).toInt := by
      unfold zju zjs
      by_cases hu : (s.1 22 5).toInt = 40
      · rw [if_pos hu, if_pos hu]
        exact ⟨by omega, fun p hp => by omega⟩
      · rw [if_neg hu, if_neg hu, zq_ix]
        exact ⟨by omega, fun p hp => by omega⟩
    have q12 : zR12 s2 := by
      unfold zR12
      rw [eJ 22 5 (by decide) (by decide), eJ 22 6 (by decide) (by decide)]
      rw [← ju] at k5 k6
      refine ⟨zq_ext (g4.trans k5.symm), zq_ext (g5.trans k6.symm), by omega, by omega, by omega⟩
    have q13 : zR13 s2 := by
      intro p hp6
      rw [eJ 22 6 (by decide) (by decide)] at hp6
      have hpu : p ≤ zju (s.1 22 5) := by omega
      obtain ⟨a1, a2, a3, a4⟩ := g6 p hpu
      obtain ⟨b1, b2, b3⟩ := k7 p (by rw [← ju]; exact hpu)
      rw [e1 5 (by decide), eJ 23 p (by decide) (by decide), eJ 24 p (by decide) (by decide), eJ 25 p (by decide) (by decide), eJ 26 p (by decide) (by decide), a1, a2, a3, a4, b1, b2, b3, ← ju, ← js]
      by_cases hpe : p = zju (s.1 22 5)
      · rw [if_pos hpe, if_pos hpe, if_pos hpe, if_pos hpe, if_pos hpe, if_pos hpe, if_pos hpe]
        exact hr
      · rw [if_neg hpe, if_neg hpe, if_neg hpe, if_neg hpe, if_neg hpe, if_neg hpe, if_neg hpe, mrow 45 _ (by omega), mrow 46 _ (by omega), mrow 47 _ (by omega), zf_up (by omega), zf_up (by omega), zf_up (by omega), zf_up (by omega)]
        have := jb.2 p (by omega)
        exact h13 _ (by omega)
    exact zI_mend h (k1.trans g1) (zRg_mend hg e e1 e43 q5 q12) e e1 e43 q2 q3 q4 q5 q12 q13
theorem zys25_32 (n : Int32) (s : zy_S) : zyF25_32 n s = some (zqb (decide (0 ≤ n.toInt ∧ n.toInt < (s.1 1 5).toInt)), s) := by
  unfold zyF25_32
  simp only [ne_eq, zq_eq, Int32.lt_iff_toInt_lt, Int32.le_iff_toInt_le, zq_l0, zq_lm1, zq_l1, zq_l2, zq_l3, zq_l4, zq_l5, zq_l6, zq_l7, zq_l8, zq_l9, zq_l12, zq_l16, zq_l23, zq_l24, zq_l40, zq_l39, zq_l50, zq_l51, zq_l60, zq_l120, zq_l128, zq_l255, zq_l4095, zq_l4096]
  refine zqb_d (x := 0) (fun h => ?_) (fun h => ?_)
  all_goals
    repeat' split
  all_goals first | rfl | (exfalso; omega)
theorem zys25_0 (n : Int32) (s : zy_S) : zyF25 0 n s = some (zqb (decide (0 ≤ n.toInt ∧ n.toInt < (s.1 1 5).toInt)), s) := by
  unfold zyF25
  rw [if_pos rfl]
  exact zys25_32 n s
theorem zys25_1 (n : Int32) (s : zy_S) : zyF25 1 n s = some (zqb (decide (0 ≤ n.toInt ∧ n.toInt < (s.1 1 5).toInt)), s) := by
  unfold zyF25
  rw [if_neg (by decide), if_pos rfl]
  exact zys25_32 n s
theorem zys25_2 (n : Int32) (s : zy_S) : zyF25 2 n s = some (zqb (decide (0 ≤ n.toInt ∧ n.toInt ≤ 23)), s) := by
  unfold zyF25
  rw [if_neg (by decide), if_neg (by decide), if_pos rfl, zys26]
  simp only [zq_bind, zqb_if01]
theorem zys25_3 (n : Int32) (s : zy_S) : zyF25 3 n s = some (zqb (decide (n.toInt = 0)), s) := by
  unfold zyF25
  rw [if_neg (by decide), if_neg (by decide), if_neg (by decide), if_pos rfl]
  simp only [ne_eq, zq_eq, Int32.lt_iff_toInt_lt, Int32.le_iff_toInt_le, zq_l0, zq_lm1, zq_l1, zq_l2, zq_l3, zq_l4, zq_l5, zq_l6, zq_l7, zq_l8, zq_l9, zq_l12, zq_l16, zq_l23, zq_l24, zq_l40, zq_l39, zq_l50, zq_l51, zq_l60, zq_l120, zq_l128, zq_l255, zq_l4095, zq_l4096]
  refine zqb_d (x := 0) (fun h => ?_) (fun h => ?_)
  all_goals
    repeat' split
  all_goals first | rfl | (exfalso; omega)
/-- where the model has it, or -1 -/
def zqp (n w : Int32) (P : Int) : Int := if 0 ≤ w.toInt ∧ w.toInt ≤ 1 then (if 0 ≤ n.toInt ∧ n.toInt < P then 8 * w.toInt + n.toInt else -1) else if w.toInt = 2 then (if 0 ≤ n.toInt ∧ n.toInt ≤ 23 then 16 + n.toInt else -1) else if w.toInt = 3 then (if n.toInt = 0 then 40 else -1) else -1
theorem zys184 (n w : Int32) {s : zy_S} (hp : zin (s.1 43 6) 0 8) : ∃ q, zyF184 n w s = some (q, s) ∧ q.toInt = zqp n w (s.1 43 6).toInt := by
  obtain ⟨p0, p1⟩ := id hp
  unfold zyF184 zqp
  simp only [zys179, zys186, zys185 _ s hp, true_and, and_true, zqb_t0, Classical.not_not, Bool.not_eq_false, zq_bind, zqb_n0, zqb_e0, decide_eq_true_eq, decide_eq_false_iff_not, ne_eq, zq_eq, Int32.toInt_toInt64, Int32.lt_iff_toInt_lt, Int32.le_iff_toInt_le, zq_l0, zq_lm1, zq_l1, zq_l2, zq_l3, zq_l4, zq_l5, zq_l6, zq_l7, zq_l8, zq_l9, zq_l12, zq_l16, zq_l23, zq_l24, zq_l40, zq_l39, zq_l50, zq_l51, zq_l60, zq_l120, zq_l128, zq_l255, zq_l4095, zq_l4096, zq_j0, zq_j1, zq_j4, zq_j5, zq_j7, zq_j8, zq_j9, zq_j23, zq_j255, zq_j4095]
  by_cases h1 : 0 ≤ w.toInt ∧ w.toInt ≤ 1
  · rw [if_pos h1, if_neg (by omega)]
    by_cases hn : 0 ≤ n.toInt ∧ n.toInt < (s.1 43 6).toInt
    · rw [if_pos hn, if_neg (by omega)]
      refine ⟨_, rfl, ?_⟩
      have em : ((8 : Int32) * w).toInt = 8 * w.toInt := by rw [zq_mul (by rw [zq_l8]; omega) (by rw [zq_l8]; omega), zq_l8]
      rw [zq_add (by rw [em]; omega) (by rw [em]; omega), em]
    · rw [if_neg hn, if_pos (by omega)]
      exact ⟨_, rfl, rfl⟩
  · rw [if_neg h1, if_pos (by omega)]
    by_cases h2 : w.toInt = 2
    · rw [if_pos h2, if_neg (by omega)]
      by_cases hn : 0 ≤ n.toInt ∧ n.toInt ≤ 23
      · rw [if_pos hn, if_neg (by omega)]
        refine ⟨_, rfl, ?_⟩
        rw [zq_add (by rw [zq_l16]; omega) (by rw [zq_l16]; omega), zq_l16]
      · rw [if_neg hn, if_pos (by omega)]
        exact ⟨_, rfl, rfl⟩
    · rw [if_neg h2, if_pos (by omega)]
      by_cases h3 : w.toInt = 3
      · rw [if_pos h3, if_neg (by omega)]
        by_cases hn : n.toInt = 0
        · rw [if_pos hn, if_neg (by omega)]
          exact ⟨_, rfl, rfl⟩
        · rw [if_neg hn, if_pos (by omega)]
          exact ⟨_, rfl, rfl⟩
      · rw [if_neg h3, if_pos (by omega)]
        exact ⟨_, rfl, rfl⟩
theorem zys183_25 (w v q : Int32) (lo : Int64) {s : zy_S} : zyF183_25 w v q lo v.toInt64 s = if lo.toInt ≤ v.toInt ∧ v.toInt ≤ (if w.toInt = 0 then 4095 else 9) then (zyF187 q v s).bind fun p => some (p.1, p.2) else some (-1, s) := by
  unfold zyF183_25 zyF183_38
  simp only [zys179, true_and, and_true, zqb_t0, Classical.not_not, Bool.not_eq_false, zq_bind, zqb_n0, zqb_e0, decide_eq_true_eq, decide_eq_false_iff_not, ne_eq, zq_eq, Int32.toInt_toInt64, Int32.lt_iff_toInt_lt, Int32.le_iff_toInt_le, zq_l0, zq_lm1, zq_l1, zq_l2, zq_l3, zq_l4, zq_l5, zq_l6, zq_l7, zq_l8, zq_l9, zq_l12, zq_l16, zq_l23, zq_l24, zq_l40, zq_l39, zq_l50, zq_l51, zq_l60, zq_l120, zq_l128, zq_l255, zq_l4095, zq_l4096, zq_j0, zq_j1, zq_j4, zq_j5, zq_j7, zq_j8, zq_j9, zq_j23, zq_j255, zq_j4095]
  by_cases h0 : w.toInt = 0
  · rw [if_neg (by omega), if_pos h0]
    by_cases hv : lo.toInt ≤ v.toInt ∧ v.toInt ≤ 4095
    · rw [if_neg (by omega), if_pos hv]
    · rw [if_pos hv, if_neg hv]
  · rw [if_pos h0, if_neg h0]
    by_cases hv : lo.toInt ≤ v.toInt ∧ v.toInt ≤ 9
    · rw [if_neg (by omega), if_pos hv]
    · rw [if_pos hv, if_neg hv]
theorem zys183 (n w v : Int32) {s : zy_S} (hp : zin (s.1 43 6) 0 8) : ∃ q, q.toInt = zqp n w (s.1 43 6).toInt ∧ zyF183 n w v s = if q.toInt < 0 then some (-1, s) else if (if w.toInt = 3 then 1 else 0) ≤ v.toInt ∧ v.toInt ≤ (if w.toInt = 0 then 4095 else 9) then (zyF187 q v s).bind fun p => some (p.1, p.2) else some (-1, s) := by
  obtain ⟨q, h1, h2⟩ := zys184 n w hp
  refine ⟨q, h2, ?_⟩
  unfold zyF183
  rw [h1]
  simp only [zq_bind, Int32.lt_iff_toInt_lt, zq_l0, ne_eq, zq_eq, zq_l3]
  by_cases hq : q.toInt < 0
  · rw [if_pos hq, if_pos hq]
  · rw [if_neg hq, if_neg hq]
    by_cases h3 : w.toInt = 3
    · rw [if_neg (by omega), if_pos h3, zys183_25]
      rfl
    · rw [if_pos h3, if_neg h3, zys183_25]
      rfl
theorem zop_mend (n w v : Int32) {s : zy_S} (h : zI s) : ∃ r s1 s2, zyF24 n w v s = some (r, s1) ∧ zyF183 n w v s1 = some (r, s2) ∧ zI s2 := by
  obtain ⟨hw, hg, h1, h2, h3, h4, h5, h6, h7, h8, h9, h10, h11, h12, h13, h14, h15, h16, h17, h18, h19, h20, h21⟩ := id h
  obtain ⟨e1, p0, p1⟩ := id h1
  have hp : zin (s.1 43 6) 0 8 := by rw [← e1]; exact ⟨p0, p1⟩
  -- what is refused
  have bad : zyF24 n w v s = some (-1, s) → (zqp n w (s.1 43 6).toInt < 0 ∨ ¬ ((if w.toInt = 3 then 1 else 0) ≤ v.toInt ∧ v.toInt ≤ (if w.toInt = 0 then 4095 else 9))) → ∃ r s1 s2, zyF24 n w v s = some (r, s1) ∧ zyF183 n w v s1 = some (r, s2) ∧ zI s2 := by
    intro hc hm
    refine ⟨-1, s, s, hc, ?_, h⟩
    obtain ⟨q, hq, hf⟩ := zys183 n w v hp
    rw [hf]
    rcases hm with hm | hm
    · rw [if_pos (by rw [hq]; exact hm)]
    · by_cases hq0 : q.toInt < 0
      · rw [if_pos hq0]
      · rw [if_neg hq0, if_neg hm]
  -- what is done
  have good : ∀ (c k : Nat), (∀ q : Int32, q.toInt = zqp n w (s.1 43 6).toInt → zPl c k q.toNatClampNeg ∧ zy_in q 41 = true ∧ zRow (s.1 1 5) w n (s.1 c k) v q (s.1 c k) v) → zPv c v → zyF27 w n s = some (s.1 c k, s) → zyF28 w n v s = some (0, zy_up s c k v) →
      zyF24 n w v s = (if s.1 c k = v then some (s.1 c k, s) else (zyF28 w n v s).bind fun p4 => (zyF29 w n (s.1 c k) v p4.2).bind fun p5 => some (s.1 c k, p5.2)) → ((if w.toInt = 3 then 1 else 0) ≤ v.toInt ∧ v.toInt ≤ (if w.toInt = 0 then 4095 else 9)) → ∃ r s1 s2, zyF24 n w v s = some (r, s1) ∧ zyF183 n w v s1 = some (r, s2) ∧ zI s2 := by
    intro c k hq hv f27 f28 hc hm
    obtain ⟨q0, hq0, -⟩ := zys183 n w v hp
    obtain ⟨a1, a2, a3⟩ := hq q0 hq0
    obtain ⟨s1, s2, b1, b2, b3, b4⟩ := zop_mendC h a1 a2 hv a3 f27 f28
    refine ⟨s.1 c k, s1, s2, hc.trans b1, ?_, b4⟩
    obtain ⟨q, hq1, hf⟩ := zys183 n w v (s := s1) (by rw [b3]; exact hp)
    have eq : q = q0 := zq_ext (by rw [hq1, hq0, b3])
    subst eq
    rw [hf, if_neg (by have := (zq_in.mp a2).1; omega), if_pos hm, b2]
    rfl
  by_cases w0 : w = 0
  · subst w0
    have z0 : zqp n 0 (s.1 43 6).toInt = if 0 ≤ n.toInt ∧ n.toInt < (s.1 43 6).toInt then n.toInt else -1 := by
      unfold zqp
      rw [if_pos ⟨by decide, by decide⟩, zq_l0]
      by_cases g : 0 ≤ n.toInt ∧ n.toInt < (s.1 43 6).toInt
      · rw [if_pos g, if_pos g]; omega
      · rw [if_neg g, if_neg g]
    by_cases hn : 0 ≤ n.toInt ∧ n.toInt < (s.1 1 5).toInt
    · by_cases hv : 0 ≤ v.toInt ∧ v.toInt ≤ 4095
      · have hin : zy_in n 8 = true := zq_in.mpr ⟨hn.1, by omega⟩
        have f27 : zyF27 0 n s = some (s.1 3 n.toNatClampNeg, s) := by
          unfold zyF27
          rw [if_pos rfl, if_pos hin]
        refine good 3 n.toNatClampNeg ?_ ⟨fun _ => hv, fun q => absurd q (by decide), fun q => absurd q (by decide), fun q => absurd q (by decide)⟩ f27 (by unfold zyF28; rw [if_pos rfl, if_pos hin]) ?_ ?_
        · intro q hq
          rw [z0, if_pos (by rw [← e1]; exact hn)] at hq
          have eq : q = n := zq_ext hq
          subst eq
          exact ⟨Or.inl ⟨rfl, by rw [zq_ix]; omega, rfl⟩, zq_in.mpr ⟨hn.1, by omega⟩, rfl, rfl, Or.inl ⟨rfl, hn.1, hn.2, rfl, (h2 _ (by rw [zq_ix]; omega)).2, hv⟩⟩
        · unfold zyF24
          simp only [zys25_0, zys14_0, f27, zq_bind, zqb_n0, zqb_e0, decide_eq_true_eq, decide_eq_false_iff_not]
          rw [if_neg (not_not_intro hn), if_pos hv]
        · rw [if_neg (by decide), if_pos (show (0 : Int32).toInt = 0 from rfl)]; exact hv
      · refine bad ?_ (Or.inr ?_)
        · unfold zyF24
          simp only [zys25_0, zys14_0, zq_bind, zqb_n0, zqb_e0, decide_eq_true_eq, decide_eq_false_iff_not]
          rw [if_neg (not_not_intro hn), if_neg hv]
        · rw [if_neg (by decide), if_pos (show (0 : Int32).toInt = 0 from rfl)]; exact hv
    · refine bad ?_ (Or.inl ?_)
      · unfold zyF24
        simp only [zys25_0, zq_bind, zqb_e0, decide_eq_false_iff_not]
        rw [if_pos hn]
      · rw [z0, ← e1, if_neg hn]; decide
  by_cases w1 : w = 1
  · subst w1
    have z0 : zqp n 1 (s.1 43 6).toInt = if 0 ≤ n.toInt ∧ n.toInt < (s.1 43 6).toInt then 8 + n.toInt else -1 := by
      unfold zqp
      rw [if_pos ⟨by decide, by decide⟩, zq_l1]
      rfl
    by_cases hn : 0 ≤ n.toInt ∧ n.toInt < (s.1 1 5).toInt
    · by_cases hv : 0 ≤ v.toInt ∧ v.toInt ≤ 9
      · have hin : zy_in n 8 = true := zq_in.mpr ⟨hn.1, by omega⟩
        have f27 : zyF27 1 n s = some (s.1 4 n.toNatClampNeg, s) := by
          unfold zyF27
          rw [if_neg (by decide), if_pos rfl, if_pos hin]
        refine good 4 n.toNatClampNeg ?_ ⟨fun q => absurd q (by decide), fun _ => hv, fun q => absurd q (by decide), fun q => absurd q (by decide)⟩ f27 (by unfold zyF28; rw [if_neg (by decide), if_pos rfl, if_pos hin]) ?_ ?_
        · intro q hq
          rw [z0, if_pos (by rw [← e1]; exact hn)] at hq
          exact ⟨Or.inr (Or.inl ⟨rfl, by rw [zq_ix]; omega, by rw [zq_ix, zq_ix]; omega⟩), zq_in.mpr ⟨by omega, by omega⟩, rfl, rfl, Or.inr (Or.inl ⟨rfl, hn.1, hn.2, hq, (h3 _ (by rw [zq_ix]; omega)).2, hv⟩)⟩
        · unfold zyF24
          simp only [zys25_1, zys14_1, f27, zq_bind, zqb_n0, zqb_e0, decide_eq_true_eq, decide_eq_false_iff_not]
          rw [if_neg (not_not_intro hn), if_pos hv]
        · rw [if_neg (by decide), if_neg (by decide)]; exact hv
      · refine bad ?_ (Or.inr ?_)
        · unfold zyF24
          simp only [zys25_1, zys14_1, zq_bind, zqb_n0, zqb_e0, decide_eq_true_eq, decide_eq_false_iff_not]
          rw [if_neg (not_not_intro hn), if_neg hv]
        · rw [if_neg (by decide), if_neg (by decide)]; exact hv
    · refine bad ?_ (Or.inl ?_)
      · unfold zyF24
        simp only [zys25_1, zq_bind, zqb_e0, decide_eq_false_iff_not]
        rw [if_pos hn]
      · rw [z0, ← e1, if_neg hn]; decide
  by_cases w2 : w = 2
  · subst w2
    have z0 : zqp n 2 (s.1 43 6).toInt = if 0 ≤ n.toInt ∧ n.toInt ≤ 23 then 16 + n.toInt else -1 := by
      unfold zqp
      rw [if_neg (by decide), if_pos (show (2 : Int32).toInt = 2 from rfl)]
    by_cases hn : 0 ≤ n.toInt ∧ n.toInt ≤ 23
    · by_cases hv : 0 ≤ v.toInt ∧ v.toInt ≤ 9
      · have hin : zy_in n 24 = true := zq_in.mpr ⟨hn.1, by omega⟩
        have f27 : zyF27 2 n s = some (s.1 2 n.toNatClampNeg, s) := by
          unfold zyF27
          rw [if_neg (by decide), if_neg (by decide), if_pos rfl, if_pos hin]
        refine good 2 n.toNatClampNeg ?_ ⟨fun q => absurd q (by decide), fun q => absurd q (by decide), fun _ => hv, fun q => absurd q (by decide)⟩ f27 (by unfold zyF28; rw [if_neg (by decide), if_neg (by decide), if_pos rfl, if_pos hin]) ?_ ?_
        · intro q hq
          rw [z0, if_pos hn] at hq
          exact ⟨Or.inr (Or.inr (Or.inl ⟨rfl, by rw [zq_ix]; omega, by rw [zq_ix, zq_ix]; omega⟩)), zq_in.mpr ⟨by omega, by omega⟩, rfl, rfl, Or.inr (Or.inr (Or.inl ⟨rfl, hn.1, by omega, hq, (h4 _ (by rw [zq_ix]; omega)).2, hv⟩))⟩
        · unfold zyF24
          simp only [zys25_2, zys14_2, f27, zq_bind, zqb_n0, zqb_e0, decide_eq_true_eq, decide_eq_false_iff_not]
          rw [if_neg (not_not_intro hn), if_pos hv]
        · rw [if_neg (by decide), if_neg (by decide)]; exact hv
      · refine bad ?_ (Or.inr ?_)
        · unfold zyF24
          simp only [zys25_2, zys14_2, zq_bind, zqb_n0, zqb_e0, decide_eq_true_eq, decide_eq_false_iff_not]
          rw [if_neg (not_not_intro hn), if_neg hv]
        · rw [if_neg (by decide), if_neg (by decide)]; exact hv
    · refine bad ?_ (Or.inl ?_)
      · unfold zyF24
        simp only [zys25_2, zq_bind, zqb_e0, decide_eq_false_iff_not]
        rw [if_pos hn]
      · rw [z0, if_neg hn]; decide
  by_cases w3 : w = 3
  · subst w3
    have z0 : zqp n 3 (s.1 43 6).toInt = if n.toInt = 0 then 40 else -1 := by
      unfold zqp
      rw [if_neg (by decide), if_neg (by decide), if_pos (show (3 : Int32).toInt = 3 from rfl)]
    by_cases hn : n.toInt = 0
    · by_cases hv : 1 ≤ v.toInt ∧ v.toInt ≤ 9
      · have f27 : zyF27 3 n s = some (s.1 1 4, s) := by
          unfold zyF27
          rw [if_neg (by decide), if_neg (by decide), if_neg (by decide)]
        refine good 1 4 ?_ ⟨fun q => absurd q (by decide), fun q => absurd q (by decide), fun q => absurd q (by decide), fun _ => hv⟩ f27 (by unfold zyF28; rw [if_neg (by decide), if_neg (by decide), if_neg (by decide)]) ?_ ?_
        · intro q hq
          rw [z0, if_pos hn] at hq
          exact ⟨Or.inr (Or.inr (Or.inr ⟨rfl, rfl, by rw [zq_ix]; omega⟩)), zq_in.mpr ⟨by omega, by omega⟩, rfl, rfl, Or.inr (Or.inr (Or.inr ⟨rfl, hq, h5.2, hv⟩))⟩
        · unfold zyF24
          simp only [zys25_3, zys14_3, f27, zq_bind, zqb_n0, zqb_e0, decide_eq_true_eq, decide_eq_false_iff_not]
          rw [if_neg (not_not_intro hn), if_pos hv]
        · rw [if_pos (show (3 : Int32).toInt = 3 from rfl), if_neg (by decide)]; exact hv
      · refine bad ?_ (Or.inr ?_)
        · unfold zyF24
          simp only [zys25_3, zys14_3, zq_bind, zqb_n0, zqb_e0, decide_eq_true_eq, decide_eq_false_iff_not]
          rw [if_neg (not_not_intro hn), if_neg hv]
        · rw [if_pos (show (3 : Int32).toInt = 3 from rfl), if_neg (by decide)]; exact hv
    · refine bad ?_ (Or.inl ?_)
      · unfold zyF24
        simp only [zys25_3, zq_bind, zqb_e0, decide_eq_false_iff_not]
        rw [if_pos hn]
      · rw [z0, if_neg hn]; decide
  have i0 : ¬ w.toInt = 0 := fun g => w0 (zq_ext g)
  have i1 : ¬ w.toInt = 1 := fun g => w1 (zq_ext g)
  have i2 : ¬ w.toInt = 2 := fun g => w2 (zq_ext g)
  have i3 : ¬ w.toInt = 3 := fun g => w3 (zq_ext g)
  refine bad ?_ (Or.inl ?_)
  · unfold zyF24 zyF25
    rw [if_neg w0, if_neg w1, if_neg w2, if_neg w3, zq_bind, if_pos rfl]
  · unfold zqp
    rw [if_neg (by omega), if_neg i2, if_neg i3]
    decide
