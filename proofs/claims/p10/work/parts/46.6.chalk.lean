/-! PART 46.6: chalk: write, strike, rub, won. Made by wip/v4/gen_chalk.py. -/
/-- how many LINEs stand -/
def zpc (L : Int32) : Int32 := Int32.ofInt (zpo L.toInt)
theorem zpo_le (b : Int) : 0 ≤ zpo b ∧ zpo b ≤ 24 := by
  have := zpopN_le b.toNat 24
  unfold zpo
  omega
theorem zpc_e {L c : Int32} (h : c.toInt = zpo L.toInt) : c = zpc L := by
  have := zpo_le L.toInt
  apply zq_ext
  rw [h]
  exact (Int32.toInt_ofInt_of_le (by omega) (by omega)).symm
theorem zys63 {L : Int32} (s : zy_S) (h0 : 0 ≤ L.toInt) (h1 : L.toInt ≤ 16777215) : zyF63 L s = some (zpc L, s) := by
  have l10 := fun a b => zb_cEq 10 a b (by omega)
  have l11 := fun a b => zb_cEq 11 a b (by omega)
  have l13 := fun a b => zb_cEq 13 a b (by omega)
  have l18 := fun a b => zb_cEq 18 a b (by omega)
  have k1 : (1431655765 : Int32).toInt = 1431655765 := by decide
  have k2 : (858993459 : Int32).toInt = 858993459 := by decide
  have k3 : (252645135 : Int32).toInt = 252645135 := by decide
  have k4 : (63 : Int32).toInt = 63 := by decide
  obtain ⟨a, ha⟩ : ∃ a, a = zb 11 L (zb 13 (zb 18 L 1) 1431655765) := ⟨_, rfl⟩
  obtain ⟨b, hb⟩ : ∃ b, b = zb 10 (zb 13 a 858993459) (zb 13 (zb 18 a 2) 858993459) := ⟨_, rfl⟩
  obtain ⟨c, hc⟩ : ∃ c, c = zb 13 (zb 10 b (zb 18 b 4)) 252645135 := ⟨_, rfl⟩
  obtain ⟨d, hd⟩ : ∃ d, d = zb 10 c (zb 18 c 8) := ⟨_, rfl⟩
  obtain ⟨e, he⟩ : ∃ e, e = zb 13 (zb 10 d (zb 18 d 16)) 63 := ⟨_, rfl⟩
  have f : zyF63 L s = some (e, s) := by
    rw [he, hd, hc, hb, ha]
    rfl
  have ea : a.toInt = zbcA L.toInt := by rw [ha, l11, l13, l18, k1]; rfl
  have eb : b.toInt = zbcB a.toInt := by rw [hb, l10, l13, l13, l18, k2]; rfl
  have ec : c.toInt = zbcC b.toInt := by rw [hc, l13, l10, l18, k3]; rfl
  have ed : d.toInt = zbcD c.toInt := by rw [hd, l10, l18]; rfl
  have ee : e.toInt = zbcE d.toInt := by rw [he, l13, l10, l18, k4]; rfl
  have g : e.toInt = zpo L.toInt := by
    rw [ee, ed, ec, eb, ea]
    exact zpo_bc h0 h1
  rw [f, zpc_e g]
theorem zl_209 (L : Int32) : ∀ (n k : Nat) (acc i : Int32) (s : zy_S), k ≤ 24 → 24 - k < n → i.toInt = (k : Int) → acc.toInt = zbits k L.toInt → ∃ c, zyF209_4 n L acc i s = some (c, s) ∧ c.toInt = zbits 24 L.toInt
  | 0, k, acc, i, s, hk, hn, hi, ha => by omega
  | n + 1, k, acc, i, s, hk, hn, hi, ha => by
    show ∃ c, zyF209_4b (zyF209_4 n) L acc i s = some (c, s) ∧ _
    unfold zyF209_4b
    by_cases h : k = 24
    · rw [if_pos (by rw [Int32.le_iff_toInt_le, zq_l24]; omega)]
      exact ⟨acc, rfl, by rw [ha, h]⟩
    · rw [if_neg (by rw [Int32.le_iff_toInt_le, zq_l24]; omega)]
      refine zl_209 L n (k + 1) _ _ s (by omega) (by omega) (by rw [zq_add (by rw [zq_l1]; omega) (by rw [zq_l1]; omega), zq_l1, hi]; omega) ?_
      have e1 : (zb 10 acc (zb 13 (zb 17 L i) 1)).toInt = zb_c 10 acc.toInt (zb_c 13 (zb_c 17 L.toInt i.toInt) 1) := by
        rw [zb_cEq 10 _ _ (by omega), zb_cEq 13 _ _ (by omega), zb_cEq 17 _ _ (by omega)]
        rfl
      rw [ha, hi] at e1
      exact e1
theorem zys209 {L : Int32} (s : zy_S) (h0 : 0 ≤ L.toInt) (h1 : L.toInt ≤ 16777215) : zyF209 L s = some (zpc L, s) := by
  obtain ⟨c, f, g⟩ := zl_209 L zy_fu 0 0 0 s (by decide) (by unfold zy_fu; omega) rfl rfl
  rw [zpo_bits h0 h1] at g
  unfold zyF209
  rw [f, zpc_e g]
/-- whether a LINE stands -/
def zbt (L x : Int32) : Bool := decide (((L >>> (x &&& 31)) &&& (1 : Int32)) = 1)
theorem zys208 (L x : Int32) (s : zy_S) : zyF208 L x s = some (zqb (zbt L x), s) := by
  unfold zyF208 zbt
  refine zqb_d (x := 0) (fun h => ?_) (fun h => ?_)
  · rw [if_neg (fun g => g h)]
  · rw [if_pos h]
theorem zys86 (x : Int32) (s : zy_S) : zyF86 x s = some (zqb (zbt (s.1 1 3) x), s) := by
  unfold zyF86 zyF32 zbt
  rw [zq_bind]
  refine zqb_d (x := 0) (fun h => ?_) (fun h => ?_)
  · rw [if_neg (fun g => g h)]
  · rw [if_pos h]
theorem zys92 {s : zy_S} (h0 : 0 ≤ (s.1 1 3).toInt) (h1 : (s.1 1 3).toInt ≤ 16777215) : zyF92 s = some (zpc (s.1 1 3), s) := by
  unfold zyF92
  rw [zys63 s h0 h1]
  rfl
theorem zys91 {s : zy_S} (h0 : 0 ≤ (s.1 1 3).toInt) (h1 : (s.1 1 3).toInt ≤ 16777215) : zyF91 s = some (zqb (decide (¬ (s.1 1 4).toInt ≤ (zpc (s.1 1 3)).toInt)), s) := by
  unfold zyF91
  rw [zys92 h0 h1, zq_bind]
  refine zqb_d (x := 0) (fun h => ?_) (fun h => ?_)
  · rw [if_neg (by rw [Int32.le_iff_toInt_le]; exact h)]
  · rw [if_pos (by rw [Int32.le_iff_toInt_le]; exact Classical.not_not.mp h)]
theorem zys219 {L : Int32} {s : zy_S} (h0 : 0 ≤ L.toInt) (h1 : L.toInt ≤ 16777215) : zyF219 L s = some (zqb (decide (¬ (s.1 44 40).toInt ≤ (zpc L).toInt)), s) := by
  unfold zyF219
  rw [zys209 s h0 h1, zq_bind]
  refine zqb_d (x := 0) (fun h => ?_) (fun h => ?_)
  · rw [if_neg (by rw [Int32.le_iff_toInt_le]; exact h)]
  · rw [if_pos (by rw [Int32.le_iff_toInt_le]; exact Classical.not_not.mp h)]
theorem zbs_1 {x : Int32} (h0 : 0 ≤ x.toInt) (h1 : x.toInt ≤ 23) : ((1 : Int32) <<< (x &&& 31)).toInt = ((2 ^ x.toInt.toNat : Nat) : Int) := by
  have e : ((1 : Int32) <<< (x &&& 31)).toInt = zb_c 16 1 x.toInt := zb_cEq 16 1 x (by omega)
  have ex : x.toInt = (x.toInt.toNat : Int) := (Int.toNat_of_nonneg h0).symm
  rw [e, ex, zN_shl1 (by omega), Int.toNat_natCast]
theorem zbs_or {L x : Int32} (l0 : 0 ≤ L.toInt) (l1 : L.toInt ≤ 16777215) (h0 : 0 ≤ x.toInt) (h1 : x.toInt ≤ 23) : zin (L ||| ((1 : Int32) <<< (x &&& 31))) 0 16777215 := by
  have e : (L ||| ((1 : Int32) <<< (x &&& 31))).toInt = zb_c 14 L.toInt ((1 : Int32) <<< (x &&& 31)).toInt := zb_cEq 14 _ _ (by omega)
  have el : L.toInt = (L.toInt.toNat : Int) := (Int.toNat_of_nonneg l0).symm
  have u : 2 ^ x.toInt.toNat ≤ 2 ^ 23 := Nat.pow_le_pow_right (by omega) (by omega)
  rw [zbs_1 h0 h1, el, zN_or (by omega) (by omega)] at e
  have v : L.toInt.toNat ||| 2 ^ x.toInt.toNat < 2 ^ 24 := Nat.or_lt_two_pow (by omega) (by omega)
  unfold zin
  omega
theorem zbs_an {L c : Int32} {n : Nat} (l0 : 0 ≤ L.toInt) (l1 : L.toInt < ((2 ^ n : Nat) : Int)) (hn : 2 ^ n ≤ 2 ^ 30) (c0 : 0 ≤ c.toInt) : 0 ≤ (L &&& (c ^^^ (-1 : Int32))).toInt ∧ (L &&& (c ^^^ (-1 : Int32))).toInt < ((2 ^ n : Nat) : Int) := by
  have e : (L &&& (c ^^^ (-1 : Int32))).toInt = zb_c 13 L.toInt (c ^^^ (-1 : Int32)).toInt := zb_cEq 13 _ _ (by omega)
  have e2 : (c ^^^ (-1 : Int32)).toInt = zb_c 15 c.toInt (-1) := zb_cEq 15 c (-1) (by omega)
  have el : L.toInt = (L.toInt.toNat : Int) := (Int.toNat_of_nonneg l0).symm
  have ec : c.toInt = (c.toInt.toNat : Int) := (Int.toNat_of_nonneg c0).symm
  have ch := zq_hi c
  rw [e2, el, ec, zN_andn (by omega) (by omega)] at e
  have v1 : L.toInt.toNat &&& c.toInt.toNat ≤ L.toInt.toNat := Nat.and_le_left
  have v : L.toInt.toNat ^^^ (L.toInt.toNat &&& c.toInt.toNat) < 2 ^ n := Nat.xor_lt_two_pow (by omega) (by omega)
  omega
/-- cells that chalk leaves -/
def zch (a : Nat) : Prop := a = 0 ∨ (4 ≤ a ∧ a < 18) ∨ (19 ≤ a ∧ a < 43) ∨ (45 ≤ a ∧ a < 54) ∨ 55 ≤ a
theorem zch_sh {d : Nat} (h : d < 6) : zch (zy_sh d) := by unfold zch zy_sh; omega
theorem zI_chalk {s t : zy_S} (h : zI s) (ht2 : t.2 = s.2) (hgt : zRg t) (e : ∀ a b, zch a → t.1 a b = s.1 a b) (e1 : ∀ b, b ≠ 3 → t.1 1 b = s.1 1 b) (e43 : ∀ b, b ≠ 7 → t.1 43 b = s.1 43 b)
    (q2 : zR2 t) (q3 : zR3 t) (q4 : zR4 t) (q5 : zR5 t) (q6 : zR6 t) (q7 : zR7 t) : zI t := by
  obtain ⟨hw, hg, h1, h2, h3, h4, h5, h6, h7, h8, h9, h10, h11, h12, h13, h14, h15, h16, h17, h18, h19, h20, h21⟩ := h
  have hw' : zy_Wb t = true := by
    unfold zy_Wb
    rw [ht2]
    exact hw
  refine ⟨hw', hgt, ?_, ?_, ?_, ?_, ?_, ?_, ?_, ?_, ?_, ?_, ?_, ?_, ?_, ?_, ?_, ?_, ?_, ?_, ?_, ?_, ?_⟩
  · unfold zR1
    rw [e1 5 (by decide), e43 6 (by decide)]
    exact h1
  · exact q2
  · exact q3
  · exact q4
  · exact q5
  · exact q6
  · exact q7
  · unfold zR8
    rw [e 17 2 (by unfold zch; omega), e43 22 (by decide), e 17 3 (by unfold zch; omega), e43 24 (by decide), e 17 4 (by unfold zch; omega), e43 23 (by decide), e1 5 (by decide)]
    exact h8
  · intro p hp
    rw [e 17 4 (by unfold zch; omega)] at hp
    rw [e 20 p (by unfold zch; omega), e 55 p (by unfold zch; omega)]
    exact h9 p hp
  · unfold zR10
    intro p hp
    rw [e 19 p (by unfold zch; omega), e 56 p (by unfold zch; omega)]
    exact h10 p hp
  · unfold zR11
    intro p hp
    rw [e 21 p (by unfold zch; omega), e 57 p (by unfold zch; omega)]
    exact h11 p hp
  · unfold zR12
    rw [e 22 5 (by unfold zch; omega), e43 5 (by decide), e 22 6 (by unfold zch; omega), e43 4 (by decide)]
    exact h12
  · intro p hp
    rw [e 22 6 (by unfold zch; omega)] at hp
    rw [e1 5 (by decide), e 23 p (by unfold zch; omega), e 24 p (by unfold zch; omega), e 25 p (by unfold zch; omega), e 26 p (by unfold zch; omega), e 45 p (by unfold zch; omega), e 46 p (by unfold zch; omega), e 47 p (by unfold zch; omega)]
    exact h13 p hp
  · unfold zR14
    rw [e 27 2 (by unfold zch; omega), e43 28 (by decide)]
    exact h14
  · unfold zR15
    intro p hp
    rw [e 28 p (by unfold zch; omega), e 58 p (by unfold zch; omega)]
    exact h15 p hp
  · unfold zR16
    rw [e 27 3 (by unfold zch; omega), e43 31 (by decide)]
    exact h16
  · unfold zR17
    intro p hp
    rw [e 29 p (by unfold zch; omega), e 59 p (by unfold zch; omega)]
    exact h17 p hp
  · unfold zR18
    rw [e 9 2 (by unfold zch; omega), e43 9 (by decide)]
    exact h18
  · unfold zR19
    refine ⟨fun p hp => ?_, ?_⟩
    · rw [e 10 p (by unfold zch; omega), e 48 p (by unfold zch; omega)]
      exact h19.1 p hp
    · rw [e 5 3 (by unfold zch; omega), e43 11 (by decide), show t.1 6 = s.1 6 from funext fun k => e 6 k (by unfold zch; omega), show t.1 49 = s.1 49 from funext fun k => e 49 k (by unfold zch; omega)]
      exact h19.2
  · intro d hd
    rw [e 27 2 (by unfold zch; omega), e _ _ (zch_sh hd), e _ _ (zch_sh hd), e _ _ (zch_sh hd), e 60 d (by unfold zch; omega), e 61 d (by unfold zch; omega)]
    exact h20 d hd
  · intro d hd j hj
    rw [e _ _ (zch_sh hd), ht2]
    exact h21 d hd j hj
theorem zrg_fuC : ∀ a, a ∈ [2, 3, 18, 54] → ∀ b, b < zrn a → zrg a b = (-2147483648, 2147483647) := by decide +kernel
theorem zRg_chalk {s t : zy_S} (hg : zRg s) (e : ∀ a b, zch a → t.1 a b = s.1 a b) (e1 : ∀ b, b ≠ 3 → t.1 1 b = s.1 1 b) (e43 : ∀ b, b ≠ 7 → t.1 43 b = s.1 43 b) (q5 : zR5 t) (q6 : zR6 t) : zRg t := by
  intro a b hb
  obtain ⟨-, -, c1, c2⟩ := zrg_tw
  by_cases hz : zch a
  · rw [e a b hz]
    exact hg a b hb
  · by_cases hm : a ∈ [2, 3, 18, 54]
    · rw [zrg_fuC a hm b hb]
      exact zin_full _
    · have ha : a = 1 ∨ a = 43 ∨ a = 44 := by
        unfold zch at hz
        simp only [List.mem_cons, List.not_mem_nil, or_false, not_or] at hm
        omega
      rcases ha with rfl | rfl | rfl
      · by_cases hb3 : b = 3
        · subst hb3
          rw [c1]
          exact q6.2
        · rw [e1 b hb3]
          exact hg 1 b hb
      · by_cases h7 : b = 7
        · subst h7
          rw [c2, ← q6.1]
          exact q6.2
        · rw [e43 b h7]
          exact hg 43 b hb
      · rw [zrg_44 b hb]
        by_cases h40 : b = 40
        · subst h40
          rw [if_pos rfl, ← q5.1]
          exact q5.2
        · rw [if_neg h40]
          exact zin_full _
theorem zop_write (x : Int32) {s : zy_S} (h : zI s) : ∃ r s1 s2, zyF131 x s = some (r, s1) ∧ zyF240 x s1 = some (r, s2) ∧ zI s2 := by
  obtain ⟨hw, hg, h1, h2, h3, h4, h5, h6, h7, h8, h9, h10, h11, h12, h13, h14, h15, h16, h17, h18, h19, h20, h21⟩ := id h
  obtain ⟨e6, l0, l1⟩ := id h6
  obtain ⟨e5, r0, r1⟩ := id h5
  by_cases hx : 0 ≤ x.toInt ∧ x.toInt ≤ 23
  · by_cases hb : zbt (s.1 1 3) x = true
    · refine ⟨-5, s, s, ?_, ?_, h⟩
      · unfold zyF131
        simp only [zys26, zys86, true_and, and_true, zqb_t0, Classical.not_not, Bool.not_eq_false, zq_bind, zqb_n0, zqb_e0, decide_eq_true_eq, decide_eq_false_iff_not, ne_eq, zq_eq, Int32.toInt_toInt64, Int32.lt_iff_toInt_lt, Int32.le_iff_toInt_le, zq_l0, zq_lm1, zq_l1, zq_l2, zq_l3, zq_l4, zq_l5, zq_l6, zq_l7, zq_l8, zq_l9, zq_l12, zq_l16, zq_l23, zq_l24, zq_l40, zq_l39, zq_l50, zq_l51, zq_l60, zq_l120, zq_l128, zq_l255, zq_l4095, zq_l4096, zq_j0, zq_j1, zq_j4, zq_j5, zq_j7, zq_j8, zq_j9, zq_j23, zq_j255, zq_j4095]
        rw [if_pos hx, if_pos hb]
      · unfold zyF240
        simp only [zys186, zys208, ← e6, true_and, and_true, zqb_t0, Classical.not_not, Bool.not_eq_false, zq_bind, zqb_n0, zqb_e0, decide_eq_true_eq, decide_eq_false_iff_not, ne_eq, zq_eq, Int32.toInt_toInt64, Int32.lt_iff_toInt_lt, Int32.le_iff_toInt_le, zq_l0, zq_lm1, zq_l1, zq_l2, zq_l3, zq_l4, zq_l5, zq_l6, zq_l7, zq_l8, zq_l9, zq_l12, zq_l16, zq_l23, zq_l24, zq_l40, zq_l39, zq_l50, zq_l51, zq_l60, zq_l120, zq_l128, zq_l255, zq_l4095, zq_l4096, zq_j0, zq_j1, zq_j4, zq_j5, zq_j7, zq_j8, zq_j9, zq_j23, zq_j255, zq_j4095]
        rw [if_pos hx, if_pos hb]
    · by_cases hr : (s.1 1 4).toInt ≤ (zpc (s.1 1 3)).toInt
      · refine ⟨-5, s, s, ?_, ?_, h⟩
        · unfold zyF131
          simp only [zys26, zys86, zys91 l0 l1, true_and, and_true, zqb_t0, Classical.not_not, Bool.not_eq_false, zq_bind, zqb_n0, zqb_e0, decide_eq_true_eq, decide_eq_false_iff_not, ne_eq, zq_eq, Int32.toInt_toInt64, Int32.lt_iff_toInt_lt, Int32.le_iff_toInt_le, zq_l0, zq_lm1, zq_l1, zq_l2, zq_l3, zq_l4, zq_l5, zq_l6, zq_l7, zq_l8, zq_l9, zq_l12, zq_l16, zq_l23, zq_l24, zq_l40, zq_l39, zq_l50, zq_l51, zq_l60, zq_l120, zq_l128, zq_l255, zq_l4095, zq_l4096, zq_j0, zq_j1, zq_j4, zq_j5, zq_j7, zq_j8, zq_j9, zq_j23, zq_j255, zq_j4095]
          rw [if_pos hx, if_neg hb, if_neg (not_not_intro hr)]
        · unfold zyF240
          simp only [zys186, zys208, ← e6, zys219 (s := s) l0 l1, ← e5, true_and, and_true, zqb_t0, Classical.not_not, Bool.not_eq_false, zq_bind, zqb_n0, zqb_e0, decide_eq_true_eq, decide_eq_false_iff_not, ne_eq, zq_eq, Int32.toInt_toInt64, Int32.lt_iff_toInt_lt, Int32.le_iff_toInt_le, zq_l0, zq_lm1, zq_l1, zq_l2, zq_l3, zq_l4, zq_l5, zq_l6, zq_l7, zq_l8, zq_l9, zq_l12, zq_l16, zq_l23, zq_l24, zq_l40, zq_l39, zq_l50, zq_l51, zq_l60, zq_l120, zq_l128, zq_l255, zq_l4095, zq_l4096, zq_j0, zq_j1, zq_j4, zq_j5, zq_j7, zq_j8, zq_j9, zq_j23, zq_j255, zq_j4095]
          rw [if_pos hx, if_neg hb, if_neg (not_not_intro hr)]
      · obtain ⟨L, hL⟩ : ∃ L, L = s.1 1 3 ||| ((1 : Int32) <<< (x &&& 31)) := ⟨_, rfl⟩
        have hLb : zin L 0 16777215 := by rw [hL]; exact zbs_or l0 l1 hx.1 hx.2
        obtain ⟨k, hk⟩ : ∃ k, k = x.toNatClampNeg := ⟨_, rfl⟩
        have ek : (k : Int) = x.toInt := by rw [hk, zq_ix]; omega
        have e16 : ((16 : Int32) + x).toInt = 16 + x.toInt := by rw [zq_add (by rw [zq_l16]; omega) (by rw [zq_l16]; omega), zq_l16]
        have e16n : ((16 : Int32) + x).toNatClampNeg = 16 + k := by rw [zq_ix, e16]; omega
        obtain ⟨s1, hs1⟩ : ∃ s1, s1 = zy_up (zy_up (zy_up s 1 3 L) 2 k 0) 18 0 (s.1 18 0 + 1) := ⟨_, rfl⟩
        obtain ⟨s2, hs2⟩ : ∃ s2, s2 = zy_up (zy_up (zy_up s1 43 7 L) 44 (16 + k) 0) 54 0 (s.1 54 0 + 1) := ⟨_, rfl⟩
        have o1 : ∀ a b, a ≠ 1 → a ≠ 2 → a ≠ 18 → s1.1 a b = s.1 a b := fun a b a1 a2 a3 => by rw [hs1, zf_up a3, zf_up a2, zf_up a1]
        refine ⟨zpc L, s1, s2, ?_, ?_, ?_⟩
        · have f : zyF132 x s = some (zpc L, s1) := by
            unfold zyF132
            rw [if_pos (zq_in.mpr ⟨hx.1, by omega⟩), ← hL, ← hk, ← hs1]
            have g : s1.1 1 3 = L := by rw [hs1, zf_up (by decide), zf_up (by decide), zf_upe]
            rw [zys92 (s := s1) (by rw [g]; exact hLb.1) (by rw [g]; exact hLb.2), g]
            rfl
          unfold zyF131
          simp only [zys26, zys86, zys91 l0 l1, f, true_and, and_true, zqb_t0, Classical.not_not, Bool.not_eq_false, zq_bind, zqb_n0, zqb_e0, decide_eq_true_eq, decide_eq_false_iff_not, ne_eq, zq_eq, Int32.toInt_toInt64, Int32.lt_iff_toInt_lt, Int32.le_iff_toInt_le, zq_l0, zq_lm1, zq_l1, zq_l2, zq_l3, zq_l4, zq_l5, zq_l6, zq_l7, zq_l8, zq_l9, zq_l12, zq_l16, zq_l23, zq_l24, zq_l40, zq_l39, zq_l50, zq_l51, zq_l60, zq_l120, zq_l128, zq_l255, zq_l4095, zq_l4096, zq_j0, zq_j1, zq_j4, zq_j5, zq_j7, zq_j8, zq_j9, zq_j23, zq_j255, zq_j4095]
          rw [if_pos hx, if_neg hb, if_pos hr]
        · have g7 : s1.1 43 7 = s.1 1 3 := by rw [o1 43 7 (by decide) (by decide) (by decide), e6]
          have g40 : s1.1 44 40 = s.1 1 4 := by rw [o1 44 40 (by decide) (by decide) (by decide), e5]
          have g54 : s1.1 54 0 = s.1 54 0 := o1 54 0 (by decide) (by decide) (by decide)
          have f : (zyF209 L s2).bind (fun p5 => some (p5.1, p5.2)) = some (zpc L, s2) := by
            rw [zys209 s2 hLb.1 hLb.2]
            rfl
          unfold zyF240
          simp only [zys186, zys208, g7, zys219 (s := s1) l0 l1, g40, g54, true_and, and_true, zqb_t0, Classical.not_not, Bool.not_eq_false, zq_bind, zqb_n0, zqb_e0, decide_eq_true_eq, decide_eq_false_iff_not, ne_eq, zq_eq, Int32.toInt_toInt64, Int32.lt_iff_toInt_lt, Int32.le_iff_toInt_le, zq_l0, zq_lm1, zq_l1, zq_l2, zq_l3, zq_l4, zq_l5, zq_l6, zq_l7, zq_l8, zq_l9, zq_l12, zq_l16, zq_l23, zq_l24, zq_l40, zq_l39, zq_l50, zq_l51, zq_l60, zq_l120, zq_l128, zq_l255, zq_l4095, zq_l4096, zq_j0, zq_j1, zq_j4, zq_j5, zq_j7, zq_j8, zq_j9, zq_j23, zq_j255, zq_j4095]
          rw [if_pos hx, if_neg hb, if_pos hr, if_pos (zq_in.mpr ⟨by omega, by omega⟩), e16n, ← hL, ← hs2]
          exact f
        · have at2 : ∀ a b, s2.1 a b = if a = 54 ∧ b = 0 then s.1 54 0 + 1 else if a = 44 ∧ b = 16 + k then 0 else if a = 43 ∧ b = 7 then L else if a = 18 ∧ b = 0 then s.1 18 0 + 1 else if a = 2 ∧ b = k then 0 else if a = 1 ∧ b = 3 then L else s.1 a b := by
            intro a b
            rw [hs2, zy_up_at, zy_up_at, zy_up_at, hs1, zy_up_at, zy_up_at, zy_up_at]
          have e : ∀ a b, zch a → s2.1 a b = s.1 a b := by
            intro a b ha
            unfold zch at ha
            rw [at2, if_neg (by omega), if_neg (by omega), if_neg (by omega), if_neg (by omega), if_neg (by omega), if_neg (by omega)]
          have e1 : ∀ b, b ≠ 3 → s2.1 1 b = s.1 1 b := by
            intro b hb3
            rw [at2, if_neg (by omega), if_neg (by omega), if_neg (by omega), if_neg (by omega), if_neg (by omega), if_neg (by omega)]
          have e43 : ∀ b, b ≠ 7 → s2.1 43 b = s.1 43 b := by
            intro b hb7
            rw [at2, if_neg (by omega), if_neg (by omega), if_neg (by omega), if_neg (by omega), if_neg (by omega), if_neg (by omega)]
          have e2 : ∀ p, s2.1 2 p = if 2 = 2 ∧ p = k then 0 else s.1 2 p := by
            intro p
            rw [at2, if_neg (by omega), if_neg (by omega), if_neg (by omega), if_neg (by omega)]
            by_cases g : p = k
            · rw [if_pos ⟨rfl, g⟩, if_pos ⟨rfl, g⟩]
            · rw [if_neg (by omega), if_neg (by omega), if_neg (by omega)]
          have e3 : ∀ p, s2.1 3 p = if 3 = 2 ∧ p = k then 0 else s.1 3 p := by
            intro p
            rw [at2, if_neg (by omega), if_neg (by omega), if_neg (by omega), if_neg (by omega), if_neg (by omega), if_neg (by omega), if_neg (by omega)]
          have e4 : ∀ p, s2.1 4 p = if 4 = 2 ∧ p = k then 0 else s.1 4 p := by
            intro p
            rw [at2, if_neg (by omega), if_neg (by omega), if_neg (by omega), if_neg (by omega), if_neg (by omega), if_neg (by omega), if_neg (by omega)]
          have e44 : ∀ p, s2.1 44 p = if p = 16 + k then 0 else s.1 44 p := by
            intro p
            rw [at2, if_neg (by omega)]
            by_cases g : p = 16 + k
            · rw [if_pos ⟨rfl, g⟩, if_pos g]
            · rw [if_neg (by omega), if_neg (by omega), if_neg (by omega), if_neg (by omega), if_neg (by omega), if_neg g]
          obtain ⟨q2, q3, q4, q5⟩ := zPl_R (c := 2) (k := k) (q := 16 + k) (v := 0) (t := s2) (Or.inr (Or.inr (Or.inl ⟨rfl, by omega, rfl⟩))) ⟨fun g => absurd g (by decide), fun g => absurd g (by decide), fun _ => ⟨by decide, by decide⟩, fun g => absurd g (by decide)⟩ h2 h3 h4 h5 e3 e4 e2 (by rw [e1 4 (by decide), if_neg (by omega)]) e44
          have q6 : zR6 s2 := by
            unfold zR6
            have a1 : s2.1 1 3 = L := by rw [at2, if_neg (by omega), if_neg (by omega), if_neg (by omega), if_neg (by omega), if_neg (by omega), if_pos ⟨rfl, rfl⟩]
            have a2 : s2.1 43 7 = L := by rw [at2, if_neg (by omega), if_neg (by omega), if_pos ⟨rfl, rfl⟩]
            rw [a1, a2]
            exact ⟨rfl, hLb⟩
          have q7 : zR7 s2 := by
            intro p hp
            have g := h7 p hp
            have g0 := h7 0 (by decide)
            rw [at2, at2]
            by_cases gp : p = 0
            · subst gp
              rw [if_neg (by omega), if_neg (by omega), if_neg (by omega), if_pos ⟨rfl, rfl⟩, if_pos ⟨rfl, rfl⟩, g0]
            · rw [if_neg (by omega), if_neg (by omega), if_neg (by omega), if_neg (by omega), if_neg (by omega), if_neg (by omega), if_neg (by omega), if_neg (by omega), if_neg (by omega), if_neg (by omega), if_neg (by omega), if_neg (by omega)]
              exact g
          exact zI_chalk h (by rw [hs2, hs1]; rfl) (zRg_chalk hg e e1 e43 q5 q6) e e1 e43 q2 q3 q4 q5 q6 q7
  · refine ⟨-1, s, s, ?_, ?_, h⟩
    · unfold zyF131
      simp only [zys26, true_and, and_true, zqb_t0, Classical.not_not, Bool.not_eq_false, zq_bind, zqb_n0, zqb_e0, decide_eq_true_eq, decide_eq_false_iff_not, ne_eq, zq_eq, Int32.toInt_toInt64, Int32.lt_iff_toInt_lt, Int32.le_iff_toInt_le, zq_l0, zq_lm1, zq_l1, zq_l2, zq_l3, zq_l4, zq_l5, zq_l6, zq_l7, zq_l8, zq_l9, zq_l12, zq_l16, zq_l23, zq_l24, zq_l40, zq_l39, zq_l50, zq_l51, zq_l60, zq_l120, zq_l128, zq_l255, zq_l4095, zq_l4096, zq_j0, zq_j1, zq_j4, zq_j5, zq_j7, zq_j8, zq_j9, zq_j23, zq_j255, zq_j4095]
      rw [if_neg hx]
    · unfold zyF240
      simp only [zys186, true_and, and_true, zqb_t0, Classical.not_not, Bool.not_eq_false, zq_bind, zqb_n0, zqb_e0, decide_eq_true_eq, decide_eq_false_iff_not, ne_eq, zq_eq, Int32.toInt_toInt64, Int32.lt_iff_toInt_lt, Int32.le_iff_toInt_le, zq_l0, zq_lm1, zq_l1, zq_l2, zq_l3, zq_l4, zq_l5, zq_l6, zq_l7, zq_l8, zq_l9, zq_l12, zq_l16, zq_l23, zq_l24, zq_l40, zq_l39, zq_l50, zq_l51, zq_l60, zq_l120, zq_l128, zq_l255, zq_l4095, zq_l4096, zq_j0, zq_j1, zq_j4, zq_j5, zq_j7, zq_j8, zq_j9, zq_j23, zq_j255, zq_j4095]
      rw [if_neg hx]
