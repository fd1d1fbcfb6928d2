/-! PART 46.995: win. Made by wip/v4/gen_win.py. -/
section ZW1
variable {s : zy_S} {P : Nat}
def zwnr (fc fm : Int32) : Prop := (fc = -1 ∧ fm = -2) ∨ (fc = fm ∧ 0 ≤ fc.toInt ∧ fc.toInt ≤ 255)
/-- what the model says of whom it found -/
def zwf (y fm : Int32) : Int32 := if fm < 0 then fm else if y ≠ (1 : Int32) then zpc fm else fm
theorem zw_sub {I B : Nat} (h : ∀ j, (I.testBit j && !B.testBit j) = false) : I ≤ B := by
  have e : I &&& B = I := by
    apply Nat.eq_of_testBit_eq
    intro j
    rw [Nat.testBit_and]
    have := h j
    cases hi : I.testBit j <;> cases hb : B.testBit j <;> simp [hi, hb] at this ⊢
  have := @Nat.and_le_right I B
  omega
theorem zl_224 (hP : zPe s P) {x y bel : Int32} (b0 : 0 ≤ bel.toInt) (hf : zyF223 x s = some (bel, s)) : ∀ (m k : Nat) (fm i : Int32), i.toInt = (k : Int) → bel.toInt < (k : Int) → k ≤ 2 ^ P → 2 ^ P - k < m → (fm = -2 ∨ 0 ≤ fm.toInt ∧ fm.toInt ≤ 255) → zyF224_26 m x y fm i s = some (zwf y fm, s)
  | 0, k, fm, i, hi, hb, hk, hm, hr => by omega
  | m + 1, k, fm, i, hi, hb, hk, hm, hr => by
    obtain ⟨p0, p1⟩ := zmk_bit (p := s.1 43 6) hP.2.1 (by have := hP.2.2.1; omega)
    have u : 2 ^ P ≤ 2 ^ 8 := Nat.pow_le_pow_right (by omega) hP.2.2.1
    show zyF224_26b (zyF224_26 m) x y fm i s = _
    unfold zyF224_26b zyF224_79
    by_cases g : k = 2 ^ P
    · rw [if_pos (by rw [Int32.le_iff_toInt_le]; omega)]
      unfold zwf
      by_cases f0 : fm < 0
      · rw [if_pos f0, if_pos f0]
      · rw [if_neg f0, if_neg f0]
        rcases hr with rfl | ⟨r0, r1⟩
        · exact absurd (by decide) f0
        · rw [zys209 s r0 (by omega), zq_bind]
          split <;> rfl
    · have ne : i &&& (bel ^^^ (-1 : Int32)) ≠ 0 := fun e => by
        obtain ⟨-, a1⟩ := zmk_andn (a := i) (b := bel) (by omega) b0
        have := zw_sub (I := i.toInt.toNat) (B := bel.toInt.toNat) (fun j => by rw [← a1, e, zq_l0, show (0 : Int).toNat = 0 from rfl, Nat.zero_testBit])
        omega
      rw [if_neg (by rw [Int32.le_iff_toInt_le]; omega), hf, zq_bind]
      dsimp only
      rw [if_pos ne]
      exact zl_224 hP b0 hf m (k + 1) fm (i + (1 : Int32)) (by rw [zq_add (by rw [zq_l1]; omega) (by rw [zq_l1]; omega), zq_l1, hi]; omega) (by omega) (by omega) (by omega) hr
theorem zl_101 (hP : zPe s P) {x y bel oth : Int32} (b0 : 0 ≤ bel.toInt) (hb : ∀ j, bel.toInt.toNat.testBit j = (decide (j < P) && zvbl s x j)) (hf : zyF223 x s = some (bel, s)) (o0 : 0 ≤ oth.toInt) (ho : ∀ j, j < P → oth.toInt.toNat.testBit j = !zvbl s x j) (hbl : bel.toInt.toNat < 2 ^ P) : ∀ (n m k : Nat) (fc fm i : Int32), i.toInt = (k : Int) → k ≤ bel.toInt.toNat + 1 → bel.toInt.toNat + 1 - k < n → 2 ^ P - k < m → zwnr fc fm → ∃ rc rm, zyF101_24 n bel oth fc i s = some (rc, s) ∧ zyF224_26 m x y fm i s = some (zwf y rm, s) ∧ zwnr rc rm
  | 0, m, k, fc, fm, i, hi, hk, hn, hm, hr => by omega
  | n + 1, 0, k, fc, fm, i, hi, hk, hn, hm, hr => by omega
  | n + 1, m + 1, k, fc, fm, i, hi, hk, hn, hm, hr => by
    have hr2 : fm = -2 ∨ 0 ≤ fm.toInt ∧ fm.toInt ≤ 255 := by
      rcases hr with ⟨-, e⟩ | ⟨e, a, b⟩
      · exact Or.inl e
      · exact Or.inr ⟨by rw [← e]; exact a, by rw [← e]; exact b⟩
    have u : 2 ^ P ≤ 2 ^ 8 := Nat.pow_le_pow_right (by omega) hP.2.2.1
    by_cases g : k = bel.toInt.toNat + 1
    · refine ⟨fc, fm, ?_, zl_224 hP b0 hf (m + 1) k fm i hi (by omega) (by omega) hm hr2, hr⟩
      show zyF101_24b (zyF101_24 n) bel oth fc i s = _
      unfold zyF101_24b
      rw [if_pos (by rw [Int32.lt_iff_toInt_lt]; omega)]
    · obtain ⟨p0, p1⟩ := zmk_bit (p := s.1 43 6) hP.2.1 (by have := hP.2.2.1; omega)
      have i0 : 0 ≤ i.toInt := by omega
      have ih := fun c w (hw : zwnr c w) => zl_101 hP b0 hb hf o0 ho hbl (y := y) n m (k + 1) c w (i + (1 : Int32)) (by rw [zq_add (by rw [zq_l1]; omega) (by rw [zq_l1]; omega), zq_l1, hi]; omega) (by omega) (by omega) (by omega) hw
      obtain ⟨w0, w1⟩ := zmk_or o0 i0
      have em : zmay s P (fun j => (oth ||| i).toInt.toNat.testBit j) = zmay s P (fun j => !zvbl s x j || i.toInt.toNat.testBit j) := zmay_congr (fun j hj => by
        show (oth ||| i).toInt.toNat.testBit j = _
        rw [w1, Nat.testBit_or, ho j hj])
      show ∃ rc rm, zyF101_24b (zyF101_24 n) bel oth fc i s = _ ∧ zyF224_26b (zyF224_26 m) x y fm i s = _ ∧ _
      unfold zyF101_24b zyF224_26b zyF101_49 zyF224_79
      have hb1 : ¬ (bel < i) := by rw [Int32.lt_iff_toInt_lt]; omega
      have hb2 : ¬ (((1 : Int32) <<< ((s.1 43 6) &&& 31)) ≤ i) := by rw [Int32.le_iff_toInt_le]; omega
      rw [if_neg hb1, if_neg hb2, hf, zq_bind]
      dsimp only
      -- if he may be found
      have try_ : ∃ rc rm, zyF101_54 (zyF101_24 n) bel oth fc i 1 s = some (rc, s) ∧ (if i &&& (bel ^^^ (-1 : Int32)) ≠ 0 then zyF224_26 m x y fm (i + (1 : Int32)) s else zyF224_66 (zyF224_26 m) x y fm i s) = some (zwf y rm, s) ∧ zwnr rc rm := by
        unfold zyF101_54 zyF101_85 zyF224_66 zyF224_79
        rw [if_neg (by decide)]
        by_cases a : i &&& (bel ^^^ (-1 : Int32)) = 0
        · rw [if_neg (not_not_intro a), if_neg (not_not_intro a), zys97 hP w0, zys221 hP x i0, zq_bind, zq_bind, em]
          dsimp only
          split
          · exact ih fc fm hr
          · exact ih i i (Or.inr ⟨rfl, i0, by omega⟩)
        · rw [if_pos a, if_pos a]
          exact ih fc fm hr
      have skip : ∃ rc rm, zyF101_54 (zyF101_24 n) bel oth fc i 0 s = some (rc, s) ∧ zyF224_26 m x y fm (i + (1 : Int32)) s = some (zwf y rm, s) ∧ zwnr rc rm := by
        unfold zyF101_54 zyF101_85
        rw [if_pos rfl]
        exact ih fc fm hr
      rcases hr with ⟨ec, ef⟩ | ⟨ec, c0, c1⟩
      · rw [if_pos ec, if_pos (show fm < 0 by rw [ef]; decide)]
        exact try_
      · have f0 : ¬ fm < 0 := by rw [Int32.lt_iff_toInt_lt, zq_l0, ← ec]; omega
        have c2 : ¬ fc = -1 := fun e => by rw [e] at c0; exact absurd c0 (by decide)
        rw [if_neg c2, if_neg f0, zys63 s i0 (by omega), zq_bind]
        dsimp only
        rw [zys63 s c0 (by omega), zq_bind]
        dsimp only
        rw [zys209 s i0 (by omega), zq_bind]
        dsimp only
        rw [← ec, zys209 s c0 (by omega), zq_bind]
        dsimp only
        rw [← ec] at try_ skip
        by_cases q : zpc fc ≤ zpc i
        · rw [if_pos q, if_pos q]
          have e : (if i &&& (bel ^^^ (-1 : Int32)) ≠ 0 then zyF224_26 m x y fc (i + (1 : Int32)) s else zyF224_26 m x y fc (i + (1 : Int32)) s) = zyF224_26 m x y fc (i + (1 : Int32)) s := by split <;> rfl
          rw [e]
          exact skip
        · rw [if_neg q, if_neg q]
          exact try_
end ZW1
theorem zop_win (x y : Int32) {s : zy_S} (h : zI s) : ∃ r s1 s2, zyF100 x y s = some (r, s1) ∧ zyF224 x y s1 = some (r, s2) ∧ zI s2 := by
  have hP := zPe_of h
  obtain ⟨P, hPP⟩ : ∃ P, P = (s.1 1 5).toInt.toNat := ⟨_, rfl⟩
  rw [← hPP] at hP
  by_cases hx : 0 ≤ x.toInt ∧ x.toInt ≤ 23
  · by_cases hy : 0 ≤ y.toInt ∧ y.toInt ≤ 1
    · obtain ⟨bel, f1, f2, b0, hb⟩ := zys95 hP x
      obtain ⟨o0, ho⟩ := zmk_oth hP x b0 hb
      have u : 2 ^ P ≤ 2 ^ 8 := Nat.pow_le_pow_right (by omega) hP.2.2.1
      have hbl : bel.toInt.toNat < 2 ^ P := Nat.lt_pow_two_of_testBit _ (fun j hj => by rw [hb, decide_eq_false (show ¬ j < P by omega), Bool.false_and])
      obtain ⟨rc, rm, g1, g2, g3⟩ := zl_101 hP (y := y) b0 hb f2 o0 ho hbl zy_fu zy_fu 0 (-1) (-2) 0 rfl (by omega) (by unfold zy_fu; omega) (by unfold zy_fu; omega) (Or.inl ⟨rfl, rfl⟩)
      have f51 : zyF51 s = some (((1 : Int32) <<< ((s.1 1 5) &&& 31)) - (1 : Int32), s) := rfl
      have f101 : zyF101 x s = some (rc, s) := by
        unfold zyF101
        rw [f1, zq_bind]
        dsimp only
        rw [f51, zq_bind]
        exact g1
      refine ⟨zwf y rm, s, s, ?_, ?_, h⟩
      · unfold zyF100
        simp only [zys26, zys84, f101, zq_bind, zqb_e0, zqb_n0, decide_eq_true_eq, decide_eq_false_iff_not]
        rw [if_neg (not_not_intro hx), if_pos hy]
        unfold zwf
        rcases g3 with ⟨e1, e2⟩ | ⟨e1, c0, c1⟩
        · rw [e1, e2, if_neg (by decide), if_pos (by decide)]
        · have c2 : rc ≠ -1 := fun e => by rw [e] at c0; exact absurd c0 (by decide)
          rw [if_pos c2, ← e1, if_neg (show ¬ rc < 0 by rw [Int32.lt_iff_toInt_lt, zq_l0]; omega)]
          by_cases y0 : y = 0
          · rw [if_neg (not_not_intro y0), zys63 s c0 (by omega), zq_bind, if_pos (by rw [y0]; decide)]
          · have y1 : y = 1 := zq_ext (by have : y.toInt ≠ 0 := fun e => y0 (zq_ext e); rw [zq_l1]; omega)
            rw [if_pos y0, if_neg (not_not_intro y1)]
      · unfold zyF224
        simp only [zys186, zys179, zq_bind, zqb_e0, zqb_n0, decide_eq_true_eq, decide_eq_false_iff_not, Int32.toInt_toInt64, zq_j0, zq_j1]
        rw [if_neg (not_not_intro hx), if_pos hy, g2]
    · refine ⟨-1, s, s, ?_, ?_, h⟩
      · unfold zyF100
        simp only [zys26, zys84, zq_bind, zqb_e0, zqb_n0, decide_eq_true_eq, decide_eq_false_iff_not]
        rw [if_neg (not_not_intro hx), if_neg hy]
      · unfold zyF224
        simp only [zys186, zys179, zq_bind, zqb_e0, zqb_n0, decide_eq_true_eq, decide_eq_false_iff_not, Int32.toInt_toInt64, zq_j0, zq_j1]
        rw [if_neg (not_not_intro hx), if_neg hy]
  · refine ⟨-1, s, s, ?_, ?_, h⟩
    · unfold zyF100
      simp only [zys26, zq_bind, zqb_e0, decide_eq_false_iff_not]
      rw [if_pos hx]
    · unfold zyF224
      simp only [zys186, zq_bind, zqb_e0, decide_eq_false_iff_not, Int32.toInt_toInt64]
      rw [if_pos hx]
