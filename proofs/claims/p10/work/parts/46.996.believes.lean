/-! PART 46.996: what a BOOK leaves. Made by wip/v4/gen_whose.py. -/
/-- a two is so for a VIEW of a MATTER, if it is of it -/
def zbF (s : zy_S) (c j : Nat) (m v : Int32) : Prop := (zbI s c j ∧ zbL s c j / (4 : Int32) = m) → zbS s c j (decide (zbL s c j - zbL s c j / (4 : Int32) * (4 : Int32) = v))
def zbA4 (s : zy_S) (c : Nat) (m v : Int32) : Prop := ∀ j : Nat, 2 * (j : Int) < (s.1 c 3).toInt → zbF s c j m v
section ZB
variable {s : zy_S} {c : Nat}
theorem zl_114 (hl : zin (s.1 c 3) 0 60) (m v : Int32) : ∀ (n k : Nat) (b0 : Bool) (i : Int32), i.toInt = (k : Int) → k ≤ 30 → 30 - k < n → ∃ b : Bool, zyF114_5 n c m v (zqb b0) i s = some (zqb b, s) ∧ (b = true ↔ b0 = true ∧ ∀ j : Nat, k ≤ j → 2 * (j : Int) < (s.1 c 3).toInt → zbF s c j m v)
  | 0, k, b0, i, hi, hk, hn => by omega
  | n + 1, k, b0, i, hi, hk, hn => by
    obtain ⟨l0, l1⟩ := id hl
    obtain ⟨q, fq, eq⟩ := zys109 hl
    show ∃ b : Bool, zyF114_5b (zyF114_5 n) c m v (zqb b0) i s = _ ∧ _
    unfold zyF114_5b
    rw [fq, zq_bind]
    dsimp only
    by_cases g : (s.1 c 3).toInt ≤ 2 * (k : Int)
    · rw [if_pos (by rw [Int32.le_iff_toInt_le]; omega), if_pos (zqb_01 b0)]
      exact ⟨b0, rfl, ⟨fun e => ⟨e, fun j hj hl => by omega⟩, fun e => e.1⟩⟩
    · have nx : ∀ b1 : Bool, (b1 = true ↔ b0 = true ∧ zbF s c k m v) → ∃ b : Bool, zyF114_5 n c m v (zqb b1) (i + (1 : Int32)) s = some (zqb b, s) ∧ (b = true ↔ b0 = true ∧ ∀ j : Nat, k ≤ j → 2 * (j : Int) < (s.1 c 3).toInt → zbF s c j m v) := by
        intro b1 hb
        obtain ⟨b, f1, f2⟩ := zl_114 hl m v n (k + 1) b1 (i + (1 : Int32)) (by rw [zq_add (by rw [zq_l1]; omega) (by rw [zq_l1]; omega), zq_l1, hi]; omega) (by omega) (by omega)
        refine ⟨b, f1, ?_⟩
        rw [f2, hb]
        constructor
        · rintro ⟨⟨a1, a2⟩, a3⟩
          refine ⟨a1, fun j hj hl => ?_⟩
          by_cases e : j = k
          · subst e
            exact a2
          · exact a3 j (by omega) hl
        · rintro ⟨a1, a2⟩
          exact ⟨⟨a1, a2 k (Nat.le_refl _) (by omega)⟩, fun j hj hl => a2 j (by omega) hl⟩
      have o40 : zbF s c k m v → ∃ b : Bool, zyF114_40 (zyF114_5 n) c m v (zqb b0) i s = some (zqb b, s) ∧ (b = true ↔ b0 = true ∧ ∀ j : Nat, k ≤ j → 2 * (j : Int) < (s.1 c 3).toInt → zbF s c j m v) := by
        intro hF
        unfold zyF114_40 zyF114_41
        cases b0 with
        | false =>
          rw [if_pos rfl]
          exact nx false ⟨fun e => (by cases e), fun e => e.1⟩
        | true =>
          rw [if_neg (by decide), if_pos rfl]
          exact nx true ⟨fun _ => ⟨rfl, hF⟩, fun _ => rfl⟩
      rw [if_neg (by rw [Int32.le_iff_toInt_le]; omega), zys110 s hi (by omega), zq_bind]
      dsimp only
      by_cases gi : zbI s c k
      · have gn : ¬ zbL s c k = -1 := fun q => by
          have := gi.1
          rw [q] at this
          exact absurd this (by decide)
        rw [if_pos gi, if_neg gn]
        by_cases gm : zbL s c k / (4 : Int32) = m
        · rw [if_neg (not_not_intro gm)]
          obtain ⟨b1, f1, f2⟩ := zys111 (w := v) hl hi (by omega)
          unfold zyF114_41
          cases b0 with
          | false =>
            rw [if_pos (show zqb false = 0 from rfl)]
            exact nx false ⟨fun e => (by cases e), fun e => e.1⟩
          | true =>
            rw [if_neg (by decide), if_neg (by decide), f1, zq_bind]
            dsimp only
            have hb : b1 = true ↔ true = true ∧ zbF s c k m v := by
              rw [f2]
              exact ⟨fun e => ⟨rfl, fun _ => e⟩, fun e => e.2 ⟨gi, gm⟩⟩
            cases b1 with
            | false =>
              rw [if_pos (by decide)]
              exact nx false hb
            | true =>
              rw [if_neg (by decide)]
              exact nx true hb
        · rw [if_pos gm]
          exact o40 (fun e => absurd e.2 gm)
      · rw [if_neg gi, if_pos rfl]
        exact o40 (fun e => absurd e.1 gi)
theorem zys114 (hl : zin (s.1 c 3) 0 60) (m v : Int32) : ∃ b : Bool, zyF114 c m v s = some (zqb b, s) ∧ (b = true ↔ zbA4 s c m v) := by
  obtain ⟨b, f1, f2⟩ := zl_114 hl m v zy_fu 0 true 0 rfl (by omega) (by unfold zy_fu; omega)
  exact ⟨b, f1, by rw [f2]; exact ⟨fun e j hj => e.2 j (Nat.zero_le _) hj, fun e => ⟨rfl, fun j _ hj => e j hj⟩⟩⟩
theorem zl_c113 (hl : zin (s.1 c 3) 0 60) (m : Int32) : ∀ (n k : Nat) (acc i : Int32), i.toInt = (k : Int) → k ≤ 4 → 4 - k < n → 0 ≤ acc.toInt → ∃ r, zyF113_4 n c m acc i s = some (r, s) ∧ 0 ≤ r.toInt ∧ ∀ j : Nat, (r.toInt.toNat.testBit j = true ↔ acc.toInt.toNat.testBit j = true ∨ (k ≤ j ∧ j < 4 ∧ zbA4 s c m (Int32.ofInt (j : Int))))
  | 0, k, acc, i, hi, hk, hn, ha => by omega
  | n + 1, k, acc, i, hi, hk, hn, ha => by
    show ∃ r, zyF113_4b (zyF113_4 n) c m acc i s = _ ∧ _
    unfold zyF113_4b zyF113_26
    by_cases g : k = 4
    · rw [if_pos (by rw [Int32.le_iff_toInt_le, zq_l4]; omega)]
      refine ⟨acc, rfl, ha, fun j => ⟨Or.inl, fun q => ?_⟩⟩
      rcases q with q | ⟨a, b, -⟩
      · exact q
      · omega
    · have eik : Int32.ofInt (k : Int) = i := zq_ext (by rw [hi]; exact Int32.toInt_ofInt_of_le (by omega) (by omega))
      obtain ⟨b, f1, f2⟩ := zys114 hl m i
      rw [if_neg (by rw [Int32.le_iff_toInt_le, zq_l4]; omega), f1, zq_bind]
      dsimp only
      have fin : ∀ y : Int32, (y = if b = true then (1 : Int32) <<< (i &&& 31) else 0) → ∃ r, zyF113_4 n c m (acc ||| y) (i + (1 : Int32)) s = some (r, s) ∧ 0 ≤ r.toInt ∧ ∀ j : Nat, (r.toInt.toNat.testBit j = true ↔ acc.toInt.toNat.testBit j = true ∨ (k ≤ j ∧ j < 4 ∧ zbA4 s c m (Int32.ofInt (j : Int)))) := by
        intro y hy
        obtain ⟨q0, q1⟩ := zmk_add (k := k) ha hi (by omega) hy
        obtain ⟨r, g1, g2, g3⟩ := zl_c113 hl m n (k + 1) _ (i + (1 : Int32)) (by rw [zq_add (by rw [zq_l1]; omega) (by rw [zq_l1]; omega), zq_l1, hi]; omega) (by omega) (by omega) q0
        refine ⟨r, g1, g2, fun j => ?_⟩
        rw [g3, q1, Bool.or_eq_true, Bool.and_eq_true, decide_eq_true_eq]
        by_cases ej : j = k
        · subst ej
          rw [eik]
          constructor
          · rintro ((q | ⟨-, q⟩) | ⟨a, b, c⟩)
            · exact Or.inl q
            · exact Or.inr ⟨Nat.le_refl _, by omega, f2.mp q⟩
            · omega
          · rintro (q | ⟨a, b, c⟩)
            · exact Or.inl (Or.inl q)
            · exact Or.inl (Or.inr ⟨rfl, f2.mpr c⟩)
        · constructor
          · rintro ((q | ⟨q, -⟩) | ⟨a, b, c⟩)
            · exact Or.inl q
            · exact absurd q ej
            · exact Or.inr ⟨by omega, b, c⟩
          · rintro (q | ⟨a, b, c⟩)
            · exact Or.inl (Or.inl q)
            · exact Or.inr ⟨by omega, b, c⟩
      cases b with
      | true =>
        rw [if_neg (by decide)]
        exact fin _ rfl
      | false =>
        rw [if_pos (by decide)]
        exact fin 0 rfl
theorem zys113 (hl : zin (s.1 c 3) 0 60) (m : Int32) : ∃ r, zyF113 c m s = some (r, s) ∧ 0 ≤ r.toInt ∧ r.toInt < 16 ∧ ∀ j : Nat, (r.toInt.toNat.testBit j = true ↔ j < 4 ∧ zbA4 s c m (Int32.ofInt (j : Int))) := by
  obtain ⟨r, f1, f2, f3⟩ := zl_c113 hl m zy_fu 0 0 0 rfl (by omega) (by unfold zy_fu; omega) (by decide)
  have f4 : ∀ j : Nat, (r.toInt.toNat.testBit j = true ↔ j < 4 ∧ zbA4 s c m (Int32.ofInt (j : Int))) := fun j => by
    rw [f3, zq_l0, show (0 : Int).toNat = 0 from rfl, Nat.zero_testBit]
    exact ⟨fun e => by rcases e with e | e; exact absurd e (by decide); exact e.2, fun e => Or.inr ⟨Nat.zero_le _, e⟩⟩
  have lt : r.toInt.toNat < 2 ^ 4 := Nat.lt_pow_two_of_testBit _ (fun j hj => by
    cases hb : r.toInt.toNat.testBit j with
    | false => rfl
    | true =>
      have := ((f4 j).mp hb).1
      omega)
  exact ⟨r, f1, f2, by omega, f4⟩
theorem zl_115 (x : Int32) : ∀ (n k : Nat) (i : Int32), i.toInt = (k : Int) → k ≤ 4 → 4 - k < n → ∃ r, zyF115_2 n x i s = some (r, s)
  | 0, k, i, hi, hk, hn => by omega
  | n + 1, k, i, hi, hk, hn => by
    show ∃ r, zyF115_2b (zyF115_2 n) x i s = _
    unfold zyF115_2b
    by_cases g : k = 4
    · rw [if_pos (by rw [Int32.le_iff_toInt_le, zq_l4]; omega)]
      exact ⟨_, rfl⟩
    · have f32 : zyF32 x i s = some ((x >>> (i &&& 31)) &&& (1 : Int32), s) := rfl
      rw [if_neg (by rw [Int32.le_iff_toInt_le, zq_l4]; omega), f32, zq_bind]
      dsimp only
      split
      · exact zl_115 x n (k + 1) (i + (1 : Int32)) (by rw [zq_add (by rw [zq_l1]; omega) (by rw [zq_l1]; omega), zq_l1, hi]; omega) (by omega) (by omega)
      · exact ⟨_, rfl⟩
end ZB
theorem zl_232 {d : Nat} {x : Int32} {s : zy_S} (hd : d < 6) (hx : x.toInt = (d : Int)) (hE : zbE s d) (m v : Int32) : ∀ (n k : Nat) (i : Int32), i.toInt = (k : Int) → k ≤ 30 → 30 - k < n → ∃ r, zyF232_3 n x m v i s = some (r, s)
  | 0, k, i, hi, hk, hn => by omega
  | n + 1, k, i, hi, hk, hn => by
    obtain ⟨⟨l0, l1⟩, el, hv⟩ := id hE
    obtain ⟨e, en, e1, e1n⟩ := zq_2k hi (by omega)
    have xin : zy_in x 6 = true := zq_in.mpr ⟨by omega, by omega⟩
    have xn : x.toNatClampNeg = d := by rw [zq_ix]; omega
    have em : ((60 : Int32) * x).toInt = 60 * (d : Int) := by rw [zq_mul (by rw [zq_l60, hx]; omega) (by rw [zq_l60, hx]; omega), zq_l60, hx]
    show ∃ r, zyF232_3b (zyF232_3 n) x m v i s = _
    unfold zyF232_3b zyF232_96
    rw [if_pos xin, xn, el]
    by_cases g : (s.1 (zy_sh d) 3).toInt ≤ 2 * (k : Int) + 1
    · rw [if_pos (by rw [Int32.le_iff_toInt_le, e1]; exact g)]
      exact ⟨_, rfl⟩
    · have ea : ((60 : Int32) * x + (2 : Int32) * i).toInt = 60 * (d : Int) + 2 * k := by rw [zq_add (by rw [em, e]; omega) (by rw [em, e]; omega), em, e]
      have eb : ((60 : Int32) * x + (2 : Int32) * i + (1 : Int32)).toInt = 60 * (d : Int) + 2 * k + 1 := by rw [zq_add (by rw [ea, zq_l1]; omega) (by rw [ea, zq_l1]; omega), ea, zq_l1]
      have i1 : zy_in ((60 : Int32) * x + (2 : Int32) * i) 360 = true := zq_in.mpr ⟨by omega, by omega⟩
      have i2 : zy_in ((60 : Int32) * x + (2 : Int32) * i + (1 : Int32)) 360 = true := zq_in.mpr ⟨by omega, by omega⟩
      have ih := zl_232 hd hx hE m v n (k + 1) (i + (1 : Int32)) (by rw [zq_add (by rw [zq_l1]; omega) (by rw [zq_l1]; omega), zq_l1, hi]; omega) (by omega) (by omega)
      rw [if_neg (by rw [Int32.le_iff_toInt_le, e1]; exact g), if_pos i1, zys186, zq_bind]
      dsimp only
      rw [if_pos i1, if_pos i2, if_pos i1]
      have o90 : ∀ a b, ∃ r, zyF232_90 (zyF232_3 n) x m v i a b s = some (r, s) := by
        intro a b
        unfold zyF232_90 zyF232_96
        split
        · exact ih
        · exact ⟨_, rfl⟩
      repeat' split
      all_goals first | exact ih | exact o90 _ _
theorem zl_231 {d : Nat} {x : Int32} {s : zy_S} (hd : d < 6) (hx : x.toInt = (d : Int)) (hE : zbE s d) (m y : Int32) : ∀ (n k : Nat) (a b i : Int32), i.toInt = (k : Int) → k ≤ 4 → 4 - k < n → ∃ r, zyF231_57 n x m y a b i s = some (r, s)
  | 0, k, a, b, i, hi, hk, hn => by omega
  | n + 1, k, a, b, i, hi, hk, hn => by
    show ∃ r, zyF231_57b (zyF231_57 n) x m y a b i s = _
    unfold zyF231_57b zyF231_86 zyF231_91
    by_cases g : k = 4
    · rw [if_pos (by rw [Int32.le_iff_toInt_le, zq_l4]; omega)]
      split <;> exact ⟨_, rfl⟩
    · obtain ⟨q, fq⟩ := zl_232 hd hx hE m i zy_fu 0 0 rfl (by omega) (by unfold zy_fu; omega)
      have fq : zyF232 x m i s = some (q, s) := fq
      have ih := fun a b => zl_231 hd hx hE m y n (k + 1) a b (i + (1 : Int32)) (by rw [zq_add (by rw [zq_l1]; omega) (by rw [zq_l1]; omega), zq_l1, hi]; omega) (by omega) (by omega)
      rw [if_neg (by rw [Int32.le_iff_toInt_le, zq_l4]; omega), fq, zq_bind]
      dsimp only
      repeat' split
      all_goals exact ih _ _
/-- both end -/
theorem zfn_believes (x m y : Int32) {s : zy_S} (h : zI s) : ∃ r r' s1 s2, zyF112 x m y s = some (r, s1) ∧ zyF231 x m y s1 = some (r', s2) ∧ zI s2 := by
  have key : (∃ r, zyF112 x m y s = some (r, s)) ∧ ∃ r, zyF231 x m y s = some (r, s) := by
    by_cases hx : 0 ≤ x.toInt ∧ x.toInt ≤ 5
    · obtain ⟨hin, hdl, hxd⟩ := zx6 hx
      obtain ⟨d, hd⟩ : ∃ d, d = x.toNatClampNeg := ⟨_, rfl⟩
      rw [← hd] at hdl hxd
      have hw := h.1
      rcases zb_107 h hdl hxd with ⟨e, f1, f2, f3⟩ | ⟨f1, f2, ht⟩
      · have en : ¬ e = 0 ∧ ¬ e = -1 ∧ ¬ (0 : Int32) ≤ e := by rcases f3 with rfl | rfl <;> decide
        constructor
        · unfold zyF112
          simp only [zys18, zys84, ← hd, f1, zq_bind, zqb_e0, zqb_n0, decide_eq_false_iff_not, decide_eq_true_eq]
          rw [if_neg (not_not_intro hx), if_pos hin, if_pos hw, if_neg en.1]
          repeat' split
          all_goals exact ⟨_, rfl⟩
        · unfold zyF231
          simp only [f2, zys179, zq_bind, zqb_e0, zqb_n0, decide_eq_false_iff_not, decide_eq_true_eq]
          rw [if_neg en.2.1, if_neg en.2.2]
          repeat' split
          all_goals exact ⟨_, rfl⟩
      · have hE := zbE_of h hdl ht
        obtain ⟨v, g1, g2, g3, -⟩ := zys113 (s := s) (c := zy_sh d) hE.1 m
        obtain ⟨q, fq⟩ := zl_115 (s := s) v zy_fu 0 0 rfl (by omega) (by unfold zy_fu; omega)
        have fq : zyF115 v s = some (q, s) := fq
        obtain ⟨w, fw⟩ := zl_231 hdl hxd hE m y zy_fu 0 0 (-2) 0 rfl (by omega) (by unfold zy_fu; omega)
        constructor
        · unfold zyF112
          simp only [zys18, zys84, ← hd, f1, g1, fq, zys63 s g2 (show v.toInt ≤ 16777215 by omega), zq_bind, zqb_e0, zqb_n0, decide_eq_false_iff_not, decide_eq_true_eq]
          rw [if_neg (not_not_intro hx), if_pos hin, if_pos hw, if_pos True.intro]
          repeat' split
          all_goals exact ⟨_, rfl⟩
        · unfold zyF231
          simp only [f2, zys179, zq_bind, zqb_e0, zqb_n0, decide_eq_false_iff_not, decide_eq_true_eq]
          rw [if_neg (show ¬ ((1 : Int32) = -1) by decide), if_pos (show (0 : Int32) ≤ 1 by decide), fw]
          repeat' split
          all_goals exact ⟨_, rfl⟩
    · have f2 : zyF229 x s = some (-1, s) := by
        unfold zyF229
        simp only [zys182, zq_bind, zqb_n0, decide_eq_true_eq]
        rw [if_neg hx]
      constructor
      · unfold zyF112
        simp only [zys18, zq_bind, zqb_e0, decide_eq_false_iff_not]
        rw [if_pos hx]
        exact ⟨_, rfl⟩
      · unfold zyF231
        rw [f2, zq_bind]
        exact ⟨_, if_pos rfl⟩
  obtain ⟨⟨r, f1⟩, ⟨r', f2⟩⟩ := key
  exact ⟨r, r', s, s, f1, f2, h⟩
