/-! PART 46.997: whose. Made by wip/v4/gen_whose.py. -/
/-- how many of n from k on -/
def zcn (p : Nat → Bool) : Nat → Nat → Nat
  | 0, _ => 0
  | n + 1, k => (if p k = true then 1 else 0) + zcn p n (k + 1)
theorem zcn_congr {p q : Nat → Bool} : ∀ (n k : Nat), (∀ j, k ≤ j → j < k + n → p j = q j) → zcn p n k = zcn q n k
  | 0, _, _ => rfl
  | n + 1, k, h => by
    show (if p k = true then 1 else 0) + zcn p n (k + 1) = (if q k = true then 1 else 0) + zcn q n (k + 1)
    rw [h k (Nat.le_refl _) (by omega), zcn_congr n (k + 1) (fun j h1 h2 => h j (by omega) (by omega))]
theorem zcn_add (p : Nat → Bool) : ∀ (a b k : Nat), zcn p (a + b) k = zcn p a k + zcn p b (k + a)
  | 0, b, k => by rw [Nat.zero_add, Nat.add_zero]; exact (Nat.zero_add _).symm
  | a + 1, b, k => by
    have e : a + 1 + b = (a + b) + 1 := by omega
    rw [e]
    show (if p k = true then 1 else 0) + zcn p (a + b) (k + 1) = ((if p k = true then 1 else 0) + zcn p a (k + 1)) + zcn p b (k + (a + 1))
    rw [zcn_add p a b (k + 1), show k + 1 + a = k + (a + 1) by omega]
    exact (Nat.add_assoc _ _ _).symm
theorem zcn_shift (p : Nat → Bool) (d : Nat) : ∀ (n k : Nat), zcn p n (k + d) = zcn (fun j => p (j + d)) n k
  | 0, _ => rfl
  | n + 1, k => by
    show (if p (k + d) = true then 1 else 0) + zcn p n (k + d + 1) = (if p (k + d) = true then 1 else 0) + zcn (fun j => p (j + d)) n (k + 1)
    rw [← zcn_shift p d n (k + 1), show k + d + 1 = k + 1 + d by omega]
theorem zcn_and (p : Nat → Bool) (b : Bool) (n k : Nat) : zcn (fun j => p j && b) n k = (if b = true then 1 else 0) * zcn p n k := by
  cases b with
  | true =>
    rw [if_pos rfl, Nat.one_mul]
    exact zcn_congr n k (fun j _ _ => Bool.and_true _)
  | false =>
    rw [if_neg (by decide), Nat.zero_mul]
    have : ∀ (n k : Nat), zcn (fun j => p j && false) n k = 0 := by
      intro n
      induction n with
      | zero => intro k; rfl
      | succ n ih =>
        intro k
        show (if (p k && false) = true then 1 else 0) + zcn (fun j => p j && false) n (k + 1) = 0
        rw [ih (k + 1), Bool.and_false, if_neg (by decide)]
    exact this n k
theorem zcn_le (p : Nat → Bool) : ∀ (n k : Nat), zcn p n k ≤ n
  | 0, _ => Nat.le_refl _
  | n + 1, k => by
    have := zcn_le p n (k + 1)
    show (if p k = true then 1 else 0) + zcn p n (k + 1) ≤ n + 1
    split <;> omega
def zallg (g : Nat → Nat → Bool) : Nat → Nat → Bool
  | 0, _ => true
  | M + 1, x => zallg g M x && g M (x / 4 ^ M % 4)
def zpr (g : Nat → Nat → Bool) : Nat → Nat
  | 0 => 1
  | M + 1 => zpr g M * zcn (g M) 4 0
theorem zall_low (g : Nat → Nat → Bool) (d M : Nat) : ∀ (i j : Nat), i ≤ M → zallg g i (j + d * 4 ^ M) = zallg g i j
  | 0, _, _ => rfl
  | i + 1, j, h => by
    show (zallg g i (j + d * 4 ^ M) && g i ((j + d * 4 ^ M) / 4 ^ i % 4)) = (zallg g i j && g i (j / 4 ^ i % 4))
    have e : d * 4 ^ M = 4 ^ i * (4 * (d * 4 ^ (M - i - 1))) := by
      have e1 : M = i + (1 + (M - i - 1)) := by omega
      have e2 : 4 ^ M = 4 ^ i * (4 * 4 ^ (M - i - 1)) := by
        conv => lhs; rw [e1, Nat.pow_add, Nat.pow_add, Nat.pow_one]
      rw [e2, Nat.mul_left_comm, Nat.mul_left_comm d 4]
    rw [zall_low g d M i j (by omega), e, Nat.add_mul_div_left _ _ (Nat.pow_pos (by omega)), Nat.add_mul_mod_self_left]
theorem zcn_prod (g : Nat → Nat → Bool) : ∀ M, zcn (zallg g M) (4 ^ M) 0 = zpr g M
  | 0 => rfl
  | M + 1 => by
    have ih := zcn_prod g M
    have blk : ∀ d, d < 4 → zcn (zallg g (M + 1)) (4 ^ M) (0 + d * 4 ^ M) = (if g M d = true then 1 else 0) * zpr g M := by
      intro d hd
      rw [zcn_shift, ← ih, ← zcn_and]
      refine zcn_congr _ _ (fun j _ hj => ?_)
      show (zallg g M (j + d * 4 ^ M) && g M ((j + d * 4 ^ M) / 4 ^ M % 4)) = (zallg g M j && g M d)
      have e : (j + d * 4 ^ M) / 4 ^ M = d := by
        rw [Nat.mul_comm, Nat.add_mul_div_left _ _ (Nat.pow_pos (by omega)), Nat.div_eq_of_lt (by omega), Nat.zero_add]
      rw [zall_low g d M M j (Nat.le_refl _), e, Nat.mod_eq_of_lt hd]
    have b0 := blk 0 (by omega)
    have b1 := blk 1 (by omega)
    have b2 := blk 2 (by omega)
    have b3 := blk 3 (by omega)
    have e4 : 4 ^ (M + 1) = 4 ^ M + (4 ^ M + (4 ^ M + 4 ^ M)) := by rw [Nat.pow_succ]; omega
    rw [e4, zcn_add, zcn_add, zcn_add]
    have f1 : 0 + 4 ^ M = 0 + 1 * 4 ^ M := by omega
    have f2 : 0 + 4 ^ M + 4 ^ M = 0 + 2 * 4 ^ M := by omega
    have f3 : 0 + 4 ^ M + 4 ^ M + 4 ^ M = 0 + 3 * 4 ^ M := by omega
    rw [f3, f2, f1, b1, b2, b3]
    rw [Nat.zero_mul, Nat.add_zero] at b0
    rw [b0]
    show _ = zpr g M * ((if g M 0 = true then 1 else 0) + ((if g M 1 = true then 1 else 0) + ((if g M 2 = true then 1 else 0) + ((if g M 3 = true then 1 else 0) + 0))))
    rw [Nat.add_zero, Nat.mul_add, Nat.mul_add, Nat.mul_add, Nat.mul_comm (zpr g M), Nat.mul_comm (zpr g M), Nat.mul_comm (zpr g M), Nat.mul_comm (zpr g M)]
theorem zpr_le (g : Nat → Nat → Bool) : ∀ M, zpr g M ≤ 4 ^ M
  | 0 => Nat.le_refl _
  | M + 1 => by
    rw [Nat.pow_succ]
    exact Nat.mul_le_mul (zpr_le g M) (zcn_le (g M) 4 0)
/-- a code's digit is its VIEW -/
theorem zvf_dig {x m : Nat} (hx : x < 4096) (hm : m < 6) : zvf (Int32.ofInt (x : Int)) (Int32.ofInt (m : Int)) = Int32.ofInt ((x / 4 ^ m % 4 : Nat) : Int) := by
  have ex : (Int32.ofInt (x : Int)).toInt = (x : Int) := Int32.toInt_ofInt_of_le (by omega) (by omega)
  have emm : (Int32.ofInt (m : Int)).toInt = (m : Int) := Int32.toInt_ofInt_of_le (by omega) (by omega)
  have e : (zvf (Int32.ofInt (x : Int)) (Int32.ofInt (m : Int))).toInt = zb_c 13 (zb_c 17 (Int32.ofInt (x : Int)).toInt ((2 : Int32) * Int32.ofInt (m : Int)).toInt) 3 := by
    have e1 : (zvf (Int32.ofInt (x : Int)) (Int32.ofInt (m : Int))).toInt = (zb 13 (zb 17 (Int32.ofInt (x : Int)) ((2 : Int32) * Int32.ofInt (m : Int))) 3).toInt := rfl
    rw [e1, zb_cEq 13 _ _ (by omega), zb_cEq 17 _ _ (by omega)]
    rfl
  have e4 : ((2 : Int32) * Int32.ofInt (m : Int)).toInt = ((2 * m : Nat) : Int) := by rw [zq_mul (by rw [zq_l2]; omega) (by rw [zq_l2]; omega), zq_l2, emm]; omega
  have u : x / 2 ^ (2 * m) ≤ x := Nat.div_le_self _ _
  have e15 : (3 : Int) = ((3 : Nat) : Int) := rfl
  have e3 : x / 2 ^ (2 * m) &&& 3 = x / 2 ^ (2 * m) % 4 := Nat.and_two_pow_sub_one_eq_mod _ 2
  have ep : 2 ^ (2 * m) = 4 ^ m := by rw [Nat.pow_mul]
  rw [ex, e4, zN_shr (by omega) (by omega), e15, zN_and (by omega) (by omega), e3, ep] at e
  have lt : x / 4 ^ m % 4 < 4 := Nat.mod_lt _ (by omega)
  exact zq_ext (by rw [e]; exact (Int32.toInt_ofInt_of_le (by omega) (by omega)).symm)
section ZB2
variable {s : zy_S} {c : Nat}
/-- all of a book is so for a code -/
def zok (s : zy_S) (c x : Nat) : Prop := ∀ j : Nat, 2 * (j : Int) < (s.1 c 3).toInt → zbW s c j (Int32.ofInt (x : Int))
noncomputable def zokb (s : zy_S) (c x : Nat) : Bool := @decide (zok s c x) (Classical.propDecidable _)
def zbAI (s : zy_S) (c : Nat) : Prop := ∀ j : Nat, 2 * (j : Int) < (s.1 c 3).toInt → zbI s c j
noncomputable def zbg (s : zy_S) (c m d : Nat) : Bool := @decide (zbA4 s c (Int32.ofInt (m : Int)) (Int32.ofInt (d : Int))) (Classical.propDecidable _)
theorem zokb_t {x : Nat} : zokb s c x = true ↔ zok s c x := @decide_eq_true_iff _ (Classical.propDecidable _)
theorem zbg_t {m d : Nat} : zbg s c m d = true ↔ zbA4 s c (Int32.ofInt (m : Int)) (Int32.ofInt (d : Int)) := @decide_eq_true_iff _ (Classical.propDecidable _)
theorem zall_t (g : Nat → Nat → Bool) (x : Nat) : ∀ M, (zallg g M x = true ↔ ∀ m, m < M → g m (x / 4 ^ m % 4) = true)
  | 0 => ⟨fun _ m hm => by omega, fun _ => rfl⟩
  | M + 1 => by
    show (zallg g M x && g M (x / 4 ^ M % 4)) = true ↔ _
    rw [Bool.and_eq_true, zall_t g x M]
    constructor
    · rintro ⟨a, b⟩ m hm
      by_cases e : m = M
      · subst e
        exact b
      · exact a m (by omega)
    · intro a
      exact ⟨fun m hm => a m (by omega), a M (by omega)⟩
theorem zok_iff {x : Nat} (hx : x < 4096) : zok s c x ↔ zbAI s c ∧ zallg (zbg s c) 6 x = true := by
  rw [zall_t]
  have L4 : ∀ j, zbI s c j → ∃ m : Nat, m < 6 ∧ zbL s c j / (4 : Int32) = Int32.ofInt (m : Int) := fun j hj => by
    obtain ⟨d1, -⟩ := zq_div4 (a := zbL s c j) hj.1
    have := hj.2
    exact ⟨(zbL s c j).toInt.toNat / 4, by omega, zq_ext (by rw [d1, Int32.toInt_ofInt_of_le (by omega) (by omega)]; omega)⟩
  have vw : ∀ (j m : Nat), m < 6 → zbL s c j / (4 : Int32) = Int32.ofInt (m : Int) → zvw (Int32.ofInt (x : Int)) (zbL s c j) = decide (zbL s c j - zbL s c j / (4 : Int32) * (4 : Int32) = Int32.ofInt ((x / 4 ^ m % 4 : Nat) : Int)) := fun j m hm e => by
    have e1 : zvw (Int32.ofInt (x : Int)) (zbL s c j) = decide (zvf (Int32.ofInt (x : Int)) (zbL s c j / (4 : Int32)) = zbL s c j - zbL s c j / (4 : Int32) * (4 : Int32)) := rfl
    rw [e1]
    refine decide_eq_decide.mpr ?_
    constructor
    · intro q
      rw [← q, e, zvf_dig hx hm]
    · intro q
      rw [q, e, zvf_dig hx hm]
  constructor
  · intro h
    refine ⟨fun j hj => (h j hj).1, fun m hm => zbg_t.mpr (fun j hj hc => ?_)⟩
    have := h j hj
    unfold zbW at this
    rw [vw j m hm hc.2] at this
    exact this
  · rintro ⟨h1, h2⟩ j hj
    obtain ⟨m, hm, e⟩ := L4 j (h1 j hj)
    have := zbg_t.mp (h2 m hm) j hj ⟨h1 j hj, e⟩
    unfold zbW
    rw [vw j m hm e]
    exact this
theorem zok_n : (zbAI s c → zcn (zokb s c) 4096 0 = zpr (zbg s c) 6) ∧ (¬ zbAI s c → zcn (zokb s c) 4096 0 = 0) := by
  constructor
  · intro h
    rw [← zcn_prod (zbg s c) 6]
    exact zcn_congr 4096 0 (fun j _ hj => Bool.eq_iff_iff.mpr (by rw [zokb_t, zok_iff (by omega)]; exact ⟨fun q => q.2, fun q => ⟨h, q⟩⟩))
  · intro h
    have e : zcn (zokb s c) 4096 0 = zcn (fun j => true && false) 4096 0 := zcn_congr 4096 0 (fun j _ hj => by
      show _ = false
      cases hb : zokb s c j with
      | false => rfl
      | true => exact absurd ((zok_iff (by omega)).mp (zokb_t.mp hb)).1 h)
    rw [e, zcn_and, if_neg (by decide), Nat.zero_mul]
/-- the class's CODES -/
theorem zpop_16 : ∀ n : Nat, n < 16 → zpopN 24 n = (if n.testBit 0 = true then 1 else 0) + ((if n.testBit 1 = true then 1 else 0) + ((if n.testBit 2 = true then 1 else 0) + ((if n.testBit 3 = true then 1 else 0) + 0))) := by decide +kernel
theorem zbg_n (hl : zin (s.1 c 3) 0 60) {m : Nat} (hm : m < 6) : ∃ r, zyF113 c (Int32.ofInt (m : Int)) s = some (r, s) ∧ zyF63 r s = some (zpc r, s) ∧ (zpc r).toInt = ((zcn (zbg s c m) 4 0 : Nat) : Int) := by
  obtain ⟨r, f1, f2, f3, f4⟩ := zys113 hl (Int32.ofInt (m : Int))
  refine ⟨r, f1, zys63 s f2 (by omega), ?_⟩
  have b : zpopN 24 r.toInt.toNat ≤ 24 := zpopN_le r.toInt.toNat 24
  have e : (zpc r).toInt = ((zpopN 24 r.toInt.toNat : Nat) : Int) := by
    unfold zpc zpo
    exact Int32.toInt_ofInt_of_le (by omega) (by omega)
  rw [e, zpop_16 _ (by omega)]
  have bit : ∀ d : Nat, d < 4 → r.toInt.toNat.testBit d = zbg s c m d := fun d hd => Bool.eq_iff_iff.mpr (by rw [f4, zbg_t]; exact ⟨fun q => q.2, fun q => ⟨hd, q⟩⟩)
  rw [bit 0 (by omega), bit 1 (by omega), bit 2 (by omega), bit 3 (by omega)]
  rfl
theorem zl_118b (hl : zin (s.1 c 3) 0 60) : ∀ (n k : Nat) (A i : Int32), i.toInt = (k : Int) → k ≤ 6 → 6 - k < n → (A.toInt = ((zpr (zbg s c) k : Nat) : Int) ∨ A.toInt = 0) → ∃ r, zyF118_35 n c A i s = some (r, s) ∧ (A.toInt = ((zpr (zbg s c) k : Nat) : Int) → r.toInt = ((zpr (zbg s c) 6 : Nat) : Int)) ∧ (A.toInt = 0 → r.toInt = 0)
  | 0, k, A, i, hi, hk, hn, hA => by omega
  | n + 1, k, A, i, hi, hk, hn, hA => by
    show ∃ r, zyF118_35b (zyF118_35 n) c A i s = _ ∧ _
    unfold zyF118_35b
    by_cases g : k = 6
    · subst g
      rw [if_pos (by rw [Int32.le_iff_toInt_le, zq_l6]; omega)]
      exact ⟨A, rfl, fun e => e, fun e => e⟩
    · have eik : i = Int32.ofInt (k : Int) := zq_ext (by rw [hi]; exact (Int32.toInt_ofInt_of_le (by omega) (by omega)).symm)
      obtain ⟨r, f1, f2, f3⟩ := zbg_n hl (show k < 6 by omega)
      rw [← eik] at f1
      have z4 := zcn_le (zbg s c k) 4 0
      have p4 := zpr_le (zbg s c) k
      have pk : 4 ^ k ≤ 4 ^ 6 := Nat.pow_le_pow_right (by omega) (by omega)
      have A0 : 0 ≤ A.toInt ∧ A.toInt ≤ 4096 := by rcases hA with e | e <;> omega
      have eA : (A * zpc r).toInt = A.toInt * ((zcn (zbg s c k) 4 0 : Nat) : Int) := by
        have m1 : 0 ≤ A.toInt * ((zcn (zbg s c k) 4 0 : Nat) : Int) := Int.mul_nonneg A0.1 (by omega)
        have m2 : A.toInt * ((zcn (zbg s c k) 4 0 : Nat) : Int) ≤ 4096 * 4 := Int.mul_le_mul A0.2 (by omega) (by omega) (by omega)
        rw [zq_mul (by rw [f3]; omega) (by rw [f3]; omega), f3]
      have e1 : A.toInt = ((zpr (zbg s c) k : Nat) : Int) → (A * zpc r).toInt = ((zpr (zbg s c) (k + 1) : Nat) : Int) := fun e => by
        rw [eA, e, ← Int.natCast_mul]
        rfl
      have e0 : A.toInt = 0 → (A * zpc r).toInt = 0 := fun e => by rw [eA, e, Int.zero_mul]
      obtain ⟨r', g1, g2, g3⟩ := zl_118b hl n (k + 1) (A * zpc r) (i + (1 : Int32)) (by rw [zq_add (by rw [zq_l1]; omega) (by rw [zq_l1]; omega), zq_l1, hi]; omega) (by omega) (by omega) (by
        rcases hA with e | e
        · exact Or.inl (e1 e)
        · exact Or.inr (e0 e))
      rw [if_neg (by rw [Int32.le_iff_toInt_le, zq_l6]; omega), f1, zq_bind]
      dsimp only
      rw [f2, zq_bind]
      dsimp only
      exact ⟨r', g1, fun e => g2 (e1 e), fun e => g3 (e0 e)⟩
theorem zl_118a (hl : zin (s.1 c 3) 0 60) : ∀ (n k : Nat) (A i : Int32), i.toInt = (k : Int) → k ≤ 30 → 30 - k < n → ∃ A', zyF118_4 n c A i s = zyF118_35 zy_fu c A' 0 s ∧ ((∀ j : Nat, k ≤ j → 2 * (j : Int) < (s.1 c 3).toInt → zbI s c j) → A' = A) ∧ ((¬ ∀ j : Nat, k ≤ j → 2 * (j : Int) < (s.1 c 3).toInt → zbI s c j) ∨ A = 0 → A' = 0)
  | 0, k, A, i, hi, hk, hn => by omega
  | n + 1, k, A, i, hi, hk, hn => by
    obtain ⟨l0, l1⟩ := id hl
    obtain ⟨q, fq, eq⟩ := zys109 hl
    show ∃ A', zyF118_4b (zyF118_4 n) c A i s = _ ∧ _
    unfold zyF118_4b zyF118_26
    rw [fq, zq_bind]
    dsimp only
    by_cases g : (s.1 c 3).toInt ≤ 2 * (k : Int)
    · rw [if_pos (by rw [Int32.le_iff_toInt_le]; omega)]
      refine ⟨A, rfl, fun _ => rfl, fun e => ?_⟩
      rcases e with e | e
      · exact absurd (fun j hj hl => by omega) e
      · exact e
    · have ih := fun w => zl_118a hl n (k + 1) w (i + (1 : Int32)) (by rw [zq_add (by rw [zq_l1]; omega) (by rw [zq_l1]; omega), zq_l1, hi]; omega) (by omega) (by omega)
      rw [if_neg (by rw [Int32.le_iff_toInt_le]; omega), zys110 s hi (by omega), zq_bind]
      dsimp only
      by_cases gi : zbI s c k
      · have gn : zbL s c k ≠ -1 := fun q => by
          have := gi.1
          rw [q] at this
          exact absurd this (by decide)
        rw [if_pos gi, if_pos gn]
        obtain ⟨A', f1, f2, f3⟩ := ih A
        refine ⟨A', f1, fun e => f2 (fun j hj => e j (by omega)), fun e => f3 ?_⟩
        rcases e with e | e
        · refine Or.inl (fun p => e (fun j hj hl => ?_))
          by_cases ej : j = k
          · subst ej
            exact gi
          · exact p j (by omega) hl
        · exact Or.inr e
      · rw [if_neg gi, if_neg (not_not_intro rfl)]
        obtain ⟨A', f1, f2, f3⟩ := ih 0
        exact ⟨A', f1, fun e => absurd (e k (Nat.le_refl _) (by omega)) gi, fun _ => f3 (Or.inr rfl)⟩
theorem zys118 (hl : zin (s.1 c 3) 0 60) : ∃ r, zyF118 c s = some (r, s) ∧ r.toInt = ((zcn (zokb s c) 4096 0 : Nat) : Int) := by
  obtain ⟨A', f1, f2, f3⟩ := zl_118a hl zy_fu 0 1 0 rfl (by omega) (by unfold zy_fu; omega)
  obtain ⟨n1, n2⟩ := zok_n (s := s) (c := c)
  by_cases h : zbAI s c
  · have eA := f2 (fun j _ hj => h j hj)
    obtain ⟨r, g1, g2, -⟩ := zl_118b hl zy_fu 0 A' 0 rfl (by omega) (by unfold zy_fu; omega) (Or.inl (by rw [eA]; rfl))
    exact ⟨r, f1.trans g1, by rw [n1 h]; exact g2 (by rw [eA]; rfl)⟩
  · have eA := f3 (Or.inl (fun p => h (fun j hj => p j (Nat.zero_le _) hj)))
    obtain ⟨r, g1, -, g3⟩ := zl_118b hl zy_fu 0 A' 0 rfl (by omega) (by unfold zy_fu; omega) (Or.inr (by rw [eA]; rfl))
    exact ⟨r, f1.trans g1, by rw [n2 h]; exact g3 (by rw [eA]; rfl)⟩
end ZB2
/-- the model's count -/
theorem zl_233 {d : Nat} {x y : Int32} {s : zy_S} (hd : d < 6) (hx : x.toInt = (d : Int)) (hE : zbE s d) (S : Int32) : ∀ (n k : Nat) (N i : Int32), i.toInt = (k : Int) → k ≤ 4096 → 4096 - k < n → 0 ≤ N.toInt → N.toInt ≤ (k : Int) → ∃ r : Int32, zyF233_89 n x y S N i s = some (if y ≠ 0 then r else S, s) ∧ r.toInt = N.toInt + ((zcn (zokb s (zy_sh d)) (4096 - k) k : Nat) : Int)
  | 0, k, N, i, hi, hk, hn, hN, hN2 => by omega
  | n + 1, k, N, i, hi, hk, hn, hN, hN2 => by
    show ∃ r : Int32, zyF233_89b (zyF233_89 n) x y S N i s = _ ∧ _
    unfold zyF233_89b zyF233_116
    by_cases g : k = 4096
    · subst g
      rw [if_pos (by rw [Int32.le_iff_toInt_le, zq_l4096]; omega)]
      refine ⟨N, ?_, by rw [Nat.sub_self]; show _ = N.toInt + 0; omega⟩
      split <;> rfl
    · have eik : Int32.ofInt (k : Int) = i := zq_ext (by rw [hi]; exact Int32.toInt_ofInt_of_le (by omega) (by omega))
      obtain ⟨r, -, f2, f3⟩ := zl_book (B := i) hd hx hE zy_fu zy_fu 0 0 rfl (by omega) (by unfold zy_fu; omega) (by unfold zy_fu; omega)
      have f2 : zyF230 x i s = some (r, s) := f2
      have e : 4096 - k = (4096 - (k + 1)) + 1 := by omega
      have hz : zokb s (zy_sh d) k = true ↔ r = -2 := by
        rw [zokb_t]
        unfold zok
        rw [eik]
        rcases f3 with ⟨e, p⟩ | ⟨e, p⟩
        · exact ⟨fun _ => e, fun _ j hj => p j (Nat.zero_le _) hj⟩
        · exact ⟨fun q => absurd (fun j _ hj => q j hj) p, fun q => by rw [q] at e; exact absurd e (by decide)⟩
      have ih := fun w h0 h1 => zl_233 (y := y) hd hx hE S n (k + 1) w (i + (1 : Int32)) (by rw [zq_add (by rw [zq_l1]; omega) (by rw [zq_l1]; omega), zq_l1, hi]; omega) (by omega) (by omega) h0 h1
      rw [if_neg (by rw [Int32.le_iff_toInt_le, zq_l4096]; omega), f2, zq_bind, e]
      dsimp only
      by_cases er : r = -2
      · rw [if_neg (not_not_intro er)]
        have eN : (N + (1 : Int32)).toInt = N.toInt + 1 := by rw [zq_add (by rw [zq_l1]; omega) (by rw [zq_l1]; omega), zq_l1]
        obtain ⟨q, g1, g2⟩ := ih (N + (1 : Int32)) (by omega) (by omega)
        refine ⟨q, g1, ?_⟩
        show q.toInt = N.toInt + (((if zokb s (zy_sh d) k = true then 1 else 0) + zcn (zokb s (zy_sh d)) (4096 - (k + 1)) (k + 1) : Nat) : Int)
        rw [if_pos (hz.mpr er), g2, eN]
        omega
      · rw [if_pos er]
        have eN : (N + (0 : Int32)).toInt = N.toInt := by rw [zq_add (by rw [zq_l0]; omega) (by rw [zq_l0]; omega), zq_l0]; omega
        obtain ⟨q, g1, g2⟩ := ih (N + (0 : Int32)) (by omega) (by omega)
        refine ⟨q, g1, ?_⟩
        show q.toInt = N.toInt + (((if zokb s (zy_sh d) k = true then 1 else 0) + zcn (zokb s (zy_sh d)) (4096 - (k + 1)) (k + 1) : Nat) : Int)
        rw [if_neg (fun w => er (hz.mp w)), g2, eN]
        omega
theorem zl_117 {d P : Nat} {x y : Int32} {s : zy_S} (hP : zPe s P) (hd : d < 6) (hx : x.toInt = (d : Int)) (hE : zbE s d) : ∀ (n m k : Nat) (acc i : Int32), i.toInt = (k : Int) → k ≤ P → P - k < n → P - k < m → ∃ r, zyF117_4 n (zy_sh d) acc i s = some (r, s) ∧ zyF233_40 m x y acc i s = zyF233_89 zy_fu x y r 0 0 s
  | 0, m, k, acc, i, hi, hk, hn, hm => by omega
  | n + 1, 0, k, acc, i, hi, hk, hn, hm => by omega
  | n + 1, m + 1, k, acc, i, hi, hk, hn, hm => by
    obtain ⟨e1, e2, h8, hB, -⟩ := id hP
    show ∃ r, zyF117_4b (zyF117_4 n) (zy_sh d) acc i s = _ ∧ zyF233_40b (zyF233_40 m) x y acc i s = _
    unfold zyF117_4b zyF233_40b zyF117_41 zyF233_75
    by_cases g : k = P
    · rw [if_pos (by rw [Int32.le_iff_toInt_le]; omega), if_pos (by rw [Int32.le_iff_toInt_le]; omega)]
      exact ⟨acc, rfl, rfl⟩
    · have iin : zy_in i 8 = true := zq_in.mpr ⟨by omega, by omega⟩
      have iin4 : zy_in i 41 = true := zq_in.mpr ⟨by omega, by omega⟩
      have ik : i.toNatClampNeg = k := by rw [zq_ix]; omega
      obtain ⟨r, f1, f2, -⟩ := zl_book (B := s.1 3 k) hd hx hE zy_fu zy_fu 0 0 rfl (by omega) (by unfold zy_fu; omega) (by unfold zy_fu; omega)
      have f1 : zyF108 (zy_sh d) (s.1 3 k) s = some (r, s) := f1
      have f2 : zyF230 x (s.1 3 k) s = some (r, s) := f2
      have ih := fun w => zl_117 (y := y) hP hd hx hE n m (k + 1) w (i + (1 : Int32)) (by rw [zq_add (by rw [zq_l1]; omega) (by rw [zq_l1]; omega), zq_l1, hi]; omega) (by omega) (by omega) (by omega)
      have hl1 : ¬ (s.1 1 5 ≤ i) := by rw [Int32.le_iff_toInt_le]; omega
      have hl2 : ¬ (s.1 43 6 ≤ i) := by rw [Int32.le_iff_toInt_le]; omega
      rw [if_neg hl1, if_neg hl2, if_pos iin, if_pos iin4, ik, ← (hB k (by omega)).1, f1, f2, zq_bind, zq_bind]
      dsimp only
      split
      · exact ih _
      · exact ih _
theorem zop_whose (x y : Int32) {s : zy_S} (h : zI s) : ∃ r s1 s2, zyF116 x y s = some (r, s1) ∧ zyF233 x y s1 = some (r, s2) ∧ zI s2 := by
  have hw := h.1
  have hP := zPe_of h
  by_cases hx : 0 ≤ x.toInt ∧ x.toInt ≤ 5
  · obtain ⟨hin, hdl, hxd⟩ := zx6 hx
    obtain ⟨d, hd⟩ : ∃ d, d = x.toNatClampNeg := ⟨_, rfl⟩
    rw [← hd] at hdl hxd
    by_cases hy : 0 ≤ y.toInt ∧ y.toInt ≤ 1
    · rcases zb_107 h hdl hxd with ⟨e, f1, f2, f3⟩ | ⟨f1, f2, ht⟩
      · have en : ¬ e = 0 ∧ ¬ e = -1 ∧ ¬ (0 : Int32) ≤ e := by rcases f3 with rfl | rfl <;> decide
        refine ⟨e, s, s, ?_, ?_, h⟩
        · unfold zyF116
          simp only [zys18, zys84, ← hd, f1, zq_bind, zqb_e0, zqb_n0, decide_eq_false_iff_not, decide_eq_true_eq]
          rw [if_neg (not_not_intro hx), if_pos hy, if_pos hin, if_pos hw, if_neg en.1]
        · unfold zyF233
          simp only [f2, zys179, zq_bind, zqb_n0, decide_eq_true_eq, Int32.toInt_toInt64, zq_j0, zq_j1]
          rw [if_neg en.2.1, if_pos hy, if_neg en.2.2]
      · have hE := zbE_of h hdl ht
        obtain ⟨S, g1, g2⟩ := zl_117 (y := y) hP hdl hxd hE zy_fu zy_fu 0 0 0 rfl (by omega) (by have := hP.2.2.1; unfold zy_fu; omega) (by have := hP.2.2.1; unfold zy_fu; omega)
        have g1 : zyF117 (zy_sh d) s = some (S, s) := g1
        obtain ⟨r, c1, c2⟩ := zys118 (s := s) (c := zy_sh d) hE.1
        obtain ⟨q, m1, m2⟩ := zl_233 (y := y) hdl hxd hE S zy_fu 0 0 0 rfl (by omega) (by unfold zy_fu; omega) (by decide) (by decide)
        have eq : q = r := zq_ext (by rw [m2, c2, zq_l0, Nat.sub_zero]; omega)
        subst eq
        refine ⟨if y ≠ 0 then q else S, s, s, ?_, ?_, h⟩
        · unfold zyF116
          simp only [zys18, zys84, ← hd, f1, g1, c1, zq_bind, zqb_e0, zqb_n0, decide_eq_false_iff_not, decide_eq_true_eq]
          rw [if_neg (not_not_intro hx), if_pos hy, if_pos hin, if_pos hw, if_pos True.intro, if_pos hin, if_pos hw]
          split <;> rfl
        · unfold zyF233
          simp only [f2, zys179, zq_bind, zqb_n0, decide_eq_true_eq, Int32.toInt_toInt64, zq_j0, zq_j1]
          rw [if_neg (by decide), if_pos hy, if_pos (by decide), g2, m1]
    · refine ⟨-1, s, s, ?_, ?_, h⟩
      · unfold zyF116
        simp only [zys18, zys84, zq_bind, zqb_e0, zqb_n0, decide_eq_false_iff_not, decide_eq_true_eq]
        rw [if_neg (not_not_intro hx), if_neg hy]
      · unfold zyF233
        have f2 : ∃ e, zyF229 x s = some (e, s) := by
          rcases zb_107 h hdl hxd with ⟨e, -, f2, -⟩ | ⟨-, f2, -⟩
          · exact ⟨e, f2⟩
          · exact ⟨1, f2⟩
        obtain ⟨e, f2⟩ := f2
        simp only [f2, zys179, zq_bind, zqb_n0, decide_eq_true_eq, Int32.toInt_toInt64, zq_j0, zq_j1]
        split <;> first | rfl | rw [if_neg hy]
  · have f2 : zyF229 x s = some (-1, s) := by
      unfold zyF229
      simp only [zys182, zq_bind, zqb_n0, decide_eq_true_eq]
      rw [if_neg hx]
    refine ⟨-1, s, s, ?_, ?_, h⟩
    · unfold zyF116
      simp only [zys18, zq_bind, zqb_e0, decide_eq_false_iff_not]
      rw [if_pos hx]
    · unfold zyF233
      rw [f2, zq_bind]
      exact if_pos rfl
