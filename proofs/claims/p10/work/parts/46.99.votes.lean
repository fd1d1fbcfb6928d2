/-! PART 46.99: votes. Made by wip/v4/gen_votes2.py. -/
/-! ints as sets of bits -/
theorem zmk_or {a b : Int32} (ha : 0 ≤ a.toInt) (hb : 0 ≤ b.toInt) : 0 ≤ (a ||| b).toInt ∧ (a ||| b).toInt.toNat = a.toInt.toNat ||| b.toInt.toNat := by
  have e : (a ||| b).toInt = zb_c 14 a.toInt b.toInt := zb_cEq 14 _ _ (by omega)
  have ea : a.toInt = (a.toInt.toNat : Int) := (Int.toNat_of_nonneg ha).symm
  have eb : b.toInt = (b.toInt.toNat : Int) := (Int.toNat_of_nonneg hb).symm
  have ah := zq_hi a
  have bh := zq_hi b
  rw [ea, eb, zN_or (by omega) (by omega)] at e
  exact ⟨by omega, by omega⟩
theorem zmk_bit {p : Int32} {k : Nat} (h : p.toInt = (k : Int)) (hk : k ≤ 23) : 0 ≤ ((1 : Int32) <<< (p &&& 31)).toInt ∧ ((1 : Int32) <<< (p &&& 31)).toInt.toNat = 2 ^ k := by
  have e := zbs_1 (x := p) (by omega) (by omega)
  have ek : p.toInt.toNat = k := by omega
  rw [ek] at e
  obtain ⟨u, hu⟩ : ∃ u, u = 2 ^ k := ⟨_, rfl⟩
  rw [← hu] at e ⊢
  omega
theorem zmk_andn {a b : Int32} (ha : 0 ≤ a.toInt) (hb : 0 ≤ b.toInt) : 0 ≤ (a &&& (b ^^^ (-1 : Int32))).toInt ∧ ∀ j, (a &&& (b ^^^ (-1 : Int32))).toInt.toNat.testBit j = (a.toInt.toNat.testBit j && !b.toInt.toNat.testBit j) := by
  have e : (a &&& (b ^^^ (-1 : Int32))).toInt = zb_c 13 a.toInt (b ^^^ (-1 : Int32)).toInt := zb_cEq 13 _ _ (by omega)
  have e2 : (b ^^^ (-1 : Int32)).toInt = zb_c 15 b.toInt (-1) := zb_cEq 15 b (-1) (by omega)
  have ea : a.toInt = (a.toInt.toNat : Int) := (Int.toNat_of_nonneg ha).symm
  have eb : b.toInt = (b.toInt.toNat : Int) := (Int.toNat_of_nonneg hb).symm
  have ah := zq_hi a
  have bh := zq_hi b
  rw [e2, ea, eb, zN_andn (by omega) (by omega)] at e
  have en : (a &&& (b ^^^ (-1 : Int32))).toInt.toNat = a.toInt.toNat ^^^ (a.toInt.toNat &&& b.toInt.toNat) := by omega
  refine ⟨by omega, fun j => ?_⟩
  rw [en, Nat.testBit_xor, Nat.testBit_and]
  cases a.toInt.toNat.testBit j <;> cases b.toInt.toNat.testBit j <;> rfl
theorem zmk_t {x p : Int32} {k : Nat} (hx : 0 ≤ x.toInt) (hp : p.toInt = (k : Int)) (hk : k ≤ 31) : zbt x p = x.toInt.toNat.testBit k := by
  unfold zbt
  have e : ((x >>> (p &&& 31)) &&& (1 : Int32)).toInt = zb_c 13 (zb_c 17 x.toInt p.toInt) 1 := by
    have e1 : ((x >>> (p &&& 31)) &&& (1 : Int32)).toInt = (zb 13 (zb 17 x p) 1).toInt := rfl
    rw [e1, zb_cEq 13 _ _ (by omega), zb_cEq 17 _ _ (by omega)]
    rfl
  have ex : x.toInt = (x.toInt.toNat : Int) := (Int.toNat_of_nonneg hx).symm
  have xh := zq_hi x
  have u : x.toInt.toNat / 2 ^ k ≤ x.toInt.toNat := Nat.div_le_self _ _
  have e1 : (1 : Int) = ((1 : Nat) : Int) := rfl
  rw [hp, ex, zN_shr (by omega) hk, e1, zN_and (by omega) (by omega), Nat.and_one_is_mod] at e
  rw [Nat.testBit_eq_decide_div_mod_eq]
  refine decide_eq_decide.mpr ⟨fun h => ?_, fun h => ?_⟩
  · have := congrArg Int32.toInt h
    rw [zq_l1] at this
    omega
  · exact zq_ext (by rw [zq_l1]; omega)
theorem zmk_ext {a b : Int32} (ha : 0 ≤ a.toInt) (hb : 0 ≤ b.toInt) (h : ∀ j, a.toInt.toNat.testBit j = b.toInt.toNat.testBit j) : a = b := by
  have := Nat.eq_of_testBit_eq h
  exact zq_ext (by omega)
/-- one more bit -/
theorem zmk_add {a p y : Int32} {k : Nat} {b : Bool} (ha : 0 ≤ a.toInt) (hp : p.toInt = (k : Int)) (hk : k ≤ 23) (hy : y = if b = true then (1 : Int32) <<< (p &&& 31) else 0) : 0 ≤ (a ||| y).toInt ∧ ∀ j, (a ||| y).toInt.toNat.testBit j = (a.toInt.toNat.testBit j || (decide (j = k) && b)) := by
  obtain ⟨p0, p1⟩ := zmk_bit hp hk
  cases b with
  | true =>
    have hy : y = (1 : Int32) <<< (p &&& 31) := hy
    rw [hy]
    obtain ⟨q0, q1⟩ := zmk_or ha p0
    refine ⟨q0, fun j => ?_⟩
    rw [q1, p1, Nat.testBit_or, Nat.testBit_two_pow, Bool.and_true]
    have : decide (k = j) = decide (j = k) := decide_eq_decide.mpr ⟨Eq.symm, Eq.symm⟩
    rw [this]
  | false =>
    have hy : y = 0 := hy
    rw [hy, Int32.or_zero]
    refine ⟨ha, fun j => ?_⟩
    rw [Bool.and_false, Bool.or_false]
theorem zmk_every {P : Int32} {n : Nat} (h : P.toInt = (n : Int)) (hn : n ≤ 8) : 0 ≤ (((1 : Int32) <<< (P &&& 31)) - (1 : Int32)).toInt ∧ ∀ j, (((1 : Int32) <<< (P &&& 31)) - (1 : Int32)).toInt.toNat.testBit j = decide (j < n) := by
  obtain ⟨p0, p1⟩ := zmk_bit h (by omega)
  have u : 2 ^ n ≤ 2 ^ 8 := Nat.pow_le_pow_right (by omega) hn
  have v : 1 ≤ 2 ^ n := Nat.one_le_two_pow
  have e : (((1 : Int32) <<< (P &&& 31)) - (1 : Int32)).toInt = ((2 ^ n - 1 : Nat) : Int) := by rw [zq_sub (by rw [zq_l1]; omega) (by rw [zq_l1]; omega), zq_l1]; omega
  refine ⟨by omega, fun j => ?_⟩
  have en : (((1 : Int32) <<< (P &&& 31)) - (1 : Int32)).toInt.toNat = 2 ^ n - 1 := by omega
  rw [en]
  exact Nat.testBit_two_pow_sub_one n j
/-! who believes -/
def zvbl (s : zy_S) (x : Int32) (j : Nat) : Bool := zvw (s.1 3 j) x
/-- what is known of PEOPLE -/
def zPe (s : zy_S) (P : Nat) : Prop := (s.1 1 5).toInt = (P : Int) ∧ (s.1 43 6).toInt = (P : Int) ∧ P ≤ 8 ∧ (∀ j, j < 8 → s.1 3 j = s.1 44 j ∧ zin (s.1 3 j) 0 4095) ∧ (∀ j, j < 8 → s.1 4 j = s.1 44 (8 + j) ∧ zin (s.1 4 j) 0 9)
theorem zPe_of {s : zy_S} (h : zI s) : zPe s (s.1 1 5).toInt.toNat := by
  obtain ⟨hw, hg, h1, h2, h3, h4, h5, h6, h7, h8, h9, h10, h11, h12, h13, h14, h15, h16, h17, h18, h19, h20, h21⟩ := id h
  obtain ⟨e1, p0, p1⟩ := id h1
  exact ⟨by omega, by rw [← e1]; omega, by omega, h2, h3⟩
section ZV
variable {s : zy_S} {P : Nat}
theorem zl_95 (hP : zPe s P) (x : Int32) : ∀ (n m k : Nat) (acc i : Int32), i.toInt = (k : Int) → k ≤ P → P - k < n → P - k < m → 0 ≤ acc.toInt →
    ∃ r, zyF95_4 n x acc i s = some (r, s) ∧ zyF223_4 m x acc i s = some (r, s) ∧ 0 ≤ r.toInt ∧ ∀ j, r.toInt.toNat.testBit j = (acc.toInt.toNat.testBit j || (decide (k ≤ j ∧ j < P) && zvbl s x j))
  | 0, m, k, acc, i, hi, hk, hn, hm, ha => by omega
  | n + 1, 0, k, acc, i, hi, hk, hn, hm, ha => by omega
  | n + 1, m + 1, k, acc, i, hi, hk, hn, hm, ha => by
    obtain ⟨e1, e2, h8, hB, -⟩ := id hP
    show ∃ r, zyF95_4b (zyF95_4 n) x acc i s = _ ∧ zyF223_4b (zyF223_4 m) x acc i s = _ ∧ _
    unfold zyF95_4b zyF223_4b zyF95_35 zyF223_29
    by_cases g : k = P
    · rw [if_pos (by rw [Int32.le_iff_toInt_le]; omega), if_pos (by rw [Int32.le_iff_toInt_le]; omega)]
      refine ⟨acc, rfl, rfl, ha, fun j => ?_⟩
      rw [decide_eq_false (show ¬ (k ≤ j ∧ j < P) by omega), Bool.false_and, Bool.or_false]
    · have iin : zy_in i 8 = true := zq_in.mpr ⟨by omega, by omega⟩
      have iin4 : zy_in i 41 = true := zq_in.mpr ⟨by omega, by omega⟩
      have ik : i.toNatClampNeg = k := by rw [zq_ix]; omega
      rw [if_neg (by rw [Int32.le_iff_toInt_le]; omega), if_neg (by rw [Int32.le_iff_toInt_le]; omega), zys96 x s iin, zys222 x s iin4, zq_bind, zq_bind, ik, ← (hB k (by omega)).1]
      dsimp only
      obtain ⟨b, hb⟩ : ∃ b, b = zvw (s.1 3 k) x := ⟨_, rfl⟩
      rw [← hb]
      have ih := fun (w : Int32) (hw : 0 ≤ w.toInt) => zl_95 hP x n m (k + 1) w (i + (1 : Int32)) (by rw [zq_add (by rw [zq_l1]; omega) (by rw [zq_l1]; omega), zq_l1, hi]; omega) (by omega) (by omega) (by omega) hw
      have fin : ∀ y : Int32, (y = if b = true then (1 : Int32) <<< (i &&& 31) else 0) → ∃ r, zyF95_4 n x (acc ||| y) (i + (1 : Int32)) s = some (r, s) ∧ zyF223_4 m x (acc ||| y) (i + (1 : Int32)) s = some (r, s) ∧ 0 ≤ r.toInt ∧ ∀ j, r.toInt.toNat.testBit j = (acc.toInt.toNat.testBit j || (decide (k ≤ j ∧ j < P) && zvbl s x j)) := by
        intro y hy
        obtain ⟨q0, q1⟩ := zmk_add (k := k) ha hi (by omega) hy
        obtain ⟨r, f1, f2, f3, f4⟩ := ih _ q0
        refine ⟨r, f1, f2, f3, fun j => ?_⟩
        rw [f4, q1]
        by_cases ej : j = k
        · subst ej
          rw [decide_eq_true rfl, decide_eq_false (show ¬ (j + 1 ≤ j ∧ j < P) by omega), decide_eq_true (show j ≤ j ∧ j < P from ⟨Nat.le_refl _, by omega⟩), hb]
          show _ = (_ || (true && zvw (s.1 3 j) x))
          rw [Bool.false_and, Bool.or_false]
        · rw [decide_eq_false ej, Bool.false_and, Bool.or_false]
          have : decide (k + 1 ≤ j ∧ j < P) = decide (k ≤ j ∧ j < P) := decide_eq_decide.mpr (by omega)
          rw [this]
      cases b with
      | true =>
        rw [if_neg (by decide), if_neg (by decide)]
        exact fin _ rfl
      | false =>
        rw [if_pos (by decide), if_pos (by decide)]
        exact fin 0 rfl
theorem zys95 (hP : zPe s P) (x : Int32) : ∃ r, zyF95 x s = some (r, s) ∧ zyF223 x s = some (r, s) ∧ 0 ≤ r.toInt ∧ ∀ j, r.toInt.toNat.testBit j = (decide (j < P) && zvbl s x j) := by
  obtain ⟨r, f1, f2, f3, f4⟩ := zl_95 hP x zy_fu zy_fu 0 0 0 rfl (by omega) (by have := hP.2.2.1; unfold zy_fu; omega) (by have := hP.2.2.1; unfold zy_fu; omega) (by decide)
  refine ⟨r, f1, f2, f3, fun j => ?_⟩
  rw [f4]
  have e0 : (0 : Int32).toInt.toNat.testBit j = false := by rw [zq_l0]; exact Nat.zero_testBit j
  have ed : decide (0 ≤ j ∧ j < P) = decide (j < P) := decide_eq_decide.mpr (by omega)
  rw [e0, ed, Bool.false_or]
/-- the STANDING of some -/
def zvsm (f : Nat → Bool) (st : Nat → Int32) : Nat → Nat → Int32 → Int32
  | 0, _, acc => acc
  | n + 1, k, acc => zvsm f st n (k + 1) (acc + if f k = true then st k else 0)
theorem zvsm_congr {f g : Nat → Bool} {st : Nat → Int32} : ∀ (n k : Nat) (acc : Int32), (∀ j, k ≤ j → j < k + n → f j = g j) → zvsm f st n k acc = zvsm g st n k acc
  | 0, _, _, _ => rfl
  | n + 1, k, acc, h => by
    show zvsm f st n (k + 1) _ = zvsm g st n (k + 1) _
    rw [h k (Nat.le_refl _) (by omega)]
    exact zvsm_congr n (k + 1) _ (fun j h1 h2 => h j (by omega) (by omega))
theorem zvsm_b {f : Nat → Bool} {st : Nat → Int32} (hst : ∀ j, j < 8 → 0 ≤ (st j).toInt ∧ (st j).toInt ≤ 9) : ∀ (n k : Nat) (acc : Int32), k + n ≤ 8 → 0 ≤ acc.toInt → acc.toInt ≤ 9 * (k : Int) → 0 ≤ (zvsm f st n k acc).toInt ∧ (zvsm f st n k acc).toInt ≤ 9 * ((k + n : Nat) : Int)
  | 0, k, acc, h, h0, h1 => ⟨h0, h1⟩
  | n + 1, k, acc, h, h0, h1 => by
    show 0 ≤ (zvsm f st n (k + 1) (acc + if f k = true then st k else 0)).toInt ∧ (zvsm f st n (k + 1) (acc + if f k = true then st k else 0)).toInt ≤ _
    have hs := hst k (by omega)
    have key : ∀ y : Int32, 0 ≤ y.toInt → y.toInt ≤ 9 → 0 ≤ (zvsm f st n (k + 1) (acc + y)).toInt ∧ (zvsm f st n (k + 1) (acc + y)).toInt ≤ 9 * ((k + 1 + n : Nat) : Int) := fun y y0 y1 => by
      have e : (acc + y).toInt = acc.toInt + y.toInt := zq_add (by omega) (by omega)
      exact zvsm_b hst n (k + 1) _ (by omega) (by omega) (by omega)
    have e : k + (n + 1) = k + 1 + n := by omega
    rw [e]
    split
    · exact key _ hs.1 hs.2
    · exact key 0 (by decide) (by decide)
theorem zl_98 (hP : zPe s P) {w : Int32} (hw : 0 ≤ w.toInt) : ∀ (n k : Nat) (acc i : Int32), i.toInt = (k : Int) → k ≤ P → P - k < n → zyF98_4 n w acc i s = some (zvsm (fun j => w.toInt.toNat.testBit j) (s.1 4) (P - k) k acc, s)
  | 0, k, acc, i, hi, hk, hn => by omega
  | n + 1, k, acc, i, hi, hk, hn => by
    obtain ⟨e1, e2, h8, -, -⟩ := id hP
    show zyF98_4b (zyF98_4 n) w acc i s = _
    unfold zyF98_4b zyF98_38
    by_cases g : k = P
    · rw [if_pos (by rw [Int32.le_iff_toInt_le]; omega), g, Nat.sub_self]
      rfl
    · have f32 : zyF32 w i s = some ((w >>> (i &&& 31)) &&& (1 : Int32), s) := rfl
      have ik : i.toNatClampNeg = k := by rw [zq_ix]; omega
      have iin : zy_in i 8 = true := zq_in.mpr ⟨by omega, by omega⟩
      have e : P - k = (P - (k + 1)) + 1 := by omega
      rw [if_neg (by rw [Int32.le_iff_toInt_le]; omega), f32, zq_bind, e]
      dsimp only
      have ht := zmk_t (x := w) (p := i) hw hi (by omega)
      unfold zbt at ht
      have ih := fun y => zl_98 hP hw n (k + 1) y (i + (1 : Int32)) (by rw [zq_add (by rw [zq_l1]; omega) (by rw [zq_l1]; omega), zq_l1, hi]; omega) (by omega) (by omega)
      show _ = some (zvsm (fun j => w.toInt.toNat.testBit j) (s.1 4) (P - (k + 1)) (k + 1) (acc + if w.toInt.toNat.testBit k = true then s.1 4 k else 0), s)
      rw [← ht]
      by_cases b : (w >>> (i &&& 31)) &&& (1 : Int32) = 1
      · rw [if_neg (not_not_intro b), if_pos iin, ik, if_pos (decide_eq_true b)]
        exact ih _
      · rw [if_pos b, if_neg (fun q => b (of_decide_eq_true q))]
        exact ih _
theorem zys98 (hP : zPe s P) {w : Int32} (hw : 0 ≤ w.toInt) : zyF98 w s = some (zvsm (fun j => w.toInt.toNat.testBit j) (s.1 4) P 0 0, s) := zl_98 hP hw zy_fu 0 0 0 rfl (by omega) (by have := hP.2.2.1; unfold zy_fu; omega)
theorem zl_238 (hP : zPe s P) (x : Int32) : ∀ (n k : Nat) (acc i : Int32), i.toInt = (k : Int) → k ≤ P → P - k < n → zyF238_4 n x acc i s = some (zvsm (zvbl s x) (s.1 4) (P - k) k acc, s)
  | 0, k, acc, i, hi, hk, hn => by omega
  | n + 1, k, acc, i, hi, hk, hn => by
    obtain ⟨e1, e2, h8, hB, hS⟩ := id hP
    show zyF238_4b (zyF238_4 n) x acc i s = _
    unfold zyF238_4b zyF238_35
    by_cases g : k = P
    · rw [if_pos (by rw [Int32.le_iff_toInt_le]; omega), g, Nat.sub_self]
      rfl
    · have iin4 : zy_in i 41 = true := zq_in.mpr ⟨by omega, by omega⟩
      have ik : i.toNatClampNeg = k := by rw [zq_ix]; omega
      have e8 : ((8 : Int32) + i).toInt = 8 + (k : Int) := by rw [zq_add (by rw [zq_l8]; omega) (by rw [zq_l8]; omega), zq_l8, hi]
      have e8n : ((8 : Int32) + i).toNatClampNeg = 8 + k := by rw [zq_ix, e8]; omega
      have e : P - k = (P - (k + 1)) + 1 := by omega
      rw [if_neg (by rw [Int32.le_iff_toInt_le]; omega), zys222 x s iin4, zq_bind, ik, ← (hB k (by omega)).1, e]
      dsimp only
      have ih := fun y => zl_238 hP x n (k + 1) y (i + (1 : Int32)) (by rw [zq_add (by rw [zq_l1]; omega) (by rw [zq_l1]; omega), zq_l1, hi]; omega) (by omega) (by omega)
      show _ = some (zvsm (zvbl s x) (s.1 4) (P - (k + 1)) (k + 1) (acc + if zvw (s.1 3 k) x = true then s.1 4 k else 0), s)
      cases hb : zvw (s.1 3 k) x with
      | true =>
        rw [if_neg (by decide), if_pos (zq_in.mpr ⟨by omega, by omega⟩), e8n, ← (hS k (by omega)).1]
        exact ih _
      | false =>
        rw [if_pos (by decide)]
        exact ih _
/-- the STANDING with a LINE -/
def zWs (s : zy_S) (P : Nat) (x : Int32) : Int32 := zvsm (zvbl s x) (s.1 4) P 0 0
theorem zys238 (hP : zPe s P) (x : Int32) : zyF238 x s = some (zWs s P x, s) := zl_238 hP x zy_fu 0 0 0 rfl (by omega) (by have := hP.2.2.1; unfold zy_fu; omega)
theorem zys128 (hP : zPe s P) (m v : Int32) : zyF128 m v s = some (zWs s P ((4 : Int32) * m + v), s) := by
  obtain ⟨r, f1, -, f3, f4⟩ := zys95 hP ((4 : Int32) * m + v)
  unfold zyF128
  rw [f1, zq_bind, zys98 hP f3, zq_bind]
  have e : zvsm (fun j => r.toInt.toNat.testBit j) (s.1 4) P 0 0 = zWs s P ((4 : Int32) * m + v) := zvsm_congr P 0 0 (fun j h1 h2 => by
    show r.toInt.toNat.testBit j = _
    rw [f4, decide_eq_true (show j < P by omega), Bool.true_and])
  rw [e]
theorem zWs_b (hP : zPe s P) (x : Int32) : 0 ≤ (zWs s P x).toInt ∧ (zWs s P x).toInt ≤ 72 := by
  have h8 := hP.2.2.1
  have := zvsm_b (f := zvbl s x) (fun j hj => (hP.2.2.2.2 j hj).2) P 0 0 (by omega) (by decide) (by decide)
  unfold zWs
  omega
/-! SPLIT -/
def zcg (s : zy_S) (P : Nat) (m f v : Int32) : Int32 := if zWs s P ((4 : Int32) * m + v) ≤ zWs s P ((4 : Int32) * m + f) then f else v
def zcm4 (s : zy_S) (P : Nat) (m : Int32) : Int32 := zcg s P m (zcg s P m (zcg s P m 0 1) 2) 3
theorem zl_127 (hP : zPe s P) (n : Nat) (m f v : Int32) : zyF127_4 (n + 1) m f v s = if (4 : Int32) ≤ v then some (f, s) else zyF127_4 n m (zcg s P m f v) (v + (1 : Int32)) s := by
  show zyF127_4b (zyF127_4 n) m f v s = _
  unfold zyF127_4b zyF127_29 zcg
  rw [zys128 hP, zq_bind]
  dsimp only
  rw [zys128 hP, zq_bind]
  dsimp only
  split
  · rfl
  · split <;> rfl
theorem zys127 (hP : zPe s P) (m : Int32) : zyF127 m s = some (zcm4 s P m, s) := by
  show zyF127_4 (9995 + 1 + 1 + 1 + 1 + 1) m 0 1 s = _
  rw [zl_127 hP, if_neg (by decide), show (1 : Int32) + 1 = 2 from rfl, zl_127 hP, if_neg (by decide), show (2 : Int32) + 1 = 3 from rfl, zl_127 hP, if_neg (by decide), show (3 : Int32) + 1 = 4 from rfl, zl_127 hP, if_pos (by decide)]
  rfl
theorem zl_237_36 (hP : zPe s P) (k23 : Int32 → Int32 → Int32 → Int32 → Int32 → zy_S → Option (Int32 × zy_S)) (n : Nat) (x b bv l m f v : Int32) : zyF237_36 k23 (n + 1) x b bv l m f v s = if (4 : Int32) ≤ v then (if l ≤ zWs s P ((4 : Int32) * m + f) then k23 x b bv l (m + (1 : Int32)) s else k23 x m f (zWs s P ((4 : Int32) * m + f)) (m + (1 : Int32)) s) else zyF237_36 k23 n x b bv l m (zcg s P m f v) (v + (1 : Int32)) s := by
  show zyF237_36b k23 (zyF237_36 k23 n) x b bv l m f v s = _
  unfold zyF237_36b zyF237_117 zyF237_74 zcg
  simp only [zys238 hP, zq_bind]
  split
  · split <;> rfl
  · split <;> rfl
theorem zl_237_23 (hP : zPe s P) (n : Nat) (x b bv l m : Int32) : zyF237_23 (n + 1) x b bv l m s = if (6 : Int32) ≤ m then some (if x ≠ 0 then bv else b, s) else if l ≤ zWs s P ((4 : Int32) * m + zcm4 s P m) then zyF237_23 n x b bv l (m + (1 : Int32)) s else zyF237_23 n x m (zcm4 s P m) (zWs s P ((4 : Int32) * m + zcm4 s P m)) (m + (1 : Int32)) s := by
  show zyF237_23b (zyF237_23 n) x b bv l m s = _
  unfold zyF237_23b
  split
  · split <;> rfl
  · show zyF237_36 (zyF237_23 n) (9995 + 1 + 1 + 1 + 1 + 1) x b bv l m 0 1 s = _
    rw [zl_237_36 hP, if_neg (by decide), show (1 : Int32) + 1 = 2 from rfl, zl_237_36 hP, if_neg (by decide), show (2 : Int32) + 1 = 3 from rfl, zl_237_36 hP, if_neg (by decide), show (3 : Int32) + 1 = 4 from rfl, zl_237_36 hP, if_pos (by decide)]
    rfl
theorem zl_126 (hP : zPe s P) (x : Int32) : ∀ (n m k : Nat) (f i : Int32), i.toInt = (k : Int) → k ≤ 6 → 6 - k < n → 6 - k < m → ∃ r, zyF126_4 n f i s = some (r, s) ∧ zyF237_23 m x f (zcm4 s P f) (zWs s P ((4 : Int32) * f + zcm4 s P f)) i s = some (if x ≠ 0 then zcm4 s P r else r, s)
  | 0, m, k, f, i, hi, hk, hn, hm => by omega
  | n + 1, 0, k, f, i, hi, hk, hn, hm => by omega
  | n + 1, m + 1, k, f, i, hi, hk, hn, hm => by
    rw [zl_237_23 hP]
    show ∃ r, zyF126_4b (zyF126_4 n) f i s = _ ∧ _
    unfold zyF126_4b zyF126_40
    simp only [zys127 hP, zys128 hP, zq_bind]
    by_cases g : k = 6
    · rw [if_pos (by rw [Int32.le_iff_toInt_le, zq_l6]; omega), if_pos (by rw [Int32.le_iff_toInt_le, zq_l6]; omega)]
      exact ⟨f, rfl, rfl⟩
    · have h6 : ¬ ((6 : Int32) ≤ i) := by rw [Int32.le_iff_toInt_le, zq_l6]; omega
      rw [if_neg h6, if_neg h6]
      have ih := fun w => zl_126 hP x n m (k + 1) w (i + (1 : Int32)) (by rw [zq_add (by rw [zq_l1]; omega) (by rw [zq_l1]; omega), zq_l1, hi]; omega) (by omega) (by omega) (by omega)
      split
      · exact ih f
      · exact ih i
end ZV
theorem zop_split (x : Int32) {s : zy_S} (h : zI s) : ∃ r s1 s2, zyF125 x s = some (r, s1) ∧ zyF237 x s1 = some (r, s2) ∧ zI s2 := by
  have hP := zPe_of h
  by_cases hx : 0 ≤ x.toInt ∧ x.toInt ≤ 1
  · obtain ⟨r, f1, f2⟩ := zl_126 hP x zy_fu 9999 1 0 1 rfl (by omega) (by unfold zy_fu; omega) (by omega)
    have f1 : zyF126 s = some (r, s) := f1
    have f3 : zyF237_23 zy_fu x 0 0 (1000000 : Int32) 0 s = some (if x ≠ 0 then zcm4 s (s.1 1 5).toInt.toNat r else r, s) := by
      have b := zWs_b hP ((4 : Int32) * 0 + zcm4 s (s.1 1 5).toInt.toNat 0)
      show zyF237_23 (9999 + 1) x 0 0 (1000000 : Int32) 0 s = _
      rw [zl_237_23 hP, if_neg (by decide), if_neg (by rw [Int32.le_iff_toInt_le, zq_lM]; omega)]
      exact f2
    refine ⟨if x ≠ 0 then zcm4 s (s.1 1 5).toInt.toNat r else r, s, s, ?_, ?_, h⟩
    · unfold zyF125
      simp only [zys84, f1, zys127 hP, zq_bind, zqb_n0, decide_eq_true_eq]
      rw [if_pos hx]
      split <;> rfl
    · unfold zyF237
      simp only [zys179, zq_bind, zqb_n0, decide_eq_true_eq, Int32.toInt_toInt64, zq_j0, zq_j1]
      rw [if_pos hx, f3]
  · refine ⟨-1, s, s, ?_, ?_, h⟩
    · unfold zyF125
      simp only [zys84, zq_bind, zqb_n0, decide_eq_true_eq]
      rw [if_neg hx]
    · unfold zyF237
      simp only [zys179, zq_bind, zqb_n0, decide_eq_true_eq, Int32.toInt_toInt64, zq_j0, zq_j1]
      rw [if_neg hx]
/-! MAY -/
section ZM
variable {s : zy_S} {P : Nat}
/-- whether some have more than half -/
def zmay (s : zy_S) (P : Nat) (f : Nat → Bool) : Int32 := if (2 : Int32) * zvsm f (s.1 4) P 0 0 ≤ zvsm (fun _ => true) (s.1 4) P 0 0 then 0 else 1
theorem zmay_congr {f g : Nat → Bool} (h : ∀ j, j < P → f j = g j) : zmay s P f = zmay s P g := by
  unfold zmay
  rw [zvsm_congr P 0 0 (fun j _ h2 => h j (by omega))]
theorem zys97 (hP : zPe s P) {w : Int32} (hw : 0 ≤ w.toInt) : zyF97 w s = some (zmay s P (fun j => w.toInt.toNat.testBit j), s) := by
  obtain ⟨v0, v1⟩ := zmk_every hP.1 hP.2.2.1
  have f51 : zyF51 s = some (((1 : Int32) <<< ((s.1 1 5) &&& 31)) - (1 : Int32), s) := rfl
  unfold zyF97
  rw [zys98 hP hw, zq_bind]
  dsimp only
  rw [f51, zq_bind]
  dsimp only
  rw [zys98 hP v0, zq_bind]
  have e : zvsm (fun j => (((1 : Int32) <<< ((s.1 1 5) &&& 31)) - (1 : Int32)).toInt.toNat.testBit j) (s.1 4) P 0 0 = zvsm (fun _ => true) (s.1 4) P 0 0 := zvsm_congr P 0 0 (fun j _ h2 => by
    show (((1 : Int32) <<< ((s.1 1 5) &&& 31)) - (1 : Int32)).toInt.toNat.testBit j = true
    rw [v1, decide_eq_true (show j < P by omega)])
  rw [e]
  unfold zmay
  dsimp only
  split <;> rfl
theorem zl_221 (hP : zPe s P) (x : Int32) {w : Int32} (hw : 0 ≤ w.toInt) : ∀ (n k : Nat) (a b i : Int32), i.toInt = (k : Int) → k ≤ P → P - k < n → zyF221_8 n x w a b i s = some (if (2 : Int32) * zvsm (fun j => !zvbl s x j || w.toInt.toNat.testBit j) (s.1 4) (P - k) k a ≤ zvsm (fun _ => true) (s.1 4) (P - k) k b then 0 else 1, s)
  | 0, k, a, b, i, hi, hk, hn => by omega
  | n + 1, k, a, b, i, hi, hk, hn => by
    obtain ⟨e1, e2, h8, hB, hS⟩ := id hP
    show zyF221_8b (zyF221_8 n) x w a b i s = _
    unfold zyF221_8b zyF221_52 zyF221_66
    by_cases g : k = P
    · rw [if_pos (by rw [Int32.le_iff_toInt_le]; omega), g, Nat.sub_self]
      show _ = some (if (2 : Int32) * a ≤ b then 0 else 1, s)
      split <;> rfl
    · have iin4 : zy_in i 41 = true := zq_in.mpr ⟨by omega, by omega⟩
      have ik : i.toNatClampNeg = k := by rw [zq_ix]; omega
      have e8 : ((8 : Int32) + i).toInt = 8 + (k : Int) := by rw [zq_add (by rw [zq_l8]; omega) (by rw [zq_l8]; omega), zq_l8, hi]
      have e8n : ((8 : Int32) + i).toNatClampNeg = 8 + k := by rw [zq_ix, e8]; omega
      have i8 : zy_in ((8 : Int32) + i) 41 = true := zq_in.mpr ⟨by omega, by omega⟩
      have e : P - k = (P - (k + 1)) + 1 := by omega
      rw [if_neg (by rw [Int32.le_iff_toInt_le]; omega), if_pos i8, zys222 x s iin4, zq_bind, ik, e8n, ← (hB k (by omega)).1, ← (hS k (by omega)).1, e]
      dsimp only
      have ih := fun y => zl_221 hP x hw n (k + 1) y (b + s.1 4 k) (i + (1 : Int32)) (by rw [zq_add (by rw [zq_l1]; omega) (by rw [zq_l1]; omega), zq_l1, hi]; omega) (by omega) (by omega)
      show _ = some (if (2 : Int32) * zvsm (fun j => !zvbl s x j || w.toInt.toNat.testBit j) (s.1 4) (P - (k + 1)) (k + 1) (a + if (!zvw (s.1 3 k) x || w.toInt.toNat.testBit k) = true then s.1 4 k else 0) ≤ zvsm (fun _ => true) (s.1 4) (P - (k + 1)) (k + 1) (b + s.1 4 k) then 0 else 1, s)
      rw [zys208, zq_bind, zmk_t (x := w) (p := i) hw hi (by omega)]
      dsimp only
      cases hb : zvw (s.1 3 k) x with
      | false =>
        rw [if_pos (by decide), if_pos i8]
        exact ih _
      | true =>
        rw [if_neg (by decide)]
        cases ht : w.toInt.toNat.testBit k with
        | false =>
          rw [if_pos (by decide)]
          exact ih _
        | true =>
          rw [if_neg (by decide), if_pos i8, ← (hS k (by omega)).1]
          exact ih _
theorem zys221 (hP : zPe s P) (x : Int32) {w : Int32} (hw : 0 ≤ w.toInt) : zyF221 x w s = some (zmay s P (fun j => !zvbl s x j || w.toInt.toNat.testBit j), s) := zl_221 hP x hw zy_fu 0 0 0 0 rfl (by omega) (by have := hP.2.2.1; unfold zy_fu; omega)
/-- the others -/
theorem zmk_oth (hP : zPe s P) (x : Int32) {r : Int32} (r0 : 0 ≤ r.toInt) (hr : ∀ j, r.toInt.toNat.testBit j = (decide (j < P) && zvbl s x j)) : 0 ≤ ((((1 : Int32) <<< ((s.1 1 5) &&& 31)) - (1 : Int32)) &&& (r ^^^ (-1 : Int32))).toInt ∧ ∀ j, j < P → ((((1 : Int32) <<< ((s.1 1 5) &&& 31)) - (1 : Int32)) &&& (r ^^^ (-1 : Int32))).toInt.toNat.testBit j = !zvbl s x j := by
  obtain ⟨v0, v1⟩ := zmk_every hP.1 hP.2.2.1
  obtain ⟨q0, q1⟩ := zmk_andn v0 r0
  refine ⟨q0, fun j hj => ?_⟩
  rw [q1, v1, hr, decide_eq_true hj, Bool.true_and, Bool.true_and]
theorem zl_94 (hP : zPe s P) (l0 : 0 ≤ (s.1 1 3).toInt) (e6 : s.1 1 3 = s.1 43 7) : ∀ (n m k : Nat) (acc i : Int32), i.toInt = (k : Int) → k ≤ 24 → 24 - k < n → 24 - k < m → ∃ r, zyF94_4 n acc i s = some (r, s) ∧ zyF220_18 m 0 acc i s = some (r, s)
  | 0, m, k, acc, i, hi, hk, hn, hm => by omega
  | n + 1, 0, k, acc, i, hi, hk, hn, hm => by omega
  | n + 1, m + 1, k, acc, i, hi, hk, hn, hm => by
    show ∃ r, zyF94_4b (zyF94_4 n) acc i s = _ ∧ zyF220_18b (zyF220_18 m) 0 acc i s = _
    unfold zyF94_4b zyF220_18b
    by_cases g : k = 24
    · rw [if_pos (by rw [Int32.le_iff_toInt_le, zq_l24]; omega), if_pos (by rw [Int32.le_iff_toInt_le, zq_l24]; omega)]
      exact ⟨acc, rfl, rfl⟩
    · have ih := fun w => zl_94 hP l0 e6 n m (k + 1) w (i + (1 : Int32)) (by rw [zq_add (by rw [zq_l1]; omega) (by rw [zq_l1]; omega), zq_l1, hi]; omega) (by omega) (by omega) (by omega)
      have no : ∃ r, zyF94_47 (zyF94_4 n) acc i s = some (r, s) ∧ zyF220_52 (zyF220_18 m) 0 acc i s = some (r, s) := by
        unfold zyF94_47 zyF94_48 zyF94_61 zyF220_52 zyF220_112 zyF220_127
        rw [if_pos rfl, if_pos rfl]
        exact ih _
      have yes : ∃ r, zyF94_48 (zyF94_4 n) acc i 1 s = some (r, s) ∧ zyF220_112 (zyF220_18 m) 0 acc i 1 s = some (r, s) := by
        unfold zyF94_48 zyF94_61 zyF220_112 zyF220_127
        rw [if_neg (by decide), if_neg (by decide)]
        exact ih _
      obtain ⟨r, f1, f2, r0, hr⟩ := zys95 hP i
      obtain ⟨o0, o1⟩ := zmk_oth hP i r0 hr
      have f51 : zyF51 s = some (((1 : Int32) <<< ((s.1 1 5) &&& 31)) - (1 : Int32), s) := rfl
      have em : zmay s P (fun j => ((((1 : Int32) <<< ((s.1 1 5) &&& 31)) - (1 : Int32)) &&& (r ^^^ (-1 : Int32))).toInt.toNat.testBit j) = zmay s P (fun j => !zvbl s i j || (0 : Int32).toInt.toNat.testBit j) := zmay_congr (fun j hj => by
        show _ = (!zvbl s i j || (0 : Int32).toInt.toNat.testBit j)
        have e0 : (0 : Int32).toInt.toNat.testBit j = false := by rw [zq_l0]; exact Nat.zero_testBit j
        rw [o1 j hj, e0, Bool.or_false])
      rw [if_neg (by rw [Int32.le_iff_toInt_le, zq_l24]; omega), if_neg (by rw [Int32.le_iff_toInt_le, zq_l24]; omega), if_neg (show ¬ ((0 : Int32) ≠ 0) from fun w => w rfl), zys86, zys208, ← e6, zq_bind, zq_bind]
      dsimp only
      cases zbt (s.1 1 3) i with
      | false =>
        rw [if_pos (by decide), if_pos (by decide)]
        exact no
      | true =>
        rw [if_neg (by decide), if_neg (by decide), f51, zq_bind]
        dsimp only
        rw [f1, zq_bind]
        dsimp only
        rw [zys97 hP o0, zys221 hP i (w := 0) (by decide), zq_bind, zq_bind, em]
        dsimp only
        split
        · exact no
        · exact yes
/-- what is believed -/
theorem zvf_in {B m : Int32} {k : Nat} (b0 : 0 ≤ B.toInt) (hm : m.toInt = (k : Int)) (hk : k ≤ 6) : 0 ≤ (zvf B m).toInt ∧ (zvf B m).toInt ≤ 3 := by
  have e : (zvf B m).toInt = zb_c 13 (zb_c 17 B.toInt ((2 : Int32) * m).toInt) 3 := by
    have e1 : (zvf B m).toInt = (zb 13 (zb 17 B ((2 : Int32) * m)) 3).toInt := rfl
    rw [e1, zb_cEq 13 _ _ (by omega), zb_cEq 17 _ _ (by omega)]
    rfl
  have e4 : ((2 : Int32) * m).toInt = ((2 * k : Nat) : Int) := by rw [zq_mul (by rw [zq_l2]; omega) (by rw [zq_l2]; omega), zq_l2, hm]; omega
  have el : B.toInt = (B.toInt.toNat : Int) := (Int.toNat_of_nonneg b0).symm
  have lh := zq_hi B
  have u : B.toInt.toNat / 2 ^ (2 * k) ≤ B.toInt.toNat := Nat.div_le_self _ _
  have e15 : (3 : Int) = ((3 : Nat) : Int) := rfl
  rw [e4, el, zN_shr (by omega) (by omega), e15, zN_and (by omega) (by omega)] at e
  have v : B.toInt.toNat / 2 ^ (2 * k) &&& 3 ≤ 3 := Nat.and_le_right
  omega
theorem zq_div4 {a : Int32} (h : 0 ≤ a.toInt) : (a / (4 : Int32)).toInt = a.toInt / 4 ∧ (a - a / (4 : Int32) * (4 : Int32)).toInt = a.toInt % 4 := by
  have e : (a / (4 : Int32)).toInt = a.toInt / 4 := by rw [Int32.toInt_div_of_ne_right _ _ (by decide), zq_l4, Int.tdiv_eq_ediv_of_nonneg h]
  have hh := zq_hi a
  have em : (a / (4 : Int32) * (4 : Int32)).toInt = a.toInt / 4 * 4 := by rw [zq_mul (by rw [zq_l4, e]; omega) (by rw [zq_l4, e]; omega), zq_l4, e]
  exact ⟨e, by rw [zq_sub (by rw [em]; omega) (by rw [em]; omega), em]; omega⟩
/-- a LINE of one -/
def zbn (s : zy_S) (p m : Nat) : Nat := 4 * m + (zvf (s.1 3 p) (Int32.ofInt (m : Int))).toInt.toNat
theorem zbn_bel {p m : Nat} (b0 : 0 ≤ (s.1 3 p).toInt) (hm : m < 6) {x : Int32} {j : Nat} (hx : x.toInt = (j : Int)) (hj : j / 4 = m) : zvbl s x p = decide (j = zbn s p m) := by
  obtain ⟨d1, d2⟩ := zq_div4 (a := x) (by omega)
  have em : x / (4 : Int32) = Int32.ofInt (m : Int) := zq_ext (by rw [d1, hx, Int32.toInt_ofInt_of_le (by omega) (by omega)]; omega)
  obtain ⟨w0, w1⟩ := zvf_in (B := s.1 3 p) (m := Int32.ofInt (m : Int)) (k := m) b0 (Int32.toInt_ofInt_of_le (by omega) (by omega)) (by omega)
  have e : zvbl s x p = decide (zvf (s.1 3 p) (x / (4 : Int32)) = x - x / (4 : Int32) * (4 : Int32)) := rfl
  rw [e]
  refine decide_eq_decide.mpr ⟨fun q => ?_, fun q => ?_⟩
  · have := congrArg Int32.toInt q
    rw [d2, em] at this
    unfold zbn
    omega
  · unfold zbn at q
    exact zq_ext (by rw [d2, em]; omega)
theorem zl_99_17 (hP : zPe s P) {p : Nat} {x2 : Int32} (hp : p < P) (hx2 : x2.toInt = (p : Int)) (k4 : Int32 → Int32 → zy_S → Option (Int32 × zy_S)) : ∀ (n k : Nat) (acc i : Int32), i.toInt = (k : Int) → k ≤ 6 → 6 - k < n → 0 ≤ acc.toInt →
    ∃ r, zyF99_17 k4 n acc x2 i s = k4 r (x2 + (1 : Int32)) s ∧ 0 ≤ r.toInt ∧ ∀ j, (r.toInt.toNat.testBit j = true ↔ acc.toInt.toNat.testBit j = true ∨ ∃ m, k ≤ m ∧ m < 6 ∧ j = zbn s p m)
  | 0, k, acc, i, hi, hk, hn, ha => by omega
  | n + 1, k, acc, i, hi, hk, hn, ha => by
    obtain ⟨e1, e2, h8, hB, -⟩ := id hP
    show ∃ r, zyF99_17b k4 (zyF99_17 k4 n) acc x2 i s = _ ∧ _
    unfold zyF99_17b
    by_cases g : k = 6
    · rw [if_pos (by rw [Int32.le_iff_toInt_le, zq_l6]; omega)]
      refine ⟨acc, rfl, ha, fun j => ⟨Or.inl, fun q => ?_⟩⟩
      rcases q with q | ⟨m, a, b, -⟩
      · exact q
      · omega
    · have xin : zy_in x2 8 = true := zq_in.mpr ⟨by omega, by omega⟩
      have xk : x2.toNatClampNeg = p := by rw [zq_ix]; omega
      have eik : i = Int32.ofInt (k : Int) := zq_ext (by rw [hi]; exact (Int32.toInt_ofInt_of_le (by omega) (by omega)).symm)
      obtain ⟨w0, w1⟩ := zvf_in (B := s.1 3 p) (hB p (by omega)).2.1 hi (show k ≤ 6 by omega)
      rw [if_neg (by rw [Int32.le_iff_toInt_le, zq_l6]; omega), if_pos xin, zys60, zq_bind, xk]
      dsimp only
      have e4 : ((4 : Int32) * i).toInt = 4 * (k : Int) := by rw [zq_mul (by rw [zq_l4]; omega) (by rw [zq_l4]; omega), zq_l4, hi]
      have ea : ((4 : Int32) * i + zvf (s.1 3 p) i).toInt = ((zbn s p k : Nat) : Int) := by
        rw [zq_add (by rw [e4]; omega) (by rw [e4]; omega), e4]
        unfold zbn
        rw [← eik]
        omega
      have hb : zbn s p k ≤ 23 := by
        unfold zbn
        rw [← eik]
        omega
      obtain ⟨q0, q1⟩ := zmk_add (b := true) ha ea hb (show (1 : Int32) <<< (((4 : Int32) * i + zvf (s.1 3 p) i) &&& 31) = if true = true then (1 : Int32) <<< (((4 : Int32) * i + zvf (s.1 3 p) i) &&& 31) else 0 from rfl)
      obtain ⟨r, f1, f2, f3⟩ := zl_99_17 hP hp hx2 k4 n (k + 1) _ (i + (1 : Int32)) (by rw [zq_add (by rw [zq_l1]; omega) (by rw [zq_l1]; omega), zq_l1, hi]; omega) (by omega) (by omega) q0
      refine ⟨r, f1, f2, fun j => ?_⟩
      rw [f3, q1, Bool.and_true, Bool.or_eq_true, decide_eq_true_eq]
      constructor
      · rintro ((q | q) | ⟨m, a, b, c⟩)
        · exact Or.inl q
        · exact Or.inr ⟨k, Nat.le_refl _, by omega, q⟩
        · exact Or.inr ⟨m, by omega, b, c⟩
      · rintro (q | ⟨m, a, b, c⟩)
        · exact Or.inl (Or.inl q)
        · by_cases em : m = k
          · subst em
            exact Or.inl (Or.inr c)
          · exact Or.inr ⟨m, by omega, b, c⟩
theorem zl_99 (hP : zPe s P) : ∀ (n k : Nat) (acc i : Int32), i.toInt = (k : Int) → k ≤ P → P - k < n → 0 ≤ acc.toInt →
    ∃ r, zyF99_4 n acc i s = some (r, s) ∧ 0 ≤ r.toInt ∧ ∀ j, (r.toInt.toNat.testBit j = true ↔ acc.toInt.toNat.testBit j = true ∨ ∃ p m, k ≤ p ∧ p < P ∧ m < 6 ∧ j = zbn s p m)
  | 0, k, acc, i, hi, hk, hn, ha => by omega
  | n + 1, k, acc, i, hi, hk, hn, ha => by
    obtain ⟨e1, e2, h8, -, -⟩ := id hP
    show ∃ r, zyF99_4b (zyF99_4 n) acc i s = _ ∧ _
    unfold zyF99_4b
    by_cases g : k = P
    · rw [if_pos (by rw [Int32.le_iff_toInt_le]; omega)]
      refine ⟨acc, rfl, ha, fun j => ⟨Or.inl, fun q => ?_⟩⟩
      rcases q with q | ⟨p, m, a, b, -⟩
      · exact q
      · omega
    · rw [if_neg (by rw [Int32.le_iff_toInt_le]; omega)]
      obtain ⟨r, f1, f2, f3⟩ := zl_99_17 hP (show k < P by omega) hi (zyF99_4 n) zy_fu 0 acc 0 rfl (by omega) (by unfold zy_fu; omega) ha
      rw [f1]
      obtain ⟨r', g1, g2, g3⟩ := zl_99 hP n (k + 1) r (i + (1 : Int32)) (by rw [zq_add (by rw [zq_l1]; omega) (by rw [zq_l1]; omega), zq_l1, hi]; omega) (by omega) (by omega) f2
      refine ⟨r', g1, g2, fun j => ?_⟩
      rw [g3, f3]
      constructor
      · rintro ((q | ⟨m, a, b, c⟩) | ⟨p, m, a, b, c, d⟩)
        · exact Or.inl q
        · exact Or.inr ⟨k, m, Nat.le_refl _, by omega, b, c⟩
        · exact Or.inr ⟨p, m, by omega, b, c, d⟩
      · rintro (q | ⟨p, m, a, b, c, d⟩)
        · exact Or.inl (Or.inl q)
        · by_cases ep : p = k
          · subst ep
            exact Or.inl (Or.inr ⟨m, Nat.zero_le _, c, d⟩)
          · exact Or.inr ⟨p, m, by omega, b, c, d⟩
/-- .. bit by bit -/
theorem zys99 (hP : zPe s P) : ∃ V, zyF99 s = some (V, s) ∧ 0 ≤ V.toInt ∧ (∀ j, 24 ≤ j → V.toInt.toNat.testBit j = false) ∧ ∀ (j : Nat) (x : Int32), j < 24 → x.toInt = (j : Int) → (V.toInt.toNat.testBit j = true ↔ ∃ p, p < P ∧ zvbl s x p = true) := by
  obtain ⟨e1, e2, h8, hB, -⟩ := id hP
  obtain ⟨V, f1, f2, f3⟩ := zl_99 hP zy_fu 0 0 0 rfl (by omega) (by unfold zy_fu; omega) (by decide)
  have e0 : ∀ j, ¬ ((0 : Int32).toInt.toNat.testBit j = true) := fun j => by rw [zq_l0, show (0 : Int).toNat = 0 from rfl, Nat.zero_testBit]; decide
  have bn : ∀ p m, p < P → m < 6 → zbn s p m / 4 = m := fun p m hp hm => by
    obtain ⟨w0, w1⟩ := zvf_in (B := s.1 3 p) (m := Int32.ofInt (m : Int)) (k := m) (hB p (by omega)).2.1 (Int32.toInt_ofInt_of_le (by omega) (by omega)) (by omega)
    unfold zbn
    omega
  refine ⟨V, f1, f2, fun j hj => ?_, fun j x hj hx => ?_⟩
  · cases hb : V.toInt.toNat.testBit j with
    | false => rfl
    | true =>
      exfalso
      rcases (f3 j).mp hb with q | ⟨p, m, -, b, c, d⟩
      · exact e0 j q
      · have := bn p m b c
        omega
  · rw [f3]
    constructor
    · rintro (q | ⟨p, m, -, b, c, d⟩)
      · exact absurd q (e0 j)
      · have := bn p m b c
        exact ⟨p, b, by rw [zbn_bel (hB p (by omega)).2.1 c hx (by omega)]; exact decide_eq_true d⟩
    · rintro ⟨p, b, c⟩
      rw [zbn_bel (hB p (by omega)).2.1 (show j / 4 < 6 by omega) hx rfl] at c
      exact Or.inr ⟨p, j / 4, Nat.zero_le _, b, by omega, of_decide_eq_true c⟩
theorem zvbl_0 {x r : Int32} (r0 : 0 ≤ r.toInt) (hr : ∀ j, r.toInt.toNat.testBit j = (decide (j < P) && zvbl s x j)) : r = 0 ↔ ¬ ∃ p, p < P ∧ zvbl s x p = true := by
  constructor
  · rintro e ⟨p, hp, hb⟩
    have := hr p
    rw [e, zq_l0, show (0 : Int).toNat = 0 from rfl, Nat.zero_testBit, decide_eq_true hp, hb] at this
    cases this
  · intro h
    refine zmk_ext r0 (by decide) (fun j => ?_)
    rw [hr, zq_l0, show (0 : Int).toNat = 0 from rfl, Nat.zero_testBit]
    by_cases hj : j < P
    · cases hb : zvbl s x j with
      | false => rw [Bool.and_false]
      | true => exact absurd ⟨j, hj, hb⟩ h
    · rw [decide_eq_false hj, Bool.false_and]
/-- the model's bits: what = 1, 2 -/
theorem zl_220 (hP : zPe s P) (l0 : 0 ≤ (s.1 43 7).toInt) {x : Int32} (hx : x = 1 ∨ x = 2) : ∀ (n k : Nat) (acc i : Int32), i.toInt = (k : Int) → k ≤ 24 → 24 - k < n → 0 ≤ acc.toInt →
    ∃ r, zyF220_18 n x acc i s = some (r, s) ∧ 0 ≤ r.toInt ∧ ∀ j, (r.toInt.toNat.testBit j = true ↔ acc.toInt.toNat.testBit j = true ∨ (k ≤ j ∧ j < 24 ∧ if x = 1 then (s.1 43 7).toInt.toNat.testBit j = true ∧ ¬ ∃ p, p < P ∧ zvbl s (Int32.ofInt (j : Int)) p = true else ¬ (s.1 43 7).toInt.toNat.testBit j = true ∧ ∃ p, p < P ∧ zvbl s (Int32.ofInt (j : Int)) p = true))
  | 0, k, acc, i, hi, hk, hn, ha => by omega
  | n + 1, k, acc, i, hi, hk, hn, ha => by
    show ∃ r, zyF220_18b (zyF220_18 n) x acc i s = _ ∧ _
    unfold zyF220_18b
    by_cases g : k = 24
    · rw [if_pos (by rw [Int32.le_iff_toInt_le, zq_l24]; omega)]
      refine ⟨acc, rfl, ha, fun j => ⟨Or.inl, fun q => ?_⟩⟩
      rcases q with q | ⟨a, b, -⟩
      · exact q
      · omega
    · have eik : Int32.ofInt (k : Int) = i := zq_ext (by rw [hi]; exact Int32.toInt_ofInt_of_le (by omega) (by omega))
      obtain ⟨r, -, f2, r0, hr⟩ := zys95 hP i
      have hz := zvbl_0 r0 hr
      have ht := zmk_t (x := s.1 43 7) (p := i) l0 hi (by omega)
      have fin : ∀ (b : Bool) (y : Int32), (y = if b = true then (1 : Int32) <<< (i &&& 31) else 0) → (b = true ↔ if x = 1 then (s.1 43 7).toInt.toNat.testBit k = true ∧ ¬ ∃ p, p < P ∧ zvbl s (Int32.ofInt (k : Int)) p = true else ¬ (s.1 43 7).toInt.toNat.testBit k = true ∧ ∃ p, p < P ∧ zvbl s (Int32.ofInt (k : Int)) p = true) → ∃ r, zyF220_127 (zyF220_18 n) x i y acc s = some (r, s) ∧ 0 ≤ r.toInt ∧ ∀ j, (r.toInt.toNat.testBit j = true ↔ acc.toInt.toNat.testBit j = true ∨ (k ≤ j ∧ j < 24 ∧ if x = 1 then (s.1 43 7).toInt.toNat.testBit j = true ∧ ¬ ∃ p, p < P ∧ zvbl s (Int32.ofInt (j : Int)) p = true else ¬ (s.1 43 7).toInt.toNat.testBit j = true ∧ ∃ p, p < P ∧ zvbl s (Int32.ofInt (j : Int)) p = true)) := by
        intro b y hy hb
        obtain ⟨q0, q1⟩ := zmk_add (k := k) ha hi (by omega) hy
        obtain ⟨r', g1, g2, g3⟩ := zl_220 hP l0 hx n (k + 1) _ (i + (1 : Int32)) (by rw [zq_add (by rw [zq_l1]; omega) (by rw [zq_l1]; omega), zq_l1, hi]; omega) (by omega) (by omega) q0
        refine ⟨r', g1, g2, fun j => ?_⟩
        rw [g3, q1, Bool.or_eq_true, Bool.and_eq_true, decide_eq_true_eq]
        by_cases ej : j = k
        · subst ej
          constructor
          · rintro ((q | ⟨-, q⟩) | ⟨a, b, c⟩)
            · exact Or.inl q
            · exact Or.inr ⟨Nat.le_refl _, by omega, hb.mp q⟩
            · omega
          · rintro (q | ⟨a, b, c⟩)
            · exact Or.inl (Or.inl q)
            · exact Or.inl (Or.inr ⟨rfl, hb.mpr c⟩)
        · constructor
          · rintro ((q | ⟨q, -⟩) | ⟨a, b, c⟩)
            · exact Or.inl q
            · exact absurd q ej
            · exact Or.inr ⟨by omega, b, c⟩
          · rintro (q | ⟨a, b, c⟩)
            · exact Or.inl (Or.inl q)
            · exact Or.inr ⟨by omega, b, c⟩
      rw [eik] at fin
      rw [if_neg (by rw [Int32.le_iff_toInt_le, zq_l24]; omega)]
      rcases hx with rfl | rfl
      · rw [if_pos (by decide), if_neg (by decide), zys208, zq_bind, ht]
        dsimp only
        unfold zyF220_84
        cases hL : (s.1 43 7).toInt.toNat.testBit k with
        | false =>
          rw [if_pos (by decide)]
          unfold zyF220_112
          rw [if_pos rfl]
          exact fin false 0 rfl (by rw [hL]; simp)
        | true =>
          rw [if_neg (by decide), f2, zq_bind]
          dsimp only
          by_cases e : r = 0
          · rw [if_neg (not_not_intro e)]
            unfold zyF220_112
            rw [if_neg (by decide)]
            exact fin true _ rfl (by rw [hL, if_pos rfl]; exact ⟨fun _ => ⟨rfl, hz.mp e⟩, fun _ => rfl⟩)
          · rw [if_pos e]
            unfold zyF220_112
            rw [if_pos rfl]
            exact fin false 0 rfl (by rw [hL, if_pos rfl]; exact ⟨fun q => (by cases q), fun q => absurd (hz.mpr q.2) e⟩)
      · rw [if_pos (by decide), if_pos (by decide), zys208, zq_bind, ht]
        dsimp only
        unfold zyF220_111
        cases hL : (s.1 43 7).toInt.toNat.testBit k with
        | true =>
          rw [if_pos (by decide)]
          unfold zyF220_112
          rw [if_pos rfl]
          exact fin false 0 rfl (by rw [hL, if_neg (by decide)]; exact ⟨fun q => (by cases q), fun q => absurd rfl q.1⟩)
        | false =>
          rw [if_neg (by decide), f2, zq_bind]
          dsimp only
          by_cases e : r = 0
          · rw [if_pos e]
            unfold zyF220_112
            rw [if_pos rfl]
            exact fin false 0 rfl (by rw [hL, if_neg (by decide)]; exact ⟨fun q => (by cases q), fun q => absurd q.2 (hz.mp e)⟩)
          · rw [if_neg e]
            unfold zyF220_112
            rw [if_neg (by decide)]
            exact fin true _ rfl (by rw [hL, if_neg (by decide)]; exact ⟨fun _ => ⟨by decide, Classical.not_not.mp (fun q => e (hz.mpr q))⟩, fun _ => rfl⟩)
end ZM
theorem zop_lines (x : Int32) {s : zy_S} (h : zI s) : ∃ r s1 s2, zyF93 x s = some (r, s1) ∧ zyF220 x s1 = some (r, s2) ∧ zI s2 := by
  obtain ⟨hw, hg, h1, h2, h3, h4, h5, h6, h7, h8, h9, h10, h11, h12, h13, h14, h15, h16, h17, h18, h19, h20, h21⟩ := id h
  obtain ⟨e6, l0, l1⟩ := id h6
  have l0' : 0 ≤ (s.1 43 7).toInt := by rw [← e6]; exact l0
  have hP := zPe_of h
  have L24 : ∀ j, 24 ≤ j → (s.1 1 3).toInt.toNat.testBit j = false := fun j hj => Nat.testBit_lt_two_pow (Nat.lt_of_lt_of_le (show (s.1 1 3).toInt.toNat < 2 ^ 24 by omega) (Nat.pow_le_pow_right (by omega) hj))
  by_cases hx : 0 ≤ x.toInt ∧ x.toInt ≤ 2
  · have m0 : ∀ r, zyF220_18 zy_fu x 0 0 s = some (r, s) → zyF220 x s = some (r, s) := by
      intro r e
      unfold zyF220
      simp only [zys179, zq_bind, zqb_n0, decide_eq_true_eq, Int32.toInt_toInt64, zq_j0, show (2 : Int64).toInt = 2 from rfl]
      rw [if_pos hx, e]
    by_cases x0 : x = 0
    · subst x0
      obtain ⟨r, f1, f2⟩ := zl_94 hP l0 e6 zy_fu zy_fu 0 0 0 rfl (by omega) (by unfold zy_fu; omega) (by unfold zy_fu; omega)
      have f1 : zyF94 s = some (r, s) := f1
      refine ⟨r, s, s, ?_, m0 r f2, h⟩
      unfold zyF93
      rw [if_pos rfl, f1]
      rfl
    obtain ⟨V, g1, g2, g3, g4⟩ := zys99 hP
    by_cases x1 : x = 1
    · subst x1
      obtain ⟨r, f1, f2, f3⟩ := zl_220 hP l0' (x := 1) (Or.inl rfl) zy_fu 0 0 0 rfl (by omega) (by unfold zy_fu; omega) (by decide)
      obtain ⟨a0, a1⟩ := zmk_andn l0 g2
      have er : (s.1 1 3) &&& (V ^^^ (-1 : Int32)) = r := by
        refine zmk_ext a0 f2 (fun j => Bool.eq_iff_iff.mpr ?_)
        rw [f3, a1, Bool.and_eq_true, if_pos rfl, ← e6, zq_l0, show (0 : Int).toNat = 0 from rfl, Nat.zero_testBit]
        rcases Nat.lt_or_ge j 24 with hj | hj
        · have := g4 j (Int32.ofInt (j : Int)) hj (Int32.toInt_ofInt_of_le (by omega) (by omega))
          rw [← this]
          cases V.toInt.toNat.testBit j <;> simp [hj]
        · rw [L24 j hj]
          simp
      refine ⟨r, s, s, ?_, m0 r f1, h⟩
      unfold zyF93
      rw [if_neg (by decide), if_pos rfl, g1, zq_bind, er]
    · have x2 : x = 2 := by
        have t0 : x.toInt ≠ 0 := fun e => x0 (zq_ext e)
        have t1 : x.toInt ≠ 1 := fun e => x1 (zq_ext e)
        exact zq_ext (by rw [zq_l2]; omega)
      subst x2
      obtain ⟨r, f1, f2, f3⟩ := zl_220 hP l0' (x := 2) (Or.inr rfl) zy_fu 0 0 0 rfl (by omega) (by unfold zy_fu; omega) (by decide)
      obtain ⟨a0, a1⟩ := zmk_andn g2 l0
      have er : V &&& ((s.1 1 3) ^^^ (-1 : Int32)) = r := by
        refine zmk_ext a0 f2 (fun j => Bool.eq_iff_iff.mpr ?_)
        rw [f3, a1, Bool.and_eq_true, if_neg (by decide), ← e6, zq_l0, show (0 : Int).toNat = 0 from rfl, Nat.zero_testBit]
        rcases Nat.lt_or_ge j 24 with hj | hj
        · have := g4 j (Int32.ofInt (j : Int)) hj (Int32.toInt_ofInt_of_le (by omega) (by omega))
          rw [← this]
          cases V.toInt.toNat.testBit j <;> simp [hj]
        · rw [g3 j hj]
          simp
          omega
      refine ⟨r, s, s, ?_, m0 r f1, h⟩
      unfold zyF93
      rw [if_neg (by decide), if_neg (by decide), if_pos rfl, g1, zq_bind, er]
  · have t0 : ¬ x = 0 := fun e => hx (by rw [e]; decide)
    have t1 : ¬ x = 1 := fun e => hx (by rw [e]; decide)
    have t2 : ¬ x = 2 := fun e => hx (by rw [e]; decide)
    refine ⟨-1, s, s, ?_, ?_, h⟩
    · unfold zyF93
      rw [if_neg t0, if_neg t1, if_neg t2]
    · unfold zyF220
      simp only [zys179, zq_bind, zqb_n0, decide_eq_true_eq, Int32.toInt_toInt64, zq_j0, show (2 : Int64).toInt = 2 from rfl]
      rw [if_neg hx]
