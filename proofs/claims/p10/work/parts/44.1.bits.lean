/-! PART 44.1: bits, counted in two ways (as p1 has it). -/
theorem zN_of {a : Nat} (h : a < 2147483648) : (Int32.ofInt (a : Int)).toInt = (a : Int) ∧ (Int32.ofInt (a : Int)).toBitVec.toNat = a := by
  have e : (Int32.ofInt (a : Int)).toInt = (a : Int) := Int32.toInt_ofInt_of_le (by omega) (by omega)
  have u := z_int_nat (Int32.ofInt (a : Int)) (by omega)
  exact ⟨e, by omega⟩
theorem zN_and {a b : Nat} (ha : a < 2147483648) (hb : b < 2147483648) : zb_c 13 (a : Int) (b : Int) = ((a &&& b : Nat) : Int) := by
  have e : zb_c 13 (a : Int) (b : Int) = (Int32.ofInt (a : Int) &&& Int32.ofInt (b : Int)).toInt := rfl
  have e2 : (Int32.ofInt (a : Int) &&& Int32.ofInt (b : Int)).toBitVec.toNat = a &&& b := by rw [Int32.toBitVec_and, BitVec.toNat_and, (zN_of ha).2, (zN_of hb).2]
  have u : a &&& b ≤ a := Nat.and_le_left
  rw [e, z_nat_int _ (by omega), e2]
theorem zN_or {a b : Nat} (ha : a < 2147483648) (hb : b < 2147483648) : zb_c 14 (a : Int) (b : Int) = ((a ||| b : Nat) : Int) := by
  have e : zb_c 14 (a : Int) (b : Int) = (Int32.ofInt (a : Int) ||| Int32.ofInt (b : Int)).toInt := rfl
  have e2 : (Int32.ofInt (a : Int) ||| Int32.ofInt (b : Int)).toBitVec.toNat = a ||| b := by rw [Int32.toBitVec_or, BitVec.toNat_or, (zN_of ha).2, (zN_of hb).2]
  have u : a ||| b < 2 ^ 31 := Nat.or_lt_two_pow ha hb
  rw [e, z_nat_int _ (by omega), e2]
theorem zN_xor {a b : Nat} (ha : a < 2147483648) (hb : b < 2147483648) : zb_c 15 (a : Int) (b : Int) = ((a ^^^ b : Nat) : Int) := by
  have e : zb_c 15 (a : Int) (b : Int) = (Int32.ofInt (a : Int) ^^^ Int32.ofInt (b : Int)).toInt := rfl
  have e2 : (Int32.ofInt (a : Int) ^^^ Int32.ofInt (b : Int)).toBitVec.toNat = a ^^^ b := by rw [Int32.toBitVec_xor, BitVec.toNat_xor, (zN_of ha).2, (zN_of hb).2]
  have u : a ^^^ b < 2 ^ 31 := Nat.xor_lt_two_pow ha hb
  rw [e, z_nat_int _ (by omega), e2]
theorem zN_shr {a k : Nat} (ha : a < 2147483648) (hk : k ≤ 31) : zb_c 17 (a : Int) (k : Int) = ((a / 2 ^ k : Nat) : Int) := by
  have e : zb_c 17 (a : Int) (k : Int) = (Int32.ofInt (a : Int) >>> (Int32.ofInt (k : Int) &&& 31)).toInt := rfl
  have hb := (zN_of (a := k) (by omega)).1
  rw [e, z_shr_eq, (zN_of ha).1, z_sh _ (by omega) (by omega), hb, Int.toNat_natCast, Int.natCast_ediv, Int.natCast_pow]
  rfl
theorem zN_ush {a k : Nat} (ha : a < 2147483648) (hk : k ≤ 31) : zb_c 18 (a : Int) (k : Int) = ((a / 2 ^ k : Nat) : Int) := by
  have e : zb_c 18 (a : Int) (k : Int) = (((Int32.ofInt (a : Int)).toUInt32 >>> ((Int32.ofInt (k : Int)).toUInt32 &&& Int32.toUInt32 31)).toInt32).toInt := rfl
  have hb := (zN_of (a := k) (by omega)).1
  have u := z_ushr_eq (Int32.ofInt (a : Int)) (Int32.ofInt (k : Int)) (by omega) (by omega)
  rw [hb, Int.toNat_natCast, (zN_of ha).2] at u
  have v : a / 2 ^ k ≤ a := Nat.div_le_self _ _
  rw [e, z_nat_int _ (by omega), u]
theorem zN_shl1 {k : Nat} (hk : k ≤ 30) : zb_c 16 1 (k : Int) = ((2 ^ k : Nat) : Int) := by
  have e : zb_c 16 1 (k : Int) = (Int32.ofInt ((1 : Nat) : Int) <<< (Int32.ofInt (k : Int) &&& 31)).toInt := rfl
  have h1 := (zN_of (a := 1) (by omega)).1
  have hb := (zN_of (a := k) (by omega)).1
  have u : 2 ^ k ≤ 2 ^ 30 := Nat.pow_le_pow_right (by omega) hk
  have v : ((2 ^ k : Nat) : Int) = 2 ^ k := Int.natCast_pow 2 k
  rw [e, z_shl_eq _ _ (by omega) (by omega) (by omega) (by rw [h1, hb, Int.toNat_natCast]; omega), h1, hb, Int.toNat_natCast]
  omega
set_option maxRecDepth 100000 in
theorem zb10 {x y : Int} (h1 : -2147483648 ≤ x + y) (h2 : x + y ≤ 2147483647) : zb_c 10 x y = x + y := by
  show zw32 (x + y) = _
  unfold zw32
  rw [if_pos ⟨h1, h2⟩]
theorem zN_add {a b : Nat} (h : a + b < 2147483648) : zb_c 10 (a : Int) (b : Int) = ((a + b : Nat) : Int) := by
  rw [zb10 (by omega) (by omega)]
  exact (Int.natCast_add a b).symm
theorem zN_sub {a b : Nat} (h : b ≤ a) (ha : a < 2147483648) : zb_c 11 (a : Int) (b : Int) = ((a - b : Nat) : Int) := by
  show zw32 ((a : Int) - (b : Int)) = _
  unfold zw32
  rw [if_pos (by omega)]
  omega
theorem zpopN_le (n : Nat) : ∀ k, zpopN k n ≤ k
  | 0 => Nat.le_refl _
  | k + 1 => by
    have := zpopN_le n k
    show zpopN k n + n / 2 ^ k % 2 ≤ k + 1
    omega
def zbits : Nat → Int → Int
  | 0, _ => 0
  | k + 1, b => zb_c 10 (zbits k b) (zb_c 13 (zb_c 17 b (k : Int)) 1)
theorem zbits_N {n : Nat} (h : n < 2147483648) : ∀ k, k ≤ 31 → zbits k (n : Int) = ((zpopN k n : Nat) : Int)
  | 0, _ => rfl
  | k + 1, hk => by
    show zb_c 10 (zbits k (n : Int)) (zb_c 13 (zb_c 17 (n : Int) (k : Int)) ((1 : Nat) : Int)) = _
    have h2 : n / 2 ^ k ≤ n := Nat.div_le_self _ _
    have h3 := zpopN_le n k
    rw [zbits_N h k (by omega), zN_shr h (by omega), zN_and (by omega) (by omega), Nat.and_one_is_mod, zN_add (by omega)]
    rfl
theorem zl_split (x y : Nat) : x &&& y = (x % 256 &&& y % 256) + 256 * (x / 256 &&& y / 256) := by
  have h1 : (x &&& y) / 256 = x / 256 &&& y / 256 := Nat.and_div_two_pow (n := 8)
  have h2 : (x &&& y) % 256 = (x % 256) &&& (y % 256) := Nat.and_mod_two_pow (n := 8)
  have h3 := Nat.div_add_mod (x &&& y) 256
  omega
theorem zl_land {a b c m0 m1 m2 : Nat} (ha : a < 256) (hb : b < 256) (h0 : m0 < 256) (h1 : m1 < 256) : (a + 256 * b + 65536 * c) &&& (m0 + 256 * m1 + 65536 * m2) = (a &&& m0) + 256 * (b &&& m1) + 65536 * (c &&& m2) := by
  rw [zl_split]
  have e1 : (a + 256 * b + 65536 * c) % 256 = a := by omega
  have e2 : (m0 + 256 * m1 + 65536 * m2) % 256 = m0 := by omega
  have e3 : (a + 256 * b + 65536 * c) / 256 = b + 256 * c := by omega
  have e4 : (m0 + 256 * m1 + 65536 * m2) / 256 = m1 + 256 * m2 := by omega
  rw [e1, e2, e3, e4, zl_split (b + 256 * c)]
  have e5 : (b + 256 * c) % 256 = b := by omega
  have e6 : (m1 + 256 * m2) % 256 = m1 := by omega
  have e7 : (b + 256 * c) / 256 = c := by omega
  have e8 : (m1 + 256 * m2) / 256 = m2 := by omega
  rw [e5, e6, e7, e8]
  omega
def zF1 (a : Nat) : Nat := a - (a / 2 &&& 85)
def zF2 (a : Nat) : Nat := (a &&& 51) + (a / 4 &&& 51)
theorem zby1 : ∀ a, a < 256 → (∀ t, t < 2 → ((a / 2 + 128 * t) &&& 85) = (a / 2 &&& 85)) ∧ (a / 2 &&& 21845) = (a / 2 &&& 85) ∧ (a / 2 &&& 85) ≤ a := by decide +kernel
theorem zby2 : ∀ a, a < 256 → (∀ t, t < 4 → ((a / 4 + 64 * t) &&& 51) = (a / 4 &&& 51)) ∧ (a &&& 13107) = (a &&& 51) ∧ (a / 4 &&& 13107) = (a / 4 &&& 51) := by decide +kernel
theorem zby3 : ∀ a, a < 256 → zF2 (zF1 a) ≤ 68 ∧ zF2 (zF1 a) % 16 ≤ 4 ∧ (∀ t, t < 5 → ((zF2 (zF1 a) + zF2 (zF1 a) / 16 + 16 * t) &&& 15) = zpopN 8 a) ∧ ((zF2 (zF1 a) + zF2 (zF1 a) / 16) &&& 3855) = zpopN 8 a := by decide +kernel
theorem zpop24 {a b c : Nat} (ha : a < 256) (hb : b < 256) (hc : c < 256) : zpopN 24 (a + 256 * b + 65536 * c) = zpopN 8 a + zpopN 8 b + zpopN 8 c := by
  have h0 : ∀ k, k < 8 → (a + 256 * b + 65536 * c) / 2 ^ k % 2 = a / 2 ^ k % 2 := by
    intro k hk
    rcases (by omega : k = 0 ∨ k = 1 ∨ k = 2 ∨ k = 3 ∨ k = 4 ∨ k = 5 ∨ k = 6 ∨ k = 7) with rfl | rfl | rfl | rfl | rfl | rfl | rfl | rfl <;> omega
  have h1 : ∀ k, k < 8 → (a + 256 * b + 65536 * c) / 2 ^ (k + 8) % 2 = b / 2 ^ k % 2 := by
    intro k hk
    rcases (by omega : k = 0 ∨ k = 1 ∨ k = 2 ∨ k = 3 ∨ k = 4 ∨ k = 5 ∨ k = 6 ∨ k = 7) with rfl | rfl | rfl | rfl | rfl | rfl | rfl | rfl <;> omega
  have h2 : ∀ k, k < 8 → (a + 256 * b + 65536 * c) / 2 ^ (k + 16) % 2 = c / 2 ^ k % 2 := by
    intro k hk
    rcases (by omega : k = 0 ∨ k = 1 ∨ k = 2 ∨ k = 3 ∨ k = 4 ∨ k = 5 ∨ k = 6 ∨ k = 7) with rfl | rfl | rfl | rfl | rfl | rfl | rfl | rfl <;> omega
  generalize a + 256 * b + 65536 * c = n at *
  have g0 : ∀ k, k ≤ 8 → zpopN k n = zpopN k a := by
    intro k
    induction k with
    | zero => intro _; rfl
    | succ k ih =>
      intro hk
      show zpopN k n + n / 2 ^ k % 2 = zpopN k a + a / 2 ^ k % 2
      rw [ih (by omega), h0 k (by omega)]
  have g1 : ∀ k, k ≤ 8 → zpopN (k + 8) n = zpopN 8 a + zpopN k b := by
    intro k
    induction k with
    | zero => intro _; exact g0 8 (by omega)
    | succ k ih =>
      intro hk
      have e : zpopN (k + 1 + 8) n = zpopN (k + 8) n + n / 2 ^ (k + 8) % 2 := by
        have : k + 1 + 8 = (k + 8) + 1 := by omega
        rw [this]
        rfl
      have e2 : zpopN (k + 1) b = zpopN k b + b / 2 ^ k % 2 := rfl
      rw [e, e2, ih (by omega), h1 k (by omega)]
      omega
  have g2 : ∀ k, k ≤ 8 → zpopN (k + 16) n = zpopN 8 a + zpopN 8 b + zpopN k c := by
    intro k
    induction k with
    | zero => intro _; exact g1 8 (by omega)
    | succ k ih =>
      intro hk
      have e : zpopN (k + 1 + 16) n = zpopN (k + 16) n + n / 2 ^ (k + 16) % 2 := by
        have : k + 1 + 16 = (k + 16) + 1 := by omega
        rw [this]
        rfl
      have e2 : zpopN (k + 1) c = zpopN k c + c / 2 ^ k % 2 := rfl
      rw [e, e2, ih (by omega), h2 k (by omega)]
      omega
  exact g2 8 (by omega)
/-- the JDK's count of bits -/
def zbcA (x : Int) : Int := zb_c 11 x (zb_c 13 (zb_c 18 x 1) 1431655765)
def zbcB (x : Int) : Int := zb_c 10 (zb_c 13 x 858993459) (zb_c 13 (zb_c 18 x 2) 858993459)
def zbcC (x : Int) : Int := zb_c 13 (zb_c 10 x (zb_c 18 x 4)) 252645135
def zbcD (x : Int) : Int := zb_c 10 x (zb_c 18 x 8)
def zbcE (x : Int) : Int := zb_c 13 (zb_c 10 x (zb_c 18 x 16)) 63
def zbc (x : Int) : Int := zbcE (zbcD (zbcC (zbcB (zbcA x))))
theorem zbc_N {n : Nat} (h : n < 16777216) : zbc (n : Int) = ((zpopN 24 n : Nat) : Int) := by
  obtain ⟨a, b, c, ha, hb, hc, rfl⟩ : ∃ a b c, a < 256 ∧ b < 256 ∧ c < 256 ∧ n = a + 256 * b + 65536 * c := ⟨n % 256, n / 256 % 256, n / 65536, by omega, by omega, by omega, by omega⟩
  rw [zpop24 ha hb hc]
  obtain ⟨a1, a2, a3⟩ := zby1 a ha
  obtain ⟨b1, b2, b3⟩ := zby1 b hb
  obtain ⟨c1, c2, c3⟩ := zby1 c hc
  have sA : zbcA ((a + 256 * b + 65536 * c : Nat) : Int) = ((zF1 a + 256 * zF1 b + 65536 * zF1 c : Nat) : Int) := by
    have e1 : (a + 256 * b + 65536 * c) / 2 ^ 1 = (a / 2 + 128 * (b % 2)) + 256 * (b / 2 + 128 * (c % 2)) + 65536 * (c / 2) := by omega
    have e2 : ((a / 2 + 128 * (b % 2)) + 256 * (b / 2 + 128 * (c % 2)) + 65536 * (c / 2)) &&& 1431655765 = (a / 2 &&& 85) + 256 * (b / 2 &&& 85) + 65536 * (c / 2 &&& 85) := by
      have := zl_land (a := a / 2 + 128 * (b % 2)) (b := b / 2 + 128 * (c % 2)) (c := c / 2) (m0 := 85) (m1 := 85) (m2 := 21845) (by omega) (by omega) (by omega) (by omega)
      rw [a1 _ (by omega), b1 _ (by omega), c2] at this
      exact this
    show zb_c 11 _ (zb_c 13 (zb_c 18 _ ((1 : Nat) : Int)) ((1431655765 : Nat) : Int)) = _
    rw [zN_ush (by omega) (by omega), e1, zN_and (by omega) (by omega), e2, zN_sub (by omega) (by omega)]
    unfold zF1
    omega
  have hF : ∀ x, x < 256 → zF1 x < 256 := fun x hx => by unfold zF1; omega
  have fa := hF a ha
  have fb := hF b hb
  have fc := hF c hc
  obtain ⟨p1, p2, p3⟩ := zby2 _ fa
  obtain ⟨q1, q2, q3⟩ := zby2 _ fb
  obtain ⟨r1, r2, r3⟩ := zby2 _ fc
  have hA := zby3 a ha
  have hB := zby3 b hb
  have hC := zby3 c hc
  generalize eA : zF1 a = A at *
  generalize eB : zF1 b = B at *
  generalize eC : zF1 c = C at *
  have sB : zbcB ((A + 256 * B + 65536 * C : Nat) : Int) = ((zF2 A + 256 * zF2 B + 65536 * zF2 C : Nat) : Int) := by
    have e1 : (A + 256 * B + 65536 * C) / 2 ^ 2 = (A / 4 + 64 * (B % 4)) + 256 * (B / 4 + 64 * (C % 4)) + 65536 * (C / 4) := by omega
    have e2 : ((A / 4 + 64 * (B % 4)) + 256 * (B / 4 + 64 * (C % 4)) + 65536 * (C / 4)) &&& 858993459 = (A / 4 &&& 51) + 256 * (B / 4 &&& 51) + 65536 * (C / 4 &&& 51) := by
      have := zl_land (a := A / 4 + 64 * (B % 4)) (b := B / 4 + 64 * (C % 4)) (c := C / 4) (m0 := 51) (m1 := 51) (m2 := 13107) (by omega) (by omega) (by omega) (by omega)
      rw [p1 _ (by omega), q1 _ (by omega), r3] at this
      exact this
    have e3 : (A + 256 * B + 65536 * C) &&& 858993459 = (A &&& 51) + 256 * (B &&& 51) + 65536 * (C &&& 51) := by
      have := zl_land (a := A) (b := B) (c := C) (m0 := 51) (m1 := 51) (m2 := 13107) fa fb (by omega) (by omega)
      rw [r2] at this
      exact this
    have u : ∀ x : Nat, (x &&& 51) ≤ 51 := fun x => Nat.and_le_right
    have u1 := u A
    have u2 := u B
    have u3 := u C
    have u4 := u (A / 4)
    have u5 := u (B / 4)
    have u6 := u (C / 4)
    show zb_c 10 (zb_c 13 _ ((858993459 : Nat) : Int)) (zb_c 13 (zb_c 18 _ ((2 : Nat) : Int)) ((858993459 : Nat) : Int)) = _
    rw [zN_ush (by omega) (by omega), e1, zN_and (by omega) (by omega), e3, zN_and (by omega) (by omega), e2, zN_add (by omega)]
    unfold zF2
    omega
  rw [show zbc ((a + 256 * b + 65536 * c : Nat) : Int) = zbcE (zbcD (zbcC (zbcB (zbcA ((a + 256 * b + 65536 * c : Nat) : Int))))) from rfl, sA, sB]
  obtain ⟨hA1, hA2, hA3, hA4⟩ := hA
  obtain ⟨hB1, hB2, hB3, hB4⟩ := hB
  obtain ⟨hC1, hC2, hC3, hC4⟩ := hC
  have wa := zpopN_le a 8
  have wb := zpopN_le b 8
  have wc := zpopN_le c 8
  generalize zF2 A = x at *
  generalize zF2 B = y at *
  generalize zF2 C = z at *
  have sC : zbcC ((x + 256 * y + 65536 * z : Nat) : Int) = ((zpopN 8 a + 256 * zpopN 8 b + 65536 * zpopN 8 c : Nat) : Int) := by
    have e1 : (x + 256 * y + 65536 * z) + (x + 256 * y + 65536 * z) / 2 ^ 4 = (x + x / 16 + 16 * (y % 16)) + 256 * (y + y / 16 + 16 * (z % 16)) + 65536 * (z + z / 16) := by omega
    have e2 : ((x + x / 16 + 16 * (y % 16)) + 256 * (y + y / 16 + 16 * (z % 16)) + 65536 * (z + z / 16)) &&& 252645135 = zpopN 8 a + 256 * zpopN 8 b + 65536 * zpopN 8 c := by
      have := zl_land (a := x + x / 16 + 16 * (y % 16)) (b := y + y / 16 + 16 * (z % 16)) (c := z + z / 16) (m0 := 15) (m1 := 15) (m2 := 3855) (by omega) (by omega) (by omega) (by omega)
      rw [hA3 _ (by omega), hB3 _ (by omega), hC4] at this
      exact this
    show zb_c 13 (zb_c 10 _ (zb_c 18 _ ((4 : Nat) : Int))) ((252645135 : Nat) : Int) = _
    rw [zN_ush (by omega) (by omega), zN_add (by omega), e1, zN_and (by omega) (by omega), e2]
  rw [sC]
  generalize zpopN 8 a = p at *
  generalize zpopN 8 b = q at *
  generalize zpopN 8 c = r at *
  have sD : zbcD ((p + 256 * q + 65536 * r : Nat) : Int) = ((p + q + 256 * (q + r) + 65536 * r : Nat) : Int) := by
    show zb_c 10 _ (zb_c 18 _ ((8 : Nat) : Int)) = _
    rw [zN_ush (by omega) (by omega), zN_add (by omega)]
    omega
  rw [sD]
  have e63 : (p + q + r + 256 * (q + r) + 65536 * r) &&& 63 = p + q + r := by
    have : (p + q + r + 256 * (q + r) + 65536 * r) &&& 63 = (p + q + r + 256 * (q + r) + 65536 * r) % 64 := Nat.and_two_pow_sub_one_eq_mod _ 6
    omega
  show zb_c 13 (zb_c 10 _ (zb_c 18 _ ((16 : Nat) : Int))) ((63 : Nat) : Int) = _
  rw [zN_ush (by omega) (by omega), zN_add (by omega)]
  have e2 : p + q + 256 * (q + r) + 65536 * r + (p + q + 256 * (q + r) + 65536 * r) / 2 ^ 16 = p + q + r + 256 * (q + r) + 65536 * r := by omega
  rw [e2, zN_and (by omega) (by omega), e63]
theorem zl_bit (n k : Nat) : n &&& 2 ^ k = if n / 2 ^ k % 2 = 1 then 2 ^ k else 0 := by
  apply Nat.eq_of_testBit_eq
  intro i
  rw [Nat.testBit_and, Nat.testBit_two_pow]
  have e : n.testBit k = decide (n / 2 ^ k % 2 = 1) := Nat.testBit_eq_decide_div_mod_eq
  by_cases hik : k = i
  · subst hik
    rw [e]
    by_cases h : n / 2 ^ k % 2 = 1
    · rw [if_pos h, Nat.testBit_two_pow_self]
      simp [h]
    · rw [if_neg h]
      simp [h]
  · by_cases h : n / 2 ^ k % 2 = 1
    · rw [if_pos h, Nat.testBit_two_pow_of_ne hik]
      simp [hik]
    · rw [if_neg h]
      simp [hik]
theorem zN_andn {n c : Nat} (hn : n < 2147483648) (hc : c < 2147483648) : zb_c 13 (n : Int) (zb_c 15 (c : Int) (-1)) = ((n ^^^ (n &&& c) : Nat) : Int) := by
  have e1 : zb_c 15 (c : Int) (-1) = (Int32.ofInt (c : Int) ^^^ Int32.ofInt (-1)).toInt := rfl
  have e2 : zb_c 13 (n : Int) (zb_c 15 (c : Int) (-1)) = (Int32.ofInt (n : Int) &&& Int32.ofInt (zb_c 15 (c : Int) (-1))).toInt := rfl
  rw [e2, e1, Int32.ofInt_toInt]
  have e3 : (Int32.ofInt (n : Int) &&& (Int32.ofInt (c : Int) ^^^ Int32.ofInt (-1))).toBitVec = (Int32.ofInt (n : Int)).toBitVec ^^^ ((Int32.ofInt (n : Int)).toBitVec &&& (Int32.ofInt (c : Int)).toBitVec) := by
    rw [Int32.toBitVec_and, Int32.toBitVec_xor]
    have em : (Int32.ofInt (-1)).toBitVec = BitVec.allOnes 32 := by decide
    rw [em]
    apply BitVec.eq_of_getLsbD_eq
    intro i hi
    simp only [BitVec.getLsbD_and, BitVec.getLsbD_xor, BitVec.getLsbD_allOnes, hi, decide_true]
    cases (Int32.ofInt (n : Int)).toBitVec.getLsbD i <;> cases (Int32.ofInt (c : Int)).toBitVec.getLsbD i <;> rfl
  have e4 : (Int32.ofInt (n : Int) &&& (Int32.ofInt (c : Int) ^^^ Int32.ofInt (-1))).toBitVec.toNat = n ^^^ (n &&& c) := by
    rw [e3, BitVec.toNat_xor, BitVec.toNat_and, (zN_of hn).2, (zN_of hc).2]
  have u1 : n &&& c ≤ n := Nat.and_le_left
  have u2 : n ^^^ (n &&& c) < 2 ^ 31 := Nat.xor_lt_two_pow hn (by omega)
  rw [z_nat_int _ (by omega), e4]
def zpo (b : Int) : Int := ((zpopN 24 b.toNat : Nat) : Int)
theorem zpo_bc {b : Int} (h0 : 0 ≤ b) (h1 : b ≤ 16777215) : zbc b = zpo b := by
  have e : b = (b.toNat : Int) := (Int.toNat_of_nonneg h0).symm
  unfold zpo
  rw [← zbc_N (by omega), ← e]
theorem zpo_bits {b : Int} (h0 : 0 ≤ b) (h1 : b ≤ 16777215) : zbits 24 b = zpo b := by
  have e : b = (b.toNat : Int) := (Int.toNat_of_nonneg h0).symm
  unfold zpo
  rw [← zbits_N (by omega) 24 (by omega), ← e]
