/-! PART 11b: bounds of operations. -/
theorem z_int_nat (a : Int32) (h : 0 ≤ a.toInt) : a.toInt = (a.toBitVec.toNat : Int) ∧ a.toBitVec.toNat < 2147483648 := by
  have e1 : a.toInt = a.toBitVec.toInt := rfl
  have hl := a.toBitVec.isLt
  rw [e1, BitVec.toInt_eq_toNat_cond] at h ⊢
  split
  · exact ⟨rfl, by omega⟩
  · next q => rw [if_neg q] at h; omega
theorem z_nat_int (a : Int32) (h : a.toBitVec.toNat < 2147483648) : a.toInt = (a.toBitVec.toNat : Int) := by
  have e1 : a.toInt = a.toBitVec.toInt := rfl
  rw [e1, BitVec.toInt_eq_toNat_cond, if_pos (by omega)]
/-- the least number of ones that is not less -/
def zpw (n : Int) : Int := ((2 ^ (Nat.log2 n.toNat + 1) - 1 : Nat) : Int)
theorem z_pw {n : Int} {a : Nat} (h : (a : Int) ≤ n) : a < 2 ^ (Nat.log2 n.toNat + 1) := by
  have h1 : a ≤ n.toNat := by omega
  exact Nat.lt_of_le_of_lt h1 Nat.lt_log2_self
theorem z_pw31 {n : Int} (h : n < 2147483648) : 2 ^ (Nat.log2 n.toNat + 1) ≤ 2147483648 := by
  have h1 : Nat.log2 n.toNat < 31 := by
    by_cases h0 : n.toNat = 0
    · rw [h0]; decide
    · exact (Nat.log2_lt h0).mpr (by omega)
  have : 2 ^ (Nat.log2 n.toNat + 1) ≤ 2 ^ 31 := Nat.pow_le_pow_right (by omega) (by omega)
  omega
theorem z_or_in (a b : Int32) {m : Int} (h0 : 0 ≤ a.toInt) (h1 : a.toInt ≤ m) (h2 : 0 ≤ b.toInt) (h3 : b.toInt ≤ m) (hm : m < 2147483648) : 0 ≤ (a ||| b).toInt ∧ (a ||| b).toInt ≤ zpw m := by
  obtain ⟨ea, la⟩ := z_int_nat a h0
  obtain ⟨eb, lb⟩ := z_int_nat b h2
  have p1 := z_pw (n := m) (a := a.toBitVec.toNat) (by omega)
  have p2 := z_pw (n := m) (a := b.toBitVec.toNat) (by omega)
  have e : (a ||| b).toBitVec.toNat = a.toBitVec.toNat ||| b.toBitVec.toNat := by rw [Int32.toBitVec_or, BitVec.toNat_or]
  have p3 := Nat.or_lt_two_pow p1 p2
  have p4 := z_pw31 hm
  have e2 := z_nat_int (a ||| b) (by omega)
  unfold zpw
  omega
theorem z_xor_in (a b : Int32) {m : Int} (h0 : 0 ≤ a.toInt) (h1 : a.toInt ≤ m) (h2 : 0 ≤ b.toInt) (h3 : b.toInt ≤ m) (hm : m < 2147483648) : 0 ≤ (a ^^^ b).toInt ∧ (a ^^^ b).toInt ≤ zpw m := by
  obtain ⟨ea, la⟩ := z_int_nat a h0
  obtain ⟨eb, lb⟩ := z_int_nat b h2
  have p1 := z_pw (n := m) (a := a.toBitVec.toNat) (by omega)
  have p2 := z_pw (n := m) (a := b.toBitVec.toNat) (by omega)
  have e : (a ^^^ b).toBitVec.toNat = a.toBitVec.toNat ^^^ b.toBitVec.toNat := by rw [Int32.toBitVec_xor, BitVec.toNat_xor]
  have p3 := Nat.xor_lt_two_pow p1 p2
  have p4 := z_pw31 hm
  have e2 := z_nat_int (a ^^^ b) (by omega)
  unfold zpw
  omega
/-- the shift's distance -/
theorem z_sh (b : Int32) (h0 : 0 ≤ b.toInt) (h1 : b.toInt ≤ 31) : (b &&& 31).toBitVec.toNat = b.toInt.toNat := by
  obtain ⟨eb, lb⟩ := z_int_nat b h0
  have e : (b &&& 31).toBitVec.toNat = b.toBitVec.toNat &&& 31 := by rw [Int32.toBitVec_and, BitVec.toNat_and]; rfl
  have e2 : b.toBitVec.toNat &&& 31 = b.toBitVec.toNat % 32 := Nat.and_two_pow_sub_one_eq_mod b.toBitVec.toNat 5
  omega
theorem z_shl_eq (a b : Int32) (h0 : 0 ≤ a.toInt) (hb0 : 0 ≤ b.toInt) (hb1 : b.toInt ≤ 31) (h : a.toInt * 2 ^ b.toInt.toNat < 2147483648) : (a <<< (b &&& 31)).toInt = a.toInt * 2 ^ b.toInt.toNat := by
  obtain ⟨ea, la⟩ := z_int_nat a h0
  have es := z_sh b hb0 hb1
  have e : (a <<< (b &&& 31)).toBitVec.toNat = (a.toBitVec.toNat <<< b.toInt.toNat) % 2 ^ 32 := by
    rw [Int32.toBitVec_shiftLeft, BitVec.shiftLeft_eq', BitVec.toNat_shiftLeft]
    have e3 : ((b &&& 31).toBitVec.smod 32).toNat = b.toInt.toNat := by
      have e4 : (b &&& 31).toBitVec.toNat < 32 := by omega
      have e5 : (b &&& 31).toBitVec.smod 32 = (b &&& 31).toBitVec := by
        generalize (b &&& 31).toBitVec = v at e4
        apply BitVec.eq_of_toNat_eq
        have hv : v.msb = false := by
          rw [BitVec.msb_eq_decide]
          exact decide_eq_false (by show ¬ 2147483648 ≤ v.toNat; omega)
        rw [BitVec.smod_eq, hv]
        show (v.umod 32).toNat = v.toNat
        show (v % 32).toNat = v.toNat
        rw [BitVec.toNat_umod]
        exact Nat.mod_eq_of_lt e4
      rw [e5, es]
    rw [e3]
  rw [Nat.shiftLeft_eq] at e
  have hn : a.toBitVec.toNat * 2 ^ b.toInt.toNat < 2147483648 := by
    rw [ea] at h
    have h2 : ((a.toBitVec.toNat * 2 ^ b.toInt.toNat : Nat) : Int) < 2147483648 := by
      rw [Int.natCast_mul, Int.natCast_pow]
      exact h
    omega
  rw [Nat.mod_eq_of_lt (by omega)] at e
  have e2 := z_nat_int (a <<< (b &&& 31)) (by omega)
  rw [e2, e, ea]
  rw [Int.natCast_mul, Int.natCast_pow]
  rfl
theorem z_pow_le {m n : Nat} (h : m ≤ n) : (2 : Int) ^ m ≤ 2 ^ n := by
  have := Nat.pow_le_pow_right (n := 2) (by omega) h
  have e1 : ((2 ^ m : Nat) : Int) = 2 ^ m := Int.natCast_pow 2 m
  have e2 : ((2 ^ n : Nat) : Int) = 2 ^ n := Int.natCast_pow 2 n
  omega
theorem z_pow_pos (m : Nat) : (0 : Int) < 2 ^ m := by
  have e1 : ((2 ^ m : Nat) : Int) = 2 ^ m := Int.natCast_pow 2 m
  have := Nat.two_pow_pos m
  omega
theorem z_smod32 (v : BitVec 32) (e4 : v.toNat < 32) : v.smod 32 = v := by
  apply BitVec.eq_of_toNat_eq
  have hv : v.msb = false := by
    rw [BitVec.msb_eq_decide]
    exact decide_eq_false (by show ¬ 2147483648 ≤ v.toNat; omega)
  rw [BitVec.smod_eq, hv]
  show (v % 32).toNat = v.toNat
  rw [BitVec.toNat_umod]
  exact Nat.mod_eq_of_lt e4
theorem z_and31 (b : Int32) : (b &&& 31).toBitVec.toNat < 32 := by
  have e : (b &&& 31).toBitVec.toNat = b.toBitVec.toNat &&& 31 := by rw [Int32.toBitVec_and, BitVec.toNat_and]; rfl
  have e2 : b.toBitVec.toNat &&& 31 = b.toBitVec.toNat % 32 := Nat.and_two_pow_sub_one_eq_mod b.toBitVec.toNat 5
  omega
/-- shift to the right: towards 0 or -1 -/
theorem z_shr_eq (a b : Int32) : (a >>> (b &&& 31)).toInt = a.toInt / 2 ^ (b &&& 31).toBitVec.toNat := by
  have e1 : (a >>> (b &&& 31)).toInt = (a >>> (b &&& 31)).toBitVec.toInt := rfl
  rw [e1, Int32.toBitVec_shiftRight, BitVec.toInt_sshiftRight', z_smod32 _ (z_and31 b), Int.shiftRight_eq_div_pow]
  rfl
theorem z_shr_in (a b : Int32) : min a.toInt 0 ≤ (a >>> (b &&& 31)).toInt ∧ (a >>> (b &&& 31)).toInt ≤ max a.toInt 0 := by
  rw [z_shr_eq]
  generalize (b &&& 31).toBitVec.toNat = k
  have hp := z_pow_pos k
  have h1 : (1 : Int) ≤ 2 ^ k := by omega
  generalize (2 : Int) ^ k = m at *
  rcases Int.le_total 0 a.toInt with h | h
  · have u1 : 0 ≤ a.toInt / m := Int.ediv_nonneg h (by omega)
    have u2 : a.toInt / m ≤ a.toInt := Int.ediv_le_self _ h
    omega
  · have u1 : a.toInt ≤ a.toInt / m := by
      rw [Int.le_ediv_iff_mul_le hp]
      have := Int.mul_le_mul_of_nonpos_left (a := a.toInt) (b := m) (c := 1) (by omega) (by omega)
      omega
    have u2 : a.toInt / m ≤ 0 := by
      have := Int.ediv_le_ediv (a := a.toInt) (b := 0) hp h
      simpa using this
    omega
theorem z_shr_in2 (a b : Int32) {c : Int} (h0 : 0 ≤ a.toInt) (hc : 0 ≤ c) (h1 : c ≤ b.toInt) (h2 : b.toInt ≤ 31) {p : Int} (hp : a.toInt ≤ p) : (a >>> (b &&& 31)).toInt ≤ p / 2 ^ c.toNat := by
  rw [z_shr_eq, z_sh b (by omega) h2]
  have u1 := z_pow_le (m := c.toNat) (n := b.toInt.toNat) (by omega)
  have u2 := z_pow_pos c.toNat
  have u3 : a.toInt / 2 ^ b.toInt.toNat ≤ a.toInt / 2 ^ c.toNat := by
    generalize (2 : Int) ^ b.toInt.toNat = m at *
    generalize (2 : Int) ^ c.toNat = m' at *
    rw [Int.le_ediv_iff_mul_le u2]
    have v1 : 0 ≤ a.toInt / m := Int.ediv_nonneg h0 (by omega)
    have v2 : a.toInt / m * m' ≤ a.toInt / m * m := Int.mul_le_mul_of_nonneg_left u1 v1
    have v3 : a.toInt / m * m ≤ a.toInt := Int.ediv_mul_le _ (by omega)
    omega
  exact Int.le_trans u3 (Int.ediv_le_ediv u2 hp)
theorem z_ushr_eq (a b : Int32) (h0 : 0 ≤ b.toInt) (h1 : b.toInt ≤ 31) : ((a.toUInt32 >>> (b.toUInt32 &&& Int32.toUInt32 31)).toInt32).toBitVec.toNat = a.toBitVec.toNat / 2 ^ b.toInt.toNat := by
  obtain ⟨eb, lb⟩ := z_int_nat b h0
  have e1 : ((a.toUInt32 >>> (b.toUInt32 &&& Int32.toUInt32 31)).toInt32).toBitVec.toNat = (a.toUInt32 >>> (b.toUInt32 &&& Int32.toUInt32 31)).toNat := rfl
  have e2 : a.toUInt32.toNat = a.toBitVec.toNat := rfl
  have e3 : (b.toUInt32 &&& Int32.toUInt32 31).toNat = b.toBitVec.toNat &&& 31 := by rw [UInt32.toNat_and]; rfl
  have e4 : b.toBitVec.toNat &&& 31 = b.toBitVec.toNat % 32 := Nat.and_two_pow_sub_one_eq_mod b.toBitVec.toNat 5
  rw [e1, UInt32.toNat_shiftRight, e2, e3, e4, Nat.shiftRight_eq_div_pow]
  congr 2
  omega
theorem z_ushr_in (a b : Int32) {c : Int} (hc : 1 ≤ c) (h1 : c ≤ b.toInt) (h2 : b.toInt ≤ 31) : 0 ≤ ((a.toUInt32 >>> (b.toUInt32 &&& Int32.toUInt32 31)).toInt32).toInt ∧ ((a.toUInt32 >>> (b.toUInt32 &&& Int32.toUInt32 31)).toInt32).toInt ≤ 4294967295 / 2 ^ c.toNat := by
  have e := z_ushr_eq a b (by omega) h2
  have hl := a.toBitVec.isLt
  have u1 : 2 ^ c.toNat ≤ 2 ^ b.toInt.toNat := Nat.pow_le_pow_right (by omega) (by omega)
  have u2 : 2 ^ 1 ≤ 2 ^ c.toNat := Nat.pow_le_pow_right (by omega) (by omega)
  have u3 : a.toBitVec.toNat / 2 ^ b.toInt.toNat ≤ a.toBitVec.toNat / 2 ^ c.toNat := Nat.div_le_div_left u1 (by omega)
  have u4 : a.toBitVec.toNat / 2 ^ c.toNat ≤ 4294967295 / 2 ^ c.toNat := Nat.div_le_div_right (by omega)
  have u5 : 4294967295 / 2 ^ c.toNat ≤ 4294967295 / 2 ^ 1 := Nat.div_le_div_left u2 (by omega)
  have e2 := z_nat_int _ (by rw [e]; omega)
  rw [e2, e]
  have e3 : ((4294967295 / 2 ^ c.toNat : Nat) : Int) = 4294967295 / 2 ^ c.toNat := by rw [Int.natCast_ediv, Int.natCast_pow]; rfl
  omega
theorem z_ushr_in2 (a b : Int32) {c : Int} (h0 : 0 ≤ a.toInt) (hc : 0 ≤ c) (h1 : c ≤ b.toInt) (h2 : b.toInt ≤ 31) {p : Int} (hp : a.toInt ≤ p) : 0 ≤ ((a.toUInt32 >>> (b.toUInt32 &&& Int32.toUInt32 31)).toInt32).toInt ∧ ((a.toUInt32 >>> (b.toUInt32 &&& Int32.toUInt32 31)).toInt32).toInt ≤ p / 2 ^ c.toNat := by
  have e := z_ushr_eq a b (by omega) h2
  obtain ⟨ea, la⟩ := z_int_nat a h0
  have u1 : 2 ^ c.toNat ≤ 2 ^ b.toInt.toNat := Nat.pow_le_pow_right (by omega) (by omega)
  have u2 := Nat.two_pow_pos c.toNat
  have u3 : a.toBitVec.toNat / 2 ^ b.toInt.toNat ≤ a.toBitVec.toNat / 2 ^ c.toNat := Nat.div_le_div_left u1 u2
  have u4 : a.toBitVec.toNat / 2 ^ c.toNat ≤ a.toBitVec.toNat := Nat.div_le_self _ _
  have e2 := z_nat_int _ (by rw [e]; omega)
  rw [e2, e]
  have e3 : ((a.toBitVec.toNat / 2 ^ c.toNat : Nat) : Int) = a.toInt / 2 ^ c.toNat := by rw [Int.natCast_ediv, Int.natCast_pow, ea]; rfl
  have u5 : a.toInt / 2 ^ c.toNat ≤ p / 2 ^ c.toNat := Int.ediv_le_ediv (z_pow_pos _) hp
  omega
theorem z_mul_in {a b l1 h1 l2 h2 : Int} (a1 : l1 ≤ a) (a2 : a ≤ h1) (b1 : l2 ≤ b) (b2 : b ≤ h2) : min (min (l1 * l2) (l1 * h2)) (min (h1 * l2) (h1 * h2)) ≤ a * b ∧ a * b ≤ max (max (l1 * l2) (l1 * h2)) (max (h1 * l2) (h1 * h2)) := by
  have lin : ∀ {x y c z : Int}, x ≤ z → z ≤ y → min (x * c) (y * c) ≤ z * c ∧ z * c ≤ max (x * c) (y * c) := by
    intro x y c z hx hy
    rcases Int.le_total 0 c with hc | hc
    · have u1 := Int.mul_le_mul_of_nonneg_right hx hc
      have u2 := Int.mul_le_mul_of_nonneg_right hy hc
      omega
    · have u1 := Int.mul_le_mul_of_nonpos_right hx hc
      have u2 := Int.mul_le_mul_of_nonpos_right hy hc
      omega
  have k1 := lin (c := b) a1 a2
  have k2 := lin (c := l1) b1 b2
  have k3 := lin (c := h1) b1 b2
  rw [Int.mul_comm l1 b, Int.mul_comm h1 b] at k1
  rw [Int.mul_comm l2 l1, Int.mul_comm h2 l1] at k2
  rw [Int.mul_comm l2 h1, Int.mul_comm h2 h1] at k3
  omega
theorem z_tdiv_abs {a b : Int} (hb : 0 < b) : min a 0 ≤ a.tdiv b ∧ a.tdiv b ≤ max a 0 := by
  rcases Int.le_total 0 a with h | h
  · rw [Int.tdiv_eq_ediv_of_nonneg h]
    have u1 : 0 ≤ a / b := Int.ediv_nonneg h (by omega)
    have u2 : a / b ≤ a := Int.ediv_le_self _ h
    omega
  · have e : a.tdiv b = - ((-a) / b) := by
      have := Int.neg_tdiv (a := -a) (b := b)
      rw [Int.neg_neg] at this
      rw [this, Int.tdiv_eq_ediv_of_nonneg (by omega : 0 ≤ -a)]
    have u1 : 0 ≤ -a / b := Int.ediv_nonneg (by omega) (by omega)
    have u2 : -a / b ≤ -a := Int.ediv_le_self _ (by omega)
    omega
theorem z_tdiv_mono {a p b : Int} (hb : 0 < b) (h : a ≤ p) : a.tdiv b ≤ p.tdiv b := by
  have hn : ∀ x : Int, x ≤ 0 → x.tdiv b = - ((-x) / b) := by
    intro x hx
    have := Int.neg_tdiv (a := -x) (b := b)
    rw [Int.neg_neg] at this
    rw [this, Int.tdiv_eq_ediv_of_nonneg (by omega : 0 ≤ -x)]
  rcases Int.le_total 0 a with h0 | h0
  · rw [Int.tdiv_eq_ediv_of_nonneg h0, Int.tdiv_eq_ediv_of_nonneg (by omega)]
    exact Int.ediv_le_ediv hb h
  · rcases Int.le_total 0 p with h1 | h1
    · have u1 := z_tdiv_abs (a := a) hb
      have u2 := z_tdiv_abs (a := p) hb
      omega
    · rw [hn a h0, hn p h1]
      have := Int.ediv_le_ediv (a := -p) (b := -a) hb (by omega)
      omega
