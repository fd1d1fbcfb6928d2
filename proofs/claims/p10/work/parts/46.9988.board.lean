/-! PART 46.9988: board on both sides. Made by wip/v6/gen_board.py. -/
theorem zclp_in (v : Int32) : 0 ≤ (zclp v).toInt ∧ (zclp v).toInt ≤ 99 := by
  unfold zclp
  by_cases h : v.toInt < 0
  · rw [if_pos h]
    exact ⟨by decide, by decide⟩
  · rw [if_neg h]
    by_cases k : 99 < v.toInt
    · rw [if_pos k]
      exact ⟨by decide, by decide⟩
    · rw [if_neg k]
      omega
theorem zwv_in (nm : Nat → Int32) : ∀ (cs : List Int32) (p : Bool) (st : List Int32), 0 ≤ (zwv nm cs p st).toInt ∧ (zwv nm cs p st).toInt ≤ 99
  | [], p, st => ⟨Int.le_refl _, by show (0 : Int32).toInt ≤ 99; decide⟩
  | c :: cs, p, st => by
    have ih := zwv_in nm cs
    rw [zwv_s]
    by_cases h1 : p = true
    · rw [if_pos h1]
      exact ih _ _
    rw [if_neg h1]
    by_cases h2 : 0 ≤ c.toInt
    · rw [if_pos h2]
      exact ih _ _
    rw [if_neg h2]
    by_cases h3 : c.toInt = -59
    · rw [if_pos h3]
      exact zclp_in _
    rw [if_neg h3]
    by_cases h4 : c.toInt = -63
    · rw [if_pos h4]
      exact ih _ _
    rw [if_neg h4]
    by_cases h5 : c.toInt = -33
    · rw [if_pos h5]
      exact ih _ _
    rw [if_neg h5]
    by_cases h6 : c.toInt = -126
    · rw [if_pos h6]
      exact ih _ _
    rw [if_neg h6]
    exact ih _ _
theorem zWx_in (s : zy_S) (p m : Nat) (x : Int32) (w : Nat → Int32) : 0 ≤ (zWx s p m x w).toInt ∧ (zWx s p m x w).toInt ≤ 99 := by
  unfold zWx zWv
  by_cases h : (s.1 43 11).toInt < 0
  · rw [if_pos h]
    exact zclp_in _
  · rw [if_neg h]
    exact zwv_in _ _ _ _
theorem zsum_in {f : Nat → Int32} : ∀ n : Nat, n ≤ 8 → (∀ j, j < n → 0 ≤ (f j).toInt ∧ (f j).toInt ≤ 99) → 0 ≤ (zsum n f).toInt ∧ (zsum n f).toInt ≤ 99 * (n : Int)
  | 0, _, _ => ⟨Int.le_refl _, Int.le_refl _⟩
  | n + 1, hn, h => by
    obtain ⟨a, b⟩ := zsum_in n (by omega) (fun j hj => h j (by omega))
    obtain ⟨c, d⟩ := h n (by omega)
    rw [zsum_s, zq_add (by omega) (by omega)]
    omega
/-- x of the views of the matter m, as a board -/
def zLm (m x : Nat) : Int32 := (Int32.ofNat x) <<< (((4 : Int32) * Int32.ofNat m) &&& 31)
theorem zLm_f : ∀ m, m < 6 → ∀ x, x < 16 → 0 ≤ (zLm m x).toInt ∧ (zLm m x).toInt ≤ 16777215 ∧ zvo (zLm m x) (Int32.ofNat m) = Int32.ofNat x := by decide +kernel
theorem znb_f : ∀ x, x < 16 → zpc (Int32.ofNat x) = Int32.ofNat (znb x) := by decide +kernel
/-- the least of the first so many, and which -/
def zbMn (ok : Nat → Bool) (f : Nat → Int) : Nat → Int × Nat
  | 0 => (f 0, 0)
  | q + 1 => if ok (q + 1) = true ∧ f (q + 1) < (zbMn ok f q).1 then (f (q + 1), q + 1) else zbMn ok f q
theorem zbMn_s (ok : Nat → Bool) (f : Nat → Int) (q : Nat) : zbMn ok f (q + 1) = if ok (q + 1) = true ∧ f (q + 1) < (zbMn ok f q).1 then (f (q + 1), q + 1) else zbMn ok f q := rfl
theorem zbMn_le (ok : Nat → Bool) (f : Nat → Int) : ∀ q y, y ≤ q → ok y = true → (zbMn ok f q).1 ≤ f y
  | 0, y, hy, _ => by
    have e : y = 0 := by omega
    rw [e]
    exact Int.le_refl _
  | q + 1, y, hy, h => by
    rw [zbMn_s]
    by_cases c : ok (q + 1) = true ∧ f (q + 1) < (zbMn ok f q).1
    · rw [if_pos c]
      by_cases e : y = q + 1
      · rw [e]
        exact Int.le_refl _
      · exact Int.le_of_lt (Int.lt_of_lt_of_le c.2 (zbMn_le ok f q y (by omega) h))
    · rw [if_neg c]
      by_cases e : y = q + 1
      · rw [e] at h ⊢
        exact Int.not_lt.mp (fun w => c ⟨h, w⟩)
      · exact zbMn_le ok f q y (by omega) h
theorem zbMn_in (ok : Nat → Bool) (f : Nat → Int) (h0 : ok 0 = true) : ∀ q, (zbMn ok f q).2 ≤ q ∧ ok (zbMn ok f q).2 = true ∧ f (zbMn ok f q).2 = (zbMn ok f q).1 ∧ ∀ y, y < (zbMn ok f q).2 → ok y = true → (zbMn ok f q).1 < f y
  | 0 => ⟨Nat.le_refl _, h0, rfl, fun y hy => absurd hy (Nat.not_lt_zero y)⟩
  | q + 1 => by
    obtain ⟨a, b, c, d⟩ := zbMn_in ok f h0 q
    have low : ∀ y, y ≤ q → ok y = true → (zbMn ok f q).1 ≤ f y := zbMn_le ok f q
    rw [zbMn_s]
    by_cases h : ok (q + 1) = true ∧ f (q + 1) < (zbMn ok f q).1
    · rw [if_pos h]
      exact ⟨Nat.le_refl _, h.1, rfl, fun y hy hy2 => Int.lt_of_lt_of_le h.2 (low y (Nat.le_of_lt_succ hy) hy2)⟩
    · rw [if_neg h]
      exact ⟨by omega, b, c, d⟩
section ZBD
variable {s u t : zy_S} {P : Nat}
/-- what a choice of lines of a matter weighs -/
def zkb (s : zy_S) (P m x : Nat) : Int32 := zKv s P (zAev s) 0 m (Int32.ofNat x) (zvo (zLm m x &&& s.1 1 3) (Int32.ofNat m))
theorem zkb_in (hP : zPe s P) (m x : Nat) : 0 ≤ (zkb s P m x).toInt ∧ (zkb s P m x).toInt ≤ 792 := by
  have p8 := hP.2.2.1
  unfold zkb zKv
  have := zsum_in (f := fun p => zsg (zAev s) 0 p * zWx s p m (Int32.ofNat x) (zwC s m (zvo (zLm m x &&& s.1 1 3) (Int32.ofNat m)))) P p8 (fun p hp => by
    show 0 ≤ (zsg (zAev s) 0 p * _).toInt ∧ (zsg (zAev s) 0 p * _).toInt ≤ 99
    rw [show zsg (zAev s) 0 p = 1 from zsg_all hP hp, Int32.one_mul]
    exact zWx_in _ _ _ _ _)
  omega
/-- fits the room -/
def zbOk (c x : Nat) : Bool := decide (znb x ≤ c)
theorem zbOk_0 (c : Nat) : zbOk c 0 = true := by
  unfold zbOk
  rw [znb_0]
  exact decide_eq_true (Nat.zero_le c)
/-- the least of the first so many matters with so much room -/
def zbdI (s : zy_S) (P : Nat) : Nat → Nat → Int
  | 0, _ => 0
  | m + 1, c => (zbMn (zbOk c) (fun x => (zkb s P m x).toInt + zbdI s P m (c - znb x)) 15).1
/-- with a choice -/
def zdF (s : zy_S) (P m c x : Nat) : Int := (zkb s P m x).toInt + zbdI s P m (c - znb x)
theorem zbdI_s (s : zy_S) (P m c : Nat) : zbdI s P (m + 1) c = (zbMn (zbOk c) (zdF s P m c) 15).1 := rfl
theorem zbdI_0 (s : zy_S) (P c : Nat) : zbdI s P 0 c = 0 := rfl
theorem zbdI_in (hP : zPe s P) : ∀ m c, 0 ≤ zbdI s P m c ∧ zbdI s P m c ≤ 792 * (m : Int)
  | 0, c => ⟨Int.le_refl _, Int.le_refl _⟩
  | m + 1, c => by
    rw [zbdI_s]
    obtain ⟨a, b, e, d⟩ := zbMn_in (zbOk c) (zdF s P m c) (zbOk_0 c) 15
    rw [← e]
    have k := zkb_in hP m (zbMn (zbOk c) (zdF s P m c) 15).2
    have i := zbdI_in hP m (c - znb (zbMn (zbOk c) (zdF s P m c) 15).2)
    generalize (zbMn (zbOk c) (zdF s P m c) 15).2 = Q at k i ⊢
    unfold zdF
    constructor <;> omega
/-- the least choice -/
def zdS (s : zy_S) (P m c : Nat) : Nat := (zbMn (zbOk c) (zdF s P m c) 15).2
theorem zdS_in (s : zy_S) (P m c : Nat) : zdS s P m c < 16 ∧ znb (zdS s P m c) ≤ c ∧ zdF s P m c (zdS s P m c) = zbdI s P (m + 1) c ∧ ∀ y, y < zdS s P m c → znb y ≤ c → zbdI s P (m + 1) c < zdF s P m c y := by
  obtain ⟨a, b, e, d⟩ := zbMn_in (zbOk c) (zdF s P m c) (zbOk_0 c) 15
  exact ⟨Nat.lt_succ_of_le a, of_decide_eq_true b, e, fun y hy hk => d y hy (decide_eq_true hk)⟩
/-- the board from the highest matter down: matters below m are open, c is left -/
def zdB (s : zy_S) (P : Nat) : Nat → Nat → Int32 → Int32
  | 0, _, b => b
  | m + 1, c, b => zdB s P m (c - znb (zdS s P m c)) (b ||| zLm m (zdS s P m c))
theorem zdB_s (s : zy_S) (P m c : Nat) (b : Int32) : zdB s P (m + 1) c b = zdB s P m (c - znb (zdS s P m c)) (b ||| zLm m (zdS s P m c)) := rfl
/-! the class -/
/-- all choices of the first so many have been weighed -/
def zTb (s : zy_S) (P N : Nat) (t : zy_S) : Prop := zTh s P (zAev s) 0 t ∧ ∀ m x, m < 6 → x < 16 → 16 * m + x < N → ∀ y, y < 16 → zvo (zLm m x &&& s.1 1 3) (Int32.ofNat m) = Int32.ofNat y → t.1 13 (256 * m + 16 * x + y) = zkb s P m x
theorem zl_77_14 (hP : zPe s P) (hL : zLw (s.1 5 3) (s.1 43 11) (s.1 6) (s.1 49)) (l0 : 0 ≤ (s.1 1 3).toInt) {m : Nat} (hm : m < 6) (k6 : Int32 → zy_S → Option (Int32 × zy_S)) : ∀ (n x : Nat) (t : zy_S), x ≤ 16 → 16 - x < n → zTb s P (16 * m + x) t → ∃ t', zyF77_14 k6 n (Int32.ofNat m) (Int32.ofNat x) t = k6 (Int32.ofNat (m + 1)) t' ∧ zTb s P (16 * (m + 1)) t'
  | 0, x, t, hx, hn, h => by omega
  | n + 1, x, t, hx, hn, h => by
    have ex : (Int32.ofNat x).toInt = (x : Int) := zN_toInt (by omega)
    have e13 : t.1 1 3 = s.1 1 3 := h.1.1.2 1 3 zto_14.1
    show ∃ t', zyF77_14b k6 (zyF77_14 k6 n) (Int32.ofNat m) (Int32.ofNat x) t = _ ∧ _
    unfold zyF77_14b
    by_cases h16 : x = 16
    · rw [if_pos (by rw [Int32.le_iff_toInt_le, ex, zq_l16]; omega), zN_succ (by omega)]
      refine ⟨t, rfl, h.1, fun m' x' hm' hx' hN => h.2 m' x' hm' hx' (by omega)⟩
    · obtain ⟨c0, c1, c2⟩ := zLm_f m hm x (by omega)
      obtain ⟨t1, f1, g1, k1⟩ := zys55 hP hL h.1 hm (L := zLm m x) (K := s.1 1 3) c0 (zmk_and2 c0 l0).1
      have f1 : zyF55 (Int32.ofNat m) (Int32.ofNat x <<< (((4 : Int32) * Int32.ofNat m) &&& 31)) (s.1 1 3) t = some (zKv s P (zAev s) 0 m (zvo (zLm m x) (Int32.ofNat m)) (zvo (zLm m x &&& s.1 1 3) (Int32.ofNat m)), t1) := f1
      rw [if_neg (by rw [Int32.le_iff_toInt_le, ex, zq_l16]; omega), e13, f1, zq_bind, zN_succ (by omega)]
      refine zl_77_14 hP hL l0 hm k6 n (x + 1) t1 (by omega) (by omega) ⟨g1, fun m' x' hm' hx' hN y hy ey => ?_⟩
      obtain ⟨y0, hy0, ey0⟩ := zvo_N (L := zLm m x &&& s.1 1 3) (m := m) (zmk_and2 c0 l0).1 hm
      obtain ⟨q1, q2⟩ := k1 x y0 (by omega) hy0 c2 ey0
      by_cases e : 256 * m' + 16 * x' + y = 256 * m + 16 * x + y0
      · have a1 : m' = m := by omega
        have a2 : x' = x := by omega
        have a3 : y = y0 := by omega
        subst a1 a2 a3
        rw [q1]
        unfold zkb
        rw [ey0]
      · rw [q2 _ e]
        refine h.2 m' x' hm' hx' ?_ y hy ey
        rcases Nat.lt_or_ge (16 * m' + x') (16 * m + x) with w | w
        · exact w
        · exfalso
          have a1 : m' = m := by omega
          have a2 : x' = x := by omega
          subst a1 a2
          exact e (by have := zN_inj (by omega) (by omega) (ey.symm.trans ey0); omega)
theorem zl_77_6 (hP : zPe s P) (hL : zLw (s.1 5 3) (s.1 43 11) (s.1 6) (s.1 49)) (l0 : 0 ≤ (s.1 1 3).toInt) : ∀ (n m : Nat) (t : zy_S), m ≤ 6 → 6 - m < n → zTb s P (16 * m) t → ∃ t', zyF77_6 n (Int32.ofNat m) t = ((zyF78 t').bind fun p3 => some ((0 : Int32), p3.2)) ∧ zTb s P 96 t'
  | 0, m, t, hm, hn, h => by omega
  | n + 1, m, t, hm, hn, h => by
    have em : (Int32.ofNat m).toInt = (m : Int) := zN_toInt (by omega)
    show ∃ t', zyF77_6b (zyF77_6 n) (Int32.ofNat m) t = _ ∧ _
    unfold zyF77_6b
    by_cases h6 : m = 6
    · rw [if_pos (by rw [Int32.le_iff_toInt_le, em, zq_l6]; omega)]
      rw [h6] at h
      exact ⟨t, rfl, h⟩
    · rw [if_neg (by rw [Int32.le_iff_toInt_le, em, zq_l6]; omega)]
      obtain ⟨t1, f1, g1⟩ := zl_77_14 hP hL l0 (m := m) (by omega) (zyF77_6 n) zy_fu 0 t (by omega) (by unfold zy_fu; omega) h
      rw [show (0 : Int32) = Int32.ofNat 0 from rfl, f1]
      exact zl_77_6 hP hL l0 n (m + 1) t1 (by omega) (by omega) g1
/-- the table of least sums up to a place -/
def zTd (s : zy_S) (P N : Nat) (t : zy_S) : Prop := zTb s P 96 t ∧ ∀ m c, m ≤ 6 → c ≤ 9 → 10 * m + c < N → (t.1 14 (10 * m + c)).toInt = zbdI s P m c
theorem zl2x {m c : Nat} (hm : m ≤ 6) (hc : c ≤ 9) : ((10 : Int32) * Int32.ofNat m + Int32.ofNat c).toInt = ((10 * m + c : Nat) : Int) := by
  have l10 : (10 : Int32).toInt = 10 := rfl
  have em : (Int32.ofNat m).toInt = (m : Int) := zN_toInt (by omega)
  have ec : (Int32.ofNat c).toInt = (c : Int) := zN_toInt (by omega)
  have e1 : ((10 : Int32) * Int32.ofNat m).toInt = 10 * (m : Int) := by rw [zq_mul (by rw [l10, em]; omega) (by rw [l10, em]; omega), l10, em]
  rw [zq_add (by rw [e1, ec]; omega) (by rw [e1, ec]; omega), e1, ec]
  omega
theorem zN_sub' {a b : Nat} (h : b ≤ a) (ha : a < 2147483648) : Int32.ofNat a - Int32.ofNat b = Int32.ofNat (a - b) := by
  refine zq_ext ?_
  rw [zq_sub (by rw [zN_toInt ha, zN_toInt (by omega)]; omega) (by rw [zN_toInt ha, zN_toInt (by omega)]; omega), zN_toInt ha, zN_toInt (by omega), zN_toInt (by omega)]
  omega
theorem zys80 (l0 : 0 ≤ (s.1 1 3).toInt) {N m x c : Nat} (h : zTd s P N t) (hm : m < 6) (hx : x < 16) (hc : c ≤ 9) (hk : znb x ≤ c) (hN : 10 * m + 9 < N) (hP : zPe s P) : ∃ r, zyF80 (Int32.ofNat m) (Int32.ofNat x) (Int32.ofNat c) t = some (r, t) ∧ r.toInt = zdF s P m c x := by
  obtain ⟨⟨hT, hb⟩, hd⟩ := h
  have e13 : t.1 1 3 = s.1 1 3 := hT.1.2 1 3 zto_14.1
  obtain ⟨c0, c1, c2⟩ := zLm_f m hm x hx
  obtain ⟨y, hy, ey⟩ := zvo_N (L := zLm m x &&& s.1 1 3) (m := m) (zmk_and2 c0 l0).1 hm
  have em : (Int32.ofNat m).toInt = (m : Int) := zN_toInt (by omega)
  have l256 : (256 : Int32).toInt = 256 := rfl
  have epl : ((256 : Int32) * Int32.ofNat m + (16 : Int32) * Int32.ofNat x + Int32.ofNat y).toInt = ((256 * m + 16 * x + y : Nat) : Int) := by
    have e1 : ((256 : Int32) * Int32.ofNat m).toInt = 256 * (m : Int) := by rw [zq_mul (by rw [l256, em]; omega) (by rw [l256, em]; omega), l256, em]
    have e2 : ((16 : Int32) * Int32.ofNat x).toInt = 16 * (x : Int) := by rw [zq_mul (by rw [zq_l16, zN_toInt (by omega)]; omega) (by rw [zq_l16, zN_toInt (by omega)]; omega), zq_l16, zN_toInt (by omega)]
    have e3 : ((256 : Int32) * Int32.ofNat m + (16 : Int32) * Int32.ofNat x).toInt = 256 * (m : Int) + 16 * x := by rw [zq_add (by rw [e1, e2]; omega) (by rw [e1, e2]; omega), e1, e2]
    rw [zq_add (by rw [e3, zN_toInt (by omega)]; omega) (by rw [e3, zN_toInt (by omega)]; omega), e3, zN_toInt (by omega)]
    omega
  have f56 : zyF56 (Int32.ofNat m) (Int32.ofNat x <<< (((4 : Int32) * Int32.ofNat m) &&& 31)) (s.1 1 3) t = some ((256 : Int32) * Int32.ofNat m + (16 : Int32) * Int32.ofNat x + Int32.ofNat y, t) := by
    unfold zyF56
    rw [show zyF57 (Int32.ofNat x <<< (((4 : Int32) * Int32.ofNat m) &&& 31)) (Int32.ofNat m) t = some (zvo (zLm m x) (Int32.ofNat m), t) from rfl, zq_bind, c2]
    dsimp only
    rw [show zyF57 ((Int32.ofNat x <<< (((4 : Int32) * Int32.ofNat m) &&& 31)) &&& s.1 1 3) (Int32.ofNat m) t = some (zvo (zLm m x &&& s.1 1 3) (Int32.ofNat m), t) from rfl, zq_bind, ey]
  have b4 := znb_le x hx
  have ei := zl2x (m := m) (c := c - znb x) (by omega) (by omega)
  have e81 : zyF81 (Int32.ofNat m) (Int32.ofNat c - zpc (Int32.ofNat x)) t = some (t.1 14 (10 * m + (c - znb x)), t) := by
    have ec : (Int32.ofNat (c - znb x)).toInt = ((c - znb x : Nat) : Int) := zN_toInt (by omega)
    unfold zyF81
    rw [znb_f x hx, zN_sub' hk (by omega), if_neg (by rw [Int32.lt_iff_toInt_lt, ec, zq_l0]; omega), if_pos (by rw [Int32.le_iff_toInt_le, ec, zq_l9]; omega), if_pos (zq_in.mpr (by rw [ei]; omega)), zq_ix, ei, Int.toNat_natCast]
  unfold zyF80
  rw [e13, f56, zq_bind]
  dsimp only
  rw [if_pos (zq_in.mpr (by rw [epl]; omega)), zys63 t (by rw [zN_toInt (by omega)]; omega) (by rw [zN_toInt (by omega)]; omega), zq_bind]
  dsimp only
  rw [e81, zq_bind]
  refine ⟨_, rfl, ?_⟩
  have k := zkb_in hP m x
  have d := zbdI_in hP m (c - znb x)
  have e13v : t.1 13 ((256 : Int32) * Int32.ofNat m + (16 : Int32) * Int32.ofNat x + Int32.ofNat y).toNatClampNeg = zkb s P m x := by
    rw [zq_ix, epl, Int.toNat_natCast]
    exact hb m x hm hx (by omega) y hy ey
  have e14v := hd m (c - znb x) (by omega) (by omega) (by omega)
  show (t.1 13 _ + t.1 14 _).toInt = _
  rw [e13v, zq_add (by rw [e14v]; omega) (by rw [e14v]; omega), e14v]
  rfl
theorem zl_79 (l0 : 0 ≤ (s.1 1 3).toInt) (hP : zPe s P) {N m c : Nat} (h : zTd s P N t) (hm : m < 6) (hc : c ≤ 9) (hN : 10 * m + 9 < N) : ∀ (n x : Nat), x ≤ 15 → 15 - x < n → zyF79_5 n (Int32.ofNat m) (Int32.ofNat c) (Int32.ofNat (zbMn (zbOk c) (zdF s P m c) x).2) (Int32.ofNat (x + 1)) t = some (Int32.ofNat (zdS s P m c), t)
  | 0, x, hx, hn => by omega
  | n + 1, x, hx, hn => by
    have ex : (Int32.ofNat (x + 1)).toInt = ((x + 1 : Nat) : Int) := zN_toInt (by omega)
    obtain ⟨a, b, e, d⟩ := zbMn_in (zbOk c) (zdF s P m c) (zbOk_0 c) x
    show zyF79_5b (zyF79_5 n) (Int32.ofNat m) (Int32.ofNat c) (Int32.ofNat (zbMn (zbOk c) (zdF s P m c) x).2) (Int32.ofNat (x + 1)) t = _
    unfold zyF79_5b zyF79_26 zyF79_54
    by_cases h15 : x = 15
    · rw [if_pos (by rw [Int32.le_iff_toInt_le, ex, zq_l16]; omega), h15]
      rfl
    have bx := znb_le (x + 1) (by omega)
    rw [if_neg (by rw [Int32.le_iff_toInt_le, ex, zq_l16]; omega), zys63 t (by rw [ex]; omega) (by rw [ex]; omega), zq_bind, znb_f (x + 1) (by omega), zN_succ (show x + 1 < 2147483646 by omega)]
    dsimp only
    by_cases hf : znb (x + 1) ≤ c
    · have hok : zbOk c (x + 1) = true := decide_eq_true hf
      obtain ⟨r1, f1, e1⟩ := zys80 l0 h hm (show x + 1 < 16 by omega) hc hf hN hP
      obtain ⟨r2, f2, e2⟩ := zys80 l0 h hm (show (zbMn (zbOk c) (zdF s P m c) x).2 < 16 by omega) hc (of_decide_eq_true b) hN hP
      rw [if_neg (by rw [Int32.lt_iff_toInt_lt, zN_toInt (by omega), zN_toInt (by omega)]; omega), if_neg (show ¬ (1 : Int32) = 0 by decide), f1, zq_bind]
      dsimp only
      rw [f2, zq_bind]
      dsimp only
      rw [e] at e2
      by_cases q : r2 ≤ r1
      · have es : zbMn (zbOk c) (zdF s P m c) (x + 1) = zbMn (zbOk c) (zdF s P m c) x := by
          rw [zbMn_s, if_neg (fun w => by
            rw [Int32.le_iff_toInt_le] at q
            have := w.2
            omega)]
        rw [if_pos q, ← es]
        exact zl_79 l0 hP h hm hc hN n (x + 1) (by omega) (by omega)
      · have es : zbMn (zbOk c) (zdF s P m c) (x + 1) = (zdF s P m c (x + 1), x + 1) := by
          rw [zbMn_s, if_pos ⟨hok, by
            rw [Int32.le_iff_toInt_le] at q
            omega⟩]
        have ih := zl_79 l0 hP h hm hc hN n (x + 1) (by omega) (by omega)
        rw [es] at ih
        rw [if_neg q]
        exact ih
    · have es : zbMn (zbOk c) (zdF s P m c) (x + 1) = zbMn (zbOk c) (zdF s P m c) x := by
        rw [zbMn_s, if_neg (fun w => hf (of_decide_eq_true w.1))]
      rw [if_pos (by rw [Int32.lt_iff_toInt_lt, zN_toInt (by omega), zN_toInt (by omega)]; omega), if_pos (rfl : (0 : Int32) = 0), ← es]
      exact zl_79 l0 hP h hm hc hN n (x + 1) (by omega) (by omega)
theorem zys79 (l0 : 0 ≤ (s.1 1 3).toInt) (hP : zPe s P) {N m c : Nat} (h : zTd s P N t) (hm : m < 6) (hc : c ≤ 9) (hN : 10 * m + 9 < N) : zyF79 (Int32.ofNat m) (Int32.ofNat c) t = some (Int32.ofNat (zdS s P m c), t) := by
  unfold zyF79
  exact zl_79 l0 hP h hm hc hN zy_fu 0 (by omega) (by unfold zy_fu; omega)
theorem z14_rg : zrn 14 = 70 ∧ ∀ k, k < 70 → zrg 14 k = (-2147483648, 2147483647) := by decide +kernel
theorem zTd_up {N m c : Nat} (h : zTd s P N t) (hN : N = 10 * m + c) (hm : m ≤ 6) (hc : c ≤ 9) {x : Int32} (hx : x.toInt = zbdI s P m c) : zTd s P (N + 1) (zy_up t 14 N x) := by
  obtain ⟨n14, r14⟩ := z14_rg
  obtain ⟨⟨⟨u1, u2, u3, u4, u5⟩, hb⟩, hd⟩ := h
  refine ⟨⟨⟨zUn_up u1 rfl, zRg_up u2 (fun hk => ?_), ?_, ?_, fun m x y a b e => ?_⟩, fun m' x' a b e y hy ey => ?_⟩, fun m' c' a b e => ?_⟩
  · rw [n14] at hk
    rw [r14 _ hk]
    exact zin_full x
  · rw [zf_up (by decide)]
    exact u3
  · rw [zf_up (by decide)]
    exact u4
  · rw [zf_up (by decide)]
    exact u5 m x y a b e
  · rw [zf_up (by decide)]
    exact hb m' x' a b e y hy ey
  · rw [zf_upr]
    by_cases q : 10 * m' + c' = N
    · have e1 : m' = m := by omega
      have e2 : c' = c := by omega
      rw [if_pos q, e1, e2]
      exact hx
    · rw [if_neg q]
      exact hd m' c' a b (by omega)
theorem zl_78_31 (l0 : 0 ≤ (s.1 1 3).toInt) (hP : zPe s P) {m : Nat} (hm : m < 6) (k23 : Int32 → zy_S → Option (Int32 × zy_S)) : ∀ (n c : Nat) (t : zy_S), c ≤ 10 → 10 - c < n → zTd s P (10 * (m + 1) + c) t → ∃ t', zyF78_31 k23 n (Int32.ofNat m) (Int32.ofNat c) t = k23 (Int32.ofNat (m + 1)) t' ∧ zTd s P (10 * (m + 2)) t'
  | 0, c, t, hc, hn, h => by omega
  | n + 1, c, t, hc, hn, h => by
    have ec : (Int32.ofNat c).toInt = (c : Int) := zN_toInt (by omega)
    show ∃ t', zyF78_31b k23 (zyF78_31 k23 n) (Int32.ofNat m) (Int32.ofNat c) t = _ ∧ _
    unfold zyF78_31b
    by_cases h10 : c = 10
    · rw [if_pos (by rw [Int32.lt_iff_toInt_lt, ec, zq_l9]; omega), zN_succ (by omega)]
      refine ⟨t, rfl, ?_⟩
      rw [h10] at h
      exact h
    · obtain ⟨q1, q2, q3, -⟩ := zdS_in s P m c
      obtain ⟨r, f, e⟩ := zys80 l0 h hm q1 (by omega) q2 (by omega) hP
      have ei := zl2x (m := m + 1) (c := c) (by omega) (by omega)
      rw [if_neg (by rw [Int32.lt_iff_toInt_lt, ec, zq_l9]; omega), zys79 l0 hP h hm (by omega) (by omega), zq_bind]
      dsimp only
      rw [f, zq_bind, zN_succ (show m < 2147483646 by omega), zN_succ (show c < 2147483646 by omega)]
      dsimp only
      rw [if_pos (zq_in.mpr (by rw [ei]; omega)), zq_ix, ei, Int.toNat_natCast]
      exact zl_78_31 l0 hP hm k23 n (c + 1) _ (by omega) (by omega) (zTd_up h rfl (by omega) (by omega) (by rw [e, q3]))
theorem zl_78_23 (l0 : 0 ≤ (s.1 1 3).toInt) (hP : zPe s P) : ∀ (n m : Nat) (t : zy_S), m ≤ 6 → 6 - m < n → zTd s P (10 * (m + 1)) t → ∃ t', zyF78_23 n (Int32.ofNat m) t = some (0, t') ∧ zTd s P 70 t'
  | 0, m, t, hm, hn, h => by omega
  | n + 1, m, t, hm, hn, h => by
    have em : (Int32.ofNat m).toInt = (m : Int) := zN_toInt (by omega)
    show ∃ t', zyF78_23b (zyF78_23 n) (Int32.ofNat m) t = _ ∧ _
    unfold zyF78_23b
    by_cases h6 : m = 6
    · rw [if_pos (by rw [Int32.le_iff_toInt_le, em, zq_l6]; omega)]
      rw [h6] at h
      exact ⟨t, rfl, h⟩
    · rw [if_neg (by rw [Int32.le_iff_toInt_le, em, zq_l6]; omega)]
      obtain ⟨t1, f1, g1⟩ := zl_78_31 l0 hP (m := m) (by omega) (zyF78_23 n) zy_fu 0 t (by omega) (by unfold zy_fu; omega) h
      rw [show (0 : Int32) = Int32.ofNat 0 from rfl, f1]
      exact zl_78_23 l0 hP n (m + 1) t1 (by omega) (by omega) g1
theorem zl_78_2 (l0 : 0 ≤ (s.1 1 3).toInt) (hP : zPe s P) : ∀ (n c : Nat) (t : zy_S), c ≤ 10 → 10 - c < n → zTd s P c t → ∃ t', zyF78_2 n (Int32.ofNat c) t = some (0, t') ∧ zTd s P 70 t'
  | 0, c, t, hc, hn, h => by omega
  | n + 1, c, t, hc, hn, h => by
    have ec : (Int32.ofNat c).toInt = (c : Int) := zN_toInt (by omega)
    show ∃ t', zyF78_2b (zyF78_2 n) (Int32.ofNat c) t = _ ∧ _
    unfold zyF78_2b
    by_cases h10 : c = 10
    · rw [if_pos (by rw [Int32.lt_iff_toInt_lt, ec, zq_l9]; omega)]
      rw [h10] at h
      exact zl_78_23 l0 hP zy_fu 0 t (by omega) (by unfold zy_fu; omega) h
    · rw [if_neg (by rw [Int32.lt_iff_toInt_lt, ec, zq_l9]; omega), if_pos (zq_in.mpr (by rw [ec]; omega)), zN_ix (by omega), zN_succ (by omega)]
      exact zl_78_2 l0 hP n (c + 1) _ (by omega) (by omega) (zTd_up (m := 0) (c := c) h (by omega) (by omega) (by omega) (by rw [zbdI_0]; rfl))
theorem zys77 (hP : zPe s P) (hL : zLw (s.1 5 3) (s.1 43 11) (s.1 6) (s.1 49)) (l0 : 0 ≤ (s.1 1 3).toInt) (hs : zUn s t) (hr : zRg t) : ∃ t', zyF77 t = some (0, t') ∧ zTd s P 70 t' := by
  obtain ⟨t0, f0, g0⟩ := zys74 (P := P) hs hr
  obtain ⟨t1, f1, g1⟩ := zl_77_6 hP hL l0 zy_fu 0 t0 (by omega) (by unfold zy_fu; omega) ⟨g0, fun m x a b e => by omega⟩
  obtain ⟨t2, f2, g2⟩ := zl_78_2 l0 hP zy_fu 0 t1 (by omega) (by unfold zy_fu; omega) ⟨g1, fun m c a b e => by omega⟩
  have f78 : zyF78 t1 = some (0, t2) := f2
  refine ⟨t2, ?_, g2⟩
  unfold zyF77
  rw [f0, zq_bind]
  dsimp only
  have f1' : zyF77_6 zy_fu 0 t0 = ((zyF78 t1).bind fun p3 => some ((0 : Int32), p3.2)) := f1
  rw [f1', f78, zq_bind]
theorem zl_82 (l0 : 0 ≤ (s.1 1 3).toInt) (hP : zPe s P) (h : zTd s P 70 t) : ∀ (n m c : Nat) (b : Int32), m ≤ 6 → m < n → c ≤ 9 → zyF82_16 n b (Int32.ofNat c) (Int32.ofNat m - 1) t = some (zdB s P m c b, t)
  | 0, m, c, b, hm, hn, hc => by omega
  | n + 1, m, c, b, hm, hn, hc => by
    show zyF82_16b (zyF82_16 n) b (Int32.ofNat c) (Int32.ofNat m - 1) t = _
    unfold zyF82_16b
    cases m with
    | zero =>
      rw [if_pos (by decide)]
      rfl
    | succ m =>
      have e1 : Int32.ofNat (m + 1) - 1 = Int32.ofNat m := zN_sub' (a := m + 1) (b := 1) (by omega) (by omega)
      have em : (Int32.ofNat m).toInt = (m : Int) := zN_toInt (by omega)
      obtain ⟨q1, q2, -, -⟩ := zdS_in s P m c
      have e2 : Int32.ofNat m + (-1 : Int32) = Int32.ofNat m - 1 := zq_ext (by rw [zq_add (by rw [em, zq_lm1]; omega) (by rw [em, zq_lm1]; omega), zq_sub (by rw [em, zq_l1]; omega) (by rw [em, zq_l1]; omega), zq_lm1, zq_l1]; omega)
      rw [e1, if_neg (by rw [Int32.lt_iff_toInt_lt, em, zq_l0]; omega), zys79 l0 hP h (by omega) hc (by omega), zq_bind]
      dsimp only
      rw [zys63 t (by rw [zN_toInt (by omega)]; omega) (by rw [zN_toInt (by omega)]; omega), zq_bind, znb_f _ q1, zN_sub' q2 (by omega), e2]
      dsimp only
      rw [zl_82 l0 hP h n m (c - znb (zdS s P m c)) _ (by omega) (by omega) (by omega), zdB_s]
      rfl
/-! the model -/
theorem zl_216 (hP : zPe s P) (hL : zLw (s.1 5 3) (s.1 43 11) (s.1 6) (s.1 49)) {m x : Nat} (hm : m < 6) (hx : x < 16) : ∀ (n p : Nat) (acc : Int32) (t : zy_S), p ≤ P → P - p < n → zMk s u t → acc = zsum p (fun p => zWx s p m (zvo (zLm m x) (Int32.ofNat m)) (fun j => u.1 51 (4 * m + j))) → ∃ t', zyF216_5 n (Int32.ofNat m) (Int32.ofNat x) acc (Int32.ofNat p) t = some (zsum P (fun p => zWx s p m (zvo (zLm m x) (Int32.ofNat m)) (fun j => u.1 51 (4 * m + j))), t') ∧ zMk s u t'
  | 0, p, acc, t, hp, hn, h, ha => by omega
  | n + 1, p, acc, t, hp, hn, h, ha => by
    have p8 := hP.2.2.1
    obtain ⟨c0, c1, c2⟩ := zLm_f m hm x hx
    have e6 : t.1 43 6 = s.1 43 6 := h.1.2 43 6 zmt_6.1
    show ∃ t', zyF216_5b (zyF216_5 n) (Int32.ofNat m) (Int32.ofNat x) acc (Int32.ofNat p) t = _ ∧ _
    unfold zyF216_5b
    rw [e6]
    by_cases hpP : p = P
    · rw [if_pos (by rw [Int32.le_iff_toInt_le, hP.2.1, zN_toInt (by omega)]; omega), ha, hpP]
      exact ⟨t, rfl, h⟩
    · obtain ⟨t1, f1, g1⟩ := zys204 hP hL h (p := p) (by omega) hm (L := zLm m x) c0
      have f1 : zyF204 (Int32.ofNat p) (Int32.ofNat m) (Int32.ofNat x <<< (((4 : Int32) * Int32.ofNat m) &&& 31)) t = some (zWx s p m (zvo (zLm m x) (Int32.ofNat m)) (fun j => u.1 51 (4 * m + j)), t1) := f1
      rw [if_neg (by rw [Int32.le_iff_toInt_le, hP.2.1, zN_toInt (by omega)]; omega), f1, zq_bind, zN_succ (by omega)]
      dsimp only
      refine zl_216 hP hL hm hx n (p + 1) _ t1 (by omega) (by omega) g1 ?_
      rw [zsum_s, ← ha]
theorem zys216 (hP : zPe s P) (hL : zLw (s.1 5 3) (s.1 43 11) (s.1 6) (s.1 49)) (l0 : 0 ≤ (s.1 1 3).toInt) (h : zUn s t) (hr : zRg t) (hw : ∀ l, l < 24 → t.1 51 l = if zbt (s.1 1 3) (Int32.ofNat l) = true then s.1 2 l else 0) {m x : Nat} (hm : m < 6) (hx : x < 16) : ∃ t', zyF216 (Int32.ofNat m) (Int32.ofNat x) t = some (zkb s P m x, t') ∧ zMk s t t' := by
  have p8 := hP.2.2.1
  obtain ⟨c0, c1, c2⟩ := zLm_f m hm x hx
  obtain ⟨t1, f1, g1⟩ := zl_216 hP hL hm hx zy_fu 0 0 t (Nat.zero_le _) (by unfold zy_fu; omega) (zMk_refl h hr) rfl
  refine ⟨t1, ?_, g1⟩
  have e : zsum P (fun p => zWx s p m (zvo (zLm m x) (Int32.ofNat m)) (fun j => t.1 51 (4 * m + j))) = zkb s P m x := by
    unfold zkb zKv
    refine zsum_congr P (fun p hp => ?_)
    rw [show zsg (zAev s) 0 p = 1 from zsg_all hP hp, Int32.one_mul, c2]
    refine zWx_congr (fun j hj hb => ?_)
    have hp4 : (Int32.ofNat (4 * m + j)).toInt = ((4 * m + j : Nat) : Int) := zN_toInt (by omega)
    rw [← c2, zvo_bit c0 hm hj hp4] at hb
    obtain ⟨a0, ab⟩ := zmk_and2 c0 l0
    unfold zwC
    rw [zvo_bit a0 hm hj hp4, hw _ (by omega)]
    have e : zbt (zLm m x &&& s.1 1 3) (Int32.ofNat (4 * m + j)) = zbt (s.1 1 3) (Int32.ofNat (4 * m + j)) := by
      rw [zmk_t a0 hp4 (by omega), ab, ← zmk_t c0 hp4 (by omega), hb, Bool.true_and, ← zmk_t l0 hp4 (by omega)]
    rw [e]
  rw [← e]
  unfold zyF216
  exact f1
end ZBD
