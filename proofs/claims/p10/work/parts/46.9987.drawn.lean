/-! PART 46.9987: drawn on both sides. Made by wip/v6/gen_mind.py. -/
/-- the next drawn; which line it is -/
def zdn (d : Int32) : Int32 := d * (1103515245 : Int32) + (12345 : Int32)
def zdk (d : Int32) : Int32 := ((zdn d).toUInt32 >>> (((8 : Int32)).toUInt32 &&& Int32.toUInt32 31)).toInt32 - ((zdn d).toUInt32 >>> (((8 : Int32)).toUInt32 &&& Int32.toUInt32 31)).toInt32 / (24 : Int32) * (24 : Int32)
theorem zdk_in (d : Int32) : ∃ k, k < 24 ∧ zdk d = Int32.ofNat k := by
  obtain ⟨e, he⟩ : ∃ e, e = ((zdn d).toUInt32 >>> (((8 : Int32)).toUInt32 &&& Int32.toUInt32 31)).toInt32 := ⟨_, rfl⟩
  have h8 : (((8 : Int32)).toUInt32 &&& Int32.toUInt32 31) = (8 : UInt32) := by decide
  have e0 : 0 ≤ e.toInt ∧ e.toInt ≤ 16777215 := by
    rw [h8] at he
    have hn : ((zdn d).toUInt32 >>> (8 : UInt32)).toNat = (zdn d).toUInt32.toNat / 256 := by
      rw [UInt32.toNat_shiftRight, show (8 : UInt32).toNat % 32 = 8 from rfl, Nat.shiftRight_eq_div_pow]
    have hu : (zdn d).toUInt32.toNat < 4294967296 := UInt32.toNat_lt _
    have ht : e.toInt = (((zdn d).toUInt32 >>> (8 : UInt32)).toNat : Int) := by
      rw [he]
      show (((zdn d).toUInt32 >>> (8 : UInt32)).toBitVec).toInt = _
      rw [BitVec.toInt_eq_toNat_of_lt (by show 2 * ((zdn d).toUInt32 >>> (8 : UInt32)).toNat < 2 ^ 32; omega)]
      rfl
    omega
  have d1 : (e / (24 : Int32)).toInt = e.toInt / 24 := by
    rw [Int32.toInt_div_of_ne_right _ _ (by decide), zq_l24, Int.tdiv_eq_ediv_of_nonneg (by omega)]
  have d2 : (e / (24 : Int32) * (24 : Int32)).toInt = e.toInt / 24 * 24 := by rw [zq_mul (by rw [zq_l24, d1]; omega) (by rw [zq_l24, d1]; omega), zq_l24, d1]
  have d3 : (e - e / (24 : Int32) * (24 : Int32)).toInt = e.toInt % 24 := by rw [zq_sub (by rw [d2]; omega) (by rw [d2]; omega), d2]; omega
  refine ⟨(e.toInt % 24).toNat, by omega, ?_⟩
  unfold zdk
  rw [← he]
  refine zq_ext ?_
  rw [d3, zN_toInt (by omega)]
  omega
theorem zbk_0 {L : Int32} (l0 : 0 ≤ L.toInt) {k : Nat} (hk : k < 24) : (L &&& ((1 : Int32) <<< (Int32.ofNat k &&& 31))) = 0 ↔ zbt L (Int32.ofNat k) = false := by
  obtain ⟨e0, e1⟩ := zmk_1 (x := Int32.ofNat k) (k := k) (zN_toInt (by omega)) (by omega)
  obtain ⟨a0, a1⟩ := zmk_and2 l0 e0
  rw [zmk_t l0 (zN_toInt (by omega)) (by omega)]
  constructor
  · intro h
    have := a1 k
    rw [h, e1, decide_eq_true rfl, Bool.and_true] at this
    rw [← this]
    exact Nat.zero_testBit k
  · intro h
    refine zmk_ext a0 (by decide) (fun j => ?_)
    rw [a1, e1]
    show _ = Nat.testBit 0 j
    rw [Nat.zero_testBit]
    by_cases e : k = j
    · rw [← e, h]
      rfl
    · rw [decide_eq_false e, Bool.and_false]
/-- a stroke: the LINES, those kept, the drawn -/
def zds (room : Int32) (a : Int32 × Int32 × Int32) : Int32 × Int32 × Int32 :=
  if zbt a.1 (zdk a.2.2) = true ∨ ¬ room ≤ zpc a.1 then (a.1 ^^^ ((1 : Int32) <<< (zdk a.2.2 &&& 31)), a.2.1 &&& (a.1 ^^^ ((1 : Int32) <<< (zdk a.2.2 &&& 31))), zdn a.2.2) else (a.1, a.2.1 &&& a.1, zdn a.2.2)
def zdi (room : Int32) (a : Int32 × Int32 × Int32) : Nat → Int32 × Int32 × Int32
  | 0 => a
  | n + 1 => zds room (zdi room a n)
theorem zdi_s (room : Int32) (a : Int32 × Int32 × Int32) (n : Nat) : zdi room a (n + 1) = zds room (zdi room a n) := rfl
/-- boards: 24 bits; the kept are among them -/
def zdG (a : Int32 × Int32 × Int32) : Prop := 0 ≤ a.1.toInt ∧ a.1.toInt ≤ 16777215 ∧ 0 ≤ a.2.1.toInt ∧ ∀ l, l < 24 → zbt a.2.1 (Int32.ofNat l) = true → zbt a.1 (Int32.ofNat l) = true
theorem zx_24 {L : Int32} (l0 : 0 ≤ L.toInt) (l1 : L.toInt ≤ 16777215) {k : Nat} (hk : k < 24) : (L ^^^ ((1 : Int32) <<< (Int32.ofNat k &&& 31))).toInt ≤ 16777215 := by
  obtain ⟨e0, e1⟩ := zmk_1 (x := Int32.ofNat k) (k := k) (zN_toInt (by omega)) (by omega)
  obtain ⟨a0, a1⟩ := zmk_xor l0 e0
  have := Nat.lt_pow_two_of_testBit (x := (L ^^^ ((1 : Int32) <<< (Int32.ofNat k &&& 31))).toInt.toNat) (n := 24) (fun j hj => by
    rw [a1, e1, decide_eq_false (show ¬ k = j by omega), Bool.bne_false]
    exact Nat.testBit_lt_two_pow (Nat.lt_of_lt_of_le (show L.toInt.toNat < 2 ^ 24 by omega) (Nat.pow_le_pow_right (by omega) hj)))
  omega
theorem zds_G {room : Int32} {a : Int32 × Int32 × Int32} (h : zdG a) : zdG (zds room a) := by
  obtain ⟨h0, h1, h2, h3⟩ := h
  obtain ⟨k, hk, ek⟩ := zdk_in a.2.2
  unfold zds
  rw [ek]
  split
  · refine ⟨zx0 h0 hk, zx_24 h0 h1 hk, (zmk_and2 h2 (zx0 h0 hk)).1, fun l hl hb => ?_⟩
    have hb : zbt (a.2.1 &&& (a.1 ^^^ ((1 : Int32) <<< (Int32.ofNat k &&& 31)))) (Int32.ofNat l) = true := hb
    rw [zmk_t (zmk_and2 h2 (zx0 h0 hk)).1 (zN_toInt (by omega)) (by omega), (zmk_and2 h2 (zx0 h0 hk)).2] at hb
    show zbt (a.1 ^^^ ((1 : Int32) <<< (Int32.ofNat k &&& 31))) (Int32.ofNat l) = true
    rw [zmk_t (zx0 h0 hk) (zN_toInt (by omega)) (by omega)]
    exact (Bool.and_eq_true _ _ ▸ hb).2
  · refine ⟨h0, h1, (zmk_and2 h2 h0).1, fun l hl hb => ?_⟩
    have hb : zbt (a.2.1 &&& a.1) (Int32.ofNat l) = true := hb
    rw [zmk_t (zmk_and2 h2 h0).1 (zN_toInt (by omega)) (by omega), (zmk_and2 h2 h0).2] at hb
    show zbt a.1 (Int32.ofNat l) = true
    rw [zmk_t h0 (zN_toInt (by omega)) (by omega)]
    exact (Bool.and_eq_true _ _ ▸ hb).2
theorem zdi_G {room : Int32} {a : Int32 × Int32 × Int32} (h : zdG a) : ∀ n, zdG (zdi room a n)
  | 0 => h
  | n + 1 => zds_G (zdi_G h n)
section ZS2
variable {s u t : zy_S} {P : Nat}
/-- what a day gives: the drawn at its end, what it adds -/
def zdv (s : zy_S) (P : Nat) (line : Int32) (a : Int32 × Int32 × Int32) : Int32 := if line = -1 then zIn s P (zAev s) 0 a.1 a.2.1 else (a.1 >>> (line &&& 31)) &&& (1 : Int32)
theorem zl_130_40 (hP : zPe s P) (hL : zLw (s.1 5 3) (s.1 43 11) (s.1 6) (s.1 49)) {x2 x3 x4 x5 x7 : Int32} {N : Nat} (hN : x3.toInt = (N : Int)) (hN30 : N ≤ 30) {a : Int32 × Int32 × Int32} (ha : zdG a) (k13 : Int32 → Int32 → Int32 → Int32 → Int32 → Int32 → zy_S → Option (Int32 × zy_S)) : ∀ (n k : Nat) (t : zy_S), k ≤ N → N - k < n → zTh s P (zAev s) 0 t → ∃ t', zyF130_40 k13 n x2 x3 x4 x5 (zdi (s.1 1 4) a k).2.2 x7 (zdi (s.1 1 4) a k).1 (zdi (s.1 1 4) a k).2.1 (Int32.ofNat k) t = k13 x2 x3 x4 (x5 + zdv s P x4 (zdi (s.1 1 4) a N)) (zdi (s.1 1 4) a N).2.2 (x7 + 1) t' ∧ zTh s P (zAev s) 0 t'
  | 0, k, t, hk, hn, h => by omega
  | n + 1, k, t, hk, hn, h => by
    have ek : (Int32.ofNat k).toInt = (k : Int) := zN_toInt (by omega)
    have e14 : t.1 1 4 = s.1 1 4 := h.1.2 1 4 zto_14.2.1
    obtain ⟨q, hq⟩ : ∃ q, q = zdi (s.1 1 4) a k := ⟨_, rfl⟩
    have hG := zdi_G (room := s.1 1 4) ha k
    rw [← hq] at hG ⊢
    obtain ⟨g0, g1, g2, g3⟩ := hG
    show ∃ t', zyF130_40b k13 (zyF130_40 k13 n) x2 x3 x4 x5 q.2.2 x7 q.1 q.2.1 (Int32.ofNat k) t = _ ∧ _
    unfold zyF130_40b zyF130_154
    by_cases hkN : k = N
    · rw [if_pos (by rw [Int32.le_iff_toInt_le, ek, hN]; omega)]
      rw [hkN] at hq
      rw [← hq]
      by_cases c : x4 = -1
      · obtain ⟨t1, f1, j1⟩ := zys54 hP hL h (L := q.1) (K := q.2.1) g0 ((zmk_and2 g0 g2).1)
        rw [if_neg (not_not_intro c), f1, zq_bind]
        unfold zdv
        rw [if_pos c]
        exact ⟨t1, rfl, j1⟩
      · rw [if_pos c, show zyF32 q.1 x4 t = some ((q.1 >>> (x4 &&& 31)) &&& (1 : Int32), t) from rfl, zq_bind]
        unfold zdv
        rw [if_neg c]
        exact ⟨t, rfl, h⟩
    rw [if_neg (by rw [Int32.le_iff_toInt_le, ek, hN]; omega)]
    obtain ⟨i, hi, ei⟩ := zdk_in q.2.2
    have ih := zl_130_40 hP hL (x2 := x2) (x4 := x4) (x5 := x5) (x7 := x7) hN hN30 ha k13 n (k + 1)
    have es : zdi (s.1 1 4) a (k + 1) = zds (s.1 1 4) q := by rw [zdi_s, ← hq]
    rw [es] at ih
    show ∃ t', zyF130_69 k13 (zyF130_40 k13 n) x2 x3 x4 x5 (zdn q.2.2) x7 q.1 q.2.1 (Int32.ofNat k) ((1 : Int32) <<< (zdk q.2.2 &&& 31)) t = _ ∧ _
    have yes : (zbt q.1 (zdk q.2.2) = true ∨ ¬ s.1 1 4 ≤ zpc q.1) → ∃ t', zyF130_92 k13 (zyF130_40 k13 n) x2 x3 x4 x5 (zdn q.2.2) x7 q.1 q.2.1 (Int32.ofNat k) ((1 : Int32) <<< (zdk q.2.2 &&& 31)) t = k13 x2 x3 x4 (x5 + zdv s P x4 (zdi (s.1 1 4) a N)) (zdi (s.1 1 4) a N).2.2 (x7 + 1) t' ∧ zTh s P (zAev s) 0 t' := fun c => by
      unfold zyF130_92 zyF130_97 zyF130_112
      rw [if_neg (show ¬ (1 : Int32) = 0 by decide), zN_succ (by omega)]
      have := ih t (by omega) (by omega) h
      unfold zds at this
      rw [if_pos c] at this
      exact this
    unfold zyF130_69
    rw [ei]
    by_cases hb : zbt q.1 (Int32.ofNat i) = true
    · rw [if_pos (show q.1 &&& ((1 : Int32) <<< (Int32.ofNat i &&& 31)) ≠ 0 from fun w => by
        rw [(zbk_0 g0 hi).mp w] at hb
        cases hb)]
      have := yes (Or.inl (by rw [ei]; exact hb))
      rw [ei] at this
      exact this
    · have hb' : zbt q.1 (Int32.ofNat i) = false := by simpa using hb
      rw [if_neg (not_not_intro ((zbk_0 g0 hi).mpr hb')), zys63 t g0 g1, zq_bind, e14]
      dsimp only
      by_cases c : s.1 1 4 ≤ zpc q.1
      · rw [if_pos c]
        unfold zyF130_97 zyF130_112
        rw [if_pos (rfl : (0 : Int32) = 0), zN_succ (by omega), Int32.xor_zero]
        have := ih t (by omega) (by omega) h
        unfold zds at this
        rw [if_neg (fun w => by
          rcases w with w | w
          · rw [ei] at w
            exact hb w
          · exact w c)] at this
        exact this
      · rw [if_neg c]
        have := yes (Or.inr c)
        rw [ei] at this
        exact this
/-- days: what they add up to -/
def zdD (s : zy_S) (P N : Nat) (line d : Int32) : Nat → Int32 × Int32
  | 0 => (0, d)
  | n + 1 => ((zdD s P N line d n).1 + zdv s P line (zdi (s.1 1 4) (s.1 1 3, s.1 1 3, (zdD s P N line d n).2) N), (zdi (s.1 1 4) (s.1 1 3, s.1 1 3, (zdD s P N line d n).2) N).2.2)
theorem zdD_s (s : zy_S) (P N : Nat) (line d : Int32) (n : Nat) : zdD s P N line d (n + 1) = ((zdD s P N line d n).1 + zdv s P line (zdi (s.1 1 4) (s.1 1 3, s.1 1 3, (zdD s P N line d n).2) N), (zdi (s.1 1 4) (s.1 1 3, s.1 1 3, (zdD s P N line d n).2) N).2.2) := rfl
theorem zd0_G (l0 : 0 ≤ (s.1 1 3).toInt) (l1 : (s.1 1 3).toInt ≤ 16777215) (d : Int32) : zdG (s.1 1 3, s.1 1 3, d) := ⟨l0, l1, l0, fun _ _ h => h⟩
theorem zl_130_13 (hP : zPe s P) (hL : zLw (s.1 5 3) (s.1 43 11) (s.1 6) (s.1 49)) (l0 : 0 ≤ (s.1 1 3).toInt) (l1 : (s.1 1 3).toInt ≤ 16777215) {x2 x3 x4 d : Int32} {D N : Nat} (hD : x2.toInt = (D : Int)) (hD30 : D ≤ 30) (hN : x3.toInt = (N : Int)) (hN30 : N ≤ 30) : ∀ (n i : Nat) (t : zy_S), i ≤ D → D - i < n → zTh s P (zAev s) 0 t → ∃ t', zyF130_13 n x2 x3 x4 (zdD s P N x4 d i).1 (zdD s P N x4 d i).2 (Int32.ofNat i) t = some ((zdD s P N x4 d D).1, t') ∧ zTh s P (zAev s) 0 t'
  | 0, i, t, hi, hn, h => by omega
  | n + 1, i, t, hi, hn, h => by
    have ei : (Int32.ofNat i).toInt = (i : Int) := zN_toInt (by omega)
    have e13 : t.1 1 3 = s.1 1 3 := h.1.2 1 3 zto_14.1
    show ∃ t', zyF130_13b (zyF130_13 n) x2 x3 x4 _ _ (Int32.ofNat i) t = _ ∧ _
    unfold zyF130_13b
    by_cases hiD : i = D
    · rw [if_pos (by rw [Int32.le_iff_toInt_le, ei, hD]; omega), hiD]
      exact ⟨t, rfl, h⟩
    · rw [if_neg (by rw [Int32.le_iff_toInt_le, ei, hD]; omega), e13]
      obtain ⟨t1, f1, g1⟩ := zl_130_40 hP hL (x2 := x2) (x4 := x4) (x5 := (zdD s P N x4 d i).1) (x7 := Int32.ofNat i) hN hN30 (zd0_G l0 l1 (zdD s P N x4 d i).2) (zyF130_13 n) zy_fu 0 t (Nat.zero_le _) (by unfold zy_fu; omega) h
      have f1 : zyF130_40 (zyF130_13 n) zy_fu x2 x3 x4 (zdD s P N x4 d i).1 (zdD s P N x4 d i).2 (Int32.ofNat i) (s.1 1 3) (s.1 1 3) 0 t = zyF130_13 n x2 x3 x4 (zdD s P N x4 d (i + 1)).1 (zdD s P N x4 d (i + 1)).2 (Int32.ofNat i + 1) t1 := f1
      rw [f1, zN_succ (by omega)]
      exact zl_130_13 hP hL l0 l1 hD hD30 hN hN30 n (i + 1) t1 (by omega) (by omega) g1
/-- the model's strokes -/
theorem zl_239_83 (hP : zPe s P) (hL : zLw (s.1 5 3) (s.1 43 11) (s.1 6) (s.1 49)) (e40 : s.1 44 40 = s.1 1 4) {x2 x3 x5 x6 x7 : Int32} {N : Nat} (hN : (x2 - x2 / (100 : Int32) * (100 : Int32)).toInt = (N : Int)) (hN30 : N ≤ 30) (hx3 : x3 = -1 ∨ (0 ≤ x3.toInt ∧ x3.toInt ≤ 23)) {a : Int32 × Int32 × Int32} (ha : zdG a) (k61 : Int32 → Int32 → Int32 → Int32 → Int32 → Int32 → zy_S → Option (Int32 × zy_S)) : ∀ (n k : Nat) (t : zy_S), k ≤ N → N - k < n → zUn s t → zRg t → (∀ l, l < 24 → zbt (zdi (s.1 1 4) a k).1 (Int32.ofNat l) = true → t.1 51 l = if zbt (zdi (s.1 1 4) a k).2.1 (Int32.ofNat l) = true then s.1 2 l else 0) →
    ∃ t' v w, zyF239_83 k61 n x2 x3 (zdi (s.1 1 4) a k).2.2 x5 x6 x7 (zdi (s.1 1 4) a k).1 (Int32.ofNat k) t = k61 x2 x3 (zdi (s.1 1 4) a N).2.2 (x5 + v) (x6 + w) (x7 + 1) t' ∧ zUn s t' ∧ zRg t' ∧ (x3 = -1 → v = zdv s P x3 (zdi (s.1 1 4) a N)) ∧ (x3 ≠ -1 → w = zdv s P x3 (zdi (s.1 1 4) a N))
  | 0, k, t, hk, hn, h, hr, hw => by omega
  | n + 1, k, t, hk, hn, h, hr, hw => by
    have ek : (Int32.ofNat k).toInt = (k : Int) := zN_toInt (by omega)
    obtain ⟨-, -, -, r51⟩ := zmk_rg
    obtain ⟨q, hq⟩ : ∃ q, q = zdi (s.1 1 4) a k := ⟨_, rfl⟩
    have hG := zdi_G (room := s.1 1 4) ha k
    rw [← hq] at hG hw ⊢
    obtain ⟨g0, g1, g2, g3⟩ := hG
    show ∃ t' v w, zyF239_83b k61 (zyF239_83 k61 n) x2 x3 q.2.2 x5 x6 x7 q.1 (Int32.ofNat k) t = _ ∧ _
    unfold zyF239_83b zyF239_200 zyF239_201
    by_cases hkN : k = N
    · rw [if_pos (by rw [Int32.le_iff_toInt_le, ek, hN]; omega)]
      rw [hkN] at hq
      rw [← hq]
      obtain ⟨t1, f1, j1⟩ := zys212 hP hL (zMk_refl h hr) g0
      have ev : zAl s P q.1 (t.1 51) = zIn s P (zAev s) 0 q.1 q.2.1 := (zIn_all hP g0 g2 hw).symm
      rw [f1, zq_bind, ev]
      dsimp only
      rcases hx3 with c | ⟨c0, c1⟩
      · rw [if_pos (show x3 < 0 by rw [c]; decide)]
        refine ⟨t1, _, 0, rfl, j1.1, j1.2.1, fun _ => ?_, fun w => absurd c w⟩
        unfold zdv
        rw [if_pos c]
      · have nc : x3 ≠ -1 := fun w => by
          rw [w, zq_lm1] at c0
          omega
        rw [if_neg (show ¬ x3 < 0 by rw [Int32.lt_iff_toInt_lt, zq_l0]; omega), zys208, zq_bind]
        dsimp only
        have eb : ∀ y : Int32, (y = if zbt q.1 x3 = true then 1 else 0) → y = zdv s P x3 q := fun y hy => by
          unfold zdv
          rw [if_neg nc, hy]
          have b01 := zmk_b01 (x := q.1) (p := x3) (k := x3.toInt.toNat) (by omega) (by omega) (by omega)
          unfold zbt
          rcases b01 with w | w
          · rw [w]
            rfl
          · rw [w]
            rfl
        cases hb : zbt q.1 x3 with
        | false =>
          rw [if_pos (show zqb false = 0 from rfl)]
          exact ⟨t1, _, 0, rfl, j1.1, j1.2.1, fun w => absurd w nc, fun _ => eb 0 (by rw [hb]; rfl)⟩
        | true =>
          rw [if_neg (show ¬ zqb true = 0 by decide)]
          exact ⟨t1, _, 1, rfl, j1.1, j1.2.1, fun w => absurd w nc, fun _ => eb 1 (by rw [hb]; rfl)⟩
    rw [if_neg (by rw [Int32.le_iff_toInt_le, ek, hN]; omega)]
    obtain ⟨i, hi, ei⟩ := zdk_in q.2.2
    have ih := fun t h1 h2 h3 => zl_239_83 (x2 := x2) (x3 := x3) (x5 := x5) (x6 := x6) (x7 := x7) hP hL e40 hN hN30 hx3 ha k61 n (k + 1) t (by omega) (by omega) h1 h2 h3
    have es : zdi (s.1 1 4) a (k + 1) = zds (s.1 1 4) q := by rw [zdi_s, ← hq]
    rw [es] at ih
    show ∃ t' v w, zyF239_114 k61 (zyF239_83 k61 n) x2 x3 (zdn q.2.2) x5 x6 x7 q.1 (Int32.ofNat k) (zdk q.2.2) t = _ ∧ _
    unfold zyF239_114 zyF239_135 zyF239_156 zyF239_164
    rw [zys208, zq_bind, ei, zN_succ (by omega)]
    dsimp only
    obtain ⟨e0, e1⟩ := zmk_1 (x := Int32.ofNat i) (k := i) (zN_toInt (by omega)) (by omega)
    obtain ⟨x0, x1⟩ := zmk_xor g0 e0
    obtain ⟨o0, o1⟩ := zmk_or2 g0 e0
    obtain ⟨m0, m1⟩ := zmB_0 g0 hi
    cases hb : zbt q.1 (Int32.ofNat i) with
    | true =>
      have hbt := hb
      rw [zmk_t g0 (zN_toInt (by omega)) (by omega)] at hbt
      have eB : q.1 &&& (((1 : Int32) <<< (Int32.ofNat i &&& 31)) ^^^ (-1 : Int32)) = q.1 ^^^ ((1 : Int32) <<< (Int32.ofNat i &&& 31)) := by
        show zmB q.1 i = _
        refine zmk_ext m0 x0 (fun j => ?_)
        rw [m1, x1, e1]
        by_cases e : i = j
        · subst e
          rw [hbt, decide_eq_true rfl]
          rfl
        · rw [decide_eq_false e]
          cases q.1.toInt.toNat.testBit j <;> rfl
      have ez : zds (s.1 1 4) q = (q.1 ^^^ ((1 : Int32) <<< (Int32.ofNat i &&& 31)), q.2.1 &&& (q.1 ^^^ ((1 : Int32) <<< (Int32.ofNat i &&& 31))), zdn q.2.2) := by
        unfold zds
        rw [ei, if_pos (Or.inl hb)]
      rw [if_neg (show ¬ zqb true = 0 by decide), eB]
      rw [ez] at ih
      refine ih t h hr (fun l hl hbl => ?_)
      have hbl : zbt (q.1 ^^^ ((1 : Int32) <<< (Int32.ofNat i &&& 31))) (Int32.ofNat l) = true := hbl
      have hl2 := hbl
      rw [zmk_t x0 (zN_toInt (by omega)) (by omega)] at hl2
      show t.1 51 l = if zbt (q.2.1 &&& (q.1 ^^^ ((1 : Int32) <<< (Int32.ofNat i &&& 31)))) (Int32.ofNat l) = true then s.1 2 l else 0
      rw [zmk_t (zmk_and2 g2 x0).1 (zN_toInt (by omega)) (by omega), (zmk_and2 g2 x0).2, hl2, Bool.and_true, ← zmk_t g2 (zN_toInt (show l < 2147483648 by omega)) (by omega)]
      refine hw l hl ?_
      rw [zbt_x g0 hi hl] at hbl
      by_cases e : i = l
      · subst e
        rw [hb, decide_eq_true rfl] at hbl
        cases hbl
      · rw [decide_eq_false e] at hbl
        cases w : zbt q.1 (Int32.ofNat l) with
        | true => rfl
        | false =>
          rw [w] at hbl
          cases hbl
    | false =>
      have hbf := hb
      rw [zmk_t g0 (zN_toInt (by omega)) (by omega)] at hbf
      have f219 : zyF219 q.1 t = some (zqb (!decide (s.1 1 4 ≤ zpc q.1)), t) := by
        unfold zyF219
        rw [zys209 t g0 g1, zq_bind, show t.1 44 40 = s.1 1 4 from (h.2 44 40 rfl).trans e40]
        by_cases c : s.1 1 4 ≤ zpc q.1
        · rw [if_pos c, decide_eq_true c]
          rfl
        · rw [if_neg c, decide_eq_false c]
          rfl
      rw [if_pos (show zqb false = 0 from rfl), f219, zq_bind]
      dsimp only
      by_cases c : s.1 1 4 ≤ zpc q.1
      · have ez : zds (s.1 1 4) q = (q.1, q.2.1 &&& q.1, zdn q.2.2) := by
          unfold zds
          rw [ei, if_neg (fun w => by
            rcases w with w | w
            · rw [hb] at w
              cases w
            · exact w c)]
        rw [decide_eq_true c, if_pos (show zqb (!true) = 0 from rfl)]
        rw [ez] at ih
        refine ih t h hr (fun l hl hbl => ?_)
        have hbl : zbt q.1 (Int32.ofNat l) = true := hbl
        have hl2 := hbl
        rw [zmk_t g0 (zN_toInt (by omega)) (by omega)] at hl2
        show t.1 51 l = if zbt (q.2.1 &&& q.1) (Int32.ofNat l) = true then s.1 2 l else 0
        rw [zmk_t (zmk_and2 g2 g0).1 (zN_toInt (by omega)) (by omega), (zmk_and2 g2 g0).2, hl2, Bool.and_true, ← zmk_t g2 (zN_toInt (show l < 2147483648 by omega)) (by omega)]
        exact hw l hl hbl
      · have eB : q.1 ||| ((1 : Int32) <<< (Int32.ofNat i &&& 31)) = q.1 ^^^ ((1 : Int32) <<< (Int32.ofNat i &&& 31)) := by
          refine zmk_ext o0 x0 (fun j => ?_)
          rw [o1, x1, e1]
          by_cases e : i = j
          · subst e
            rw [hbf, decide_eq_true rfl]
            rfl
          · rw [decide_eq_false e]
            cases q.1.toInt.toNat.testBit j <;> rfl
        have ez : zds (s.1 1 4) q = (q.1 ^^^ ((1 : Int32) <<< (Int32.ofNat i &&& 31)), q.2.1 &&& (q.1 ^^^ ((1 : Int32) <<< (Int32.ofNat i &&& 31))), zdn q.2.2) := by
          unfold zds
          rw [ei, if_pos (Or.inr c)]
        rw [decide_eq_false c, if_neg (show ¬ zqb (!false) = 0 by decide), if_pos (zq_in.mpr (by rw [zN_toInt (by omega)]; omega)), zN_ix (by omega), eB]
        rw [ez] at ih
        refine ih (zy_up t 51 i 0) (zUn_up h rfl) (zRg_up hr (fun _ => by rw [r51 i hi]; exact zin_full 0)) (fun l hl hbl => ?_)
        have hbl : zbt (q.1 ^^^ ((1 : Int32) <<< (Int32.ofNat i &&& 31))) (Int32.ofNat l) = true := hbl
        have hl2 := hbl
        rw [zmk_t x0 (zN_toInt (by omega)) (by omega)] at hl2
        show (zy_up t 51 i 0).1 51 l = if zbt (q.2.1 &&& (q.1 ^^^ ((1 : Int32) <<< (Int32.ofNat i &&& 31)))) (Int32.ofNat l) = true then s.1 2 l else 0
        rw [zmk_t (zmk_and2 g2 x0).1 (zN_toInt (by omega)) (by omega), (zmk_and2 g2 x0).2, hl2, Bool.and_true, ← zmk_t g2 (zN_toInt (show l < 2147483648 by omega)) (by omega), zf_upr]
        by_cases e : l = i
        · subst e
          rw [if_pos rfl]
          have kf : zbt q.2.1 (Int32.ofNat l) = false := by
            cases w : zbt q.2.1 (Int32.ofNat l) with
            | false => rfl
            | true =>
              have := g3 l hl w
              rw [hb] at this
              cases this
          rw [kf]
          rfl
        · rw [if_neg e]
          refine hw l hl ?_
          rw [zbt_x g0 hi hl, decide_eq_false (fun w => e w.symm)] at hbl
          cases w : zbt q.1 (Int32.ofNat l) with
          | true => rfl
          | false =>
            rw [w] at hbl
            cases hbl
theorem zl_239_61 (hg : zRg s) (hP : zPe s P) (hL : zLw (s.1 5 3) (s.1 43 11) (s.1 6) (s.1 49)) (h4 : ∀ l, l < 24 → s.1 44 (16 + l) = s.1 2 l) (e7 : s.1 43 7 = s.1 1 3) (l0 : 0 ≤ (s.1 1 3).toInt) (l1 : (s.1 1 3).toInt ≤ 16777215) (e40 : s.1 44 40 = s.1 1 4) {x2 x3 d : Int32} {D N : Nat} (hD : (x2 / (100 : Int32)).toInt = (D : Int)) (hD30 : D ≤ 30) (hN : (x2 - x2 / (100 : Int32) * (100 : Int32)).toInt = (N : Int)) (hN30 : N ≤ 30) (hx3 : x3 = -1 ∨ (0 ≤ x3.toInt ∧ x3.toInt ≤ 23)) : ∀ (n i : Nat) (x5 x6 : Int32) (t : zy_S), i ≤ D → D - i < n → zUn s t → zRg t → (x3 = -1 → x5 = (zdD s P N x3 d i).1) → (x3 ≠ -1 → x6 = (zdD s P N x3 d i).1) → ∃ t', zyF239_61 n x2 x3 (zdD s P N x3 d i).2 x5 x6 (Int32.ofNat i) t = some ((zdD s P N x3 d D).1, t') ∧ zUn s t' ∧ zRg t'
  | 0, i, x5, x6, t, hi, hn, h, hr, h5, h6 => by omega
  | n + 1, i, x5, x6, t, hi, hn, h, hr, h5, h6 => by
    have ei : (Int32.ofNat i).toInt = (i : Int) := zN_toInt (by omega)
    show ∃ t', zyF239_61b (zyF239_61 n) x2 x3 _ x5 x6 (Int32.ofNat i) t = _ ∧ _
    unfold zyF239_61b
    by_cases hiD : i = D
    · rw [if_pos (by rw [Int32.le_iff_toInt_le, ei, hD]; omega)]
      rw [hiD] at h5 h6
      rcases hx3 with c | ⟨c0, c1⟩
      · rw [if_neg (show ¬ (0 : Int32) ≤ x3 by rw [c]; decide), h5 c]
        exact ⟨t, rfl, h, hr⟩
      · have nc : x3 ≠ -1 := fun w => by
          rw [w, zq_lm1] at c0
          omega
        rw [if_pos (show (0 : Int32) ≤ x3 by rw [Int32.le_iff_toInt_le, zq_l0]; exact c0), h6 nc]
        exact ⟨t, rfl, h, hr⟩
    · obtain ⟨t1, f1, u1, g1, w1, -⟩ := zys203 (s := s) hg h hr
      rw [if_neg (by rw [Int32.le_iff_toInt_le, ei, hD]; omega), f1, zq_bind]
      dsimp only
      rw [show t1.1 43 7 = s.1 1 3 from (u1.2 43 7 zmt_6.2).trans e7]
      obtain ⟨t2, v, w, f2, u2, g2, hv, hw⟩ := zl_239_83 hP hL e40 (x2 := x2) (x3 := x3) (x5 := x5) (x6 := x6) (x7 := Int32.ofNat i) hN hN30 hx3 (zd0_G l0 l1 (zdD s P N x3 d i).2) (zyF239_61 n) zy_fu 0 t1 (Nat.zero_le _) (by unfold zy_fu; omega) u1 g1 (fun l hl hb => by
        have hb : zbt (s.1 1 3) (Int32.ofNat l) = true := hb
        show t1.1 51 l = if zbt (s.1 1 3) (Int32.ofNat l) = true then s.1 2 l else 0
        rw [if_pos hb, w1 l hl, h4 l hl])
      have f2 : zyF239_83 (zyF239_61 n) zy_fu x2 x3 (zdD s P N x3 d i).2 x5 x6 (Int32.ofNat i) (s.1 1 3) 0 t1 = zyF239_61 n x2 x3 (zdD s P N x3 d (i + 1)).2 (x5 + v) (x6 + w) (Int32.ofNat i + 1) t2 := f2
      rw [f2, zN_succ (by omega)]
      exact zl_239_61 hg hP hL h4 e7 l0 l1 e40 hD hD30 hN hN30 hx3 n (i + 1) _ _ t2 (by omega) (by omega) u2 g2 (fun c => by rw [zdD_s, ← h5 c, hv c]) (fun c => by rw [zdD_s, ← h6 c, hw c])
theorem zq_100 (x : Int32) : (x / (100 : Int32)).toInt = x.toInt.tdiv 100 ∧ (x - x / (100 : Int32) * (100 : Int32)).toInt = x.toInt - x.toInt.tdiv 100 * 100 := by
  have l100 : (100 : Int32).toInt = 100 := rfl
  have lo := zq_lo x
  have hi := zq_hi x
  have d1 : (x / (100 : Int32)).toInt = x.toInt.tdiv 100 := by rw [Int32.toInt_div_of_ne_right _ _ (by decide), l100]
  have b : -2147483648 ≤ x.toInt.tdiv 100 * 100 ∧ x.toInt.tdiv 100 * 100 ≤ 2147483647 ∧ -2147483648 ≤ x.toInt - x.toInt.tdiv 100 * 100 ∧ x.toInt - x.toInt.tdiv 100 * 100 ≤ 2147483647 := by
    rcases Int.lt_or_le x.toInt 0 with c | c
    · have e : x.toInt.tdiv 100 = -((-x.toInt) / 100) := by
        have := Int.neg_tdiv (a := -x.toInt) (b := 100)
        rw [Int.neg_neg] at this
        rw [this, Int.tdiv_eq_ediv_of_nonneg (by omega)]
      omega
    · rw [Int.tdiv_eq_ediv_of_nonneg c]
      omega
  have d2 : (x / (100 : Int32) * (100 : Int32)).toInt = x.toInt.tdiv 100 * 100 := by rw [zq_mul (by rw [l100, d1]; omega) (by rw [l100, d1]; omega), l100, d1]
  exact ⟨d1, by rw [zq_sub (by rw [d2]; omega) (by rw [d2]; omega), d2]⟩
theorem zop_drawn (x1 x2 x3 : Int32) {s : zy_S} (h : zI s) : ∃ r s1 s2, zyF129 x1 x2 x3 s = some (r, s1) ∧ zyF239 x1 x2 x3 s1 = some (r, s2) ∧ zI s2 := by
  obtain ⟨hg, hP, hL, h4, e7, l0, l1, e40⟩ := zMI h
  obtain ⟨P, hPP⟩ : ∃ P, P = (s.1 1 5).toInt.toNat := ⟨_, rfl⟩
  rw [← hPP] at hP
  obtain ⟨q1, q2⟩ := zq_100 x2
  have l30 : (30 : Int32).toInt = 30 := rfl
  have j1 : (1 : Int64).toInt = 1 := rfl
  have j30 : (30 : Int64).toInt = 30 := rfl
  obtain ⟨a, ha⟩ : ∃ a, a = (x2 / (100 : Int32)).toInt := ⟨_, rfl⟩
  obtain ⟨b, hb⟩ : ∃ b, b = (x2 - x2 / (100 : Int32) * (100 : Int32)).toInt := ⟨_, rfl⟩
  have neg : x2.toInt < 0 → a < 1 := fun c => by
    have e : x2.toInt.tdiv 100 = -((-x2.toInt) / 100) := by
      have := Int.neg_tdiv (a := -x2.toInt) (b := 100)
      rw [Int.neg_neg] at this
      rw [this, Int.tdiv_eq_ediv_of_nonneg (by omega)]
    omega
  by_cases hok : (1 ≤ a ∧ a ≤ 30) ∧ (1 ≤ b ∧ b ≤ 30) ∧ (x3 = -1 ∨ (0 ≤ x3.toInt ∧ x3.toInt ≤ 23))
  · obtain ⟨⟨a1, a2⟩, ⟨b1, b2⟩, hx3⟩ := hok
    have hx30 : ¬ x3 < (-1 : Int32) ∧ x3 < (24 : Int32) := by
      rcases hx3 with c | ⟨c0, c1⟩
      · rw [c]
        exact ⟨by decide, by decide⟩
      · exact ⟨by rw [Int32.lt_iff_toInt_lt, zq_lm1]; omega, by rw [Int32.lt_iff_toInt_lt, zq_l24]; omega⟩
    obtain ⟨t0, f0, g0⟩ := zys74 (P := P) (zUn_refl s) hg
    obtain ⟨t1, f1, g1⟩ := zl_130_13 hP hL l0 l1 (x2 := x2 / (100 : Int32)) (x3 := x2 - x2 / (100 : Int32) * (100 : Int32)) (x4 := x3) (d := x1) (D := a.toNat) (N := b.toNat) (by omega) (by omega) (by omega) (by omega) zy_fu 0 t0 (Nat.zero_le _) (by unfold zy_fu; omega) g0
    have f1 : zyF130_13 zy_fu (x2 / (100 : Int32)) (x2 - x2 / (100 : Int32) * (100 : Int32)) x3 0 x1 0 t0 = some ((zdD s P b.toNat x3 x1 a.toNat).1, t1) := f1
    obtain ⟨t2, f2, u2, g2⟩ := zl_239_61 hg hP hL h4 e7 l0 l1 e40 (x2 := x2) (x3 := x3) (d := x1) (D := a.toNat) (N := b.toNat) (by omega) (by omega) (by omega) (by omega) hx3 zy_fu 0 0 0 t1 (Nat.zero_le _) (by unfold zy_fu; omega) g1.1 g1.2.1 (fun _ => rfl) (fun _ => rfl)
    have f2 : zyF239_61 zy_fu x2 x3 x1 0 0 0 t1 = some ((zdD s P b.toNat x3 x1 a.toNat).1, t2) := f2
    refine ⟨(zdD s P b.toNat x3 x1 a.toNat).1, t1, t2, ?_, ?_, zI_end h u2 g2⟩
    · unfold zyF129 zyF130
      rw [if_neg (show ¬ x2 / (100 : Int32) < 1 by rw [Int32.lt_iff_toInt_lt, zq_l1]; omega), if_neg (show ¬ (30 : Int32) < x2 / (100 : Int32) by rw [Int32.lt_iff_toInt_lt, l30]; omega), if_neg (show ¬ x2 - x2 / (100 : Int32) * (100 : Int32) < 1 by rw [Int32.lt_iff_toInt_lt, zq_l1]; omega), if_neg (show ¬ (30 : Int32) < x2 - x2 / (100 : Int32) * (100 : Int32) by rw [Int32.lt_iff_toInt_lt, l30]; omega), if_neg hx30.1, if_pos hx30.2, f0, zq_bind]
      dsimp only
      rw [f1, zq_bind]
    · have w49 : zyF239_49 x1 x2 x3 t1 = some ((zdD s P b.toNat x3 x1 a.toNat).1, t2) := by
        unfold zyF239_49
        exact f2
      unfold zyF239
      rw [if_neg (show ¬ x2 < 0 by rw [Int32.lt_iff_toInt_lt, zq_l0]; exact fun c => by have := neg c; omega), zys179, zqb_t (decide_eq_true (by rw [Int32.toInt_toInt64, j1, j30]; omega)), zq_bind]
      dsimp only
      rw [if_neg (show ¬ (1 : Int32) = 0 by decide), zys179, zqb_t (decide_eq_true (by rw [Int32.toInt_toInt64, j1, j30]; omega)), zq_bind]
      dsimp only
      rw [if_neg (show ¬ (1 : Int32) = 0 by decide)]
      by_cases c : x3 = -1
      · rw [if_pos c]
        exact w49
      · rw [if_neg c, zys186, zqb_t (decide_eq_true (by rw [Int32.toInt_toInt64]; exact hx3.resolve_left c)), zq_bind]
        dsimp only
        rw [if_pos (show (1 : Int32) ≠ 0 by decide)]
        exact w49
  · refine ⟨-1, s, s, ?_, ?_, h⟩
    · unfold zyF129
      by_cases c1 : a < 1
      · rw [if_pos (show x2 / (100 : Int32) < 1 by rw [Int32.lt_iff_toInt_lt, zq_l1]; omega)]
      rw [if_neg (show ¬ x2 / (100 : Int32) < 1 by rw [Int32.lt_iff_toInt_lt, zq_l1]; omega)]
      by_cases c2 : 30 < a
      · rw [if_pos (show (30 : Int32) < x2 / (100 : Int32) by rw [Int32.lt_iff_toInt_lt, l30]; omega)]
      rw [if_neg (show ¬ (30 : Int32) < x2 / (100 : Int32) by rw [Int32.lt_iff_toInt_lt, l30]; omega)]
      by_cases c3 : b < 1
      · rw [if_pos (show x2 - x2 / (100 : Int32) * (100 : Int32) < 1 by rw [Int32.lt_iff_toInt_lt, zq_l1]; omega)]
      rw [if_neg (show ¬ x2 - x2 / (100 : Int32) * (100 : Int32) < 1 by rw [Int32.lt_iff_toInt_lt, zq_l1]; omega)]
      by_cases c4 : 30 < b
      · rw [if_pos (show (30 : Int32) < x2 - x2 / (100 : Int32) * (100 : Int32) by rw [Int32.lt_iff_toInt_lt, l30]; omega)]
      rw [if_neg (show ¬ (30 : Int32) < x2 - x2 / (100 : Int32) * (100 : Int32) by rw [Int32.lt_iff_toInt_lt, l30]; omega)]
      by_cases c5 : x3.toInt < -1
      · rw [if_pos (show x3 < (-1 : Int32) by rw [Int32.lt_iff_toInt_lt, zq_lm1]; exact c5)]
      rw [if_neg (show ¬ x3 < (-1 : Int32) by rw [Int32.lt_iff_toInt_lt, zq_lm1]; exact c5)]
      have c6 : ¬ x3.toInt < 24 := fun c6 => hok ⟨by omega, by omega, by
        by_cases z : x3 = -1
        · exact Or.inl z
        · have : ¬ x3.toInt = -1 := fun w => z (zq_ext w)
          exact Or.inr (by omega)⟩
      rw [if_neg (show ¬ x3 < (24 : Int32) by rw [Int32.lt_iff_toInt_lt, zq_l24]; exact c6)]
    · unfold zyF239
      by_cases c0 : x2.toInt < 0
      · rw [if_pos (show x2 < 0 by rw [Int32.lt_iff_toInt_lt, zq_l0]; exact c0)]
      rw [if_neg (show ¬ x2 < 0 by rw [Int32.lt_iff_toInt_lt, zq_l0]; exact c0), zys179, zq_bind]
      dsimp only
      by_cases c1 : 1 ≤ a ∧ a ≤ 30
      · rw [zqb_t (decide_eq_true (by rw [Int32.toInt_toInt64, j1, j30]; omega)), if_neg (show ¬ (1 : Int32) = 0 by decide), zys179, zq_bind]
        dsimp only
        by_cases c2 : 1 ≤ b ∧ b ≤ 30
        · have c3 : ¬ (x3 = -1 ∨ (0 ≤ x3.toInt ∧ x3.toInt ≤ 23)) := fun w => hok ⟨c1, c2, w⟩
          rw [zqb_t (decide_eq_true (by rw [Int32.toInt_toInt64, j1, j30]; omega)), if_neg (show ¬ (1 : Int32) = 0 by decide), if_neg (fun w => c3 (Or.inl w)), zys186, zqb_f (decide_eq_false (by rw [Int32.toInt_toInt64]; exact fun w => c3 (Or.inr w))), zq_bind]
          dsimp only
          rw [if_neg (show ¬ (0 : Int32) ≠ 0 by decide)]
        · rw [zqb_f (decide_eq_false (by rw [Int32.toInt_toInt64, j1, j30]; omega)), if_pos rfl]
      · rw [zqb_f (decide_eq_false (by rw [Int32.toInt_toInt64, j1, j30]; omega)), if_pos rfl]
end ZS2
