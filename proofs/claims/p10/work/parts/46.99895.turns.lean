/-! PART 46.99895: two by turns, on both sides. Made by wip/v6/gen_turns.py. -/
/-! one against the other -/
theorem zsg_two {o q p : Nat} (ho : o < 8) (hq : q < 8) (hp : p < 8) : zsg ((1 : Int32) <<< (Int32.ofNat o &&& 31)) ((1 : Int32) <<< (Int32.ofNat q &&& 31)) p = (if p = o then 1 else 0) - (if p = q then 1 else 0) := by
  have z : ((0 : Int32) >>> (Int32.ofNat p &&& 31)) &&& (1 : Int32) = 0 := by
    rcases (by omega : p = 0 ∨ p = 1 ∨ p = 2 ∨ p = 3 ∨ p = 4 ∨ p = 5 ∨ p = 6 ∨ p = 7) with rfl | rfl | rfl | rfl | rfl | rfl | rfl | rfl <;> decide
  have a := zsg_one (one := Int32.ofNat o) (zN_toInt (by omega)) ho hp
  have b := zsg_one (one := Int32.ofNat q) (zN_toInt (by omega)) hq hp
  unfold zsg at a b ⊢
  rw [z, Int32.sub_zero] at a b
  rw [a, b]
theorem ztq_4 (a b c d : Int32) : a + b + (c + d) = a + c + (b + d) := by
  rw [Int32.add_assoc, Int32.add_assoc, ← Int32.add_assoc b c d, Int32.add_comm b c, Int32.add_assoc]
theorem ztq_s4 (a b c d : Int32) : a - b + (c - d) = a + c - (b + d) := by
  rw [Int32.sub_eq_add_neg, Int32.sub_eq_add_neg, ztq_4, Int32.sub_eq_add_neg, Int32.neg_add, Int32.sub_eq_add_neg]
theorem zsum_sub {f g : Nat → Int32} : ∀ n, zsum n (fun j => f j - g j) = zsum n f - zsum n g
  | 0 => by
    show (0 : Int32) = 0 - 0
    decide
  | n + 1 => by
    rw [zsum_s, zsum_s, zsum_s, zsum_sub n, ztq_s4]
/-- all but one of a sum stand -/
theorem zsum_but {f g : Nat → Int32} {k : Nat} : ∀ n, (∀ m, m < n → m ≠ k → f m = g m) → zsum n f = zsum n g + (if k < n then f k - g k else 0)
  | 0, _ => by
    rw [if_neg (Nat.not_lt_zero k)]
    rfl
  | n + 1, h => by
    rw [zsum_s, zsum_s, zsum_but n (fun m hm hk => h m (by omega) hk)]
    by_cases e : n = k
    · subst e
      rw [if_neg (Nat.lt_irrefl n), if_pos (Nat.lt_succ_self n), Int32.add_zero, Int32.add_assoc, Int32.add_comm (g n), Int32.sub_add_cancel]
    · rw [h n (Nat.lt_succ_self n) e]
      by_cases c : k < n
      · rw [if_pos c, if_pos (show k < n + 1 by omega), Int32.add_assoc, Int32.add_assoc, Int32.add_comm (f k - g k)]
      · rw [if_neg c, if_neg (show ¬ k < n + 1 by omega), Int32.add_zero, Int32.add_zero]
/-- what one minds of a board -/
def zOw (s : zy_S) (o : Nat) (L : Int32) (w : Nat → Int32) : Int32 := zsum 6 (fun m => zWx s o m (zvo L (Int32.ofNat m)) (fun j => w (4 * m + j)))
def zbo (o : Nat) : Int32 := (1 : Int32) <<< (Int32.ofNat o &&& 31)
/-- what a board comes to -/
def zTw (s : zy_S) (P o q : Nat) (L K : Int32) : Int32 := zIn s P (zbo o) (zbo q) L K
theorem zIn_two {s : zy_S} {P : Nat} (hP : zPe s P) {o q : Nat} (ho : o < P) (hq : q < P) {L K : Int32} {w : Nat → Int32} (l0 : 0 ≤ L.toInt) (k0 : 0 ≤ K.toInt) (hw : ∀ l : Nat, l < 24 → zbt L (Int32.ofNat l) = true → w l = if zbt K (Int32.ofNat l) = true then s.1 2 l else 0) : zTw s P o q L K = zOw s o L w - zOw s q L w := by
  have p8 := hP.2.2.1
  have key : ∀ p m, p < P → m < 6 → zWx s p m (zvo L (Int32.ofNat m)) (zwC s m (zvo (L &&& K) (Int32.ofNat m))) = zWx s p m (zvo L (Int32.ofNat m)) (fun j => w (4 * m + j)) := fun p m hp hm => by
    refine zWx_congr (fun j hj hb => ?_)
    have hp4 : (Int32.ofNat (4 * m + j)).toInt = ((4 * m + j : Nat) : Int) := zN_toInt (by omega)
    rw [zvo_bit l0 hm hj hp4] at hb
    obtain ⟨a0, ab⟩ := zmk_and2 l0 k0
    unfold zwC
    rw [zvo_bit a0 hm hj hp4, hw _ (by omega) hb]
    have e : zbt (L &&& K) (Int32.ofNat (4 * m + j)) = zbt K (Int32.ofNat (4 * m + j)) := by
      rw [zmk_t a0 hp4 (by omega), ab, ← zmk_t l0 hp4 (by omega), hb, Bool.true_and, ← zmk_t k0 hp4 (by omega)]
    rw [e]
  unfold zTw zIn zOw
  rw [← zsum_sub]
  refine zsum_congr 6 (fun m hm => ?_)
  unfold zKv zbo
  have e : ∀ p, p < P → zsg ((1 : Int32) <<< (Int32.ofNat o &&& 31)) ((1 : Int32) <<< (Int32.ofNat q &&& 31)) p * zWx s p m (zvo L (Int32.ofNat m)) (zwC s m (zvo (L &&& K) (Int32.ofNat m))) = (if p = o then zWx s p m (zvo L (Int32.ofNat m)) (fun j => w (4 * m + j)) else 0) - (if p = q then zWx s p m (zvo L (Int32.ofNat m)) (fun j => w (4 * m + j)) else 0) := fun p hp => by
    rw [zsg_two (by omega) (by omega) (by omega), key p m hp hm, Int32.sub_mul]
    congr 1
    · by_cases c : p = o
      · rw [if_pos c, if_pos c, Int32.one_mul]
      · rw [if_neg c, if_neg c, Int32.zero_mul]
    · by_cases c : p = q
      · rw [if_pos c, if_pos c, Int32.one_mul]
      · rw [if_neg c, if_neg c, Int32.zero_mul]
  rw [zsum_congr P e, zsum_sub, zsum_one (f := fun p => zWx s p m (zvo L (Int32.ofNat m)) (fun j => w (4 * m + j))), zsum_one (f := fun p => zWx s p m (zvo L (Int32.ofNat m)) (fun j => w (4 * m + j))), if_pos ho, if_pos hq]
/-- a change tells on its own MATTER alone -/
theorem zvo_eq {L L' : Int32} (l0 : 0 ≤ L.toInt) (l0' : 0 ≤ L'.toInt) {m : Nat} (hm : m < 6) (h : ∀ j, j < 4 → L'.toInt.toNat.testBit (4 * m + j) = L.toInt.toNat.testBit (4 * m + j)) : zvo L' (Int32.ofNat m) = zvo L (Int32.ofNat m) := by
  obtain ⟨a0, a1⟩ := zvo_in (m := Int32.ofNat m) l0 (zN_toInt (by omega)) (show m ≤ 6 by omega)
  obtain ⟨b0, b1⟩ := zvo_in (m := Int32.ofNat m) l0' (zN_toInt (by omega)) (show m ≤ 6 by omega)
  have e : L'.toInt.toNat / 2 ^ (4 * m) &&& 15 = L.toInt.toNat / 2 ^ (4 * m) &&& 15 := by
    refine Nat.eq_of_testBit_eq (fun i => ?_)
    rw [Nat.testBit_and, Nat.testBit_and, Nat.testBit_div_two_pow, Nat.testBit_div_two_pow]
    by_cases hi : i < 4
    · rw [show i + 4 * m = 4 * m + i by omega, h i hi]
    · have e15 : Nat.testBit 15 i = false := Nat.testBit_lt_two_pow (Nat.lt_of_lt_of_le (show 15 < 2 ^ 4 by decide) (Nat.pow_le_pow_right (by decide) (by omega)))
      rw [e15, Bool.and_false, Bool.and_false]
  rw [← zvo_nat l0' (show m ≤ 6 by omega), ← zvo_nat l0 (show m ≤ 6 by omega)] at e
  exact zq_ext (by omega)
theorem zIn_gain {s : zy_S} {P : Nat} {a b L K L' K' : Int32} {k : Nat} (hk : k < 6) (h : ∀ m, m < 6 → m ≠ k → zvo L' (Int32.ofNat m) = zvo L (Int32.ofNat m) ∧ zvo (L' &&& K') (Int32.ofNat m) = zvo (L &&& K) (Int32.ofNat m)) : zIn s P a b L' K' = zIn s P a b L K + (zKv s P a b k (zvo L' (Int32.ofNat k)) (zvo (L' &&& K') (Int32.ofNat k)) - zKv s P a b k (zvo L (Int32.ofNat k)) (zvo (L &&& K) (Int32.ofNat k))) := by
  unfold zIn
  rw [zsum_but (k := k) (g := fun m => zKv s P a b m (zvo L (Int32.ofNat m)) (zvo (L &&& K) (Int32.ofNat m))) 6 (fun m hm hne => by rw [(h m hm hne).1, (h m hm hne).2]), if_pos hk]
/-! the best of so many -/
def zbr (w : Bool) (x y : Int32) : Bool := if w then !decide (y ≤ x) else !decide (x ≤ y)
def zka (w : Bool) (x : Int32) : Int := if w then x.toInt else -x.toInt
theorem zbr_t {w : Bool} {x y : Int32} : zbr w x y = true ↔ zka w x < zka w y := by
  unfold zbr zka
  cases w with
  | true =>
    rw [if_pos rfl, if_pos rfl, if_pos rfl, Bool.not_eq_true', decide_eq_false_iff_not, Int32.le_iff_toInt_le]
    omega
  | false =>
    rw [if_neg (by decide), if_neg (by decide), if_neg (by decide), Bool.not_eq_true', decide_eq_false_iff_not, Int32.le_iff_toInt_le]
    omega
theorem zka_inj {w : Bool} {x y : Int32} (h : zka w x = zka w y) : x = y := by
  unfold zka at h
  refine zq_ext ?_
  cases w with
  | true =>
    rw [if_pos rfl, if_pos rfl] at h
    exact h
  | false =>
    rw [if_neg (by decide), if_neg (by decide)] at h
    omega
def ztbe (w : Bool) (ok : Nat → Bool) (v : Nat → Int32) (x0 : Int32) : Nat → Int32
  | 0 => x0
  | k + 1 => if ok k = true ∧ zbr w (v k) (ztbe w ok v x0 k) = true then v k else ztbe w ok v x0 k
theorem ztbe_s (w : Bool) (ok : Nat → Bool) (v : Nat → Int32) (x0 : Int32) (k : Nat) : ztbe w ok v x0 (k + 1) = if ok k = true ∧ zbr w (v k) (ztbe w ok v x0 k) = true then v k else ztbe w ok v x0 k := rfl
theorem ztbe_in (w : Bool) (ok : Nat → Bool) (v : Nat → Int32) (x0 : Int32) : ∀ n, (ztbe w ok v x0 n = x0 ∨ ∃ k, k < n ∧ ok k = true ∧ ztbe w ok v x0 n = v k) ∧ zka w (ztbe w ok v x0 n) ≤ zka w x0 ∧ ∀ k, k < n → ok k = true → zka w (ztbe w ok v x0 n) ≤ zka w (v k)
  | 0 => ⟨Or.inl rfl, Int.le_refl _, fun k hk => by omega⟩
  | n + 1 => by
    obtain ⟨h1, h2, h3⟩ := ztbe_in w ok v x0 n
    rw [ztbe_s]
    by_cases c : ok n = true ∧ zbr w (v n) (ztbe w ok v x0 n) = true
    · rw [if_pos c]
      have q := zbr_t.mp c.2
      refine ⟨Or.inr ⟨n, by omega, c.1, rfl⟩, by omega, fun k hk ho => ?_⟩
      by_cases e : k = n
      · rw [e]
        exact Int.le_refl _
      · have := h3 k (by omega) ho
        omega
    · rw [if_neg c]
      refine ⟨?_, h2, fun k hk ho => ?_⟩
      · rcases h1 with h | ⟨k, k1, k2, k3⟩
        · exact Or.inl h
        · exact Or.inr ⟨k, by omega, k2, k3⟩
      · by_cases e : k = n
        · have : ¬ zka w (v n) < zka w (ztbe w ok v x0 n) := fun q => c ⟨by rw [← e]; exact ho, zbr_t.mpr q⟩
          rw [e]
          omega
        · exact h3 k (by omega) ho
/-- the class's: the first of the best -/
def ztbc (w : Bool) (ok : Nat → Bool) (v : Nat → Int32) : Nat → Int × Int32
  | 0 => (-1, 0)
  | k + 1 => if ok k = true ∧ ((ztbc w ok v k).1 = -1 ∨ zbr w (v k) (ztbc w ok v k).2 = true) then ((k : Int), v k) else ztbc w ok v k
theorem ztbc_s (w : Bool) (ok : Nat → Bool) (v : Nat → Int32) (k : Nat) : ztbc w ok v (k + 1) = if ok k = true ∧ ((ztbc w ok v k).1 = -1 ∨ zbr w (v k) (ztbc w ok v k).2 = true) then ((k : Int), v k) else ztbc w ok v k := rfl
theorem ztbc_in (w : Bool) (ok : Nat → Bool) (v : Nat → Int32) : ∀ n, ((ztbc w ok v n).1 = -1 ∧ ∀ k, k < n → ok k = false) ∨ ∃ j, j < n ∧ (ztbc w ok v n).1 = (j : Int) ∧ ok j = true ∧ (ztbc w ok v n).2 = v j ∧ (∀ k, k < n → ok k = true → zka w (v j) ≤ zka w (v k)) ∧ ∀ k, k < j → ok k = true → zka w (v j) < zka w (v k)
  | 0 => Or.inl ⟨rfl, fun k hk => by omega⟩
  | n + 1 => by
    rw [ztbc_s]
    by_cases c : ok n = true ∧ ((ztbc w ok v n).1 = -1 ∨ zbr w (v n) (ztbc w ok v n).2 = true)
    · rw [if_pos c]
      refine Or.inr ⟨n, by omega, rfl, c.1, rfl, ?_⟩
      have lt : ∀ k, k < n → ok k = true → zka w (v n) < zka w (v k) := fun k hk ho => by
        rcases ztbc_in w ok v n with ⟨a, b⟩ | ⟨j, j1, j2, j3, j4, j5, j6⟩
        · rw [b k hk] at ho
          cases ho
        · rcases c.2 with q | q
          · omega
          · have q := zbr_t.mp q
            rw [j4] at q
            have := j5 k hk ho
            omega
      refine ⟨fun k hk ho => ?_, lt⟩
      by_cases e : k = n
      · rw [e]
        exact Int.le_refl _
      · have := lt k (by omega) ho
        omega
    · rw [if_neg c]
      rcases ztbc_in w ok v n with ⟨a, b⟩ | ⟨j, j1, j2, j3, j4, j5, j6⟩
      · refine Or.inl ⟨a, fun k hk => ?_⟩
        by_cases e : k = n
        · cases q : ok k with
          | false => rfl
          | true => exact absurd ⟨by rw [← e]; exact q, Or.inl a⟩ c
        · exact b k (by omega)
      · refine Or.inr ⟨j, by omega, j2, j3, j4, fun k hk ho => ?_, j6⟩
        by_cases e : k = n
        · have : ¬ zka w (v n) < zka w (ztbc w ok v n).2 := fun q => c ⟨by rw [← e]; exact ho, Or.inr (zbr_t.mpr q)⟩
          rw [j4] at this
          rw [e]
          omega
        · exact j5 k (by omega) ho
/-- both find the same -/
theorem ztbc_be {w : Bool} {ok ok' : Nat → Bool} {v v' : Nat → Int32} {x0 : Int32} (h1 : ∀ k, k < 24 → ok' k = ok k) (h2 : ∀ k, k < 24 → v' k = v k) (h3 : ok' 24 = true) (h4 : v' 24 = x0) : (ztbc w ok' v' 25).2 = ztbe w ok v x0 24 ∧ ∃ j : Nat, j ≤ 24 ∧ (ztbc w ok' v' 25).1 = (j : Int) ∧ (∀ k, k < j → ok k = true → v k ≠ ztbe w ok v x0 24) ∧ (j = 24 ∨ (ok j = true ∧ v j = ztbe w ok v x0 24)) := by
  obtain ⟨e1, e2, e3⟩ := ztbe_in w ok v x0 24
  rcases ztbc_in w ok' v' 25 with ⟨a, b⟩ | ⟨j, j1, j2, j3, j4, j5, j6⟩
  · rw [b 24 (by decide)] at h3
    cases h3
  · have le1 : zka w (v' j) ≤ zka w (ztbe w ok v x0 24) := by
      rcases e1 with q | ⟨k, k1, k2, k3⟩
      · rw [q, ← h4]
        exact j5 24 (by decide) h3
      · rw [k3, ← h2 k k1]
        exact j5 k (by omega) (by rw [h1 k k1]; exact k2)
    have le2 : zka w (ztbe w ok v x0 24) ≤ zka w (v' j) := by
      by_cases c : j = 24
      · rw [c, h4]
        exact e2
      · rw [h2 j (by omega)]
        exact e3 j (by omega) (by rw [← h1 j (by omega)]; exact j3)
    have e : v' j = ztbe w ok v x0 24 := zka_inj (w := w) (by omega)
    refine ⟨j4.trans e, j, by omega, j2, fun k hk ho q => ?_, ?_⟩
    · have := j6 k hk (by rw [h1 k (by omega)]; exact ho)
      rw [h2 k (by omega), q, e] at this
      omega
    · by_cases c : j = 24
      · exact Or.inl c
      · exact Or.inr ⟨by rw [← h1 j (by omega)]; exact j3, by rw [← h2 j (by omega)]; exact e⟩
/-! the turns -/
def zxk (L : Int32) (k : Nat) : Int32 := L ^^^ ((1 : Int32) <<< (Int32.ofNat k &&& 31))
def zga (s : zy_S) (L : Int32) (k : Nat) : Bool := zbt L (Int32.ofNat k) || !decide (s.1 1 4 ≤ zpc L)
/-- what it comes to, so many changes ahead -/
def zgv (s : zy_S) (P o q : Nat) : Nat → Bool → Int32 → Int32 → Int32
  | 0, _, L, K => zTw s P o q L K
  | n + 1, w, L, K => ztbe w (zga s L) (fun k => zgv s P o q n (!w) (zxk L k) (K &&& zxk L k)) (zgv s P o q n (!w) L (K &&& L)) 24
theorem zgv_s (s : zy_S) (P o q n : Nat) (w : Bool) (L K : Int32) : zgv s P o q (n + 1) w L K = ztbe w (zga s L) (fun k => zgv s P o q n (!w) (zxk L k) (K &&& zxk L k)) (zgv s P o q n (!w) L (K &&& L)) 24 := rfl
/-- a board and what is kept of it -/
def zBk (L K : Int32) : Prop := 0 ≤ L.toInt ∧ L.toInt ≤ 16777215 ∧ 0 ≤ K.toInt ∧ ∀ l, K.toInt.toNat.testBit l = true → L.toInt.toNat.testBit l = true
theorem zBk_and {L K L' : Int32} (h : zBk L K) (l0 : 0 ≤ L'.toInt) (l1 : L'.toInt ≤ 16777215) : zBk L' (K &&& L') := by
  obtain ⟨a0, ab⟩ := zmk_and2 h.2.2.1 l0
  refine ⟨l0, l1, a0, fun l hl => ?_⟩
  rw [ab] at hl
  cases q : L'.toInt.toNat.testBit l with
  | true => rfl
  | false =>
    rw [q, Bool.and_false] at hl
    cases hl
theorem zxk_t {L : Int32} (l0 : 0 ≤ L.toInt) {k : Nat} (hk : k < 24) (j : Nat) : (zxk L k).toInt.toNat.testBit j = (L.toInt.toNat.testBit j != decide (k = j)) := by
  obtain ⟨e0, e1⟩ := zmk_1 (x := Int32.ofNat k) (k := k) (zN_toInt (by omega)) (by omega)
  unfold zxk
  rw [(zmk_xor l0 e0).2, e1]
theorem zBk_x {L K : Int32} (h : zBk L K) {k : Nat} (hk : k < 24) : zBk (zxk L k) (K &&& zxk L k) := zBk_and h (zx0 h.1 hk) (zx_24 h.1 h.2.1 hk)
theorem zBk_0 {L K : Int32} (h : zBk L K) : zBk L (K &&& L) := zBk_and h h.1 h.2.1
/-- a step of the board: all but one MATTER stand -/
theorem zBk_gain {L K L' : Int32} (h : zBk L K) (l0 : 0 ≤ L'.toInt) {k : Nat} (hx : ∀ j, 4 * k ≤ j ∧ j < 4 * k + 4 ∨ L'.toInt.toNat.testBit j = L.toInt.toNat.testBit j) : ∀ m, m < 6 → m ≠ k → zvo L' (Int32.ofNat m) = zvo L (Int32.ofNat m) ∧ zvo (L' &&& (K &&& L')) (Int32.ofNat m) = zvo (L &&& K) (Int32.ofNat m) := fun m hm hne => by
  have q : ∀ j, j < 4 → L'.toInt.toNat.testBit (4 * m + j) = L.toInt.toNat.testBit (4 * m + j) := fun j hj => (hx (4 * m + j)).resolve_left (by omega)
  obtain ⟨a0, ab⟩ := zmk_and2 h.2.2.1 l0
  obtain ⟨b0, bb⟩ := zmk_and2 l0 a0
  obtain ⟨c0, cb⟩ := zmk_and2 h.1 h.2.2.1
  refine ⟨zvo_eq h.1 l0 hm q, zvo_eq c0 b0 hm (fun j hj => ?_)⟩
  rw [bb, ab, cb, q j hj]
  cases L.toInt.toNat.testBit (4 * m + j) <;> cases K.toInt.toNat.testBit (4 * m + j) <;> rfl
theorem zi24 : ∀ i, i < 25 → (Int32.ofNat i / (4 : Int32)) - (Int32.ofNat i / (4 : Int32)) / (6 : Int32) * (6 : Int32) = Int32.ofNat (i / 4 % 6) := by decide +kernel
theorem zpar0 {d : Nat} (hd : d < 4) (h : d % 2 = 0) : ¬ (Int32.ofNat d - Int32.ofNat d / (2 : Int32) * (2 : Int32) ≠ 0) := by
  rcases (by omega : d = 0 ∨ d = 2) with rfl | rfl <;> decide
theorem zpar1 {d : Nat} (hd : d < 4) (h : ¬ d % 2 = 0) : Int32.ofNat d - Int32.ofNat d / (2 : Int32) * (2 : Int32) ≠ 0 := by
  rcases (by omega : d = 1 ∨ d = 3) with rfl | rfl <;> decide
theorem zbt15 : zto 15 3 = false ∧ zto 15 2 = false ∧ zrg 15 3 = (-1, 24) ∧ zrg 15 2 = (0, 3) := by decide +kernel
section ZBT
variable {s u t : zy_S} {P : Nat}
/-- the class at its turns -/
def zTt (s : zy_S) (P o q T : Nat) (t : zy_S) : Prop := zTh s P (zbo o) (zbo q) t ∧ t.1 15 2 = Int32.ofNat T
theorem zl_105 (hP : zPe s P) (hL : zLw (s.1 5 3) (s.1 43 11) (s.1 6) (s.1 49)) {o q T n : Nat} (hT : T ≤ 3) (hn : n < T) {L K W : Int32} (hB : zBk L K) (w : Bool) (hW : W = zTw s P o q L K) (g : Int32 → Int32 → Int32 → Int32 → zy_S → Option (Int32 × zy_S))
    (hg : ∀ (L K W : Int32) (t : zy_S), zBk L K → W = zTw s P o q L K → zTt s P o q T t → ∃ t', g (Int32.ofNat n) L K W t = some (zgv s P o q n (!w) L K, t') ∧ zTt s P o q T t')
    (v : Nat → Int32) (hv : ∀ k, k < 24 → v k = zgv s P o q n (!w) (zxk L k) (K &&& zxk L k)) (hv4 : v 24 = zgv s P o q n (!w) L (K &&& L)) (ok : Nat → Bool) (hok : ∀ k, k < 24 → ok k = zga s L k) (hok4 : ok 24 = true) :
    ∀ (f i : Nat) (x7 x8 : Int32) (t : zy_S), i ≤ 25 → 25 - i < f → zTt s P o q T t → x7.toInt = (ztbc w ok v i).1 → x8 = (ztbc w ok v i).2 → ∃ t', zyF105_55 g f (Int32.ofNat (n + 1)) L K W (zqb w) (zqb (!decide (s.1 1 4 ≤ zpc L))) x7 x8 (Int32.ofNat i) t = some ((ztbc w ok v 25).2, t') ∧ zTt s P o q T t' ∧ (n + 1 = T → (t'.1 15 3).toInt = (ztbc w ok v 25).1)
  | 0, i, x7, x8, t, hi, hf, h, h7, h8 => by omega
  | f + 1, i, x7, x8, t, hi, hf, h, h7, h8 => by
    have ei : (Int32.ofNat i).toInt = (i : Int) := zN_toInt (by omega)
    have l24 : (24 : Int32).toInt = 24 := rfl
    show ∃ t', zyF105_55b g (zyF105_55 g f) (Int32.ofNat (n + 1)) L K W (zqb w) (zqb (!decide (s.1 1 4 ≤ zpc L))) x7 x8 (Int32.ofNat i) t = _ ∧ _
    unfold zyF105_55b
    by_cases h25 : i = 25
    · rw [if_pos (show (24 : Int32) < Int32.ofNat i by rw [Int32.lt_iff_toInt_lt, ei, l24]; omega), h.2]
      rw [h25] at h7 h8
      have hx7 : -1 ≤ x7.toInt ∧ x7.toInt ≤ 24 := by
        rcases ztbc_in w ok v 25 with ⟨a, -⟩ | ⟨j, j1, j2, -⟩ <;> omega
      by_cases c : n + 1 = T
      · rw [if_neg (show ¬ Int32.ofNat (n + 1) ≠ Int32.ofNat T by rw [c]; exact not_not_intro rfl), h8]
        refine ⟨_, rfl, ⟨?_, ?_⟩, fun _ => ?_⟩
        · obtain ⟨a1, a2, a3, a4, a5⟩ := h.1
          refine ⟨zUn_up a1 zbt15.1, zRg_up a2 (fun _ => by rw [zbt15.2.2.1]; exact hx7), ?_, ?_, fun m x y hm hx hy => ?_⟩
          · rw [zf_up (by decide)]
            exact a3
          · rw [zf_up (by decide)]
            exact a4
          · rw [zf_up (by decide)]
            exact a5 m x y hm hx hy
        · rw [zf_upk (by decide)]
          exact h.2
        · rw [zf_upe]
          exact h7
      · rw [if_pos (show Int32.ofNat (n + 1) ≠ Int32.ofNat T from fun e => c (zN_inj (by omega) (by omega) e)), h8]
        exact ⟨t, rfl, h, fun e => absurd e c⟩
    have h24 : i < 25 := by omega
    have b1 : i + 1 ≤ 25 := by omega
    have b2 : 25 - (i + 1) < f := by omega
    rw [if_neg (show ¬ (24 : Int32) < Int32.ofNat i by rw [Int32.lt_iff_toInt_lt, ei, l24]; omega)]
    -- a change that may be made
    have go : ∀ (L' : Int32), ok i = true → 0 ≤ L'.toInt → L'.toInt ≤ 16777215 → (∀ j, 4 * (i / 4 % 6) ≤ j ∧ j < 4 * (i / 4 % 6) + 4 ∨ L'.toInt.toNat.testBit j = L.toInt.toNat.testBit j) → v i = zgv s P o q n (!w) L' (K &&& L') → ∃ t', zyF105_101 g (zyF105_55 g f) (Int32.ofNat (n + 1)) L K W (zqb w) (zqb (!decide (s.1 1 4 ≤ zpc L))) x7 x8 (Int32.ofNat i) L' t = some ((ztbc w ok v 25).2, t') ∧ zTt s P o q T t' ∧ (n + 1 = T → (t'.1 15 3).toInt = (ztbc w ok v 25).1) := fun L' hoi l0 l1 hx hvi => by
      have hk6 : i / 4 % 6 < 6 := Nat.mod_lt _ (by decide)
      obtain ⟨a0, -⟩ := zmk_and2 hB.2.2.1 l0
      obtain ⟨b0, -⟩ := zmk_and2 l0 a0
      obtain ⟨c0, -⟩ := zmk_and2 hB.1 hB.2.2.1
      obtain ⟨t1, f1, g1, k1, -⟩ := zys55f hP hL h.1 hk6 (L := L') (K := K &&& L') l0 b0
      obtain ⟨t2, f2, g2, k2, -⟩ := zys55f hP hL g1 hk6 (L := L) (K := K) hB.1 c0
      have h2 : zTt s P o q T t2 := ⟨g2, by rw [k2, k1]; exact h.2⟩
      have e1 : Int32.ofNat (n + 1) - (1 : Int32) = Int32.ofNat n := zN_sub' (a := n + 1) (b := 1) (by omega) (by omega)
      obtain ⟨G, hG⟩ : ∃ G, G = zKv s P (zbo o) (zbo q) (i / 4 % 6) (zvo L' (Int32.ofNat (i / 4 % 6))) (zvo (L' &&& (K &&& L')) (Int32.ofNat (i / 4 % 6))) - zKv s P (zbo o) (zbo q) (i / 4 % 6) (zvo L (Int32.ofNat (i / 4 % 6))) (zvo (L &&& K) (Int32.ofNat (i / 4 % 6))) := ⟨_, rfl⟩
      have hWG : W + G = zTw s P o q L' (K &&& L') := by
        rw [hW, hG]
        exact (zIn_gain hk6 (zBk_gain hB l0 hx)).symm
      obtain ⟨t3, f3, h3⟩ := hg L' (K &&& L') (W + G) t2 (zBk_and hB l0 l1) hWG h2
      rw [hG] at f3
      unfold zyF105_101 zyF105_189 zyF105_197
      rw [zi24 i h24, f1, zq_bind]
      dsimp only
      rw [f2, zq_bind]
      dsimp only
      rw [e1, f3, zq_bind, zN_succ (by omega)]
      dsimp only
      rw [← hvi]
      have take : (ztbc w ok v i).1 = -1 ∨ zbr w (v i) (ztbc w ok v i).2 = true → ∃ t', zyF105_55 g f (Int32.ofNat (n + 1)) L K W (zqb w) (zqb (!decide (s.1 1 4 ≤ zpc L))) (Int32.ofNat i) (v i) (Int32.ofNat (i + 1)) t3 = some ((ztbc w ok v 25).2, t') ∧ zTt s P o q T t' ∧ (n + 1 = T → (t'.1 15 3).toInt = (ztbc w ok v 25).1) := fun c => by
        have e : ztbc w ok v (i + 1) = ((i : Int), v i) := by rw [ztbc_s, if_pos ⟨hoi, c⟩]
        exact zl_105 hP hL hT hn hB w hW g hg v hv hv4 ok hok hok4 f (i + 1) _ _ t3 b1 b2 h3 (by rw [e]; exact ei) (by rw [e])
      have keep : ¬ ((ztbc w ok v i).1 = -1 ∨ zbr w (v i) (ztbc w ok v i).2 = true) → ∃ t', zyF105_55 g f (Int32.ofNat (n + 1)) L K W (zqb w) (zqb (!decide (s.1 1 4 ≤ zpc L))) x7 x8 (Int32.ofNat (i + 1)) t3 = some ((ztbc w ok v 25).2, t') ∧ zTt s P o q T t' ∧ (n + 1 = T → (t'.1 15 3).toInt = (ztbc w ok v 25).1) := fun c => by
        have e : ztbc w ok v (i + 1) = ztbc w ok v i := by rw [ztbc_s, if_neg (fun z => c z.2)]
        exact zl_105 hP hL hT hn hB w hW g hg v hv hv4 ok hok hok4 f (i + 1) _ _ t3 b1 b2 h3 (by rw [e]; exact h7) (by rw [e]; exact h8)
      by_cases c7 : x7 = -1
      · rw [if_pos c7]
        exact take (Or.inl (by rw [← h7, c7]; rfl))
      · have n7 : ¬ (ztbc w ok v i).1 = -1 := fun z => c7 (zq_ext (by rw [h7, z]; rfl))
        rw [if_neg c7]
        cases hw : w with
        | false =>
          rw [hw] at take keep n7
          rw [if_pos (show zqb false = 0 from rfl)]
          by_cases c : v i ≤ x8
          · rw [if_pos c]
            refine keep (fun z => z.elim n7 (fun z => ?_))
            unfold zbr at z
            rw [hw] at h8
            rw [if_neg (by decide), ← h8, decide_eq_true c] at z
            cases z
          · rw [if_neg c]
            refine take (Or.inr ?_)
            unfold zbr
            rw [hw] at h8
            rw [if_neg (by decide), ← h8, decide_eq_false c]
            rfl
        | true =>
          rw [hw] at take keep n7
          rw [if_neg (show ¬ zqb true = 0 by decide)]
          by_cases c : x8 ≤ v i
          · rw [if_pos c]
            refine keep (fun z => z.elim n7 (fun z => ?_))
            unfold zbr at z
            rw [hw] at h8
            rw [if_pos rfl, ← h8, decide_eq_true c] at z
            cases z
          · rw [if_neg c]
            refine take (Or.inr ?_)
            unfold zbr
            rw [hw] at h8
            rw [if_pos rfl, ← h8, decide_eq_false c]
            rfl
    by_cases c24 : i = 24
    · rw [if_pos (show Int32.ofNat i = (24 : Int32) by rw [c24]; rfl)]
      unfold zyF105_84
      rw [if_neg (show ¬ Int32.ofNat i ≠ (24 : Int32) from not_not_intro (by rw [c24]; rfl))]
      exact go L (by rw [c24]; exact hok4) hB.1 hB.2.1 (fun j => Or.inr rfl) (by rw [c24]; exact hv4)
    · have n24 : ¬ Int32.ofNat i = (24 : Int32) := fun z => c24 (zN_inj (a := i) (b := 24) (by omega) (by omega) z)
      have hi24 : i < 24 := by omega
      rw [if_neg n24]
      have go2 : ok i = true → ∃ t', zyF105_84 g (zyF105_55 g f) (Int32.ofNat (n + 1)) L K W (zqb w) (zqb (!decide (s.1 1 4 ≤ zpc L))) x7 x8 (Int32.ofNat i) t = some ((ztbc w ok v 25).2, t') ∧ zTt s P o q T t' ∧ (n + 1 = T → (t'.1 15 3).toInt = (ztbc w ok v 25).1) := fun hoi => by
        unfold zyF105_84
        rw [if_pos n24]
        refine go (zxk L i) hoi (zx0 hB.1 hi24) (zx_24 hB.1 hB.2.1 hi24) (fun j => ?_) (hv i hi24)
        rw [zxk_t hB.1 hi24]
        by_cases e : i = j
        · exact Or.inl (by omega)
        · rw [decide_eq_false e, Bool.bne_false]
          exact Or.inr rfl
      obtain ⟨b, f32, hb⟩ := zys32 L (Int32.ofNat i) t
      by_cases r : s.1 1 4 ≤ zpc L
      · rw [decide_eq_true r, if_neg (show ¬ zqb (!true) ≠ 0 from not_not_intro rfl), f32, zq_bind]
        rw [decide_eq_true r] at go2
        dsimp only
        by_cases c : b = 1
        · rw [if_neg (not_not_intro c)]
          refine go2 ?_
          rw [hok i hi24]
          unfold zga
          rw [hb.mp c]
          rfl
        · rw [if_pos c]
          have hno : ok i = false := by
            rw [hok i hi24]
            unfold zga
            rw [decide_eq_true r]
            cases z : zbt L (Int32.ofNat i) with
            | true => exact absurd (hb.mpr z) c
            | false => rfl
          have e : ztbc w ok v (i + 1) = ztbc w ok v i := by rw [ztbc_s, if_neg (fun z => by rw [hno] at z; cases z.1)]
          unfold zyF105_197
          rw [zN_succ (by omega)]
          have ih := zl_105 hP hL hT hn hB w hW g hg v hv hv4 ok hok hok4 f (i + 1) x7 x8 t b1 b2 h (by rw [e]; exact h7) (by rw [e]; exact h8)
          rw [decide_eq_true r] at ih
          exact ih
      · rw [decide_eq_false r, if_pos (show zqb (!false) ≠ 0 by decide)]
        rw [decide_eq_false r] at go2
        refine go2 ?_
        rw [hok i hi24]
        unfold zga
        rw [decide_eq_false r]
        exact Bool.or_true _
theorem zys105 (hP : zPe s P) (hL : zLw (s.1 5 3) (s.1 43 11) (s.1 6) (s.1 49)) {o q T : Nat} (hT : T ≤ 3) : ∀ (n f : Nat) (w : Bool) (L K W : Int32) (t : zy_S), n ≤ T → n < f → w = decide ((T - n) % 2 = 0) → zBk L K → W = zTw s P o q L K → zTt s P o q T t → ∃ t', zyG105 f (Int32.ofNat n) L K W t = some (zgv s P o q n w L K, t') ∧ zTt s P o q T t' ∧ (n = T → 1 ≤ n → ∃ j, j ≤ 24 ∧ t'.1 15 3 = Int32.ofNat j ∧ (∀ k, k < j → zga s L k = true → zgv s P o q (n - 1) (!w) (zxk L k) (K &&& zxk L k) ≠ zgv s P o q n w L K) ∧ (j = 24 ∨ (zga s L j = true ∧ zgv s P o q (n - 1) (!w) (zxk L j) (K &&& zxk L j) = zgv s P o q n w L K)))
  | n, 0, w, L, K, W, t, hn, hf, hw, hB, hW, h => by omega
  | 0, f + 1, w, L, K, W, t, hn, hf, hw, hB, hW, h => by
    refine ⟨t, ?_, h, fun _ c => by omega⟩
    rw [zyS105]
    unfold zyF105_0
    rw [if_neg (show ¬ (0 : Int32) < Int32.ofNat 0 by decide), hW]
    rfl
  | n + 1, f + 1, w, L, K, W, t, hn, hf, hw, hB, hW, h => by
    have e14 : t.1 1 4 = s.1 1 4 := h.1.1.2 1 4 zto_14.2.1
    have hg : ∀ (L K W : Int32) (t : zy_S), zBk L K → W = zTw s P o q L K → zTt s P o q T t → ∃ t', zyG105 f (Int32.ofNat n) L K W t = some (zgv s P o q n (!w) L K, t') ∧ zTt s P o q T t' := fun L K W t a b c => by
      obtain ⟨t', g1, g2, -⟩ := zys105 hP hL hT n f (!w) L K W t (by omega) (by omega) (by
        rw [hw, ← decide_not]
        exact decide_eq_decide.mpr (by omega)) a b c
      exact ⟨t', g1, g2⟩
    obtain ⟨v, hv⟩ : ∃ v : Nat → Int32, v = fun k => if k = 24 then zgv s P o q n (!w) L (K &&& L) else zgv s P o q n (!w) (zxk L k) (K &&& zxk L k) := ⟨_, rfl⟩
    obtain ⟨ok, hok⟩ : ∃ ok : Nat → Bool, ok = fun k => if k = 24 then true else zga s L k := ⟨_, rfl⟩
    have v1 : ∀ k, k < 24 → v k = zgv s P o q n (!w) (zxk L k) (K &&& zxk L k) := fun k hk => by
      rw [hv]
      exact if_neg (by omega)
    have v2 : v 24 = zgv s P o q n (!w) L (K &&& L) := by
      rw [hv]
      exact if_pos rfl
    have o1 : ∀ k, k < 24 → ok k = zga s L k := fun k hk => by
      rw [hok]
      exact if_neg (by omega)
    have o2 : ok 24 = true := by
      rw [hok]
      exact if_pos rfl
    obtain ⟨q1, j, j1, j2, j3, j4⟩ := ztbc_be (w := w) (ok := zga s L) (ok' := ok) (v := fun k => zgv s P o q n (!w) (zxk L k) (K &&& zxk L k)) (v' := v) (x0 := zgv s P o q n (!w) L (K &&& L)) o1 v1 o2 v2
    obtain ⟨t', f1, g1, b1⟩ := zl_105 hP hL hT (show n < T by omega) hB w hW (zyG105 f) hg v v1 v2 ok o1 o2 zy_fu 0 (-1) 0 t (by omega) (by unfold zy_fu; omega) h rfl rfl
    refine ⟨t', ?_, g1, fun e _ => ⟨j, j1, zq_ext (by rw [b1 e, j2, zN_toInt (by omega)]), j3, j4⟩⟩
    have fin : zyF105_44 (zyG105 f) (Int32.ofNat (n + 1)) L K W (zqb w) (zqb (!decide (s.1 1 4 ≤ zpc L))) t = some (zgv s P o q (n + 1) w L K, t') := by
      unfold zyF105_44
      rw [show (0 : Int32) = Int32.ofNat 0 from rfl] at f1 ⊢
      rw [f1, q1]
      rfl
    have f23 : zyF105_23 (zyG105 f) (Int32.ofNat (n + 1)) L K W (zqb w) t = some (zgv s P o q (n + 1) w L K, t') := by
      unfold zyF105_23
      rw [zys63 t hB.1 hB.2.1, zq_bind]
      dsimp only
      rw [e14]
      by_cases r : s.1 1 4 ≤ zpc L
      · rw [decide_eq_true r] at fin
        rw [if_pos r]
        exact fin
      · rw [decide_eq_false r] at fin
        rw [if_neg r]
        exact fin
    rw [zyS105]
    unfold zyF105_0
    rw [if_pos (show (0 : Int32) < Int32.ofNat (n + 1) by rw [Int32.lt_iff_toInt_lt, zN_toInt (by omega), zq_l0]; omega), h.2, zN_sub' (show n + 1 ≤ T by omega) (by omega)]
    by_cases c : (T - (n + 1)) % 2 = 0
    · rw [if_neg (zpar0 (by omega) c)]
      rw [hw, decide_eq_true c] at f23 ⊢
      exact f23
    · rw [if_pos (zpar1 (by omega) c)]
      rw [hw, decide_eq_false c] at f23 ⊢
      exact f23
/-! the model -/
/-- how WORN the model has a board -/
def zRw (s : zy_S) (L K : Int32) (w : Nat → Int32) : Prop := ∀ l, l < 24 → zbt L (Int32.ofNat l) = true → w l = if zbt K (Int32.ofNat l) = true then s.1 2 l else 0
theorem zRw_0 {L K : Int32} {w : Nat → Int32} (hB : zBk L K) (h : zRw s L K w) : zRw s L (K &&& L) w := fun l hl hb => by
  obtain ⟨a0, ab⟩ := zmk_and2 hB.2.2.1 hB.1
  have el : (Int32.ofNat l).toInt = (l : Int) := zN_toInt (by omega)
  rw [h l hl hb, zmk_t a0 el (by omega), ab, ← zmk_t hB.2.2.1 el (by omega), ← zmk_t hB.1 el (by omega), hb, Bool.and_true]
theorem zRw_x {L K : Int32} {w w' : Nat → Int32} (hB : zBk L K) (h : zRw s L K w) {k : Nat} (hk : k < 24) (h1 : zbt L (Int32.ofNat k) = false → w' k = 0) (h2 : ∀ l, l ≠ k → w' l = w l) : zRw s (zxk L k) (K &&& zxk L k) w' := fun l hl hb => by
  have x0 : 0 ≤ (zxk L k).toInt := zx0 hB.1 hk
  obtain ⟨a0, ab⟩ := zmk_and2 hB.2.2.1 x0
  have el : (Int32.ofNat l).toInt = (l : Int) := zN_toInt (by omega)
  have eb : zbt (K &&& zxk L k) (Int32.ofNat l) = zbt K (Int32.ofNat l) := by
    rw [zmk_t a0 el (by omega), ab, ← zmk_t hB.2.2.1 el (by omega), ← zmk_t x0 el (by omega), hb, Bool.and_true]
  rw [eb]
  have hb2 : (zbt L (Int32.ofNat l) != decide (k = l)) = true := by
    rw [← hb]
    exact (zbt_x hB.1 hk hl).symm
  by_cases e : l = k
  · subst e
    have hf : zbt L (Int32.ofNat l) = false := by
      rw [decide_eq_true rfl] at hb2
      cases z : zbt L (Int32.ofNat l) with
      | false => rfl
      | true =>
        rw [z] at hb2
        cases hb2
    have hkf : zbt K (Int32.ofNat l) = false := by
      cases z : zbt K (Int32.ofNat l) with
      | false => rfl
      | true =>
        rw [zmk_t hB.2.2.1 el (by omega)] at z
        have := hB.2.2.2 l z
        rw [← zmk_t hB.1 el (by omega), hf] at this
        cases this
    rw [h1 hf, hkf]
    rfl
  · have ht : zbt L (Int32.ofNat l) = true := by
      rw [decide_eq_false (fun z => e z.symm)] at hb2
      cases z : zbt L (Int32.ofNat l) with
      | true => rfl
      | false =>
        rw [z] at hb2
        cases hb2
    rw [h2 l e, h l hl ht]
/-- the model at its turns: as it was -/
def zMt (s u t : zy_S) : Prop := zUn s t ∧ zRg t ∧ ∀ l, t.1 51 l = u.1 51 l
theorem zv_227 {n : Nat} {w : Bool} {L K : Int32} {o q : Nat} (hB : zBk L K) {k : Nat} (hk : k < 24) (g : zy_S → Option (Int32 × zy_S))
    (hg : ∀ (u : zy_S), zUn s u → zRg u → zRw s (zxk L k) (K &&& zxk L k) (u.1 51) → ∃ t', g u = some (zgv s P o q n w (zxk L k) (K &&& zxk L k), t') ∧ zMt s u t')
    (hs : zUn s t) (hr : zRg t) (hw : zRw s L K (t.1 51)) : ∃ t', g (zy_up t 51 k (if zbt L (Int32.ofNat k) = true then t.1 51 k else 0)) = some (zgv s P o q n w (zxk L k) (K &&& zxk L k), t') ∧ zMt s t (zy_up t' 51 k (t.1 51 k)) := by
  obtain ⟨-, -, -, r51⟩ := zmk_rg
  have fu : ∀ x : Int32, zin x (zrg 51 k).1 (zrg 51 k).2 := fun x => by
    rw [r51 k hk]
    exact zin_full x
  obtain ⟨t', f1, g1, g2, g3⟩ := hg (zy_up t 51 k (if zbt L (Int32.ofNat k) = true then t.1 51 k else 0)) (zUn_up hs rfl) (zRg_up hr (fun _ => fu _)) (zRw_x hB hw hk (fun c => by rw [zf_upe, if_neg (by rw [c]; decide)]) (fun l hl => zf_upk hl))
  refine ⟨t', f1, zUn_up g1 rfl, zRg_up g2 (fun _ => fu _), fun l => ?_⟩
  by_cases e : l = k
  · rw [e, zf_upe]
  · rw [zf_upk e, g3, zf_upk e]
theorem zys219t {L : Int32} (hs : zUn s t) (e40 : s.1 44 40 = s.1 1 4) (l0 : 0 ≤ L.toInt) (l1 : L.toInt ≤ 16777215) : zyF219 L t = some (zqb (!decide (s.1 1 4 ≤ zpc L)), t) := by
  unfold zyF219
  rw [zys209 t l0 l1, zq_bind, (hs.2 44 40 rfl).trans e40]
  by_cases q : s.1 1 4 ≤ zpc L
  · rw [if_pos q, decide_eq_true q]
    rfl
  · rw [if_neg q, decide_eq_false q]
    rfl
theorem zl_227 (e40 : s.1 44 40 = s.1 1 4) {o q i T n : Nat} (hT : T ≤ 3) (hi : i < T) {L K : Int32} (hB : zBk L K) (w : Bool) (hw : w = decide (i % 2 = 0)) (g : Int32 → Int32 → Int32 → Int32 → Int32 → zy_S → Option (Int32 × zy_S)) (x0 : Int32)
    (hg : ∀ (k : Nat) (u : zy_S), k < 24 → zUn s u → zRg u → zRw s (zxk L k) (K &&& zxk L k) (u.1 51) → ∃ t', g (Int32.ofNat o) (Int32.ofNat q) (Int32.ofNat (i + 1)) (Int32.ofNat T) (zxk L k) u = some (zgv s P o q n (!w) (zxk L k) (K &&& zxk L k), t') ∧ zMt s u t') :
    ∀ (f k : Nat) (x6 : Int32) (t : zy_S), k ≤ 24 → 24 - k < f → zUn s t → zRg t → zRw s L K (t.1 51) → x6 = ztbe w (zga s L) (fun k => zgv s P o q n (!w) (zxk L k) (K &&& zxk L k)) x0 k → ∃ t', zyF227_40 g f (Int32.ofNat o) (Int32.ofNat q) (Int32.ofNat i) (Int32.ofNat T) L x6 (Int32.ofNat k) t = some (ztbe w (zga s L) (fun k => zgv s P o q n (!w) (zxk L k) (K &&& zxk L k)) x0 24, t') ∧ zMt s t t'
  | 0, k, x6, t, hk, hf, hs, hr, hw, h6 => by omega
  | f + 1, k, x6, t, hk, hf, hs, hr, hR, h6 => by
    obtain ⟨V, hV⟩ : ∃ V : Nat → Int32, V = fun k => zgv s P o q n (!w) (zxk L k) (K &&& zxk L k) := ⟨_, rfl⟩
    have hVk : ∀ k, zgv s P o q n (!w) (zxk L k) (K &&& zxk L k) = V k := fun k => by rw [hV]
    have ih := zl_227 (n := n) e40 hT hi hB w hw g x0 hg f (k + 1)
    rw [← hV] at h6 ih ⊢
    have ek : (Int32.ofNat k).toInt = (k : Int) := zN_toInt (by omega)
    show ∃ t', zyF227_40b g (zyF227_40 g f) (Int32.ofNat o) (Int32.ofNat q) (Int32.ofNat i) (Int32.ofNat T) L x6 (Int32.ofNat k) t = _ ∧ _
    unfold zyF227_40b
    by_cases h24 : k = 24
    · rw [if_pos (show (24 : Int32) ≤ Int32.ofNat k by rw [Int32.le_iff_toInt_le, ek, zq_l24]; omega), h6, h24]
      exact ⟨t, rfl, hs, hr, fun _ => rfl⟩
    have hk24 : k < 24 := by omega
    have hin : zy_in (Int32.ofNat k) 24 = true := zq_in.mpr (by rw [ek]; omega)
    rw [if_neg (show ¬ (24 : Int32) ≤ Int32.ofNat k by rw [Int32.le_iff_toInt_le, ek, zq_l24]; omega), zys208, zq_bind]
    dsimp only
    have yes : zga s L k = true → ∃ t', zyF227_66 g (zyF227_40 g f) (Int32.ofNat o) (Int32.ofNat q) (Int32.ofNat i) (Int32.ofNat T) L x6 (Int32.ofNat k) t = some (ztbe w (zga s L) V x0 24, t') ∧ zMt s t t' := fun hm => by
      obtain ⟨t1, f1, g1⟩ := zv_227 (t := t) hB hk24 (fun u => g (Int32.ofNat o) (Int32.ofNat q) (Int32.ofNat (i + 1)) (Int32.ofNat T) (zxk L k) u) (fun u a b c => hg k u hk24 a b c) hs hr hR
      rw [hVk] at f1
      have hR1 : zRw s L K ((zy_up t1 51 k (t.1 51 k)).1 51) := fun l hl hb => by
        rw [g1.2.2 l]
        exact hR l hl hb
      have next : ∀ x : Int32, x = ztbe w (zga s L) V x0 (k + 1) → ∃ t', zyF227_40 g f (Int32.ofNat o) (Int32.ofNat q) (Int32.ofNat i) (Int32.ofNat T) L x (Int32.ofNat (k + 1)) (zy_up t1 51 k (t.1 51 k)) = some (ztbe w (zga s L) V x0 24, t') ∧ zMt s t t' := fun x hx => by
        obtain ⟨t', f2, g2⟩ := ih x _ (by omega) (by omega) g1.1 g1.2.1 hR1 hx
        exact ⟨t', f2, g2.1, g2.2.1, fun l => (g2.2.2 l).trans (g1.2.2 l)⟩
      have body : ∀ y : Int32, y = (if zbt L (Int32.ofNat k) = true then t.1 51 k else 0) → ∃ t', zyF227_97 g (zyF227_40 g f) (Int32.ofNat o) (Int32.ofNat q) (Int32.ofNat i) (Int32.ofNat T) L x6 (Int32.ofNat k) (t.1 51 k) y (Int32.ofNat k) t = some (ztbe w (zga s L) V x0 24, t') ∧ zMt s t t' := fun y hy => by
        have f1' : g (Int32.ofNat o) (Int32.ofNat q) (Int32.ofNat (i + 1)) (Int32.ofNat T) (L ^^^ ((1 : Int32) <<< (Int32.ofNat k &&& 31))) (zy_up t 51 k y) = some (V k, t1) := by
          rw [hy]
          exact f1
        unfold zyF227_97 zyF227_164 zyF227_166
        rw [if_pos hin, zN_ix (by omega), zN_succ (by omega), f1', zq_bind, if_pos hin, zN_succ (by omega)]
        dsimp only
        have i4 : i < 4 := by omega
        have step := ztbe_s w (zga s L) V x0 k
        by_cases c : i % 2 = 0
        · rw [decide_eq_true c] at hw
          rw [if_neg (zpar0 i4 c)]
          by_cases d : x6 ≤ V k
          · rw [if_pos d]
            refine next x6 ?_
            rw [step, if_neg, h6]
            intro z
            have z := z.2
            unfold zbr at z
            rw [← h6, hw, if_pos rfl, decide_eq_true d] at z
            cases z
          · rw [if_neg d]
            refine next (V k) ?_
            rw [step, if_pos]
            refine ⟨hm, ?_⟩
            unfold zbr
            rw [← h6, hw, if_pos rfl, decide_eq_false d]
            rfl
        · rw [decide_eq_false c] at hw
          rw [if_pos (zpar1 i4 c)]
          by_cases d : V k ≤ x6
          · rw [if_pos d]
            refine next x6 ?_
            rw [step, if_neg, h6]
            intro z
            have z := z.2
            unfold zbr at z
            rw [← h6, hw, if_neg (by decide), decide_eq_true d] at z
            cases z
          · rw [if_neg d]
            refine next (V k) ?_
            rw [step, if_pos]
            refine ⟨hm, ?_⟩
            unfold zbr
            rw [← h6, hw, if_neg (by decide), decide_eq_false d]
            rfl
      unfold zyF227_66
      rw [if_pos hin, zys208, zq_bind, zN_ix (by omega)]
      dsimp only
      cases hb : zbt L (Int32.ofNat k) with
      | true =>
        rw [if_neg (show ¬ zqb true = 0 by decide)]
        exact body _ (by rw [hb, if_pos rfl])
      | false =>
        rw [if_pos (show zqb false = 0 from rfl)]
        exact body _ (by rw [hb, if_neg (by decide)])
    cases hb : zbt L (Int32.ofNat k) with
    | true =>
      rw [if_pos (show zqb true ≠ 0 by decide)]
      exact yes (by unfold zga; rw [hb]; rfl)
    | false =>
      rw [if_neg (show ¬ zqb false ≠ 0 by decide), zys219t hs e40 hB.1 hB.2.1, zq_bind]
      dsimp only
      by_cases r : s.1 1 4 ≤ zpc L
      · rw [decide_eq_true r, if_pos (show zqb (!true) = 0 from rfl)]
        unfold zyF227_166
        rw [zN_succ (by omega)]
        have no : zga s L k = false := by
          unfold zga
          rw [hb, decide_eq_true r]
          rfl
        refine ih x6 t (by omega) (by omega) hs hr hR ?_
        rw [ztbe_s, if_neg (fun z => by rw [no] at z; cases z.1)]
        exact h6
      · rw [decide_eq_false r, if_neg (show ¬ zqb (!false) = 0 by decide)]
        exact yes (by unfold zga; rw [hb, decide_eq_false r]; rfl)
theorem zys227 (hP : zPe s P) (hL : zLw (s.1 5 3) (s.1 43 11) (s.1 6) (s.1 49)) (e40 : s.1 44 40 = s.1 1 4) {o q T : Nat} (ho : o < P) (hq : q < P) (hT : T ≤ 3) : ∀ (n f i : Nat) (L K : Int32) (t : zy_S), i + n = T → n < f → zBk L K → zUn s t → zRg t → zRw s L K (t.1 51) → ∃ t', zyG227 f (Int32.ofNat o) (Int32.ofNat q) (Int32.ofNat i) (Int32.ofNat T) L t = some (zgv s P o q n (decide (i % 2 = 0)) L K, t') ∧ zMt s t t'
  | n, 0, i, L, K, t, hi, hf, hB, hs, hr, hR => by omega
  | 0, f + 1, i, L, K, t, hi, hf, hB, hs, hr, hR => by
    obtain ⟨t1, f1, g1⟩ := zys213 hP hL (zMk_refl hs hr) ho hB.1
    obtain ⟨t2, f2, g2⟩ := zys213 hP hL g1 hq hB.1
    refine ⟨t2, ?_, g2.1, g2.2.1, fun l => g2.2.2 51 l (by decide) (by decide)⟩
    rw [zyS227]
    unfold zyF227_0
    rw [if_neg (show ¬ Int32.ofNat i ≠ Int32.ofNat T from not_not_intro (by rw [show i = T by omega])), f1, zq_bind]
    dsimp only
    rw [f2, zq_bind]
    dsimp only
    have e : zgv s P o q 0 (decide (i % 2 = 0)) L K = zOw s o L (t.1 51) - zOw s q L (t.1 51) := zIn_two hP ho hq hB.1 hB.2.2.1 hR
    rw [e]
    rfl
  | n + 1, f + 1, i, L, K, t, hi, hf, hB, hs, hr, hR => by
    have hpar : decide ((i + 1) % 2 = 0) = !decide (i % 2 = 0) := by
      rw [← decide_not]
      exact decide_eq_decide.mpr (by omega)
    have IH := fun L K t => zys227 hP hL e40 ho hq hT n f (i + 1) L K t (by omega) (by omega)
    rw [hpar] at IH
    obtain ⟨t1, f1, g1⟩ := IH L (K &&& L) t (zBk_0 hB) hs hr (zRw_0 hB hR)
    obtain ⟨t2, f2, g2⟩ := zl_227 (P := P) (n := n) e40 hT (show i < T by omega) hB (decide (i % 2 = 0)) rfl (zyG227 f) (zgv s P o q n (!decide (i % 2 = 0)) L (K &&& L)) (fun k u hk a b c => IH _ _ u (zBk_x hB hk) a b c) zy_fu 0 _ t1 (by omega) (by unfold zy_fu; omega) g1.1 g1.2.1 (fun l hl hb => by rw [g1.2.2 l]; exact hR l hl hb) rfl
    refine ⟨t2, ?_, g2.1, g2.2.1, fun l => (g2.2.2 l).trans (g1.2.2 l)⟩
    rw [zyS227]
    unfold zyF227_0
    rw [if_pos (show Int32.ofNat i ≠ Int32.ofNat T from fun z => by
      have := zN_inj (by omega) (by omega) z
      omega), zN_succ (by omega), f1, zq_bind]
    dsimp only
    exact f2
theorem zl_226 (hP : zPe s P) (hL : zLw (s.1 5 3) (s.1 43 11) (s.1 6) (s.1 49)) (e40 : s.1 44 40 = s.1 1 4) (e7 : s.1 43 7 = s.1 1 3) {o q n : Nat} (ho : o < P) (hq : q < P) (hT : n + 1 ≤ 3) (hB : zBk (s.1 1 3) (s.1 1 3)) {B : Int32} {j : Nat} (j1 : j ≤ 24) (j3 : ∀ k, k < j → zga s (s.1 1 3) k = true → zgv s P o q n false (zxk (s.1 1 3) k) (s.1 1 3 &&& zxk (s.1 1 3) k) ≠ B) (j4 : j = 24 ∨ (zga s (s.1 1 3) j = true ∧ zgv s P o q n false (zxk (s.1 1 3) j) (s.1 1 3 &&& zxk (s.1 1 3) j) = B)) :
    ∀ (f k : Nat) (t : zy_S), k ≤ j → 24 - k < f → zUn s t → zRg t → zRw s (s.1 1 3) (s.1 1 3) (t.1 51) → ∃ t', zyF226_123 f (Int32.ofNat o) (Int32.ofNat q) (Int32.ofNat (n + 1)) B (Int32.ofNat k) t = some (Int32.ofNat j, t') ∧ zUn s t' ∧ zRg t'
  | 0, k, t, hk, hf, hs, hr, hR => by omega
  | f + 1, k, t, hk, hf, hs, hr, hR => by
    have ek : (Int32.ofNat k).toInt = (k : Int) := zN_toInt (by omega)
    have e437 : t.1 43 7 = s.1 1 3 := (hs.2 43 7 zmt_6.2).trans e7
    have ih := zl_226 hP hL e40 e7 ho hq hT hB j1 j3 j4 f (k + 1)
    obtain ⟨L, hL'⟩ : ∃ L, L = s.1 1 3 := ⟨_, rfl⟩
    rw [← hL'] at hB hR j3 j4 ih e437
    show ∃ t', zyF226_123b (zyF226_123 f) (Int32.ofNat o) (Int32.ofNat q) (Int32.ofNat (n + 1)) B (Int32.ofNat k) t = _ ∧ _
    unfold zyF226_123b
    by_cases h24 : k = 24
    · rw [if_pos (show (24 : Int32) ≤ Int32.ofNat k by rw [Int32.le_iff_toInt_le, ek, zq_l24]; omega), show j = 24 by omega]
      exact ⟨t, rfl, hs, hr⟩
    have hk24 : k < 24 := by omega
    have hin : zy_in (Int32.ofNat k) 24 = true := zq_in.mpr (by rw [ek]; omega)
    rw [if_neg (show ¬ (24 : Int32) ≤ Int32.ofNat k by rw [Int32.le_iff_toInt_le, ek, zq_l24]; omega), zys208, zq_bind, e437]
    dsimp only
    have yes : zga s L k = true → ∃ t', zyF226_153 (zyF226_123 f) (Int32.ofNat o) (Int32.ofNat q) (Int32.ofNat (n + 1)) B (Int32.ofNat k) t = some (Int32.ofNat j, t') ∧ zUn s t' ∧ zRg t' := fun hm => by
      have hpar : decide (1 % 2 = 0) = false := rfl
      obtain ⟨t1, f1, g1⟩ := zv_227 (P := P) (n := n) (w := false) (o := o) (q := q) (t := t) hB hk24 (fun u => zyF227 (Int32.ofNat o) (Int32.ofNat q) (1 : Int32) (Int32.ofNat (n + 1)) (zxk L k) u) (fun u a b c => zys227 hP hL e40 ho hq hT n 100 1 _ _ u (by omega) (by omega) (zBk_x hB hk24) a b c) hs hr hR
      have hR1 : zRw s L L ((zy_up t1 51 k (t.1 51 k)).1 51) := fun l hl hb => by
        rw [g1.2.2 l]
        exact hR l hl hb
      have body : ∀ y : Int32, y = (if zbt L (Int32.ofNat k) = true then t.1 51 k else 0) → ∃ t', zyF226_186 (zyF226_123 f) (Int32.ofNat o) (Int32.ofNat q) (Int32.ofNat (n + 1)) B (Int32.ofNat k) (t.1 51 k) y (Int32.ofNat k) t = some (Int32.ofNat j, t') ∧ zUn s t' ∧ zRg t' := fun y hy => by
        have f1' : zyF227 (Int32.ofNat o) (Int32.ofNat q) (1 : Int32) (Int32.ofNat (n + 1)) (L ^^^ ((1 : Int32) <<< (Int32.ofNat k &&& 31))) (zy_up t 51 k y) = some (zgv s P o q n false (zxk L k) (L &&& zxk L k), t1) := by
          rw [hy]
          exact f1
        unfold zyF226_186 zyF226_227
        rw [if_pos hin, zN_ix (by omega), e437, f1', zq_bind, if_pos hin, zN_succ (by omega)]
        dsimp only
        by_cases c : zgv s P o q n false (zxk L k) (L &&& zxk L k) = B
        · rw [if_neg (not_not_intro c)]
          have e : k = j := by
            by_cases e : k = j
            · exact e
            · exact absurd c (j3 k (by omega) hm)
          rw [e]
          rw [e] at g1
          exact ⟨_, rfl, g1.1, g1.2.1⟩
        · rw [if_pos c]
          have e : k ≠ j := fun e => by
            rcases j4 with z | ⟨-, z⟩
            · omega
            · rw [← e] at z
              exact c z
          exact ih _ (by omega) (by omega) g1.1 g1.2.1 hR1
      unfold zyF226_153
      rw [if_pos hin, zys208, zq_bind, zN_ix (by omega), e437]
      dsimp only
      cases hb : zbt L (Int32.ofNat k) with
      | true =>
        rw [if_neg (show ¬ zqb true = 0 by decide)]
        exact body _ (by rw [hb, if_pos rfl])
      | false =>
        rw [if_pos (show zqb false = 0 from rfl)]
        exact body _ (by rw [hb, if_neg (by decide)])
    cases hb : zbt L (Int32.ofNat k) with
    | true =>
      rw [if_pos (show zqb true ≠ 0 by decide)]
      exact yes (by unfold zga; rw [hb]; rfl)
    | false =>
      rw [if_neg (show ¬ zqb false ≠ 0 by decide), zys219t hs e40 hB.1 hB.2.1, zq_bind]
      dsimp only
      by_cases r : s.1 1 4 ≤ zpc L
      · rw [decide_eq_true r, if_pos (show zqb (!true) = 0 from rfl)]
        unfold zyF226_227
        rw [zN_succ (by omega)]
        have no : zga s L k = false := by
          unfold zga
          rw [hb, decide_eq_true r]
          rfl
        have e : k ≠ j := fun e => by
          rcases j4 with z | ⟨z, -⟩
          · omega
          · rw [← e, no] at z
            cases z
        exact ih t (by omega) (by omega) hs hr hR
      · rw [decide_eq_false r, if_neg (show ¬ zqb (!false) = 0 by decide)]
        exact yes (by unfold zga; rw [hb, decide_eq_false r]; rfl)
theorem zop_byTurns (x1 x2 : Int32) {s : zy_S} (h : zI s) : ∃ r s1 s2, zyF103 x1 x2 s = some (r, s1) ∧ zyF226 x1 x2 s1 = some (r, s2) ∧ zI s2 := by
  obtain ⟨hg, hP, hL, h4, e7, l0, l1, e40⟩ := zMI h
  obtain ⟨P, hPP⟩ : ∃ P, P = (s.1 1 5).toInt.toNat := ⟨_, rfl⟩
  rw [← hPP] at hP
  obtain ⟨p1, p2, p8, -⟩ := id hP
  have eP : (s.1 1 5).toInt = (P : Int) := p1
  have eQ : (s.1 43 6).toInt = (P : Int) := p2
  have hz6 : zin (s.1 43 6) 0 8 := by
    unfold zin
    omega
  obtain ⟨a, ha⟩ : ∃ a, a = x1 / (100 : Int32) := ⟨_, rfl⟩
  obtain ⟨b, hb⟩ : ∃ b, b = x1 / (10 : Int32) - x1 / (10 : Int32) / (10 : Int32) * (10 : Int32) := ⟨_, rfl⟩
  obtain ⟨c, hc⟩ : ∃ c, c = x1 - x1 / (10 : Int32) * (10 : Int32) := ⟨_, rfl⟩
  have l3 : (3 : Int32).toInt = 3 := rfl
  have void : ∀ {p : Prop}, p → p := fun h => h
  by_cases hx : x1 < 0
  · refine ⟨-2000000000, s, s, ?_, ?_, h⟩
    · unfold zyF103
      rw [if_pos hx]
    · unfold zyF226
      rw [if_pos hx]
  have m103 : zyF103 x1 x2 s = if ((x2 = 0 ∨ x2 = 1) ∧ (0 ≤ a.toInt ∧ a.toInt < (P : Int)) ∧ (0 ≤ b.toInt ∧ b.toInt < (P : Int)) ∧ a ≠ b ∧ 1 ≤ c.toInt ∧ c.toInt ≤ 3) then (zyF104 a b c s).bind (fun p4 => if x2 ≠ 0 then some ((p4.2.1 15 3), p4.2) else some (p4.1, p4.2)) else some (-2000000000, s) := by
    unfold zyF103
    rw [if_neg hx, ← ha, ← hb, ← hc, zys84b, zq_bind]
    dsimp only
    by_cases q1 : x2 = 0 ∨ x2 = 1
    · rw [decide_eq_true q1, if_pos (show zqb true ≠ 0 by decide), zys25_0, zq_bind, eP]
      dsimp only
      by_cases q2 : 0 ≤ a.toInt ∧ a.toInt < (P : Int)
      · rw [decide_eq_true q2, if_neg (show ¬ zqb true = 0 by decide), zys25_0, zq_bind, eP]
        dsimp only
        by_cases q3 : 0 ≤ b.toInt ∧ b.toInt < (P : Int)
        · rw [decide_eq_true q3, if_neg (show ¬ zqb true = 0 by decide)]
          by_cases q4 : a = b
          · rw [if_pos q4, if_neg (fun z => z.2.2.2.1 q4)]
          · rw [if_neg q4]
            by_cases q5 : c < (1 : Int32)
            · rw [if_pos q5, if_neg (fun z => by
                have := z.2.2.2.2.1
                rw [Int32.lt_iff_toInt_lt, zq_l1] at q5
                omega)]
            · rw [if_neg q5]
              rw [Int32.lt_iff_toInt_lt, zq_l1] at q5
              by_cases q6 : c ≤ (3 : Int32)
              · rw [if_pos q6]
                rw [Int32.le_iff_toInt_le, l3] at q6
                rw [if_pos ⟨q1, q2, q3, q4, by omega, q6⟩]
              · rw [if_neg q6]
                rw [Int32.le_iff_toInt_le, l3] at q6
                rw [if_neg (fun z => q6 z.2.2.2.2.2)]
        · rw [decide_eq_false q3, if_pos (show zqb false = 0 from rfl), if_neg (fun z => q3 z.2.2.1)]
      · rw [decide_eq_false q2, if_pos (show zqb false = 0 from rfl), if_neg (fun z => q2 z.2.1)]
    · rw [decide_eq_false q1, if_neg (show ¬ zqb false ≠ 0 from not_not_intro rfl), if_neg (fun z => q1 z.1)]
  have m226 : ∀ t : zy_S, t.1 43 6 = s.1 43 6 → zyF226 x1 x2 t = if ((x2 = 0 ∨ x2 = 1) ∧ (0 ≤ a.toInt ∧ a.toInt < (P : Int)) ∧ (0 ≤ b.toInt ∧ b.toInt < (P : Int)) ∧ a ≠ b ∧ 1 ≤ c.toInt ∧ c.toInt ≤ 3) then (zyF203 t).bind (fun p17 => (zyF227 a b (0 : Int32) c (p17.2.1 43 7) p17.2).bind fun p18 => if x2 ≠ 0 then zyF226_123 zy_fu a b c p18.1 (0 : Int32) p18.2 else some (p18.1, p18.2)) else some (-2000000000, t) := fun t ht => by
    have hz : zin (t.1 43 6) 0 8 := by
      rw [ht]
      exact hz6
    have w13 : ∀ x : Int32, decide ((1 : Int64).toInt ≤ x.toInt64.toInt ∧ x.toInt64.toInt ≤ (3 : Int64).toInt) = decide (1 ≤ x.toInt ∧ x.toInt ≤ 3) := fun x => by
      rw [Int32.toInt_toInt64]
      rfl
    unfold zyF226
    rw [if_neg hx, ← ha, ← hb, ← hc, zys185 _ t hz, zq_bind, Int32.toInt_toInt64, ht, eQ]
    dsimp only
    by_cases q2 : 0 ≤ a.toInt ∧ a.toInt < (P : Int)
    · rw [decide_eq_true q2, if_neg (show ¬ zqb true = 0 by decide), zys185 _ t hz, zq_bind, Int32.toInt_toInt64, ht, eQ]
      dsimp only
      by_cases q3 : 0 ≤ b.toInt ∧ b.toInt < (P : Int)
      · rw [decide_eq_true q3, if_neg (show ¬ zqb true = 0 by decide)]
        by_cases q4 : a = b
        · rw [if_pos q4, if_neg (fun z => z.2.2.2.1 q4)]
        · rw [if_neg q4, zys179, zq_bind, w13]
          dsimp only
          by_cases q5 : 1 ≤ c.toInt ∧ c.toInt ≤ 3
          · rw [decide_eq_true q5, if_neg (show ¬ zqb true = 0 by decide), zys179, zq_bind]
            dsimp only
            by_cases q1 : x2 = 0 ∨ x2 = 1
            · rw [zqb_t (decide_eq_true (by rw [zq_j0, show (1 : Int64).toInt = 1 from rfl]; exact (zw01 x2).mpr q1)), if_pos (show (1 : Int32) ≠ 0 by decide), if_pos ⟨q1, q2, q3, q4, q5⟩]
            · rw [zqb_f (decide_eq_false (by rw [zq_j0, show (1 : Int64).toInt = 1 from rfl]; exact fun q => q1 ((zw01 x2).mp q))), if_neg (show ¬ (0 : Int32) ≠ 0 by decide), if_neg (fun z => q1 z.1)]
          · rw [decide_eq_false q5, if_pos (show zqb false = 0 from rfl), if_neg (fun z => q5 z.2.2.2.2)]
      · rw [decide_eq_false q3, if_pos (show zqb false = 0 from rfl), if_neg (fun z => q3 z.2.2.1)]
    · rw [decide_eq_false q2, if_pos (show zqb false = 0 from rfl), if_neg (fun z => q2 z.2.1)]
  by_cases all : (x2 = 0 ∨ x2 = 1) ∧ (0 ≤ a.toInt ∧ a.toInt < (P : Int)) ∧ (0 ≤ b.toInt ∧ b.toInt < (P : Int)) ∧ a ≠ b ∧ 1 ≤ c.toInt ∧ c.toInt ≤ 3
  · rw [m103, if_pos all]
    obtain ⟨q1, q2, q3, q4, q5, q6⟩ := all
    obtain ⟨o, ho, eo⟩ : ∃ o, o < P ∧ a = Int32.ofNat o := ⟨a.toInt.toNat, by omega, zq_ext (by rw [zN_toInt (by omega)]; omega)⟩
    obtain ⟨q, hq, eq⟩ : ∃ q, q < P ∧ b = Int32.ofNat q := ⟨b.toInt.toNat, by omega, zq_ext (by rw [zN_toInt (by omega)]; omega)⟩
    obtain ⟨n, hn, en⟩ : ∃ n, n + 1 ≤ 3 ∧ c = Int32.ofNat (n + 1) := ⟨c.toInt.toNat - 1, by omega, zq_ext (by rw [zN_toInt (by omega)]; omega)⟩
    rw [eo, eq, en] at m226 ⊢
    have all : (x2 = 0 ∨ x2 = 1) ∧ (0 ≤ (Int32.ofNat o).toInt ∧ (Int32.ofNat o).toInt < (P : Int)) ∧ (0 ≤ (Int32.ofNat q).toInt ∧ (Int32.ofNat q).toInt < (P : Int)) ∧ Int32.ofNat o ≠ Int32.ofNat q ∧ 1 ≤ (Int32.ofNat (n + 1)).toInt ∧ (Int32.ofNat (n + 1)).toInt ≤ 3 := by
      rw [eo] at q2 q4
      rw [eq] at q3 q4
      rw [en] at q5 q6
      exact ⟨q1, q2, q3, q4, q5, q6⟩
    have hB : zBk (s.1 1 3) (s.1 1 3) := ⟨l0, l1, l0, fun _ z => z⟩
    -- the class
    have u0 : zUn s (zy_up s 15 2 (Int32.ofNat (n + 1))) := zUn_up (zUn_refl s) zbt15.2.1
    have r0 : zRg (zy_up s 15 2 (Int32.ofNat (n + 1))) := zRg_up hg (fun _ => by rw [zbt15.2.2.2]; unfold zin; rw [zN_toInt (by omega)]; omega)
    obtain ⟨t1, f1, g1, k1⟩ := zys52f (P := P) u0 r0 (zbo o) (zbo q)
    have e13 : t1.1 1 3 = s.1 1 3 := g1.1.2 1 3 zto_14.1
    obtain ⟨t2, f2, g2, k2⟩ := zys54f hP hL g1 (L := s.1 1 3) (K := s.1 1 3) l0 (by rw [Int32.and_self]; exact l0)
    have T2 : zTt s P o q (n + 1) t2 := ⟨g2, by rw [k2, k1, zf_upe]⟩
    obtain ⟨t3, f3, g3, b3⟩ := zys105 hP hL (o := o) (q := q) (T := n + 1) hn (n + 1) 100 true (s.1 1 3) (s.1 1 3) _ t2 (Nat.le_refl _) (by omega) (by rw [Nat.sub_self]; rfl) hB rfl T2
    obtain ⟨j, j1, j2, j3, j4⟩ := b3 rfl (by omega)
    have j3 : ∀ k, k < j → zga s (s.1 1 3) k = true → zgv s P o q n false (zxk (s.1 1 3) k) (s.1 1 3 &&& zxk (s.1 1 3) k) ≠ zgv s P o q (n + 1) true (s.1 1 3) (s.1 1 3) := j3
    have j4 : j = 24 ∨ (zga s (s.1 1 3) j = true ∧ zgv s P o q n false (zxk (s.1 1 3) j) (s.1 1 3 &&& zxk (s.1 1 3) j) = zgv s P o q (n + 1) true (s.1 1 3) (s.1 1 3)) := j4
    have f104 : zyF104 (Int32.ofNat o) (Int32.ofNat q) (Int32.ofNat (n + 1)) s = some (zgv s P o q (n + 1) true (s.1 1 3) (s.1 1 3), t3) := by
      have f1' : zyF52 ((1 : Int32) <<< (Int32.ofNat o &&& 31)) ((1 : Int32) <<< (Int32.ofNat q &&& 31)) (zy_up s 15 2 (Int32.ofNat (n + 1))) = some (0, t1) := f1
      unfold zyF104
      rw [f1', zq_bind]
      dsimp only
      rw [e13, f2, zq_bind]
      dsimp only
      have f3' : zyF105 (Int32.ofNat (n + 1)) (s.1 1 3) (s.1 1 3) (zIn s P (zbo o) (zbo q) (s.1 1 3) (s.1 1 3)) t2 = some (zgv s P o q (n + 1) true (s.1 1 3) (s.1 1 3), t3) := f3
      rw [f3', zq_bind]
    rw [f104, zq_bind]
    -- the model
    have u3 : zUn s t3 := g3.1.1
    have r3 : zRg t3 := g3.1.2.1
    have e6 : t3.1 43 6 = s.1 43 6 := u3.2 43 6 zmt_6.1
    obtain ⟨t4, f4, u4, r4, w4, -⟩ := zys203 (s := s) hg u3 r3
    have e437 : t4.1 43 7 = s.1 1 3 := (u4.2 43 7 zmt_6.2).trans e7
    have hR : zRw s (s.1 1 3) (s.1 1 3) (t4.1 51) := fun l hl hb => by rw [if_pos hb, w4 l hl, h4 l hl]
    obtain ⟨t5, f5, g5⟩ := zys227 hP hL e40 ho hq (T := n + 1) hn (n + 1) 100 0 (s.1 1 3) (s.1 1 3) t4 (by omega) (by omega) hB u4 r4 hR
    have f5' : zyF227 (Int32.ofNat o) (Int32.ofNat q) (0 : Int32) (Int32.ofNat (n + 1)) (s.1 1 3) t4 = some (zgv s P o q (n + 1) true (s.1 1 3) (s.1 1 3), t5) := f5
    have M := m226 t3 e6
    rw [if_pos all, f4, zq_bind] at M
    dsimp only at M
    rw [e437, f5', zq_bind] at M
    dsimp only at M ⊢
    by_cases c2 : x2 = 0
    · rw [if_neg (not_not_intro c2)] at M ⊢
      exact ⟨_, t3, t5, rfl, M, zI_end h g5.1 g5.2.1⟩
    · rw [if_pos c2] at M ⊢
      obtain ⟨t6, f6, u6, r6⟩ := zl_226 hP hL e40 e7 ho hq hn hB j1 j3 j4 zy_fu 0 t5 (by omega) (by unfold zy_fu; omega) g5.1 g5.2.1 (fun l hl hb => by rw [g5.2.2 l]; exact hR l hl hb)
      refine ⟨_, t3, t6, rfl, ?_, zI_end h u6 r6⟩
      rw [M, j2]
      exact f6
  · refine ⟨-2000000000, s, s, by rw [m103, if_neg all], by rw [m226 s rfl, if_neg all], h⟩
end ZBT
