/-! PART 19x.0: ints as numbers; what holds between two calls. -/
theorem zq_ix (a : Int32) : a.toNatClampNeg = a.toInt.toNat := rfl
theorem zq_lo (a : Int32) : -2147483648 ≤ a.toInt := Int32.le_toInt a
theorem zq_hi (a : Int32) : a.toInt ≤ 2147483647 := by have := Int32.toInt_lt a; omega
theorem zq_ext {a b : Int32} (h : a.toInt = b.toInt) : a = b := Int32.toInt_inj.mp h
theorem zq_eq {a b : Int32} : a = b ↔ a.toInt = b.toInt := Int32.toInt_inj.symm
theorem zq_eqJ {a b : Int64} : a = b ↔ a.toInt = b.toInt := Int64.toInt_inj.symm
theorem zq_add {a b : Int32} (h1 : -2147483648 ≤ a.toInt + b.toInt) (h2 : a.toInt + b.toInt ≤ 2147483647) : (a + b).toInt = a.toInt + b.toInt := by
  rw [Int32.toInt_add]
  exact Int.bmod_eq_of_le (by omega) (by omega)
theorem zq_sub {a b : Int32} (h1 : -2147483648 ≤ a.toInt - b.toInt) (h2 : a.toInt - b.toInt ≤ 2147483647) : (a - b).toInt = a.toInt - b.toInt := by
  rw [Int32.toInt_sub]
  exact Int.bmod_eq_of_le (by omega) (by omega)
theorem zq_mul {a b : Int32} (h1 : -2147483648 ≤ a.toInt * b.toInt) (h2 : a.toInt * b.toInt ≤ 2147483647) : (a * b).toInt = a.toInt * b.toInt := by
  rw [Int32.toInt_mul]
  exact Int.bmod_eq_of_le (by omega) (by omega)
theorem zq_in {j : Int32} {n : Nat} : zy_in j n = true ↔ 0 ≤ j.toInt ∧ j.toInt < n := ⟨fun h => of_decide_eq_true h, fun h => decide_eq_true h⟩
theorem zq_inp {j : Int32} {n : Nat} {α : Type} {a b : α} (h : 0 ≤ j.toInt ∧ j.toInt < n) : (if zy_in j n = true then a else b) = a := if_pos (zq_in.mpr h)
theorem zq_bind {α β : Type} (a : α) (f : α → Option β) : (some a).bind f = f a := rfl
theorem zq_cmp0 (x y : Int64) : lg_cmp x y < 0 ↔ x.toInt < y.toInt := by
  unfold lg_cmp
  by_cases h : x > y
  · rw [if_pos h]
    have h' : y.toInt < x.toInt := Int64.lt_iff_toInt_lt.mp h
    constructor
    · intro q; exact absurd q (by decide)
    · intro q; omega
  · rw [if_neg h]
    have h' : ¬ y.toInt < x.toInt := fun q => h (Int64.lt_iff_toInt_lt.mpr q)
    by_cases e : x = y
    · rw [if_pos e]
      subst e
      constructor
      · intro q; exact absurd q (by decide)
      · intro q; omega
    · rw [if_neg e]
      have e' : ¬ x.toInt = y.toInt := fun q => e (Int64.toInt_inj.mp q)
      constructor
      · intro _; omega
      · intro _; decide
theorem zq_cmp1 (x y : Int64) : 0 < lg_cmp x y ↔ y.toInt < x.toInt := by
  unfold lg_cmp
  by_cases h : x > y
  · rw [if_pos h]
    have h' : y.toInt < x.toInt := Int64.lt_iff_toInt_lt.mp h
    constructor
    · intro _; exact h'
    · intro _; decide
  · rw [if_neg h]
    have h' : ¬ y.toInt < x.toInt := fun q => h (Int64.lt_iff_toInt_lt.mpr q)
    constructor
    · intro q
      split at q
      · exact absurd q (by decide)
      · exact absurd q (by decide)
    · intro q; exact absurd q h'
theorem zq_cmpE (x y : Int64) : lg_cmp x y = 0 ↔ x = y := by
  unfold lg_cmp
  by_cases h : x > y
  · rw [if_pos h]
    have h' : y.toInt < x.toInt := Int64.lt_iff_toInt_lt.mp h
    constructor
    · intro q; exact absurd q (by decide)
    · intro q; subst q; omega
  · rw [if_neg h]
    by_cases e : x = y
    · rw [if_pos e]; exact ⟨fun _ => e, fun _ => rfl⟩
    · rw [if_neg e]; exact ⟨fun q => absurd q (by decide), fun q => absurd q e⟩
/-- an int within bounds -/
def zin (a : Int32) (lo hi : Int) : Prop := lo ≤ a.toInt ∧ a.toInt ≤ hi
/-- bounds of a place between calls, as the explorer's heap has them -/
def zrv (c k : Nat) : zA_V := match zHT[c]? with
  | some a => if a.1 = 0 then (a.2.2.2.1[k]?).getD (3, 0) else zx_el a k
  | none => (3, 0)
def zbd2 (v : zA_V) : Int × Int := if v.1 = 6 then (zlo v, zhi v) else (-2147483648, 2147483647)
def zrg (c k : Nat) : Int × Int := zbd2 (zrv c k)
def zrn (c : Nat) : Nat := match zy_tm[c]? with
  | some t => if t.1 = 0 then t.2.2.length else t.2.1
  | none => 0
/-- all bounds hold -/
def zRg (s : zy_S) : Prop := ∀ c k, k < zrn c → zin (s.1 c k) (zrg c k).1 (zrg c k).2
theorem zRg_up {s : zy_S} {c k : Nat} {x : Int32} (h : zRg s) (hx : k < zrn c → zin x (zrg c k).1 (zrg c k).2) : zRg (zy_up s c k x) := by
  intro a b hb
  rw [zy_up_at]
  split
  · next e =>
    obtain ⟨rfl, rfl⟩ := e
    exact hx hb
  · exact h a b hb
theorem zRg_upF {s : zy_S} {c k : Nat} {x : Int32} {lo hi : Int} (h : zRg s) (e : zrg c k = (lo, hi)) (hx : zin x lo hi) : zRg (zy_up s c k x) := zRg_up h (fun _ => by rw [e]; exact hx)
theorem zRg_uj {s : zy_S} {c k : Nat} {x : Int64} (h : zRg s) : zRg (zy_uj s c k x) := h
theorem zRg_ub {s : zy_S} {c : Nat} {f : Nat → Int64} (h : zRg s) : zRg (zy_ub s c f) := h
theorem zRg_ua {s : zy_S} {c : Nat} {f : Nat → Int32} (h : zRg s) (hf : ∀ k, k < zrn c → zin (f k) (zrg c k).1 (zrg c k).2) : zRg (zy_ua s c f) := by
  intro a b hb
  rw [zy_ua_at]
  split
  · next e =>
    subst e
    exact hf b hb
  · exact h a b hb
