/-! PARTS 42.0.ranges to 45.0.ops -/
section
/-! PART 19x.0: ints as numbers; what holds between two calls. -/
theorem zq_ix (a : Int32) : a.toNatClampNeg = a.toInt.toNat := rfl
theorem zq_lo (a : Int32) : -2147483648 ≤ a.toInt := Int32.le_toInt a
theorem zq_hi (a : Int32) : a.toInt ≤ 2147483647 := by have := Int32.toInt_lt a; omega
theorem zq_ext {a b : Int32} (h : a.toInt = b.toInt) : a = b := Int32.toInt_inj.mp h
theorem zq_eq {a b : Int32} : a = b ↔ a.toInt = b.toInt := Int32.toInt_inj.symm
theorem zq_eqJ {a b : Int64} : a = b ↔ a.toInt = b.toInt := Int64.toInt_inj.symm
theorem zq_add {a b : Int32} (h1 : -2147483648 ≤ a.toInt + b.toInt) (h2 : a.toInt + b.toInt ≤ 2147483647) : (a + b).toInt = a.toInt + b.toInt := by
  rw [Int32.toInt_add]
  exact Int.bmod_eq_of_le (by omega) (by omega)
theorem zq_sub {a b : Int32} (h1 : -2147483648 ≤ a.toInt - b.toInt) (h2 : a.toInt - b.toInt ≤ 2147483647) : (a - b).toInt = a.toInt - b.toInt := by
  rw [Int32.toInt_sub]
  exact Int.bmod_eq_of_le (by omega) (by omega)
theorem zq_mul {a b : Int32} (h1 : -2147483648 ≤ a.toInt * b.toInt) (h2 : a.toInt * b.toInt ≤ 2147483647) : (a * b).toInt = a.toInt * b.toInt := by
  rw [Int32.toInt_mul]
  exact Int.bmod_eq_of_le (by omega) (by omega)
theorem zq_in {j : Int32} {n : Nat} : zy_in j n = true ↔ 0 ≤ j.toInt ∧ j.toInt < n := ⟨fun h => of_decide_eq_true h, fun h => decide_eq_true h⟩
theorem zq_inp {j : Int32} {n : Nat} {α : Type} {a b : α} (h : 0 ≤ j.toInt ∧ j.toInt < n) : (if zy_in j n = true then a else b) = a := if_pos (zq_in.mpr h)
theorem zq_bind {α β : Type} (a : α) (f : α → Option β) : (some a).bind f = f a := rfl
theorem zq_cmp0 (x y : Int64) : lg_cmp x y < 0 ↔ x.toInt < y.toInt := by
  unfold lg_cmp
  by_cases h : x > y
  · rw [if_pos h]
    have h' : y.toInt < x.toInt := Int64.lt_iff_toInt_lt.mp h
    constructor
    · intro q; exact absurd q (by decide)
    · intro q; omega
  · rw [if_neg h]
    have h' : ¬ y.toInt < x.toInt := fun q => h (Int64.lt_iff_toInt_lt.mpr q)
    by_cases e : x = y
    · rw [if_pos e]
      subst e
      constructor
      · intro q; exact absurd q (by decide)
      · intro q; omega
    · rw [if_neg e]
      have e' : ¬ x.toInt = y.toInt := fun q => e (Int64.toInt_inj.mp q)
      constructor
      · intro _; omega
      · intro _; decide
theorem zq_cmp1 (x y : Int64) : 0 < lg_cmp x y ↔ y.toInt < x.toInt := by
  unfold lg_cmp
  by_cases h : x > y
  · rw [if_pos h]
    have h' : y.toInt < x.toInt := Int64.lt_iff_toInt_lt.mp h
    constructor
    · intro _; exact h'
    · intro _; decide
  · rw [if_neg h]
    have h' : ¬ y.toInt < x.toInt := fun q => h (Int64.lt_iff_toInt_lt.mpr q)
    constructor
    · intro q
      split at q
      · exact absurd q (by decide)
      · exact absurd q (by decide)
    · intro q; exact absurd q h'
theorem zq_cmpE (x y : Int64) : lg_cmp x y = 0 ↔ x = y := by
  unfold lg_cmp
  by_cases h : x > y
  · rw [if_pos h]
    have h' : y.toInt < x.toInt := Int64.lt_iff_toInt_lt.mp h
    constructor
    · intro q; exact absurd q (by decide)
    · intro q; subst q; omega
  · rw [if_neg h]
    by_cases e : x = y
    · rw [if_pos e]; exact ⟨fun _ => e, fun _ => rfl⟩
    · rw [if_neg e]; exact ⟨fun q => absurd q (by decide), fun q => absurd q e⟩
/-- an int within bounds -/
def zin (a : Int32) (lo hi : Int) : Prop := lo ≤ a.toInt ∧ a.toInt ≤ hi
/-- bounds of a place between calls, as the explorer's heap has them -/
def zrv (c k : Nat) : zA_V := match zHT[c]? with
  | some a => if a.1 = 0 then (a.2.2.2.1[k]?).getD (3, 0) else zx_el a k
  | none => (3, 0)
def zbd2 (v : zA_V) : Int × Int := if v.1 = 6 then (zlo v, zhi v) else (-2147483648, 2147483647)
def zrg (c k : Nat) : Int × Int := zbd2 (zrv c k)
def zrn (c : Nat) : Nat := match zy_tm[c]? with
  | some t => if t.1 = 0 then t.2.2.length else t.2.1
  | none => 0
/-- all bounds hold -/
def zRg (s : zy_S) : Prop := ∀ c k, k < zrn c → zin (s.1 c k) (zrg c k).1 (zrg c k).2
theorem zRg_up {s : zy_S} {c k : Nat} {x : Int32} (h : zRg s) (hx : k < zrn c → zin x (zrg c k).1 (zrg c k).2) : zRg (zy_up s c k x) := by
  intro a b hb
  rw [zy_up_at]
  split
  · next e =>
    obtain ⟨rfl, rfl⟩ := e
    exact hx hb
  · exact h a b hb
theorem zRg_upF {s : zy_S} {c k : Nat} {x : Int32} {lo hi : Int} (h : zRg s) (e : zrg c k = (lo, hi)) (hx : zin x lo hi) : zRg (zy_up s c k x) := zRg_up h (fun _ => by rw [e]; exact hx)
theorem zRg_uj {s : zy_S} {c k : Nat} {x : Int64} (h : zRg s) : zRg (zy_uj s c k x) := h
theorem zRg_ub {s : zy_S} {c : Nat} {f : Nat → Int64} (h : zRg s) : zRg (zy_ub s c f) := h
theorem zRg_ua {s : zy_S} {c : Nat} {f : Nat → Int32} (h : zRg s) (hf : ∀ k, k < zrn c → zin (f k) (zrg c k).1 (zrg c k).2) : zRg (zy_ua s c f) := by
  intro a b hb
  rw [zy_ua_at]
  split
  · next e =>
    subst e
    exact hf b hb
  · exact h a b hb
end
section
/-! PART 42.05: the reading of a text, its words. Made by wip/v6/gen_parse.py. -/
def zpN (b : Nat → Int32) (n a : Nat) : Int32 := if a < n then b a else -1
def zlv (x : Int32) : Int32 :=
  if x = (37 : Int32) then (4 : Int32) else
  if x = (38 : Int32) then (1 : Int32) else
  if x = (42 : Int32) then (4 : Int32) else
  if x = (43 : Int32) then (3 : Int32) else
  if x = (45 : Int32) then (3 : Int32) else
  if x = (47 : Int32) then (4 : Int32) else
  if x = (60 : Int32) then (2 : Int32) else
  if x = (61 : Int32) then (2 : Int32) else
  if x = (62 : Int32) then (2 : Int32) else
  if x = (124 : Int32) then (0 : Int32) else (-1 : Int32)
def znm (x : Int32) : Int32 :=
  if x = (100 : Int32) then (0 : Int32) else
  if x = (101 : Int32) then (-1 : Int32) else
  if x = (102 : Int32) then (-1 : Int32) else
  if x = (103 : Int32) then (-1 : Int32) else
  if x = (104 : Int32) then (-1 : Int32) else
  if x = (105 : Int32) then (-1 : Int32) else
  if x = (106 : Int32) then (-1 : Int32) else
  if x = (107 : Int32) then (4 : Int32) else
  if x = (108 : Int32) then (-1 : Int32) else
  if x = (109 : Int32) then (2 : Int32) else
  if x = (110 : Int32) then (-1 : Int32) else
  if x = (111 : Int32) then (-1 : Int32) else
  if x = (112 : Int32) then (-1 : Int32) else
  if x = (113 : Int32) then (-1 : Int32) else
  if x = (114 : Int32) then (-1 : Int32) else
  if x = (115 : Int32) then (1 : Int32) else
  if x = (116 : Int32) then (-1 : Int32) else
  if x = (117 : Int32) then (-1 : Int32) else
  if x = (118 : Int32) then (5 : Int32) else
  if x = (119 : Int32) then (3 : Int32) else (-1 : Int32)
def zpDig (c : Int32) : Bool := decide (48 ≤ c.toInt ∧ c.toInt ≤ 57)
def zpNum (g : Nat → Int32) : Nat → Nat → Int32 → Nat × Int32
  | 0, a, v => (a, v)
  | k + 1, a, v => if zpDig (g a) = true then zpNum g k (a + 1) (((10 : Int32) * v + g a) - (48 : Int32)) else (a, v)
def zpL (sub : Nat → Nat × Bool × List Int32) (g : Nat → Int32) (lev : Nat) : Nat → Nat × Bool × List Int32 → Nat × Bool × List Int32
  | 0, r => r
  | k + 1, r => if r.2.1 = false ∧ (zlv (g r.1)).toInt = (lev : Int) then zpL sub g lev k ((sub (r.1 + 1)).1, (sub (r.1 + 1)).2.1, r.2.2 ++ ((sub (r.1 + 1)).2.2 ++ [-(g r.1)])) else r
def zpS (g : Nat → Int32) : Nat → Nat → Nat → Nat → Nat × Bool × List Int32
  | 0, _, _, a => (a, true, [])
  | f + 1, lev, o, a =>
    if lev < 5 then zpL (fun b => zpS g f (lev + 1) o b) g lev (if lev = 2 then 1 else 120) (zpS g f (lev + 1) o a)
    else if zpDig (g a) = true then ((zpNum g 4 a 0).1, false, [(zpNum g 4 a 0).2])
    else if 0 ≤ (znm (g a)).toInt then (a + 1, false, [(10000 : Int32) + znm (g a)])
    else if o < 6 ∧ (g a).toInt = 40 then
      (if (zpS g f 0 (o + 1) (a + 1)).2.1 = false ∧ (g (zpS g f 0 (o + 1) (a + 1)).1).toInt = 41 then ((zpS g f 0 (o + 1) (a + 1)).1 + 1, false, (zpS g f 0 (o + 1) (a + 1)).2.2) else ((zpS g f 0 (o + 1) (a + 1)).1, true, (zpS g f 0 (o + 1) (a + 1)).2.2))
    else if o < 6 ∧ (g a).toInt = 33 then ((zpS g f 5 (o + 1) (a + 1)).1, (zpS g f 5 (o + 1) (a + 1)).2.1, (zpS g f 5 (o + 1) (a + 1)).2.2 ++ [(-33 : Int32)])
    else if o < 6 ∧ (g a).toInt = 45 then ((zpS g f 5 (o + 1) (a + 1)).1, (zpS g f 5 (o + 1) (a + 1)).2.1, (zpS g f 5 (o + 1) (a + 1)).2.2 ++ [(-126 : Int32)])
    else (a, true, [])
def zpLine (g : Nat → Int32) (a : Nat) : Nat × Bool × List Int32 :=
  if (zpS g 50 0 0 a).2.1 = false ∧ (g (zpS g 50 0 0 a).1).toInt = 63 then
    ((zpS g 50 0 0 ((zpS g 50 0 0 a).1 + 1)).1, (zpS g 50 0 0 ((zpS g 50 0 0 a).1 + 1)).2.1, (zpS g 50 0 0 a).2.2 ++ ([(-63 : Int32)] ++ ((zpS g 50 0 0 ((zpS g 50 0 0 a).1 + 1)).2.2 ++ [(-59 : Int32)])))
  else ((zpS g 50 0 0 a).1, (zpS g 50 0 0 a).2.1, (zpS g 50 0 0 a).2.2 ++ [(-59 : Int32)])
def zpU (g : Nat → Int32) : Nat → Nat → Bool → Nat × Bool × List Int32
  | 0, b, br => (b, br, [])
  | k + 1, b, br => if br = false ∧ (g b).toInt = 59 then
      ((zpU g k (zpLine g (b + 1)).1 (zpLine g (b + 1)).2.1).1, (zpU g k (zpLine g (b + 1)).1 (zpLine g (b + 1)).2.1).2.1, (zpLine g (b + 1)).2.2 ++ (zpU g k (zpLine g (b + 1)).1 (zpLine g (b + 1)).2.1).2.2)
    else (b, br, [])
def zpT (g : Nat → Int32) : Nat × Bool × List Int32 :=
  ((zpU g 120 (zpLine g 0).1 (zpLine g 0).2.1).1, (zpU g 120 (zpLine g 0).1 (zpLine g 0).2.1).2.1, (zpLine g 0).2.2 ++ (zpU g 120 (zpLine g 0).1 (zpLine g 0).2.1).2.2)
def zpG (n : Nat) (g : Nat → Int32) : Prop := (∀ j, n ≤ j → g j = -1) ∧ ∀ j, j < n → 0 ≤ (g j).toInt ∧ (g j).toInt ≤ 255
def zpf (n a : Nat) (br : Bool) : Int32 := if br = true ∨ a < n then Int32.ofNat a else -1
def zpF (n : Nat) (q : Nat × Bool × List Int32) : Int32 := zpf n q.1 q.2.1
/-- the LAW on both sides: none, or a text without fault, and its steps -/
def zLw (len tm : Int32) (st tx : Nat → Int32) : Prop := (len = 0 ∧ tm = -1) ∨ ∃ n, tm = Int32.ofNat n ∧ n ≤ 120 ∧ zpG n (zpN tx n) ∧ zpF n (zpT (zpN tx n)) = -1 ∧ len = Int32.ofNat (zpT (zpN tx n)).2.2.length ∧ ∀ (j : Nat) (c : Int32), (zpT (zpN tx n)).2.2[j]? = some c → st j = c
end
section
/-! PART 19h.0: the heap between calls: as functions by cell, and as the explorer has it. -/
theorem zL2.ofG {α β : Type} {R : α → β → Prop} : ∀ {as : List α} {bs : List β}, as.length = bs.length → (∀ (i : Nat) a b, as[i]? = some a → bs[i]? = some b → R a b) → zL2 R as bs
  | [], [], _, _ => trivial
  | a :: as, b :: bs, hl, h => ⟨h 0 a b rfl rfl, zL2.ofG (Nat.succ.inj hl) (fun i a' b' ha hb => h (i + 1) a' b' ha hb)⟩
  | [], _ :: _, hl, _ => by cases hl
  | _ :: _, [], hl, _ => by cases hl
/-- a field's value: a reference that is there; else wide, or a number (w) -/
def zbV (w : Bool) (a : zA_V) (f : Option Nat) : Bool := match f with
  | some r => decide (a = ((2, (r : Int)) : zA_V))
  | none => decide (a.1 = 6) || (w && decide (a.1 = 0))
def zb2 (w : Bool) : List zA_V → List (Option Nat) → Bool
  | [], [] => true
  | a :: as, f :: fs => zbV w a f && zb2 w as fs
  | _, _ => false
def zbh (a : zA_C) : zA_V := a.2.2.2.1.headD (3, 0)
/-- the explorer's cell a is one of this shape -/
def zbC (w : Bool) (i : Nat) (a : zA_C) (t : zy_T) : Bool :=
  if t.1 = 0 then decide (a.1 = 0 ∧ a.2.1 = t.2.1) && (zb2 w a.2.2.2.1 t.2.2 && a.2.2.2.2.all (fun q => decide (q.2 = ((8, (i : Int)) : zA_V) ∧ t.2.2[q.1]? = some none)))
  else if t.1 = 1 then decide (a.1 = 8 ∧ a.2.1 = i ∧ (a.2.2.1 = 0 ∨ a.2.2.1 = t.2.1 ∧ (zbh a).1 = 6 ∧ a.2.2.2.2.all (fun q => q.2.1 == 6 && !(Nat.ble 1000000 q.1)) = true)) || decide (a.1 = 1 ∧ a.2.1 = 0 ∧ a.2.2.1 = t.2.1 ∧ (zbh a).1 = 6 ∧ a.2.2.2.2 = [])
  else if t.1 = 2 then decide (a.1 = 8 ∧ a.2.1 = i ∧ a.2.2.1 = t.2.1 ∧ (zbh a).1 = 8 ∧ a.2.2.2.2 = []) || decide (a.1 = 1 ∧ a.2.1 = 1 ∧ a.2.2.1 = t.2.1 ∧ (zbh a).1 = 8 ∧ a.2.2.2.2 = [])
  else decide (t.1 = 3 ∧ a.1 = 1 ∧ a.2.1 = 2 ∧ a.2.2.1 = 6 ∧ t.2.1 = 6 ∧ zbh a = (3, 0) ∧ a.2.2.2.2 = [(5, (2, 44)), (4, (2, 42)), (3, (2, 40)), (2, (2, 38)), (1, (2, 36)), (0, (2, 34))])
def zbA (w : Bool) : Nat → zA_H → List zy_T → Bool
  | _, [], [] => true
  | i, a :: as, t :: ts => zbC w i a t && zbA w (i + 1) as ts
  | _, _, _ => false
theorem zbA_at {w : Bool} : ∀ {i : Nat} {H : zA_H} {ts : List zy_T}, zbA w i H ts = true → H.length = ts.length ∧ ∀ (j : Nat) (a : zA_C) (t : zy_T), H[j]? = some a → ts[j]? = some t → zbC w (i + j) a t = true
  | _, [], [], _ => ⟨rfl, fun j a t h => by cases h⟩
  | i, a :: as, t :: ts, h => by
    obtain ⟨h1, h4⟩ := zw_and h
    obtain ⟨k1, k2⟩ := zbA_at h4
    refine ⟨congrArg (· + 1) k1, fun j b u hj hu => ?_⟩
    cases j with
    | zero =>
      cases hj
      cases hu
      exact h1
    | succ j =>
      have := k2 j b u hj hu
      rw [show i + 1 + j = i + (j + 1) by omega] at this
      exact this
  | _, [], _ :: _, h => by cases h
  | _, _ :: _, [], h => by cases h
theorem zb_all : zbA false 0 zHT zy_tm = true := by decide +kernel
theorem zvW {ρ : List Int} {v : zA_V} {x : Int32} (h : v.1 = 6) (h1 : zlo v ≤ x.toInt) (h2 : x.toInt ≤ zhi v) : zg_V ρ v (.int x) := by
  refine Or.inr (Or.inr (Or.inr (Or.inr (Or.inr (Or.inr ⟨by omega, Or.inl ⟨x, rfl, (zlo v, zhi v), ?_, h1, h2⟩⟩)))))
  unfold zIq
  rw [if_pos h]
  exact List.mem_cons_self
theorem zvW_inv {ρ : List Int} {v : zA_V} {u : Value} (h : v.1 = 6) (g : zg_V ρ v u) : ∃ x : Int32, u = .int x ∧ zlo v ≤ x.toInt ∧ x.toInt ≤ zhi v := by
  rcases g with ⟨g, -⟩ | ⟨g, -⟩ | ⟨g, -⟩ | ⟨g, -⟩ | ⟨g, -⟩ | ⟨g, -⟩ | ⟨-, g⟩
  all_goals first | omega | skip
  rcases g with ⟨x, ex, q, hq, b1, b2⟩ | ⟨g, -⟩ | ⟨g, -⟩
  · unfold zIq at hq
    rw [if_pos h, List.mem_singleton] at hq
    subst hq
    exact ⟨x, ex, b1, b2⟩
  · omega
  · omega
theorem zvJ {ρ : List Int} {v : zA_V} (h : v.1 = 8) (x : Int64) : zg_V ρ v (.long x) := Or.inr (Or.inr (Or.inr (Or.inr (Or.inr (Or.inr ⟨by omega, Or.inr (Or.inl ⟨h, x, rfl⟩)⟩)))))
theorem zbel {a : zA_C} (h6 : (zbh a).1 = 6) (ho : a.2.2.2.2.all (fun q => q.2.1 == 6 && !(Nat.ble 1000000 q.1)) = true) (j : Nat) : (zx_el a j).1 = 6 := by
  unfold zx_el
  cases hl : a.2.2.2.2.lookup j with
  | none => exact h6
  | some v => simpa using (zw_and (List.all_eq_true.mp ho _ (z_look_in hl))).1
theorem zb2_at {w : Bool} : ∀ {as : List zA_V} {fs : List (Option Nat)}, zb2 w as fs = true → as.length = fs.length ∧ ∀ (k : Nat) (a : zA_V) (f : Option Nat), as[k]? = some a → fs[k]? = some f → zbV w a f = true
  | [], [], _ => ⟨rfl, fun k a f h => by cases h⟩
  | a :: as, f :: fs, h => by
    obtain ⟨k1, k2⟩ := zb2_at (zw_and h).2
    refine ⟨congrArg (· + 1) k1, fun k b g hb hg => ?_⟩
    cases k with
    | zero => cases hb; cases hg; exact (zw_and h).1
    | succ k => exact k2 k b g hb hg
  | [], _ :: _, h => by cases h
  | _ :: _, [], h => by cases h
theorem zbH_at {w : Bool} {H : zA_H} (hA : zbA w 0 H zy_tm = true) {i : Nat} {a : zA_C} (h : H[i]? = some a) : ∃ t, zy_tm[i]? = some t ∧ zbC w i a t = true := by
  obtain ⟨hl, hk⟩ := zbA_at hA
  have hi := (List.getElem?_eq_some_iff.mp h).1
  have ht : zy_tm[i]? = some (zy_tm[i]'(by omega)) := List.getElem?_eq_getElem (by omega)
  have := hk i a _ h ht
  rw [Nat.zero_add] at this
  exact ⟨_, ht, this⟩
theorem zrv_f {i k : Nat} {a : zA_C} {v : zA_V} (h : zHT[i]? = some a) (h0 : a.1 = 0) (hk : a.2.2.2.1[k]? = some v) : zrv i k = v := by
  unfold zrv
  rw [h]
  dsimp only
  rw [if_pos h0, hk]
  rfl
theorem zrv_a {i k : Nat} {a : zA_C} (h : zHT[i]? = some a) (h0 : a.1 ≠ 0) : zrv i k = zx_el a k := by
  unfold zrv
  rw [h]
  dsimp only
  rw [if_neg h0]
theorem zrg_6 {i k : Nat} {v : zA_V} (h : zrv i k = v) (h6 : v.1 = 6) : (zrg i k).1 = zlo v ∧ (zrg i k).2 = zhi v := by
  unfold zrg zbd2
  rw [h, if_pos h6]
  exact ⟨rfl, rfl⟩
theorem zrn_of {i : Nat} {t : zy_T} (h : zy_tm[i]? = some t) : zrn i = if t.1 = 0 then t.2.2.length else t.2.1 := by
  unfold zrn
  rw [h]
/-- the functions' heap is as the explorer has it -/
theorem zb_to {s : zy_S} (hg : zRg s) (hw : zy_W s) : zL2 (zg_C (zy_hp s) []) zHT (zy_hp s) := by
  have hlen0 : zHT.length = (zy_hp s).length := by
    rw [(zbA_at zb_all).1]
    rw [zy_hp_eq]
    exact List.length_mapIdx.symm
  refine zL2.ofG hlen0 ?_
  intro i a x ha hx
  obtain ⟨t, ht, hc⟩ := zbH_at zb_all ha
  have hx' := zy_at (s := s) ht
  rw [hx] at hx'
  cases hx'
  unfold zbC at hc
  split at hc
  · next t0 =>
    obtain ⟨c1, c2⟩ := zw_and hc
    obtain ⟨c3, c4⟩ := zw_and c2
    obtain ⟨a0, a1⟩ := of_decide_eq_true c1
    obtain ⟨l1, l2⟩ := zb2_at c3
    have ecl : zy_cl s i t = .inr (a.2.1, zy_fs s i t.2.2) := by unfold zy_cl; rw [if_pos t0, a1]
    refine Or.inr (Or.inl ⟨a0, zy_fs s i t.2.2, ecl, zL2.ofG (by rw [zy_fs_len]; exact l1) (fun k v u hv hu => ?_), fun q hq => ?_⟩)
    · have hk : k < t.2.2.length := by have := (List.getElem?_eq_some_iff.mp hv).1; omega
      have hf : t.2.2[k]? = some (t.2.2[k]'hk) := List.getElem?_eq_getElem hk
      have hb := l2 k v _ hv hf
      have hu' := zy_fs_get (s := s) (c := i) hf
      rw [hu] at hu'
      generalize t.2.2[k] = f at hf hb hu'
      cases f with
      | some r =>
        have e := of_decide_eq_true hb
        cases hu'
        rw [e]
        exact zg_ofR
      | none =>
        have e : v.1 = 6 := by
          rcases zw_or hb with e | e
          · exact of_decide_eq_true e
          · cases e
        cases hu'
        have r := hg i k (by rw [zrn_of ht, if_pos t0]; exact hk)
        obtain ⟨q1, q2⟩ := zrg_6 (zrv_f ha a0 hv) e
        exact zvW e (by rw [← q1]; exact r.1) (by rw [← q2]; exact r.2)
    · obtain ⟨e, -⟩ := of_decide_eq_true (List.all_eq_true.mp c4 q hq)
      refine ⟨by rw [e], a.2.1, zy_fs s i t.2.2, ?_, rfl⟩
      rw [e]
      show (zy_hp s)[((i : Int)).toNat]? = _
      rw [Int.toNat_natCast, hx, ecl]
  · next t0 =>
    have el : (a.1 ≠ 0) → (∀ j, (zx_el a j).1 = 6) → t.1 = 1 → ∀ j, j < t.2.1 → zg_V [] (zx_el a j) (.int (s.1 i j)) := by
      intro a0 h6 t1 j hj
      have r := hg i j (by rw [zrn_of ht, if_neg t0]; exact hj)
      obtain ⟨q1, q2⟩ := zrg_6 (zrv_a ha a0) (h6 j)
      exact zvW (h6 j) (by rw [← q1]; exact r.1) (by rw [← q2]; exact r.2)
    have nilY : ∀ (n : Nat) (e : Nat → Value), a.2.2.2.2.all (fun q => q.2.1 == 6 && !(Nat.ble 1000000 q.1)) = true → zg_Y [] n a.2.2.2.2 e := by
      intro n e ho q hq hk
      have := (zw_and (List.all_eq_true.mp ho q hq)).2
      rw [Nat.ble_eq_true_of_le hk] at this
      cases this
    split at hc
    · next t1 =>
      have ecl : zy_cl s i t = .inl (0, t.2.1, z_I (s.1 i)) := by unfold zy_cl; rw [if_neg t0, if_pos t1]
      rcases zw_or hc with hc | hc
      · obtain ⟨a0, a1, a2⟩ := of_decide_eq_true hc
        refine Or.inl ⟨a0, by rw [a1]; exact hx, fun hn => ?_⟩
        rcases a2 with a2 | ⟨a2, a3, a4⟩
        · omega
        · exact Or.inl ⟨s.1 i, by rw [a2]; exact ecl, fun w => by have w : (zbh a).1 = 8 := w; omega, fun j hj => el (by omega) (zbel a3 a4) t1 j (by omega), nilY _ _ a4⟩
      · obtain ⟨a0, a1, a2, a3, a4⟩ := of_decide_eq_true hc
        have a5 : a.2.2.2.2.all (fun q => q.2.1 == 6 && !(Nat.ble 1000000 q.1)) = true := by rw [a4]; rfl
        exact Or.inr (Or.inr (Or.inl ⟨a0, a1, s.1 i, by rw [a2]; exact ecl, fun j hj => el (by omega) (zbel a3 a5) t1 j (by omega), nilY _ _ a5⟩))
    · next t1 =>
      split at hc
      · next t2 =>
        have ecl : zy_cl s i t = .inl (1, t.2.1, z_J (s.2.1 i)) := by unfold zy_cl; rw [if_neg t0, if_neg t1, if_pos t2]
        have elJ : (zbh a).1 = 8 → a.2.2.2.2 = [] → ∀ j, zg_V [] (zx_el a j) (.long (s.2.1 i j)) := by
          intro a3 a4 j
          unfold zx_el
          rw [a4]
          exact zvJ a3 _
        rcases zw_or hc with hc | hc
        · obtain ⟨a0, a1, a2, a3, a4⟩ := of_decide_eq_true hc
          exact Or.inl ⟨a0, by rw [a1]; exact hx, fun hn => Or.inr ⟨s.2.1 i, by rw [a2]; exact ecl, a3, fun j hj => elJ a3 a4 j, by rw [a4]; exact zg_Y.nil _ _ _⟩⟩
        · obtain ⟨a0, a1, a2, a3, a4⟩ := of_decide_eq_true hc
          exact Or.inr (Or.inr (Or.inr (Or.inl ⟨a0, a1, s.2.1 i, by rw [a2]; exact ecl, fun j hj => elJ a3 a4 j, by rw [a4]; exact zg_Y.nil _ _ _⟩)))
      · next t2 =>
        obtain ⟨t3, a0, a1, a2, a3, a4, a5⟩ := of_decide_eq_true hc
        have ecl : zy_cl s i t = .inl (2, t.2.1, z_O s.2.2) := by unfold zy_cl; rw [if_neg t0, if_neg t1, if_neg t2]
        refine Or.inr (Or.inr (Or.inr (Or.inr ⟨a0, a1, s.2.2, by rw [a2, ← a3]; exact ecl, fun j hj => ?_, ?_⟩)))
        · rw [a2] at hj
          rw [hw j hj, a5]
          rcases (by omega : j = 0 ∨ j = 1 ∨ j = 2 ∨ j = 3 ∨ j = 4 ∨ j = 5) with rfl | rfl | rfl | rfl | rfl | rfl <;> exact zg_ofR
        · rw [a5]
          intro q hq hk
          exfalso
          simp only [List.mem_cons, List.not_mem_nil, or_false] at hq
          rcases hq with rfl | rfl | rfl | rfl | rfl | rfl <;> exact absurd hk (by decide)
/-- the functions that a heap is -/
def zrdS (ph : List z_C) : zy_S := (fun i k => match ph[i]? with
    | some (.inr (_, fs)) => (match fs[k]? with
      | some (.int x) => x
      | _ => 0)
    | some (.inl (_, _, .inl f)) => f k
    | _ => 0, fun i k => match ph[i]? with
    | some (.inl (_, _, .inr (.inl f))) => f k
    | _ => 0, match ph[(30 : Nat)]? with
    | some (.inl (_, _, .inr (.inr (.inr (.inr f))))) => f
    | _ => fun _ => none)
/-- a told place of ints -/
def zto (c k : Nat) : Bool := match zHT[c]? with
  | some a => if a.1 = 0 then a.2.2.2.2.any (fun q => Nat.beq q.1 k) else a.1 == 8 && !((zbh a).1 == 8)
  | none => false
/-- what the cell i of H says of the functions s', beside s -/
def zbK (s s' : zy_S) (ρ : List Int) (i : Nat) (a : zA_C) : Prop :=
  (a.1 = 0 → (∀ k v, a.2.2.2.1[k]? = some v → v.1 = 6 ∨ v.1 = 0 → zg_V ρ v (.int (s'.1 i k))) ∧ ∀ q ∈ a.2.2.2.2, s'.1 i q.1 = s.1 i q.1) ∧
  (a.1 = 8 → ∀ t, zy_tm[i]? = some t → (t.1 = 1 → s'.1 i = s.1 i) ∧ (t.1 = 2 → s'.2.1 i = s.2.1 i)) ∧
  (a.1 = 1 → a.2.1 = 0 → ∀ j, j < a.2.2.1 → zg_V ρ (zx_el a j) (.int (s'.1 i j)))
theorem zb_cell {w : Bool} {s : zy_S} {ρ : List Int} {ph : List z_C} {i : Nat} {a : zA_C} {c : z_C} {t : zy_T} (ht : zy_tm[i]? = some t) (hc : zbC w i a t = true) (hx : ph[i]? = some c) (g : zg_C (zy_hp s) ρ a c) (h30 : t.1 = 3 → i = 30) : c = zy_cl (zrdS ph) i t ∧ zbK s (zrdS ph) ρ i a := by
  unfold zbC at hc
  split at hc
  · next t0 =>
    obtain ⟨c1, c2⟩ := zw_and hc
    obtain ⟨c3, c4⟩ := zw_and c2
    obtain ⟨a0, a1⟩ := of_decide_eq_true c1
    obtain ⟨l1, l2⟩ := zb2_at c3
    obtain ⟨fs, rfl, gf, gz⟩ := zg_C0 a0 g
    have lf : a.2.2.2.1.length = fs.length := zL2.len gf
    have rd : ∀ k, (zrdS ph).1 i k = (match fs[k]? with | some (.int x) => x | _ => 0) := by
      intro k
      show (match ph[i]? with | some (.inr (_, fs)) => (match fs[k]? with | some (.int x) => x | _ => 0) | some (.inl (_, _, .inl f)) => f k | _ => 0) = _
      rw [hx]
    have int_ : ∀ (k : Nat) (v : zA_V) (u : Value), a.2.2.2.1[k]? = some v → fs[k]? = some u → t.2.2[k]? = some none → u = .int ((zrdS ph).1 i k) ∧ zg_V ρ v u := by
      intro k v u hv hu hf
      obtain ⟨u', hu', gu⟩ := zL2.get gf hv
      rw [hu] at hu'
      cases hu'
      refine ⟨?_, gu⟩
      have hb := l2 k v none hv hf
      have : ∃ x : Int32, u = .int x := by
        rcases zw_or hb with e | e
        · obtain ⟨x, ex, -⟩ := zvW_inv (of_decide_eq_true e) gu
          exact ⟨x, ex⟩
        · obtain ⟨x, ex, -⟩ := zg_int (a := v) (by unfold zIs; rw [of_decide_eq_true (zw_and e).2]; rfl) gu
          exact ⟨x, ex⟩
      obtain ⟨x, rfl⟩ := this
      rw [rd k, hu]
    refine ⟨?_, fun _ => ⟨fun k v hv h60 => ?_, fun q hq => ?_⟩, fun h => by omega, fun h => by omega⟩
    · unfold zy_cl
      rw [if_pos t0, a1]
      congr 2
      apply List.ext_getElem?
      intro k
      cases hu : fs[k]? with
      | none =>
        have hlen := List.getElem?_eq_none_iff.mp hu
        rw [List.getElem?_eq_none (by rw [zy_fs_len]; omega)]
      | some u =>
        have hk := (List.getElem?_eq_some_iff.mp hu).1
        have hv : a.2.2.2.1[k]? = some (a.2.2.2.1[k]'(by omega)) := List.getElem?_eq_getElem (by omega)
        have hf : t.2.2[k]? = some (t.2.2[k]'(by omega)) := List.getElem?_eq_getElem (by omega)
        have hb := l2 k _ _ hv hf
        rw [zy_fs_get hf]
        generalize t.2.2[k]'(by omega) = f at hf hb
        generalize a.2.2.2.1[k]'(by omega) = v at hv hb
        cases f with
        | none =>
          rw [(int_ k v u hv hu hf).1]
          rfl
        | some r =>
          have e := of_decide_eq_true hb
          obtain ⟨u', hu', gu⟩ := zL2.get gf hv
          rw [hu] at hu'
          cases hu'
          rw [e] at gu
          rw [zg_ref rfl gu]
          rfl
    · obtain ⟨u, hu, gu⟩ := zL2.get gf hv
      have hk := (List.getElem?_eq_some_iff.mp hv).1
      have hf : t.2.2[k]? = some (t.2.2[k]'(by omega)) := List.getElem?_eq_getElem (by omega)
      have hb := l2 k _ _ hv hf
      generalize t.2.2[k]'(by omega) = f at hf hb
      cases f with
      | none =>
        obtain ⟨e1, e2⟩ := int_ k v u hv hu hf
        rw [← e1]
        exact e2
      | some r =>
        have e := of_decide_eq_true hb
        rw [e] at h60
        omega
    · obtain ⟨e, ef⟩ := of_decide_eq_true (List.all_eq_true.mp c4 q hq)
      obtain ⟨-, n, gs, z1, z2⟩ := gz q hq
      rw [e] at z1
      have z1 : (zy_hp s)[((i : Int)).toNat]? = some (.inr (n, gs)) := z1
      rw [Int.toNat_natCast, zy_at ht] at z1
      have z3 : zy_cl s i t = .inr (t.2.1, zy_fs s i t.2.2) := by unfold zy_cl; rw [if_pos t0]
      rw [z3] at z1
      cases z1
      rw [zy_fs_get ef] at z2
      rw [rd, z2]
      rfl
  · next t0 =>
    split at hc
    · next t1 =>
      have ecl : ∀ u : zy_S, zy_cl u i t = .inl (0, t.2.1, z_I (u.1 i)) := fun u => by unfold zy_cl; rw [if_neg t0, if_pos t1]
      have key : ∀ f : Nat → Int32, c = .inl (0, t.2.1, z_I f) → (zrdS ph).1 i = f := by
        intro f e
        funext k
        show (match ph[i]? with | some (.inr (_, fs)) => (match fs[k]? with | some (.int x) => x | _ => 0) | some (.inl (_, _, .inl f)) => f k | _ => 0) = _
        rw [hx, e]
        rfl
      rcases zw_or hc with hc | hc
      · obtain ⟨a0, a1, -⟩ := of_decide_eq_true hc
        rcases g with ⟨-, g, -⟩ | ⟨g1, -⟩ | ⟨g1, -⟩ | ⟨g1, -⟩ | ⟨g1, -⟩
        · rw [a1, zy_at ht, ecl s] at g
          have e := (Option.some.inj g).symm
          have k := key _ e
          refine ⟨by rw [ecl, k]; exact e, fun h => by omega, fun _ t' ht' => ?_, fun h => by omega⟩
          rw [ht] at ht'
          cases ht'
          exact ⟨fun _ => k, fun h => by omega⟩
        all_goals omega
      · obtain ⟨a0, a1, a2, a3, a4⟩ := of_decide_eq_true hc
        obtain ⟨f, e, gf, -⟩ := zg_CI a0 a1 g
        rw [a2] at e
        have k := key _ e
        refine ⟨by rw [ecl, k]; exact e, fun h => by omega, fun h => by omega, fun _ _ j hj => ?_⟩
        rw [k]
        exact gf j hj
    · next t1 =>
      split at hc
      · next t2 =>
        have ecl : ∀ u : zy_S, zy_cl u i t = .inl (1, t.2.1, z_J (u.2.1 i)) := fun u => by unfold zy_cl; rw [if_neg t0, if_neg t1, if_pos t2]
        have key : ∀ f : Nat → Int64, c = .inl (1, t.2.1, z_J f) → (zrdS ph).2.1 i = f := by
          intro f e
          funext k
          show (match ph[i]? with | some (.inl (_, _, .inr (.inl f))) => f k | _ => 0) = _
          rw [hx, e]
          rfl
        rcases zw_or hc with hc | hc
        · obtain ⟨a0, a1, -⟩ := of_decide_eq_true hc
          rcases g with ⟨-, g, -⟩ | ⟨g1, -⟩ | ⟨g1, -⟩ | ⟨g1, -⟩ | ⟨g1, -⟩
          · rw [a1, zy_at ht, ecl s] at g
            have e := (Option.some.inj g).symm
            have k := key _ e
            refine ⟨by rw [ecl, k]; exact e, fun h => by omega, fun _ t' ht' => ?_, fun h => by omega⟩
            rw [ht] at ht'
            cases ht'
            exact ⟨fun h => by omega, fun _ => k⟩
          all_goals omega
        · obtain ⟨a0, a1, a2, a3, a4⟩ := of_decide_eq_true hc
          obtain ⟨f, e, gf, -⟩ := zg_CJ a0 a1 g
          rw [a2] at e
          have k := key _ e
          exact ⟨by rw [ecl, k]; exact e, fun h => by omega, fun h => by omega, fun _ h => by omega⟩
      · next t2 =>
        obtain ⟨t3, a0, a1, a2, a3, a4, a5⟩ := of_decide_eq_true hc
        obtain ⟨f, e, gf, -⟩ := zg_CO a0 a1 g
        have ei := h30 t3
        subst ei
        have k : (zrdS ph).2.2 = f := by
          show (match ph[(30 : Nat)]? with | some (.inl (_, _, .inr (.inr (.inr (.inr f))))) => f | _ => fun _ => none) = _
          rw [hx, e]
          rfl
        have ecl : zy_cl (zrdS ph) 30 t = .inl (2, t.2.1, z_O (zrdS ph).2.2) := by unfold zy_cl; rw [if_neg t0, if_neg t1, if_neg t2]
        exact ⟨by rw [ecl, k, a3, ← a2]; exact e, fun h => by omega, fun h => by omega, fun _ h => by omega⟩
theorem z30_of {i : Nat} {t : zy_T} (h : zy_tm[i]? = some t) (h3 : t.1 = 3) : i = 30 := by
  have k : (List.range 64).all (fun i => match zy_tm[i]? with | some t => !(Nat.beq t.1 3) || Nat.beq i 30 | none => true) = true := by decide +kernel
  have hl : i < 64 := (List.getElem?_eq_some_iff.mp h).1
  have := List.all_eq_true.mp k i (List.mem_range.mpr hl)
  rw [h] at this
  rcases zw_or this with e | e
  · rw [h3] at e; cases e
  · exact Nat.eq_of_beq_eq_true e
/-- any heap that fits is the functions' -/
theorem zb_back {w : Bool} {s : zy_S} {H : zA_H} (hA : zbA w 0 H zy_tm = true) {ρ : List Int} {ph : List z_C} (g : zL2 (zg_C (zy_hp s) ρ) H ph) : ph = zy_hp (zrdS ph) ∧ ∀ (i : Nat) (a : zA_C), H[i]? = some a → zbK s (zrdS ph) ρ i a := by
  have hl := (zbA_at hA).1
  have hlen := zL2.len g
  constructor
  · apply List.ext_getElem?
    intro i
    cases hx : ph[i]? with
    | none =>
      have := List.getElem?_eq_none_iff.mp hx
      rw [List.getElem?_eq_none (by simp [zy_hp_eq]; omega)]
    | some c =>
      obtain ⟨a, ha, gc⟩ := zL2.getR g hx
      obtain ⟨t, ht, hc⟩ := zbH_at hA ha
      rw [zy_at ht]
      rw [← (zb_cell ht hc hx gc (z30_of ht)).1]
  · intro i a ha
    obtain ⟨c, hx, gc⟩ := zL2.get g ha
    obtain ⟨t, ht, hc⟩ := zbH_at hA ha
    exact (zb_cell ht hc hx gc (z30_of ht)).2
theorem zb_W {s : zy_S} {H : zA_H} (h30 : H[30]? = zHT[30]?) {ρ : List Int} {ph : List z_C} (g : zL2 (zg_C (zy_hp s) ρ) H ph) : zy_W (zrdS ph) := by
  have ha : zHT[30]? = some (1, 2, 6, [(3, 0)], [(5, (2, 44)), (4, (2, 42)), (3, (2, 40)), (2, (2, 38)), (1, (2, 36)), (0, (2, 34))]) := rfl
  rw [ha] at h30
  obtain ⟨c, hx, gc⟩ := zL2.get g h30
  obtain ⟨f, e, gf, -⟩ := zg_CO rfl rfl gc
  have k : (zrdS ph).2.2 = f := by
    show (match ph[(30 : Nat)]? with | some (.inl (_, _, .inr (.inr (.inr (.inr f))))) => f | _ => fun _ => none) = _
    rw [hx, e]
    rfl
  intro j hj
  rw [k]
  have back : ∀ r : Nat, zg_V ρ ((2, (r : Int)) : zA_V) (z_rf (f j)) → f j = some r := by
    intro r gr
    have e := zg_ref rfl gr
    cases hf : f j with
    | none => rw [hf] at e; cases e
    | some q =>
      rw [hf] at e
      have e : Value.ref q = .ref ((r : Int)).toNat := e
      cases e
      rw [Int.toNat_natCast]
  have gj := gf j hj
  rcases (by omega : j = 0 ∨ j = 1 ∨ j = 2 ∨ j = 3 ∨ j = 4 ∨ j = 5) with rfl | rfl | rfl | rfl | rfl | rfl
  · exact back 34 gj
  · exact back 36 gj
  · exact back 38 gj
  · exact back 40 gj
  · exact back 42 gj
  · exact back 44 gj
end
section
/-! PART 43.0: what holds between two calls. -/
/-! what the two sides have alike -/
def zR1 (s : zy_S) : Prop := s.1 1 5 = s.1 43 6 ∧ zin (s.1 1 5) 0 8
def zR2 (s : zy_S) : Prop := ∀ p, p < 8 → s.1 3 p = s.1 44 p ∧ zin (s.1 3 p) 0 4095
def zR3 (s : zy_S) : Prop := ∀ p, p < 8 → s.1 4 p = s.1 44 (8 + p) ∧ zin (s.1 4 p) 0 9
def zR4 (s : zy_S) : Prop := ∀ p, p < 24 → s.1 2 p = s.1 44 (16 + p) ∧ zin (s.1 2 p) 0 9
def zR5 (s : zy_S) : Prop := s.1 1 4 = s.1 44 40 ∧ zin (s.1 1 4) 1 9
def zR6 (s : zy_S) : Prop := s.1 1 3 = s.1 43 7 ∧ zin (s.1 1 3) 0 16777215
def zR7 (s : zy_S) : Prop := ∀ p, p < 5 → s.1 18 p = s.1 54 p
def zR8 (s : zy_S) : Prop := (s.1 17 2 = s.1 43 22 ∧ zin (s.1 17 2) 0 1) ∧ (s.1 17 3 = s.1 43 24 ∧ zin (s.1 17 3) 0 16777215) ∧ s.1 17 4 = s.1 43 23 ∧ zin (s.1 17 4) 0 (s.1 1 5).toInt
def zR9 (s : zy_S) : Prop := ∀ p : Nat, (p : Int) < (s.1 17 4).toInt → s.1 20 p = s.1 55 p ∧ zin (s.1 20 p) 0 4095
def zR10 (s : zy_S) : Prop := ∀ p, p < 24 → s.1 19 p = s.1 56 p ∧ zin (s.1 19 p) 0 9
def zR11 (s : zy_S) : Prop := ∀ p, p < 5 → s.1 21 p = s.1 57 p
def zR12 (s : zy_S) : Prop := s.1 22 5 = s.1 43 5 ∧ s.1 22 6 = s.1 43 4 ∧ 0 ≤ (s.1 22 5).toInt ∧ (s.1 22 5).toInt ≤ (s.1 22 6).toInt ∧ (s.1 22 6).toInt ≤ 40
/-- a change: of what, whose, from, to; where, from, to -/
def zRow (pe w n b a q c e : Int32) : Prop := b = c ∧ a = e ∧
  ((w.toInt = 0 ∧ 0 ≤ n.toInt ∧ n.toInt < pe.toInt ∧ q.toInt = n.toInt ∧ zin b 0 4095 ∧ zin a 0 4095) ∨ (w.toInt = 1 ∧ 0 ≤ n.toInt ∧ n.toInt < pe.toInt ∧ q.toInt = 8 + n.toInt ∧ zin b 0 9 ∧ zin a 0 9) ∨
  (w.toInt = 2 ∧ 0 ≤ n.toInt ∧ n.toInt < 24 ∧ q.toInt = 16 + n.toInt ∧ zin b 0 9 ∧ zin a 0 9) ∨ (w.toInt = 3 ∧ q.toInt = 40 ∧ zin b 1 9 ∧ zin a 1 9))
def zR13 (s : zy_S) : Prop := ∀ p : Nat, (p : Int) < (s.1 22 6).toInt → zRow (s.1 1 5) (s.1 23 p) (s.1 24 p) (s.1 25 p) (s.1 26 p) (s.1 45 p) (s.1 46 p) (s.1 47 p)
def zR14 (s : zy_S) : Prop := s.1 27 2 = s.1 43 28 ∧ zin (s.1 27 2) 0 50
def zR15 (s : zy_S) : Prop := ∀ p, p < 50 → s.1 28 p = s.1 58 p ∧ zin (s.1 28 p) 0 7
def zR16 (s : zy_S) : Prop := s.1 27 3 = s.1 43 31 ∧ zin (s.1 27 3) 0 100000
def zR17 (s : zy_S) : Prop := ∀ p, p < 24 → s.1 29 p = s.1 59 p
def zR18 (s : zy_S) : Prop := s.1 9 2 = s.1 43 9 ∧ zin (s.1 9 2) 0 120
def zR19 (s : zy_S) : Prop := (∀ p, p < 120 → s.1 10 p = s.1 48 p ∧ zin (s.1 10 p) 0 255) ∧ zLw (s.1 5 3) (s.1 43 11) (s.1 6) (s.1 49)
/-- a shelf: bodies, its body, sort, length; what it holds, how many -/
def zShelf (nb b t n h k : Int32) : Prop := n = k ∧ zin n 0 60 ∧ ((t.toInt = -1 ∧ b = h ∧ -1 ≤ b.toInt ∧ b.toInt < nb.toInt ∧ n.toInt = 0) ∨ (zin t 0 4 ∧ b.toInt = -1 ∧ h.toInt = 50 + t.toInt))
def zR20 (s : zy_S) : Prop := ∀ d, d < 6 → zShelf (s.1 27 2) (s.1 (zy_sh d) 1) (s.1 (zy_sh d) 2) (s.1 (zy_sh d) 3) (s.1 60 d) (s.1 61 d)
/-- what a row of a sort may hold -/
def zfit (t : Int32) (v : Int64) : Prop := (t.toInt = 0 → -128 ≤ v.toInt ∧ v.toInt ≤ 127) ∧ (t.toInt = 1 → -32768 ≤ v.toInt ∧ v.toInt ≤ 32767)
def zR21 (s : zy_S) : Prop := ∀ d, d < 6 → ∀ j, j < 60 → s.2.1 (zy_sh d + 1) j = s.2.1 62 (60 * d + j) ∧ zfit (s.1 (zy_sh d) 2) (s.2.1 (zy_sh d + 1) j)
def zI (s : zy_S) : Prop := zy_Wb s = true ∧ zRg s ∧ zR1 s ∧ zR2 s ∧ zR3 s ∧ zR4 s ∧ zR5 s ∧ zR6 s ∧ zR7 s ∧ zR8 s ∧ zR9 s ∧ zR10 s ∧ zR11 s ∧ zR12 s ∧ zR13 s ∧ zR14 s ∧ zR15 s ∧ zR16 s ∧ zR17 s ∧ zR18 s ∧ zR19 s ∧ zR20 s ∧ zR21 s
theorem zy_Wb_of {s : zy_S} (h : zy_W s) : zy_Wb s = true := List.all_eq_true.mpr (fun k hk => decide_eq_true (h k (List.mem_range.mp hk)))
theorem zto_sh {d : Nat} (h : d < 6) : zto (zy_sh d) 1 = true ∧ zto (zy_sh d) 2 = true ∧ zto (zy_sh d) 3 = true := by
  rcases (by omega : d = 0 ∨ d = 1 ∨ d = 2 ∨ d = 3 ∨ d = 4 ∨ d = 5) with rfl | rfl | rfl | rfl | rfl | rfl <;> exact ⟨rfl, rfl, rfl⟩
/-- it holds of all that is alike in told places -/
theorem zI_same {s t : zy_S} (h : zI s) (hW : zy_Wb t = true) (hg : zRg t) (e : ∀ c k, zto c k = true → t.1 c k = s.1 c k) (e2 : ∀ d, d < 6 → t.2.1 (zy_sh d + 1) = s.2.1 (zy_sh d + 1)) (e62 : t.2.1 62 = s.2.1 62) : zI t := by
  obtain ⟨hw, hg0, h1, h2, h3, h4, h5, h6, h7, h8, h9, h10, h11, h12, h13, h14, h15, h16, h17, h18, h19, h20, h21⟩ := h
  refine ⟨hW, hg, ?_, ?_, ?_, ?_, ?_, ?_, ?_, ?_, ?_, ?_, ?_, ?_, ?_, ?_, ?_, ?_, ?_, ?_, ?_, ?_, ?_⟩
  · unfold zR1
    rw [e 1 5 rfl, e 43 6 rfl]
    exact h1
  · unfold zR2
    intro p hp
    rw [e 3 p rfl, e 44 p rfl]
    exact h2 p hp
  · unfold zR3
    intro p hp
    rw [e 4 p rfl, e 44 (8 + p) rfl]
    exact h3 p hp
  · unfold zR4
    intro p hp
    rw [e 2 p rfl, e 44 (16 + p) rfl]
    exact h4 p hp
  · unfold zR5
    rw [e 1 4 rfl, e 44 40 rfl]
    exact h5
  · unfold zR6
    rw [e 1 3 rfl, e 43 7 rfl]
    exact h6
  · unfold zR7
    intro p hp
    rw [e 18 p rfl, e 54 p rfl]
    exact h7 p hp
  · unfold zR8
    rw [e 17 2 rfl, e 43 22 rfl, e 17 3 rfl, e 43 24 rfl, e 17 4 rfl, e 43 23 rfl, e 1 5 rfl]
    exact h8
  · intro p hp
    rw [e 17 4 rfl] at hp
    rw [e 20 p rfl, e 55 p rfl]
    exact h9 p hp
  · unfold zR10
    intro p hp
    rw [e 19 p rfl, e 56 p rfl]
    exact h10 p hp
  · unfold zR11
    intro p hp
    rw [e 21 p rfl, e 57 p rfl]
    exact h11 p hp
  · unfold zR12
    rw [e 22 5 rfl, e 43 5 rfl, e 22 6 rfl, e 43 4 rfl]
    exact h12
  · intro p hp
    rw [e 22 6 rfl] at hp
    rw [e 1 5 rfl, e 23 p rfl, e 24 p rfl, e 25 p rfl, e 26 p rfl, e 45 p rfl, e 46 p rfl, e 47 p rfl]
    exact h13 p hp
  · unfold zR14
    rw [e 27 2 rfl, e 43 28 rfl]
    exact h14
  · unfold zR15
    intro p hp
    rw [e 28 p rfl, e 58 p rfl]
    exact h15 p hp
  · unfold zR16
    rw [e 27 3 rfl, e 43 31 rfl]
    exact h16
  · unfold zR17
    intro p hp
    rw [e 29 p rfl, e 59 p rfl]
    exact h17 p hp
  · unfold zR18
    rw [e 9 2 rfl, e 43 9 rfl]
    exact h18
  · unfold zR19
    refine ⟨fun p hp => ?_, ?_⟩
    · rw [e 10 p rfl, e 48 p rfl]
      exact h19.1 p hp
    · rw [e 5 3 rfl, e 43 11 rfl, show t.1 6 = s.1 6 from funext fun k => e 6 k rfl, show t.1 49 = s.1 49 from funext fun k => e 49 k rfl]
      exact h19.2
  · intro d hd
    obtain ⟨t1, t2, t3⟩ := zto_sh hd
    rw [e 27 2 rfl, e _ _ t1, e _ _ t2, e _ _ t3, e 60 d rfl, e 61 d rfl]
    exact h20 d hd
  · intro d hd j hj
    obtain ⟨t1, t2, t3⟩ := zto_sh hd
    rw [e _ _ t2, e2 d hd, e62]
    exact h21 d hd j hj
end
section
/-! PART 19x.0b: contracts that leave what is told, as runs over the functions. -/
theorem zH_rg {ρ : List Int} {s t : zy_S} (hg : zRg s) (h : ∀ (i : Nat) (a : zA_C), zHT[i]? = some a → zbK s t ρ i a) : zRg t := by
  intro c k hk
  have hlen : zHT.length = zy_tm.length := (zbA_at zb_all).1
  have hc : c < zy_tm.length := by
    rcases Nat.lt_or_ge c zy_tm.length with q | q
    · exact q
    · unfold zrn at hk
      rw [List.getElem?_eq_none (by omega)] at hk
      cases hk
  have ha : zHT[c]? = some (zHT[c]'(by omega)) := List.getElem?_eq_getElem (by omega)
  generalize zHT[c]'(by omega) = a at ha
  obtain ⟨ht0, ht, hcc⟩ := zbH_at zb_all ha
  obtain ⟨k0, k8, k1⟩ := h c a ha
  have wide : ∀ v : zA_V, zrv c k = v → (v.1 = 6 → zg_V ρ v (.int (t.1 c k))) → zin (t.1 c k) (zrg c k).1 (zrg c k).2 := by
    intro v hv gv
    by_cases h6 : v.1 = 6
    · obtain ⟨x, ex, b1, b2⟩ := zvW_inv h6 (gv h6)
      cases ex
      obtain ⟨q1, q2⟩ := zrg_6 hv h6
      exact ⟨by rw [q1]; exact b1, by rw [q2]; exact b2⟩
    · have e : zrg c k = (-2147483648, 2147483647) := by
        unfold zrg zbd2
        rw [hv, if_neg h6]
      rw [e]
      exact ⟨zq_lo _, zq_hi _⟩
  by_cases h0 : a.1 = 0
  · cases hv : a.2.2.2.1[k]? with
    | none =>
      refine wide (3, 0) ?_ (fun h => absurd h (by decide))
      unfold zrv
      rw [ha]
      dsimp only
      rw [if_pos h0, hv]
      rfl
    | some v => exact wide v (zrv_f ha h0 hv) (fun h6 => (k0 h0).1 k v hv (Or.inl h6))
  · by_cases h8 : a.1 = 8
    · have hkt := k8 h8 ht0 ht
      unfold zbC at hcc
      by_cases t1 : ht0.1 = 1
      · rw [hkt.1 t1]
        exact hg c k hk
      · refine wide _ (zrv_a ha h0) (fun h6 => ?_)
        exfalso
        split at hcc
        · have := (of_decide_eq_true (zw_and hcc).1).1
          omega
        · split at hcc
          · rcases zw_or hcc with hcc | hcc
            · obtain ⟨-, -, -, a3, a4⟩ := of_decide_eq_true hcc
              unfold zx_el at h6
              rw [a4] at h6
              have h6 : (zbh a).1 = 6 := h6
              omega
            · have := (of_decide_eq_true hcc).1
              omega
          · have := (of_decide_eq_true hcc).2.1
            omega
    · unfold zbC at hcc
      split at hcc
      · have := (of_decide_eq_true (zw_and hcc).1).1
        omega
      · next t0 =>
        split at hcc
        · next t1 =>
          rcases zw_or hcc with hcc | hcc
          · have := (of_decide_eq_true hcc).1
            omega
          · obtain ⟨a0, a1, a2, a3, a4⟩ := of_decide_eq_true hcc
            refine wide _ (zrv_a ha h0) (fun _ => k1 a0 a1 k ?_)
            rw [zrn_of ht, if_neg t0] at hk
            omega
        · next t1 =>
          refine wide _ (zrv_a ha h0) (fun h6 => ?_)
          exfalso
          split at hcc
          · rcases zw_or hcc with hcc | hcc
            · have := (of_decide_eq_true hcc).1
              omega
            · obtain ⟨-, -, -, a3, a4⟩ := of_decide_eq_true hcc
              unfold zx_el at h6
              rw [a4] at h6
              have h6 : (zbh a).1 = 6 := h6
              omega
          · obtain ⟨-, a0, a1, a2, a3, a4, a5⟩ := of_decide_eq_true hcc
            unfold zx_el at h6
            rw [a5] at h6
            have hk6 : k < 6 := by rw [zrn_of ht, if_neg t0, a3] at hk; exact hk
            rcases (by omega : k = 0 ∨ k = 1 ∨ k = 2 ∨ k = 3 ∨ k = 4 ∨ k = 5) with rfl | rfl | rfl | rfl | rfl | rfl <;> exact absurd (show (2 : Nat) = 6 from h6) (by decide)
theorem zH_to {ρ : List Int} {s t : zy_S} (h : ∀ (i : Nat) (a : zA_C), zHT[i]? = some a → zbK s t ρ i a) {c k : Nat} (hc : zto c k = true) : t.1 c k = s.1 c k := by
  unfold zto at hc
  split at hc
  · next a ha =>
    obtain ⟨k0, k8, -⟩ := h c a ha
    split at hc
    · next h0 =>
      obtain ⟨q, hq, e⟩ := List.any_eq_true.mp hc
      have e := Nat.eq_of_beq_eq_true e
      rw [← e]
      exact (k0 h0).2 q hq
    · obtain ⟨e1, e2⟩ := zw_and hc
      have h8 : a.1 = 8 := by simpa using e1
      have e2 : ¬ (zbh a).1 = 8 := by simpa using e2
      obtain ⟨t0, ht, hcc⟩ := zbH_at zb_all ha
      have t1 : t0.1 = 1 := by
        unfold zbC at hcc
        split at hcc
        · have := (of_decide_eq_true (zw_and hcc).1).1
          omega
        · split at hcc
          · assumption
          · split at hcc
            · rcases zw_or hcc with hcc | hcc
              · exact absurd (of_decide_eq_true hcc).2.2.2.1 e2
              · have := (of_decide_eq_true hcc).1
                omega
            · have := (of_decide_eq_true hcc).2.1
              omega
      rw [(k8 h8 t0 ht).1 t1]
  · cases hc
theorem zH_J {ρ : List Int} {s t : zy_S} (h : ∀ (i : Nat) (a : zA_C), zHT[i]? = some a → zbK s t ρ i a) : (∀ d, d < 6 → t.2.1 (zy_sh d + 1) = s.2.1 (zy_sh d + 1)) ∧ t.2.1 62 = s.2.1 62 := by
  refine ⟨fun d hd => ?_, ((h 62 _ rfl).2.1 rfl _ rfl).2 rfl⟩
  rcases (by omega : d = 0 ∨ d = 1 ∨ d = 2 ∨ d = 3 ∨ d = 4 ∨ d = 5) with rfl | rfl | rfl | rfl | rfl | rfl
  · exact ((h 32 _ rfl).2.1 rfl _ rfl).2 rfl
  · exact ((h 34 _ rfl).2.1 rfl _ rfl).2 rfl
  · exact ((h 36 _ rfl).2.1 rfl _ rfl).2 rfl
  · exact ((h 38 _ rfl).2.1 rfl _ rfl).2 rfl
  · exact ((h 40 _ rfl).2.1 rfl _ rfl).2 rfl
  · exact ((h 42 _ rfl).2.1 rfl _ rfl).2 rfl
/-- a heap as it is between calls, with what was told -/
theorem zI_back {s : zy_S} (h : zI s) {ρ : List Int} {ph : List z_C} (g : zL2 (zg_C (zy_hp s) ρ) zHT ph) : ph = zy_hp (zrdS ph) ∧ zI (zrdS ph) := by
  obtain ⟨e, k⟩ := zb_back zb_all g
  have hJ := zH_J k
  exact ⟨e, zI_same h (zy_Wb_of (zb_W rfl g)) (zH_rg h.2.1 k) (fun c k' hc => zH_to k hc) hJ.1 hJ.2⟩
/-- what a method returns: nothing, an int, a long -/
def zrk (k : Nat) (u : Option Value) : Prop := if k = 0 then u = none else if k = 1 then ∃ x : Int32, u = some (.int x) else ∃ x : Int64, u = some (.long x)
def zrkB (k : Nat) (r : Option zA_V) : Bool := match r with
  | none => decide (k = 0)
  | some a => (decide (k = 1) && zIs a) || (decide (k = 2) && zIsJ a)
theorem zrk_g {k : Nat} {r : Option zA_V} {v : Option Value} {ρ : List Int} (h : zrkB k r = true) (g : zg_R ρ r v) : zrk k v := by
  unfold zrkB at h
  cases r with
  | none =>
    have e := of_decide_eq_true h
    subst e
    cases v with
    | none => exact rfl
    | some u => exact g.elim
  | some a =>
    cases v with
    | none => exact g.elim
    | some u =>
      rcases zw_or h with h | h
      · obtain ⟨h1, h2⟩ := zw_and h
        have e := of_decide_eq_true h1
        subst e
        obtain ⟨x, rfl, -⟩ := zg_int h2 g
        exact ⟨x, rfl⟩
      · obtain ⟨h1, h2⟩ := zw_and h
        have e := of_decide_eq_true h1
        subst e
        obtain ⟨x, rfl, -⟩ := zg_long h2 g
        exact ⟨x, rfl⟩
/-- a contract whose ends are such heaps -/
theorem zcR {m d rk : Nat} {te : zA_T} {gs : List Nat} {al : List zAlt} (hc : zCon m d te gs al) (ha : al.all (fun alt => zfrL 0 alt.2.2.1 zHT && zrkB rk alt.2.2.2) = true) (eH : zfrL 0 te.2.1 zHT = true) (e2 : te.2.2.2.2 = zmc m) {s : zy_S} (h : zI s) {ρ : List Int} {L : List (Option Value)} (gS : zg_S ρ te.1) (gL : zg_L ρ te.2.2.1 (zy_lf 0 L)) (e0 : te.2.2.2.1 = []) (X : zx_X) : zyR X d m 0 L [] s (fun u t => zI t ∧ zrk rk u) := by
  intro l Q hQ
  have gT : ∀ ρ', zL2 (zg_C (zy_hp s) ρ') zHT (zy_hp s) := fun ρ' => zL2.mono (fun _ _ => zg_C.mono (fun k n q => by simp at q)) (zb_to h.2.1 (zy_Wb_g h.1))
  have hφ : ∀ k, (zy_hp s)[0 + k]? = (zy_hp s)[k]? := fun k => by rw [Nat.zero_add]
  have gH := zfrL_to eH hφ (gT ρ)
  have := hc l X (zy_hp s) Q ρ (zy_hp s) (zy_lf 0 L) ⟨gS, gH, gL, by rw [e0]; trivial, zg_Xno _ _ _ (by decide) (by decide)⟩ (fun alt hal vals _ v ph' g gR => by
    obtain ⟨a1, a2⟩ := zw_and (List.all_eq_true.mp ha alt hal)
    have g := zfrL_back a1 hφ (gT vals) g
    obtain ⟨e, k⟩ := zI_back h g
    rw [e]
    exact hQ v _ ⟨k, zrk_g a2 gR⟩)
  rw [e2] at this
  exact this
end
section
/-! PART 19x.1: what small methods answer. Made by wip/v4/gen_x.py. -/
def zqb (b : Bool) : Int32 := bif b then 1 else 0
theorem zqb_01 (b : Bool) : zqb b = 0 ∨ zqb b = 1 := by cases b; exact Or.inl rfl; exact Or.inr rfl
theorem zqb_n0 (b : Bool) : (zqb b ≠ 0) = (b = true) := by cases b <;> simp [zqb]
theorem zqb_e0 (b : Bool) : (zqb b = 0) = (b = false) := by cases b <;> simp [zqb]
theorem zqb_t0 (b : Bool) : ((zqb b).toInt = 0) = (b = false) := by cases b <;> simp [zqb]
theorem zqb_if01 {α : Type} (b : Bool) (x y : α) : (if zqb b = 0 ∨ zqb b = 1 then x else y) = x := if_pos (zqb_01 b)
theorem zqb_t {b : Bool} (h : b = true) : zqb b = 1 := by rw [h]; rfl
theorem zqb_f {b : Bool} (h : b = false) : zqb b = 0 := by rw [h]; rfl
theorem zqb_d {p : Prop} {hp : Decidable p} {x : Int32} {s : zy_S} {a : Option (Int32 × zy_S)} (h1 : p → a = some (1, s)) (h2 : ¬ p → a = some (0, s)) : a = some (zqb (decide p), s) := by
  by_cases h : p
  · rw [decide_eq_true h]; exact h1 h
  · rw [decide_eq_false h]; exact h2 h
theorem zq_l0 : (0 : Int32).toInt = 0 := rfl
theorem zq_lm1 : (-1 : Int32).toInt = -1 := rfl
theorem zq_l1 : (1 : Int32).toInt = 1 := rfl
theorem zq_l2 : (2 : Int32).toInt = 2 := rfl
theorem zq_l3 : (3 : Int32).toInt = 3 := rfl
theorem zq_l4 : (4 : Int32).toInt = 4 := rfl
theorem zq_l5 : (5 : Int32).toInt = 5 := rfl
theorem zq_l6 : (6 : Int32).toInt = 6 := rfl
theorem zq_l7 : (7 : Int32).toInt = 7 := rfl
theorem zq_l8 : (8 : Int32).toInt = 8 := rfl
theorem zq_l9 : (9 : Int32).toInt = 9 := rfl
theorem zq_l12 : (12 : Int32).toInt = 12 := rfl
theorem zq_l16 : (16 : Int32).toInt = 16 := rfl
theorem zq_l23 : (23 : Int32).toInt = 23 := rfl
theorem zq_l24 : (24 : Int32).toInt = 24 := rfl
theorem zq_l40 : (40 : Int32).toInt = 40 := rfl
theorem zq_l39 : (39 : Int32).toInt = 39 := rfl
theorem zq_l50 : (50 : Int32).toInt = 50 := rfl
theorem zq_l51 : (51 : Int32).toInt = 51 := rfl
theorem zq_l60 : (60 : Int32).toInt = 60 := rfl
theorem zq_l120 : (120 : Int32).toInt = 120 := rfl
theorem zq_l128 : (128 : Int32).toInt = 128 := rfl
theorem zq_l255 : (255 : Int32).toInt = 255 := rfl
theorem zq_l4095 : (4095 : Int32).toInt = 4095 := rfl
theorem zq_l4096 : (4096 : Int32).toInt = 4096 := rfl
theorem zq_j0 : (0 : Int64).toInt = 0 := rfl
theorem zq_j1 : (1 : Int64).toInt = 1 := rfl
theorem zq_j4 : (4 : Int64).toInt = 4 := rfl
theorem zq_j5 : (5 : Int64).toInt = 5 := rfl
theorem zq_j7 : (7 : Int64).toInt = 7 := rfl
theorem zq_j8 : (8 : Int64).toInt = 8 := rfl
theorem zq_j9 : (9 : Int64).toInt = 9 := rfl
theorem zq_j23 : (23 : Int64).toInt = 23 := rfl
theorem zq_j255 : (255 : Int64).toInt = 255 := rfl
theorem zq_j4095 : (4095 : Int64).toInt = 4095 := rfl
theorem zys18 (x : Int32) (s : zy_S) : zyF18 x s = some (zqb (decide (0 ≤ x.toInt ∧ x.toInt ≤ 5)), s) := by
  unfold zyF18
  simp only [ne_eq, zq_eq, Int32.lt_iff_toInt_lt, Int32.le_iff_toInt_le, zq_l0, zq_lm1, zq_l1, zq_l2, zq_l3, zq_l4, zq_l5, zq_l6, zq_l7, zq_l8, zq_l9, zq_l12, zq_l16, zq_l23, zq_l24, zq_l40, zq_l39, zq_l50, zq_l51, zq_l60, zq_l120, zq_l128, zq_l255, zq_l4095, zq_l4096, zqb_t0, Classical.not_not, Bool.not_eq_false, decide_eq_true_eq, decide_eq_false_iff_not]
  refine zqb_d (x := 0) (fun h => ?_) (fun h => ?_)
  all_goals
    repeat' split
  all_goals first | rfl | (exfalso; omega)
theorem zys26 (x : Int32) (s : zy_S) : zyF26 x s = some (zqb (decide (0 ≤ x.toInt ∧ x.toInt ≤ 23)), s) := by
  unfold zyF26
  simp only [ne_eq, zq_eq, Int32.lt_iff_toInt_lt, Int32.le_iff_toInt_le, zq_l0, zq_lm1, zq_l1, zq_l2, zq_l3, zq_l4, zq_l5, zq_l6, zq_l7, zq_l8, zq_l9, zq_l12, zq_l16, zq_l23, zq_l24, zq_l40, zq_l39, zq_l50, zq_l51, zq_l60, zq_l120, zq_l128, zq_l255, zq_l4095, zq_l4096, zqb_t0, Classical.not_not, Bool.not_eq_false, decide_eq_true_eq, decide_eq_false_iff_not]
  refine zqb_d (x := 0) (fun h => ?_) (fun h => ?_)
  all_goals
    repeat' split
  all_goals first | rfl | (exfalso; omega)
theorem zys149 (x : Int32) (s : zy_S) : zyF149 x s = some (zqb (decide (0 ≤ x.toInt ∧ x.toInt ≤ 7)), s) := by
  unfold zyF149
  simp only [ne_eq, zq_eq, Int32.lt_iff_toInt_lt, Int32.le_iff_toInt_le, zq_l0, zq_lm1, zq_l1, zq_l2, zq_l3, zq_l4, zq_l5, zq_l6, zq_l7, zq_l8, zq_l9, zq_l12, zq_l16, zq_l23, zq_l24, zq_l40, zq_l39, zq_l50, zq_l51, zq_l60, zq_l120, zq_l128, zq_l255, zq_l4095, zq_l4096, zqb_t0, Classical.not_not, Bool.not_eq_false, decide_eq_true_eq, decide_eq_false_iff_not]
  refine zqb_d (x := 0) (fun h => ?_) (fun h => ?_)
  all_goals
    repeat' split
  all_goals first | rfl | (exfalso; omega)
theorem zys154 (x : Int32) (s : zy_S) : zyF154 x s = some (zqb (decide (0 ≤ x.toInt ∧ x.toInt < (s.1 27 2).toInt)), s) := by
  unfold zyF154
  simp only [ne_eq, zq_eq, Int32.lt_iff_toInt_lt, Int32.le_iff_toInt_le, zq_l0, zq_lm1, zq_l1, zq_l2, zq_l3, zq_l4, zq_l5, zq_l6, zq_l7, zq_l8, zq_l9, zq_l12, zq_l16, zq_l23, zq_l24, zq_l40, zq_l39, zq_l50, zq_l51, zq_l60, zq_l120, zq_l128, zq_l255, zq_l4095, zq_l4096, zqb_t0, Classical.not_not, Bool.not_eq_false, decide_eq_true_eq, decide_eq_false_iff_not]
  refine zqb_d (x := 0) (fun h => ?_) (fun h => ?_)
  all_goals
    repeat' split
  all_goals first | rfl | (exfalso; omega)
theorem zys150 (s : zy_S) : zyF150  s = some (zqb (decide (50 ≤ (s.1 27 2).toInt)), s) := by
  unfold zyF150
  simp only [ne_eq, zq_eq, Int32.lt_iff_toInt_lt, Int32.le_iff_toInt_le, zq_l0, zq_lm1, zq_l1, zq_l2, zq_l3, zq_l4, zq_l5, zq_l6, zq_l7, zq_l8, zq_l9, zq_l12, zq_l16, zq_l23, zq_l24, zq_l40, zq_l39, zq_l50, zq_l51, zq_l60, zq_l120, zq_l128, zq_l255, zq_l4095, zq_l4096, zqb_t0, Classical.not_not, Bool.not_eq_false, decide_eq_true_eq, decide_eq_false_iff_not]
  refine zqb_d (x := 0) (fun h => ?_) (fun h => ?_)
  all_goals
    repeat' split
  all_goals first | rfl | (exfalso; omega)
theorem zys15 (s : zy_S) : zyF15  s = some (zqb (decide (8 ≤ (s.1 1 5).toInt)), s) := by
  unfold zyF15
  simp only [ne_eq, zq_eq, Int32.lt_iff_toInt_lt, Int32.le_iff_toInt_le, zq_l0, zq_lm1, zq_l1, zq_l2, zq_l3, zq_l4, zq_l5, zq_l6, zq_l7, zq_l8, zq_l9, zq_l12, zq_l16, zq_l23, zq_l24, zq_l40, zq_l39, zq_l50, zq_l51, zq_l60, zq_l120, zq_l128, zq_l255, zq_l4095, zq_l4096, zqb_t0, Classical.not_not, Bool.not_eq_false, decide_eq_true_eq, decide_eq_false_iff_not]
  refine zqb_d (x := 0) (fun h => ?_) (fun h => ?_)
  all_goals
    repeat' split
  all_goals first | rfl | (exfalso; omega)
theorem zys34 (s : zy_S) : zyF34  s = some (zqb (decide (120 ≤ (s.1 9 2).toInt)), s) := by
  unfold zyF34
  simp only [ne_eq, zq_eq, Int32.lt_iff_toInt_lt, Int32.le_iff_toInt_le, zq_l0, zq_lm1, zq_l1, zq_l2, zq_l3, zq_l4, zq_l5, zq_l6, zq_l7, zq_l8, zq_l9, zq_l12, zq_l16, zq_l23, zq_l24, zq_l40, zq_l39, zq_l50, zq_l51, zq_l60, zq_l120, zq_l128, zq_l255, zq_l4095, zq_l4096, zqb_t0, Classical.not_not, Bool.not_eq_false, decide_eq_true_eq, decide_eq_false_iff_not]
  refine zqb_d (x := 0) (fun h => ?_) (fun h => ?_)
  all_goals
    repeat' split
  all_goals first | rfl | (exfalso; omega)
theorem zys20 (c : Nat) (s : zy_S) : zyF20 c s = some (zqb (decide ((s.1 c 2).toInt ≠ -1)), s) := by
  unfold zyF20
  simp only [ne_eq, zq_eq, Int32.lt_iff_toInt_lt, Int32.le_iff_toInt_le, zq_l0, zq_lm1, zq_l1, zq_l2, zq_l3, zq_l4, zq_l5, zq_l6, zq_l7, zq_l8, zq_l9, zq_l12, zq_l16, zq_l23, zq_l24, zq_l40, zq_l39, zq_l50, zq_l51, zq_l60, zq_l120, zq_l128, zq_l255, zq_l4095, zq_l4096, zqb_t0, Classical.not_not, Bool.not_eq_false, decide_eq_true_eq, decide_eq_false_iff_not]
  refine zqb_d (x := 0) (fun h => ?_) (fun h => ?_)
  all_goals
    repeat' split
  all_goals first | rfl | (exfalso; omega)
theorem zys19 (c : Nat) (s : zy_S) : zyF19 c s = some (zqb (decide ((s.1 c 1).toInt = -1 ∧ (s.1 c 2).toInt = -1)), s) := by
  unfold zyF19
  simp only [zys20, zq_bind, zqb_n0, ne_eq, zq_eq, zq_l0, zq_lm1, zq_l1, zq_l2, zq_l3, zq_l4, zq_l5, zq_l6, zq_l7, zq_l8, zq_l9, zq_l12, zq_l16, zq_l23, zq_l24, zq_l40, zq_l39, zq_l50, zq_l51, zq_l60, zq_l120, zq_l128, zq_l255, zq_l4095, zq_l4096, zqb_t0, Classical.not_not, Bool.not_eq_false, decide_eq_true_eq, decide_eq_false_iff_not]
  refine zqb_d (x := 0) (fun h => ?_) (fun h => ?_)
  · rw [if_neg (by omega), if_neg (by omega)]
  · by_cases h1 : (s.1 c 1).toInt = -1
    · rw [if_neg (by omega), if_pos (by omega)]
    · rw [if_pos h1]
theorem zys21 (c : Nat) (x : Int32) (s : zy_S) : zyF21 c x s = some (zqb (decide ((s.1 c 2).toInt ≠ -1 ∧ (s.1 c 2).toInt = x.toInt)), s) := by
  unfold zyF21
  simp only [zys20, zq_bind, zqb_e0, ne_eq, zq_eq, zq_l0, zq_lm1, zq_l1, zq_l2, zq_l3, zq_l4, zq_l5, zq_l6, zq_l7, zq_l8, zq_l9, zq_l12, zq_l16, zq_l23, zq_l24, zq_l40, zq_l39, zq_l50, zq_l51, zq_l60, zq_l120, zq_l128, zq_l255, zq_l4095, zq_l4096, zqb_t0, Classical.not_not, Bool.not_eq_false, decide_eq_true_eq, decide_eq_false_iff_not]
  refine zqb_d (x := 0) (fun h => ?_) (fun h => ?_)
  · rw [if_neg (by omega), if_neg (by omega)]
  · by_cases h1 : (s.1 c 2).toInt = -1
    · rw [if_pos (by omega)]
    · rw [if_neg (by omega), if_pos (by omega)]
theorem zys23 (c : Nat) (x y : Int32) (s : zy_S) (hl : zin (s.1 c 3) 0 60) : zyF23 c x y s = some (zqb (decide (0 ≤ x.toInt ∧ 0 ≤ y.toInt ∧ x.toInt ≤ (s.1 c 3).toInt ∧ y.toInt ≤ (s.1 c 3).toInt - x.toInt)), s) := by
  obtain ⟨l0, l1⟩ := hl
  unfold zyF23
  by_cases hx : 0 ≤ x.toInt
  · have e : (s.1 c 3 - x).toInt = (s.1 c 3).toInt - x.toInt := zq_sub (by have := zq_hi x; omega) (by omega)
    simp only [e, Int32.lt_iff_toInt_lt, Int32.le_iff_toInt_le, zq_l0, zq_lm1, zq_l1, zq_l2, zq_l3, zq_l4, zq_l5, zq_l6, zq_l7, zq_l8, zq_l9, zq_l12, zq_l16, zq_l23, zq_l24, zq_l40, zq_l39, zq_l50, zq_l51, zq_l60, zq_l120, zq_l128, zq_l255, zq_l4095, zq_l4096, zqb_t0, Classical.not_not, Bool.not_eq_false, decide_eq_true_eq, decide_eq_false_iff_not]
    refine zqb_d (x := 0) (fun h => ?_) (fun h => ?_)
    all_goals
      repeat' split
    all_goals first | rfl | (exfalso; omega)
  · simp only [Int32.lt_iff_toInt_lt, Int32.le_iff_toInt_le, zq_l0, zq_lm1, zq_l1, zq_l2, zq_l3, zq_l4, zq_l5, zq_l6, zq_l7, zq_l8, zq_l9, zq_l12, zq_l16, zq_l23, zq_l24, zq_l40, zq_l39, zq_l50, zq_l51, zq_l60, zq_l120, zq_l128, zq_l255, zq_l4095, zq_l4096, zqb_t0, Classical.not_not, Bool.not_eq_false, decide_eq_true_eq, decide_eq_false_iff_not]
    refine zqb_d (x := 0) (fun h => ?_) (fun h => ?_)
    · exact absurd h.1 hx
    · rw [if_pos (by omega)]
theorem zys179 (v w u : Int64) (s : zy_S) : zyF179 v w u s = some (zqb (decide (w.toInt ≤ v.toInt ∧ v.toInt ≤ u.toInt)), s) := by
  unfold zyF179
  simp only [zq_cmp0, zq_cmp1]
  refine zqb_d (x := 0) (fun h => ?_) (fun h => ?_)
  all_goals
    repeat' split
  all_goals first | rfl | (exfalso; omega)
theorem zys182 (x : Int32) (s : zy_S) : zyF182 x s = some (zqb (decide (0 ≤ x.toInt ∧ x.toInt ≤ 5)), s) := by
  unfold zyF182
  simp only [zys179, zq_bind, zqb_if01, Int32.toInt_toInt64, zq_j0, zq_j1, zq_j4, zq_j5, zq_j7, zq_j8, zq_j9, zq_j23, zq_j255, zq_j4095]
theorem zys186 (v : Int64) (s : zy_S) : zyF186 v s = some (zqb (decide (0 ≤ v.toInt ∧ v.toInt ≤ 23)), s) := by
  unfold zyF186
  simp only [zys179, zq_bind, zqb_if01, zq_j0, zq_j1, zq_j4, zq_j5, zq_j7, zq_j8, zq_j9, zq_j23, zq_j255, zq_j4095]
theorem zys185 (v : Int64) (s : zy_S) (hp : zin (s.1 43 6) 0 8) : zyF185 v s = some (zqb (decide (0 ≤ v.toInt ∧ v.toInt < (s.1 43 6).toInt)), s) := by
  obtain ⟨p0, p1⟩ := hp
  unfold zyF185
  have e : (s.1 43 6 - 1).toInt = (s.1 43 6).toInt - 1 := zq_sub (by rw [zq_l1]; omega) (by rw [zq_l1]; omega)
  simp only [zys179, zq_bind, zqb_if01, Int32.toInt_toInt64, e, zq_j0, zq_j1, zq_j4, zq_j5, zq_j7, zq_j8, zq_j9, zq_j23, zq_j255, zq_j4095]
  congr 3
  exact decide_eq_decide.mpr (by omega)
theorem zys249 (x : Int32) (s : zy_S) (hp : zin (s.1 43 28) 0 50) : zyF249 x s = some (zqb (decide (0 ≤ x.toInt ∧ x.toInt < (s.1 43 28).toInt)), s) := by
  obtain ⟨p0, p1⟩ := hp
  unfold zyF249
  have e : (s.1 43 28 - 1).toInt = (s.1 43 28).toInt - 1 := zq_sub (by rw [zq_l1]; omega) (by rw [zq_l1]; omega)
  simp only [zys179, zq_bind, zqb_if01, Int32.toInt_toInt64, e, zq_j0, zq_j1, zq_j4, zq_j5, zq_j7, zq_j8, zq_j9, zq_j23, zq_j255, zq_j4095]
  congr 3
  exact decide_eq_decide.mpr (by omega)
end
section
/-! PART 44.1: bits, counted in two ways (as p1 has it). -/
theorem zN_of {a : Nat} (h : a < 2147483648) : (Int32.ofInt (a : Int)).toInt = (a : Int) ∧ (Int32.ofInt (a : Int)).toBitVec.toNat = a := by
  have e : (Int32.ofInt (a : Int)).toInt = (a : Int) := Int32.toInt_ofInt_of_le (by omega) (by omega)
  have u := z_int_nat (Int32.ofInt (a : Int)) (by omega)
  exact ⟨e, by omega⟩
theorem zN_and {a b : Nat} (ha : a < 2147483648) (hb : b < 2147483648) : zb_c 13 (a : Int) (b : Int) = ((a &&& b : Nat) : Int) := by
  have e : zb_c 13 (a : Int) (b : Int) = (Int32.ofInt (a : Int) &&& Int32.ofInt (b : Int)).toInt := rfl
  have e2 : (Int32.ofInt (a : Int) &&& Int32.ofInt (b : Int)).toBitVec.toNat = a &&& b := by rw [Int32.toBitVec_and, BitVec.toNat_and, (zN_of ha).2, (zN_of hb).2]
  have u : a &&& b ≤ a := Nat.and_le_left
  rw [e, z_nat_int _ (by omega), e2]
theorem zN_or {a b : Nat} (ha : a < 2147483648) (hb : b < 2147483648) : zb_c 14 (a : Int) (b : Int) = ((a ||| b : Nat) : Int) := by
  have e : zb_c 14 (a : Int) (b : Int) = (Int32.ofInt (a : Int) ||| Int32.ofInt (b : Int)).toInt := rfl
  have e2 : (Int32.ofInt (a : Int) ||| Int32.ofInt (b : Int)).toBitVec.toNat = a ||| b := by rw [Int32.toBitVec_or, BitVec.toNat_or, (zN_of ha).2, (zN_of hb).2]
  have u : a ||| b < 2 ^ 31 := Nat.or_lt_two_pow ha hb
  rw [e, z_nat_int _ (by omega), e2]
theorem zN_xor {a b : Nat} (ha : a < 2147483648) (hb : b < 2147483648) : zb_c 15 (a : Int) (b : Int) = ((a ^^^ b : Nat) : Int) := by
  have e : zb_c 15 (a : Int) (b : Int) = (Int32.ofInt (a : Int) ^^^ Int32.ofInt (b : Int)).toInt := rfl
  have e2 : (Int32.ofInt (a : Int) ^^^ Int32.ofInt (b : Int)).toBitVec.toNat = a ^^^ b := by rw [Int32.toBitVec_xor, BitVec.toNat_xor, (zN_of ha).2, (zN_of hb).2]
  have u : a ^^^ b < 2 ^ 31 := Nat.xor_lt_two_pow ha hb
  rw [e, z_nat_int _ (by omega), e2]
theorem zN_shr {a k : Nat} (ha : a < 2147483648) (hk : k ≤ 31) : zb_c 17 (a : Int) (k : Int) = ((a / 2 ^ k : Nat) : Int) := by
  have e : zb_c 17 (a : Int) (k : Int) = (Int32.ofInt (a : Int) >>> (Int32.ofInt (k : Int) &&& 31)).toInt := rfl
  have hb := (zN_of (a := k) (by omega)).1
  rw [e, z_shr_eq, (zN_of ha).1, z_sh _ (by omega) (by omega), hb, Int.toNat_natCast, Int.natCast_ediv, Int.natCast_pow]
  rfl
theorem zN_ush {a k : Nat} (ha : a < 2147483648) (hk : k ≤ 31) : zb_c 18 (a : Int) (k : Int) = ((a / 2 ^ k : Nat) : Int) := by
  have e : zb_c 18 (a : Int) (k : Int) = (((Int32.ofInt (a : Int)).toUInt32 >>> ((Int32.ofInt (k : Int)).toUInt32 &&& Int32.toUInt32 31)).toInt32).toInt := rfl
  have hb := (zN_of (a := k) (by omega)).1
  have u := z_ushr_eq (Int32.ofInt (a : Int)) (Int32.ofInt (k : Int)) (by omega) (by omega)
  rw [hb, Int.toNat_natCast, (zN_of ha).2] at u
  have v : a / 2 ^ k ≤ a := Nat.div_le_self _ _
  rw [e, z_nat_int _ (by omega), u]
theorem zN_shl1 {k : Nat} (hk : k ≤ 30) : zb_c 16 1 (k : Int) = ((2 ^ k : Nat) : Int) := by
  have e : zb_c 16 1 (k : Int) = (Int32.ofInt ((1 : Nat) : Int) <<< (Int32.ofInt (k : Int) &&& 31)).toInt := rfl
  have h1 := (zN_of (a := 1) (by omega)).1
  have hb := (zN_of (a := k) (by omega)).1
  have u : 2 ^ k ≤ 2 ^ 30 := Nat.pow_le_pow_right (by omega) hk
  have v : ((2 ^ k : Nat) : Int) = 2 ^ k := Int.natCast_pow 2 k
  rw [e, z_shl_eq _ _ (by omega) (by omega) (by omega) (by rw [h1, hb, Int.toNat_natCast]; omega), h1, hb, Int.toNat_natCast]
  omega
set_option maxRecDepth 100000 in
theorem zb10 {x y : Int} (h1 : -2147483648 ≤ x + y) (h2 : x + y ≤ 2147483647) : zb_c 10 x y = x + y := by
  show zw32 (x + y) = _
  unfold zw32
  rw [if_pos ⟨h1, h2⟩]
theorem zN_add {a b : Nat} (h : a + b < 2147483648) : zb_c 10 (a : Int) (b : Int) = ((a + b : Nat) : Int) := by
  rw [zb10 (by omega) (by omega)]
  exact (Int.natCast_add a b).symm
theorem zN_sub {a b : Nat} (h : b ≤ a) (ha : a < 2147483648) : zb_c 11 (a : Int) (b : Int) = ((a - b : Nat) : Int) := by
  show zw32 ((a : Int) - (b : Int)) = _
  unfold zw32
  rw [if_pos (by omega)]
  omega
theorem zpopN_le (n : Nat) : ∀ k, zpopN k n ≤ k
  | 0 => Nat.le_refl _
  | k + 1 => by
    have := zpopN_le n k
    show zpopN k n + n / 2 ^ k % 2 ≤ k + 1
    omega
def zbits : Nat → Int → Int
  | 0, _ => 0
  | k + 1, b => zb_c 10 (zbits k b) (zb_c 13 (zb_c 17 b (k : Int)) 1)
theorem zbits_N {n : Nat} (h : n < 2147483648) : ∀ k, k ≤ 31 → zbits k (n : Int) = ((zpopN k n : Nat) : Int)
  | 0, _ => rfl
  | k + 1, hk => by
    show zb_c 10 (zbits k (n : Int)) (zb_c 13 (zb_c 17 (n : Int) (k : Int)) ((1 : Nat) : Int)) = _
    have h2 : n / 2 ^ k ≤ n := Nat.div_le_self _ _
    have h3 := zpopN_le n k
    rw [zbits_N h k (by omega), zN_shr h (by omega), zN_and (by omega) (by omega), Nat.and_one_is_mod, zN_add (by omega)]
    rfl
theorem zl_split (x y : Nat) : x &&& y = (x % 256 &&& y % 256) + 256 * (x / 256 &&& y / 256) := by
  have h1 : (x &&& y) / 256 = x / 256 &&& y / 256 := Nat.and_div_two_pow (n := 8)
  have h2 : (x &&& y) % 256 = (x % 256) &&& (y % 256) := Nat.and_mod_two_pow (n := 8)
  have h3 := Nat.div_add_mod (x &&& y) 256
  omega
theorem zl_land {a b c m0 m1 m2 : Nat} (ha : a < 256) (hb : b < 256) (h0 : m0 < 256) (h1 : m1 < 256) : (a + 256 * b + 65536 * c) &&& (m0 + 256 * m1 + 65536 * m2) = (a &&& m0) + 256 * (b &&& m1) + 65536 * (c &&& m2) := by
  rw [zl_split]
  have e1 : (a + 256 * b + 65536 * c) % 256 = a := by omega
  have e2 : (m0 + 256 * m1 + 65536 * m2) % 256 = m0 := by omega
  have e3 : (a + 256 * b + 65536 * c) / 256 = b + 256 * c := by omega
  have e4 : (m0 + 256 * m1 + 65536 * m2) / 256 = m1 + 256 * m2 := by omega
  rw [e1, e2, e3, e4, zl_split (b + 256 * c)]
  have e5 : (b + 256 * c) % 256 = b := by omega
  have e6 : (m1 + 256 * m2) % 256 = m1 := by omega
  have e7 : (b + 256 * c) / 256 = c := by omega
  have e8 : (m1 + 256 * m2) / 256 = m2 := by omega
  rw [e5, e6, e7, e8]
  omega
def zF1 (a : Nat) : Nat := a - (a / 2 &&& 85)
def zF2 (a : Nat) : Nat := (a &&& 51) + (a / 4 &&& 51)
theorem zby1 : ∀ a, a < 256 → (∀ t, t < 2 → ((a / 2 + 128 * t) &&& 85) = (a / 2 &&& 85)) ∧ (a / 2 &&& 21845) = (a / 2 &&& 85) ∧ (a / 2 &&& 85) ≤ a := by decide +kernel
theorem zby2 : ∀ a, a < 256 → (∀ t, t < 4 → ((a / 4 + 64 * t) &&& 51) = (a / 4 &&& 51)) ∧ (a &&& 13107) = (a &&& 51) ∧ (a / 4 &&& 13107) = (a / 4 &&& 51) := by decide +kernel
theorem zby3 : ∀ a, a < 256 → zF2 (zF1 a) ≤ 68 ∧ zF2 (zF1 a) % 16 ≤ 4 ∧ (∀ t, t < 5 → ((zF2 (zF1 a) + zF2 (zF1 a) / 16 + 16 * t) &&& 15) = zpopN 8 a) ∧ ((zF2 (zF1 a) + zF2 (zF1 a) / 16) &&& 3855) = zpopN 8 a := by decide +kernel
theorem zpop24 {a b c : Nat} (ha : a < 256) (hb : b < 256) (hc : c < 256) : zpopN 24 (a + 256 * b + 65536 * c) = zpopN 8 a + zpopN 8 b + zpopN 8 c := by
  have h0 : ∀ k, k < 8 → (a + 256 * b + 65536 * c) / 2 ^ k % 2 = a / 2 ^ k % 2 := by
    intro k hk
    rcases (by omega : k = 0 ∨ k = 1 ∨ k = 2 ∨ k = 3 ∨ k = 4 ∨ k = 5 ∨ k = 6 ∨ k = 7) with rfl | rfl | rfl | rfl | rfl | rfl | rfl | rfl <;> omega
  have h1 : ∀ k, k < 8 → (a + 256 * b + 65536 * c) / 2 ^ (k + 8) % 2 = b / 2 ^ k % 2 := by
    intro k hk
    rcases (by omega : k = 0 ∨ k = 1 ∨ k = 2 ∨ k = 3 ∨ k = 4 ∨ k = 5 ∨ k = 6 ∨ k = 7) with rfl | rfl | rfl | rfl | rfl | rfl | rfl | rfl <;> omega
  have h2 : ∀ k, k < 8 → (a + 256 * b + 65536 * c) / 2 ^ (k + 16) % 2 = c / 2 ^ k % 2 := by
    intro k hk
    rcases (by omega : k = 0 ∨ k = 1 ∨ k = 2 ∨ k = 3 ∨ k = 4 ∨ k = 5 ∨ k = 6 ∨ k = 7) with rfl | rfl | rfl | rfl | rfl | rfl | rfl | rfl <;> omega
  generalize a + 256 * b + 65536 * c = n at *
  have g0 : ∀ k, k ≤ 8 → zpopN k n = zpopN k a := by
    intro k
    induction k with
    | zero => intro _; rfl
    | succ k ih =>
      intro hk
      show zpopN k n + n / 2 ^ k % 2 = zpopN k a + a / 2 ^ k % 2
      rw [ih (by omega), h0 k (by omega)]
  have g1 : ∀ k, k ≤ 8 → zpopN (k + 8) n = zpopN 8 a + zpopN k b := by
    intro k
    induction k with
    | zero => intro _; exact g0 8 (by omega)
    | succ k ih =>
      intro hk
      have e : zpopN (k + 1 + 8) n = zpopN (k + 8) n + n / 2 ^ (k + 8) % 2 := by
        have : k + 1 + 8 = (k + 8) + 1 := by omega
        rw [this]
        rfl
      have e2 : zpopN (k + 1) b = zpopN k b + b / 2 ^ k % 2 := rfl
      rw [e, e2, ih (by omega), h1 k (by omega)]
      omega
  have g2 : ∀ k, k ≤ 8 → zpopN (k + 16) n = zpopN 8 a + zpopN 8 b + zpopN k c := by
    intro k
    induction k with
    | zero => intro _; exact g1 8 (by omega)
    | succ k ih =>
      intro hk
      have e : zpopN (k + 1 + 16) n = zpopN (k + 16) n + n / 2 ^ (k + 16) % 2 := by
        have : k + 1 + 16 = (k + 16) + 1 := by omega
        rw [this]
        rfl
      have e2 : zpopN (k + 1) c = zpopN k c + c / 2 ^ k % 2 := rfl
      rw [e, e2, ih (by omega), h2 k (by omega)]
      omega
  exact g2 8 (by omega)
/-- the JDK's count of bits -/
def zbcA (x : Int) : Int := zb_c 11 x (zb_c 13 (zb_c 18 x 1) 1431655765)
def zbcB (x : Int) : Int := zb_c 10 (zb_c 13 x 858993459) (zb_c 13 (zb_c 18 x 2) 858993459)
def zbcC (x : Int) : Int := zb_c 13 (zb_c 10 x (zb_c 18 x 4)) 252645135
def zbcD (x : Int) : Int := zb_c 10 x (zb_c 18 x 8)
def zbcE (x : Int) : Int := zb_c 13 (zb_c 10 x (zb_c 18 x 16)) 63
def zbc (x : Int) : Int := zbcE (zbcD (zbcC (zbcB (zbcA x))))
theorem zbc_N {n : Nat} (h : n < 16777216) : zbc (n : Int) = ((zpopN 24 n : Nat) : Int) := by
  obtain ⟨a, b, c, ha, hb, hc, rfl⟩ : ∃ a b c, a < 256 ∧ b < 256 ∧ c < 256 ∧ n = a + 256 * b + 65536 * c := ⟨n % 256, n / 256 % 256, n / 65536, by omega, by omega, by omega, by omega⟩
  rw [zpop24 ha hb hc]
  obtain ⟨a1, a2, a3⟩ := zby1 a ha
  obtain ⟨b1, b2, b3⟩ := zby1 b hb
  obtain ⟨c1, c2, c3⟩ := zby1 c hc
  have sA : zbcA ((a + 256 * b + 65536 * c : Nat) : Int) = ((zF1 a + 256 * zF1 b + 65536 * zF1 c : Nat) : Int) := by
    have e1 : (a + 256 * b + 65536 * c) / 2 ^ 1 = (a / 2 + 128 * (b % 2)) + 256 * (b / 2 + 128 * (c % 2)) + 65536 * (c / 2) := by omega
    have e2 : ((a / 2 + 128 * (b % 2)) + 256 * (b / 2 + 128 * (c % 2)) + 65536 * (c / 2)) &&& 1431655765 = (a / 2 &&& 85) + 256 * (b / 2 &&& 85) + 65536 * (c / 2 &&& 85) := by
      have := zl_land (a := a / 2 + 128 * (b % 2)) (b := b / 2 + 128 * (c % 2)) (c := c / 2) (m0 := 85) (m1 := 85) (m2 := 21845) (by omega) (by omega) (by omega) (by omega)
      rw [a1 _ (by omega), b1 _ (by omega), c2] at this
      exact this
    show zb_c 11 _ (zb_c 13 (zb_c 18 _ ((1 : Nat) : Int)) ((1431655765 : Nat) : Int)) = _
    rw [zN_ush (by omega) (by omega), e1, zN_and (by omega) (by omega), e2, zN_sub (by omega) (by omega)]
    unfold zF1
    omega
  have hF : ∀ x, x < 256 → zF1 x < 256 := fun x hx => by unfold zF1; omega
  have fa := hF a ha
  have fb := hF b hb
  have fc := hF c hc
  obtain ⟨p1, p2, p3⟩ := zby2 _ fa
  obtain ⟨q1, q2, q3⟩ := zby2 _ fb
  obtain ⟨r1, r2, r3⟩ := zby2 _ fc
  have hA := zby3 a ha
  have hB := zby3 b hb
  have hC := zby3 c hc
  generalize eA : zF1 a = A at *
  generalize eB : zF1 b = B at *
  generalize eC : zF1 c = C at *
  have sB : zbcB ((A + 256 * B + 65536 * C : Nat) : Int) = ((zF2 A + 256 * zF2 B + 65536 * zF2 C : Nat) : Int) := by
    have e1 : (A + 256 * B + 65536 * C) / 2 ^ 2 = (A / 4 + 64 * (B % 4)) + 256 * (B / 4 + 64 * (C % 4)) + 65536 * (C / 4) := by omega
    have e2 : ((A / 4 + 64 * (B % 4)) + 256 * (B / 4 + 64 * (C % 4)) + 65536 * (C / 4)) &&& 858993459 = (A / 4 &&& 51) + 256 * (B / 4 &&& 51) + 65536 * (C / 4 &&& 51) := by
      have := zl_land (a := A / 4 + 64 * (B % 4)) (b := B / 4 + 64 * (C % 4)) (c := C / 4) (m0 := 51) (m1 := 51) (m2 := 13107) (by omega) (by omega) (by omega) (by omega)
      rw [p1 _ (by omega), q1 _ (by omega), r3] at this
      exact this
    have e3 : (A + 256 * B + 65536 * C) &&& 858993459 = (A &&& 51) + 256 * (B &&& 51) + 65536 * (C &&& 51) := by
      have := zl_land (a := A) (b := B) (c := C) (m0 := 51) (m1 := 51) (m2 := 13107) fa fb (by omega) (by omega)
      rw [r2] at this
      exact this
    have u : ∀ x : Nat, (x &&& 51) ≤ 51 := fun x => Nat.and_le_right
    have u1 := u A
    have u2 := u B
    have u3 := u C
    have u4 := u (A / 4)
    have u5 := u (B / 4)
    have u6 := u (C / 4)
    show zb_c 10 (zb_c 13 _ ((858993459 : Nat) : Int)) (zb_c 13 (zb_c 18 _ ((2 : Nat) : Int)) ((858993459 : Nat) : Int)) = _
    rw [zN_ush (by omega) (by omega), e1, zN_and (by omega) (by omega), e3, zN_and (by omega) (by omega), e2, zN_add (by omega)]
    unfold zF2
    omega
  rw [show zbc ((a + 256 * b + 65536 * c : Nat) : Int) = zbcE (zbcD (zbcC (zbcB (zbcA ((a + 256 * b + 65536 * c : Nat) : Int))))) from rfl, sA, sB]
  obtain ⟨hA1, hA2, hA3, hA4⟩ := hA
  obtain ⟨hB1, hB2, hB3, hB4⟩ := hB
  obtain ⟨hC1, hC2, hC3, hC4⟩ := hC
  have wa := zpopN_le a 8
  have wb := zpopN_le b 8
  have wc := zpopN_le c 8
  generalize zF2 A = x at *
  generalize zF2 B = y at *
  generalize zF2 C = z at *
  have sC : zbcC ((x + 256 * y + 65536 * z : Nat) : Int) = ((zpopN 8 a + 256 * zpopN 8 b + 65536 * zpopN 8 c : Nat) : Int) := by
    have e1 : (x + 256 * y + 65536 * z) + (x + 256 * y + 65536 * z) / 2 ^ 4 = (x + x / 16 + 16 * (y % 16)) + 256 * (y + y / 16 + 16 * (z % 16)) + 65536 * (z + z / 16) := by omega
    have e2 : ((x + x / 16 + 16 * (y % 16)) + 256 * (y + y / 16 + 16 * (z % 16)) + 65536 * (z + z / 16)) &&& 252645135 = zpopN 8 a + 256 * zpopN 8 b + 65536 * zpopN 8 c := by
      have := zl_land (a := x + x / 16 + 16 * (y % 16)) (b := y + y / 16 + 16 * (z % 16)) (c := z + z / 16) (m0 := 15) (m1 := 15) (m2 := 3855) (by omega) (by omega) (by omega) (by omega)
      rw [hA3 _ (by omega), hB3 _ (by omega), hC4] at this
      exact this
    show zb_c 13 (zb_c 10 _ (zb_c 18 _ ((4 : Nat) : Int))) ((252645135 : Nat) : Int) = _
    rw [zN_ush (by omega) (by omega), zN_add (by omega), e1, zN_and (by omega) (by omega), e2]
  rw [sC]
  generalize zpopN 8 a = p at *
  generalize zpopN 8 b = q at *
  generalize zpopN 8 c = r at *
  have sD : zbcD ((p + 256 * q + 65536 * r : Nat) : Int) = ((p + q + 256 * (q + r) + 65536 * r : Nat) : Int) := by
    show zb_c 10 _ (zb_c 18 _ ((8 : Nat) : Int)) = _
    rw [zN_ush (by omega) (by omega), zN_add (by omega)]
    omega
  rw [sD]
  have e63 : (p + q + r + 256 * (q + r) + 65536 * r) &&& 63 = p + q + r := by
    have : (p + q + r + 256 * (q + r) + 65536 * r) &&& 63 = (p + q + r + 256 * (q + r) + 65536 * r) % 64 := Nat.and_two_pow_sub_one_eq_mod _ 6
    omega
  show zb_c 13 (zb_c 10 _ (zb_c 18 _ ((16 : Nat) : Int))) ((63 : Nat) : Int) = _
  rw [zN_ush (by omega) (by omega), zN_add (by omega)]
  have e2 : p + q + 256 * (q + r) + 65536 * r + (p + q + 256 * (q + r) + 65536 * r) / 2 ^ 16 = p + q + r + 256 * (q + r) + 65536 * r := by omega
  rw [e2, zN_and (by omega) (by omega), e63]
theorem zl_bit (n k : Nat) : n &&& 2 ^ k = if n / 2 ^ k % 2 = 1 then 2 ^ k else 0 := by
  apply Nat.eq_of_testBit_eq
  intro i
  rw [Nat.testBit_and, Nat.testBit_two_pow]
  have e : n.testBit k = decide (n / 2 ^ k % 2 = 1) := Nat.testBit_eq_decide_div_mod_eq
  by_cases hik : k = i
  · subst hik
    rw [e]
    by_cases h : n / 2 ^ k % 2 = 1
    · rw [if_pos h, Nat.testBit_two_pow_self]
      simp [h]
    · rw [if_neg h]
      simp [h]
  · by_cases h : n / 2 ^ k % 2 = 1
    · rw [if_pos h, Nat.testBit_two_pow_of_ne hik]
      simp [hik]
    · rw [if_neg h]
      simp [hik]
theorem zN_andn {n c : Nat} (hn : n < 2147483648) (hc : c < 2147483648) : zb_c 13 (n : Int) (zb_c 15 (c : Int) (-1)) = ((n ^^^ (n &&& c) : Nat) : Int) := by
  have e1 : zb_c 15 (c : Int) (-1) = (Int32.ofInt (c : Int) ^^^ Int32.ofInt (-1)).toInt := rfl
  have e2 : zb_c 13 (n : Int) (zb_c 15 (c : Int) (-1)) = (Int32.ofInt (n : Int) &&& Int32.ofInt (zb_c 15 (c : Int) (-1))).toInt := rfl
  rw [e2, e1, Int32.ofInt_toInt]
  have e3 : (Int32.ofInt (n : Int) &&& (Int32.ofInt (c : Int) ^^^ Int32.ofInt (-1))).toBitVec = (Int32.ofInt (n : Int)).toBitVec ^^^ ((Int32.ofInt (n : Int)).toBitVec &&& (Int32.ofInt (c : Int)).toBitVec) := by
    rw [Int32.toBitVec_and, Int32.toBitVec_xor]
    have em : (Int32.ofInt (-1)).toBitVec = BitVec.allOnes 32 := by decide
    rw [em]
    apply BitVec.eq_of_getLsbD_eq
    intro i hi
    simp only [BitVec.getLsbD_and, BitVec.getLsbD_xor, BitVec.getLsbD_allOnes, hi, decide_true]
    cases (Int32.ofInt (n : Int)).toBitVec.getLsbD i <;> cases (Int32.ofInt (c : Int)).toBitVec.getLsbD i <;> rfl
  have e4 : (Int32.ofInt (n : Int) &&& (Int32.ofInt (c : Int) ^^^ Int32.ofInt (-1))).toBitVec.toNat = n ^^^ (n &&& c) := by
    rw [e3, BitVec.toNat_xor, BitVec.toNat_and, (zN_of hn).2, (zN_of hc).2]
  have u1 : n &&& c ≤ n := Nat.and_le_left
  have u2 : n ^^^ (n &&& c) < 2 ^ 31 := Nat.xor_lt_two_pow hn (by omega)
  rw [z_nat_int _ (by omega), e4]
def zpo (b : Int) : Int := ((zpopN 24 b.toNat : Nat) : Int)
theorem zpo_bc {b : Int} (h0 : 0 ≤ b) (h1 : b ≤ 16777215) : zbc b = zpo b := by
  have e : b = (b.toNat : Int) := (Int.toNat_of_nonneg h0).symm
  unfold zpo
  rw [← zbc_N (by omega), ← e]
theorem zpo_bits {b : Int} (h0 : 0 ≤ b) (h1 : b ≤ 16777215) : zbits 24 b = zpo b := by
  have e : b = (b.toNat : Int) := (Int.toNat_of_nonneg h0).symm
  unfold zpo
  rw [← zbits_N (by omega) 24 (by omega), ← e]
end
section
/-! PART 19x.2: what updates leave as it is. Made by wip/v4/gen_ops.py. -/
section ZF
variable {s s' : zy_S} {c k a b d j : Nat} {x : Int32}
theorem zf_up (h : a ≠ c) : (zy_up s c k x).1 a b = s.1 a b := by rw [zy_up_at, if_neg (fun q => h q.1)]
theorem zf_upk (h : b ≠ k) : (zy_up s c k x).1 a b = s.1 a b := by rw [zy_up_at, if_neg (fun q => h q.2)]
theorem zf_upe : (zy_up s c k x).1 c k = x := by rw [zy_up_at, if_pos ⟨rfl, rfl⟩]
theorem zf_upr : (zy_up s c k x).1 c b = if b = k then x else s.1 c b := by
  rw [zy_up_at]
  by_cases h : b = k
  · rw [if_pos ⟨rfl, h⟩, if_pos h]
  · rw [if_neg (fun q => h q.2), if_neg h]
theorem zf_sh (hc : c < 31 ∨ 43 ≤ c) (hd : d < 6) : (zy_up s c k x).1 (zy_sh d) j = s.1 (zy_sh d) j := zf_up (by unfold zy_sh; omega)
theorem zf_sha {f : Nat → Int32} (hc : c < 31 ∨ 43 ≤ c) (hd : d < 6) : (zy_ua s c f).1 (zy_sh d) j = s.1 (zy_sh d) j := by rw [zy_ua_at, if_neg (by unfold zy_sh; omega)]
theorem zR20_of (h : zR20 s) (h27 : s'.1 27 2 = s.1 27 2) (hc : ∀ d, d < 6 → ∀ k, s'.1 (zy_sh d) k = s.1 (zy_sh d) k) (h60 : ∀ d, d < 6 → s'.1 60 d = s.1 60 d) (h61 : ∀ d, d < 6 → s'.1 61 d = s.1 61 d) : zR20 s' := by
  intro d hd
  rw [h27, hc d hd, hc d hd, hc d hd, h60 d hd, h61 d hd]
  exact h d hd
theorem zR21_of (h : zR21 s) (hc : ∀ d, d < 6 → ∀ k, s'.1 (zy_sh d) k = s.1 (zy_sh d) k) (h2 : s'.2.1 = s.2.1) : zR21 s' := by
  intro d hd j hj
  rw [hc d hd, h2]
  exact h d hd j hj
/-- two rows that hold alike, both written at one place -/
theorem zf_two {f g : Nat → Int32} {n o k : Nat} {x : Int32} {lo hi : Int} (h : ∀ p, p < n → f p = g (o + p) ∧ zin (f p) lo hi) (hx : zin x lo hi) : ∀ p, p < n → (if p = k then x else f p) = (if o + p = o + k then x else g (o + p)) ∧ zin (if p = k then x else f p) lo hi := by
  intro p hp
  by_cases e : p = k
  · rw [if_pos e, if_pos (by omega)]
    exact ⟨rfl, hx⟩
  · rw [if_neg e, if_neg (by omega)]
    exact h p hp
end ZF
theorem zop_body (x : Int32) {s : zy_S} (h : zI s) : ∃ r s1 s2, zyF148 x s = some (r, s1) ∧ zyF247 x s1 = some (r, s2) ∧ zI s2 := by
  obtain ⟨hw, hg, h1, h2, h3, h4, h5, h6, h7, h8, h9, h10, h11, h12, h13, h14, h15, h16, h17, h18, h19, h20, h21⟩ := id h
  obtain ⟨e14, b0, b1⟩ := id h14
  by_cases hk : 0 ≤ x.toInt ∧ x.toInt ≤ 7
  · by_cases hf : 50 ≤ (s.1 27 2).toInt
    · refine ⟨-3, s, s, ?_, ?_, h⟩
      · unfold zyF148
        simp only [zys149, zys150, true_and, and_true, zqb_t0, Classical.not_not, Bool.not_eq_false, zq_bind, zqb_n0, zqb_e0, decide_eq_true_eq, decide_eq_false_iff_not, ne_eq, zq_eq, Int32.toInt_toInt64, Int32.lt_iff_toInt_lt, Int32.le_iff_toInt_le, zq_l0, zq_lm1, zq_l1, zq_l2, zq_l3, zq_l4, zq_l5, zq_l6, zq_l7, zq_l8, zq_l9, zq_l12, zq_l16, zq_l23, zq_l24, zq_l40, zq_l39, zq_l50, zq_l51, zq_l60, zq_l120, zq_l128, zq_l255, zq_l4095, zq_l4096, zq_j0, zq_j1, zq_j4, zq_j5, zq_j7, zq_j8, zq_j9, zq_j23, zq_j255, zq_j4095]
        rw [if_pos hk, if_neg (by omega)]
      · unfold zyF247
        simp only [zys179, ← e14, true_and, and_true, zqb_t0, Classical.not_not, Bool.not_eq_false, zq_bind, zqb_n0, zqb_e0, decide_eq_true_eq, decide_eq_false_iff_not, ne_eq, zq_eq, Int32.toInt_toInt64, Int32.lt_iff_toInt_lt, Int32.le_iff_toInt_le, zq_l0, zq_lm1, zq_l1, zq_l2, zq_l3, zq_l4, zq_l5, zq_l6, zq_l7, zq_l8, zq_l9, zq_l12, zq_l16, zq_l23, zq_l24, zq_l40, zq_l39, zq_l50, zq_l51, zq_l60, zq_l120, zq_l128, zq_l255, zq_l4095, zq_l4096, zq_j0, zq_j1, zq_j4, zq_j5, zq_j7, zq_j8, zq_j9, zq_j23, zq_j255, zq_j4095]
        rw [if_pos hk, if_neg (by omega)]
    · have en : (s.1 27 2 + 1).toInt = (s.1 27 2).toInt + 1 := zq_add (by rw [zq_l1]; omega) (by rw [zq_l1]; omega)
      have hin : zy_in (s.1 27 2) 50 = true := zq_in.mpr ⟨b0, by omega⟩
      refine ⟨s.1 27 2 + 1 - 1, zy_up (zy_up s 28 (s.1 27 2).toNatClampNeg x) 27 2 (s.1 27 2 + 1), zy_up (zy_up (zy_up (zy_up s 28 (s.1 27 2).toNatClampNeg x) 27 2 (s.1 27 2 + 1)) 58 (s.1 27 2).toNatClampNeg x) 43 28 (s.1 27 2 + 1), ?_, ?_, ?_⟩
      · unfold zyF148 zyF151
        simp only [zys149, zys150, true_and, and_true, zqb_t0, Classical.not_not, Bool.not_eq_false, zq_bind, zqb_n0, zqb_e0, decide_eq_true_eq, decide_eq_false_iff_not, ne_eq, zq_eq, Int32.toInt_toInt64, Int32.lt_iff_toInt_lt, Int32.le_iff_toInt_le, zq_l0, zq_lm1, zq_l1, zq_l2, zq_l3, zq_l4, zq_l5, zq_l6, zq_l7, zq_l8, zq_l9, zq_l12, zq_l16, zq_l23, zq_l24, zq_l40, zq_l39, zq_l50, zq_l51, zq_l60, zq_l120, zq_l128, zq_l255, zq_l4095, zq_l4096, zq_j0, zq_j1, zq_j4, zq_j5, zq_j7, zq_j8, zq_j9, zq_j23, zq_j255, zq_j4095]
        rw [if_pos hk, if_pos (by omega), if_pos hin]
        rfl
      · unfold zyF247
        have e : (zy_up (zy_up s 28 (s.1 27 2).toNatClampNeg x) 27 2 (s.1 27 2 + 1)).1 43 28 = s.1 27 2 := e14.symm
        simp only [zys179, e, true_and, and_true, zqb_t0, Classical.not_not, Bool.not_eq_false, zq_bind, zqb_n0, zqb_e0, decide_eq_true_eq, decide_eq_false_iff_not, ne_eq, zq_eq, Int32.toInt_toInt64, Int32.lt_iff_toInt_lt, Int32.le_iff_toInt_le, zq_l0, zq_lm1, zq_l1, zq_l2, zq_l3, zq_l4, zq_l5, zq_l6, zq_l7, zq_l8, zq_l9, zq_l12, zq_l16, zq_l23, zq_l24, zq_l40, zq_l39, zq_l50, zq_l51, zq_l60, zq_l120, zq_l128, zq_l255, zq_l4095, zq_l4096, zq_j0, zq_j1, zq_j4, zq_j5, zq_j7, zq_j8, zq_j9, zq_j23, zq_j255, zq_j4095]
        rw [if_pos hk, if_pos (by omega), if_pos hin]
      · have hx : zin x 0 7 := hk
        exact ⟨hw, (zRg_up (zRg_up (zRg_up (zRg_up hg (fun _ => hx)) (fun _ => (show zin (s.1 27 2 + 1) 0 50 from ⟨by omega, by omega⟩))) (fun _ => hx)) (fun _ => (show zin (s.1 27 2 + 1) 0 50 from ⟨by omega, by omega⟩))), h1, h2, h3, h4, h5, h6, h7, h8, h9, h10, h11, h12, h13, ⟨rfl, (show zin (s.1 27 2 + 1) 0 50 from ⟨by omega, by omega⟩)⟩, (fun p hp => by
          have := zf_two (o := 0) (k := (s.1 27 2).toNatClampNeg) (g := s.1 58) (fun p hp => by rw [Nat.zero_add]; exact h15 p hp) hx p hp
          rw [Nat.zero_add, Nat.zero_add] at this
          rw [zf_up (by decide), zf_up (by decide), zf_up (by decide), zf_upr, zf_up (by decide), zf_upr, zf_up (by decide), zf_up (by decide)]
          exact this), h16, h17, h18, h19, (fun d hd => by
          have q := h20 d hd
          rw [zf_up (by decide), zf_up (by decide), zf_upe, zf_sh (by decide) hd, zf_sh (by decide) hd, zf_sh (by decide) hd, zf_sh (by decide) hd, zf_sh (by decide) hd, zf_sh (by decide) hd, zf_sh (by decide) hd, zf_sh (by decide) hd, zf_sh (by decide) hd, zf_sh (by decide) hd, zf_sh (by decide) hd, zf_sh (by decide) hd, zf_up (by decide), zf_up (by decide), zf_up (by decide), zf_up (by decide), zf_up (by decide), zf_up (by decide), zf_up (by decide), zf_up (by decide)]
          obtain ⟨q1, q2, q3⟩ := q
          refine ⟨q1, q2, ?_⟩
          rcases q3 with ⟨a1, a2, a3, a4, a5⟩ | q3
          · exact Or.inl ⟨a1, a2, a3, by omega, a5⟩
          · exact Or.inr q3), (zR21_of h21 (fun d hd k => by rw [zf_sh (by decide) hd, zf_sh (by decide) hd, zf_sh (by decide) hd, zf_sh (by decide) hd]) rfl)⟩
  · refine ⟨-1, s, s, ?_, ?_, h⟩
    · unfold zyF148
      simp only [zys149, true_and, and_true, zqb_t0, Classical.not_not, Bool.not_eq_false, zq_bind, zqb_n0, zqb_e0, decide_eq_true_eq, decide_eq_false_iff_not, ne_eq, zq_eq, Int32.toInt_toInt64, Int32.lt_iff_toInt_lt, Int32.le_iff_toInt_le, zq_l0, zq_lm1, zq_l1, zq_l2, zq_l3, zq_l4, zq_l5, zq_l6, zq_l7, zq_l8, zq_l9, zq_l12, zq_l16, zq_l23, zq_l24, zq_l40, zq_l39, zq_l50, zq_l51, zq_l60, zq_l120, zq_l128, zq_l255, zq_l4095, zq_l4096, zq_j0, zq_j1, zq_j4, zq_j5, zq_j7, zq_j8, zq_j9, zq_j23, zq_j255, zq_j4095]
      rw [if_neg hk]
    · unfold zyF247
      simp only [zys179, true_and, and_true, zqb_t0, Classical.not_not, Bool.not_eq_false, zq_bind, zqb_n0, zqb_e0, decide_eq_true_eq, decide_eq_false_iff_not, ne_eq, zq_eq, Int32.toInt_toInt64, Int32.lt_iff_toInt_lt, Int32.le_iff_toInt_le, zq_l0, zq_lm1, zq_l1, zq_l2, zq_l3, zq_l4, zq_l5, zq_l6, zq_l7, zq_l8, zq_l9, zq_l12, zq_l16, zq_l23, zq_l24, zq_l40, zq_l39, zq_l50, zq_l51, zq_l60, zq_l120, zq_l128, zq_l255, zq_l4095, zq_l4096, zq_j0, zq_j1, zq_j4, zq_j5, zq_j7, zq_j8, zq_j9, zq_j23, zq_j255, zq_j4095]
      rw [if_neg hk]
end
