/-! PARTS 11.known to 19e.frames -/
section
/-! PART 07: what is known of a state: numbers as constants or names with bounds; the pure state that it speaks of. -/
/-- (0, c) the int c; (1, k) the int named k; (2, i) the reference i; (3, _) null; (4, c) the long c; (5, k) the long named k;
(6, q) an int within the bounds q; (7, q) the same, or -2000000000; (8, _) a long; (9, i) the reference i or null -/
abbrev zA_V : Type := Nat × Int
/-- (0, class, _, fields, _); (1, array class, length, [all], [but these]) -/
abbrev zA_C : Type := Nat × Nat × Nat × List zA_V × List (Nat × zA_V)
/-- how a name was made: nothing is said (0), or an operation of two values -/
abbrev zA_D : Type := Nat × zA_V × zA_V
abbrev zA_S : Type := List (Int × Int × zA_D)
abbrev zA_H : Type := List zA_C
abbrev zA_L : Type := List (Nat × zA_V)
/-- bounds, heap, locals, stack, cells made, slots made -/
abbrev zA_T : Type := zA_S × zA_H × zA_L × List zA_V × Nat × Nat
def zL2 {α β : Type} (R : α → β → Prop) : List α → List β → Prop
  | [], [] => True
  | a :: as, b :: bs => R a b ∧ zL2 R as bs
  | _, _ => False
theorem zL2.len {α β : Type} {R : α → β → Prop} : ∀ {as : List α} {bs : List β}, zL2 R as bs → as.length = bs.length
  | [], [], _ => rfl
  | _ :: _, _ :: _, h => congrArg (· + 1) (zL2.len h.2)
  | [], _ :: _, h => h.elim
  | _ :: _, [], h => h.elim
theorem zL2.get {α β : Type} {R : α → β → Prop} : ∀ {as : List α} {bs : List β} {i : Nat} {a : α}, zL2 R as bs → as[i]? = some a → ∃ b, bs[i]? = some b ∧ R a b
  | a :: as, b :: bs, 0, x, h, e => ⟨b, rfl, by cases e; exact h.1⟩
  | a :: as, b :: bs, i + 1, x, h, e => zL2.get (as := as) (bs := bs) (i := i) h.2 e
  | [], [], _, _, _, e => by cases e
  | [], _ :: _, _, _, h, _ => h.elim
  | _ :: _, [], _, _, h, _ => h.elim
theorem zL2.mono {α β : Type} {R R' : α → β → Prop} (hR : ∀ a b, R a b → R' a b) : ∀ {as : List α} {bs : List β}, zL2 R as bs → zL2 R' as bs
  | [], [], _ => trivial
  | _ :: _, _ :: _, h => ⟨hR _ _ h.1, zL2.mono hR h.2⟩
  | [], _ :: _, h => h.elim
  | _ :: _, [], h => h.elim
theorem zL2.set {α β : Type} {R : α → β → Prop} {a : α} {b : β} (hab : R a b) : ∀ {as : List α} {bs : List β} (i : Nat), zL2 R as bs → zL2 R (as.set i a) (bs.set i b)
  | [], [], _, _ => trivial
  | _ :: _, _ :: _, 0, h => ⟨hab, h.2⟩
  | _ :: _, _ :: _, i + 1, h => ⟨h.1, zL2.set hab i h.2⟩
  | [], _ :: _, _, h => h.elim
  | _ :: _, [], _, h => h.elim
theorem zL2.app {α β : Type} {R : α → β → Prop} {cs : List α} {ds : List β} (h2 : zL2 R cs ds) : ∀ {as : List α} {bs : List β}, zL2 R as bs → zL2 R (as ++ cs) (bs ++ ds)
  | [], [], _ => h2
  | _ :: _, _ :: _, h => ⟨h.1, zL2.app h2 h.2⟩
  | [], _ :: _, h => h.elim
  | _ :: _, [], h => h.elim
theorem zL2.setL {α β : Type} {R : α → β → Prop} {a : α} : ∀ {as : List α} {bs : List β} (i : Nat), zL2 R as bs → (∀ b, bs[i]? = some b → R a b) → zL2 R (as.set i a) bs
  | [], [], _, _, _ => trivial
  | _ :: _, b :: _, 0, h, hb => ⟨hb b rfl, h.2⟩
  | _ :: _, _ :: _, i + 1, h, hb => ⟨h.1, zL2.setL i h.2 (fun b e => hb b e)⟩
  | [], _ :: _, _, h, _ => h.elim
  | _ :: _, [], _, h, _ => h.elim
/-- the sum, difference, .. of two ints -/
def zw32 (z : Int) : Int := if -2147483648 ≤ z ∧ z ≤ 2147483647 then z else z.bmod 4294967296
theorem zw32_eq (z : Int) : zw32 z = z.bmod 4294967296 := by
  unfold zw32
  split
  · next h => exact (Int.bmod_eq_of_le (by omega) (by omega)).symm
  · rfl
/-- the bits of n, counted one by one -/
def zpopN : Nat → Nat → Nat
  | 0, _ => 0
  | k + 1, n => zpopN k n + n / 2 ^ k % 2
def zb (k : Nat) (a b : Int32) : Int32 := if k = 10 then a + b else if k = 11 then a - b else if k = 12 then a * b else if k = 13 then a &&& b else if k = 14 then a ||| b else if k = 15 then a ^^^ b else if k = 16 then a <<< (b &&& 31) else if k = 17 then a >>> (b &&& 31) else if k = 18 then (a.toUInt32 >>> (b.toUInt32 &&& Int32.toUInt32 31)).toInt32 else if k = 19 then a / b else if k = 21 then Int32.ofNat (zpopN 32 a.toBitVec.toNat) else a - a / b * b
def zb_c (k : Nat) (a b : Int) : Int := if k = 10 then zw32 (a + b) else if k = 11 then zw32 (a - b) else if k = 12 then zw32 (a * b) else if k = 22 then zw32 a else if k = 23 then a.bmod 256 else if k = 24 then a.bmod 65536 else (zb k (Int32.ofInt a) (Int32.ofInt b)).toInt
theorem zb_cEq (k : Nat) (a b : Int32) (hk : k ≤ 21 := by omega) : (zb k a b).toInt = zb_c k a.toInt b.toInt := by
  unfold zb_c
  split
  · next h => subst h; rw [zw32_eq]; exact Int32.toInt_add a b
  · split
    · next h => subst h; rw [zw32_eq]; exact Int32.toInt_sub a b
    · split
      · next h => subst h; rw [zw32_eq]; exact Int32.toInt_mul a b
      · rw [if_neg (by omega), if_neg (by omega), if_neg (by omega), Int32.ofInt_toInt, Int32.ofInt_toInt]
abbrev zI2 : Type := Int × Int
def zfull : zI2 := (-2147483648, 2147483647)
def zfullJ : zI2 := (-9223372036854775808, 9223372036854775807)
/-- the bounds that a wide value stands for -/
def zlo (a : zA_V) : Int := a.2 % 8589934592 - 4294967296
def zhi (a : zA_V) : Int := a.2 / 8589934592
def zIq (a : zA_V) : List zI2 := if a.1 = 6 then [(zlo a, zhi a)] else if a.1 = 7 then [(-2000000000, -2000000000), (zlo a, zhi a)] else []
def zg_W (a : zA_V) (v : Value) : Prop := 6 ≤ a.1 ∧ ((∃ x : Int32, v = .int x ∧ ∃ q ∈ zIq a, q.1 ≤ x.toInt ∧ x.toInt ≤ q.2) ∨ (a.1 = 8 ∧ ∃ x : Int64, v = .long x) ∨ (a.1 = 9 ∧ (v = .null ∨ v = .ref a.2.toNat)))
/-- what a value is, where the names mean ρ -/
def zg_V (ρ : List Int) (a : zA_V) (v : Value) : Prop :=
  (a.1 = 0 ∧ ∃ x : Int32, v = .int x ∧ x.toInt = a.2) ∨ (a.1 = 1 ∧ ∃ x : Int32, v = .int x ∧ ρ[a.2.toNat]? = some x.toInt) ∨ (a.1 = 2 ∧ v = .ref a.2.toNat) ∨ (a.1 = 3 ∧ v = .null) ∨
  (a.1 = 4 ∧ ∃ x : Int64, v = .long x ∧ x.toInt = a.2) ∨ (a.1 = 5 ∧ ∃ x : Int64, v = .long x ∧ ρ[a.2.toNat]? = some x.toInt) ∨ zg_W a v
/-- the number of a constant or a name -/
def zE (ρ : List Int) (a : zA_V) (n : Int) : Prop := ((a.1 = 0 ∨ a.1 = 4) ∧ n = a.2) ∨ ((a.1 = 1 ∨ a.1 = 5) ∧ ρ[a.2.toNat]? = some n)
def zg_D (ρ : List Int) (n : Int) (d : zA_D) : Prop := d.1 = 0 ∨ ∃ x y : Int, zE ρ d.2.1 x ∧ zE ρ d.2.2 y ∧ n = zb_c d.1 x y
def zg_E (ρ : List Int) (n : Int) (q : Int × Int × zA_D) : Prop := q.1 ≤ n ∧ n ≤ q.2.1 ∧ zg_D ρ n q.2.2
def zg_S (ρ : List Int) (S : zA_S) : Prop := zL2 (zg_E ρ) ρ S
def zLE (ρ ρ' : List Int) : Prop := ∀ (k : Nat) (n : Int), ρ[k]? = some n → ρ'[k]? = some n
theorem zLE.refl (ρ : List Int) : zLE ρ ρ := fun _ _ h => h
theorem zLE.trans {a b c : List Int} (h : zLE a b) (g : zLE b c) : zLE a c := fun k n q => g k n (h k n q)
theorem zLE.app (ρ : List Int) (n : Int) : zLE ρ (ρ ++ [n]) := fun k m h => by
  rw [List.getElem?_append_left (List.getElem?_eq_some_iff.mp h).1]
  exact h
theorem zE.mono {ρ ρ' : List Int} (h : zLE ρ ρ') {a : zA_V} {n : Int} (g : zE ρ a n) : zE ρ' a n := by
  rcases g with g | ⟨g, e⟩
  · exact Or.inl g
  · exact Or.inr ⟨g, h _ _ e⟩
theorem zg_D.mono {ρ ρ' : List Int} (h : zLE ρ ρ') {n : Int} {d : zA_D} (g : zg_D ρ n d) : zg_D ρ' n d := by
  rcases g with g | ⟨x, y, g1, g2, e⟩
  · exact Or.inl g
  · exact Or.inr ⟨x, y, g1.mono h, g2.mono h, e⟩
theorem zg_V.mono {ρ ρ' : List Int} (h : zLE ρ ρ') {a : zA_V} {v : Value} (g : zg_V ρ a v) : zg_V ρ' a v := by
  rcases g with g | ⟨g, x, e1, e2⟩ | g | g | g | ⟨g, x, e1, e2⟩ | g
  · exact Or.inl g
  · exact Or.inr (Or.inl ⟨g, x, e1, h _ _ e2⟩)
  · exact Or.inr (Or.inr (Or.inl g))
  · exact Or.inr (Or.inr (Or.inr (Or.inl g)))
  · exact Or.inr (Or.inr (Or.inr (Or.inr (Or.inl g))))
  · exact Or.inr (Or.inr (Or.inr (Or.inr (Or.inr (Or.inl ⟨g, x, e1, h _ _ e2⟩)))))
  · exact Or.inr (Or.inr (Or.inr (Or.inr (Or.inr (Or.inr g)))))
/-- an int -/
def zIs (a : zA_V) : Bool := a.1 == 0 || a.1 == 1
def zIsJ (a : zA_V) : Bool := a.1 == 4 || a.1 == 5
theorem zg_int {ρ : List Int} {a : zA_V} {v : Value} (h : zIs a = true) (g : zg_V ρ a v) : ∃ x : Int32, v = .int x ∧ zE ρ a x.toInt := by
  simp only [zIs, Bool.or_eq_true, beq_iff_eq] at h
  rcases g with ⟨g, x, e1, e2⟩ | ⟨g, x, e1, e2⟩ | ⟨g, -⟩ | ⟨g, -⟩ | ⟨g, -⟩ | ⟨g, -⟩ | ⟨g, -⟩
  · exact ⟨x, e1, Or.inl ⟨Or.inl g, e2⟩⟩
  · exact ⟨x, e1, Or.inr ⟨Or.inl g, e2⟩⟩
  all_goals omega
theorem zg_long {ρ : List Int} {a : zA_V} {v : Value} (h : zIsJ a = true) (g : zg_V ρ a v) : ∃ x : Int64, v = .long x ∧ zE ρ a x.toInt := by
  simp only [zIsJ, Bool.or_eq_true, beq_iff_eq] at h
  rcases g with ⟨g, -⟩ | ⟨g, -⟩ | ⟨g, -⟩ | ⟨g, -⟩ | ⟨g, x, e1, e2⟩ | ⟨g, x, e1, e2⟩ | ⟨g, -⟩
  · omega
  · omega
  · omega
  · omega
  · exact ⟨x, e1, Or.inl ⟨Or.inr g, e2⟩⟩
  · exact ⟨x, e1, Or.inr ⟨Or.inr g, e2⟩⟩
  · omega
theorem zg_ref {ρ : List Int} {a : zA_V} {v : Value} (h : a.1 = 2) (g : zg_V ρ a v) : v = .ref a.2.toNat := by
  rcases g with ⟨g, -⟩ | ⟨g, -⟩ | ⟨g, e⟩ | ⟨g, -⟩ | ⟨g, -⟩ | ⟨g, -⟩ | ⟨g, -⟩
  · omega
  · omega
  · exact e
  all_goals omega
theorem zg_ofI {ρ : List Int} {c : Int} {x : Int32} (h : x.toInt = c) : zg_V ρ (0, c) (.int x) := Or.inl ⟨rfl, x, rfl, h⟩
theorem zg_ofJ {ρ : List Int} {c : Int} {x : Int64} (h : x.toInt = c) : zg_V ρ (4, c) (.long x) := Or.inr (Or.inr (Or.inr (Or.inr (Or.inl ⟨rfl, x, rfl, h⟩))))
theorem zg_ofK {ρ : List Int} {k : Nat} {x : Int32} (h : ρ[k]? = some x.toInt) : zg_V ρ (1, (k : Int)) (.int x) := Or.inr (Or.inl ⟨rfl, x, rfl, by simpa using h⟩)
theorem zg_ofKJ {ρ : List Int} {k : Nat} {x : Int64} (h : ρ[k]? = some x.toInt) : zg_V ρ (5, (k : Int)) (.long x) := Or.inr (Or.inr (Or.inr (Or.inr (Or.inr (Or.inl ⟨rfl, x, rfl, by simpa using h⟩)))))
theorem zg_ofR {ρ : List Int} {i : Nat} : zg_V ρ (2, (i : Int)) (.ref i) := Or.inr (Or.inr (Or.inl ⟨rfl, by simp⟩))
theorem zL2.getR {α β : Type} {R : α → β → Prop} : ∀ {as : List α} {bs : List β} {i : Nat} {b : β}, zL2 R as bs → bs[i]? = some b → ∃ a, as[i]? = some a ∧ R a b
  | a :: as, b :: bs, 0, x, h, e => ⟨a, rfl, by cases e; exact h.1⟩
  | a :: as, b :: bs, i + 1, x, h, e => zL2.getR (as := as) (bs := bs) (i := i) h.2 e
  | [], [], _, _, _, e => by cases e
  | [], _ :: _, _, _, h, _ => h.elim
  | _ :: _, [], _, _, h, _ => h.elim
/-- the bounds of a constant or a name -/
def zat (S : zA_S) (k : Nat) : Option (Int × Int) := match S[k]? with
  | some q => some (q.1, q.2.1)
  | none => none
theorem zat_in {ρ : List Int} {S : zA_S} {k : Nat} {n : Int} {q : Int × Int} (hS : zg_S ρ S) (h : zat S k = some q) (e : ρ[k]? = some n) : q.1 ≤ n ∧ n ≤ q.2 := by
  unfold zat at h
  split at h
  · next u hu =>
    obtain ⟨n', e1, e2⟩ := zL2.getR hS hu
    rw [e] at e1
    cases e1
    cases h
    exact ⟨e2.1, e2.2.1⟩
  · cases h
def zr (S : zA_S) (a : zA_V) : Option (Int × Int) := if a.1 = 0 then some (a.2, a.2) else if a.1 = 1 then zat S a.2.toNat else if a.1 = 4 then some (a.2, a.2) else if a.1 = 5 then zat S a.2.toNat else none
theorem zr_in {ρ : List Int} {S : zA_S} {a : zA_V} {n : Int} {q : Int × Int} (hS : zg_S ρ S) (he : zE ρ a n) (h : zr S a = some q) : q.1 ≤ n ∧ n ≤ q.2 := by
  have key : ∀ {k : Nat}, zat S k = some q → ρ[k]? = some n → q.1 ≤ n ∧ n ≤ q.2 := fun h1 h2 => zat_in hS h1 h2
  unfold zr at h
  rcases he with ⟨h1, rfl⟩ | ⟨h1, h2⟩
  · split at h
    · cases h; exact ⟨Int.le_refl _, Int.le_refl _⟩
    · split at h
      · omega
      · split at h
        · cases h; exact ⟨Int.le_refl _, Int.le_refl _⟩
        · omega
  · split at h
    · omega
    · split at h
      · exact key h h2
      · split at h
        · omega
        · split at h
          · exact key h h2
          · omega
/-- a name with one value is that constant -/
def zn (S : zA_S) (a : zA_V) : zA_V := if a.1 = 1 then (match zat S a.2.toNat with | some q => if q.1 = q.2 then (0, q.1) else a | none => a) else if a.1 = 5 then (match zat S a.2.toNat with | some q => if q.1 = q.2 then (4, q.1) else a | none => a) else a
theorem zn_g {ρ : List Int} {S : zA_S} {a : zA_V} {v : Value} (hS : zg_S ρ S) (g : zg_V ρ a v) : zg_V ρ (zn S a) v := by
  have key : ∀ {k : Nat} {q : Int × Int} {n : Int}, zat S k = some q → ρ[k]? = some n → q.1 = q.2 → n = q.1 := by
    intro k q n h1 h2 h3
    have e2 := zat_in hS h1 h2
    omega
  unfold zn
  split
  · next h1 =>
    split
    · next q hq =>
      split
      · next he =>
        rcases g with ⟨g, -⟩ | ⟨g, x, e1, e2⟩ | ⟨g, -⟩ | ⟨g, -⟩ | ⟨g, -⟩ | ⟨g, -⟩ | ⟨g, -⟩
        · omega
        · exact Or.inl ⟨rfl, x, e1, key hq e2 he⟩
        all_goals omega
      · exact g
    · exact g
  · split
    · next h1 =>
      split
      · next q hq =>
        split
        · next he =>
          rcases g with ⟨g, -⟩ | ⟨g, -⟩ | ⟨g, -⟩ | ⟨g, -⟩ | ⟨g, -⟩ | ⟨g, x, e1, e2⟩ | ⟨g, -⟩
          · omega
          · omega
          · omega
          · omega
          · omega
          · exact Or.inr (Or.inr (Or.inr (Or.inr (Or.inl ⟨rfl, x, e1, key hq e2 he⟩))))
          · omega
        · exact g
      · exact g
    · exact g
/-- new bounds of a name -/
def zmo (q : Int × Int) : zA_S → Nat → zA_S
  | [], _ => []
  | u :: S, 0 => (q.1, q.2, u.2.2) :: S
  | u :: S, i + 1 => u :: zmo q S i
def zrf (S : zA_S) (a : zA_V) (q : Int × Int) : zA_S := if a.1 = 1 then zmo q S a.2.toNat else if a.1 = 5 then zmo q S a.2.toNat else S
theorem zrf_g {ρ : List Int} {S : zA_S} {a : zA_V} {n : Int} {q : Int × Int} (hS : zg_S ρ S) (he : zE ρ a n) (h1 : q.1 ≤ n) (h2 : n ≤ q.2) : zg_S ρ (zrf S a q) := by
  have hset : ∀ {as : List Int} {bs : zA_S} (i : Nat), zL2 (zg_E ρ) as bs → as[i]? = some n → zL2 (zg_E ρ) as (zmo q bs i) := by
    intro as
    induction as with
    | nil => intro bs i _ h; cases h
    | cons x xs ih =>
      intro bs i h h4
      cases bs with
      | nil => exact h.elim
      | cons y ys =>
        cases i with
        | zero => cases h4; exact ⟨⟨h1, h2, h.1.2.2⟩, h.2⟩
        | succ i => exact ⟨h.1, ih i h.2 h4⟩
  have key : ρ[a.2.toNat]? = some n → zg_S ρ (zmo q S a.2.toNat) := fun h3 => hset _ hS h3
  unfold zrf
  rcases he with ⟨h3, -⟩ | ⟨h3, h4⟩
  · rw [if_neg (by omega), if_neg (by omega)]
    exact hS
  · rcases h3 with h3 | h3
    · rw [if_pos h3]; exact key h4
    · rw [if_neg (by omega), if_pos h3]; exact key h4
/-- the bounds where a < b -/
def zLT (S : zA_S) (a b : zA_V) : List zA_S := match zr S a, zr S b with
  | some p, some q => if p.1 < q.2 then [zrf (zrf S a (p.1, min p.2 (q.2 - 1))) b (max q.1 (p.1 + 1), q.2)] else []
  | _, _ => [S]
theorem zLT_g {ρ : List Int} {S : zA_S} {a b : zA_V} {n1 n2 : Int} (hS : zg_S ρ S) (h1 : zE ρ a n1) (h2 : zE ρ b n2) (h : n1 < n2) : ∃ S', S' ∈ zLT S a b ∧ zg_S ρ S' := by
  unfold zLT
  split
  · next p q e1 e2 =>
    have g1 := zr_in hS h1 e1
    have g2 := zr_in hS h2 e2
    rw [if_pos (by omega)]
    exact ⟨_, List.mem_singleton.mpr rfl, zrf_g (zrf_g hS h1 g1.1 (by have := g2.2; omega)) h2 (by have := g1.1; have := g2.1; omega) g2.2⟩
  · exact ⟨S, List.mem_singleton.mpr rfl, hS⟩
/-- the bounds where a ≥ b -/
def zGE (S : zA_S) (a b : zA_V) : List zA_S := match zr S a, zr S b with
  | some p, some q => if q.1 ≤ p.2 then [zrf (zrf S a (max p.1 q.1, p.2)) b (q.1, min q.2 p.2)] else []
  | _, _ => [S]
theorem zGE_g {ρ : List Int} {S : zA_S} {a b : zA_V} {n1 n2 : Int} (hS : zg_S ρ S) (h1 : zE ρ a n1) (h2 : zE ρ b n2) (h : n2 ≤ n1) : ∃ S', S' ∈ zGE S a b ∧ zg_S ρ S' := by
  unfold zGE
  split
  · next p q e1 e2 =>
    have g1 := zr_in hS h1 e1
    have g2 := zr_in hS h2 e2
    rw [if_pos (by omega)]
    exact ⟨_, List.mem_singleton.mpr rfl, zrf_g (zrf_g hS h1 (by have := g2.1; omega) g1.2) h2 g2.1 (by have := g1.2; omega)⟩
  · exact ⟨S, List.mem_singleton.mpr rfl, hS⟩
def zEQ (S : zA_S) (a b : zA_V) : List zA_S := match zr S a, zr S b with
  | some p, some q => if max p.1 q.1 ≤ min p.2 q.2 then [zrf (zrf S a (max p.1 q.1, min p.2 q.2)) b (max p.1 q.1, min p.2 q.2)] else []
  | _, _ => [S]
theorem zEQ_g {ρ : List Int} {S : zA_S} {a b : zA_V} {n1 n2 : Int} (hS : zg_S ρ S) (h1 : zE ρ a n1) (h2 : zE ρ b n2) (h : n1 = n2) : ∃ S', S' ∈ zEQ S a b ∧ zg_S ρ S' := by
  unfold zEQ
  split
  · next p q e1 e2 =>
    have g1 := zr_in hS h1 e1
    have g2 := zr_in hS h2 e2
    subst h
    have m1 : max p.1 q.1 ≤ n1 := by omega
    have m2 : n1 ≤ min p.2 q.2 := by omega
    rw [if_pos (by omega)]
    exact ⟨_, List.mem_singleton.mpr rfl, zrf_g (zrf_g hS h1 m1 m2) h2 m1 m2⟩
  · exact ⟨S, List.mem_singleton.mpr rfl, hS⟩
def zNE (S : zA_S) (a b : zA_V) : List zA_S := if a = b then [] else zLT S a b ++ zLT S b a
theorem zE_fun {ρ : List Int} {a : zA_V} {n m : Int} (h : zE ρ a n) (g : zE ρ a m) : n = m := by
  rcases h with ⟨h1, h2⟩ | ⟨h1, h2⟩ <;> rcases g with ⟨g1, g2⟩ | ⟨g1, g2⟩
  · omega
  · omega
  · omega
  · rw [h2] at g2; cases g2; rfl
theorem zNE_g {ρ : List Int} {S : zA_S} {a b : zA_V} {n1 n2 : Int} (hS : zg_S ρ S) (h1 : zE ρ a n1) (h2 : zE ρ b n2) (h : n1 ≠ n2) : ∃ S', S' ∈ zNE S a b ∧ zg_S ρ S' := by
  unfold zNE
  have hne : ¬ a = b := fun e => h (zE_fun (by rw [e] at h1; exact h1) h2)
  rw [if_neg hne]
  rcases Int.lt_or_gt_of_ne h with h | h
  · obtain ⟨S', m, g⟩ := zLT_g hS h1 h2 h
    exact ⟨S', List.mem_append_left _ m, g⟩
  · obtain ⟨S', m, g⟩ := zLT_g hS h2 h1 h
    exact ⟨S', List.mem_append_right _ m, g⟩
/-- all values of a name, one by one -/
def zSp (S : zA_S) (a : zA_V) : Option (List zA_S) := match zr S a with
  | some q => if q.2 - q.1 ≤ 63 then some ((List.range (q.2 - q.1 + 1).toNat).map (fun i : Nat => zrf S a (q.1 + (i : Int), q.1 + (i : Int)))) else none
  | none => none
theorem zSp_g {ρ : List Int} {S : zA_S} {a : zA_V} {n : Int} {l : List zA_S} (hS : zg_S ρ S) (h1 : zE ρ a n) (h : zSp S a = some l) : ∃ S', S' ∈ l ∧ zg_S ρ S' := by
  unfold zSp at h
  split at h
  · next q e1 =>
    split at h
    · cases h
      have g1 := zr_in hS h1 e1
      refine ⟨zrf S a (q.1 + ((n - q.1).toNat : Int), q.1 + ((n - q.1).toNat : Int)), List.mem_map.mpr ⟨(n - q.1).toNat, List.mem_range.mpr (by omega), rfl⟩, zrf_g hS h1 (by show q.1 + ((n - q.1).toNat : Int) ≤ n; omega) (by show n ≤ q.1 + ((n - q.1).toNat : Int); omega)⟩
    · cases h
  · cases h
/-- a new name -/
def zD0 : zA_D := (0, (3, 0), (3, 0))
theorem zg_S.mono {ρ ρ' r : List Int} {S : zA_S} (hS : zL2 (zg_E ρ) r S) (hle : zLE ρ ρ') : zL2 (zg_E ρ') r S := zL2.mono (fun _ _ h => ⟨h.1, h.2.1, h.2.2.mono hle⟩) hS
theorem zg_S.pushD {ρ : List Int} {S : zA_S} (hS : zg_S ρ S) {n : Int} {q : Int × Int} {D : zA_D} (h1 : q.1 ≤ n) (h2 : n ≤ q.2) (h3 : zg_D ρ n D) : zg_S (ρ ++ [n]) (S ++ [(q.1, q.2, D)]) :=
  zL2.app (cs := [n]) (ds := [(q.1, q.2, D)]) ⟨⟨h1, h2, h3.mono (zLE.app ρ n)⟩, trivial⟩ (zg_S.mono hS (zLE.app ρ n))
theorem zg_S.push {ρ : List Int} {S : zA_S} (hS : zg_S ρ S) {n : Int} {q : Int × Int} (h1 : q.1 ≤ n) (h2 : n ≤ q.2) : zg_S (ρ ++ [n]) (S ++ [(q.1, q.2, zD0)]) := hS.pushD h1 h2 (Or.inl rfl)
/-- the name that was made so before -/
def zfd (d : zA_D) : zA_S → Nat → Option Nat
  | [], _ => none
  | q :: S, i => match Nat.beq q.2.2.1 d.1 with
    | false => zfd d S (i + 1)
    | true => if q.2.2 = d then some i else zfd d S (i + 1)
theorem zfd_at {d : zA_D} : ∀ {S : zA_S} {i j : Nat}, zfd d S i = some j → ∃ q, i ≤ j ∧ S[j - i]? = some q ∧ q.2.2 = d
  | [], _, _, h => by cases h
  | q :: S, i, j, h => by
    unfold zfd at h
    have rec1 : zfd d S (i + 1) = some j → ∃ q', i ≤ j ∧ (q :: S)[j - i]? = some q' ∧ q'.2.2 = d := by
      intro h
      obtain ⟨q', h1, h2, h3⟩ := zfd_at h
      have e : j - i = (j - (i + 1)) + 1 := by omega
      exact ⟨q', by omega, by rw [e]; exact h2, h3⟩
    split at h
    · exact rec1 h
    · split at h
      · next e => cases h; exact ⟨q, Nat.le_refl _, by rw [Nat.sub_self]; rfl, e⟩
      · exact rec1 h
theorem zfd_g {ρ : List Int} {S : zA_S} {d : zA_D} {j : Nat} {n : Int} (hS : zg_S ρ S) (h : zfd d S 0 = some j) (hd : d.1 ≠ 0) (hn : ∀ x y : Int, zE ρ d.2.1 x → zE ρ d.2.2 y → n = zb_c d.1 x y) : ρ[j]? = some n := by
  obtain ⟨q, -, h2, h3⟩ := zfd_at h
  obtain ⟨m, e1, e2⟩ := zL2.getR hS h2
  rcases e2.2.2 with h0 | ⟨x, y, g1, g2, e⟩
  · rw [h3] at h0; exact absurd h0 hd
  · rw [h3] at g1 g2 e
    rw [hn x y g1 g2, ← e]
    simpa using e1
/-- a wide value by its names -/
def zwd1 (S : zA_S) (q : zI2) : zA_S × zA_V := if q.1 = q.2 then (S, (0, q.1)) else (S ++ [(q.1, q.2, zD0)], (1, (S.length : Int)))
def zwd (S : zA_S) (a : zA_V) : List (zA_S × zA_V) := if a.1 < 6 then [(S, a)] else if a.1 < 8 then (zIq a).map (zwd1 S) else if a.1 = 8 then [(S ++ [(zfullJ.1, zfullJ.2, zD0)], (5, (S.length : Int)))] else if a.1 = 9 then [(S, (3, 0)), (S, (2, a.2))] else []
theorem zg_S.at {ρ : List Int} {S : zA_S} (hS : zg_S ρ S) (n : Int) : (ρ ++ [n])[S.length]? = some n := by
  have := zL2.len hS
  rw [← this, List.getElem?_append_right (Nat.le_refl _)]
  simp
theorem zwd_g {ρ : List Int} {S : zA_S} {a : zA_V} {v : Value} (hS : zg_S ρ S) (g : zg_V ρ a v) : ∃ p ∈ zwd S a, ∃ ρ', zLE ρ ρ' ∧ zg_S ρ' p.1 ∧ zg_V ρ' p.2 v := by
  unfold zwd
  split
  · exact ⟨_, List.mem_singleton.mpr rfl, ρ, zLE.refl ρ, hS, g⟩
  · next h6 =>
    have gw : zg_W a v := by
      rcases g with ⟨g, -⟩ | ⟨g, -⟩ | ⟨g, -⟩ | ⟨g, -⟩ | ⟨g, -⟩ | ⟨g, -⟩ | g
      · omega
      · omega
      · omega
      · omega
      · omega
      · omega
      · exact g
    rcases gw.2 with ⟨x, rfl, q, hq, h1, h2⟩ | ⟨h8, x, rfl⟩ | ⟨h9, h⟩
    · have h8 : a.1 < 8 := by
        unfold zIq at hq
        split at hq
        · omega
        · split at hq
          · omega
          · cases hq
      rw [if_pos h8]
      refine ⟨_, List.mem_map.mpr ⟨q, hq, rfl⟩, ?_⟩
      unfold zwd1
      split
      · exact ⟨ρ, zLE.refl ρ, hS, zg_ofI (by omega)⟩
      · exact ⟨_, zLE.app ρ x.toInt, hS.push h1 h2, zg_ofK (hS.at _)⟩
    · rw [if_neg (by omega), if_pos h8]
      have h1 := Int64.le_toInt x
      have h2 := Int64.toInt_lt x
      exact ⟨_, List.mem_singleton.mpr rfl, _, zLE.app ρ x.toInt, hS.push (q := zfullJ) (by show -9223372036854775808 ≤ _; omega) (by show _ ≤ 9223372036854775807; omega), zg_ofKJ (hS.at _)⟩
    · rw [if_neg (by omega), if_neg (by omega), if_pos h9]
      rcases h with rfl | rfl
      · exact ⟨_, List.mem_cons_self, ρ, zLE.refl ρ, hS, Or.inr (Or.inr (Or.inr (Or.inl ⟨rfl, rfl⟩)))⟩
      · exact ⟨_, List.mem_cons_of_mem _ List.mem_cons_self, ρ, zLE.refl ρ, hS, Or.inr (Or.inr (Or.inl ⟨rfl, rfl⟩))⟩
/-- a value of this kind -/
def zfw (S : zA_S) (v w : zA_V) : Bool := if w.1 < 8 then (zIs v && (match zr S v with
    | some p => (zIq w).any (fun q => decide (q.1 ≤ p.1 ∧ p.2 ≤ q.2))
    | none => false)) else if w.1 = 8 then zIsJ v else false
theorem zfw_g {ρ : List Int} {S : zA_S} {v w : zA_V} {u : Value} (hS : zg_S ρ S) (g : zg_V ρ v u) (h6 : 6 ≤ w.1) (h : zfw S v w = true) : zg_V ρ w u := by
  unfold zfw at h
  refine Or.inr (Or.inr (Or.inr (Or.inr (Or.inr (Or.inr ⟨h6, ?_⟩)))))
  split at h
  · simp only [Bool.and_eq_true] at h
    obtain ⟨h1, h2⟩ := h
    obtain ⟨x, rfl, ex⟩ := zg_int h1 g
    split at h2
    · next p hp =>
      obtain ⟨q, hq, hd⟩ := List.any_eq_true.mp h2
      have b := zr_in hS ex hp
      have hd := of_decide_eq_true hd
      exact Or.inl ⟨x, rfl, q, hq, by omega, by omega⟩
    · cases h2
  · split at h
    · next h8 =>
      obtain ⟨x, rfl, -⟩ := zg_long h g
      exact Or.inr (Or.inl ⟨h8, x, rfl⟩)
    · cases h
/-- what is known of places that a name tells: the key 1000000 + k is the place that the name k tells -/
def zg_Y (ρ : List Int) (n : Nat) (ov : List (Nat × zA_V)) (el : Nat → Value) : Prop := ∀ q ∈ ov, 1000000 ≤ q.1 → ∃ m : Int, ρ[q.1 - 1000000]? = some m ∧ (0 ≤ m → m < n → zg_V ρ q.2 (el m.toNat))
theorem zg_Y.mono {ρ ρ' : List Int} (h : zLE ρ ρ') {n : Nat} {ov : List (Nat × zA_V)} {el : Nat → Value} (g : zg_Y ρ n ov el) : zg_Y ρ' n ov el := fun q hq hk => by
  obtain ⟨m, h1, h2⟩ := g q hq hk
  exact ⟨m, h _ _ h1, fun a b => (h2 a b).mono h⟩
theorem zg_Y.nil (ρ : List Int) (n : Nat) (el : Nat → Value) : zg_Y ρ n [] el := fun q h => by cases h
/-- fields that are what they are in a cell of φ -/
def zg_Z (φ : List z_C) (ov : List (Nat × zA_V)) (fs : List Value) : Prop := ∀ q ∈ ov, q.2.1 = 8 ∧ ∃ (n : Nat) (gs : List Value), φ[q.2.2.toNat]? = some (.inr (n, gs)) ∧ fs[q.1]? = gs[q.1]?
theorem zg_Z.nil (φ : List z_C) (fs : List Value) : zg_Z φ [] fs := fun q h => by cases h
/-- (8, i, n, [w], places) with n above 0: it is an array of n values within w, too, or as the places have it -/
def zg_8 (ρ : List Int) (a : zA_C) (c : z_C) : Prop := 0 < a.2.2.1 → ((∃ f : Nat → Int32, c = .inl (0, a.2.2.1, z_I f) ∧ (a.2.2.2.1.headD (3, 0)).1 ≠ 8 ∧ (∀ j, j < a.2.2.1 → zg_V ρ ((a.2.2.2.2.lookup j).getD (a.2.2.2.1.headD (3, 0))) (.int (f j))) ∧ zg_Y ρ a.2.2.1 a.2.2.2.2 (fun j => .int (f j))) ∨ (∃ f : Nat → Int64, c = .inl (1, a.2.2.1, z_J f) ∧ (a.2.2.2.1.headD (3, 0)).1 = 8 ∧ (∀ j, j < a.2.2.1 → zg_V ρ ((a.2.2.2.2.lookup j).getD (a.2.2.2.1.headD (3, 0))) (.long (f j))) ∧ zg_Y ρ a.2.2.1 a.2.2.2.2 (fun j => .long (f j))))
theorem zg_8.mono {ρ ρ' : List Int} (h : zLE ρ ρ') {a : zA_C} {c : z_C} (g : zg_8 ρ a c) : zg_8 ρ' a c := fun h0 => by
  rcases g h0 with ⟨f, e, k, g, gy⟩ | ⟨f, e, k, g, gy⟩
  · exact Or.inl ⟨f, e, k, fun j hj => (g j hj).mono h, gy.mono h⟩
  · exact Or.inr ⟨f, e, k, fun j hj => (g j hj).mono h, gy.mono h⟩
theorem zg_8.nil (ρ : List Int) {a : zA_C} (c : z_C) (h : a.2.2.1 = 0) : zg_8 ρ a c := fun h0 => by omega
/-- a cell; (8, i ..) is the cell i of φ, whatever it is -/
def zg_C (φ : List z_C) (ρ : List Int) (a : zA_C) (c : z_C) : Prop :=
  (a.1 = 8 ∧ φ[a.2.1]? = some c ∧ zg_8 ρ a c) ∨
  (a.1 = 0 ∧ ∃ fs, c = .inr (a.2.1, fs) ∧ zL2 (zg_V ρ) a.2.2.2.1 fs ∧ zg_Z φ a.2.2.2.2 fs) ∨
  (a.1 = 1 ∧ a.2.1 = 0 ∧ ∃ f : Nat → Int32, c = .inl (0, a.2.2.1, z_I f) ∧ (∀ j, j < a.2.2.1 → zg_V ρ ((a.2.2.2.2.lookup j).getD (a.2.2.2.1.headD (3, 0))) (.int (f j))) ∧ zg_Y ρ a.2.2.1 a.2.2.2.2 (fun j => .int (f j))) ∨
  (a.1 = 1 ∧ a.2.1 = 1 ∧ ∃ f : Nat → Int64, c = .inl (1, a.2.2.1, z_J f) ∧ (∀ j, j < a.2.2.1 → zg_V ρ ((a.2.2.2.2.lookup j).getD (a.2.2.2.1.headD (3, 0))) (.long (f j))) ∧ zg_Y ρ a.2.2.1 a.2.2.2.2 (fun j => .long (f j))) ∨
  (a.1 = 1 ∧ a.2.1 = 2 ∧ ∃ f : Nat → Option Nat, c = .inl (2, a.2.2.1, z_O f) ∧ (∀ j, j < a.2.2.1 → zg_V ρ ((a.2.2.2.2.lookup j).getD (a.2.2.2.1.headD (3, 0))) (z_rf (f j))) ∧ zg_Y ρ a.2.2.1 a.2.2.2.2 (fun j => z_rf (f j)))
theorem zg_C.mono {φ : List z_C} {ρ ρ' : List Int} (h : zLE ρ ρ') {a : zA_C} {c : z_C} (g : zg_C φ ρ a c) : zg_C φ ρ' a c := by
  rcases g with g | ⟨h1, fs, e, g⟩ | ⟨h1, h2, f, e, g, gy⟩ | ⟨h1, h2, f, e, g, gy⟩ | ⟨h1, h2, f, e, g, gy⟩
  · exact Or.inl ⟨g.1, g.2.1, g.2.2.mono h⟩
  · exact Or.inr (Or.inl ⟨h1, fs, e, zL2.mono (fun _ _ => zg_V.mono h) g.1, g.2⟩)
  · exact Or.inr (Or.inr (Or.inl ⟨h1, h2, f, e, fun j hj => (g j hj).mono h, gy.mono h⟩))
  · exact Or.inr (Or.inr (Or.inr (Or.inl ⟨h1, h2, f, e, fun j hj => (g j hj).mono h, gy.mono h⟩)))
  · exact Or.inr (Or.inr (Or.inr (Or.inr ⟨h1, h2, f, e, fun j hj => (g j hj).mono h, gy.mono h⟩)))
def zg_L (ρ : List Int) (L : zA_L) (lv : List (Nat × Value)) : Prop := zL2 (fun a c => a.1 = c.1 ∧ zg_V ρ a.2 c.2) L lv
/-- the script: its first ints are the first names (from 1000 on: nothing is said of it; 3000000: from a place on, that is the name 6, six of them) -/
def zg_X (ρ : List Int) (XL : Nat) (X : zx_X) : Prop := (XL < 1000 → X.1 = XL ∧ ∀ j, j < XL → ρ[j]? = some (X.2 j).toInt) ∧
  (XL = 3000000 → ∃ i : Nat, ρ[6]? = some (i : Int) ∧ i + 6 ≤ X.1 ∧ X.1 ≤ 4000 ∧ ∀ j, j < 6 → ρ[j]? = some (X.2 (i + j)).toInt)
theorem zg_X.mono {ρ ρ' : List Int} {XL : Nat} {X : zx_X} (h : zLE ρ ρ') (g : zg_X ρ XL X) : zg_X ρ' XL X :=
  ⟨fun hx => ⟨(g.1 hx).1, fun j hj => h _ _ ((g.1 hx).2 j hj)⟩, fun hx => by
    obtain ⟨i, h1, h2, h3, h4⟩ := g.2 hx
    exact ⟨i, h _ _ h1, h2, h3, fun j hj => h _ _ (h4 j hj)⟩⟩
theorem zg_Xno (ρ : List Int) (XL : Nat) (X : zx_X) (h1 : ¬ XL < 1000) (h2 : XL ≠ 3000000) : zg_X ρ XL X := ⟨fun h => absurd h h1, fun h => absurd h h2⟩
def zg_T (XL : Nat) (X : zx_X) (φ : List z_C) (ρ : List Int) (t : zA_T) (ph : List z_C) (lv : List (Nat × Value)) (st : List Value) : Prop :=
  zg_S ρ t.1 ∧ zL2 (zg_C φ ρ) t.2.1 ph ∧ zg_L ρ t.2.2.1 lv ∧ zL2 (zg_V ρ) t.2.2.2.1 st ∧ zg_X ρ XL X
theorem zg_L.look {ρ : List Int} : ∀ {L : zA_L} {lv : List (Nat × Value)} {i : Nat} {a : zA_V}, zg_L ρ L lv → L.lookup i = some a → ∃ v, lv.lookup i = some v ∧ zg_V ρ a v
  | [], [], _, _, _, e => by cases e
  | (j, x) :: L, (k, v) :: lv, i, a, h, e => by
    obtain ⟨⟨h1, h2⟩, h3⟩ := h
    have h1 : j = k := h1
    subst h1
    rw [List.lookup_cons] at e ⊢
    cases hij : i == j with
    | true =>
      rw [hij] at e
      have e : x = a := Option.some.inj e
      subst e
      exact ⟨v, rfl, h2⟩
    | false =>
      rw [hij] at e
      exact zg_L.look h3 e
  | [], _ :: _, _, _, h, _ => h.elim
  | _ :: _, [], _, _, h, _ => h.elim
theorem zg_cat {ρ : List Int} {a : zA_V} {v : Value} (g : zg_V ρ a v) : v.category = if a.1 = 4 ∨ a.1 = 5 ∨ a.1 = 8 then 2 else 1 := by
  rcases g with ⟨g, x, e1, -⟩ | ⟨g, x, e1, -⟩ | ⟨g, e1⟩ | ⟨g, e1⟩ | ⟨g, x, e1, -⟩ | ⟨g, x, e1, -⟩ | ⟨g, ⟨x, e1, q, hq, -⟩ | ⟨g8, x, e1⟩ | ⟨g9, e1 | e1⟩⟩ <;> subst e1
  · rw [if_neg (by omega)]; rfl
  · rw [if_neg (by omega)]; rfl
  · rw [if_neg (by omega)]; rfl
  · rw [if_neg (by omega)]; rfl
  · rw [if_pos (by omega)]; rfl
  · rw [if_pos (by omega)]; rfl
  · have h8 : a.1 < 8 := by
      unfold zIq at hq
      split at hq
      · omega
      · split at hq
        · omega
        · cases hq
    rw [if_neg (by omega)]; rfl
  · rw [if_pos (by omega)]; rfl
  · rw [if_neg (by omega)]; rfl
  · rw [if_neg (by omega)]; rfl
def zcat (a : zA_V) : Nat := if a.1 = 4 ∨ a.1 = 5 ∨ a.1 = 8 then 2 else 1
def zS1 (L : zA_L) (i : Nat) (a : zA_V) : zA_L := (i, a) :: L.filter (fun q => !(q.1 == i) && !(q.1 + 1 == i && zcat q.2 == 2))
def zS2 (L : zA_L) (i : Nat) (a : zA_V) : zA_L := (i, a) :: L.filter (fun q => !(q.1 == i) && (!(q.1 == i + 1) && !(q.1 + 1 == i && zcat q.2 == 2)))
theorem zL2.filter {α β : Type} {R : α → β → Prop} {p : α → Bool} {q : β → Bool} (hpq : ∀ a b, R a b → p a = q b) : ∀ {as : List α} {bs : List β}, zL2 R as bs → zL2 R (as.filter p) (bs.filter q)
  | [], [], _ => trivial
  | a :: as, b :: bs, h => by
    rw [List.filter_cons, List.filter_cons, hpq a b h.1]
    cases q b with
    | true => exact ⟨h.1, zL2.filter hpq h.2⟩
    | false => exact zL2.filter hpq h.2
  | [], _ :: _, h => h.elim
  | _ :: _, [], h => h.elim
theorem zS1_g {ρ : List Int} {L : zA_L} {lv : List (Nat × Value)} {i : Nat} {a : zA_V} {v : Value} (h : zg_L ρ L lv) (g : zg_V ρ a v) : zg_L ρ (zS1 L i a) (z_st1 lv i v) :=
  ⟨⟨rfl, g⟩, zL2.filter (fun x y hxy => by rw [hxy.1, zg_cat hxy.2]; rfl) h⟩
theorem zS2_g {ρ : List Int} {L : zA_L} {lv : List (Nat × Value)} {i : Nat} {a : zA_V} {v : Value} (h : zg_L ρ L lv) (g : zg_V ρ a v) : zg_L ρ (zS2 L i a) (z_st2 lv i v) :=
  ⟨⟨rfl, g⟩, zL2.filter (fun x y hxy => by rw [hxy.1, zg_cat hxy.2]; rfl) h⟩
end
section
/-! PART 11b: bounds of operations. -/
theorem z_int_nat (a : Int32) (h : 0 ≤ a.toInt) : a.toInt = (a.toBitVec.toNat : Int) ∧ a.toBitVec.toNat < 2147483648 := by
  have e1 : a.toInt = a.toBitVec.toInt := rfl
  have hl := a.toBitVec.isLt
  rw [e1, BitVec.toInt_eq_toNat_cond] at h ⊢
  split
  · exact ⟨rfl, by omega⟩
  · next q => rw [if_neg q] at h; omega
theorem z_nat_int (a : Int32) (h : a.toBitVec.toNat < 2147483648) : a.toInt = (a.toBitVec.toNat : Int) := by
  have e1 : a.toInt = a.toBitVec.toInt := rfl
  rw [e1, BitVec.toInt_eq_toNat_cond, if_pos (by omega)]
/-- the least number of ones that is not less -/
def zpw (n : Int) : Int := ((2 ^ (Nat.log2 n.toNat + 1) - 1 : Nat) : Int)
theorem z_pw {n : Int} {a : Nat} (h : (a : Int) ≤ n) : a < 2 ^ (Nat.log2 n.toNat + 1) := by
  have h1 : a ≤ n.toNat := by omega
  exact Nat.lt_of_le_of_lt h1 Nat.lt_log2_self
theorem z_pw31 {n : Int} (h : n < 2147483648) : 2 ^ (Nat.log2 n.toNat + 1) ≤ 2147483648 := by
  have h1 : Nat.log2 n.toNat < 31 := by
    by_cases h0 : n.toNat = 0
    · rw [h0]; decide
    · exact (Nat.log2_lt h0).mpr (by omega)
  have : 2 ^ (Nat.log2 n.toNat + 1) ≤ 2 ^ 31 := Nat.pow_le_pow_right (by omega) (by omega)
  omega
theorem z_or_in (a b : Int32) {m : Int} (h0 : 0 ≤ a.toInt) (h1 : a.toInt ≤ m) (h2 : 0 ≤ b.toInt) (h3 : b.toInt ≤ m) (hm : m < 2147483648) : 0 ≤ (a ||| b).toInt ∧ (a ||| b).toInt ≤ zpw m := by
  obtain ⟨ea, la⟩ := z_int_nat a h0
  obtain ⟨eb, lb⟩ := z_int_nat b h2
  have p1 := z_pw (n := m) (a := a.toBitVec.toNat) (by omega)
  have p2 := z_pw (n := m) (a := b.toBitVec.toNat) (by omega)
  have e : (a ||| b).toBitVec.toNat = a.toBitVec.toNat ||| b.toBitVec.toNat := by rw [Int32.toBitVec_or, BitVec.toNat_or]
  have p3 := Nat.or_lt_two_pow p1 p2
  have p4 := z_pw31 hm
  have e2 := z_nat_int (a ||| b) (by omega)
  unfold zpw
  omega
theorem z_xor_in (a b : Int32) {m : Int} (h0 : 0 ≤ a.toInt) (h1 : a.toInt ≤ m) (h2 : 0 ≤ b.toInt) (h3 : b.toInt ≤ m) (hm : m < 2147483648) : 0 ≤ (a ^^^ b).toInt ∧ (a ^^^ b).toInt ≤ zpw m := by
  obtain ⟨ea, la⟩ := z_int_nat a h0
  obtain ⟨eb, lb⟩ := z_int_nat b h2
  have p1 := z_pw (n := m) (a := a.toBitVec.toNat) (by omega)
  have p2 := z_pw (n := m) (a := b.toBitVec.toNat) (by omega)
  have e : (a ^^^ b).toBitVec.toNat = a.toBitVec.toNat ^^^ b.toBitVec.toNat := by rw [Int32.toBitVec_xor, BitVec.toNat_xor]
  have p3 := Nat.xor_lt_two_pow p1 p2
  have p4 := z_pw31 hm
  have e2 := z_nat_int (a ^^^ b) (by omega)
  unfold zpw
  omega
/-- the shift's distance -/
theorem z_sh (b : Int32) (h0 : 0 ≤ b.toInt) (h1 : b.toInt ≤ 31) : (b &&& 31).toBitVec.toNat = b.toInt.toNat := by
  obtain ⟨eb, lb⟩ := z_int_nat b h0
  have e : (b &&& 31).toBitVec.toNat = b.toBitVec.toNat &&& 31 := by rw [Int32.toBitVec_and, BitVec.toNat_and]; rfl
  have e2 : b.toBitVec.toNat &&& 31 = b.toBitVec.toNat % 32 := Nat.and_two_pow_sub_one_eq_mod b.toBitVec.toNat 5
  omega
theorem z_shl_eq (a b : Int32) (h0 : 0 ≤ a.toInt) (hb0 : 0 ≤ b.toInt) (hb1 : b.toInt ≤ 31) (h : a.toInt * 2 ^ b.toInt.toNat < 2147483648) : (a <<< (b &&& 31)).toInt = a.toInt * 2 ^ b.toInt.toNat := by
  obtain ⟨ea, la⟩ := z_int_nat a h0
  have es := z_sh b hb0 hb1
  have e : (a <<< (b &&& 31)).toBitVec.toNat = (a.toBitVec.toNat <<< b.toInt.toNat) % 2 ^ 32 := by
    rw [Int32.toBitVec_shiftLeft, BitVec.shiftLeft_eq', BitVec.toNat_shiftLeft]
    have e3 : ((b &&& 31).toBitVec.smod 32).toNat = b.toInt.toNat := by
      have e4 : (b &&& 31).toBitVec.toNat < 32 := by omega
      have e5 : (b &&& 31).toBitVec.smod 32 = (b &&& 31).toBitVec := by
        generalize (b &&& 31).toBitVec = v at e4
        apply BitVec.eq_of_toNat_eq
        have hv : v.msb = false := by
          rw [BitVec.msb_eq_decide]
          exact decide_eq_false (by show ¬ 2147483648 ≤ v.toNat; omega)
        rw [BitVec.smod_eq, hv]
        show (v.umod 32).toNat = v.toNat
        show (v % 32).toNat = v.toNat
        rw [BitVec.toNat_umod]
        exact Nat.mod_eq_of_lt e4
      rw [e5, es]
    rw [e3]
  rw [Nat.shiftLeft_eq] at e
  have hn : a.toBitVec.toNat * 2 ^ b.toInt.toNat < 2147483648 := by
    rw [ea] at h
    have h2 : ((a.toBitVec.toNat * 2 ^ b.toInt.toNat : Nat) : Int) < 2147483648 := by
      rw [Int.natCast_mul, Int.natCast_pow]
      exact h
    omega
  rw [Nat.mod_eq_of_lt (by omega)] at e
  have e2 := z_nat_int (a <<< (b &&& 31)) (by omega)
  rw [e2, e, ea]
  rw [Int.natCast_mul, Int.natCast_pow]
  rfl
theorem z_pow_le {m n : Nat} (h : m ≤ n) : (2 : Int) ^ m ≤ 2 ^ n := by
  have := Nat.pow_le_pow_right (n := 2) (by omega) h
  have e1 : ((2 ^ m : Nat) : Int) = 2 ^ m := Int.natCast_pow 2 m
  have e2 : ((2 ^ n : Nat) : Int) = 2 ^ n := Int.natCast_pow 2 n
  omega
theorem z_pow_pos (m : Nat) : (0 : Int) < 2 ^ m := by
  have e1 : ((2 ^ m : Nat) : Int) = 2 ^ m := Int.natCast_pow 2 m
  have := Nat.two_pow_pos m
  omega
theorem z_smod32 (v : BitVec 32) (e4 : v.toNat < 32) : v.smod 32 = v := by
  apply BitVec.eq_of_toNat_eq
  have hv : v.msb = false := by
    rw [BitVec.msb_eq_decide]
    exact decide_eq_false (by show ¬ 2147483648 ≤ v.toNat; omega)
  rw [BitVec.smod_eq, hv]
  show (v % 32).toNat = v.toNat
  rw [BitVec.toNat_umod]
  exact Nat.mod_eq_of_lt e4
theorem z_and31 (b : Int32) : (b &&& 31).toBitVec.toNat < 32 := by
  have e : (b &&& 31).toBitVec.toNat = b.toBitVec.toNat &&& 31 := by rw [Int32.toBitVec_and, BitVec.toNat_and]; rfl
  have e2 : b.toBitVec.toNat &&& 31 = b.toBitVec.toNat % 32 := Nat.and_two_pow_sub_one_eq_mod b.toBitVec.toNat 5
  omega
/-- shift to the right: towards 0 or -1 -/
theorem z_shr_eq (a b : Int32) : (a >>> (b &&& 31)).toInt = a.toInt / 2 ^ (b &&& 31).toBitVec.toNat := by
  have e1 : (a >>> (b &&& 31)).toInt = (a >>> (b &&& 31)).toBitVec.toInt := rfl
  rw [e1, Int32.toBitVec_shiftRight, BitVec.toInt_sshiftRight', z_smod32 _ (z_and31 b), Int.shiftRight_eq_div_pow]
  rfl
theorem z_shr_in (a b : Int32) : min a.toInt 0 ≤ (a >>> (b &&& 31)).toInt ∧ (a >>> (b &&& 31)).toInt ≤ max a.toInt 0 := by
  rw [z_shr_eq]
  generalize (b &&& 31).toBitVec.toNat = k
  have hp := z_pow_pos k
  have h1 : (1 : Int) ≤ 2 ^ k := by omega
  generalize (2 : Int) ^ k = m at *
  rcases Int.le_total 0 a.toInt with h | h
  · have u1 : 0 ≤ a.toInt / m := Int.ediv_nonneg h (by omega)
    have u2 : a.toInt / m ≤ a.toInt := Int.ediv_le_self _ h
    omega
  · have u1 : a.toInt ≤ a.toInt / m := by
      rw [Int.le_ediv_iff_mul_le hp]
      have := Int.mul_le_mul_of_nonpos_left (a := a.toInt) (b := m) (c := 1) (by omega) (by omega)
      omega
    have u2 : a.toInt / m ≤ 0 := by
      have := Int.ediv_le_ediv (a := a.toInt) (b := 0) hp h
      simpa using this
    omega
theorem z_shr_in2 (a b : Int32) {c : Int} (h0 : 0 ≤ a.toInt) (hc : 0 ≤ c) (h1 : c ≤ b.toInt) (h2 : b.toInt ≤ 31) {p : Int} (hp : a.toInt ≤ p) : (a >>> (b &&& 31)).toInt ≤ p / 2 ^ c.toNat := by
  rw [z_shr_eq, z_sh b (by omega) h2]
  have u1 := z_pow_le (m := c.toNat) (n := b.toInt.toNat) (by omega)
  have u2 := z_pow_pos c.toNat
  have u3 : a.toInt / 2 ^ b.toInt.toNat ≤ a.toInt / 2 ^ c.toNat := by
    generalize (2 : Int) ^ b.toInt.toNat = m at *
    generalize (2 : Int) ^ c.toNat = m' at *
    rw [Int.le_ediv_iff_mul_le u2]
    have v1 : 0 ≤ a.toInt / m := Int.ediv_nonneg h0 (by omega)
    have v2 : a.toInt / m * m' ≤ a.toInt / m * m := Int.mul_le_mul_of_nonneg_left u1 v1
    have v3 : a.toInt / m * m ≤ a.toInt := Int.ediv_mul_le _ (by omega)
    omega
  exact Int.le_trans u3 (Int.ediv_le_ediv u2 hp)
theorem z_ushr_eq (a b : Int32) (h0 : 0 ≤ b.toInt) (h1 : b.toInt ≤ 31) : ((a.toUInt32 >>> (b.toUInt32 &&& Int32.toUInt32 31)).toInt32).toBitVec.toNat = a.toBitVec.toNat / 2 ^ b.toInt.toNat := by
  obtain ⟨eb, lb⟩ := z_int_nat b h0
  have e1 : ((a.toUInt32 >>> (b.toUInt32 &&& Int32.toUInt32 31)).toInt32).toBitVec.toNat = (a.toUInt32 >>> (b.toUInt32 &&& Int32.toUInt32 31)).toNat := rfl
  have e2 : a.toUInt32.toNat = a.toBitVec.toNat := rfl
  have e3 : (b.toUInt32 &&& Int32.toUInt32 31).toNat = b.toBitVec.toNat &&& 31 := by rw [UInt32.toNat_and]; rfl
  have e4 : b.toBitVec.toNat &&& 31 = b.toBitVec.toNat % 32 := Nat.and_two_pow_sub_one_eq_mod b.toBitVec.toNat 5
  rw [e1, UInt32.toNat_shiftRight, e2, e3, e4, Nat.shiftRight_eq_div_pow]
  congr 2
  omega
theorem z_ushr_in (a b : Int32) {c : Int} (hc : 1 ≤ c) (h1 : c ≤ b.toInt) (h2 : b.toInt ≤ 31) : 0 ≤ ((a.toUInt32 >>> (b.toUInt32 &&& Int32.toUInt32 31)).toInt32).toInt ∧ ((a.toUInt32 >>> (b.toUInt32 &&& Int32.toUInt32 31)).toInt32).toInt ≤ 4294967295 / 2 ^ c.toNat := by
  have e := z_ushr_eq a b (by omega) h2
  have hl := a.toBitVec.isLt
  have u1 : 2 ^ c.toNat ≤ 2 ^ b.toInt.toNat := Nat.pow_le_pow_right (by omega) (by omega)
  have u2 : 2 ^ 1 ≤ 2 ^ c.toNat := Nat.pow_le_pow_right (by omega) (by omega)
  have u3 : a.toBitVec.toNat / 2 ^ b.toInt.toNat ≤ a.toBitVec.toNat / 2 ^ c.toNat := Nat.div_le_div_left u1 (by omega)
  have u4 : a.toBitVec.toNat / 2 ^ c.toNat ≤ 4294967295 / 2 ^ c.toNat := Nat.div_le_div_right (by omega)
  have u5 : 4294967295 / 2 ^ c.toNat ≤ 4294967295 / 2 ^ 1 := Nat.div_le_div_left u2 (by omega)
  have e2 := z_nat_int _ (by rw [e]; omega)
  rw [e2, e]
  have e3 : ((4294967295 / 2 ^ c.toNat : Nat) : Int) = 4294967295 / 2 ^ c.toNat := by rw [Int.natCast_ediv, Int.natCast_pow]; rfl
  omega
theorem z_ushr_in2 (a b : Int32) {c : Int} (h0 : 0 ≤ a.toInt) (hc : 0 ≤ c) (h1 : c ≤ b.toInt) (h2 : b.toInt ≤ 31) {p : Int} (hp : a.toInt ≤ p) : 0 ≤ ((a.toUInt32 >>> (b.toUInt32 &&& Int32.toUInt32 31)).toInt32).toInt ∧ ((a.toUInt32 >>> (b.toUInt32 &&& Int32.toUInt32 31)).toInt32).toInt ≤ p / 2 ^ c.toNat := by
  have e := z_ushr_eq a b (by omega) h2
  obtain ⟨ea, la⟩ := z_int_nat a h0
  have u1 : 2 ^ c.toNat ≤ 2 ^ b.toInt.toNat := Nat.pow_le_pow_right (by omega) (by omega)
  have u2 := Nat.two_pow_pos c.toNat
  have u3 : a.toBitVec.toNat / 2 ^ b.toInt.toNat ≤ a.toBitVec.toNat / 2 ^ c.toNat := Nat.div_le_div_left u1 u2
  have u4 : a.toBitVec.toNat / 2 ^ c.toNat ≤ a.toBitVec.toNat := Nat.div_le_self _ _
  have e2 := z_nat_int _ (by rw [e]; omega)
  rw [e2, e]
  have e3 : ((a.toBitVec.toNat / 2 ^ c.toNat : Nat) : Int) = a.toInt / 2 ^ c.toNat := by rw [Int.natCast_ediv, Int.natCast_pow, ea]; rfl
  have u5 : a.toInt / 2 ^ c.toNat ≤ p / 2 ^ c.toNat := Int.ediv_le_ediv (z_pow_pos _) hp
  omega
theorem z_mul_in {a b l1 h1 l2 h2 : Int} (a1 : l1 ≤ a) (a2 : a ≤ h1) (b1 : l2 ≤ b) (b2 : b ≤ h2) : min (min (l1 * l2) (l1 * h2)) (min (h1 * l2) (h1 * h2)) ≤ a * b ∧ a * b ≤ max (max (l1 * l2) (l1 * h2)) (max (h1 * l2) (h1 * h2)) := by
  have lin : ∀ {x y c z : Int}, x ≤ z → z ≤ y → min (x * c) (y * c) ≤ z * c ∧ z * c ≤ max (x * c) (y * c) := by
    intro x y c z hx hy
    rcases Int.le_total 0 c with hc | hc
    · have u1 := Int.mul_le_mul_of_nonneg_right hx hc
      have u2 := Int.mul_le_mul_of_nonneg_right hy hc
      omega
    · have u1 := Int.mul_le_mul_of_nonpos_right hx hc
      have u2 := Int.mul_le_mul_of_nonpos_right hy hc
      omega
  have k1 := lin (c := b) a1 a2
  have k2 := lin (c := l1) b1 b2
  have k3 := lin (c := h1) b1 b2
  rw [Int.mul_comm l1 b, Int.mul_comm h1 b] at k1
  rw [Int.mul_comm l2 l1, Int.mul_comm h2 l1] at k2
  rw [Int.mul_comm l2 h1, Int.mul_comm h2 h1] at k3
  omega
theorem z_tdiv_abs {a b : Int} (hb : 0 < b) : min a 0 ≤ a.tdiv b ∧ a.tdiv b ≤ max a 0 := by
  rcases Int.le_total 0 a with h | h
  · rw [Int.tdiv_eq_ediv_of_nonneg h]
    have u1 : 0 ≤ a / b := Int.ediv_nonneg h (by omega)
    have u2 : a / b ≤ a := Int.ediv_le_self _ h
    omega
  · have e : a.tdiv b = - ((-a) / b) := by
      have := Int.neg_tdiv (a := -a) (b := b)
      rw [Int.neg_neg] at this
      rw [this, Int.tdiv_eq_ediv_of_nonneg (by omega : 0 ≤ -a)]
    have u1 : 0 ≤ -a / b := Int.ediv_nonneg (by omega) (by omega)
    have u2 : -a / b ≤ -a := Int.ediv_le_self _ (by omega)
    omega
theorem z_tdiv_mono {a p b : Int} (hb : 0 < b) (h : a ≤ p) : a.tdiv b ≤ p.tdiv b := by
  have hn : ∀ x : Int, x ≤ 0 → x.tdiv b = - ((-x) / b) := by
    intro x hx
    have := Int.neg_tdiv (a := -x) (b := b)
    rw [Int.neg_neg] at this
    rw [this, Int.tdiv_eq_ediv_of_nonneg (by omega : 0 ≤ -x)]
  rcases Int.le_total 0 a with h0 | h0
  · rw [Int.tdiv_eq_ediv_of_nonneg h0, Int.tdiv_eq_ediv_of_nonneg (by omega)]
    exact Int.ediv_le_ediv hb h
  · rcases Int.le_total 0 p with h1 | h1
    · have u1 := z_tdiv_abs (a := a) hb
      have u2 := z_tdiv_abs (a := p) hb
      omega
    · rw [hn a h0, hn p h1]
      have := Int.ediv_le_ediv (a := -p) (b := -a) hb (by omega)
      omega
end
section
/-! PART 08: what an instruction does to what is known. -/
def zt_st (t : zA_T) (st : List zA_V) : zA_T := (t.1, t.2.1, t.2.2.1, st, t.2.2.2.2)
def zt_S (t : zA_T) (S : zA_S) : zA_T := (S, t.2)
def zt_Sst (t : zA_T) (S : zA_S) (st : List zA_V) : zA_T := (S, t.2.1, t.2.2.1, st, t.2.2.2.2)
def zt_L (t : zA_T) (L : zA_L) (st : List zA_V) : zA_T := (t.1, t.2.1, L, st, t.2.2.2.2)
def zt_H (t : zA_T) (H : zA_H) (st : List zA_V) : zA_T := (t.1, H, t.2.2.1, st, t.2.2.2.2)
def zcl (q : zI2) : zI2 := if -2147483648 ≤ q.1 ∧ q.2 ≤ 2147483647 then q else zfull
theorem zfull_in (x : Int32) : zfull.1 ≤ x.toInt ∧ x.toInt ≤ zfull.2 := by
  have h1 := Int32.le_toInt x
  have h2 := Int32.toInt_lt x
  exact ⟨by show -2147483648 ≤ _; omega, by show _ ≤ 2147483647; omega⟩
theorem zcl_in {q : zI2} {z : Int} {x : Int32} (hx : x.toInt = z.bmod 4294967296) (h1 : q.1 ≤ z) (h2 : z ≤ q.2) : (zcl q).1 ≤ x.toInt ∧ x.toInt ≤ (zcl q).2 := by
  unfold zcl
  split
  · next h =>
    rw [hx, Int.bmod_eq_of_le (by omega) (by omega)]
    exact ⟨h1, h2⟩
  · exact zfull_in x
def zp2 (n : Int) : Int := ((2 ^ n.toNat : Nat) : Int)
theorem zp2_eq (n : Int) : zp2 n = 2 ^ n.toNat := Int.natCast_pow 2 n.toNat
/-- bounds of a sum, a difference, .. -/
def zr_mul (p q : zI2) : zI2 := zcl (min (min (p.1 * q.1) (p.1 * q.2)) (min (p.2 * q.1) (p.2 * q.2)), max (max (p.1 * q.1) (p.1 * q.2)) (max (p.2 * q.1) (p.2 * q.2)))
def zr_and (p q : zI2) : zI2 := if 0 ≤ q.1 then (0, if 0 ≤ p.1 then min p.2 q.2 else q.2) else if 0 ≤ p.1 then (0, p.2) else zfull
def zr_or (p q : zI2) : zI2 := if 0 ≤ p.1 ∧ 0 ≤ q.1 ∧ p.2 < 2147483648 ∧ q.2 < 2147483648 then (0, zpw (max p.2 q.2)) else zfull
def zr_shl (p q : zI2) : zI2 := if 0 ≤ p.1 ∧ 0 ≤ q.1 ∧ q.2 ≤ 31 ∧ p.2 * zp2 q.2 < 2147483648 then (p.1 * zp2 q.1, p.2 * zp2 q.2) else zfull
def zr_shr (p q : zI2) : zI2 := (min p.1 0, if 0 ≤ p.1 ∧ 0 ≤ q.1 ∧ q.2 ≤ 31 then p.2 / zp2 q.1 else max p.2 0)
def zr_ush (p q : zI2) : zI2 := if 0 ≤ p.1 ∧ 0 ≤ q.1 ∧ q.2 ≤ 31 then (0, p.2 / zp2 q.1) else if 1 ≤ q.1 ∧ q.2 ≤ 31 then (0, 4294967295 / zp2 q.1) else zfull
def zr_div (p q : zI2) : zI2 := if 0 < q.1 then (if q.1 = q.2 then (p.1.tdiv q.1, p.2.tdiv q.1) else (min p.1 0, max p.2 0)) else zfull
def zr_rem (p q : zI2) : zI2 := if 0 < q.1 then (if 0 ≤ p.1 then (0, min p.2 (q.2 - 1)) else (1 - q.2, q.2 - 1)) else zfull
def zb_r (k : Nat) (p q : zI2) : zI2 :=
  if k = 10 then zcl (p.1 + q.1, p.2 + q.2) else if k = 11 then zcl (p.1 - q.2, p.2 - q.1) else if k = 12 then zr_mul p q else if k = 13 then zr_and p q
  else if k = 14 ∨ k = 15 then zr_or p q else if k = 16 then zr_shl p q else if k = 17 then zr_shr p q else if k = 18 then zr_ush p q else if k = 19 then zr_div p q else zr_rem p q
theorem z_and_in (a b : Int32) (h : 0 ≤ b.toInt) : 0 ≤ (a &&& b).toInt ∧ (a &&& b).toInt ≤ b.toInt := by
  have e1 : ∀ c : Int32, c.toInt = c.toBitVec.toInt := fun c => rfl
  have hb : b.toBitVec.toInt = (b.toBitVec.toNat : Int) := by
    rw [e1] at h
    rw [BitVec.toInt_eq_toNat_cond] at h ⊢
    have := b.toBitVec.isLt
    split
    · rfl
    · next q => rw [if_neg q] at h; omega
  have hab : (a &&& b).toBitVec = a.toBitVec &&& b.toBitVec := Int32.toBitVec_and a b
  have hle : (a.toBitVec &&& b.toBitVec).toNat ≤ b.toBitVec.toNat := by
    rw [BitVec.toNat_and]
    exact Nat.and_le_right
  have hb2 : 2 * b.toBitVec.toNat < 2 ^ 32 := by
    rw [e1, BitVec.toInt_eq_toNat_cond] at h
    have := b.toBitVec.isLt
    split at h
    · assumption
    · omega
  have hr : (a &&& b).toInt = ((a.toBitVec &&& b.toBitVec).toNat : Int) := by
    rw [e1, hab, BitVec.toInt_eq_toNat_cond, if_pos (by omega)]
  rw [hr, e1 b, hb]
  omega
theorem z_mod_eq (a b : Int32) : (a - a / b * b).toInt = a.toInt.tmod b.toInt := by
  rw [irem_eq_mod]
  exact Int32.toInt_mod a b
theorem z_and_comm (a b : Int32) : a &&& b = b &&& a := by
  apply Int32.toBitVec_inj.mp
  rw [Int32.toBitVec_and, Int32.toBitVec_and, BitVec.and_comm]
theorem zr_mul_in {p q : zI2} {a b : Int32} (h1 : p.1 ≤ a.toInt) (h2 : a.toInt ≤ p.2) (h3 : q.1 ≤ b.toInt) (h4 : b.toInt ≤ q.2) : (zr_mul p q).1 ≤ (zb 12 a b).toInt ∧ (zb 12 a b).toInt ≤ (zr_mul p q).2 := by
  have u := z_mul_in h1 h2 h3 h4
  exact zcl_in (Int32.toInt_mul a b) u.1 u.2
theorem zr_and_in {p q : zI2} {a b : Int32} (h1 : p.1 ≤ a.toInt) (h2 : a.toInt ≤ p.2) (h3 : q.1 ≤ b.toInt) (h4 : b.toInt ≤ q.2) : (zr_and p q).1 ≤ (zb 13 a b).toInt ∧ (zb 13 a b).toInt ≤ (zr_and p q).2 := by
  have h5 : (zb 13 a b).toInt = (a &&& b).toInt := rfl
  rw [h5]
  unfold zr_and
  split
  · next g =>
    have u := z_and_in a b (by omega)
    refine ⟨u.1, ?_⟩
    dsimp only
    split
    · next g2 =>
      have u2 := z_and_in b a (by omega)
      rw [← z_and_comm a b] at u2
      omega
    · omega
  · split
    · next g =>
      have u := z_and_in b a (by omega)
      rw [← z_and_comm a b] at u
      exact ⟨u.1, by show _ ≤ p.2; omega⟩
    · exact zfull_in _
theorem zr_or_in {p q : zI2} {a b : Int32} (h1 : p.1 ≤ a.toInt) (h2 : a.toInt ≤ p.2) (h3 : q.1 ≤ b.toInt) (h4 : b.toInt ≤ q.2) : ((zr_or p q).1 ≤ (zb 14 a b).toInt ∧ (zb 14 a b).toInt ≤ (zr_or p q).2) ∧ ((zr_or p q).1 ≤ (zb 15 a b).toInt ∧ (zb 15 a b).toInt ≤ (zr_or p q).2) := by
  unfold zr_or
  split
  · next g => exact ⟨z_or_in a b (by omega) (by omega) (by omega) (by omega) (by omega), z_xor_in a b (by omega) (by omega) (by omega) (by omega) (by omega)⟩
  · exact ⟨zfull_in _, zfull_in _⟩
theorem zr_shl_in {p q : zI2} {a b : Int32} (h1 : p.1 ≤ a.toInt) (h2 : a.toInt ≤ p.2) (h3 : q.1 ≤ b.toInt) (h4 : b.toInt ≤ q.2) : (zr_shl p q).1 ≤ (zb 16 a b).toInt ∧ (zb 16 a b).toInt ≤ (zr_shl p q).2 := by
  unfold zr_shl
  split
  · next g =>
    obtain ⟨g1, g2, g3, g4⟩ := g
    rw [zp2_eq] at g4
    have u1 := z_pow_le (m := b.toInt.toNat) (n := q.2.toNat) (by omega)
    have u2 := z_pow_le (m := q.1.toNat) (n := b.toInt.toNat) (by omega)
    have u3 : a.toInt * 2 ^ b.toInt.toNat ≤ p.2 * 2 ^ q.2.toNat := by
      have v1 := Int.mul_le_mul_of_nonneg_left u1 (by omega : 0 ≤ a.toInt)
      have v2 := Int.mul_le_mul_of_nonneg_right h2 (Int.le_of_lt (z_pow_pos q.2.toNat))
      exact Int.le_trans v1 v2
    have u4 : p.1 * 2 ^ q.1.toNat ≤ a.toInt * 2 ^ b.toInt.toNat := by
      have v1 := Int.mul_le_mul_of_nonneg_right h1 (Int.le_of_lt (z_pow_pos q.1.toNat))
      have v2 := Int.mul_le_mul_of_nonneg_left u2 (by omega : 0 ≤ a.toInt)
      exact Int.le_trans v1 v2
    have e : (zb 16 a b).toInt = a.toInt * 2 ^ b.toInt.toNat := z_shl_eq a b (by omega) (by omega) (by omega) (Int.lt_of_le_of_lt u3 g4)
    rw [e, zp2_eq, zp2_eq]
    exact ⟨u4, u3⟩
  · exact zfull_in _
theorem zr_shr_in {p q : zI2} {a b : Int32} (h1 : p.1 ≤ a.toInt) (h2 : a.toInt ≤ p.2) (h3 : q.1 ≤ b.toInt) (h4 : b.toInt ≤ q.2) : (zr_shr p q).1 ≤ (zb 17 a b).toInt ∧ (zb 17 a b).toInt ≤ (zr_shr p q).2 := by
  have u := z_shr_in a b
  have e : (zb 17 a b).toInt = (a >>> (b &&& 31)).toInt := rfl
  rw [e]
  unfold zr_shr
  refine ⟨by show min p.1 0 ≤ _; omega, ?_⟩
  dsimp only
  split
  · next g =>
    rw [zp2_eq]
    exact z_shr_in2 a b (by omega) g.2.1 h3 (by omega) h2
  · omega
theorem zr_ush_in {p q : zI2} {a b : Int32} (h1 : p.1 ≤ a.toInt) (h2 : a.toInt ≤ p.2) (h3 : q.1 ≤ b.toInt) (h4 : b.toInt ≤ q.2) : (zr_ush p q).1 ≤ (zb 18 a b).toInt ∧ (zb 18 a b).toInt ≤ (zr_ush p q).2 := by
  have e : (zb 18 a b).toInt = ((a.toUInt32 >>> (b.toUInt32 &&& Int32.toUInt32 31)).toInt32).toInt := rfl
  rw [e]
  unfold zr_ush
  split
  · next g =>
    rw [zp2_eq]
    exact z_ushr_in2 a b (by omega) g.2.1 h3 (by omega) h2
  · split
    · next g =>
      rw [zp2_eq]
      exact z_ushr_in a b g.1 h3 (by omega)
    · exact zfull_in _
theorem zr_div_in {p q : zI2} {a b : Int32} (h1 : p.1 ≤ a.toInt) (h2 : a.toInt ≤ p.2) (h3 : q.1 ≤ b.toInt) (h4 : b.toInt ≤ q.2) : (zr_div p q).1 ≤ (zb 19 a b).toInt ∧ (zb 19 a b).toInt ≤ (zr_div p q).2 := by
  unfold zr_div
  split
  · next g =>
    have hdv : (zb 19 a b).toInt = a.toInt.tdiv b.toInt := by
      show (a / b).toInt = _
      rw [Int32.toInt_div]
      have u := z_tdiv_abs (a := a.toInt) (b := b.toInt) (by omega)
      have v1 := Int32.toInt_lt a
      have v2 := Int32.le_toInt a
      exact Int.bmod_eq_of_le (by omega) (by omega)
    rw [hdv]
    split
    · next g2 =>
      have e : b.toInt = q.1 := by omega
      rw [e]
      exact ⟨z_tdiv_mono g h1, z_tdiv_mono g h2⟩
    · have u := z_tdiv_abs (a := a.toInt) (b := b.toInt) (by omega)
      exact ⟨by show min p.1 0 ≤ _; omega, by show _ ≤ max p.2 0; omega⟩
  · exact zfull_in _
theorem zr_rem_in {p q : zI2} {a b : Int32} (h1 : p.1 ≤ a.toInt) (h2 : a.toInt ≤ p.2) (h3 : q.1 ≤ b.toInt) (h4 : b.toInt ≤ q.2) : (zr_rem p q).1 ≤ (zb 20 a b).toInt ∧ (zb 20 a b).toInt ≤ (zr_rem p q).2 := by
  have hm : (zb 20 a b).toInt = a.toInt.tmod b.toInt := z_mod_eq a b
  unfold zr_rem
  split
  · next g =>
    have hbd := tmod_bounds (a := a.toInt) (M := b.toInt) (by omega)
    rw [hm]
    split
    · next g0 =>
      have e1 : a.toInt.tmod b.toInt = a.toInt % b.toInt := Int.tmod_eq_emod_of_nonneg (by omega)
      rw [e1] at hbd ⊢
      have u1 := Int.emod_nonneg a.toInt (by omega : b.toInt ≠ 0)
      have u2 : a.toInt % b.toInt ≤ a.toInt := by
        by_cases hlt : a.toInt < b.toInt
        · rw [Int.emod_eq_of_lt (by omega) hlt]
          exact Int.le_refl _
        · have := Int.emod_lt_of_pos a.toInt (by omega : 0 < b.toInt)
          omega
      exact ⟨u1, by show _ ≤ min p.2 (q.2 - 1); omega⟩
    · exact ⟨by show 1 - q.2 ≤ _; omega, by show _ ≤ q.2 - 1; omega⟩
  · exact zfull_in _
theorem zb_r_in {k : Nat} {p q : zI2} {a b : Int32} (hk : k ≤ 20) (h1 : p.1 ≤ a.toInt) (h2 : a.toInt ≤ p.2) (h3 : q.1 ≤ b.toInt) (h4 : b.toInt ≤ q.2) : (zb_r k p q).1 ≤ (zb k a b).toInt ∧ (zb k a b).toInt ≤ (zb_r k p q).2 := by
  by_cases e10 : k = 10
  · subst e10; exact zcl_in (Int32.toInt_add a b) (by show p.1 + q.1 ≤ _; omega) (by show _ ≤ p.2 + q.2; omega)
  by_cases e11 : k = 11
  · subst e11; exact zcl_in (Int32.toInt_sub a b) (by show p.1 - q.2 ≤ _; omega) (by show _ ≤ p.2 - q.1; omega)
  by_cases e12 : k = 12
  · subst e12; exact zr_mul_in h1 h2 h3 h4
  by_cases e13 : k = 13
  · subst e13; exact zr_and_in h1 h2 h3 h4
  by_cases e14 : k = 14
  · subst e14; exact (zr_or_in h1 h2 h3 h4).1
  by_cases e15 : k = 15
  · subst e15; exact (zr_or_in h1 h2 h3 h4).2
  by_cases e16 : k = 16
  · subst e16; exact zr_shl_in h1 h2 h3 h4
  by_cases e17 : k = 17
  · subst e17; exact zr_shr_in h1 h2 h3 h4
  by_cases e18 : k = 18
  · subst e18; exact zr_ush_in h1 h2 h3 h4
  by_cases e19 : k = 19
  · subst e19; exact zr_div_in h1 h2 h3 h4
  by_cases e20 : k = 20
  · subst e20; exact zr_rem_in h1 h2 h3 h4
  have e21 : ¬ k = 21 := by omega
  have hz : zb k a b = zb 20 a b := by simp [zb, e21, e10, e11, e12, e13, e14, e15, e16, e17, e18, e19]
  have hr : zb_r k p q = zr_rem p q := by simp [zb_r, e10, e11, e12, e13, e14, e15, e16, e17, e18, e19]
  rw [hz, hr]
  exact zr_rem_in h1 h2 h3 h4
abbrev zA_R : Type := Option (List (Nat × zA_T))
section ZO
variable {l : Launch} {d : Nat} {y : zx_Y} {X : zx_X} {mc ms XL : Nat} {φ : List z_C} {Q : Option Value → List z_C → Prop}
/-- what an instruction owes: if what it makes of t is good at all its ends, t is good -/
def zSd (l : Launch) (d : Nat) (y : zx_Y) (X : zx_X) (mc ms XL : Nat) (φ : List z_C) (Q : Option Value → List z_C → Prop) (pc : Nat) (t : zA_T) (r : zA_R) : Prop :=
  ∀ (ts : List (Nat × zA_T)), r = some ts → ∀ (ρ : List Int) (ph : List z_C) (lv : List (Nat × Value)) (st : List Value), zg_T XL X φ ρ t ph lv st →
    (∀ q ∈ ts, ∀ (ρ' : List Int) (ph' : List z_C) (lv' : List (Nat × Value)) (st' : List Value), zLE ρ ρ' → zg_T XL X φ ρ' q.2 ph' lv' st' → ZW l d y X mc ms Q q.1 lv' st' ph' q.2.2.2.2.2.1 q.2.2.2.2.2.2) →
    ZW l d y X mc ms Q pc lv st ph t.2.2.2.2.1 t.2.2.2.2.2
def zx_push (v : zA_V) (nx : Nat) (t : zA_T) : zA_R := some [(nx, zt_st t (v :: t.2.2.2.1))]
theorem zL2.cons1 {α β : Type} {R : α → β → Prop} {a : α} {as : List α} {bs : List β} (h : zL2 R (a :: as) bs) : ∃ b bs', bs = b :: bs' ∧ R a b ∧ zL2 R as bs' := by
  cases bs with
  | nil => exact h.elim
  | cons b bs' => exact ⟨b, bs', rfl, h.1, h.2⟩
theorem zo_pushI {pc nx : Nat} {c : Int} {x : Int32} (hx : x.toInt = c) {t : zA_T} (hs : ∀ {lv st ph cc ns}, ZW l d y X mc ms Q nx lv (.int x :: st) ph cc ns → ZW l d y X mc ms Q pc lv st ph cc ns) : zSd l d y X mc ms XL φ Q pc t (zx_push (0, c) nx t) := by
  intro ts hts ρ ph lv st g k
  cases hts
  exact hs (k _ (List.mem_singleton.mpr rfl) ρ ph lv _ (zLE.refl ρ) ⟨g.1, g.2.1, g.2.2.1, ⟨zg_ofI hx, g.2.2.2.1⟩, g.2.2.2.2⟩)
theorem zo_pushJ {pc nx : Nat} {c : Int} {x : Int64} (hx : x.toInt = c) {t : zA_T} (hs : ∀ {lv st ph cc ns}, ZW l d y X mc ms Q nx lv (.long x :: st) ph cc ns → ZW l d y X mc ms Q pc lv st ph cc ns) : zSd l d y X mc ms XL φ Q pc t (zx_push (4, c) nx t) := by
  intro ts hts ρ ph lv st g k
  cases hts
  exact hs (k _ (List.mem_singleton.mpr rfl) ρ ph lv _ (zLE.refl ρ) ⟨g.1, g.2.1, g.2.2.1, ⟨zg_ofJ hx, g.2.2.2.1⟩, g.2.2.2.2⟩)
theorem zo_pushR {pc nx i : Nat} {t : zA_T} (hs : ∀ {lv st ph cc ns}, ZW l d y X mc ms Q nx lv (.ref i :: st) ph cc ns → ZW l d y X mc ms Q pc lv st ph cc ns) : zSd l d y X mc ms XL φ Q pc t (zx_push (2, (i : Int)) nx t) := by
  intro ts hts ρ ph lv st g k
  cases hts
  exact hs (k _ (List.mem_singleton.mpr rfl) ρ ph lv _ (zLE.refl ρ) ⟨g.1, g.2.1, g.2.2.1, ⟨zg_ofR, g.2.2.2.1⟩, g.2.2.2.2⟩)
/-- loads: of an int (0), a long (1), a reference (2) -/
def zx_ty (ty : Nat) (a : zA_V) : Bool := if ty = 0 then zIs a else if ty = 1 then zIsJ a else a.1 == 2
def zx_load (ty i nx : Nat) (t : zA_T) : zA_R := match t.2.2.1.lookup i with
  | some a => if zx_ty ty a = true then some [(nx, zt_st t (a :: t.2.2.2.1))] else none
  | none => none
theorem zo_load {pc nx ty i : Nat} {t : zA_T} (hs : ∀ {lv st ph cc ns v}, lv.lookup i = some v → (ty = 0 → ∃ x, v = .int x) → (ty = 1 → ∃ x, v = .long x) → (ty ≠ 0 → ty ≠ 1 → ∃ x, v = .ref x) → ZW l d y X mc ms Q nx lv (v :: st) ph cc ns → ZW l d y X mc ms Q pc lv st ph cc ns) : zSd l d y X mc ms XL φ Q pc t (zx_load ty i nx t) := by
  intro ts hts ρ ph lv st g k
  unfold zx_load at hts
  split at hts
  · next a ha =>
    split at hts
    · next hty =>
      cases hts
      obtain ⟨v, hv, gv⟩ := zg_L.look g.2.2.1 ha
      refine hs hv (fun e => ?_) (fun e => ?_) (fun e1 e2 => ?_) (k _ (List.mem_singleton.mpr rfl) ρ ph lv _ (zLE.refl ρ) ⟨g.1, g.2.1, g.2.2.1, ⟨gv, g.2.2.2.1⟩, g.2.2.2.2⟩)
      · subst e
        obtain ⟨x, hx, -⟩ := zg_int (by simpa [zx_ty] using hty) gv
        exact ⟨x, hx⟩
      · subst e
        obtain ⟨x, hx, -⟩ := zg_long (by simpa [zx_ty] using hty) gv
        exact ⟨x, hx⟩
      · exact ⟨_, zg_ref (by simpa [zx_ty, e1, e2] using hty) gv⟩
    · cases hts
  · cases hts
/-- stores -/
def zx_store (ty i nx : Nat) (t : zA_T) : zA_R := match t.2.2.2.1 with
  | a :: r => if zx_ty ty a = true then some [(nx, zt_L t (if ty = 1 then zS2 t.2.2.1 i a else zS1 t.2.2.1 i a) r)] else none
  | [] => none
theorem zo_store {pc nx ty i : Nat} {t : zA_T} (hs : ∀ {lv st ph cc ns v}, (ty = 0 → ∃ x, v = .int x) → (ty = 1 → ∃ x, v = .long x) → (ty ≠ 0 → ty ≠ 1 → ∃ x, v = .ref x) → ZW l d y X mc ms Q nx (if ty = 1 then z_st2 lv i v else z_st1 lv i v) st ph cc ns → ZW l d y X mc ms Q pc lv (v :: st) ph cc ns) : zSd l d y X mc ms XL φ Q pc t (zx_store ty i nx t) := by
  obtain ⟨S, H, L, s0, cc, ns⟩ := t
  intro ts hts ρ ph lv st g k
  obtain ⟨g1, g2, g3, g4, g5⟩ := g
  unfold zx_store at hts
  split at hts
  · next a r ha =>
    have ha : s0 = a :: r := ha
    subst ha
    obtain ⟨v, st', rfl, gv, gr⟩ := zL2.cons1 g4
    split at hts
    · next hty =>
      cases hts
      refine hs (fun e => ?_) (fun e => ?_) (fun e1 e2 => ?_) (k _ (List.mem_singleton.mpr rfl) ρ ph _ _ (zLE.refl ρ) ⟨g1, g2, ?_, gr, g5⟩)
      · subst e
        obtain ⟨x, hx, -⟩ := zg_int (by simpa [zx_ty] using hty) gv
        exact ⟨x, hx⟩
      · subst e
        obtain ⟨x, hx, -⟩ := zg_long (by simpa [zx_ty] using hty) gv
        exact ⟨x, hx⟩
      · exact ⟨_, zg_ref (by simpa [zx_ty, e1, e2] using hty) gv⟩
      · show zg_L ρ (if ty = 1 then zS2 L i a else zS1 L i a) _
        split
        · exact zS2_g g3 gv
        · exact zS1_g g3 gv
    · cases hts
  · cases hts
/-- a result that is known within bounds, and how it was made -/
def zx_new (q : zI2) (D : zA_D) (nx : Nat) (t : zA_T) (r : List zA_V) : zA_R := if q.1 = q.2 then some [(nx, zt_st t ((0, q.1) :: r))] else
  match (if D.1 = 0 then none else zfd D t.1 0) with
  | some j => some [(nx, zt_st t ((1, (j : Int)) :: r))]
  | none => some [(nx, zt_Sst t (t.1 ++ [(q.1, q.2, D)]) ((1, (t.1.length : Int)) :: r))]
theorem zx_new_g {q : zI2} {D : zA_D} {nx : Nat} {t : zA_T} {r : List zA_V} {ρ : List Int} {ph : List z_C} {lv : List (Nat × Value)} {st : List Value} {x : Int32} {ts : List (Nat × zA_T)} (h : zx_new q D nx t r = some ts) (g1 : zg_S ρ t.1) (g2 : zL2 (zg_C φ ρ) t.2.1 ph) (g3 : zg_L ρ t.2.2.1 lv) (gr : zL2 (zg_V ρ) r st) (g5 : zg_X ρ XL X) (h1 : q.1 ≤ x.toInt) (h2 : x.toInt ≤ q.2) (h3 : zg_D ρ x.toInt D) :
    ∃ t' ρ', (nx, t') ∈ ts ∧ zLE ρ ρ' ∧ zg_T XL X φ ρ' t' ph lv (.int x :: st) ∧ t'.2.2.2.2 = t.2.2.2.2 := by
  unfold zx_new at h
  split at h
  · next e =>
    cases h
    exact ⟨_, ρ, List.mem_singleton.mpr rfl, zLE.refl ρ, ⟨g1, g2, g3, ⟨zg_ofI (by omega), gr⟩, g5⟩, rfl⟩
  · split at h
    · next j hj =>
      cases h
      split at hj
      · cases hj
      · next hD =>
        have e : ρ[j]? = some x.toInt := by
          refine zfd_g g1 hj hD (fun u v hu hv => ?_)
          rcases h3 with h0 | ⟨u', v', hu', hv', e⟩
          · exact absurd h0 hD
          · rw [zE_fun hu hu', zE_fun hv hv']
            exact e
        exact ⟨_, ρ, List.mem_singleton.mpr rfl, zLE.refl ρ, ⟨g1, g2, g3, ⟨zg_ofK e, gr⟩, g5⟩, rfl⟩
    · cases h
      have hle := zLE.app ρ x.toInt
      exact ⟨_, ρ ++ [x.toInt], List.mem_singleton.mpr rfl, hle, ⟨g1.pushD h1 h2 h3, zL2.mono (fun _ _ => zg_C.mono hle) g2, zL2.mono (fun _ _ q => ⟨q.1, q.2.mono hle⟩) g3, ⟨zg_ofK (g1.at _), zL2.mono (fun _ _ => zg_V.mono hle) gr⟩, g5.mono hle⟩, rfl⟩
/-- the same instruction once more, with other bounds -/
def zx_again (pc : Nat) (t : zA_T) (l : Option (List zA_S)) : zA_R := match l with
  | some l => some (l.map (fun S => (pc, zt_S t S)))
  | none => none
/-- arithmetic of two ints -/
def zx_bin (XL k nx pc : Nat) (t : zA_T) : zA_R := match t.2.2.2.1 with
  | b0 :: a0 :: r =>
    let a := zn t.1 a0
    let b := zn t.1 b0
    if zIs a = true ∧ zIs b = true then
      if a.1 = 0 ∧ b.1 = 0 then
        if 19 ≤ k ∧ b.2 = 0 then none else some [(nx, zt_st t ((0, zb_c k a.2 b.2) :: r))]
      else if XL < 2000000 ∧ (k = 16 ∨ k = 18 ∨ k = 17 ∧ ¬ (a.1 = 0 ∧ a.2 = 0)) ∧ b.1 = 1 then zx_again pc t (zSp t.1 b)
      else if XL < 2000000 ∧ k = 12 ∧ a.1 = 1 then zx_again pc t (zSp t.1 a)
      else if XL < 2000000 ∧ k = 12 ∧ b.1 = 1 then zx_again pc t (zSp t.1 b)
      else match zr t.1 a, zr t.1 b with
        | some p, some q => if 19 ≤ k ∧ ¬ (0 < q.1 ∨ q.2 < 0) then none else zx_new (zb_r k p q) (k, a, b) nx t r
        | _, _ => none
    else none
  | _ => none
theorem zx_again_g {pc : Nat} {t : zA_T} {o : Option (List zA_S)} {ts : List (Nat × zA_T)} {a : zA_V} {n : Int} {ρ : List Int} {ph : List z_C} {lv : List (Nat × Value)} {st : List Value} (h : zx_again pc t o = some ts) (ho : o = zSp t.1 a) (g : zg_T XL X φ ρ t ph lv st) (he : zE ρ a n) : ∃ t', (pc, t') ∈ ts ∧ zg_T XL X φ ρ t' ph lv st ∧ t'.2.2.2.2 = t.2.2.2.2 := by
  unfold zx_again at h
  split at h
  · next l2 =>
    cases h
    obtain ⟨S', m, gs⟩ := zSp_g g.1 he ho.symm
    exact ⟨zt_S t S', List.mem_map.mpr ⟨S', m, rfl⟩, ⟨gs, g.2⟩, rfl⟩
  · cases h
theorem zo_bin {k pc nx : Nat} {t : zA_T} (hk20 : k ≤ 20) (hs : ∀ {lv st ph cc ns} {a b : Int32}, (19 ≤ k → ¬ b = 0) → ZW l d y X mc ms Q nx lv (.int (zb k a b) :: st) ph cc ns → ZW l d y X mc ms Q pc lv (.int b :: .int a :: st) ph cc ns) : zSd l d y X mc ms XL φ Q pc t (zx_bin XL k nx pc t) := by
  obtain ⟨S, H, L, s0, cc, ns⟩ := t
  intro ts hts ρ ph lv st g k0
  have gT := g
  obtain ⟨g1, g2, g3, g4, g5⟩ := g
  unfold zx_bin at hts
  split at hts
  · next b0 a0 r hst =>
    have hst : s0 = b0 :: a0 :: r := hst
    subst hst
    obtain ⟨vb, st1, rfl, gb0, gr1⟩ := zL2.cons1 g4
    obtain ⟨va, st2, rfl, ga0, gr⟩ := zL2.cons1 gr1
    have ga := zn_g g1 ga0
    have gb := zn_g g1 gb0
    dsimp only at hts
    generalize hea : zn S a0 = a at *
    generalize heb : zn S b0 = b at *
    split at hts
    · next hI =>
      obtain ⟨x, rfl, ex⟩ := zg_int hI.1 ga
      obtain ⟨z, rfl, ez⟩ := zg_int hI.2 gb
      split at hts
      · next hc =>
        split at hts
        · cases hts
        · next hz =>
          cases hts
          have hx : x.toInt = a.2 := by rcases ex with ⟨-, e⟩ | ⟨e, -⟩ <;> omega
          have hzz : z.toInt = b.2 := by rcases ez with ⟨-, e⟩ | ⟨e, -⟩ <;> omega
          refine hs (fun hk e => hz ⟨hk, by rw [← hzz, e]; rfl⟩) (k0 _ (List.mem_singleton.mpr rfl) ρ ph lv _ (zLE.refl ρ) ⟨g1, g2, g3, ⟨zg_ofI ?_, gr⟩, g5⟩)
          rw [← hx, ← hzz]
          exact zb_cEq k x z
      · split at hts
        · obtain ⟨t', m, gt, e⟩ := zx_again_g hts rfl gT ez
          have := k0 _ m ρ ph lv _ (zLE.refl ρ) gt
          rw [e] at this
          exact this
        · split at hts
          · obtain ⟨t', m, gt, e⟩ := zx_again_g hts rfl gT ex
            have := k0 _ m ρ ph lv _ (zLE.refl ρ) gt
            rw [e] at this
            exact this
          · split at hts
            · obtain ⟨t', m, gt, e⟩ := zx_again_g hts rfl gT ez
              have := k0 _ m ρ ph lv _ (zLE.refl ρ) gt
              rw [e] at this
              exact this
            · split at hts
              · next p q hp hq =>
                split at hts
                · cases hts
                · next hz =>
                  have b1 := zr_in g1 ex hp
                  have b2 := zr_in g1 ez hq
                  have b3 := zb_r_in (k := k) hk20 b1.1 b1.2 b2.1 b2.2
                  obtain ⟨t', ρ', m, hle, gt, e⟩ := zx_new_g (φ := φ) hts g1 g2 g3 gr g5 b3.1 b3.2 (Or.inr ⟨_, _, ex, ez, zb_cEq k x z⟩)
                  have := k0 _ m ρ' ph lv _ hle gt
                  rw [e] at this
                  refine hs (fun hk e0 => ?_) this
                  have hz0 : z.toInt = 0 := by rw [e0]; rfl
                  have u1 := b2.1
                  have u2 := b2.2
                  have hz2 : ¬ (¬ (0 < q.1 ∨ q.2 < 0)) := fun hn => hz ⟨hk, hn⟩
                  omega
              · cases hts
    · cases hts
  · cases hts
end ZO
end
section
/-! PART 09: comparisons, switches, conversions. -/
def zcP (c : Nat) (a b : Int32) : Prop := if c = 0 then a = b else if c = 1 then a ≠ b else if c = 2 then a < b else if c = 3 then b ≤ a else if c = 4 then b < a else a ≤ b
def zcT (c : Nat) (S : zA_S) (a b : zA_V) : List zA_S := if c = 0 then zEQ S a b else if c = 1 then zNE S a b else if c = 2 then zLT S a b else if c = 3 then zGE S a b else if c = 4 then zLT S b a else zGE S b a
def zcF (c : Nat) (S : zA_S) (a b : zA_V) : List zA_S := if c = 0 then zNE S a b else if c = 1 then zEQ S a b else if c = 2 then zGE S a b else if c = 3 then zLT S a b else if c = 4 then zGE S b a else zLT S b a
theorem zcT_g {c : Nat} {ρ : List Int} {S : zA_S} {a b : zA_V} {x z : Int32} (hS : zg_S ρ S) (h1 : zE ρ a x.toInt) (h2 : zE ρ b z.toInt) (h : zcP c x z) : ∃ S', S' ∈ zcT c S a b ∧ zg_S ρ S' := by
  unfold zcT
  unfold zcP at h
  split
  · next e => rw [if_pos e] at h; exact zEQ_g hS h1 h2 (by rw [h])
  · next e =>
    rw [if_neg e] at h
    split
    · next e => rw [if_pos e] at h; exact zNE_g hS h1 h2 (fun q => h (Int32.toInt_inj.mp q))
    · next e =>
      rw [if_neg e] at h
      split
      · next e => rw [if_pos e] at h; exact zLT_g hS h1 h2 (Int32.lt_iff_toInt_lt.mp h)
      · next e =>
        rw [if_neg e] at h
        split
        · next e => rw [if_pos e] at h; exact zGE_g hS h1 h2 (Int32.le_iff_toInt_le.mp h)
        · next e =>
          rw [if_neg e] at h
          split
          · next e => rw [if_pos e] at h; exact zLT_g hS h2 h1 (Int32.lt_iff_toInt_lt.mp h)
          · next e => rw [if_neg e] at h; exact zGE_g hS h2 h1 (Int32.le_iff_toInt_le.mp h)
theorem zcF_g {c : Nat} {ρ : List Int} {S : zA_S} {a b : zA_V} {x z : Int32} (hS : zg_S ρ S) (h1 : zE ρ a x.toInt) (h2 : zE ρ b z.toInt) (h : ¬ zcP c x z) : ∃ S', S' ∈ zcF c S a b ∧ zg_S ρ S' := by
  unfold zcF
  unfold zcP at h
  simp only [Int32.lt_iff_toInt_lt, Int32.le_iff_toInt_le] at h
  split
  · next e => rw [if_pos e] at h; exact zNE_g hS h1 h2 (fun q => h (Int32.toInt_inj.mp q))
  · next e =>
    rw [if_neg e] at h
    split
    · next e => rw [if_pos e] at h; exact zEQ_g hS h1 h2 (by have : x = z := Classical.byContradiction h; rw [this])
    · next e =>
      rw [if_neg e] at h
      split
      · next e => rw [if_pos e] at h; exact zGE_g hS h1 h2 (by omega)
      · next e =>
        rw [if_neg e] at h
        split
        · next e => rw [if_pos e] at h; exact zLT_g hS h1 h2 (by omega)
        · next e =>
          rw [if_neg e] at h
          split
          · next e => rw [if_pos e] at h; exact zGE_g hS h2 h1 (by omega)
          · next e => rw [if_neg e] at h; exact zLT_g hS h2 h1 (by omega)
theorem zE0 (ρ : List Int) (c : Int) : zE ρ (0, c) c := Or.inl ⟨Or.inl rfl, rfl⟩
/-- where a sum or a difference does not wrap -/
def znw (S : zA_S) (x y : zA_V) (sub : Bool) : Option (zI2 × zI2) := match zr S x, zr S y with
  | some p, some q => (match sub with
    | false => if -2147483648 ≤ p.1 + q.1 ∧ p.2 + q.2 ≤ 2147483647 then some (p, q) else none
    | true => if -2147483648 ≤ p.1 - q.2 ∧ p.2 - q.1 ≤ 2147483647 then some (p, q) else none)
  | _, _ => none
theorem zw32_in {z : Int} (h1 : -2147483648 ≤ z) (h2 : z ≤ 2147483647) : zw32 z = z := by
  unfold zw32
  rw [if_pos ⟨h1, h2⟩]
theorem znw_add {ρ : List Int} {S : zA_S} {x y : zA_V} {p q : zI2} {a b : Int} (hS : zg_S ρ S) (h : znw S x y false = some (p, q)) (ha : zE ρ x a) (hb : zE ρ y b) : zb_c 10 a b = a + b ∧ p.1 ≤ a ∧ a ≤ p.2 ∧ q.1 ≤ b ∧ b ≤ q.2 := by
  unfold znw at h
  split at h
  · next u v hu hv =>
    have b1 := zr_in hS ha hu
    have b2 := zr_in hS hb hv
    dsimp only at h
    split at h
    · next hc =>
      cases h
      exact ⟨zw32_in (by omega) (by omega), b1.1, b1.2, b2.1, b2.2⟩
    · cases h
  · cases h
theorem znw_sub {ρ : List Int} {S : zA_S} {x y : zA_V} {p q : zI2} {a b : Int} (hS : zg_S ρ S) (h : znw S x y true = some (p, q)) (ha : zE ρ x a) (hb : zE ρ y b) : zb_c 11 a b = a - b ∧ p.1 ≤ a ∧ a ≤ p.2 ∧ q.1 ≤ b ∧ b ≤ q.2 := by
  unfold znw at h
  split at h
  · next u v hu hv =>
    have b1 := zr_in hS ha hu
    have b2 := zr_in hS hb hv
    dsimp only at h
    split at h
    · next hc =>
      cases h
      exact ⟨zw32_in (by omega) (by omega), b1.1, b1.2, b2.1, b2.2⟩
    · cases h
  · cases h
theorem zldr_c {u v : Int} (h0 : 0 ≤ u) (h1 : u ≤ 2147483647) (h2 : 0 < v) (h3 : v ≤ 2147483647) : zb_c 19 u v = u / v ∧ zb_c 20 u v = u - u / v * v := by
  have eu : (Int32.ofInt u).toInt = u := Int32.toInt_ofInt_of_le (by omega) (by omega)
  have ev : (Int32.ofInt v).toInt = v := Int32.toInt_ofInt_of_le (by omega) (by omega)
  have d1 : 0 ≤ u / v := Int.ediv_nonneg h0 (by omega)
  have d2 : u / v ≤ u := Int.ediv_le_self _ h0
  refine ⟨?_, ?_⟩
  · have e1 : zb_c 19 u v = (Int32.ofInt u / Int32.ofInt v).toInt := rfl
    rw [e1, Int32.toInt_div, eu, ev, Int.tdiv_eq_ediv_of_nonneg h0]
    exact Int.bmod_eq_of_le (by omega) (by omega)
  · have e1 : zb_c 20 u v = (Int32.ofInt u - Int32.ofInt u / Int32.ofInt v * Int32.ofInt v).toInt := rfl
    rw [e1, z_mod_eq, eu, ev, Int.tmod_eq_emod_of_nonneg h0, Int.emod_def, Int.mul_comm]
theorem zg_D.comm12 {ρ : List Int} {n : Int} {x y : zA_V} (h : zg_D ρ n (12, x, y)) : zg_D ρ n (12, y, x) := by
  rcases h with h | ⟨u, v, g1, g2, e⟩
  · exact Or.inl h
  · refine Or.inr ⟨v, u, g2, g1, ?_⟩
    have e : n = zw32 (u * v) := e
    rw [e, Int.mul_comm]
    rfl
/-- what the bounds of a product with a number say -/
def zpgM (S : zA_S) (lo hi : Int) (x y : zA_V) : zA_S := if y.1 = 0 ∧ 0 < y.2 then (match zr S x with
  | some p => if -2147483648 ≤ p.1 * y.2 ∧ p.2 * y.2 ≤ 2147483647 then zrf S x (max p.1 (-((-lo) / y.2)), min p.2 (hi / y.2)) else S
  | none => S) else S
theorem z_mulr {p : zI2} {u v : Int} (hv : 0 < v) (h1 : p.1 ≤ u) (h2 : u ≤ p.2) (h3 : -2147483648 ≤ p.1 * v) (h4 : p.2 * v ≤ 2147483647) : zb_c 12 u v = u * v := by
  have k1 := Int.mul_le_mul_of_nonneg_right h1 (by omega : 0 ≤ v)
  have k2 := Int.mul_le_mul_of_nonneg_right h2 (by omega : 0 ≤ v)
  exact zw32_in (by omega) (by omega)
theorem zpgM_g {ρ : List Int} {S : zA_S} {lo hi n : Int} {x y : zA_V} (hS : zg_S ρ S) (h : zg_D ρ n (12, x, y)) (h1 : lo ≤ n) (h2 : n ≤ hi) : zg_S ρ (zpgM S lo hi x y) := by
  unfold zpgM
  split
  · next hy =>
    split
    · next p hp =>
      split
      · next hc =>
        rcases h with h | ⟨u, v, g1, g2, e⟩
        · cases h
        · have e : n = zb_c 12 u v := e
          have g1 : zE ρ x u := g1
          have g2 : zE ρ y v := g2
          have b := zr_in hS g1 hp
          have ev : v = y.2 := by rcases g2 with ⟨-, g2⟩ | ⟨g2 | g2, -⟩ <;> omega
          subst ev
          rw [z_mulr hy.2 b.1 b.2 hc.1 hc.2] at e
          have r1 : u ≤ hi / y.2 := (Int.le_ediv_iff_mul_le hy.2).mpr (by omega)
          have r2 : -u ≤ (-lo) / y.2 := (Int.le_ediv_iff_mul_le hy.2).mpr (by rw [Int.neg_mul]; omega)
          exact zrf_g hS g1 (by show max p.1 (-((-lo) / y.2)) ≤ u; omega) (by show u ≤ min p.2 (hi / y.2); omega)
      · exact hS
    · exact hS
  · exact hS
/-- what the bounds of a quotient by a number say -/
def zpgQ (S : zA_S) (lo hi : Int) (x y : zA_V) : zA_S := if y.1 = 0 ∧ 0 < y.2 ∧ y.2 ≤ 2147483647 then (match zr S x with
  | some p => if 0 ≤ p.1 ∧ p.2 ≤ 2147483647 then zrf S x (max p.1 (lo * y.2), min p.2 (hi * y.2 + (y.2 - 1))) else S
  | none => S) else S
theorem zpgQ_g {ρ : List Int} {S : zA_S} {lo hi n : Int} {x y : zA_V} (hS : zg_S ρ S) (h : zg_D ρ n (19, x, y)) (h1 : lo ≤ n) (h2 : n ≤ hi) : zg_S ρ (zpgQ S lo hi x y) := by
  unfold zpgQ
  split
  · next hy =>
    split
    · next p hp =>
      split
      · next hc =>
        rcases h with h | ⟨u, v, g1, g2, e⟩
        · cases h
        · have e : n = zb_c 19 u v := e
          have g1 : zE ρ x u := g1
          have g2 : zE ρ y v := g2
          have b := zr_in hS g1 hp
          have ev : v = y.2 := by rcases g2 with ⟨-, g2⟩ | ⟨g2 | g2, -⟩ <;> omega
          subst ev
          rw [(zldr_c (by omega) (by omega) hy.2.1 hy.2.2).1] at e
          have r1 : lo * y.2 ≤ u := (Int.le_ediv_iff_mul_le hy.2.1).mp (by omega)
          have r2 : u < (hi + 1) * y.2 := (Int.ediv_lt_iff_lt_mul hy.2.1).mp (by omega)
          rw [Int.add_mul] at r2
          exact zrf_g hS g1 (by show max p.1 (lo * y.2) ≤ u; omega) (by show u ≤ min p.2 (hi * y.2 + (y.2 - 1)); omega)
      · exact hS
    · exact hS
  · exact hS
/-- what new bounds of a name say of what it was made of -/
def zpg (S : zA_S) (a : zA_V) : zA_S := if a.1 = 1 then (match S[a.2.toNat]? with
    | some (lo, hi, (k, x, y)) => if k = 10 then (match znw S x y false with
        | some (p, q) => zrf (zrf S x (max p.1 (lo - q.2), min p.2 (hi - q.1))) y (max q.1 (lo - p.2), min q.2 (hi - p.1))
        | none => S) else if k = 11 then (match znw S x y true with
        | some (p, q) => zrf (zrf S x (max p.1 (lo + q.1), min p.2 (hi + q.2))) y (max q.1 (p.1 - hi), min q.2 (p.2 - lo))
        | none => S) else if k = 12 then zpgM S lo hi (if y.1 = 0 then x else y) (if y.1 = 0 then y else x) else if k = 19 then zpgQ S lo hi x y else S
    | none => S) else S
theorem zpg_g {ρ : List Int} {S : zA_S} {a : zA_V} (hS : zg_S ρ S) : zg_S ρ (zpg S a) := by
  unfold zpg
  split
  · split
    · next lo hi k x y hk =>
      obtain ⟨n, e1, e2, e3, e4⟩ := zL2.getR hS hk
      have e2 : lo ≤ n := e2
      have e3 : n ≤ hi := e3
      split
      · next h10 =>
        rcases e4 with h0 | ⟨u, v, g1, g2, e⟩
        · have h0 : k = 0 := h0
          omega
        · have e : n = zb_c k u v := e
          split
          · next p q hpq =>
            obtain ⟨w1, w2, w3, w4, w5⟩ := znw_add hS hpq g1 g2
            rw [h10, w1] at e
            exact zrf_g (zrf_g hS g1 (by show max p.1 (lo - q.2) ≤ u; omega) (by show u ≤ min p.2 (hi - q.1); omega)) g2 (by show max q.1 (lo - p.2) ≤ v; omega) (by show v ≤ min q.2 (hi - p.1); omega)
          · exact hS
      · split
        · next h11 =>
          rcases e4 with h0 | ⟨u, v, g1, g2, e⟩
          · have h0 : k = 0 := h0
            omega
          · have e : n = zb_c k u v := e
            split
            · next p q hpq =>
              obtain ⟨w1, w2, w3, w4, w5⟩ := znw_sub hS hpq g1 g2
              rw [h11, w1] at e
              exact zrf_g (zrf_g hS g1 (by show max p.1 (lo + q.1) ≤ u; omega) (by show u ≤ min p.2 (hi + q.2); omega)) g2 (by show max q.1 (p.1 - hi) ≤ v; omega) (by show v ≤ min q.2 (p.2 - lo); omega)
            · exact hS
        · split
          · next h12 =>
            rw [h12] at e4
            refine zpgM_g hS ?_ e2 e3
            split
            · exact e4
            · exact e4.comm12
          · split
            · next h19 => exact zpgQ_g hS (by rw [h19] at e4; exact e4) e2 e3
            · exact hS
    · exact hS
  · exact hS
/-- no bounds of a name that can't be -/
def zne1 (S : zA_S) (a : zA_V) : Bool := match zr S a with
  | some p => decide (p.1 ≤ p.2)
  | none => true
def zne (S : zA_S) (a : zA_V) : Bool := if a.1 = 1 then zne1 S a && (match S[a.2.toNat]? with
  | some q => zne1 S q.2.2.2.1 && zne1 S q.2.2.2.2
  | none => true) else true
theorem zr_ne {ρ : List Int} {S : zA_S} {a : zA_V} {p : zI2} (hS : zg_S ρ S) (h : zr S a = some p) : p.1 ≤ p.2 := by
  have key : ∀ k : Nat, zat S k = some p → p.1 ≤ p.2 := by
    intro k hk
    unfold zat at hk
    split at hk
    · next q hq =>
      obtain ⟨n, e1, e2⟩ := zL2.getR hS hq
      cases hk
      exact Int.le_trans e2.1 e2.2.1
    · cases hk
  unfold zr at h
  split at h
  · cases h; exact Int.le_refl _
  · split at h
    · exact key _ h
    · split at h
      · cases h; exact Int.le_refl _
      · split at h
        · exact key _ h
        · cases h
theorem zne1_g {ρ : List Int} {S : zA_S} (hS : zg_S ρ S) (a : zA_V) : zne1 S a = true := by
  unfold zne1
  split
  · next p hp => exact decide_eq_true (zr_ne hS hp)
  · rfl
theorem zne_g {ρ : List Int} {S : zA_S} (hS : zg_S ρ S) (a : zA_V) : zne S a = true := by
  unfold zne
  split
  · rw [zne1_g hS]
    split
    · rw [zne1_g hS, zne1_g hS]; rfl
    · rfl
  · rfl
/-- and one step further -/
def zpgA (S : zA_S) (a : zA_V) : zA_S := if a.1 = 1 then (match (zpg S a)[a.2.toNat]? with
  | some q => zpg (zpg (zpg S a) q.2.2.2.1) q.2.2.2.2
  | none => zpg S a) else S
theorem zpgA_g {ρ : List Int} {S : zA_S} {a : zA_V} (hS : zg_S ρ S) : zg_S ρ (zpgA S a) := by
  unfold zpgA
  split
  · split
    · exact zpg_g (zpg_g (zpg_g hS))
    · exact zpg_g hS
  · exact hS
def zpg2 (a b : zA_V) (l : List zA_S) : List zA_S := (l.map (fun S => zpgA (zpgA S a) b)).filter (fun S => zne S a && zne S b)
theorem zpg2_g {ρ : List Int} {a b : zA_V} {l : List zA_S} (h : ∃ S', S' ∈ l ∧ zg_S ρ S') : ∃ S', S' ∈ zpg2 a b l ∧ zg_S ρ S' := by
  obtain ⟨S', m, g⟩ := h
  have g' : zg_S ρ (zpgA (zpgA S' a) b) := zpgA_g (zpgA_g g)
  exact ⟨_, List.mem_filter.mpr ⟨List.mem_map.mpr ⟨S', m, rfl⟩, by rw [zne_g g' a, zne_g g' b]; rfl⟩, g'⟩
/-- the difference of two names, with what a comparison says of it: c as of branches -/
def zdq (c : Nat) (q : zI2) : zI2 := if c = 0 then (0, 0) else if c = 2 then (q.1, min q.2 (-1)) else if c = 3 then (max q.1 0, q.2) else if c = 4 then (max q.1 1, q.2) else if c = 5 then (q.1, min q.2 0) else q
theorem zdq_g {c : Nat} {q : zI2} {x z : Int32} (h : zcP c x z) (h1 : q.1 ≤ x.toInt - z.toInt) (h2 : x.toInt - z.toInt ≤ q.2) : (zdq c q).1 ≤ x.toInt - z.toInt ∧ x.toInt - z.toInt ≤ (zdq c q).2 := by
  unfold zdq
  unfold zcP at h
  split
  · next e => rw [if_pos e] at h; subst h; exact ⟨by show (0 : Int) ≤ _; omega, by show _ ≤ (0 : Int); omega⟩
  · next e =>
    rw [if_neg e] at h
    split
    · next e2 =>
      rw [if_neg (by omega), if_pos e2] at h
      rw [Int32.lt_iff_toInt_lt] at h
      exact ⟨h1, by show _ ≤ min q.2 (-1); omega⟩
    · next e2 =>
      split
      · next e3 =>
        rw [if_neg (by omega), if_neg (by omega), if_pos e3] at h
        rw [Int32.le_iff_toInt_le] at h
        exact ⟨by show max q.1 0 ≤ _; omega, h2⟩
      · next e3 =>
        split
        · next e4 =>
          rw [if_neg (by omega), if_neg (by omega), if_neg (by omega), if_pos e4] at h
          rw [Int32.lt_iff_toInt_lt] at h
          exact ⟨by show max q.1 1 ≤ _; omega, h2⟩
        · next e4 =>
          split
          · next e5 =>
            rw [if_neg (by omega), if_neg (by omega), if_neg (by omega), if_neg (by omega)] at h
            rw [Int32.le_iff_toInt_le] at h
            exact ⟨h1, by show _ ≤ min q.2 0; omega⟩
          · exact ⟨h1, h2⟩
/-- the branch not taken -/
def zcN (c : Nat) : Nat := if c = 0 then 1 else if c = 1 then 0 else if c = 2 then 3 else if c = 3 then 2 else if c = 4 then 5 else 4
theorem zcN_g {c : Nat} {x z : Int32} (h : ¬ zcP c x z) : zcP (zcN c) x z := by
  unfold zcP at h
  unfold zcN
  split at h
  · next e => rw [if_pos e]; exact h
  · next e0 =>
    rw [if_neg e0]
    split at h
    · next e => rw [if_pos e]; exact Classical.byContradiction (fun q => h q)
    · next e1 =>
      rw [if_neg e1]
      split at h
      · next e =>
        rw [if_pos e]
        show z ≤ x
        rw [Int32.lt_iff_toInt_lt] at h
        rw [Int32.le_iff_toInt_le]
        omega
      · next e2 =>
        rw [if_neg e2]
        split at h
        · next e =>
          rw [if_pos e]
          show x < z
          rw [Int32.le_iff_toInt_le] at h
          rw [Int32.lt_iff_toInt_lt]
          omega
        · next e3 =>
          rw [if_neg e3]
          split at h
          · next e =>
            rw [if_pos e]
            show x ≤ z
            rw [Int32.lt_iff_toInt_lt] at h
            rw [Int32.le_iff_toInt_le]
            omega
          · next e4 =>
            rw [if_neg e4]
            show z < x
            rw [Int32.le_iff_toInt_le] at h
            rw [Int32.lt_iff_toInt_lt]
            omega
def zfc (c : Nat) (a b : zA_V) (S : zA_S) : zA_S := if a.1 = 1 ∧ b.1 = 1 ∧ c ≠ 1 ∧ c ≤ 5 then (match znw S a b true with
    | some (p, q) => (match zfd (11, a, b) S 0 with
      | some j => (match zat S j with
        | some u => zmo (zdq c u) S j
        | none => S)
      | none => S ++ [((zdq c (p.1 - q.2, p.2 - q.1)).1, (zdq c (p.1 - q.2, p.2 - q.1)).2, (11, a, b))])
    | none => S) else S
theorem zfc_g {c : Nat} {a b : zA_V} {ρ : List Int} {S : zA_S} {x z : Int32} (hS : zg_S ρ S) (h1 : zE ρ a x.toInt) (h2 : zE ρ b z.toInt) (h : zcP c x z) : ∃ ρ', zLE ρ ρ' ∧ zg_S ρ' (zfc c a b S) := by
  unfold zfc
  split
  · split
    · next p q hpq =>
      obtain ⟨w1, w2, w3, w4, w5⟩ := znw_sub hS hpq h1 h2
      split
      · next j hj =>
        have e : ρ[j]? = some (x.toInt - z.toInt) := zfd_g hS hj (show (11 : Nat) ≠ 0 by decide) (fun u v hu hv => by rw [zE_fun hu h1, zE_fun hv h2]; exact w1.symm)
        split
        · next u hu =>
          have b0 := zat_in hS hu e
          have b1 := zdq_g (q := u) h b0.1 b0.2
          have := zrf_g (a := (1, (j : Int))) (q := zdq c u) hS (Or.inr ⟨Or.inl rfl, by simpa using e⟩) b1.1 b1.2
          have e2 : zrf S (1, (j : Int)) (zdq c u) = zmo (zdq c u) S j := by
            unfold zrf
            rw [if_pos rfl]
            simp
          rw [e2] at this
          exact ⟨ρ, zLE.refl ρ, this⟩
        · exact ⟨ρ, zLE.refl ρ, hS⟩
      · have b1 := zdq_g (c := c) (q := (p.1 - q.2, p.2 - q.1)) h (by show p.1 - q.2 ≤ _; omega) (by show _ ≤ p.2 - q.1; omega)
        exact ⟨_, zLE.app ρ (x.toInt - z.toInt), hS.pushD (q := zdq c (p.1 - q.2, p.2 - q.1)) b1.1 b1.2 (Or.inr ⟨_, _, h1, h2, w1.symm⟩)⟩
    · exact ⟨ρ, zLE.refl ρ, hS⟩
  · exact ⟨ρ, zLE.refl ρ, hS⟩
/-- no name is left without a value -/
def zneS (S : zA_S) : Bool := S.all (fun q => decide (q.1 ≤ q.2.1))
theorem zneS_g {ρ : List Int} {S : zA_S} (hS : zg_S ρ S) : zneS S = true := List.all_eq_true.mpr (fun q hq => by
  obtain ⟨i, hi⟩ := List.getElem?_of_mem hq
  obtain ⟨n, -, b1, b2, -⟩ := zL2.getR hS hi
  exact decide_eq_true (Int.le_trans b1 b2))
section ZO
variable {l : Launch} {d : Nat} {y : zx_Y} {X : zx_X} {mc ms XL : Nat} {φ : List z_C} {Q : Option Value → List z_C → Prop}
def zx_to (pc : Nat) (t : zA_T) (r : List zA_V) (l : List zA_S) : List (Nat × zA_T) := l.map (fun S => (pc, zt_Sst t S r))
def zx_if (c tg nx : Nat) (t : zA_T) : zA_R := match t.2.2.2.1 with
  | a0 :: r => let a := zn t.1 a0
    if zIs a = true then some (zx_to tg t r (zpg2 a (0, 0) (zcT c t.1 a (0, 0))) ++ zx_to nx t r (zpg2 a (0, 0) (zcF c t.1 a (0, 0)))) else none
  | [] => none
def zx_icmp (c tg nx : Nat) (t : zA_T) : zA_R := match t.2.2.2.1 with
  | b0 :: a0 :: r => let a := zn t.1 a0
    let b := zn t.1 b0
    if zIs a = true ∧ zIs b = true then some (zx_to tg t r (((zpg2 a b (zcT c t.1 a b)).map (zfc c a b)).filter zneS) ++ zx_to nx t r (((zpg2 a b (zcF c t.1 a b)).map (zfc (zcN c) a b)).filter zneS)) else none
  | _ => none
theorem zo_if {c pc tg nx : Nat} {t : zA_T} (hs : ∀ {lv st ph cc ns} {a : Int32}, (zcP c a 0 → ZW l d y X mc ms Q tg lv st ph cc ns) → (¬ zcP c a 0 → ZW l d y X mc ms Q nx lv st ph cc ns) → ZW l d y X mc ms Q pc lv (.int a :: st) ph cc ns) : zSd l d y X mc ms XL φ Q pc t (zx_if c tg nx t) := by
  obtain ⟨S, H, L, s0, cc, ns⟩ := t
  intro ts hts ρ ph lv st g k0
  obtain ⟨g1, g2, g3, g4, g5⟩ := g
  unfold zx_if at hts
  split at hts
  · next a0 r hst =>
    have hst : s0 = a0 :: r := hst
    subst hst
    obtain ⟨va, st1, rfl, ga0, gr⟩ := zL2.cons1 g4
    have ga := zn_g g1 ga0
    dsimp only at hts
    generalize hea : zn S a0 = a at *
    split at hts
    · next hI =>
      cases hts
      obtain ⟨x, rfl, ex⟩ := zg_int hI ga
      refine hs (fun h => ?_) (fun h => ?_)
      · obtain ⟨S', m, gs⟩ := zpg2_g (a := a) (b := (0, 0)) (zcT_g g1 ex (zE0 ρ (0 : Int32).toInt) h)
        exact k0 (tg, zt_Sst (S, H, L, a0 :: r, cc, ns) S' r) (List.mem_append_left _ (List.mem_map.mpr ⟨S', m, rfl⟩)) ρ ph lv _ (zLE.refl ρ) ⟨gs, g2, g3, gr, g5⟩
      · obtain ⟨S', m, gs⟩ := zpg2_g (a := a) (b := (0, 0)) (zcF_g g1 ex (zE0 ρ (0 : Int32).toInt) h)
        exact k0 (nx, zt_Sst (S, H, L, a0 :: r, cc, ns) S' r) (List.mem_append_right _ (List.mem_map.mpr ⟨S', m, rfl⟩)) ρ ph lv _ (zLE.refl ρ) ⟨gs, g2, g3, gr, g5⟩
    · cases hts
  · cases hts
theorem zo_icmp {c pc tg nx : Nat} {t : zA_T} (hs : ∀ {lv st ph cc ns} {a b : Int32}, (zcP c a b → ZW l d y X mc ms Q tg lv st ph cc ns) → (¬ zcP c a b → ZW l d y X mc ms Q nx lv st ph cc ns) → ZW l d y X mc ms Q pc lv (.int b :: .int a :: st) ph cc ns) : zSd l d y X mc ms XL φ Q pc t (zx_icmp c tg nx t) := by
  obtain ⟨S, H, L, s0, cc, ns⟩ := t
  intro ts hts ρ ph lv st g k0
  obtain ⟨g1, g2, g3, g4, g5⟩ := g
  unfold zx_icmp at hts
  split at hts
  · next b0 a0 r hst =>
    have hst : s0 = b0 :: a0 :: r := hst
    subst hst
    obtain ⟨vb, st1, rfl, gb0, gr1⟩ := zL2.cons1 g4
    obtain ⟨va, st2, rfl, ga0, gr⟩ := zL2.cons1 gr1
    have ga := zn_g g1 ga0
    have gb := zn_g g1 gb0
    dsimp only at hts
    generalize hea : zn S a0 = a at *
    generalize heb : zn S b0 = b at *
    split at hts
    · next hI =>
      cases hts
      obtain ⟨x, rfl, ex⟩ := zg_int hI.1 ga
      obtain ⟨z, rfl, ez⟩ := zg_int hI.2 gb
      refine hs (fun h => ?_) (fun h => ?_)
      · obtain ⟨S', m, gs⟩ := zpg2_g (a := a) (b := b) (zcT_g g1 ex ez h)
        obtain ⟨ρ', hle, gs'⟩ := zfc_g gs ex ez h
        exact k0 (tg, zt_Sst (S, H, L, b0 :: a0 :: r, cc, ns) (zfc c a b S') r) (List.mem_append_left _ (List.mem_map.mpr ⟨_, List.mem_filter.mpr ⟨List.mem_map.mpr ⟨S', m, rfl⟩, zneS_g gs'⟩, rfl⟩)) ρ' ph lv _ hle ⟨gs', zL2.mono (fun _ _ => zg_C.mono hle) g2, zL2.mono (fun _ _ q => ⟨q.1, q.2.mono hle⟩) g3, zL2.mono (fun _ _ => zg_V.mono hle) gr, g5.mono hle⟩
      · obtain ⟨S', m, gs⟩ := zpg2_g (a := a) (b := b) (zcF_g g1 ex ez h)
        obtain ⟨ρ', hle, gs'⟩ := zfc_g gs ex ez (zcN_g h)
        exact k0 (nx, zt_Sst (S, H, L, b0 :: a0 :: r, cc, ns) (zfc (zcN c) a b S') r) (List.mem_append_right _ (List.mem_map.mpr ⟨_, List.mem_filter.mpr ⟨List.mem_map.mpr ⟨S', m, rfl⟩, zneS_g gs'⟩, rfl⟩)) ρ' ph lv _ hle ⟨gs', zL2.mono (fun _ _ => zg_C.mono hle) g2, zL2.mono (fun _ _ q => ⟨q.1, q.2.mono hle⟩) g3, zL2.mono (fun _ _ => zg_V.mono hle) gr, g5.mono hle⟩
    · cases hts
  · cases hts
/-- the int that a long was made of -/
def zIv (a : zA_V) : zA_V := if a.1 = 5 then (1, a.2) else a
def zx_lcmp (nx : Nat) (t : zA_T) : zA_R := match t.2.2.2.1 with
  | b0 :: a0 :: r => let a := zn t.1 a0
    let b := zn t.1 b0
    if zIsJ a = true ∧ zIsJ b = true then some (zx_to nx t ((0, -1) :: r) ((zLT t.1 a b).map (fun S => zpg S (zIv a))) ++ (zx_to nx t ((0, 0) :: r) ((zEQ t.1 a b).map (fun S => zpg S (zIv a))) ++ zx_to nx t ((0, 1) :: r) ((zLT t.1 b a).map (fun S => zpg S (zIv a))))) else none
  | _ => none
theorem zo_lcmp {pc nx : Nat} {t : zA_T} (hs : ∀ {lv st ph cc ns} {a b : Int64}, ZW l d y X mc ms Q nx lv (.int (lg_cmp a b) :: st) ph cc ns → ZW l d y X mc ms Q pc lv (.long b :: .long a :: st) ph cc ns) : zSd l d y X mc ms XL φ Q pc t (zx_lcmp nx t) := by
  obtain ⟨S, H, L, s0, cc, ns⟩ := t
  intro ts hts ρ ph lv st g k0
  obtain ⟨g1, g2, g3, g4, g5⟩ := g
  unfold zx_lcmp at hts
  split at hts
  · next b0 a0 r hst =>
    have hst : s0 = b0 :: a0 :: r := hst
    subst hst
    obtain ⟨vb, st1, rfl, gb0, gr1⟩ := zL2.cons1 g4
    obtain ⟨va, st2, rfl, ga0, gr⟩ := zL2.cons1 gr1
    have ga := zn_g g1 ga0
    have gb := zn_g g1 gb0
    dsimp only at hts
    generalize hea : zn S a0 = a at *
    generalize heb : zn S b0 = b at *
    split at hts
    · next hI =>
      cases hts
      obtain ⟨x, rfl, ex⟩ := zg_long hI.1 ga
      obtain ⟨z, rfl, ez⟩ := zg_long hI.2 gb
      refine hs ?_
      rcases Int.lt_trichotomy x.toInt z.toInt with h | h | h
      · have e1 : lg_cmp x z = -1 := by
          have h1 : ¬ x > z := fun q => by have := Int64.lt_iff_toInt_lt.mp q; omega
          have h2 : ¬ x = z := fun q => by rw [q] at h; omega
          simp [lg_cmp, h1, h2]
        rw [e1]
        obtain ⟨S', m, gs⟩ := zLT_g g1 ex ez h
        exact k0 (nx, zt_Sst (S, H, L, b0 :: a0 :: r, cc, ns) (zpg S' (zIv a)) ((0, -1) :: r)) (List.mem_append_left _ (List.mem_map.mpr ⟨_, List.mem_map.mpr ⟨S', m, rfl⟩, rfl⟩)) ρ ph lv _ (zLE.refl ρ) ⟨zpg_g gs, g2, g3, ⟨zg_ofI (by decide), gr⟩, g5⟩
      · have e1 : lg_cmp x z = 0 := by
          have h2 : x = z := Int64.toInt_inj.mp h
          have h1 : ¬ x > z := fun q => by have := Int64.lt_iff_toInt_lt.mp q; omega
          simp [lg_cmp, h1, h2]
        rw [e1]
        obtain ⟨S', m, gs⟩ := zEQ_g g1 ex ez h
        exact k0 (nx, zt_Sst (S, H, L, b0 :: a0 :: r, cc, ns) (zpg S' (zIv a)) ((0, 0) :: r)) (List.mem_append_right _ (List.mem_append_left _ (List.mem_map.mpr ⟨_, List.mem_map.mpr ⟨S', m, rfl⟩, rfl⟩))) ρ ph lv _ (zLE.refl ρ) ⟨zpg_g gs, g2, g3, ⟨zg_ofI (by decide), gr⟩, g5⟩
      · have e1 : lg_cmp x z = 1 := by
          have h1 : x > z := Int64.lt_iff_toInt_lt.mpr h
          simp [lg_cmp, h1]
        rw [e1]
        obtain ⟨S', m, gs⟩ := zLT_g g1 ez ex h
        exact k0 (nx, zt_Sst (S, H, L, b0 :: a0 :: r, cc, ns) (zpg S' (zIv a)) ((0, 1) :: r)) (List.mem_append_right _ (List.mem_append_right _ (List.mem_map.mpr ⟨_, List.mem_map.mpr ⟨S', m, rfl⟩, rfl⟩))) ρ ph lv _ (zLE.refl ρ) ⟨zpg_g gs, g2, g3, ⟨zg_ofI (by decide), gr⟩, g5⟩
    · cases hts
  · cases hts
/-- the targets of tableswitch: lo, default, targets -/
def zx_tab1 (t : zA_T) (r : List zA_V) (a : zA_V) : Int → List Int → List (Nat × zA_T)
  | _, [] => []
  | k, g :: gs => zx_to g.toNat t r (zEQ t.1 a (0, k)) ++ zx_tab1 t r a (k + 1) gs
def zx_tab (lo df : Int) (gs : List Int) (t : zA_T) : zA_R := match t.2.2.2.1 with
  | a0 :: r => let a := zn t.1 a0
    if a.1 = 0 then
      (if a.2 < lo ∨ lo + gs.length ≤ a.2 then some [(df.toNat, zt_st t r)] else some [((gs.getD (a.2 - lo).toNat 0).toNat, zt_st t r)])
    else if zIs a = true then some (zx_tab1 t r a lo gs ++ (zx_to df.toNat t r (zLT t.1 a (0, lo)) ++ zx_to df.toNat t r (zGE t.1 a (0, lo + gs.length)))) else none
  | [] => none
theorem zx_tab1_g {t : zA_T} {r : List zA_V} {a : zA_V} {ρ : List Int} {n : Int} (hS : zg_S ρ t.1) (he : zE ρ a n) : ∀ (gs : List Int) (k : Int) (i : Nat), i < gs.length → n = k + i → ∃ S', zg_S ρ S' ∧ ((gs.getD i 0).toNat, zt_Sst t S' r) ∈ zx_tab1 t r a k gs
  | [], _, _, h, _ => by cases h
  | g :: gs, k, 0, _, hn => by
    obtain ⟨S', m, gs'⟩ := zEQ_g hS he (zE0 ρ k) (by omega)
    exact ⟨S', gs', List.mem_append_left _ (List.mem_map.mpr ⟨S', m, rfl⟩)⟩
  | g :: gs, k, i + 1, h, hn => by
    obtain ⟨S', g1, m⟩ := zx_tab1_g hS he gs (k + 1) i (by simpa using h) (by omega)
    exact ⟨S', g1, List.mem_append_right _ m⟩
theorem zo_tab {pc : Nat} {lo df : Int} {gs : List Int} {t : zA_T} (hs : ∀ {lv st ph cc ns} {a : Int32}, (a.toInt < lo ∨ lo + gs.length ≤ a.toInt → ZW l d y X mc ms Q df.toNat lv st ph cc ns) → (∀ i : Nat, i < gs.length → a.toInt = lo + i → ZW l d y X mc ms Q (gs.getD i 0).toNat lv st ph cc ns) → ZW l d y X mc ms Q pc lv (.int a :: st) ph cc ns) : zSd l d y X mc ms XL φ Q pc t (zx_tab lo df gs t) := by
  obtain ⟨S, H, L, s0, cc, ns⟩ := t
  intro ts hts ρ ph lv st g k0
  obtain ⟨g1, g2, g3, g4, g5⟩ := g
  unfold zx_tab at hts
  split at hts
  · next a0 r hst =>
    have hst : s0 = a0 :: r := hst
    subst hst
    obtain ⟨va, st1, rfl, ga0, gr⟩ := zL2.cons1 g4
    have ga := zn_g g1 ga0
    dsimp only at hts
    generalize hea : zn S a0 = a at *
    split at hts
    · next h0 =>
      obtain ⟨x, rfl, ex⟩ := zg_int (a := a) (by simp [zIs, h0]) ga
      have hx : x.toInt = a.2 := by rcases ex with ⟨-, e⟩ | ⟨e, -⟩ <;> omega
      split at hts
      · next hr =>
        cases hts
        refine hs (fun _ => k0 _ (List.mem_singleton.mpr rfl) ρ ph lv _ (zLE.refl ρ) ⟨g1, g2, g3, gr, g5⟩) (fun i hi he => ?_)
        omega
      · next hr =>
        cases hts
        refine hs (fun q => by omega) (fun i hi he => ?_)
        have e2 : (a.2 - lo).toNat = i := by omega
        have := k0 _ (List.mem_singleton.mpr rfl) ρ ph lv _ (zLE.refl ρ) ⟨g1, g2, g3, gr, g5⟩
        rw [e2] at this
        exact this
    · split at hts
      · next hI =>
        cases hts
        obtain ⟨x, rfl, ex⟩ := zg_int hI ga
        refine hs (fun h => ?_) (fun i hi he => ?_)
        · rcases h with h | h
          · obtain ⟨S', m, gs'⟩ := zLT_g g1 ex (zE0 ρ lo) h
            exact k0 (df.toNat, zt_Sst (S, H, L, a0 :: r, cc, ns) S' r) (List.mem_append_right _ (List.mem_append_left _ (List.mem_map.mpr ⟨S', m, rfl⟩))) ρ ph lv _ (zLE.refl ρ) ⟨gs', g2, g3, gr, g5⟩
          · obtain ⟨S', m, gs'⟩ := zGE_g g1 ex (zE0 ρ (lo + gs.length)) h
            exact k0 (df.toNat, zt_Sst (S, H, L, a0 :: r, cc, ns) S' r) (List.mem_append_right _ (List.mem_append_right _ (List.mem_map.mpr ⟨S', m, rfl⟩))) ρ ph lv _ (zLE.refl ρ) ⟨gs', g2, g3, gr, g5⟩
        · obtain ⟨S', gs', m⟩ := zx_tab1_g (t := (S, H, L, a0 :: r, cc, ns)) (r := r) g1 ex gs lo i hi he
          exact k0 _ (List.mem_append_left _ m) ρ ph lv _ (zLE.refl ρ) ⟨gs', g2, g3, gr, g5⟩
      · cases hts
  · cases hts
/-- lookupswitch: default, pairs -/
def zx_lk1 (t : zA_T) (r : List zA_V) (a : zA_V) (df : Int) : List (Int × Int) → List (Nat × zA_T)
  | [] => [(df.toNat, zt_st t r)]
  | q :: qs => zx_to q.2.toNat t r (zEQ t.1 a (0, q.1)) ++ zx_lk1 t r a df qs
def zx_lk0 (n : Int) (df : Int) : List (Int × Int) → Int
  | [] => df
  | q :: qs => if n = q.1 then q.2 else zx_lk0 n df qs
def zx_lk (df : Int) (qs : List (Int × Int)) (t : zA_T) : zA_R := match t.2.2.2.1 with
  | a0 :: r => let a := zn t.1 a0
    if a.1 = 0 then some [((zx_lk0 a.2 df qs).toNat, zt_st t r)] else if zIs a = true then some (zx_lk1 t r a df qs) else none
  | [] => none
theorem zx_lk1_g {t : zA_T} {r : List zA_V} {a : zA_V} {df : Int} {ρ : List Int} {n : Int} (hS : zg_S ρ t.1) (he : zE ρ a n) : ∀ (qs : List (Int × Int)), ∃ S', zg_S ρ S' ∧ ((zx_lk0 n df qs).toNat, zt_Sst t S' r) ∈ zx_lk1 t r a df qs
  | [] => ⟨t.1, hS, List.mem_singleton.mpr rfl⟩
  | q :: qs => by
    by_cases h : n = q.1
    · obtain ⟨S', m, gs'⟩ := zEQ_g hS he (zE0 ρ q.1) h
      refine ⟨S', gs', List.mem_append_left _ (List.mem_map.mpr ⟨S', m, ?_⟩)⟩
      simp [zx_lk0, h]
    · obtain ⟨S', g1, m⟩ := zx_lk1_g hS he qs
      refine ⟨S', g1, List.mem_append_right _ ?_⟩
      simp only [zx_lk0, if_neg h]
      exact m
theorem zo_lk {pc : Nat} {df : Int} {qs : List (Int × Int)} {t : zA_T} (hs : ∀ {lv st ph cc ns} {a : Int32}, ZW l d y X mc ms Q (zx_lk0 a.toInt df qs).toNat lv st ph cc ns → ZW l d y X mc ms Q pc lv (.int a :: st) ph cc ns) : zSd l d y X mc ms XL φ Q pc t (zx_lk df qs t) := by
  obtain ⟨S, H, L, s0, cc, ns⟩ := t
  intro ts hts ρ ph lv st g k0
  obtain ⟨g1, g2, g3, g4, g5⟩ := g
  unfold zx_lk at hts
  split at hts
  · next a0 r hst =>
    have hst : s0 = a0 :: r := hst
    subst hst
    obtain ⟨va, st1, rfl, ga0, gr⟩ := zL2.cons1 g4
    have ga := zn_g g1 ga0
    dsimp only at hts
    generalize hea : zn S a0 = a at *
    split at hts
    · next h0 =>
      obtain ⟨x, rfl, ex⟩ := zg_int (a := a) (by simp [zIs, h0]) ga
      have hx : x.toInt = a.2 := by rcases ex with ⟨-, e⟩ | ⟨e, -⟩ <;> omega
      cases hts
      refine hs ?_
      rw [hx]
      exact k0 _ (List.mem_singleton.mpr rfl) ρ ph lv _ (zLE.refl ρ) ⟨g1, g2, g3, gr, g5⟩
    · split at hts
      · next hI =>
        cases hts
        obtain ⟨x, rfl, ex⟩ := zg_int hI ga
        obtain ⟨S', gs', m⟩ := zx_lk1_g (t := (S, H, L, a0 :: r, cc, ns)) (r := r) (df := df) g1 ex qs
        exact hs (k0 _ m ρ ph lv _ (zLE.refl ρ) ⟨gs', g2, g3, gr, g5⟩)
      · cases hts
  · cases hts
/-- goto, pop, dup, dup2 -/
theorem zo_goto {pc nx : Nat} {t : zA_T} (hs : ∀ {lv st ph cc ns}, ZW l d y X mc ms Q nx lv st ph cc ns → ZW l d y X mc ms Q pc lv st ph cc ns) : zSd l d y X mc ms XL φ Q pc t (some [(nx, t)]) := by
  intro ts hts ρ ph lv st g k0
  cases hts
  exact hs (k0 _ (List.mem_singleton.mpr rfl) ρ ph lv st (zLE.refl ρ) g)
def zx_dup (w nx : Nat) (t : zA_T) : zA_R := match t.2.2.2.1 with
  | a :: r => if zcat a = 1 then
      (if w = 0 then some [(nx, zt_st t (a :: a :: r))] else if w = 1 then some [(nx, zt_st t r)] else match r with
        | b :: r2 => if zcat b = 1 then some [(nx, zt_st t (a :: b :: a :: b :: r2))] else none
        | [] => none) else none
  | [] => none
theorem zo_dup {w pc nx : Nat} {t : zA_T} (h0 : ∀ {lv st ph cc ns} {v : Value}, w = 0 → v.category = 1 → ZW l d y X mc ms Q nx lv (v :: v :: st) ph cc ns → ZW l d y X mc ms Q pc lv (v :: st) ph cc ns)
    (h1 : ∀ {lv st ph cc ns} {v : Value}, w = 1 → v.category = 1 → ZW l d y X mc ms Q nx lv st ph cc ns → ZW l d y X mc ms Q pc lv (v :: st) ph cc ns)
    (h2 : ∀ {lv st ph cc ns} {v u : Value}, w ≠ 0 → w ≠ 1 → v.category = 1 → u.category = 1 → ZW l d y X mc ms Q nx lv (v :: u :: v :: u :: st) ph cc ns → ZW l d y X mc ms Q pc lv (v :: u :: st) ph cc ns) : zSd l d y X mc ms XL φ Q pc t (zx_dup w nx t) := by
  obtain ⟨S, H, L, s0, cc, ns⟩ := t
  intro ts hts ρ ph lv st g k0
  obtain ⟨g1, g2, g3, g4, g5⟩ := g
  unfold zx_dup at hts
  split at hts
  · next a r hst =>
    have hst : s0 = a :: r := hst
    subst hst
    obtain ⟨va, st1, rfl, ga, gr⟩ := zL2.cons1 g4
    split at hts
    · next hc =>
      have hcv : va.category = 1 := (zg_cat ga).trans hc
      split at hts
      · next e => cases hts; exact h0 e hcv (k0 _ (List.mem_singleton.mpr rfl) ρ ph lv _ (zLE.refl ρ) ⟨g1, g2, g3, ⟨ga, ga, gr⟩, g5⟩)
      · next e =>
        split at hts
        · next e1 => cases hts; exact h1 e1 hcv (k0 _ (List.mem_singleton.mpr rfl) ρ ph lv _ (zLE.refl ρ) ⟨g1, g2, g3, gr, g5⟩)
        · next e1 =>
          split at hts
          · next b r2 =>
            obtain ⟨vb, st2, rfl, gb, gr2⟩ := zL2.cons1 gr
            split at hts
            · next hc2 =>
              cases hts
              exact h2 e e1 hcv ((zg_cat gb).trans hc2) (k0 _ (List.mem_singleton.mpr rfl) ρ ph lv _ (zLE.refl ρ) ⟨g1, g2, g3, ⟨ga, gb, ga, gb, gr2⟩, g5⟩)
            · cases hts
          · cases hts
    · cases hts
  · cases hts
/-- i2l, l2i, ineg, iinc -/
def zx_i2l (nx : Nat) (t : zA_T) : zA_R := match t.2.2.2.1 with
  | a0 :: r => let a := zn t.1 a0
    if a.1 = 0 then some [(nx, zt_st t ((4, a.2) :: r))] else if a.1 = 1 then some [(nx, zt_st t ((5, a.2) :: r))] else none
  | [] => none
theorem zo_i2l {pc nx : Nat} {t : zA_T} (hs : ∀ {lv st ph cc ns} {a : Int32}, ZW l d y X mc ms Q nx lv (.long a.toInt64 :: st) ph cc ns → ZW l d y X mc ms Q pc lv (.int a :: st) ph cc ns) : zSd l d y X mc ms XL φ Q pc t (zx_i2l nx t) := by
  obtain ⟨S, H, L, s0, cc, ns⟩ := t
  intro ts hts ρ ph lv st g k0
  obtain ⟨g1, g2, g3, g4, g5⟩ := g
  unfold zx_i2l at hts
  split at hts
  · next a0 r hst =>
    have hst : s0 = a0 :: r := hst
    subst hst
    obtain ⟨va, st1, rfl, ga0, gr⟩ := zL2.cons1 g4
    have ga := zn_g g1 ga0
    dsimp only at hts
    generalize hea : zn S a0 = a at *
    split at hts
    · next h0 =>
      cases hts
      obtain ⟨x, rfl, ex⟩ := zg_int (a := a) (by simp [zIs, h0]) ga
      have hx : x.toInt = a.2 := by rcases ex with ⟨-, e⟩ | ⟨e, -⟩ <;> omega
      exact hs (k0 _ (List.mem_singleton.mpr rfl) ρ ph lv _ (zLE.refl ρ) ⟨g1, g2, g3, ⟨zg_ofJ (by rw [Int32.toInt_toInt64]; exact hx), gr⟩, g5⟩)
    · split at hts
      · next h1 =>
        cases hts
        rcases ga with ⟨g, -⟩ | ⟨g, x, rfl, e2⟩ | ⟨g, -⟩ | ⟨g, -⟩ | ⟨g, -⟩ | ⟨g, -⟩ | ⟨g, -⟩
        · omega
        · exact hs (k0 _ (List.mem_singleton.mpr rfl) ρ ph lv _ (zLE.refl ρ) ⟨g1, g2, g3, ⟨Or.inr (Or.inr (Or.inr (Or.inr (Or.inr (Or.inl ⟨rfl, _, rfl, by rw [Int32.toInt_toInt64]; exact e2⟩))))), gr⟩, g5⟩)
        all_goals omega
      · cases hts
  · cases hts
def zx_neg (nx : Nat) (t : zA_T) : zA_R := match t.2.2.2.1 with
  | a0 :: r => let a := zn t.1 a0
    if a.1 = 0 then some [(nx, zt_st t ((0, zw32 (- a.2)) :: r))] else if a.1 = 1 then (match zr t.1 a with
      | some q => zx_new (zcl (- q.2, - q.1)) (11, (0, 0), a) nx t r
      | none => none) else none
  | [] => none
theorem zo_neg {pc nx : Nat} {t : zA_T} (hs : ∀ {lv st ph cc ns} {a : Int32}, ZW l d y X mc ms Q nx lv (.int (-a) :: st) ph cc ns → ZW l d y X mc ms Q pc lv (.int a :: st) ph cc ns) : zSd l d y X mc ms XL φ Q pc t (zx_neg nx t) := by
  obtain ⟨S, H, L, s0, cc, ns⟩ := t
  intro ts hts ρ ph lv st g k0
  obtain ⟨g1, g2, g3, g4, g5⟩ := g
  unfold zx_neg at hts
  split at hts
  · next a0 r hst =>
    have hst : s0 = a0 :: r := hst
    subst hst
    obtain ⟨va, st1, rfl, ga0, gr⟩ := zL2.cons1 g4
    have ga := zn_g g1 ga0
    dsimp only at hts
    generalize hea : zn S a0 = a at *
    split at hts
    · next h0 =>
      cases hts
      obtain ⟨x, rfl, ex⟩ := zg_int (a := a) (by simp [zIs, h0]) ga
      have hx : x.toInt = a.2 := by rcases ex with ⟨-, e⟩ | ⟨e, -⟩ <;> omega
      exact hs (k0 _ (List.mem_singleton.mpr rfl) ρ ph lv _ (zLE.refl ρ) ⟨g1, g2, g3, ⟨zg_ofI (by rw [zw32_eq, ← hx]; exact Int32.toInt_neg x), gr⟩, g5⟩)
    · split at hts
      · next h1 =>
        obtain ⟨x, rfl, ex⟩ := zg_int (a := a) (by simp [zIs, h1]) ga
        split at hts
        · next q hq =>
          have b := zr_in g1 ex hq
          have b3 := zcl_in (q := (- q.2, - q.1)) (Int32.toInt_neg x) (by show - q.2 ≤ _; omega) (by show _ ≤ - q.1; omega)
          obtain ⟨t', ρ', m, hle, gt, e⟩ := zx_new_g (φ := φ) hts g1 g2 g3 gr g5 b3.1 b3.2 (Or.inr ⟨_, _, zE0 ρ 0, ex, by
            show (-x).toInt = zb_c 11 0 x.toInt
            have e0 : zb_c 11 0 x.toInt = zw32 (0 - x.toInt) := rfl
            rw [e0, zw32_eq, Int.zero_sub]
            exact Int32.toInt_neg x⟩)
          have := k0 _ m ρ' ph lv _ hle gt
          rw [e] at this
          exact hs this
        · cases hts
      · cases hts
  · cases hts
def zx_inc (i : Nat) (n : Int) (nx : Nat) (t : zA_T) : zA_R := match t.2.2.1.lookup i with
  | some a0 => let a := zn t.1 a0
    if a.1 = 0 then some [(nx, zt_L t (zS1 t.2.2.1 i (0, zw32 (a.2 + n))) t.2.2.2.1)] else if a.1 = 1 then (match zr t.1 a with
      | some q => some [(nx, (t.1 ++ [((zcl (q.1 + n, q.2 + n)).1, (zcl (q.1 + n, q.2 + n)).2, 10, a, (0, n))], t.2.1, zS1 t.2.2.1 i (1, (t.1.length : Int)), t.2.2.2))]
      | none => none) else none
  | none => none
theorem zo_inc {i pc nx : Nat} {n : Int} {t : zA_T} (hn : (Int32.ofInt n).toInt = n) (hs : ∀ {lv st ph cc ns} {x : Int32}, lv.lookup i = some (.int x) → ZW l d y X mc ms Q nx (z_st1 lv i (.int (x + Int32.ofInt n))) st ph cc ns → ZW l d y X mc ms Q pc lv st ph cc ns) : zSd l d y X mc ms XL φ Q pc t (zx_inc i n nx t) := by
  obtain ⟨S, H, L, s0, cc, ns⟩ := t
  intro ts hts ρ ph lv st g k0
  obtain ⟨g1, g2, g3, g4, g5⟩ := g
  unfold zx_inc at hts
  split at hts
  · next a0 hst =>
    obtain ⟨va, hv, ga0⟩ := zg_L.look g3 hst
    have ga := zn_g g1 ga0
    dsimp only at hts
    generalize hea : zn S a0 = a at *
    have hadd : ∀ x : Int32, (x + Int32.ofInt n).toInt = (x.toInt + n).bmod 4294967296 := fun x => by
      have := Int32.toInt_add x (Int32.ofInt n)
      rw [hn] at this
      exact this
    split at hts
    · next h0 =>
      cases hts
      obtain ⟨x, rfl, ex⟩ := zg_int (a := a) (by simp [zIs, h0]) ga
      have hx : x.toInt = a.2 := by rcases ex with ⟨-, e⟩ | ⟨e, -⟩ <;> omega
      exact hs hv (k0 _ (List.mem_singleton.mpr rfl) ρ ph _ st (zLE.refl ρ) ⟨g1, g2, zS1_g g3 (zg_ofI (by rw [zw32_eq, ← hx]; exact hadd x)), g4, g5⟩)
    · split at hts
      · next h1 =>
        obtain ⟨x, rfl, ex⟩ := zg_int (a := a) (by simp [zIs, h1]) ga
        split at hts
        · next q hq =>
          cases hts
          have b := zr_in g1 ex hq
          have b3 := zcl_in (q := (q.1 + n, q.2 + n)) (hadd x) (by show q.1 + n ≤ _; omega) (by show _ ≤ q.2 + n; omega)
          have hle := zLE.app ρ (x + Int32.ofInt n).toInt
          exact hs hv (k0 _ (List.mem_singleton.mpr rfl) (ρ ++ [(x + Int32.ofInt n).toInt]) ph _ st hle ⟨g1.pushD b3.1 b3.2 (Or.inr ⟨_, _, ex, zE0 ρ n, by
            show (x + Int32.ofInt n).toInt = zb_c 10 x.toInt n
            have e0 : zb_c 10 x.toInt n = zw32 (x.toInt + n) := rfl
            rw [e0, zw32_eq]
            exact hadd x⟩), zL2.mono (fun _ _ => zg_C.mono hle) g2, zS1_g (zL2.mono (fun _ _ q => ⟨q.1, q.2.mono hle⟩) g3) (zg_ofK (g1.at _)), zL2.mono (fun _ _ => zg_V.mono hle) g4, g5.mono hle⟩)
        · cases hts
      · cases hts
  · cases hts
/-- an int, a long of which nothing is known -/
def zx_newJ (nx : Nat) (t : zA_T) (r : List zA_V) : zA_R := some [(nx, zt_Sst t (t.1 ++ [(zfullJ.1, zfullJ.2, zD0)]) ((5, (t.1.length : Int)) :: r))]
def zx_jop (nx : Nat) (t : zA_T) (ty : Nat) : zA_R := match t.2.2.2.1 with
  | b :: a :: r => if zIsJ a = true then (if zx_ty ty b = true then zx_newJ nx t r else none) else none
  | _ => none
theorem zx_newJ_g {nx : Nat} {t : zA_T} {r : List zA_V} {ρ : List Int} {ph : List z_C} {lv : List (Nat × Value)} {st : List Value} (x : Int64) {ts : List (Nat × zA_T)} (h : zx_newJ nx t r = some ts) (g1 : zg_S ρ t.1) (g2 : zL2 (zg_C φ ρ) t.2.1 ph) (g3 : zg_L ρ t.2.2.1 lv) (gr : zL2 (zg_V ρ) r st) (g5 : zg_X ρ XL X) :
    ∃ t' ρ', (nx, t') ∈ ts ∧ zLE ρ ρ' ∧ zg_T XL X φ ρ' t' ph lv (.long x :: st) ∧ t'.2.2.2.2 = t.2.2.2.2 := by
  cases h
  have hle := zLE.app ρ x.toInt
  have h1 := Int64.le_toInt x
  have h2 := Int64.toInt_lt x
  exact ⟨_, ρ ++ [x.toInt], List.mem_singleton.mpr rfl, hle, ⟨g1.push (q := zfullJ) (by show -9223372036854775808 ≤ _; omega) (by show _ ≤ 9223372036854775807; omega), zL2.mono (fun _ _ => zg_C.mono hle) g2, zL2.mono (fun _ _ q => ⟨q.1, q.2.mono hle⟩) g3, ⟨zg_ofKJ (g1.at _), zL2.mono (fun _ _ => zg_V.mono hle) gr⟩, g5.mono hle⟩, rfl⟩
theorem zo_jop {pc nx ty : Nat} {t : zA_T} (hty : ty < 2) (h0 : ∀ {lv st ph cc ns} {a b : Int64}, ty = 1 → (∃ x, ZW l d y X mc ms Q nx lv (.long x :: st) ph cc ns → ZW l d y X mc ms Q pc lv (.long b :: .long a :: st) ph cc ns))
    (h1 : ∀ {lv st ph cc ns} {a : Int64} {b : Int32}, ty = 0 → (∃ x, ZW l d y X mc ms Q nx lv (.long x :: st) ph cc ns → ZW l d y X mc ms Q pc lv (.int b :: .long a :: st) ph cc ns)) : zSd l d y X mc ms XL φ Q pc t (zx_jop nx t ty) := by
  obtain ⟨S, H, L, s0, cc, ns⟩ := t
  intro ts hts ρ ph lv st g k0
  obtain ⟨g1, g2, g3, g4, g5⟩ := g
  unfold zx_jop at hts
  split at hts
  · next b a r hst =>
    have hst : s0 = b :: a :: r := hst
    subst hst
    obtain ⟨vb, st1, rfl, gb, gr1⟩ := zL2.cons1 g4
    obtain ⟨va, st2, rfl, ga, gr⟩ := zL2.cons1 gr1
    split at hts
    · next hI =>
      split at hts
      · next hb =>
        obtain ⟨z, rfl, -⟩ := zg_long hI ga
        rcases (by omega : ty = 0 ∨ ty = 1) with e | e
        · subst e
          obtain ⟨w, rfl, -⟩ := zg_int (by simpa [zx_ty] using hb) gb
          obtain ⟨x, hx⟩ := h1 (lv := lv) (st := st2) (ph := ph) (cc := cc) (ns := ns) (a := z) (b := w) rfl
          obtain ⟨t', ρ', m, hle, gt, e⟩ := zx_newJ_g (φ := φ) x hts g1 g2 g3 gr g5
          have := k0 _ m ρ' ph lv _ hle gt
          rw [e] at this
          exact hx this
        · subst e
          obtain ⟨w, rfl, -⟩ := zg_long (by simpa [zx_ty] using hb) gb
          obtain ⟨x, hx⟩ := h0 (lv := lv) (st := st2) (ph := ph) (cc := cc) (ns := ns) (a := z) (b := w) rfl
          obtain ⟨t', ρ', m, hle, gt, e⟩ := zx_newJ_g (φ := φ) x hts g1 g2 g3 gr g5
          have := k0 _ m ρ' ph lv _ hle gt
          rw [e] at this
          exact hx this
      · cases hts
    · cases hts
  · cases hts
end ZO
end
section
/-! PART 13b: linear bounds. -/
/-- coefficients of names, the highest first -/
abbrev zF_ : Type := List (Int × Nat)
def zfs (ρ : List Int) : zF_ → Int
  | [] => 0
  | q :: F => q.1 * ρ.getD q.2 0 + zfs ρ F
def zfi (e : Int) (k : Nat) : zF_ → zF_
  | [] => [(e, k)]
  | q :: F => if q.2 = k then (q.1 + e, k) :: F else if q.2 < k then (e, k) :: q :: F else q :: zfi e k F
theorem zfi_g (ρ : List Int) (e : Int) (k : Nat) : ∀ F : zF_, zfs ρ (zfi e k F) = e * ρ.getD k 0 + zfs ρ F
  | [] => rfl
  | q :: F => by
    unfold zfi
    split
    · next h =>
      show (q.1 + e) * ρ.getD k 0 + zfs ρ F = e * ρ.getD k 0 + (q.1 * ρ.getD q.2 0 + zfs ρ F)
      rw [h, Int.add_mul]
      omega
    · split
      · rfl
      · show q.1 * ρ.getD q.2 0 + zfs ρ (zfi e k F) = e * ρ.getD k 0 + (q.1 * ρ.getD q.2 0 + zfs ρ F)
        rw [zfi_g ρ e k F]
        omega
/-- e times a constant or a name -/
def zfv (e : Int) (a : zA_V) (F : zF_) (c : Int) : zF_ × Int := if a.1 = 1 then (zfi e a.2.toNat F, c) else (F, c + e * a.2)
theorem zfv_g {ρ : List Int} {e : Int} {a : zA_V} {n : Int} (ha : a.1 = 0 ∨ a.1 = 1) (h : zE ρ a n) (F : zF_) (c : Int) : zfs ρ (zfv e a F c).1 + (zfv e a F c).2 = e * n + (zfs ρ F + c) := by
  unfold zfv
  rcases h with ⟨h1, h2⟩ | ⟨h1, h2⟩
  · rw [if_neg (by omega), h2]
    show zfs ρ F + (c + e * a.2) = _
    omega
  · rw [if_pos (by omega)]
    show zfs ρ (zfi e a.2.toNat F) + c = _
    rw [zfi_g, List.getD_eq_getElem?_getD, h2]
    show e * n + zfs ρ F + c = _
    omega
/-- a name made by + or -, or one that takes something off the form -/
def zopn (F : zF_) (up : Bool) (S : zA_S) (a : zA_V) : Bool := decide (a.1 = 1) && (match S[a.2.toNat]? with
  | some q => Nat.beq q.2.2.1 10 || (Nat.beq q.2.2.1 11 || F.any (fun e => Nat.beq e.2 a.2.toNat && decide (if up = true then e.1 < 0 else 0 < e.1)))
  | none => false)
/-- what is known of a name beside its bounds: x with n ≤ x + c (up), or x + c ≤ n -/
def zft (F : zF_) (k : Nat) (up : Bool) : Nat → zA_S → zA_S → Option (zA_V × Int)
  | _, _, [] => none
  | n, S0, (lo, hi, (op, x, y)) :: S => match Nat.beq op 11 with
    | false => zft F k up n S0 S
    | true => (match (if x.1 = 1 ∧ x.2 = (k : Int) ∧ y.1 ≤ 1 ∧ zopn F up S0 y = true then (match znw S0 x y true with
        | some _ => some (y, if up = true then hi else lo)
        | none => none) else if y.1 = 1 ∧ y.2 = (k : Int) ∧ x.1 ≤ 1 ∧ zopn F up S0 x = true then (match znw S0 x y true with
        | some _ => some (x, if up = true then -lo else -hi)
        | none => none) else none) with
      | some q => (match n with
        | 0 => some q
        | n + 1 => zft F k up n S0 S)
      | none => zft F k up n S0 S)
def zfts (k : Nat) (n : Int) (up : Bool) (x : zA_V) (c : Int) (ρ : List Int) : Prop := ∃ m : Int, (x.1 = 0 ∨ x.1 = 1) ∧ zE ρ x m ∧ (if up = true then n ≤ m + c else m + c ≤ n)
theorem zft_g {ρ : List Int} {F : zF_} {S0 : zA_S} {k : Nat} {n : Int} {up : Bool} (hS0 : zg_S ρ S0) (hk : ρ[k]? = some n) : ∀ {r : List Int} {S : zA_S} {i : Nat} {x : zA_V} {c : Int}, zL2 (zg_E ρ) r S → zft F k up i S0 S = some (x, c) → zfts k n up x c ρ
  | [], [], _, _, _, _, h => by cases h
  | m :: r, (lo, hi, (op, x, y)) :: S, i, u, c, hS, h => by
    unfold zft at h
    split at h
    · exact zft_g hS0 hk hS.2 h
    · next h11 =>
      have h11 : op = 11 := Nat.eq_of_beq_eq_true h11
      obtain ⟨b1, b2, b3⟩ := hS.1
      have b1 : lo ≤ m := b1
      have b2 : m ≤ hi := b2
      split at h
      · next q hq =>
        cases i with
        | succ i => exact zft_g hS0 hk hS.2 h
        | zero =>
        cases h
        rcases b3 with b3 | ⟨a1, a2, w1, w2, w3⟩
        · have b3 : op = 0 := b3
          omega
        · have w3 : m = zb_c op a1 a2 := w3
          rw [h11] at w3
          have hkE : zE ρ (1, (k : Int)) n := Or.inr ⟨Or.inl rfl, by simpa using hk⟩
          split at hq
          · next hx =>
            split at hq
            · next pq hpq =>
              cases hq
              obtain ⟨v1, -⟩ := znw_sub hS0 hpq w1 w2
              have ex : a1 = n := zE_fun w1 (by
                have : x = (1, (k : Int)) := Prod.ext hx.1 hx.2.1
                rw [this]; exact hkE)
              refine ⟨a2, by omega, w2, ?_⟩
              cases up
              · show a2 + lo ≤ n
                omega
              · show n ≤ a2 + hi
                omega
            · cases hq
          · split at hq
            · next hy =>
              split at hq
              · next pq hpq =>
                cases hq
                obtain ⟨v1, -⟩ := znw_sub hS0 hpq w1 w2
                have ey : a2 = n := zE_fun w2 (by
                  have : y = (1, (k : Int)) := Prod.ext hy.1 hy.2.1
                  rw [this]; exact hkE)
                refine ⟨a1, by omega, w1, ?_⟩
                cases up
                · show a1 + -hi ≤ n
                  omega
                · show n ≤ a1 + -lo
                  omega
              · cases hq
            · cases hq
      · exact zft_g hS0 hk hS.2 h
  | [], _ :: _, _, _, _, h, _ => h.elim
  | _ :: _, [], _, _, _, h, _ => h.elim
/-- a product with a number in a form -/
def zubm (S : zA_S) (x y : zA_V) (e : Int) (F : zF_) (c : Int) : Option (zF_ × Int) := if x.1 ≤ 1 ∧ y.1 = 0 ∧ 0 < y.2 then (match zr S x with
  | some p => if -2147483648 ≤ p.1 * y.2 ∧ p.2 * y.2 ≤ 2147483647 then some (zfv (e * y.2) x F c) else none
  | none => none) else none
theorem zubm_g {ρ : List Int} {S : zA_S} (hS : zg_S ρ S) {x y : zA_V} {e n c : Int} {F : zF_} {q : zF_ × Int} (hd : zg_D ρ n (12, x, y)) (h : zubm S x y e F c = some q) : zfs ρ q.1 + q.2 = e * n + (zfs ρ F + c) := by
  unfold zubm at h
  split at h
  · next h12 =>
    split at h
    · next p hp =>
      split at h
      · next hc =>
        cases h
        rcases hd with hd | ⟨a1, a2, w1, w2, w3⟩
        · cases hd
        · have w3 : n = zb_c 12 a1 a2 := w3
          have w1 : zE ρ x a1 := w1
          have w2 : zE ρ y a2 := w2
          have bx := zr_in hS w1 hp
          have ev : a2 = y.2 := by rcases w2 with ⟨-, w2⟩ | ⟨w2 | w2, -⟩ <;> omega
          subst ev
          rw [z_mulr h12.2.2 bx.1 bx.2 hc.1 hc.2] at w3
          rw [zfv_g (by omega) w1, Int.mul_assoc, Int.mul_comm y.2 a1, ← w3]
      · cases h
    · cases h
  · cases h
/-- plain bounds -/
def zubi (S : zA_S) : zF_ → Int → Option Int
  | [], c => some c
  | (e, k) :: G, c => match S[k]? with
    | none => none
    | some q => zubi S G (c + (if 0 < e then e * q.2.1 else e * q.1))
theorem zubi_g {ρ : List Int} {S : zA_S} (hS : zg_S ρ S) : ∀ {G : zF_} {c u : Int}, zubi S G c = some u → c + zfs ρ G ≤ u
  | [], c, u, h => by
    cases h
    show c + 0 ≤ c
    omega
  | (e, k) :: G, c, u, h => by
    unfold zubi at h
    split at h
    · cases h
    · next q hk =>
      obtain ⟨n, en, b1, b2, -⟩ := zL2.getR hS hk
      have eg : ρ.getD k 0 = n := by rw [List.getD_eq_getElem?_getD, en]; rfl
      have r := zubi_g hS h
      show c + (e * ρ.getD k 0 + zfs ρ G) ≤ u
      rw [eg]
      split at r
      · next h0 =>
        have := Int.mul_le_mul_of_nonneg_left b2 (by omega : 0 ≤ e)
        omega
      · next h0 =>
        have := Int.mul_le_mul_of_nonpos_left (a := e) (b := n) (c := q.1) (by omega) b1
        omega
/-- an upper bound of a linear form, with what is known of names beside their bounds or without -/
def zubf (t : Option (Nat × Bool)) (S : zA_S) : Nat → zF_ → zF_ → Int → Option Int
  | _, [], G, c => zubi S G c
  | 0, _ :: _, _, _ => none
  | f + 1, (e, k) :: F, G, c => if e = 0 then zubf t S f F G c else match S[k]? with
    | none => none
    | some (lo, hi, (op, x, y)) =>
      (match (if op = 10 ∧ x.1 ≤ 1 ∧ y.1 ≤ 1 then (match znw S x y false with
          | some _ => some (zfv e x (zfv e y F c).1 (zfv e y F c).2)
          | none => none) else if op = 11 ∧ x.1 ≤ 1 ∧ y.1 ≤ 1 then (match znw S x y true with
          | some _ => some (zfv e x (zfv (-e) y F c).1 (zfv (-e) y F c).2)
          | none => none) else if op = 12 then zubm S (if y.1 = 0 then x else y) (if y.1 = 0 then y else x) e F c else none) with
        | some q => zubf t S f q.1 G q.2
        | none => (match (match t with
          | some i => zft (if i.2 = true then F ++ G else []) k (decide (0 < e)) i.1 S S
          | none => none) with
          | some (z, d) => zubf t S f (zfv e z F (c + e * d)).1 G (zfv e z F (c + e * d)).2
          | none => zubf t S f F (zfi e k G) c))
theorem zubf_g {ρ : List Int} {S : zA_S} {t : Option (Nat × Bool)} (hS : zg_S ρ S) : ∀ (f : Nat) (F G : zF_) (c u : Int), zubf t S f F G c = some u → zfs ρ F + c + zfs ρ G ≤ u
  | n, [], G, c, u, h => by
    have e : zubi S G c = some u := by
      cases n
      · exact h
      · exact h
    have := zubi_g hS e
    show 0 + c + zfs ρ G ≤ u
    omega
  | 0, _ :: _, _, _, _, h => by cases h
  | f + 1, (e, k) :: F, G, c, u, h => by
    unfold zubf at h
    show e * ρ.getD k 0 + zfs ρ F + c + zfs ρ G ≤ u
    split at h
    · next he =>
      have := zubf_g hS f F G c u h
      rw [he]
      omega
    · next he =>
      split at h
      · cases h
      · next lo hi op x y hk =>
        obtain ⟨n, en, b1, b2, b3⟩ := zL2.getR hS hk
        have b1 : lo ≤ n := b1
        have b2 : n ≤ hi := b2
        have eg : ρ.getD k 0 = n := by rw [List.getD_eq_getElem?_getD, en]; rfl
        rw [eg]
        split at h
        · next q hq =>
          split at hq
          · next h10 =>
            split at hq
            · next pq hpq =>
              cases hq
              rcases b3 with b3 | ⟨a1, a2, w1, w2, w3⟩
              · have b3 : op = 0 := b3
                omega
              · have w3 : n = zb_c op a1 a2 := w3
                rw [h10.1] at w3
                have w1 : zE ρ x a1 := w1
                have w2 : zE ρ y a2 := w2
                obtain ⟨v1, -⟩ := znw_add hS hpq w1 w2
                have r1 := zubf_g hS f _ _ _ u h
                rw [zfv_g (by omega) w1, zfv_g (by omega) w2] at r1
                rw [w3, v1, Int.mul_add]
                omega
            · cases hq
          · split at hq
            · next h11 =>
              split at hq
              · next pq hpq =>
                cases hq
                rcases b3 with b3 | ⟨a1, a2, w1, w2, w3⟩
                · have b3 : op = 0 := b3
                  omega
                · have w3 : n = zb_c op a1 a2 := w3
                  rw [h11.1] at w3
                  have w1 : zE ρ x a1 := w1
                  have w2 : zE ρ y a2 := w2
                  obtain ⟨v1, -⟩ := znw_sub hS hpq w1 w2
                  have r1 := zubf_g hS f _ _ _ u h
                  rw [zfv_g (by omega) w1, zfv_g (by omega) w2, Int.neg_mul] at r1
                  rw [w3, v1, Int.mul_sub]
                  omega
              · cases hq
            · split at hq
              · next h12 =>
                rw [h12] at b3
                have hd : zg_D ρ n (12, if y.1 = 0 then x else y, if y.1 = 0 then y else x) := by
                  split
                  · exact b3
                  · exact b3.comm12
                have r1 := zubf_g hS f _ _ _ u h
                rw [zubm_g hS hd hq] at r1
                omega
              · cases hq
        · split at h
          · next z d hz =>
            have hz : ∃ F' i, zft F' k (decide (0 < e)) i S S = some (z, d) := by
              split at hz
              · exact ⟨_, _, hz⟩
              · cases hz
            obtain ⟨F', i, hz⟩ := hz
            obtain ⟨m, m0, m1, m2⟩ := zft_g hS en hS hz
            have r1 := zubf_g hS f _ _ _ u h
            rw [zfv_g m0 m1] at r1
            rcases Int.lt_or_gt_of_ne he with h0 | h0
            · rw [decide_eq_false (by omega), if_neg (by decide)] at m2
              have := Int.mul_le_mul_of_nonpos_left (a := e) (b := n) (c := m + d) (by omega) m2
              rw [Int.mul_add] at this
              omega
            · rw [decide_eq_true (by omega), if_pos rfl] at m2
              have := Int.mul_le_mul_of_nonneg_left m2 (by omega : 0 ≤ e)
              rw [Int.mul_add] at this
              omega
          · have r1 := zubf_g hS f F _ _ u h
            rw [zfi_g, eg] at r1
            omega
def zmin (a b : Option Int) : Option Int := match a with
  | none => b
  | some u => (match b with
    | none => some u
    | some v => some (if u ≤ v then u else v))
theorem zmin_g {a b : Option Int} {n u : Int} (ha : ∀ v, a = some v → n ≤ v) (hb : ∀ v, b = some v → n ≤ v) (h : zmin a b = some u) : n ≤ u := by
  unfold zmin at h
  split at h
  · exact hb u h
  · next v =>
    have r1 := ha v rfl
    split at h
    · cases h
      exact r1
    · next w =>
      have r2 := hb w rfl
      cases h
      split <;> omega
/-- an upper bound: the best of five -/
def zub (S : zA_S) (f : Nat) (F : zF_) (c : Int) : Option Int := zmin (zubf none S f F [] c) (zmin (zmin (zubf (some (0, true)) S f F [] c) (zubf (some (1, true)) S f F [] c)) (zmin (zubf (some (0, false)) S f F [] c) (zubf (some (1, false)) S f F [] c)))
theorem zub_g {ρ : List Int} {S : zA_S} (hS : zg_S ρ S) (f : Nat) (F : zF_) (c u : Int) (h : zub S f F c = some u) : zfs ρ F + c ≤ u :=
  have k : ∀ (t : Option (Nat × Bool)) (v : Int), zubf t S f F [] c = some v → zfs ρ F + c ≤ v := fun t v h => by
    have r := zubf_g hS f F [] c v h
    have e0 : zfs ρ [] = 0 := rfl
    omega
  zmin_g (k _) (fun v h => zmin_g (fun v h => zmin_g (k _) (k _) h) (fun v h => zmin_g (k _) (k _) h) h) h
/-- a lower bound -/
def zlb (S : zA_S) (a : zA_V) : Int := match zr S a with
  | some p => p.1
  | none => -9223372036854775808
theorem zlb_g {ρ : List Int} {S : zA_S} {a : zA_V} {n c : Int} (hS : zg_S ρ S) (h : zE ρ a n) (hc : zlb S a ≥ c) (h0 : -9223372036854775808 < c := by decide) : c ≤ n := by
  unfold zlb at hc
  split at hc
  · next p hp =>
    have := zr_in hS h hp
    omega
  · omega
/-- a + b ≤ n -/
def zle2 (S : zA_S) (a b : zA_V) (n : Nat) : Bool := decide (a.1 ≤ 1 ∧ b.1 ≤ 1) && (match zub S 16 (zfv 1 a (zfv 1 b [] 0).1 (zfv 1 b [] 0).2).1 (zfv 1 a (zfv 1 b [] 0).1 (zfv 1 b [] 0).2).2 with
  | some u => decide (u ≤ (n : Int))
  | none => false)
theorem zle2_g {ρ : List Int} {S : zA_S} {a b : zA_V} {x y : Int} {n : Nat} (hS : zg_S ρ S) (h1 : zE ρ a x) (h2 : zE ρ b y) (h : zle2 S a b n = true) : x + y ≤ n := by
  unfold zle2 at h
  rw [Bool.and_eq_true] at h
  obtain ⟨h3, h4⟩ := h
  have h3 := of_decide_eq_true h3
  split at h4
  · next u hu =>
    have r := zub_g hS _ _ _ _ hu
    rw [zfv_g (by omega) h1, zfv_g (by omega) h2] at r
    have h4 := of_decide_eq_true h4
    have e0 : zfs ρ [] = 0 := rfl
    omega
  · cases h4
/-- the bounds of a place: by the form where the plain ones are too wide -/
def zrx (S : zA_S) (j : zA_V) : Option zI2 := match zr S j with
  | none => none
  | some q => if j.1 = 1 ∧ ¬ (0 ≤ q.1 ∧ q.2 < 360) then some ((match zub S 24 [((-1 : Int), j.2.toNat)] 0 with
      | some u => max q.1 (-u)
      | none => q.1), (match zub S 24 [((1 : Int), j.2.toNat)] 0 with
      | some u => min q.2 u
      | none => q.2)) else some q
theorem zrx_in {ρ : List Int} {S : zA_S} {j : zA_V} {x : Int} {q : zI2} (hS : zg_S ρ S) (h : zE ρ j x) (hq : zrx S j = some q) : q.1 ≤ x ∧ x ≤ q.2 := by
  unfold zrx at hq
  split at hq
  · cases hq
  · next p hp =>
    have b := zr_in hS h hp
    split at hq
    · next hc =>
      cases hq
      have e : ρ[j.2.toNat]? = some x := by
        rcases h with ⟨h | h, -⟩ | ⟨-, h⟩
        · omega
        · omega
        · exact h
      have eg : ρ.getD j.2.toNat 0 = x := by rw [List.getD_eq_getElem?_getD, e]; rfl
      have r1 : (match zub S 24 [((-1 : Int), j.2.toNat)] 0 with
          | some u => max p.1 (-u)
          | none => p.1) ≤ x := by
        split
        · next u hu =>
          have r := zub_g hS _ _ _ _ hu
          have r : -1 * ρ.getD j.2.toNat 0 + 0 + 0 ≤ u := r
          rw [eg] at r
          exact Int.max_le.mpr ⟨b.1, by omega⟩
        · exact b.1
      have r2 : x ≤ (match zub S 24 [((1 : Int), j.2.toNat)] 0 with
          | some u => min p.2 u
          | none => p.2) := by
        split
        · next u hu =>
          have r := zub_g hS _ _ _ _ hu
          have r : 1 * ρ.getD j.2.toNat 0 + 0 + 0 ≤ u := r
          rw [eg] at r
          exact Int.le_min.mpr ⟨b.2, by omega⟩
        · exact b.2
      exact ⟨r1, r2⟩
    · cases hq
      exact b
end
section
/-! PART 10: fields and arrays of what is known. -/
theorem zg_C0 {φ : List z_C} {ρ : List Int} {a : zA_C} {c : z_C} (h : a.1 = 0) (g : zg_C φ ρ a c) : ∃ fs, c = .inr (a.2.1, fs) ∧ zL2 (zg_V ρ) a.2.2.2.1 fs ∧ zg_Z φ a.2.2.2.2 fs := by
  rcases g with ⟨h1, -⟩ | ⟨-, g⟩ | ⟨h1, -⟩ | ⟨h1, -⟩ | ⟨h1, -⟩
  · omega
  · exact g
  all_goals omega
theorem zg_CI {φ : List z_C} {ρ : List Int} {a : zA_C} {c : z_C} (h : a.1 = 1) (h2 : a.2.1 = 0) (g : zg_C φ ρ a c) : ∃ f : Nat → Int32, c = .inl (0, a.2.2.1, z_I f) ∧ (∀ j, j < a.2.2.1 → zg_V ρ ((a.2.2.2.2.lookup j).getD (a.2.2.2.1.headD (3, 0))) (.int (f j))) ∧ zg_Y ρ a.2.2.1 a.2.2.2.2 (fun j => .int (f j)) := by
  rcases g with ⟨h1, -⟩ | ⟨h1, -⟩ | ⟨-, -, g⟩ | ⟨-, h1, -⟩ | ⟨-, h1, -⟩
  · omega
  · omega
  · exact g
  all_goals omega
theorem zg_CJ {φ : List z_C} {ρ : List Int} {a : zA_C} {c : z_C} (h : a.1 = 1) (h2 : a.2.1 = 1) (g : zg_C φ ρ a c) : ∃ f : Nat → Int64, c = .inl (1, a.2.2.1, z_J f) ∧ (∀ j, j < a.2.2.1 → zg_V ρ ((a.2.2.2.2.lookup j).getD (a.2.2.2.1.headD (3, 0))) (.long (f j))) ∧ zg_Y ρ a.2.2.1 a.2.2.2.2 (fun j => .long (f j)) := by
  rcases g with ⟨h1, -⟩ | ⟨h1, -⟩ | ⟨-, h1, -⟩ | ⟨-, -, g⟩ | ⟨-, h1, -⟩
  · omega
  · omega
  · omega
  · exact g
  · omega
theorem zg_CO {φ : List z_C} {ρ : List Int} {a : zA_C} {c : z_C} (h : a.1 = 1) (h2 : a.2.1 = 2) (g : zg_C φ ρ a c) : ∃ f : Nat → Option Nat, c = .inl (2, a.2.2.1, z_O f) ∧ (∀ j, j < a.2.2.1 → zg_V ρ ((a.2.2.2.2.lookup j).getD (a.2.2.2.1.headD (3, 0))) (z_rf (f j))) ∧ zg_Y ρ a.2.2.1 a.2.2.2.2 (fun j => z_rf (f j)) := by
  rcases g with ⟨h1, -⟩ | ⟨h1, -⟩ | ⟨-, h1, -⟩ | ⟨-, h1, -⟩ | ⟨-, -, g⟩
  · omega
  · omega
  · omega
  · omega
  · exact g
section ZO
variable {l : Launch} {d : Nat} {y : zx_Y} {X : zx_X} {mc ms XL : Nat} {φ : List z_C} {Q : Option Value → List z_C → Prop}
def zx_getW (nx : Nat) (t : zA_T) (i k : Nat) (c : zA_C) (r : List zA_V) (p : zA_S × zA_V) : Nat × zA_T := (nx, (p.1, t.2.1.set i (0, c.2.1, 0, c.2.2.2.1.set k p.2, c.2.2.2.2), t.2.2.1, p.2 :: r, t.2.2.2.2))
def zx_get (k ci nx : Nat) (t : zA_T) : zA_R := match t.2.2.2.1 with
  | a :: r => if a.1 = 2 ∧ 3 ≤ a.2.toNat then (match t.2.1[a.2.toNat - 3]? with
      | some c => if c.1 = 0 ∧ c.2.1 = ci then (match c.2.2.2.1[k]? with
          | some v => if v.1 < 6 then some [(nx, zt_st t (v :: r))] else some ((zwd t.1 v).map (zx_getW nx t (a.2.toNat - 3) k c r))
          | none => none) else none
      | none => none) else none
  | [] => none
theorem zL2.setL' {α β : Type} {R : α → β → Prop} {a : α} {b : β} (hab : R a b) : ∀ {as : List α} {bs : List β} (i : Nat), zL2 R as bs → bs[i]? = some b → zL2 R (as.set i a) bs
  | [], [], _, _, _ => trivial
  | _ :: _, _ :: _, 0, h, hb => by cases hb; exact ⟨hab, h.2⟩
  | _ :: _, _ :: _, i + 1, h, hb => ⟨h.1, zL2.setL' hab i h.2 hb⟩
  | [], _ :: _, _, h, _ => h.elim
  | _ :: _, [], _, h, _ => h.elim
theorem z_back3 {n : Nat} (h : 3 ≤ n) : Value.ref n = Value.ref (n - 3 + 3) := by rw [Nat.sub_add_cancel h]
theorem zo_get {k ci pc nx : Nat} {t : zA_T} (hs : ∀ {lv st ph cc ns} {i : Nat} {fs : List Value} {v : Value}, ph[i]? = some (.inr (ci, fs)) → fs[k]? = some v → ZW l d y X mc ms Q nx lv (v :: st) ph cc ns → ZW l d y X mc ms Q pc lv (.ref (i + 3) :: st) ph cc ns) : zSd l d y X mc ms XL φ Q pc t (zx_get k ci nx t) := by
  obtain ⟨S, H, L, s0, cc, ns⟩ := t
  intro ts hts ρ ph lv st g k0
  obtain ⟨g1, g2, g3, g4, g5⟩ := g
  unfold zx_get at hts
  split at hts
  · next a r hst =>
    have hst : s0 = a :: r := hst
    subst hst
    obtain ⟨va, st1, rfl, ga, gr⟩ := zL2.cons1 g4
    split at hts
    · next h2 =>
      have ea := zg_ref h2.1 ga
      subst ea
      rw [z_back3 h2.2]
      split at hts
      · next c hc =>
        obtain ⟨c', hc', gc⟩ := zL2.get g2 hc
        split at hts
        · next h3 =>
          obtain ⟨fs, rfl, gf, gz⟩ := zg_C0 h3.1 gc
          split at hts
          · next v hv =>
            obtain ⟨v', hv', gv⟩ := zL2.get gf hv
            rw [h3.2] at hc'
            split at hts
            · cases hts
              exact hs hc' hv' (k0 _ (List.mem_singleton.mpr rfl) ρ ph lv _ (zLE.refl ρ) ⟨g1, g2, g3, ⟨gv, gr⟩, g5⟩)
            · cases hts
              obtain ⟨p, hp, ρ', hle, gS, gV⟩ := zwd_g g1 gv
              refine hs hc' hv' (k0 _ (List.mem_map.mpr ⟨p, hp, rfl⟩) ρ' ph lv _ hle ⟨gS, zL2.setL' ?_ _ (zL2.mono (fun _ _ => zg_C.mono hle) g2) hc', zL2.mono (fun _ _ q => ⟨q.1, q.2.mono hle⟩) g3, ⟨gV, zL2.mono (fun _ _ => zg_V.mono hle) gr⟩, g5.mono hle⟩)
              refine Or.inr (Or.inl ⟨rfl, fs, by rw [← h3.2], zL2.setL' gV _ (zL2.mono (fun _ _ => zg_V.mono hle) gf) hv', gz⟩)
          · cases hts
        · cases hts
      · cases hts
    · cases hts
  · cases hts
/-- what may be put into a field: an int (0), a boolean (1), a reference (2) -/
def zx_fit (tc : Nat) (S : zA_S) (v : zA_V) : Bool := if tc = 0 then zIs v else if tc = 1 then (zIs v && (match zr S v with | some q => decide (0 ≤ q.1 ∧ q.2 ≤ 1) | none => false)) else v.1 == 2
theorem zx_fit_g {tc : Nat} {S : zA_S} {v : zA_V} {ρ : List Int} {u : Value} (hS : zg_S ρ S) (g : zg_V ρ v u) (h : zx_fit tc S v = true) : (tc = 0 → ∃ x, u = .int x) ∧ (tc = 1 → u = .int 0 ∨ u = .int 1) ∧ (tc ≠ 0 → tc ≠ 1 → ∃ a, u = .ref a) := by
  unfold zx_fit at h
  refine ⟨fun e => ?_, fun e => ?_, fun e1 e2 => ?_⟩
  · rw [if_pos e] at h
    obtain ⟨x, hx, -⟩ := zg_int h g
    exact ⟨x, hx⟩
  · rw [if_neg (by omega), if_pos e, Bool.and_eq_true] at h
    obtain ⟨x, hx, he⟩ := zg_int h.1 g
    have h2 := h.2
    split at h2
    · next q hq =>
      have := zr_in hS he hq
      have h3 := of_decide_eq_true h2
      rcases (by omega : x.toInt = 0 ∨ x.toInt = 1) with e1 | e1
      · exact Or.inl (by rw [hx, Int32.toInt_inj.mp (show x.toInt = (0 : Int32).toInt from e1)])
      · exact Or.inr (by rw [hx, Int32.toInt_inj.mp (show x.toInt = (1 : Int32).toInt from e1)])
    · cases h2
  · rw [if_neg e1, if_neg e2] at h
    exact ⟨_, zg_ref (by simpa using h) g⟩
def zx_put (k ci tc nx : Nat) (t : zA_T) : zA_R := match t.2.2.2.1 with
  | v0 :: a :: r => if a.1 = 2 ∧ 3 ≤ a.2.toNat then (match t.2.1[a.2.toNat - 3]? with
      | some c => if c.1 = 0 ∧ c.2.1 = ci ∧ k < c.2.2.2.1.length ∧ zx_fit tc t.1 v0 = true then
          some [(nx, zt_H t (t.2.1.set (a.2.toNat - 3) (0, ci, 0, c.2.2.2.1.set k (zn t.1 v0), c.2.2.2.2.filter (fun q => !(Nat.beq q.1 k)))) r)] else none
      | none => none) else none
  | _ => none
theorem zo_put {k ci tc pc nx : Nat} {t : zA_T} (hs : ∀ {lv st ph cc ns} {i : Nat} {fs : List Value} {v : Value}, ph[i]? = some (.inr (ci, fs)) → k < fs.length → (tc = 0 → ∃ x, v = .int x) → (tc = 1 → v = .int 0 ∨ v = .int 1) → (tc ≠ 0 → tc ≠ 1 → ∃ a, v = .ref a) → ZW l d y X mc ms Q nx lv st (ph.set i (.inr (ci, fs.set k v))) cc ns → ZW l d y X mc ms Q pc lv (v :: .ref (i + 3) :: st) ph cc ns) : zSd l d y X mc ms XL φ Q pc t (zx_put k ci tc nx t) := by
  obtain ⟨S, H, L, s0, cc, ns⟩ := t
  intro ts hts ρ ph lv st g k0
  obtain ⟨g1, g2, g3, g4, g5⟩ := g
  unfold zx_put at hts
  split at hts
  · next v0 a r hst =>
    have hst : s0 = v0 :: a :: r := hst
    subst hst
    obtain ⟨vv, st0, rfl, gv, gr0⟩ := zL2.cons1 g4
    obtain ⟨va, st1, rfl, ga, gr⟩ := zL2.cons1 gr0
    split at hts
    · next h2 =>
      have ea := zg_ref h2.1 ga
      subst ea
      rw [z_back3 h2.2]
      split at hts
      · next c hc =>
        obtain ⟨c', hc', gc⟩ := zL2.get g2 hc
        split at hts
        · next h3 =>
          obtain ⟨fs, rfl, gf, gz⟩ := zg_C0 h3.1 gc
          cases hts
          rw [h3.2.1] at hc'
          obtain ⟨f1, f2, f3⟩ := zx_fit_g g1 gv h3.2.2.2
          refine hs hc' (by rw [← zL2.len gf]; exact h3.2.2.1) f1 f2 f3 (k0 _ (List.mem_singleton.mpr rfl) ρ _ lv _ (zLE.refl ρ) ⟨g1, zL2.set ?_ _ g2, g3, gr, g5⟩)
          refine Or.inr (Or.inl ⟨rfl, _, rfl, zL2.set (zn_g g1 gv) _ gf, fun q hq => ?_⟩)
          obtain ⟨m1, m2⟩ := List.mem_filter.mp hq
          obtain ⟨z1, n, gs, z2, z3⟩ := gz q m1
          refine ⟨z1, n, gs, z2, ?_⟩
          have hne : k ≠ q.1 := fun e => by
            rw [e] at m2
            simp at m2
          rw [List.getElem?_set_ne hne]
          exact z3
        · cases hts
      · cases hts
    · cases hts
  · cases hts
/-- one place of an array that is known -/
def zx_el (c : zA_C) (j : Nat) : zA_V := (c.2.2.2.2.lookup j).getD (c.2.2.2.1.headD (3, 0))
def zx_tbN (i : Nat) : Nat := if i = 0 then 32 else 8
def zx_tbG (i : Nat) : List Int32 := if i = 0 then zs_own else zs_abv
def zx_aldW (nx : Nat) (t : zA_T) (r : List zA_V) (v : zA_V) : zA_R := if v.1 < 6 then some [(nx, zt_st t (v :: r))] else some ((zwd t.1 v).map (fun p => (nx, zt_Sst t p.1 (p.2 :: r))))
/-- nothing but places that names tell -/
def znc (ov : List (Nat × zA_V)) : Bool := ov.all (fun q => Nat.ble 1000000 q.1)
theorem znc_look {ov : List (Nat × zA_V)} (h : znc ov = true) {j : Nat} (hj : j < 1000000) : ov.lookup j = none := by
  induction ov with
  | nil => rfl
  | cons q r ih =>
    obtain ⟨k, v⟩ := q
    have h2 : Nat.ble 1000000 k = true ∧ znc r = true := by
      unfold znc at h ⊢
      rw [List.all_cons, Bool.and_eq_true] at h
      exact h
    have h3 := Nat.le_of_ble_eq_true h2.1
    rw [List.lookup_cons]
    have hk : (j == k) = false := by
      rw [beq_eq_false_iff_ne]
      omega
    rw [hk]
    exact ih h2.2
/-- no place of these bounds that is told by a number -/
def zncr (q : zI2) (ov : List (Nat × zA_V)) : Bool := ov.all (fun e => Nat.ble 1000000 e.1 || (decide ((e.1 : Int) < q.1) || decide (q.2 < (e.1 : Int))))
theorem zncr_look {q : zI2} {ov : List (Nat × zA_V)} (h : zncr q ov = true) {j : Nat} (hj : j < 1000000) (h1 : q.1 ≤ (j : Int)) (h2 : (j : Int) ≤ q.2) : ov.lookup j = none := by
  induction ov with
  | nil => rfl
  | cons e r ih =>
    obtain ⟨k, v⟩ := e
    have h' : (Nat.ble 1000000 k || (decide ((k : Int) < q.1) || decide (q.2 < (k : Int)))) = true ∧ zncr q r = true := by
      unfold zncr at h ⊢
      rw [List.all_cons, Bool.and_eq_true] at h
      exact h
    rw [List.lookup_cons]
    have hk : (j == k) = false := by
      rw [beq_eq_false_iff_ne]
      have h3 := h'.1
      rw [Bool.or_eq_true, Bool.or_eq_true] at h3
      rcases h3 with h3 | h3 | h3
      · have := Nat.le_of_ble_eq_true h3
        omega
      · have := of_decide_eq_true h3
        omega
      · have := of_decide_eq_true h3
        omega
    rw [hk]
    exact ih h'.2
def zcst (q : Nat × zA_V) : Bool := !(Nat.ble 1000000 q.1)
theorem zcst_look (l : List (Nat × zA_V)) {i : Nat} (hi : i < 1000000) : (l.filter zcst).lookup i = l.lookup i := by
  induction l with
  | nil => rfl
  | cons a r ih =>
    obtain ⟨k, v⟩ := a
    rw [List.filter_cons]
    by_cases hz : zcst (k, v) = true
    · rw [if_pos hz, List.lookup_cons, List.lookup_cons, ih]
    · rw [if_neg hz, ih, List.lookup_cons]
      have hk : (i == k) = false := by
        rw [beq_eq_false_iff_ne]
        intro e
        subst e
        apply hz
        unfold zcst
        cases hb : Nat.ble 1000000 i with
        | false => rfl
        | true => have := Nat.le_of_ble_eq_true hb; omega
      rw [hk]
/-- what a place that the name k tells holds, named, and kept in mind -/
def zx_aldK (nx : Nat) (t : zA_T) (r : List zA_V) (i k : Nat) (c : zA_C) (v : zA_V) : zA_R := if v.1 < 6 then some [(nx, zt_st t (v :: r))] else
  some ((zwd t.1 v).map (fun p => (nx, (p.1, t.2.1.set i (1, c.2.1, c.2.2.1, c.2.2.2.1, (1000000 + k, p.2) :: c.2.2.2.2), t.2.2.1, p.2 :: r, t.2.2.2.2))))
theorem z_look_in {l : List (Nat × zA_V)} {j : Nat} {a : zA_V} (h : l.lookup j = some a) : (j, a) ∈ l := by
  induction l with
  | nil => cases h
  | cons q r ih =>
    obtain ⟨k, v⟩ := q
    rw [List.lookup_cons] at h
    cases hjk : j == k with
    | true =>
      rw [hjk] at h
      cases h
      rw [eq_of_beq hjk]
      exact List.mem_cons_self
    | false =>
      rw [hjk] at h
      exact List.mem_cons_of_mem _ (ih h)
/-- a place told by a name stays told by it where the array is wide -/
def zjn (S : zA_S) (H : zA_H) (a j0 : zA_V) : zA_V := if j0.1 = 1 ∧ 3 ≤ a.2.toNat then (match H[a.2.toNat - 3]? with
  | none => zn S j0
  | some c => if c.1 = 1 ∧ 6 ≤ (c.2.2.2.1.headD (3, 0)).1 ∧ c.2.2.2.2.all (fun q => Nat.ble 1000000 q.1) = true then j0 else zn S j0) else zn S j0
theorem zjn_g {ρ : List Int} {S : zA_S} {H : zA_H} {a j0 : zA_V} {v : Value} (hS : zg_S ρ S) (g : zg_V ρ j0 v) : zg_V ρ (zjn S H a j0) v := by
  unfold zjn
  split
  · split
    · exact zn_g hS g
    · split
      · exact g
      · exact zn_g hS g
  · exact zn_g hS g
def zx_ald (XL ty nx pc : Nat) (t : zA_T) : zA_R := match t.2.2.2.1 with
  | j0 :: a :: r => let j := zjn t.1 t.2.1 a j0
    if a.1 = 2 ∧ zIs j = true then
      if 3 ≤ a.2.toNat then (match t.2.1[a.2.toNat - 3]?, zrx t.1 j with
        | some c, some q => if c.1 = 1 ∧ c.2.1 = ty ∧ 0 ≤ q.1 ∧ q.2 < c.2.2.1 then
            (if j.1 = 0 then zx_aldW nx t r (zx_el c j.2.toNat) else if zncr q c.2.2.2.2 = true ∧ c.2.2.1 ≤ 1000000 then (match c.2.2.2.2.lookup (1000000 + j.2.toNat) with
              | some v => zx_aldW nx t r v
              | none => zx_aldK nx t r (a.2.toNat - 3) j.2.toNat c (c.2.2.2.1.headD (3, 0)))
              else zx_again pc t (zSp t.1 j)) else none
        | _, _ => none)
      else if ty = 0 then
        if a.2.toNat = 2 then (if j.1 = 0 ∧ 0 ≤ j.2 ∧ j.2 < XL ∧ XL < 1000 then some [(nx, zt_st t ((1, j.2) :: r))]
          else if XL = 3000000 ∧ j.1 = 1 then (if j.2 = 6 then some [(nx, zt_st t ((1, 0) :: r))] else (match t.1[j.2.toNat]? with
            | some q => if q.2.2.1 = 10 ∧ q.2.2.2.1 = (1, 6) ∧ q.2.2.2.2.1 = 0 ∧ 1 ≤ q.2.2.2.2.2 ∧ q.2.2.2.2.2 ≤ 5 then some [(nx, zt_st t ((1, q.2.2.2.2.2) :: r))] else none
            | none => none)) else none)
        else if j.1 = 0 then (if 0 ≤ j.2 ∧ j.2 < zx_tbN a.2.toNat then some [(nx, zt_st t ((0, ((zx_tbG a.2.toNat).getD j.2.toNat 0).toInt) :: r))] else none)
        else zx_again pc t (zSp t.1 j)
      else none
    else none
  | _ => none
theorem zo_ald {ty pc nx : Nat} {t : zA_T} (hty : ty < 3)
    (hI : ∀ {lv st ph cc ns} {i n : Nat} {f : Nat → Int32} {j : Int32}, ty = 0 → ph[i]? = some (.inl (0, n, z_I f)) → vp_in j n → ZW l d y X mc ms Q nx lv (.int (f j.toNatClampNeg) :: st) ph cc ns → ZW l d y X mc ms Q pc lv (.int j :: .ref (i + 3) :: st) ph cc ns)
    (hJ : ∀ {lv st ph cc ns} {i n : Nat} {f : Nat → Int64} {j : Int32}, ty = 1 → ph[i]? = some (.inl (1, n, z_J f)) → vp_in j n → ZW l d y X mc ms Q nx lv (.long (f j.toNatClampNeg) :: st) ph cc ns → ZW l d y X mc ms Q pc lv (.int j :: .ref (i + 3) :: st) ph cc ns)
    (hO : ∀ {lv st ph cc ns} {i n : Nat} {f : Nat → Option Nat} {j : Int32}, ty = 2 → ph[i]? = some (.inl (2, n, z_O f)) → vp_in j n → ZW l d y X mc ms Q nx lv (z_rf (f j.toNatClampNeg) :: st) ph cc ns → ZW l d y X mc ms Q pc lv (.int j :: .ref (i + 3) :: st) ph cc ns)
    (hT : ∀ {lv st ph cc ns} {i n : Nat} {g : List Int32} {j : Int32}, ty = 0 → (i = 0 ∧ n = 32 ∧ g = zs_own ∨ i = 1 ∧ n = 8 ∧ g = zs_abv) → vp_in j n → ZW l d y X mc ms Q nx lv (.int (g.getD j.toNatClampNeg 0) :: st) ph cc ns → ZW l d y X mc ms Q pc lv (.int j :: .ref i :: st) ph cc ns)
    (hX : ∀ {lv st ph cc ns} {j : Int32}, ty = 0 → vp_in j X.1 → ZW l d y X mc ms Q nx lv (.int (X.2 j.toNatClampNeg) :: st) ph cc ns → ZW l d y X mc ms Q pc lv (.int j :: .ref 2 :: st) ph cc ns) :
    zSd l d y X mc ms XL φ Q pc t (zx_ald XL ty nx pc t) := by
  obtain ⟨S, H, L, s0, cc, ns⟩ := t
  intro ts hts ρ ph lv st g k0
  have gT := g
  obtain ⟨g1, g2, g3, g4, g5⟩ := g
  unfold zx_ald at hts
  split at hts
  · next j0 a r hst =>
    have hst : s0 = j0 :: a :: r := hst
    subst hst
    obtain ⟨vj, st0, rfl, gj0, gr0⟩ := zL2.cons1 g4
    obtain ⟨va, st1, rfl, ga, gr⟩ := zL2.cons1 gr0
    have gj := zjn_g (H := H) (a := a) g1 gj0
    dsimp only at hts
    generalize hej : zjn S H a j0 = j at *
    split at hts
    · next hI0 =>
      have ea := zg_ref hI0.1 ga
      subst ea
      obtain ⟨x, rfl, ex⟩ := zg_int hI0.2 gj
      split at hts
      · next h3 =>
        rw [z_back3 h3] at *
        split at hts
        · next c q hc hq =>
          obtain ⟨c', hc', gc⟩ := zL2.get g2 hc
          have bq := zrx_in g1 ex hq
          split at hts
          · next h4 =>
            obtain ⟨c1, c2, c3, c4⟩ := h4
            have hin : vp_in x c.2.2.1 := vp_in_iff.mpr ⟨by omega, by omega⟩
            have hjl : x.toNatClampNeg < c.2.2.1 := z_in_lt hin
            have fin : ∀ (v : zA_V), (∀ u, zg_V ρ (zx_el c x.toNatClampNeg) u → zg_V ρ v u) → zx_aldW nx (S, H, L, j0 :: a :: r, cc, ns) r v = some ts → ZW l d y X mc ms Q pc lv (.int x :: .ref (a.2.toNat - 3 + 3) :: st1) ph cc ns := by
              intro v hv e
              have go : ∀ u, zg_V ρ v u → ZW l d y X mc ms Q nx lv (u :: st1) ph cc ns := by
                intro u gu
                unfold zx_aldW at e
                split at e
                · cases e
                  exact k0 _ (List.mem_singleton.mpr rfl) ρ ph lv _ (zLE.refl ρ) ⟨g1, g2, g3, ⟨gu, gr⟩, g5⟩
                · cases e
                  obtain ⟨p, hp, ρ', hle, gS, gV⟩ := zwd_g g1 gu
                  exact k0 _ (List.mem_map.mpr ⟨p, hp, rfl⟩) ρ' ph lv _ hle ⟨gS, zL2.mono (fun _ _ => zg_C.mono hle) g2, zL2.mono (fun _ _ q => ⟨q.1, q.2.mono hle⟩) g3, ⟨gV, zL2.mono (fun _ _ => zg_V.mono hle) gr⟩, g5.mono hle⟩
              rcases (by omega : ty = 0 ∨ ty = 1 ∨ ty = 2) with e | e | e
              · obtain ⟨f, rfl, gf, -⟩ := zg_CI c1 (c2.trans e) gc
                exact hI e hc' hin (go _ (hv _ (gf _ hjl)))
              · obtain ⟨f, rfl, gf, -⟩ := zg_CJ c1 (c2.trans e) gc
                exact hJ e hc' hin (go _ (hv _ (gf _ hjl)))
              · obtain ⟨f, rfl, gf, -⟩ := zg_CO c1 (c2.trans e) gc
                exact hO e hc' hin (go _ (hv _ (gf _ hjl)))
            split at hts
            · next hj0 =>
              have hx : x.toInt = j.2 := by rcases ex with ⟨-, e⟩ | ⟨e, -⟩ <;> omega
              have hxn : x.toNatClampNeg = j.2.toNat := by show x.toInt.toNat = _; rw [hx]
              exact fin _ (fun u gu => by rw [hxn] at gu; exact gu) hts
            · split at hts
              · next hov =>
                obtain ⟨hnc, hlen⟩ := hov
                have hbase : ∀ u, zg_V ρ (zx_el c x.toNatClampNeg) u → zg_V ρ (c.2.2.2.1.headD (3, 0)) u := by
                  intro u gu
                  unfold zx_el at gu
                  have hxn : (x.toNatClampNeg : Int) = x.toInt := by show ((x.toInt.toNat : Nat) : Int) = _; omega
                  rw [zncr_look hnc (by omega) (by omega) (by omega)] at gu
                  exact gu
                have ek : ρ[j.2.toNat]? = some x.toInt := by
                  rcases ex with ⟨h | h, e⟩ | ⟨-, e⟩
                  · next hj0 => exact absurd h hj0
                  · have := hI0.2
                    simp only [zIs, Bool.or_eq_true, beq_iff_eq] at this
                    omega
                  · exact e
                split at hts
                · next v hv =>
                  have hm := z_look_in hv
                  have go : ∀ {el : Nat → Value}, zg_Y ρ c.2.2.1 c.2.2.2.2 el → zg_V ρ v (el x.toNatClampNeg) := by
                    intro el gy
                    obtain ⟨m, h1, h2⟩ := gy _ hm (Nat.le_add_right _ _)
                    have h1 : ρ[1000000 + j.2.toNat - 1000000]? = some m := h1
                    rw [Nat.add_sub_cancel_left, ek] at h1
                    cases h1
                    exact h2 (by omega) (by omega)
                  have fin2 : ∀ u, zg_V ρ v u → ZW l d y X mc ms Q nx lv (u :: st1) ph cc ns := by
                    intro u gu
                    unfold zx_aldW at hts
                    split at hts
                    · cases hts
                      exact k0 _ (List.mem_singleton.mpr rfl) ρ ph lv _ (zLE.refl ρ) ⟨g1, g2, g3, ⟨gu, gr⟩, g5⟩
                    · cases hts
                      obtain ⟨p, hp, ρ', hle, gS, gV⟩ := zwd_g g1 gu
                      exact k0 _ (List.mem_map.mpr ⟨p, hp, rfl⟩) ρ' ph lv _ hle ⟨gS, zL2.mono (fun _ _ => zg_C.mono hle) g2, zL2.mono (fun _ _ q => ⟨q.1, q.2.mono hle⟩) g3, ⟨gV, zL2.mono (fun _ _ => zg_V.mono hle) gr⟩, g5.mono hle⟩
                  rcases (by omega : ty = 0 ∨ ty = 1 ∨ ty = 2) with e | e | e
                  · obtain ⟨f, rfl, -, gy⟩ := zg_CI c1 (c2.trans e) gc
                    exact hI e hc' hin (fin2 _ (go gy))
                  · obtain ⟨f, rfl, -, gy⟩ := zg_CJ c1 (c2.trans e) gc
                    exact hJ e hc' hin (fin2 _ (go gy))
                  · obtain ⟨f, rfl, -, gy⟩ := zg_CO c1 (c2.trans e) gc
                    exact hO e hc' hin (fin2 _ (go gy))
                · unfold zx_aldK at hts
                  split at hts
                  · next h6 => exact fin _ hbase (by unfold zx_aldW; rw [if_pos h6]; exact hts)
                  · cases hts
                    have go : ∀ {c0 : z_C} {el : Nat → Value}, ph[a.2.toNat - 3]? = some c0 → zg_V ρ (c.2.2.2.1.headD (3, 0)) (el x.toNatClampNeg) →
                        (∀ (ρ' : List Int) (p : zA_V), zLE ρ ρ' → zg_V ρ' p (el x.toNatClampNeg) → zg_C φ ρ' (1, c.2.1, c.2.2.1, c.2.2.2.1, (1000000 + j.2.toNat, p) :: c.2.2.2.2) c0) → ZW l d y X mc ms Q nx lv (el x.toNatClampNeg :: st1) ph cc ns := by
                      intro c0 el hc0 gu hcell
                      obtain ⟨p, hp, ρ', hle, gS, gV⟩ := zwd_g g1 gu
                      exact k0 _ (List.mem_map.mpr ⟨p, hp, rfl⟩) ρ' ph lv _ hle ⟨gS, zL2.setL' (hcell ρ' p.2 hle gV) _ (zL2.mono (fun _ _ => zg_C.mono hle) g2) hc0, zL2.mono (fun _ _ q => ⟨q.1, q.2.mono hle⟩) g3, ⟨gV, zL2.mono (fun _ _ => zg_V.mono hle) gr⟩, g5.mono hle⟩
                    have lk : ∀ (p : zA_V) (i : Nat), i < c.2.2.1 → ((1000000 + j.2.toNat, p) :: c.2.2.2.2).lookup i = c.2.2.2.2.lookup i := by
                      intro p i hi
                      rw [List.lookup_cons]
                      have : (i == 1000000 + j.2.toNat) = false := by
                        rw [beq_eq_false_iff_ne]
                        omega
                      rw [this]
                    have gY : ∀ {el : Nat → Value} (ρ' : List Int) (p : zA_V), zLE ρ ρ' → zg_V ρ' p (el x.toNatClampNeg) → zg_Y ρ c.2.2.1 c.2.2.2.2 el → zg_Y ρ' c.2.2.1 ((1000000 + j.2.toNat, p) :: c.2.2.2.2) el := by
                      intro el ρ' p hle gp gy q hq hk
                      rcases List.mem_cons.mp hq with rfl | hq
                      · refine ⟨x.toInt, ?_, fun _ _ => gp⟩
                        show ρ'[1000000 + j.2.toNat - 1000000]? = _
                        rw [Nat.add_sub_cancel_left]
                        exact hle _ _ ek
                      · exact (gy.mono hle) q hq hk
                    rcases (by omega : ty = 0 ∨ ty = 1 ∨ ty = 2) with e | e | e
                    · obtain ⟨f, rfl, gf, gy⟩ := zg_CI c1 (c2.trans e) gc
                      exact hI e hc' hin (go (el := fun j => .int (f j)) hc' (hbase _ (gf _ hjl)) (fun ρ' p hle gp => Or.inr (Or.inr (Or.inl ⟨rfl, c2.trans e, f, rfl, fun i hi => by rw [lk p i hi]; exact (gf i hi).mono hle, gY ρ' p hle gp gy⟩))))
                    · obtain ⟨f, rfl, gf, gy⟩ := zg_CJ c1 (c2.trans e) gc
                      exact hJ e hc' hin (go (el := fun j => .long (f j)) hc' (hbase _ (gf _ hjl)) (fun ρ' p hle gp => Or.inr (Or.inr (Or.inr (Or.inl ⟨rfl, c2.trans e, f, rfl, fun i hi => by rw [lk p i hi]; exact (gf i hi).mono hle, gY ρ' p hle gp gy⟩)))))
                    · obtain ⟨f, rfl, gf, gy⟩ := zg_CO c1 (c2.trans e) gc
                      exact hO e hc' hin (go (el := fun j => z_rf (f j)) hc' (hbase _ (gf _ hjl)) (fun ρ' p hle gp => Or.inr (Or.inr (Or.inr (Or.inr ⟨rfl, c2.trans e, f, rfl, fun i hi => by rw [lk p i hi]; exact (gf i hi).mono hle, gY ρ' p hle gp gy⟩)))))
              · obtain ⟨t', m, gt, e⟩ := zx_again_g hts rfl gT ex
                have := k0 _ m ρ ph lv _ (zLE.refl ρ) gt
                rw [e] at this
                exact this
          · cases hts
        · cases hts
      · next h3 =>
        split at hts
        · next hty0 =>
          split at hts
          · next h5 =>
            split at hts
            · next h6 =>
              cases hts
              have hx : x.toInt = j.2 := by rcases ex with ⟨-, e⟩ | ⟨e, -⟩ <;> omega
              have hxn : x.toNatClampNeg = j.2.toNat := by show x.toInt.toNat = _; rw [hx]
              rw [h5]
              refine hX hty0 (vp_in_iff.mpr ⟨by omega, by rw [(g5.1 h6.2.2.2).1]; omega⟩) (k0 _ (List.mem_singleton.mpr rfl) ρ ph lv _ (zLE.refl ρ) ⟨g1, g2, g3, ⟨?_, gr⟩, g5⟩)
              rw [hxn]
              exact Or.inr (Or.inl ⟨rfl, _, rfl, (g5.1 h6.2.2.2).2 _ (by omega)⟩)
            · split at hts
              · next h7 =>
                obtain ⟨i0, u1, u2, u3, u4⟩ := g5.2 h7.1
                have ek : ρ[j.2.toNat]? = some x.toInt := by
                  rcases ex with ⟨h | h, e⟩ | ⟨-, e⟩
                  · omega
                  · omega
                  · exact e
                rw [h5]
                have go : ∀ k : Nat, k < 6 → x.toInt = (i0 : Int) + (k : Int) → ZW l d y X mc ms Q nx lv (.int (X.2 x.toNatClampNeg) :: st1) ph cc ns → ZW l d y X mc ms Q pc lv (.int x :: .ref 2 :: st1) ph cc ns := by
                  intro k hk hx kk
                  exact hX hty0 (vp_in_iff.mpr ⟨by omega, by omega⟩) kk
                split at hts
                · next h8 =>
                  cases hts
                  rw [h8] at ek
                  have e6 : x.toInt = (i0 : Int) := by
                    have := ek.symm.trans u1
                    exact Option.some.inj this
                  refine go 0 (by decide) (by omega) (k0 _ (List.mem_singleton.mpr rfl) ρ ph lv _ (zLE.refl ρ) ⟨g1, g2, g3, ⟨?_, gr⟩, g5⟩)
                  have hxn : x.toNatClampNeg = i0 + 0 := by show x.toInt.toNat = _; omega
                  rw [hxn]
                  exact Or.inr (Or.inl ⟨rfl, _, rfl, u4 0 (by decide)⟩)
                · split at hts
                  · next q hq =>
                    split at hts
                    · next h9 =>
                      cases hts
                      obtain ⟨v1, v2, v3, v4, v5⟩ := h9
                      obtain ⟨n, e1, e2⟩ := zL2.getR g1 hq
                      rw [ek] at e1
                      cases e1
                      rcases e2.2.2 with h0 | ⟨a1, b1, w1, w2, w3⟩
                      · omega
                      · rw [v2] at w1
                        have ea : a1 = (i0 : Int) := zE_fun w1 (Or.inr ⟨Or.inl rfl, u1⟩)
                        have eb : b1 = q.2.2.2.2.2 := by
                          rcases w2 with ⟨-, e⟩ | ⟨e, -⟩
                          · exact e
                          · omega
                        have hsum : x.toInt = (i0 : Int) + q.2.2.2.2.2 := by
                          rw [w3, v1, ea, eb]
                          show zw32 _ = _
                          unfold zw32
                          rw [if_pos (by omega)]
                        refine go q.2.2.2.2.2.toNat (by omega) (by omega) (k0 _ (List.mem_singleton.mpr rfl) ρ ph lv _ (zLE.refl ρ) ⟨g1, g2, g3, ⟨?_, gr⟩, g5⟩)
                        have hxn : x.toNatClampNeg = i0 + q.2.2.2.2.2.toNat := by show x.toInt.toNat = _; omega
                        rw [hxn]
                        exact Or.inr (Or.inl ⟨rfl, _, rfl, u4 _ (by omega)⟩)
                    · cases hts
                  · cases hts
              · cases hts
          · next h5 =>
            split at hts
            · next hj0 =>
              have hx : x.toInt = j.2 := by rcases ex with ⟨-, e⟩ | ⟨e, -⟩ <;> omega
              have hxn : x.toNatClampNeg = j.2.toNat := by show x.toInt.toNat = _; rw [hx]
              split at hts
              · next h6 =>
                cases hts
                have hcase : a.2.toNat = 0 ∧ zx_tbN a.2.toNat = 32 ∧ zx_tbG a.2.toNat = zs_own ∨ a.2.toNat = 1 ∧ zx_tbN a.2.toNat = 8 ∧ zx_tbG a.2.toNat = zs_abv := by
                  unfold zx_tbN zx_tbG
                  rcases (by omega : a.2.toNat = 0 ∨ a.2.toNat = 1) with e | e
                  · exact Or.inl ⟨e, by rw [if_pos e], by rw [if_pos e]⟩
                  · exact Or.inr ⟨e, by rw [if_neg (by omega)], by rw [if_neg (by omega)]⟩
                refine hT (n := zx_tbN a.2.toNat) (g := zx_tbG a.2.toNat) hty0 hcase (vp_in_iff.mpr ⟨by omega, by rw [hx]; exact h6.2⟩) (k0 _ (List.mem_singleton.mpr rfl) ρ ph lv _ (zLE.refl ρ) ⟨g1, g2, g3, ⟨zg_ofI ?_, gr⟩, g5⟩)
                rw [hxn]
              · cases hts
            · obtain ⟨t', m, gt, e⟩ := zx_again_g hts rfl gT ex
              have := k0 _ m ρ ph lv _ (zLE.refl ρ) gt
              rw [e] at this
              exact this
        · cases hts
    · cases hts
  · cases hts
/-- a place of an array is written -/
def zkeep (j : Nat) (q : Nat × zA_V) : Bool := !(q.1 == j) && !(Nat.ble 1000000 q.1)
def zx_wr (c : zA_C) (j : Nat) (v : zA_V) : zA_C := (1, c.2.1, c.2.2.1, c.2.2.2.1, (if v = c.2.2.2.1.headD (3, 0) then c.2.2.2.2.filter (zkeep j) else (j, v) :: c.2.2.2.2.filter (zkeep j)))
theorem z_look_k (l : List (Nat × zA_V)) (j i : Nat) (hi : i < 1000000) : (l.filter (zkeep j)).lookup i = if i = j then none else l.lookup i := by
  induction l with
  | nil => simp
  | cons a r ih =>
    obtain ⟨k, v⟩ := a
    rw [List.filter_cons]
    by_cases hz : zkeep j (k, v) = true
    · rw [if_pos hz, List.lookup_cons, List.lookup_cons, ih]
      by_cases hik : i = k
      · subst hik
        have : ¬ i = j := by
          simp only [zkeep, Bool.and_eq_true, Bool.not_eq_true', beq_eq_false_iff_ne, ne_eq] at hz
          exact hz.1
        simp [this]
      · have h2 : (i == k) = false := by simpa using hik
        simp [h2]
    · rw [if_neg hz, ih, List.lookup_cons]
      by_cases hik : i = k
      · subst hik
        have hij : i = j := by
          simp only [zkeep, Bool.and_eq_true, Bool.not_eq_true', beq_eq_false_iff_ne, ne_eq, not_and] at hz
          refine Classical.byContradiction (fun q => ?_)
          have h3 := hz q
          have h4 : Nat.ble 1000000 i = false := by
            cases hb : Nat.ble 1000000 i with
            | false => rfl
            | true => have := Nat.le_of_ble_eq_true hb; omega
          exact h3 h4
        simp [hij]
      · have h2 : (i == k) = false := by simpa using hik
        simp [h2]
theorem zx_wr_Y (c : zA_C) {j : Nat} (hj : j < 1000000) (v : zA_V) (ρ : List Int) (n : Nat) (el : Nat → Value) : zg_Y ρ n (zx_wr c j v).2.2.2.2 el := by
  intro q hq hk
  have key : q ∈ c.2.2.2.2.filter (zkeep j) → False := by
    intro h
    have := (List.mem_filter.mp h).2
    simp only [zkeep, Bool.and_eq_true, Bool.not_eq_true'] at this
    rw [Nat.ble_eq_true_of_le hk] at this
    exact absurd this.2 (by decide)
  have hq : q ∈ (if v = c.2.2.2.1.headD (3, 0) then c.2.2.2.2.filter (zkeep j) else (j, v) :: c.2.2.2.2.filter (zkeep j)) := hq
  split at hq
  · exact (key hq).elim
  · rcases List.mem_cons.mp hq with rfl | hq
    · have hk : 1000000 ≤ j := hk
      omega
    · exact (key hq).elim
theorem z_look_f (l : List (Nat × zA_V)) (j i : Nat) : (l.filter (fun q => !(q.1 == j))).lookup i = if i = j then none else l.lookup i := by
  induction l with
  | nil => simp
  | cons a r ih =>
    obtain ⟨k, v⟩ := a
    rw [List.filter_cons]
    by_cases hkj : k = j
    · subst hkj
      simp only [beq_self_eq_true, Bool.not_true, Bool.false_eq_true, if_false]
      rw [ih, List.lookup_cons]
      by_cases hik : i = k
      · simp [hik]
      · have : (i == k) = false := by simpa using hik
        simp [hik, this]
    · have h1 : (k == j) = false := by simpa using hkj
      simp only [h1, Bool.not_false, if_true]
      rw [List.lookup_cons, List.lookup_cons, ih]
      by_cases hik : i = k
      · have : ¬ i = j := fun e => hkj (hik.symm.trans e)
        simp [hik, hkj]
      · have h2 : (i == k) = false := by simpa using hik
        simp [h2]
theorem zx_wr_el (c : zA_C) (j i : Nat) (v : zA_V) (hi : i < 1000000) : zx_el (zx_wr c j v) i = if i = j then v else zx_el c i := by
  unfold zx_el zx_wr
  dsimp only
  split
  · next h =>
    rw [z_look_k _ _ _ hi]
    split
    · rw [Option.getD_none, h]
    · rfl
  · next h =>
    rw [List.lookup_cons]
    by_cases hij : i = j
    · subst hij
      simp
    · have : (i == j) = false := by simpa using hij
      rw [this, if_neg hij]
      simp only [z_look_k _ _ _ hi, if_neg hij]
/-- a value that the place stands for already -/
def zsm (S : zA_S) (v w : zA_V) : Bool := if w.1 < 6 then decide (zn S v = w) else zfw S v w
theorem zsm_g {ρ : List Int} {S : zA_S} {v w : zA_V} {u : Value} (hS : zg_S ρ S) (g : zg_V ρ v u) (h : zsm S v w = true) : zg_V ρ w u := by
  unfold zsm at h
  split at h
  · have e := of_decide_eq_true h
    rw [← e]
    exact zn_g hS g
  · exact zfw_g hS g (by omega) h
theorem zL2.setR' {α β : Type} {R : α → β → Prop} {a : α} {b : β} (hab : R a b) : ∀ {as : List α} {bs : List β} (i : Nat), zL2 R as bs → as[i]? = some a → zL2 R as (bs.set i b)
  | [], [], _, _, _ => trivial
  | _ :: _, _ :: _, 0, h, ha => by cases ha; exact ⟨hab, h.2⟩
  | _ :: _, _ :: _, i + 1, h, ha => ⟨h.1, zL2.setR' hab i h.2 ha⟩
  | [], _ :: _, _, h, _ => h.elim
  | _ :: _, [], _, h, _ => h.elim
def zx_ast (ty nx pc : Nat) (t : zA_T) : zA_R := match t.2.2.2.1 with
  | v0 :: j0 :: a :: r => let j := zn t.1 j0
    if a.1 = 2 ∧ zIs j = true ∧ 3 ≤ a.2.toNat ∧ zx_ty ty v0 = true then
      (match t.2.1[a.2.toNat - 3]?, zrx t.1 j with
        | some c, some q => if c.1 = 1 ∧ c.2.1 = ty ∧ 0 ≤ q.1 ∧ q.2 < c.2.2.1 then
            (if ty < 2 ∧ zncr q c.2.2.2.2 = true ∧ c.2.2.1 ≤ 1000000 ∧ zsm t.1 v0 (c.2.2.2.1.headD (3, 0)) = true then
                some [(nx, zt_H t (t.2.1.set (a.2.toNat - 3) (1, ty, c.2.2.1, c.2.2.2.1, (if j.1 = 1 ∧ 6 ≤ (c.2.2.2.1.headD (3, 0)).1 then [(1000000 + j.2.toNat, zn t.1 v0)] else []) ++ c.2.2.2.2.filter zcst)) r)] else if ¬ c.2.2.1 ≤ 1000000 then none else if j.1 = 0 then
              (if ty = 2 then (if 3 ≤ v0.2.toNat then (match t.2.1[v0.2.toNat - 3]? with
                  | some e => if e.1 = 0 ∧ e.2.1 = 10 then some [(nx, zt_H t (t.2.1.set (a.2.toNat - 3) (zx_wr c j.2.toNat (zn t.1 v0))) r)] else none
                  | none => none) else none)
                else some [(nx, zt_H t (t.2.1.set (a.2.toNat - 3) (zx_wr c j.2.toNat (zn t.1 v0))) r)])
              else zx_again pc t (zSp t.1 j)) else none
        | _, _ => none)
    else none
  | _ => none
theorem zo_ast {ty pc nx : Nat} {t : zA_T} (hty : ty < 3)
    (hI : ∀ {lv st ph cc ns} {i n : Nat} {f : Nat → Int32} {j x : Int32}, ty = 0 → ph[i]? = some (.inl (0, n, z_I f)) → vp_in j n → ZW l d y X mc ms Q nx lv st (ph.set i (.inl (0, n, z_I (upd f j.toNatClampNeg x)))) cc ns → ZW l d y X mc ms Q pc lv (.int x :: .int j :: .ref (i + 3) :: st) ph cc ns)
    (hJ : ∀ {lv st ph cc ns} {i n : Nat} {f : Nat → Int64} {j : Int32} {x : Int64}, ty = 1 → ph[i]? = some (.inl (1, n, z_J f)) → vp_in j n → ZW l d y X mc ms Q nx lv st (ph.set i (.inl (1, n, z_J (vp_updL f j.toNatClampNeg x)))) cc ns → ZW l d y X mc ms Q pc lv (.long x :: .int j :: .ref (i + 3) :: st) ph cc ns)
    (hO : ∀ {lv st ph cc ns} {i n q : Nat} {f : Nat → Option Nat} {j : Int32} {fs : List Value}, ty = 2 → ph[i]? = some (.inl (2, n, z_O f)) → ph[q]? = some (.inr (10, fs)) → vp_in j n → ZW l d y X mc ms Q nx lv st (ph.set i (.inl (2, n, z_O (va_up f j.toNatClampNeg (some (q + 3)))))) cc ns → ZW l d y X mc ms Q pc lv (.ref (q + 3) :: .int j :: .ref (i + 3) :: st) ph cc ns) :
    zSd l d y X mc ms XL φ Q pc t (zx_ast ty nx pc t) := by
  obtain ⟨S, H, L, s0, cc, ns⟩ := t
  intro ts hts ρ ph lv st g k0
  have gT := g
  obtain ⟨g1, g2, g3, g4, g5⟩ := g
  unfold zx_ast at hts
  split at hts
  · next v0 j0 a r hst =>
    have hst : s0 = v0 :: j0 :: a :: r := hst
    subst hst
    obtain ⟨vv, st2, rfl, gv, gr2⟩ := zL2.cons1 g4
    obtain ⟨vj, st0, rfl, gj0, gr0⟩ := zL2.cons1 gr2
    obtain ⟨va, st1, rfl, ga, gr⟩ := zL2.cons1 gr0
    have gj := zn_g g1 gj0
    have gv' := zn_g g1 gv
    dsimp only at hts
    generalize hej : zn S j0 = j at *
    split at hts
    · next hI0 =>
      have ea := zg_ref hI0.1 ga
      subst ea
      obtain ⟨x, rfl, ex⟩ := zg_int hI0.2.1 gj
      have hvt := hI0.2.2.2
      rw [z_back3 hI0.2.2.1] at *
      split at hts
      · next c q hc hq =>
        obtain ⟨c', hc', gc⟩ := zL2.get g2 hc
        have bq := zrx_in g1 ex hq
        split at hts
        · next h4 =>
          obtain ⟨c1, c2, c3, c4⟩ := h4
          have hin : vp_in x c.2.2.1 := vp_in_iff.mpr ⟨by omega, by omega⟩
          split at hts
          · next hsm =>
            cases hts
            obtain ⟨m1, m2, m2', m3⟩ := hsm
            have gd := zsm_g g1 gv m3
            have hx0 : c.2.2.2.2.lookup x.toNatClampNeg = none := zncr_look m2 (by have := z_in_lt hin; omega) (by show q.1 ≤ ((x.toInt.toNat : Nat) : Int); omega) (by show ((x.toInt.toNat : Nat) : Int) ≤ q.2; omega)
            generalize hov : (if j.1 = 1 ∧ 6 ≤ (c.2.2.2.1.headD (3, 0)).1 then [(1000000 + j.2.toNat, zn S v0)] else ([] : List (Nat × zA_V))) = ov
            have hlk : ∀ i, i < c.2.2.1 → (ov ++ c.2.2.2.2.filter zcst).lookup i = c.2.2.2.2.lookup i := by
              intro i hi
              have e0 : ov.lookup i = none := by
                rw [← hov]
                split
                · rw [List.lookup_cons]
                  have : (i == 1000000 + j.2.toNat) = false := by
                    rw [beq_eq_false_iff_ne]
                    omega
                  rw [this]
                  rfl
                · rfl
              rw [List.lookup_append, e0, zcst_look _ (by omega)]
              rfl
            have hY : ∀ el : Nat → Value, zg_V ρ (zn S v0) (el x.toNatClampNeg) → zg_Y ρ c.2.2.1 (ov ++ c.2.2.2.2.filter zcst) el := by
              intro el ge q hq hk
              have hq := (List.mem_append.mp hq).resolve_right (fun hq => by
                have := (List.mem_filter.mp hq).2
                unfold zcst at this
                rw [Nat.ble_eq_true_of_le hk] at this
                exact absurd this (by decide))
              rw [← hov] at hq
              split at hq
              · next hj1 =>
                rw [List.mem_singleton] at hq
                subst hq
                refine ⟨x.toInt, ?_, fun _ _ => ge⟩
                show ρ[1000000 + j.2.toNat - 1000000]? = _
                rw [Nat.add_sub_cancel_left]
                rcases ex with ⟨h | h, e⟩ | ⟨-, e⟩
                · omega
                · omega
                · exact e
              · cases hq
            rcases (by omega : ty = 0 ∨ ty = 1) with e | e
            · subst e
              obtain ⟨f, rfl, gf, -⟩ := zg_CI c1 c2 gc
              obtain ⟨z, rfl, -⟩ := zg_int (by simpa [zx_ty] using hvt) gv
              refine hI rfl hc' hin (k0 _ (List.mem_singleton.mpr rfl) ρ _ lv _ (zLE.refl ρ) ⟨g1, zL2.set ?_ _ g2, g3, gr, g5⟩)
              show zg_C φ ρ (1, 0, c.2.2.1, c.2.2.2.1, (if j.1 = 1 ∧ 6 ≤ (c.2.2.2.1.headD (3, 0)).1 then [(1000000 + j.2.toNat, zn S v0)] else ([] : List (Nat × zA_V))) ++ c.2.2.2.2.filter zcst) _
              rw [hov]
              refine Or.inr (Or.inr (Or.inl ⟨rfl, rfl, _, rfl, fun i hi => ?_, hY (fun j => .int (upd f x.toNatClampNeg z j)) (by simp only [upd, if_true]; exact gv')⟩))
              have hi : i < c.2.2.1 := hi
              have := gf i hi
              show zg_V ρ (((ov ++ c.2.2.2.2.filter zcst).lookup i).getD (c.2.2.2.1.headD (3, 0))) _
              rw [hlk i hi]
              simp only [upd]
              split
              · next e =>
                rw [e, hx0]
                exact gd
              · exact this
            · subst e
              obtain ⟨f, rfl, gf, -⟩ := zg_CJ c1 c2 gc
              obtain ⟨z, rfl, -⟩ := zg_long (by simpa [zx_ty] using hvt) gv
              refine hJ rfl hc' hin (k0 _ (List.mem_singleton.mpr rfl) ρ _ lv _ (zLE.refl ρ) ⟨g1, zL2.set ?_ _ g2, g3, gr, g5⟩)
              show zg_C φ ρ (1, 1, c.2.2.1, c.2.2.2.1, (if j.1 = 1 ∧ 6 ≤ (c.2.2.2.1.headD (3, 0)).1 then [(1000000 + j.2.toNat, zn S v0)] else ([] : List (Nat × zA_V))) ++ c.2.2.2.2.filter zcst) _
              rw [hov]
              refine Or.inr (Or.inr (Or.inr (Or.inl ⟨rfl, rfl, _, rfl, fun i hi => ?_, hY (fun j => .long (vp_updL f x.toNatClampNeg z j)) (by simp only [vp_updL, if_true]; exact gv')⟩)))
              have hi : i < c.2.2.1 := hi
              have := gf i hi
              show zg_V ρ (((ov ++ c.2.2.2.2.filter zcst).lookup i).getD (c.2.2.2.1.headD (3, 0))) _
              rw [hlk i hi]
              simp only [vp_updL]
              split
              · next e =>
                rw [e, hx0]
                exact gd
              · exact this
          · split at hts
            · cases hts
            · next hlen =>
              have hlen : c.2.2.1 ≤ 1000000 := Classical.byContradiction hlen
              split at hts
              · next hj0 =>
                have hx : x.toInt = j.2 := by rcases ex with ⟨-, e⟩ | ⟨e, -⟩ <;> omega
                have hxn : x.toNatClampNeg = j.2.toNat := by show x.toInt.toNat = _; rw [hx]
                have hel : ∀ (i : Nat) (u : Value), i < c.2.2.1 → (i = x.toNatClampNeg → zg_V ρ (zn S v0) u) → (i ≠ x.toNatClampNeg → zg_V ρ (zx_el c i) u) → zg_V ρ (zx_el (zx_wr c j.2.toNat (zn S v0)) i) u := by
                  intro i u hi e1 e2
                  rw [zx_wr_el _ _ _ _ (by omega)]
                  split
                  · next e => exact e1 (e.trans hxn.symm)
                  · next e => exact e2 (fun q => e (q.trans hxn))
                rcases (by omega : ty = 0 ∨ ty = 1 ∨ ty = 2) with e | e | e
                · subst e
                  rw [if_neg (by decide)] at hts
                  cases hts
                  obtain ⟨f, rfl, gf, -⟩ := zg_CI c1 c2 gc
                  obtain ⟨z, rfl, -⟩ := zg_int (by simpa [zx_ty] using hvt) gv
                  refine hI rfl hc' hin (k0 _ (List.mem_singleton.mpr rfl) ρ _ lv _ (zLE.refl ρ) ⟨g1, zL2.set ?_ _ g2, g3, gr, g5⟩)
                  refine Or.inr (Or.inr (Or.inl ⟨rfl, c2, _, rfl, fun i hi => hel i _ hi (fun e => ?_) (fun e => ?_), zx_wr_Y _ (by omega) _ _ _ _⟩))
                  · rw [e]; simp only [upd, if_true]; exact gv'
                  · simp only [upd, if_neg e]; exact gf i hi
                · subst e
                  rw [if_neg (by decide)] at hts
                  cases hts
                  obtain ⟨f, rfl, gf, -⟩ := zg_CJ c1 c2 gc
                  obtain ⟨z, rfl, -⟩ := zg_long (by simpa [zx_ty] using hvt) gv
                  refine hJ rfl hc' hin (k0 _ (List.mem_singleton.mpr rfl) ρ _ lv _ (zLE.refl ρ) ⟨g1, zL2.set ?_ _ g2, g3, gr, g5⟩)
                  refine Or.inr (Or.inr (Or.inr (Or.inl ⟨rfl, c2, _, rfl, fun i hi => hel i _ hi (fun e => ?_) (fun e => ?_), zx_wr_Y _ (by omega) _ _ _ _⟩)))
                  · rw [e]; simp only [vp_updL, if_true]; exact gv'
                  · simp only [vp_updL, if_neg e]; exact gf i hi
                · subst e
                  rw [if_pos rfl] at hts
                  split at hts
                  · next h5 =>
                    split at hts
                    · next e he =>
                      obtain ⟨e', he', ge⟩ := zL2.get g2 he
                      split at hts
                      · next h6 =>
                        cases hts
                        obtain ⟨f, rfl, gf, -⟩ := zg_CO c1 c2 gc
                        obtain ⟨fs, rfl, -⟩ := zg_C0 h6.1 ge
                        rw [h6.2] at he'
                        have ev := zg_ref (by simpa [zx_ty] using hvt) gv
                        subst ev
                        rw [z_back3 h5] at gv' ⊢
                        refine hO rfl hc' he' hin (k0 _ (List.mem_singleton.mpr rfl) ρ _ lv _ (zLE.refl ρ) ⟨g1, zL2.set ?_ _ g2, g3, gr, g5⟩)
                        refine Or.inr (Or.inr (Or.inr (Or.inr ⟨rfl, c2, _, rfl, fun i hi => hel i _ hi (fun e => ?_) (fun e => ?_), zx_wr_Y _ (by omega) _ _ _ _⟩)))
                        · rw [e]; simp only [va_up, if_true]; exact gv'
                        · simp only [va_up, if_neg e]; exact gf i hi
                      · cases hts
                    · cases hts
                  · cases hts
              · obtain ⟨t', m, gt, e⟩ := zx_again_g hts rfl gT ex
                have := k0 _ m ρ ph lv _ (zLE.refl ρ) gt
                rw [e] at this
                exact this
        · cases hts
      · cases hts
    · cases hts
  · cases hts
end ZO
end
section
/-! PART 11: lengths, new cells, copies, fills. -/
section ZO
variable {l : Launch} {d : Nat} {y : zx_Y} {X : zx_X} {mc ms XL : Nat} {φ : List z_C} {Q : Option Value → List z_C → Prop}
theorem zN_toInt {n : Nat} (h : n < 2147483648) : (Int32.ofNat n).toInt = (n : Int) := Int32.toInt_ofNat_small (by omega)
def zx_len (XL nx : Nat) (t : zA_T) : zA_R := match t.2.2.2.1 with
  | a :: r => if a.1 = 2 then (if a.2.toNat = 2 then (if XL < 1000 then some [(nx, zt_st t ((0, (XL : Int)) :: r))] else none)
      else if 3 ≤ a.2.toNat then (match t.2.1[a.2.toNat - 3]? with
        | some c => if c.1 = 1 ∧ c.2.1 < 3 ∧ c.2.2.1 < 2147483648 then some [(nx, zt_st t ((0, (c.2.2.1 : Int)) :: r))] else none
        | none => none) else none) else none
  | [] => none
theorem zo_len {pc nx : Nat} {t : zA_T} (hA : ∀ {lv st ph cc ns} {i k n : Nat} {x : z_S}, k < 3 → ph[i]? = some (.inl (k, n, x)) → ZW l d y X mc ms Q nx lv (.int (Int32.ofNat n) :: st) ph cc ns → ZW l d y X mc ms Q pc lv (.ref (i + 3) :: st) ph cc ns)
    (hX : ∀ {lv st ph cc ns}, ZW l d y X mc ms Q nx lv (.int (Int32.ofNat X.1) :: st) ph cc ns → ZW l d y X mc ms Q pc lv (.ref 2 :: st) ph cc ns) : zSd l d y X mc ms XL φ Q pc t (zx_len XL nx t) := by
  obtain ⟨S, H, L, s0, cc, ns⟩ := t
  intro ts hts ρ ph lv st g k0
  obtain ⟨g1, g2, g3, g4, g5⟩ := g
  unfold zx_len at hts
  split at hts
  · next a r hst =>
    have hst : s0 = a :: r := hst
    subst hst
    obtain ⟨va, st1, rfl, ga, gr⟩ := zL2.cons1 g4
    split at hts
    · next h2 =>
      have ea := zg_ref h2 ga
      subst ea
      split at hts
      · next h3 =>
        split at hts
        · next h4 =>
          cases hts
          rw [h3]
          refine hX (k0 _ (List.mem_singleton.mpr rfl) ρ ph lv _ (zLE.refl ρ) ⟨g1, g2, g3, ⟨zg_ofI ?_, gr⟩, g5⟩)
          rw [(g5.1 h4).1]
          exact zN_toInt (by omega)
        · cases hts
      · split at hts
        · next h3 =>
          rw [z_back3 h3]
          split at hts
          · next c hc =>
            obtain ⟨c', hc', gc⟩ := zL2.get g2 hc
            split at hts
            · next h4 =>
              cases hts
              obtain ⟨c1, c2, c3⟩ := h4
              have hex : ∃ x, c' = .inl (c.2.1, c.2.2.1, x) := by
                rcases (by omega : c.2.1 = 0 ∨ c.2.1 = 1 ∨ c.2.1 = 2) with e | e | e
                · obtain ⟨f, rfl, -, -⟩ := zg_CI c1 e gc; exact ⟨_, by rw [e]⟩
                · obtain ⟨f, rfl, -, -⟩ := zg_CJ c1 e gc; exact ⟨_, by rw [e]⟩
                · obtain ⟨f, rfl, -, -⟩ := zg_CO c1 e gc; exact ⟨_, by rw [e]⟩
              obtain ⟨x, rfl⟩ := hex
              exact hA c2 hc' (k0 _ (List.mem_singleton.mpr rfl) ρ ph lv _ (zLE.refl ρ) ⟨g1, g2, g3, ⟨zg_ofI (zN_toInt c3), gr⟩, g5⟩)
            · cases hts
          · cases hts
        · cases hts
    · cases hts
  · cases hts
/-- a new array of ty (0 int, 1 long, 2 references) -/
def zx_nb (ty : Nat) : zA_V := if ty = 0 then (0, 0) else if ty = 1 then (4, 0) else (3, 0)
def zx_nar (mc ms ty nx : Nat) (t : zA_T) : zA_R := match t.2.2.2.1 with
  | a :: r => if a.1 = 0 ∧ 0 ≤ a.2 ∧ a.2 ≤ 10000 ∧ t.2.2.2.2.1 + 1 ≤ mc ∧ t.2.2.2.2.2 + a.2.toNat ≤ ms then
      some [(nx, (t.1, t.2.1 ++ [(1, ty, a.2.toNat, [zx_nb ty], [])], t.2.2.1, (2, ((t.2.1.length + 3 : Nat) : Int)) :: r, t.2.2.2.2.1 + 1, t.2.2.2.2.2 + a.2.toNat))] else none
  | [] => none
def zx_nc (ty n : Nat) : z_C := if ty = 0 then .inl (0, n, z_I (fun _ => 0)) else if ty = 1 then .inl (1, n, z_J (fun _ => 0)) else .inl (2, n, z_O (fun _ => none))
theorem zx_nc_g (φ : List z_C) (ρ : List Int) {ty : Nat} (hty : ty < 3) (n : Nat) : zg_C φ ρ (1, ty, n, [zx_nb ty], []) (zx_nc ty n) := by
  rcases (by omega : ty = 0 ∨ ty = 1 ∨ ty = 2) with e | e | e <;> subst e
  · exact Or.inr (Or.inr (Or.inl ⟨rfl, rfl, _, rfl, fun j hj => zg_ofI (by decide), zg_Y.nil _ _ _⟩))
  · exact Or.inr (Or.inr (Or.inr (Or.inl ⟨rfl, rfl, _, rfl, fun j hj => zg_ofJ (by decide), zg_Y.nil _ _ _⟩)))
  · exact Or.inr (Or.inr (Or.inr (Or.inr ⟨rfl, rfl, _, rfl, fun j hj => Or.inr (Or.inr (Or.inr (Or.inl ⟨rfl, rfl⟩))), zg_Y.nil _ _ _⟩)))
theorem zo_nar {ty pc nx : Nat} {t : zA_T} (hty : ty < 3) (hs : ∀ {lv st ph cc ns} {n : Int32} {N : Nat}, ¬ n < 0 → n.toNatClampNeg = N → N ≤ 10000 → cc + 1 ≤ mc → ns + N ≤ ms → ZW l d y X mc ms Q nx lv (.ref (ph.length + 3) :: st) (ph ++ [zx_nc ty N]) (cc + 1) (ns + N) → ZW l d y X mc ms Q pc lv (.int n :: st) ph cc ns) : zSd l d y X mc ms XL φ Q pc t (zx_nar mc ms ty nx t) := by
  obtain ⟨S, H, L, s0, cc, ns⟩ := t
  intro ts hts ρ ph lv st g k0
  obtain ⟨g1, g2, g3, g4, g5⟩ := g
  unfold zx_nar at hts
  split at hts
  · next a r hst =>
    have hst : s0 = a :: r := hst
    subst hst
    obtain ⟨va, st1, rfl, ga, gr⟩ := zL2.cons1 g4
    split at hts
    · next h2 =>
      cases hts
      obtain ⟨h1, h2, h3, h4, h5⟩ := h2
      obtain ⟨x, rfl, ex⟩ := zg_int (a := a) (by simp [zIs, h1]) ga
      have hx : x.toInt = a.2 := by rcases ex with ⟨-, e⟩ | ⟨e, -⟩ <;> omega
      have hxn : x.toNatClampNeg = a.2.toNat := by show x.toInt.toNat = _; rw [hx]
      refine hs (fun q => by rw [Int32.lt_iff_toInt_lt, Int32.toInt_zero] at q; omega) hxn (by omega) h4 h5 (k0 _ (List.mem_singleton.mpr rfl) ρ _ lv _ (zLE.refl ρ) ⟨g1, zL2.app (cs := [(1, ty, a.2.toNat, [zx_nb ty], [])]) (ds := [zx_nc ty a.2.toNat]) ⟨zx_nc_g φ ρ hty _, trivial⟩ g2, g3, ⟨?_, gr⟩, g5⟩)
      rw [← zL2.len g2]
      exact zg_ofR
    · cases hts
  · cases hts
/-- a new object -/
def zx_dv (t : FieldType) : zA_V := match t with
  | .object _ => (3, 0)
  | .array _ => (3, 0)
  | .long => (4, 0)
  | .float => (99, 0)
  | .double => (99, 0)
  | _ => (0, 0)
def zx_df (ci : Nat) : List zA_V := match zc[ci]? with
  | some q => (List.range q.2.2).map (fun k => zx_dv (zc_ty q k))
  | none => []
def zx_obj (mc ms ci N nx : Nat) (t : zA_T) : zA_R :=
  if (zx_df ci).length = N ∧ (zx_df ci).all (fun v => !(v.1 == 99)) = true ∧ t.2.2.2.2.1 + 1 ≤ mc ∧ t.2.2.2.2.2 + N ≤ ms then
    some [(nx, (t.1, t.2.1 ++ [(0, ci, 0, zx_df ci, [])], t.2.2.1, (2, ((t.2.1.length + 3 : Nat) : Int)) :: t.2.2.2.1, t.2.2.2.2.1 + 1, t.2.2.2.2.2 + N))] else none
theorem zx_dv_g (ρ : List Int) (t : FieldType) (h : (zx_dv t).1 ≠ 99) : zg_V ρ (zx_dv t) (defaultValue t) := by
  cases t with
  | object n => exact Or.inr (Or.inr (Or.inr (Or.inl ⟨rfl, rfl⟩)))
  | array n => exact Or.inr (Or.inr (Or.inr (Or.inl ⟨rfl, rfl⟩)))
  | long => exact zg_ofJ (by decide)
  | float => exact absurd rfl h
  | double => exact absurd rfl h
  | _ => exact zg_ofI (by decide)
theorem zx_df_g (ρ : List Int) {ci : Nat} {q : vw_C} (hq : zc[ci]? = some q) (h : (zx_df ci).all (fun v => !(v.1 == 99)) = true) : zL2 (zg_V ρ) (zx_df ci) (zc_fs q) := by
  unfold zx_df at h ⊢
  rw [hq] at h ⊢
  dsimp only at h ⊢
  unfold zc_fs
  generalize List.range q.2.2 = ks at h ⊢
  induction ks with
  | nil => exact trivial
  | cons k ks ih =>
    simp only [List.map_cons, List.all_cons, Bool.and_eq_true] at h
    refine ⟨zx_dv_g ρ _ (fun e => ?_), ih h.2⟩
    have := h.1
    rw [e] at this
    simp at this
theorem zo_obj {ci N pc nx : Nat} {t : zA_T} {q : vw_C} (hq : zc[ci]? = some q) (hN : q.2.2 = N) (hs : ∀ {lv st ph cc ns}, cc + 1 ≤ mc → ns + N ≤ ms → ZW l d y X mc ms Q nx lv (.ref (ph.length + 3) :: st) (ph ++ [.inr (ci, zc_fs q)]) (cc + 1) (ns + N) → ZW l d y X mc ms Q pc lv st ph cc ns) : zSd l d y X mc ms XL φ Q pc t (zx_obj mc ms ci N nx t) := by
  obtain ⟨S, H, L, s0, cc, ns⟩ := t
  intro ts hts ρ ph lv st g k0
  obtain ⟨g1, g2, g3, g4, g5⟩ := g
  unfold zx_obj at hts
  split at hts
  · next h =>
    cases hts
    refine hs h.2.2.1 h.2.2.2 (k0 _ (List.mem_singleton.mpr rfl) ρ _ lv _ (zLE.refl ρ) ⟨g1, zL2.app (cs := [(0, ci, 0, zx_df ci, [])]) (ds := [.inr (ci, zc_fs q)]) ⟨Or.inr (Or.inl ⟨rfl, _, rfl, zx_df_g ρ hq h.2.1, zg_Z.nil _ _⟩), trivial⟩ g2, g3, ⟨?_, g4⟩, g5⟩)
    rw [← zL2.len g2]
    exact zg_ofR
  · cases hts
theorem zg_cats {ρ : List Int} : ∀ {r : List zA_V} {st : List Value}, zL2 (zg_V ρ) r st → st.map (fun v => v.category) = r.map zcat
  | [], [], _ => rfl
  | a :: r, v :: st, h => by rw [List.map_cons, List.map_cons, zg_cats h.2, zg_cat h.1]; rfl
  | [], _ :: _, h => h.elim
  | _ :: _, [], h => h.elim
/-- places i .. one by one -/
def zrl (g : Nat → zA_V) : Nat → Nat → List (Nat × zA_V)
  | _, 0 => []
  | i, n + 1 => (i, g i) :: zrl g (i + 1) n
theorem zrl_look (g : Nat → zA_V) : ∀ (n i j : Nat), i ≤ j → j < i + n → (zrl g i n).lookup j = some (g j)
  | 0, i, j, h1, h2 => by omega
  | n + 1, i, j, h1, h2 => by
    unfold zrl
    rw [List.lookup_cons]
    by_cases e : j = i
    · subst e
      rw [beq_self_eq_true]
    · have : (j == i) = false := by rw [beq_eq_false_iff_ne]; exact e
      rw [this]
      exact zrl_look g n (i + 1) j (by omega) (by omega)
theorem zrl_lt (g : Nat → zA_V) : ∀ (n i : Nat) (q : Nat × zA_V), q ∈ zrl g i n → q.1 < i + n
  | 0, _, _, h => by cases h
  | n + 1, i, q, h => by
    rcases List.mem_cons.mp h with rfl | h
    · show i < i + (n + 1)
      omega
    · have := zrl_lt g n (i + 1) q h
      omega
/-- a stretch copied place by place -/
def zcpo (c e : zA_C) (sp dp k : Nat) : List (Nat × zA_V) := zrl (fun i => if dp ≤ i ∧ i < dp + k then zx_el c (sp + (i - dp)) else zx_el e i) 0 e.2.2.1
/-- a whole array over another, or a stretch of it, where both hold alike, or place by place -/
def zx_cpy (ty nx : Nat) (t : zA_T) : zA_R := match t.2.2.2.1 with
  | k0 :: dp0 :: rd :: sp0 :: rs :: r =>
    let k := zn t.1 k0
    let dp := zn t.1 dp0
    let sp := zn t.1 sp0
    if (r.map zcat).sum ≤ 8 ∧ zIs k = true ∧ zIs dp = true ∧ zIs sp = true ∧ rd.1 = 2 ∧ rs.1 = 2 ∧ 3 ≤ rd.2.toNat ∧ 3 ≤ rs.2.toNat then
      (match t.2.1[rs.2.toNat - 3]?, t.2.1[rd.2.toNat - 3]? with
        | some c, some e => if c.1 = 1 ∧ e.1 = 1 ∧ c.2.1 = ty ∧ e.2.1 = ty then
            (if k.1 = 0 ∧ dp = (0, 0) ∧ sp = (0, 0) ∧ k.2 = e.2.2.1 ∧ e.2.2.1 ≤ c.2.2.1 then
              some [(nx, zt_H t (t.2.1.set (rd.2.toNat - 3) (1, ty, e.2.2.1, c.2.2.2.1, c.2.2.2.2)) r)]
            else if znc c.2.2.2.2 = true ∧ znc e.2.2.2.2 = true ∧ c.2.2.1 ≤ 1000000 ∧ e.2.2.1 ≤ 1000000 ∧ c.2.2.2.1.headD (3, 0) = e.2.2.2.1.headD (3, 0) ∧ (e.2.2.2.1.headD (3, 0)).1 ≠ 1 ∧ (e.2.2.2.1.headD (3, 0)).1 ≠ 5 ∧
                zlb t.1 k ≥ 0 ∧ zlb t.1 dp ≥ 0 ∧ zlb t.1 sp ≥ 0 ∧ zle2 t.1 sp k c.2.2.1 = true ∧ zle2 t.1 dp k e.2.2.1 = true then
              some [(nx, zt_H t (t.2.1.set (rd.2.toNat - 3) (1, ty, e.2.2.1, e.2.2.2.1, [])) r)]
            else if ty = 0 ∧ k.1 = 0 ∧ dp.1 = 0 ∧ sp.1 = 0 ∧ 0 ≤ k.2 ∧ 0 ≤ dp.2 ∧ 0 ≤ sp.2 ∧ sp.2 + k.2 ≤ c.2.2.1 ∧ dp.2 + k.2 ≤ e.2.2.1 ∧ e.2.2.1 ≤ 1000000 then
              some [(nx, zt_H t (t.2.1.set (rd.2.toNat - 3) (1, 0, e.2.2.1, e.2.2.2.1, zcpo c e sp.2.toNat dp.2.toNat k.2.toNat)) r)] else none) else none
        | _, _ => none) else none
  | _ => none
theorem zo_cpy {ty pc nx : Nat} {t : zA_T} (hty : ty < 2)
    (hI : ∀ {lv st ph cc ns} {i0 i1 n0 n1 : Nat} {f g : Nat → Int32} {sp dp k : Int32}, (st.map (fun v => v.category)).sum ≤ 8 → ty = 0 → ph[i0]? = some (.inl (0, n0, z_I f)) → ph[i1]? = some (.inl (0, n1, z_I g)) → ¬ sp < 0 → ¬ dp < 0 → ¬ k < 0 → sp.toNatClampNeg + k.toNatClampNeg ≤ n0 → dp.toNatClampNeg + k.toNatClampNeg ≤ n1 → ZW l d y X mc ms Q nx lv st (ph.set i1 (.inl (0, n1, z_I (va_cpy f g sp.toNatClampNeg dp.toNatClampNeg k.toNatClampNeg)))) cc ns → ZW l d y X mc ms Q pc lv (.int k :: .int dp :: .ref (i1 + 3) :: .int sp :: .ref (i0 + 3) :: st) ph cc ns)
    (hJ : ∀ {lv st ph cc ns} {i0 i1 n0 n1 : Nat} {f g : Nat → Int64} {sp dp k : Int32}, (st.map (fun v => v.category)).sum ≤ 8 → ty = 1 → ph[i0]? = some (.inl (1, n0, z_J f)) → ph[i1]? = some (.inl (1, n1, z_J g)) → ¬ sp < 0 → ¬ dp < 0 → ¬ k < 0 → sp.toNatClampNeg + k.toNatClampNeg ≤ n0 → dp.toNatClampNeg + k.toNatClampNeg ≤ n1 → ZW l d y X mc ms Q nx lv st (ph.set i1 (.inl (1, n1, z_J (va_cpy f g sp.toNatClampNeg dp.toNatClampNeg k.toNatClampNeg)))) cc ns → ZW l d y X mc ms Q pc lv (.int k :: .int dp :: .ref (i1 + 3) :: .int sp :: .ref (i0 + 3) :: st) ph cc ns) :
    zSd l d y X mc ms XL φ Q pc t (zx_cpy ty nx t) := by
  obtain ⟨S, H, L, s0, cc, ns⟩ := t
  intro ts hts ρ ph lv st g k0
  obtain ⟨g1, g2, g3, g4, g5⟩ := g
  unfold zx_cpy at hts
  split at hts
  · next k dp rd sp rs r hst =>
    have hst : s0 = k :: dp :: rd :: sp :: rs :: r := hst
    subst hst
    obtain ⟨vk, st1, rfl, gk, gr1⟩ := zL2.cons1 g4
    obtain ⟨vd, st2, rfl, gd, gr2⟩ := zL2.cons1 gr1
    obtain ⟨vrd, st3, rfl, grd, gr3⟩ := zL2.cons1 gr2
    obtain ⟨vs, st4, rfl, gs, gr4⟩ := zL2.cons1 gr3
    obtain ⟨vrs, st5, rfl, grs, gr⟩ := zL2.cons1 gr4
    have gk := zn_g g1 gk
    have gd := zn_g g1 gd
    have gs := zn_g g1 gs
    dsimp only at hts
    generalize zn S k = k at *
    generalize zn S dp = dp at *
    generalize zn S sp = sp at *
    split at hts
    · next h =>
      obtain ⟨hcs, h1, h2, h3, h4, h5, h6, h7⟩ := h
      have e1 := zg_ref h4 grd
      have e2 := zg_ref h5 grs
      subst e1 e2
      rw [z_back3 h6, z_back3 h7]
      obtain ⟨xk, rfl, exk⟩ := zg_int h1 gk
      obtain ⟨xd, rfl, exd⟩ := zg_int h2 gd
      obtain ⟨xs, rfl, exs⟩ := zg_int h3 gs
      have nneg : ∀ z : Int32, 0 ≤ z.toInt → ¬ z < 0 := fun z hz q => by rw [Int32.lt_iff_toInt_lt, Int32.toInt_zero] at q; omega
      split at hts
      · next c e hc he =>
        obtain ⟨c', hc', gc⟩ := zL2.get g2 hc
        obtain ⟨e', he', ge⟩ := zL2.get g2 he
        split at hts
        · next hh =>
          obtain ⟨c1, e1, c2, e2⟩ := hh
          split at hts
          · next hf =>
            cases hts
            obtain ⟨f1, rfl, rfl, hke, hle⟩ := hf
            have hk : xk.toInt = k.2 := by rcases exk with ⟨-, e⟩ | ⟨e, -⟩ <;> omega
            have hd : xd.toInt = 0 := by rcases exd with ⟨-, e⟩ | ⟨e, -⟩; exact e; exact absurd e (by decide)
            have hs : xs.toInt = 0 := by rcases exs with ⟨-, e⟩ | ⟨e, -⟩; exact e; exact absurd e (by decide)
            have hkn : xk.toNatClampNeg = k.2.toNat := by show xk.toInt.toNat = _; rw [hk]
            have hdn : xd.toNatClampNeg = 0 := by show xd.toInt.toNat = _; rw [hd]; rfl
            have hsn : xs.toNatClampNeg = 0 := by show xs.toInt.toNat = _; rw [hs]; rfl
            rcases (by omega : ty = 0 ∨ ty = 1) with e | e
            · subst e
              obtain ⟨f, rfl, gf, gy⟩ := zg_CI c1 c2 gc
              obtain ⟨f2, rfl, -, -⟩ := zg_CI e1 e2 ge
              have ev : ∀ j, j < e.2.2.1 → va_cpy f f2 xs.toNatClampNeg xd.toNatClampNeg xk.toNatClampNeg j = f j := by
                intro j hj
                unfold va_cpy
                rw [hdn, hsn, hkn, if_pos ⟨Nat.zero_le _, by omega⟩]
                congr 1
                omega
              refine hI (by rw [zg_cats gr]; exact hcs) rfl hc' he' (nneg _ (by omega)) (nneg _ (by omega)) (nneg _ (by omega)) (by omega) (by omega) (k0 _ (List.mem_singleton.mpr rfl) ρ _ lv _ (zLE.refl ρ) ⟨g1, zL2.set ?_ _ g2, g3, gr, g5⟩)
              refine Or.inr (Or.inr (Or.inl ⟨rfl, rfl, _, rfl, fun j hj => ?_, fun q hq hkq => ?_⟩))
              · have hj : j < e.2.2.1 := hj
                rw [ev j hj]
                exact gf j (by omega)
              · obtain ⟨m, m1, m2⟩ := gy q hq hkq
                refine ⟨m, m1, fun a b => ?_⟩
                have b : m < (e.2.2.1 : Int) := b
                dsimp only
                rw [ev m.toNat (by omega)]
                exact m2 a (by omega)
            · subst e
              obtain ⟨f, rfl, gf, gy⟩ := zg_CJ c1 c2 gc
              obtain ⟨f2, rfl, -, -⟩ := zg_CJ e1 e2 ge
              have ev : ∀ j, j < e.2.2.1 → va_cpy f f2 xs.toNatClampNeg xd.toNatClampNeg xk.toNatClampNeg j = f j := by
                intro j hj
                unfold va_cpy
                rw [hdn, hsn, hkn, if_pos ⟨Nat.zero_le _, by omega⟩]
                congr 1
                omega
              refine hJ (by rw [zg_cats gr]; exact hcs) rfl hc' he' (nneg _ (by omega)) (nneg _ (by omega)) (nneg _ (by omega)) (by omega) (by omega) (k0 _ (List.mem_singleton.mpr rfl) ρ _ lv _ (zLE.refl ρ) ⟨g1, zL2.set ?_ _ g2, g3, gr, g5⟩)
              refine Or.inr (Or.inr (Or.inr (Or.inl ⟨rfl, rfl, _, rfl, fun j hj => ?_, fun q hq hkq => ?_⟩)))
              · have hj : j < e.2.2.1 := hj
                rw [ev j hj]
                exact gf j (by omega)
              · obtain ⟨m, m1, m2⟩ := gy q hq hkq
                refine ⟨m, m1, fun a b => ?_⟩
                have b : m < (e.2.2.1 : Int) := b
                dsimp only
                rw [ev m.toNat (by omega)]
                exact m2 a (by omega)
          · split at hts
            · next hf =>
              cases hts
              obtain ⟨n1, n2, l1, l2, hb, hb1, hb5, hk, hd, hs, hsk, hdk⟩ := hf
              have hk := zlb_g g1 exk hk
              have hd := zlb_g g1 exd hd
              have hs := zlb_g g1 exs hs
              have hsk := zle2_g g1 exs exk hsk
              have hdk := zle2_g g1 exd exk hdk
              have hkn : (xk.toNatClampNeg : Int) = xk.toInt := by show ((xk.toInt.toNat : Nat) : Int) = _; omega
              have hdn : (xd.toNatClampNeg : Int) = xd.toInt := by show ((xd.toInt.toNat : Nat) : Int) = _; omega
              have hsn : (xs.toNatClampNeg : Int) = xs.toInt := by show ((xs.toInt.toNat : Nat) : Int) = _; omega
              rcases (by omega : ty = 0 ∨ ty = 1) with e | e
              · subst e
                obtain ⟨f, rfl, gf, -⟩ := zg_CI c1 c2 gc
                obtain ⟨f2, rfl, gf2, -⟩ := zg_CI e1 e2 ge
                refine hI (by rw [zg_cats gr]; exact hcs) rfl hc' he' (nneg _ (by omega)) (nneg _ (by omega)) (nneg _ (by omega)) (by omega) (by omega) (k0 _ (List.mem_singleton.mpr rfl) ρ _ lv _ (zLE.refl ρ) ⟨g1, zL2.set ?_ _ g2, g3, gr, g5⟩)
                refine Or.inr (Or.inr (Or.inl ⟨rfl, rfl, _, rfl, fun j hj => ?_, zg_Y.nil _ _ _⟩))
                have hj : j < e.2.2.1 := hj
                show zg_V ρ (e.2.2.2.1.headD (3, 0)) (.int (va_cpy f f2 _ _ _ j))
                unfold va_cpy
                split
                · next hin =>
                  have := gf (xs.toNatClampNeg + (j - xd.toNatClampNeg)) (by omega)
                  rw [znc_look n1 (by omega), hb] at this
                  exact this
                · have := gf2 j hj
                  rw [znc_look n2 (by omega)] at this
                  exact this
              · subst e
                obtain ⟨f, rfl, gf, -⟩ := zg_CJ c1 c2 gc
                obtain ⟨f2, rfl, gf2, -⟩ := zg_CJ e1 e2 ge
                refine hJ (by rw [zg_cats gr]; exact hcs) rfl hc' he' (nneg _ (by omega)) (nneg _ (by omega)) (nneg _ (by omega)) (by omega) (by omega) (k0 _ (List.mem_singleton.mpr rfl) ρ _ lv _ (zLE.refl ρ) ⟨g1, zL2.set ?_ _ g2, g3, gr, g5⟩)
                refine Or.inr (Or.inr (Or.inr (Or.inl ⟨rfl, rfl, _, rfl, fun j hj => ?_, zg_Y.nil _ _ _⟩)))
                have hj : j < e.2.2.1 := hj
                show zg_V ρ (e.2.2.2.1.headD (3, 0)) (.long (va_cpy f f2 _ _ _ j))
                unfold va_cpy
                split
                · next hin =>
                  have := gf (xs.toNatClampNeg + (j - xd.toNatClampNeg)) (by omega)
                  rw [znc_look n1 (by omega), hb] at this
                  exact this
                · have := gf2 j hj
                  rw [znc_look n2 (by omega)] at this
                  exact this
            · split at hts
              · next hf =>
                cases hts
                obtain ⟨rfl, k1, d1, s1, k2, d2, s2, hsk, hdk, hl⟩ := hf
                have hk : xk.toInt = k.2 := by rcases exk with ⟨-, e⟩ | ⟨e, -⟩ <;> omega
                have hd : xd.toInt = dp.2 := by rcases exd with ⟨-, e⟩ | ⟨e, -⟩ <;> omega
                have hs : xs.toInt = sp.2 := by rcases exs with ⟨-, e⟩ | ⟨e, -⟩ <;> omega
                have hkn : xk.toNatClampNeg = k.2.toNat := by show xk.toInt.toNat = _; rw [hk]
                have hdn : xd.toNatClampNeg = dp.2.toNat := by show xd.toInt.toNat = _; rw [hd]
                have hsn : xs.toNatClampNeg = sp.2.toNat := by show xs.toInt.toNat = _; rw [hs]
                obtain ⟨f, rfl, gf, -⟩ := zg_CI c1 c2 gc
                obtain ⟨f2, rfl, gf2, -⟩ := zg_CI e1 e2 ge
                refine hI (by rw [zg_cats gr]; exact hcs) rfl hc' he' (nneg _ (by omega)) (nneg _ (by omega)) (nneg _ (by omega)) (by omega) (by omega) (k0 _ (List.mem_singleton.mpr rfl) ρ _ lv _ (zLE.refl ρ) ⟨g1, zL2.set ?_ _ g2, g3, gr, g5⟩)
                rw [hkn, hdn, hsn]
                refine Or.inr (Or.inr (Or.inl ⟨rfl, rfl, _, rfl, fun j hj => ?_, fun q hq hkq => ?_⟩))
                · have hj : j < e.2.2.1 := hj
                  show zg_V ρ (((zcpo c e sp.2.toNat dp.2.toNat k.2.toNat).lookup j).getD (e.2.2.2.1.headD (3, 0))) (.int (va_cpy f f2 _ _ _ j))
                  unfold zcpo
                  rw [zrl_look _ _ _ _ (Nat.zero_le _) (by omega)]
                  show zg_V ρ (if dp.2.toNat ≤ j ∧ j < dp.2.toNat + k.2.toNat then zx_el c (sp.2.toNat + (j - dp.2.toNat)) else zx_el e j) _
                  unfold va_cpy
                  split
                  · next hin => exact gf _ (by omega)
                  · exact gf2 j hj
                · have h1 := zrl_lt _ _ _ _ hq
                  have hkq : 1000000 ≤ q.1 := hkq
                  omega
              · cases hts
        · cases hts
      · cases hts
    · cases hts
  · cases hts
/-- an array filled with one value -/
def zx_fil (mc ms ty nx : Nat) (t : zA_T) : zA_R := match t.2.2.2.1 with
  | v :: a :: r => if a.1 = 2 ∧ 3 ≤ a.2.toNat ∧ zx_ty ty v = true ∧ (r.map zcat).sum ≤ 8 ∧ t.2.2.2.2.1 ≤ mc ∧ t.2.2.2.2.2 ≤ ms then
      (match t.2.1[a.2.toNat - 3]? with
        | some c => if c.1 = 1 ∧ c.2.1 = ty ∧ c.2.2.1 < 2147483648 then some [(nx, zt_H t (t.2.1.set (a.2.toNat - 3) (1, ty, c.2.2.1, [zn t.1 v], [])) r)] else none
        | none => none) else none
  | _ => none
theorem zo_fil {ty pc nx : Nat} {t : zA_T} (hty : ty < 2)
    (hI : ∀ {lv st ph cc ns} {i n : Nat} {f : Nat → Int32} {x : Int32}, cc ≤ mc → ns ≤ ms → (st.map (fun v => v.category)).sum ≤ 8 → ty = 0 → ph[i]? = some (.inl (0, n, z_I f)) → n < 2147483648 → (∀ f' : Nat → Int32, (∀ j, j < n → f' j = x) → ZW l d y X mc ms Q nx lv st (ph.set i (.inl (0, n, z_I f'))) cc ns) → ZW l d y X mc ms Q pc lv (.int x :: .ref (i + 3) :: st) ph cc ns)
    (hJ : ∀ {lv st ph cc ns} {i n : Nat} {f : Nat → Int64} {x : Int64}, cc ≤ mc → ns ≤ ms → (st.map (fun v => v.category)).sum ≤ 8 → ty = 1 → ph[i]? = some (.inl (1, n, z_J f)) → n < 2147483648 → (∀ f' : Nat → Int64, (∀ j, j < n → f' j = x) → ZW l d y X mc ms Q nx lv st (ph.set i (.inl (1, n, z_J f'))) cc ns) → ZW l d y X mc ms Q pc lv (.long x :: .ref (i + 3) :: st) ph cc ns) :
    zSd l d y X mc ms XL φ Q pc t (zx_fil mc ms ty nx t) := by
  obtain ⟨S, H, L, s0, cc, ns⟩ := t
  intro ts hts ρ ph lv st g k0
  obtain ⟨g1, g2, g3, g4, g5⟩ := g
  unfold zx_fil at hts
  split at hts
  · next v a r hst =>
    have hst : s0 = v :: a :: r := hst
    subst hst
    obtain ⟨vv, st1, rfl, gv, gr1⟩ := zL2.cons1 g4
    obtain ⟨va, st2, rfl, ga, gr⟩ := zL2.cons1 gr1
    split at hts
    · next h =>
      obtain ⟨h1, h2, h3, hcs, hm1, hm2⟩ := h
      have e1 := zg_ref h1 ga
      subst e1
      rw [z_back3 h2]
      split at hts
      · next c hc =>
        obtain ⟨c', hc', gc⟩ := zL2.get g2 hc
        split at hts
        · next hh =>
          cases hts
          obtain ⟨c1, c2, c3⟩ := hh
          rcases (by omega : ty = 0 ∨ ty = 1) with e | e
          · subst e
            obtain ⟨f, rfl, gf, -⟩ := zg_CI c1 c2 gc
            obtain ⟨x, rfl, -⟩ := zg_int (by simpa [zx_ty] using h3) gv
            refine hI hm1 hm2 (by rw [zg_cats gr]; exact hcs) rfl hc' c3 (fun f' hf' => k0 _ (List.mem_singleton.mpr rfl) ρ _ lv _ (zLE.refl ρ) ⟨g1, zL2.set ?_ _ g2, g3, gr, g5⟩)
            refine Or.inr (Or.inr (Or.inl ⟨rfl, rfl, _, rfl, fun j hj => ?_, zg_Y.nil _ _ _⟩))
            rw [hf' j hj]
            exact zn_g g1 gv
          · subst e
            obtain ⟨f, rfl, gf, -⟩ := zg_CJ c1 c2 gc
            obtain ⟨x, rfl, -⟩ := zg_long (by simpa [zx_ty] using h3) gv
            refine hJ hm1 hm2 (by rw [zg_cats gr]; exact hcs) rfl hc' c3 (fun f' hf' => k0 _ (List.mem_singleton.mpr rfl) ρ _ lv _ (zLE.refl ρ) ⟨g1, zL2.set ?_ _ g2, g3, gr, g5⟩)
            refine Or.inr (Or.inr (Or.inr (Or.inl ⟨rfl, rfl, _, rfl, fun j hj => ?_, zg_Y.nil _ _ _⟩)))
            rw [hf' j hj]
            exact zn_g g1 gv
        · cases hts
      · cases hts
    · cases hts
  · cases hts
/-- Object.<init> -/
def zx_oin (nx : Nat) (t : zA_T) : zA_R := match t.2.2.2.1 with
  | a :: r => if a.1 = 2 ∧ (r.map zcat).sum ≤ 8 then some [(nx, zt_st t r)] else none
  | [] => none
theorem zo_oin {pc nx : Nat} {t : zA_T} (hs : ∀ {lv st ph cc ns} {a : Nat}, (st.map (fun v => v.category)).sum ≤ 8 → ZW l d y X mc ms Q nx lv st ph cc ns → ZW l d y X mc ms Q pc lv (.ref a :: st) ph cc ns) : zSd l d y X mc ms XL φ Q pc t (zx_oin nx t) := by
  obtain ⟨S, H, L, s0, cc, ns⟩ := t
  intro ts hts ρ ph lv st g k0
  obtain ⟨g1, g2, g3, g4, g5⟩ := g
  unfold zx_oin at hts
  split at hts
  · next a r hst =>
    have hst : s0 = a :: r := hst
    subst hst
    obtain ⟨va, st1, rfl, ga, gr⟩ := zL2.cons1 g4
    split at hts
    · next h =>
      cases hts
      have e1 := zg_ref h.1 ga
      subst e1
      exact hs (by rw [zg_cats gr]; exact h.2) (k0 _ (List.mem_singleton.mpr rfl) ρ ph lv _ (zLE.refl ρ) ⟨g1, g2, g3, gr, g5⟩)
    · cases hts
  · cases hts
end ZO
end
section
/-! PART 15b: longs made ints, and divided. -/
section ZO
variable {l : Launch} {d : Nat} {y : zx_Y} {X : zx_X} {mc ms XL : Nat} {φ : List z_C} {Q : Option Value → List z_C → Prop}
def zx_l2i (nx : Nat) (t : zA_T) : zA_R := match t.2.2.2.1 with
  | a0 :: r => let a := zn t.1 a0
    if a.1 = 4 then some [(nx, zt_st t ((0, zw32 a.2) :: r))] else if a.1 = 5 then (match zat t.1 a.2.toNat with
      | some q => if -2147483648 ≤ q.1 ∧ q.2 ≤ 2147483647 then some [(nx, zt_st t ((1, a.2) :: r))] else zx_new zfull (22, a, (0, 0)) nx t r
      | none => none) else none
  | [] => none
theorem zo_l2i {pc nx : Nat} {t : zA_T} (hs : ∀ {lv st ph cc ns} {a : Int64}, ZW l d y X mc ms Q nx lv (.int a.toInt32 :: st) ph cc ns → ZW l d y X mc ms Q pc lv (.long a :: st) ph cc ns) : zSd l d y X mc ms XL φ Q pc t (zx_l2i nx t) := by
  obtain ⟨S, H, L, s0, cc, ns⟩ := t
  intro ts hts ρ ph lv st g k0
  obtain ⟨g1, g2, g3, g4, g5⟩ := g
  unfold zx_l2i at hts
  split at hts
  · next a0 r hst =>
    have hst : s0 = a0 :: r := hst
    subst hst
    obtain ⟨va, st1, rfl, ga0, gr⟩ := zL2.cons1 g4
    have ga := zn_g g1 ga0
    dsimp only at hts
    generalize hea : zn S a0 = a at *
    split at hts
    · next h0 =>
      cases hts
      obtain ⟨x, rfl, ex⟩ := zg_long (a := a) (by simp [zIsJ, h0]) ga
      have hx : x.toInt = a.2 := by rcases ex with ⟨-, e⟩ | ⟨e, -⟩ <;> omega
      refine hs (k0 _ (List.mem_singleton.mpr rfl) ρ ph lv _ (zLE.refl ρ) ⟨g1, g2, g3, ⟨zg_ofI ?_, gr⟩, g5⟩)
      rw [Int64.toInt_toInt32, hx, zw32_eq]
    · split at hts
      · next h1 =>
        obtain ⟨x, rfl, ex⟩ := zg_long (a := a) (by simp [zIsJ, h1]) ga
        have ek : ρ[a.2.toNat]? = some x.toInt := by
          rcases ex with ⟨h | h, e⟩ | ⟨-, e⟩
          · omega
          · omega
          · exact e
        split at hts
        · next q hq =>
          have b := zat_in g1 hq ek
          split at hts
          · next hr =>
            cases hts
            refine hs (k0 _ (List.mem_singleton.mpr rfl) ρ ph lv _ (zLE.refl ρ) ⟨g1, g2, g3, ⟨Or.inr (Or.inl ⟨rfl, _, rfl, ?_⟩), gr⟩, g5⟩)
            rw [Int64.toInt_toInt32, Int.bmod_eq_of_le (by omega) (by omega)]
            exact ek
          · obtain ⟨t', ρ', m, hle, gt, e⟩ := zx_new_g (φ := φ) (x := x.toInt32) hts g1 g2 g3 gr g5 (zfull_in _).1 (zfull_in _).2 (Or.inr ⟨x.toInt, 0, ex, Or.inl ⟨Or.inl rfl, rfl⟩, by rw [Int64.toInt_toInt32]; exact (zw32_eq _).symm⟩)
            have := k0 _ m ρ' ph lv _ hle gt
            rw [e] at this
            exact hs this
        · cases hts
      · cases hts
  · cases hts
/-- i2b (23), i2s (24) -/
def zwq (w : Nat) : zI2 := if w = 23 then (-128, 127) else (-32768, 32767)
def zwc (w : Nat) (z : Int) : Int := if w = 23 then z.bmod 256 else z.bmod 65536
theorem zwc_in {w : Nat} (hw : w = 23 ∨ w = 24) (z : Int) : (zwq w).1 ≤ zwc w z ∧ zwc w z ≤ (zwq w).2 := by
  have u1 := Int.bmod_lt (x := z) (m := 256) (by decide)
  have u2 := Int.le_bmod (x := z) (m := 256) (by decide)
  have u3 := Int.bmod_lt (x := z) (m := 65536) (by decide)
  have u4 := Int.le_bmod (x := z) (m := 65536) (by decide)
  rcases hw with rfl | rfl
  · exact ⟨by show (-128 : Int) ≤ z.bmod 256; omega, by show z.bmod 256 ≤ (127 : Int); omega⟩
  · exact ⟨by show (-32768 : Int) ≤ z.bmod 65536; omega, by show z.bmod 65536 ≤ (32767 : Int); omega⟩
theorem zwc_id {w : Nat} (hw : w = 23 ∨ w = 24) {z : Int} (h1 : (zwq w).1 ≤ z) (h2 : z ≤ (zwq w).2) : z = zwc w z := by
  rcases hw with rfl | rfl
  · have h1 : (-128 : Int) ≤ z := h1
    have h2 : z ≤ (127 : Int) := h2
    exact (Int.bmod_eq_of_le (by omega) (by omega)).symm
  · have h1 : (-32768 : Int) ≤ z := h1
    have h2 : z ≤ (32767 : Int) := h2
    exact (Int.bmod_eq_of_le (by omega) (by omega)).symm
theorem zwc_c {w : Nat} (hw : w = 23 ∨ w = 24) (z v : Int) : zwc w z = zb_c w z v := by
  rcases hw with rfl | rfl
  · rfl
  · rfl
def zx_i2w (w nx : Nat) (t : zA_T) : zA_R := match t.2.2.2.1 with
  | a0 :: r => let a := zn t.1 a0
    if a.1 = 0 then some [(nx, zt_st t ((0, zwc w a.2) :: r))] else if a.1 = 1 then (match zat t.1 a.2.toNat with
      | some p => if (zwq w).1 ≤ p.1 ∧ p.2 ≤ (zwq w).2 then some [(nx, zt_st t (a :: r))] else zx_new (zwq w) (w, a, (0, 0)) nx t r
      | none => none) else none
  | [] => none
theorem zo_i2w {w pc nx : Nat} {t : zA_T} (hw : w = 23 ∨ w = 24) (hs : ∀ {lv st ph cc ns} {a z : Int32}, z.toInt = zwc w a.toInt → ZW l d y X mc ms Q nx lv (.int z :: st) ph cc ns → ZW l d y X mc ms Q pc lv (.int a :: st) ph cc ns) : zSd l d y X mc ms XL φ Q pc t (zx_i2w w nx t) := by
  obtain ⟨S, H, L, s0, cc, ns⟩ := t
  intro ts hts ρ ph lv st g k0
  obtain ⟨g1, g2, g3, g4, g5⟩ := g
  unfold zx_i2w at hts
  split at hts
  · next a0 r hst =>
    have hst : s0 = a0 :: r := hst
    subst hst
    obtain ⟨va, st1, rfl, ga0, gr⟩ := zL2.cons1 g4
    have ga := zn_g g1 ga0
    dsimp only at hts
    generalize hea : zn S a0 = a at *
    have hz : ∀ x : Int32, ∃ z : Int32, z.toInt = zwc w x.toInt := by
      intro x
      have u := zwc_in hw x.toInt
      have v1 : -32768 ≤ (zwq w).1 := by rcases hw with rfl | rfl <;> decide
      have v2 : (zwq w).2 ≤ 32767 := by rcases hw with rfl | rfl <;> decide
      exact ⟨Int32.ofInt (zwc w x.toInt), Int32.toInt_ofInt_of_le (by omega) (by omega)⟩
    split at hts
    · next h0 =>
      cases hts
      obtain ⟨x, rfl, ex⟩ := zg_int (a := a) (by simp [zIs, h0]) ga
      have hx : x.toInt = a.2 := by rcases ex with ⟨-, e⟩ | ⟨e, -⟩ <;> omega
      obtain ⟨z, ez⟩ := hz x
      refine hs (a := x) ez (k0 _ (List.mem_singleton.mpr rfl) ρ ph lv _ (zLE.refl ρ) ⟨g1, g2, g3, ⟨zg_ofI ?_, gr⟩, g5⟩)
      rw [ez, hx]
    · split at hts
      · next h1 =>
        obtain ⟨x, rfl, ex⟩ := zg_int (a := a) (by simp [zIs, h1]) ga
        have ek : ρ[a.2.toNat]? = some x.toInt := by
          rcases ex with ⟨h | h, e⟩ | ⟨-, e⟩
          · omega
          · omega
          · exact e
        obtain ⟨z, ez⟩ := hz x
        have hqx := zwc_in hw x.toInt
        rw [← ez] at hqx
        split at hts
        · next p hp =>
          have b := zat_in g1 hp ek
          split at hts
          · next hr =>
            cases hts
            exact hs (a := x) (z := x) (zwc_id hw (Int.le_trans hr.1 b.1) (Int.le_trans b.2 hr.2)) (k0 _ (List.mem_singleton.mpr rfl) ρ ph lv _ (zLE.refl ρ) ⟨g1, g2, g3, ⟨ga, gr⟩, g5⟩)
          · obtain ⟨t', ρ', m, hle, gt, e⟩ := zx_new_g (φ := φ) (x := z) hts g1 g2 g3 gr g5 hqx.1 hqx.2 (Or.inr ⟨x.toInt, 0, ex, Or.inl ⟨Or.inl rfl, rfl⟩, by rw [ez]; exact zwc_c hw _ _⟩)
            have := k0 _ m ρ' ph lv _ hle gt
            rw [e] at this
            exact hs (a := x) ez this
        · cases hts
      · cases hts
  · cases hts
/-- a result that is a long -/
def zx_newL (q : zI2) (D : zA_D) (nx : Nat) (t : zA_T) (r : List zA_V) : zA_R := if q.1 = q.2 then some [(nx, zt_st t ((4, q.1) :: r))] else
  match (if D.1 = 0 then none else zfd D t.1 0) with
  | some j => some [(nx, zt_st t ((5, (j : Int)) :: r))]
  | none => some [(nx, zt_Sst t (t.1 ++ [(q.1, q.2, D)]) ((5, (t.1.length : Int)) :: r))]
theorem zx_newL_g {q : zI2} {D : zA_D} {nx : Nat} {t : zA_T} {r : List zA_V} {ρ : List Int} {ph : List z_C} {lv : List (Nat × Value)} {st : List Value} {x : Int64} {ts : List (Nat × zA_T)} (h : zx_newL q D nx t r = some ts) (g1 : zg_S ρ t.1) (g2 : zL2 (zg_C φ ρ) t.2.1 ph) (g3 : zg_L ρ t.2.2.1 lv) (gr : zL2 (zg_V ρ) r st) (g5 : zg_X ρ XL X) (h1 : q.1 ≤ x.toInt) (h2 : x.toInt ≤ q.2) (h3 : zg_D ρ x.toInt D) :
    ∃ t' ρ', (nx, t') ∈ ts ∧ zLE ρ ρ' ∧ zg_T XL X φ ρ' t' ph lv (.long x :: st) ∧ t'.2.2.2.2 = t.2.2.2.2 := by
  unfold zx_newL at h
  split at h
  · next e =>
    cases h
    exact ⟨_, ρ, List.mem_singleton.mpr rfl, zLE.refl ρ, ⟨g1, g2, g3, ⟨zg_ofJ (by omega), gr⟩, g5⟩, rfl⟩
  · split at h
    · next j hj =>
      cases h
      split at hj
      · cases hj
      · next hD =>
        have e : ρ[j]? = some x.toInt := by
          refine zfd_g g1 hj hD (fun u v hu hv => ?_)
          rcases h3 with h0 | ⟨u', v', hu', hv', e⟩
          · exact absurd h0 hD
          · rw [zE_fun hu hu', zE_fun hv hv']
            exact e
        exact ⟨_, ρ, List.mem_singleton.mpr rfl, zLE.refl ρ, ⟨g1, g2, g3, ⟨zg_ofKJ e, gr⟩, g5⟩, rfl⟩
    · cases h
      have hle := zLE.app ρ x.toInt
      exact ⟨_, ρ ++ [x.toInt], List.mem_singleton.mpr rfl, hle, ⟨g1.pushD h1 h2 h3, zL2.mono (fun _ _ => zg_C.mono hle) g2, zL2.mono (fun _ _ q => ⟨q.1, q.2.mono hle⟩) g3, ⟨zg_ofKJ (g1.at _), zL2.mono (fun _ _ => zg_V.mono hle) gr⟩, g5.mono hle⟩, rfl⟩
/-- a long as an int's constant or name -/
def zasI (a : zA_V) : zA_V := if a.1 = 4 then (0, a.2) else (1, a.2)
theorem zasI_E {ρ : List Int} {a : zA_V} {n : Int} (h : zIsJ a = true) (g : zE ρ a n) : zE ρ (zasI a) n := by
  unfold zasI
  simp only [zIsJ, Bool.or_eq_true, beq_iff_eq] at h
  rcases g with ⟨g1, g2⟩ | ⟨g1, g2⟩
  · rw [if_pos (by omega)]
    exact Or.inl ⟨Or.inl rfl, g2⟩
  · rw [if_neg (by omega)]
    exact Or.inr ⟨Or.inl rfl, g2⟩
/-- ldiv (19), lrem (20) of small longs, not below 0 -/
def zx_ldr (k nx : Nat) (t : zA_T) : zA_R := match t.2.2.2.1 with
  | b0 :: a0 :: r =>
    let a := zn t.1 a0
    let b := zn t.1 b0
    if zIsJ a = true ∧ zIsJ b = true then (match zr t.1 a, zr t.1 b with
      | some p, some q => if 0 ≤ p.1 ∧ p.2 ≤ 2147483647 ∧ 0 < q.1 ∧ q.2 ≤ 2147483647 then zx_newL (zb_r k p q) (k, zasI a, zasI b) nx t r else none
      | _, _ => none) else none
  | _ => none
theorem zo_ldr {k pc nx : Nat} {t : zA_T} (hk : k = 19 ∨ k = 20) (hs : ∀ {lv st ph cc ns} {a b v : Int64}, ¬ b = 0 → (k = 19 → v = a / b) → (k = 20 → a - a / b * b = v) → ZW l d y X mc ms Q nx lv (.long v :: st) ph cc ns → ZW l d y X mc ms Q pc lv (.long b :: .long a :: st) ph cc ns) : zSd l d y X mc ms XL φ Q pc t (zx_ldr k nx t) := by
  obtain ⟨S, H, L, s0, cc, ns⟩ := t
  intro ts hts ρ ph lv st g k0
  obtain ⟨g1, g2, g3, g4, g5⟩ := g
  unfold zx_ldr at hts
  split at hts
  · next b0 a0 r hst =>
    have hst : s0 = b0 :: a0 :: r := hst
    subst hst
    obtain ⟨vb, st1, rfl, gb0, gr1⟩ := zL2.cons1 g4
    obtain ⟨va, st2, rfl, ga0, gr⟩ := zL2.cons1 gr1
    have ga := zn_g g1 ga0
    have gb := zn_g g1 gb0
    dsimp only at hts
    generalize hea : zn S a0 = a at *
    generalize heb : zn S b0 = b at *
    split at hts
    · next hI =>
      obtain ⟨x, rfl, ex⟩ := zg_long hI.1 ga
      obtain ⟨z, rfl, ez⟩ := zg_long hI.2 gb
      split at hts
      · next p q hp hq =>
        have b1 := zr_in g1 ex hp
        have b2 := zr_in g1 ez hq
        split at hts
        · next hc =>
          obtain ⟨c1, c2, c3, c4⟩ := hc
          have eu : (Int32.ofInt x.toInt).toInt = x.toInt := Int32.toInt_ofInt_of_le (by omega) (by omega)
          have ev : (Int32.ofInt z.toInt).toInt = z.toInt := Int32.toInt_ofInt_of_le (by omega) (by omega)
          have hb := zb_r_in (k := k) (p := p) (q := q) (a := Int32.ofInt x.toInt) (b := Int32.ofInt z.toInt) (by omega) (by omega) (by omega) (by omega) (by omega)
          rw [zb_cEq k _ _ (by omega), eu, ev] at hb
          obtain ⟨d1, d2⟩ := zldr_c (u := x.toInt) (v := z.toInt) (by omega) (by omega) (by omega) (by omega)
          have hne : ¬ z = 0 := fun e => by
            have : z.toInt = 0 := by rw [e]; rfl
            omega
          have q1 : 0 ≤ x.toInt / z.toInt := Int.ediv_nonneg (by omega) (by omega)
          have q2 : x.toInt / z.toInt ≤ x.toInt := Int.ediv_le_self _ (by omega)
          have q3 : x.toInt / z.toInt * z.toInt ≤ x.toInt := Int.ediv_mul_le _ (by omega)
          have q4 : 0 ≤ x.toInt / z.toInt * z.toInt := Int.mul_nonneg q1 (by omega)
          have hdiv : (x / z).toInt = x.toInt / z.toInt := by
            rw [Int64.toInt_div, Int.tdiv_eq_ediv_of_nonneg (by omega)]
            exact Int.bmod_eq_of_le (by omega) (by omega)
          have hrem : (x - x / z * z).toInt = x.toInt - x.toInt / z.toInt * z.toInt := by
            rw [Int64.toInt_sub, Int64.toInt_mul, hdiv, Int.bmod_eq_of_le (n := x.toInt / z.toInt * z.toInt) (by omega) (by omega)]
            exact Int.bmod_eq_of_le (by omega) (by omega)
          rcases hk with e | e
          · subst e
            obtain ⟨t', ρ', m, hle, gt, e⟩ := zx_newL_g (φ := φ) (x := x / z) hts g1 g2 g3 gr g5 (by rw [hdiv, ← d1]; exact hb.1) (by rw [hdiv, ← d1]; exact hb.2) (Or.inr ⟨x.toInt, z.toInt, zasI_E hI.1 ex, zasI_E hI.2 ez, by rw [hdiv]; exact d1.symm⟩)
            have := k0 _ m ρ' ph lv _ hle gt
            rw [e] at this
            exact hs hne (fun _ => rfl) (fun h => absurd h (by decide)) this
          · subst e
            obtain ⟨t', ρ', m, hle, gt, e⟩ := zx_newL_g (φ := φ) (x := x - x / z * z) hts g1 g2 g3 gr g5 (by rw [hrem, ← d2]; exact hb.1) (by rw [hrem, ← d2]; exact hb.2) (Or.inr ⟨x.toInt, z.toInt, zasI_E hI.1 ex, zasI_E hI.2 ez, by rw [hrem]; exact d2.symm⟩)
            have := k0 _ m ρ' ph lv _ hle gt
            rw [e] at this
            exact hs hne (fun h => absurd h (by decide)) (fun _ => rfl) this
        · cases hts
      · cases hts
    · cases hts
  · cases hts
def zx_pop2 (nx : Nat) (t : zA_T) : zA_R := match t.2.2.2.1 with
  | a :: r => if zcat a = 2 then some [(nx, zt_st t r)] else none
  | [] => none
theorem zo_pop2 {pc nx : Nat} {t : zA_T} (hs : ∀ {lv st ph cc ns} {v : Value}, v.category = 2 → ZW l d y X mc ms Q nx lv st ph cc ns → ZW l d y X mc ms Q pc lv (v :: st) ph cc ns) : zSd l d y X mc ms XL φ Q pc t (zx_pop2 nx t) := by
  obtain ⟨S, H, L, s0, cc, ns⟩ := t
  intro ts hts ρ ph lv st g k0
  obtain ⟨g1, g2, g3, g4, g5⟩ := g
  unfold zx_pop2 at hts
  split at hts
  · next a r hst =>
    have hst : s0 = a :: r := hst
    subst hst
    obtain ⟨va, st1, rfl, ga, gr⟩ := zL2.cons1 g4
    split at hts
    · next h =>
      cases hts
      exact hs ((zg_cat ga).trans h) (k0 _ (List.mem_singleton.mpr rfl) ρ ph lv _ (zLE.refl ρ) ⟨g1, g2, g3, gr, g5⟩)
    · cases hts
  · cases hts
end ZO
end
section
/-! PART 13: what an instruction of mine is checked against, and what it then owes. -/
theorem zw_arrI : Cond.arrayClass .int ∈ zx_tbl := List.mem_filter.mpr ⟨by decide +kernel, rfl⟩
theorem zw_arrJ : Cond.arrayClass .long ∈ zx_tbl := List.mem_filter.mpr ⟨by decide +kernel, rfl⟩
theorem zw_obj1 : Cond.instanceMethod Lib.objectInit ∈ zx_tbl := List.mem_filter.mpr ⟨by decide +kernel, rfl⟩
theorem zw_obj2 : Cond.code Lib.objectInit ⟨#[0xb1]⟩ 1 none ∈ zx_tbl := List.mem_filter.mpr ⟨by decide +kernel, rfl⟩
theorem zw_nat1 : Cond.native arraycopyName ∈ zx_tbl := List.mem_filter.mpr ⟨by decide +kernel, rfl⟩
theorem zw_nat2 : Cond.static arraycopyName ∈ zx_tbl := List.mem_filter.mpr ⟨by decide +kernel, rfl⟩
theorem zw_nat3 : Cond.initialized "java/lang/System" ∈ zx_tbl := List.mem_filter.mpr ⟨by decide +kernel, rfl⟩
theorem zw_and {a b : Bool} (h : (a && b) = true) : a = true ∧ b = true := by simpa using h
section ZK
variable {l : Launch} {d : Nat} {y : zx_Y} {X : zx_X} {mc ms XL : Nat} {φ : List z_C} {Q : Option Value → List z_C → Prop} {pc nx len : Nat} {ins : Instr} {o : List Int} {t : zA_T}
theorem zSd_none : zSd l d y X mc ms XL φ Q pc t none := fun ts h => by cases h

def ex0 (nx : Nat) (o : List Int) (t : zA_T) : zA_R := match o with | [i] => zx_load 2 i.toNat nx t | _ => none
theorem ok0 (hd : decode y.2.1 pc = .ok (ins, len)) (hc : ck0 y pc nx o ins len = true) : zSd l d y X mc ms XL φ Q pc t (ex0 nx o t) := by
  unfold ck0 at hc
  split at hc
  · rcases zw_or hc with h | h
    · obtain ⟨rfl, rfl, e1, rfl⟩ := of_decide_eq_true h
      exact zo_load (fun hl h0 h1 h2 k => by
        obtain ⟨x, rfl⟩ := h2 (by decide) (by decide)
        exact zs_aload_n (by omega) hl hd k)
    · obtain ⟨rfl, rfl, rfl⟩ := of_decide_eq_true h
      exact zo_load (fun hl h0 h1 h2 k => by
        obtain ⟨x, rfl⟩ := h2 (by decide) (by decide)
        exact zs_aload hl hd k)
  · cases hc
def ex2 (nx : Nat) (o : List Int) (t : zA_T) : zA_R := match o with | [i] => zx_load 0 i.toNat nx t | _ => none
theorem ok2 (hd : decode y.2.1 pc = .ok (ins, len)) (hc : ck2 y pc nx o ins len = true) : zSd l d y X mc ms XL φ Q pc t (ex2 nx o t) := by
  unfold ck2 at hc
  split at hc
  · rcases zw_or hc with h | h
    · obtain ⟨rfl, rfl, e1, rfl⟩ := of_decide_eq_true h
      exact zo_load (fun hl h0 h1 h2 k => by
        obtain ⟨x, rfl⟩ := h0 rfl
        exact zs_iload_n (by omega) hl hd k)
    · obtain ⟨rfl, rfl, rfl⟩ := of_decide_eq_true h
      exact zo_load (fun hl h0 h1 h2 k => by
        obtain ⟨x, rfl⟩ := h0 rfl
        exact zs_iload hl hd k)
  · cases hc
def ex37 (nx : Nat) (o : List Int) (t : zA_T) : zA_R := match o with | [i] => zx_load 1 i.toNat nx t | _ => none
theorem ok37 (hd : decode y.2.1 pc = .ok (ins, len)) (hc : ck37 y pc nx o ins len = true) : zSd l d y X mc ms XL φ Q pc t (ex37 nx o t) := by
  unfold ck37 at hc
  split at hc
  · rcases zw_or hc with h | h
    · obtain ⟨rfl, rfl, e1, rfl⟩ := of_decide_eq_true h
      exact zo_load (fun hl h0 h1 h2 k => by
        obtain ⟨x, rfl⟩ := h1 rfl
        exact zs_lload_n (by omega) hl hd k)
    · obtain ⟨rfl, rfl, rfl⟩ := of_decide_eq_true h
      exact zo_load (fun hl h0 h1 h2 k => by
        obtain ⟨x, rfl⟩ := h1 rfl
        exact zs_lload hl hd k)
  · cases hc
def ex23 (nx : Nat) (o : List Int) (t : zA_T) : zA_R := match o with | [i] => zx_store 0 i.toNat nx t | _ => none
theorem ok23 (hd : decode y.2.1 pc = .ok (ins, len)) (hc : ck23 y pc nx o ins len = true) : zSd l d y X mc ms XL φ Q pc t (ex23 nx o t) := by
  unfold ck23 at hc
  split at hc
  · obtain ⟨hb, hc⟩ := zw_and hc
    have hb := of_decide_eq_true hb
    rcases zw_or hc with h | h
    · obtain ⟨rfl, rfl, e1, rfl⟩ := of_decide_eq_true h
      exact zo_store (fun h0 h1 h2 k => by
        obtain ⟨x, rfl⟩ := h0 rfl
        exact zs_istore_n (by omega) hb hd k)
    · obtain ⟨rfl, rfl, rfl⟩ := of_decide_eq_true h
      exact zo_store (fun h0 h1 h2 k => by
        obtain ⟨x, rfl⟩ := h0 rfl
        exact zs_istore hb hd k)
  · cases hc
def ex39 (nx : Nat) (o : List Int) (t : zA_T) : zA_R := match o with | [i] => zx_store 2 i.toNat nx t | _ => none
theorem ok39 (hd : decode y.2.1 pc = .ok (ins, len)) (hc : ck39 y pc nx o ins len = true) : zSd l d y X mc ms XL φ Q pc t (ex39 nx o t) := by
  unfold ck39 at hc
  split at hc
  · obtain ⟨hb, hc⟩ := zw_and hc
    have hb := of_decide_eq_true hb
    rcases zw_or hc with h | h
    · obtain ⟨rfl, rfl, e1, rfl⟩ := of_decide_eq_true h
      exact zo_store (fun h0 h1 h2 k => by
        obtain ⟨x, rfl⟩ := h2 (by decide) (by decide)
        exact zs_astore_n (by omega) hb hd k)
    · obtain ⟨rfl, rfl, rfl⟩ := of_decide_eq_true h
      exact zo_store (fun h0 h1 h2 k => by
        obtain ⟨x, rfl⟩ := h2 (by decide) (by decide)
        exact zs_astore hb hd k)
  · cases hc
def ex38 (nx : Nat) (o : List Int) (t : zA_T) : zA_R := match o with | [i] => zx_store 1 i.toNat nx t | _ => none
theorem ok38 (hd : decode y.2.1 pc = .ok (ins, len)) (hc : ck38 y pc nx o ins len = true) : zSd l d y X mc ms XL φ Q pc t (ex38 nx o t) := by
  unfold ck38 at hc
  split at hc
  · obtain ⟨hb, hc⟩ := zw_and hc
    have hb := of_decide_eq_true hb
    rcases zw_or hc with h | h
    · obtain ⟨rfl, rfl, e1, rfl⟩ := of_decide_eq_true h
      exact zo_store (fun h0 h1 h2 k => by
        obtain ⟨x, rfl⟩ := h1 rfl
        exact zs_lstore_n (by omega) hb hd k)
    · obtain ⟨rfl, rfl, rfl⟩ := of_decide_eq_true h
      exact zo_store (fun h0 h1 h2 k => by
        obtain ⟨x, rfl⟩ := h1 rfl
        exact zs_lstore hb hd k)
  · cases hc
def ex3 (nx : Nat) (o : List Int) (t : zA_T) : zA_R := match o with | c :: _ => zx_push (0, c) nx t | [] => none
theorem ok3 (hd : decode y.2.1 pc = .ok (ins, len)) (hc : ck3 y pc nx o ins len = true) : zSd l d y X mc ms XL φ Q pc t (ex3 nx o t) := by
  unfold ck3 at hc
  split at hc
  · rcases zw_or hc with h | h
    · obtain ⟨rfl, rfl, rfl, e2⟩ := of_decide_eq_true h
      exact zo_pushI e2 (fun k => zs_iconst rfl hd k)
    · rcases zw_or h with h | h
      · obtain ⟨rfl, rfl, rfl, e2⟩ := of_decide_eq_true h
        exact zo_pushI e2 (fun k => zs_bipush rfl hd k)
      · obtain ⟨rfl, rfl, rfl, e2⟩ := of_decide_eq_true h
        exact zo_pushI e2 (fun k => zs_sipush rfl hd k)
  · obtain ⟨h1, h2⟩ := zw_and hc
    rcases zw_or h1 with h | h
    · obtain ⟨rfl, rfl, rfl, e2⟩ := of_decide_eq_true h
      exact zo_pushI e2 (fun k => zs_ldc (zx_of h2) hd k)
    · obtain ⟨rfl, rfl, rfl, e2⟩ := of_decide_eq_true h
      exact zo_pushI e2 (fun k => zs_ldcw (zx_of h2) hd k)
  · cases hc
def ex36 (nx : Nat) (o : List Int) (t : zA_T) : zA_R := match o with | c :: _ => zx_push (4, c) nx t | [] => none
theorem ok36 (hd : decode y.2.1 pc = .ok (ins, len)) (hc : ck36 y pc nx o ins len = true) : zSd l d y X mc ms XL φ Q pc t (ex36 nx o t) := by
  unfold ck36 at hc
  split at hc
  · obtain ⟨rfl, rfl, rfl, e2⟩ := of_decide_eq_true hc
    exact zo_pushJ e2 (fun k => zs_lconst rfl hd k)
  · obtain ⟨h1, h2⟩ := zw_and hc
    obtain ⟨rfl, rfl, rfl, e2⟩ := of_decide_eq_true h1
    exact zo_pushJ e2 (fun k => zs_ldc2 (zx_of h2) hd k)
  · cases hc
def ex1 (nx : Nat) (o : List Int) (t : zA_T) : zA_R := match o with | [k, ci, _, _] => zx_get k.toNat ci.toNat nx t | _ => none
theorem ok1 (hd : decode y.2.1 pc = .ok (ins, len)) (hc : ck1 y pc nx o ins len = true) : zSd l d y X mc ms XL φ Q pc t (ex1 nx o t) := by
  unfold ck1 at hc
  split at hc
  · split at hc
    · next q hq =>
      obtain ⟨h1, h2⟩ := zw_and hc
      obtain ⟨rfl, rfl, rfl, e2⟩ := of_decide_eq_true h1
      exact zo_get (fun hi hv k => zs_getfield (C := q.1) (T := q.2.1) (N := q.2.2) hd (zx_of h2) hq e2 hi hv k)
    · cases hc
  · cases hc
theorem zx_tc_g {tc : Int} {ty : FieldType} {v : Value} (h : zx_tc tc ty = true) (h0 : tc.toNat = 0 → ∃ x, v = .int x) (h1 : tc.toNat = 1 → v = .int 0 ∨ v = .int 1) (h2 : tc.toNat ≠ 0 → tc.toNat ≠ 1 → ∃ a, v = .ref a) : ∀ K, narrow ty (z_em K v) = z_em K v ∧ fits ty (z_em K v) = true := by
  intro K
  cases ty with
  | int =>
    have e := of_decide_eq_true h
    obtain ⟨x, rfl⟩ := h0 (by omega)
    exact ⟨rfl, rfl⟩
  | boolean =>
    have e := of_decide_eq_true h
    rcases h1 (by omega) with rfl | rfl
    · exact ⟨rfl, rfl⟩
    · exact ⟨rfl, rfl⟩
  | object n =>
    have e := of_decide_eq_true h
    obtain ⟨x, rfl⟩ := h2 (by omega) (by omega)
    exact ⟨rfl, rfl⟩
  | array n =>
    have e := of_decide_eq_true h
    obtain ⟨x, rfl⟩ := h2 (by omega) (by omega)
    exact ⟨rfl, rfl⟩
  | _ => cases h
def ex52 (nx : Nat) (o : List Int) (t : zA_T) : zA_R := match o with | [k, ci, tc, _, _] => zx_put k.toNat ci.toNat tc.toNat nx t | _ => none
theorem ok52 (hd : decode y.2.1 pc = .ok (ins, len)) (hc : ck52 y pc nx o ins len = true) : zSd l d y X mc ms XL φ Q pc t (ex52 nx o t) := by
  unfold ck52 at hc
  split at hc
  · split at hc
    · next q hq =>
      obtain ⟨h1, h2⟩ := zw_and hc
      obtain ⟨h3, h4⟩ := zw_and h2
      obtain ⟨rfl, rfl, rfl, e2, e3⟩ := of_decide_eq_true h1
      exact zo_put (fun hi hl f0 f1 f2 k => zs_putfield (C := q.1) (T := q.2.1) (N := q.2.2) hd (zx_of h4) hq e2 hi hl e3 (zx_tc_g h3 f0 f1 f2) k)
    · cases hc
  · cases hc
def ex53 (nx : Nat) (o : List Int) (t : zA_T) : zA_R := match o with | [k, ci, tc, _, _] => zx_put k.toNat ci.toNat tc.toNat nx t | _ => none
theorem ok53 (hd : decode y.2.1 pc = .ok (ins, len)) (hc : ck53 y pc nx o ins len = true) : zSd l d y X mc ms XL φ Q pc t (ex53 nx o t) := by
  unfold ck53 at hc
  split at hc
  · split at hc
    · next q hq =>
      obtain ⟨h1, h2⟩ := zw_and hc
      obtain ⟨h3, h4⟩ := zw_and h2
      obtain ⟨rfl, rfl, rfl, e2, e3⟩ := of_decide_eq_true h1
      exact zo_put (fun hi hl f0 f1 f2 k => zs_putfinal (C := q.1) (T := q.2.1) (N := q.2.2) hd (zx_of h4) hq e2 hi hl e3.1 e3.2.1 e3.2.2 (zx_tc_g h3 f0 f1 f2) k)
    · cases hc
  · cases hc
theorem ok10 (hd : decode y.2.1 pc = .ok (ins, len)) (hc : ck10 y pc nx o ins len = true) : zSd l d y X mc ms XL φ Q pc t (zx_bin XL 10 nx pc t) := by
  obtain ⟨rfl, rfl, rfl⟩ := of_decide_eq_true hc
  exact zo_bin (by decide) (fun hne k => zs_iadd hd k)
theorem ok11 (hd : decode y.2.1 pc = .ok (ins, len)) (hc : ck11 y pc nx o ins len = true) : zSd l d y X mc ms XL φ Q pc t (zx_bin XL 11 nx pc t) := by
  obtain ⟨rfl, rfl, rfl⟩ := of_decide_eq_true hc
  exact zo_bin (by decide) (fun hne k => zs_isub hd k)
theorem ok12 (hd : decode y.2.1 pc = .ok (ins, len)) (hc : ck12 y pc nx o ins len = true) : zSd l d y X mc ms XL φ Q pc t (zx_bin XL 12 nx pc t) := by
  obtain ⟨rfl, rfl, rfl⟩ := of_decide_eq_true hc
  exact zo_bin (by decide) (fun hne k => zs_imul hd k)
theorem ok13 (hd : decode y.2.1 pc = .ok (ins, len)) (hc : ck13 y pc nx o ins len = true) : zSd l d y X mc ms XL φ Q pc t (zx_bin XL 13 nx pc t) := by
  obtain ⟨rfl, rfl, rfl⟩ := of_decide_eq_true hc
  exact zo_bin (by decide) (fun hne k => zs_iand hd k)
theorem ok14 (hd : decode y.2.1 pc = .ok (ins, len)) (hc : ck14 y pc nx o ins len = true) : zSd l d y X mc ms XL φ Q pc t (zx_bin XL 14 nx pc t) := by
  obtain ⟨rfl, rfl, rfl⟩ := of_decide_eq_true hc
  exact zo_bin (by decide) (fun hne k => zs_ior hd k)
theorem ok15 (hd : decode y.2.1 pc = .ok (ins, len)) (hc : ck15 y pc nx o ins len = true) : zSd l d y X mc ms XL φ Q pc t (zx_bin XL 15 nx pc t) := by
  obtain ⟨rfl, rfl, rfl⟩ := of_decide_eq_true hc
  exact zo_bin (by decide) (fun hne k => zs_ixor hd k)
theorem ok16 (hd : decode y.2.1 pc = .ok (ins, len)) (hc : ck16 y pc nx o ins len = true) : zSd l d y X mc ms XL φ Q pc t (zx_bin XL 16 nx pc t) := by
  obtain ⟨rfl, rfl, rfl⟩ := of_decide_eq_true hc
  exact zo_bin (by decide) (fun hne k => zs_ishl hd k)
theorem ok17 (hd : decode y.2.1 pc = .ok (ins, len)) (hc : ck17 y pc nx o ins len = true) : zSd l d y X mc ms XL φ Q pc t (zx_bin XL 17 nx pc t) := by
  obtain ⟨rfl, rfl, rfl⟩ := of_decide_eq_true hc
  exact zo_bin (by decide) (fun hne k => zs_ishr hd k)
theorem ok18 (hd : decode y.2.1 pc = .ok (ins, len)) (hc : ck18 y pc nx o ins len = true) : zSd l d y X mc ms XL φ Q pc t (zx_bin XL 18 nx pc t) := by
  obtain ⟨rfl, rfl, rfl⟩ := of_decide_eq_true hc
  exact zo_bin (by decide) (fun hne k => zs_iushr hd k)
theorem ok19 (hd : decode y.2.1 pc = .ok (ins, len)) (hc : ck19 y pc nx o ins len = true) : zSd l d y X mc ms XL φ Q pc t (zx_bin XL 19 nx pc t) := by
  obtain ⟨rfl, rfl, rfl⟩ := of_decide_eq_true hc
  exact zo_bin (by decide) (fun hne k => zs_idiv (hne (by decide)) hd k)
theorem ok20 (hd : decode y.2.1 pc = .ok (ins, len)) (hc : ck20 y pc nx o ins len = true) : zSd l d y X mc ms XL φ Q pc t (zx_bin XL 20 nx pc t) := by
  obtain ⟨rfl, rfl, rfl⟩ := of_decide_eq_true hc
  exact zo_bin (by decide) (fun hne k => zs_irem (hne (by decide)) hd k)
theorem ok21 (hd : decode y.2.1 pc = .ok (ins, len)) (hc : ck21 y pc nx o ins len = true) : zSd l d y X mc ms XL φ Q pc t (zx_neg nx t) := by
  obtain ⟨rfl, rfl, rfl⟩ := of_decide_eq_true hc
  exact zo_neg (fun k => zs_ineg hd k)
theorem ok26 (hd : decode y.2.1 pc = .ok (ins, len)) (hc : ck26 y pc nx o ins len = true) : zSd l d y X mc ms XL φ Q pc t (zx_ald XL 0 nx pc t) := by
  obtain ⟨rfl, rfl, rfl⟩ := of_decide_eq_true hc
  exact zo_ald (by decide) (fun _ hi hin k => zs_iaload hd hi hin k) (fun e => absurd e (by decide)) (fun e => absurd e (by decide)) (fun _ ht hin k => zs_tabload ht hd hin k) (fun _ hin k => zs_scrload hd hin k)
theorem ok30 (hd : decode y.2.1 pc = .ok (ins, len)) (hc : ck30 y pc nx o ins len = true) : zSd l d y X mc ms XL φ Q pc t (zx_ald XL 1 nx pc t) := by
  obtain ⟨rfl, rfl, rfl⟩ := of_decide_eq_true hc
  exact zo_ald (by decide) (fun e => absurd e (by decide)) (fun _ hi hin k => zs_laload hd hi hin k) (fun e => absurd e (by decide)) (fun e => absurd e (by decide)) (fun e => absurd e (by decide))
theorem ok28 (hd : decode y.2.1 pc = .ok (ins, len)) (hc : ck28 y pc nx o ins len = true) : zSd l d y X mc ms XL φ Q pc t (zx_ald XL 2 nx pc t) := by
  obtain ⟨rfl, rfl, rfl⟩ := of_decide_eq_true hc
  exact zo_ald (by decide) (fun e => absurd e (by decide)) (fun e => absurd e (by decide)) (fun _ hi hin k => zs_aaload hd hi hin k) (fun e => absurd e (by decide)) (fun e => absurd e (by decide))
theorem zc_10 : ∃ T N, zc[10]? = some (zs_S, T, N) := ⟨_, _, rfl⟩
theorem ok27 (hd : decode y.2.1 pc = .ok (ins, len)) (hc : ck27 y pc nx o ins len = true) : zSd l d y X mc ms XL φ Q pc t (zx_ast 0 nx pc t) := by
  obtain ⟨rfl, rfl, rfl⟩ := of_decide_eq_true hc
  exact zo_ast (by decide) (fun _ hi hin k => zs_iastore hd hi hin k) (fun e => absurd e (by decide)) (fun e => absurd e (by decide))
theorem ok31 (hd : decode y.2.1 pc = .ok (ins, len)) (hc : ck31 y pc nx o ins len = true) : zSd l d y X mc ms XL φ Q pc t (zx_ast 1 nx pc t) := by
  obtain ⟨rfl, rfl, rfl⟩ := of_decide_eq_true hc
  exact zo_ast (by decide) (fun e => absurd e (by decide)) (fun _ hi hin k => zs_lastore hd hi hin k) (fun e => absurd e (by decide))
theorem ok29 (hd : decode y.2.1 pc = .ok (ins, len)) (hc : ck29 y pc nx o ins len = true) : zSd l d y X mc ms XL φ Q pc t (zx_ast 2 nx pc t) := by
  obtain ⟨rfl, rfl, rfl⟩ := of_decide_eq_true hc
  exact zo_ast (by decide) (fun e => absurd e (by decide)) (fun e => absurd e (by decide)) (fun _ hi hq hin k => by obtain ⟨T, N, hz⟩ := zc_10; exact zs_aastore hd hi hq hz hin k)
theorem ok32 (hd : decode y.2.1 pc = .ok (ins, len)) (hc : ck32 y pc nx o ins len = true) : zSd l d y X mc ms XL φ Q pc t (zx_len XL nx t) := by
  obtain ⟨rfl, rfl, rfl⟩ := of_decide_eq_true hc
  exact zo_len (fun hk hi k => zs_alen hk rfl hd hi k) (fun k => zs_scrlen hd k)
theorem ok33 (hd : decode y.2.1 pc = .ok (ins, len)) (hc : ck33 y pc nx o ins len = true) : zSd l d y X mc ms XL φ Q pc t (zx_dup 0 nx t) := by
  obtain ⟨rfl, rfl, rfl⟩ := of_decide_eq_true hc
  exact zo_dup (fun _ hc k => zs_dup hc hd k) (fun e => absurd e (by decide)) (fun e => absurd rfl e)
theorem ok34 (hd : decode y.2.1 pc = .ok (ins, len)) (hc : ck34 y pc nx o ins len = true) : zSd l d y X mc ms XL φ Q pc t (zx_dup 1 nx t) := by
  obtain ⟨rfl, rfl, rfl⟩ := of_decide_eq_true hc
  exact zo_dup (fun e => absurd e (by decide)) (fun _ hc k => zs_pop hc hd k) (fun _ e => absurd rfl e)
theorem ok35 (hd : decode y.2.1 pc = .ok (ins, len)) (hc : ck35 y pc nx o ins len = true) : zSd l d y X mc ms XL φ Q pc t (zx_dup 2 nx t) := by
  obtain ⟨rfl, rfl, rfl⟩ := of_decide_eq_true hc
  exact zo_dup (fun e => absurd e (by decide)) (fun e => absurd e (by decide)) (fun _ _ h1 h2 k => zs_dup2 h1 h2 hd k)
theorem ok40 (hd : decode y.2.1 pc = .ok (ins, len)) (hc : ck40 y pc nx o ins len = true) : zSd l d y X mc ms XL φ Q pc t (zx_i2l nx t) := by
  obtain ⟨rfl, rfl, rfl⟩ := of_decide_eq_true hc
  exact zo_i2l (fun k => zs_i2l hd k)
theorem ok41 (hd : decode y.2.1 pc = .ok (ins, len)) (hc : ck41 y pc nx o ins len = true) : zSd l d y X mc ms XL φ Q pc t (zx_l2i nx t) := by
  obtain ⟨rfl, rfl, rfl⟩ := of_decide_eq_true hc
  exact zo_l2i (fun k => zs_l2i hd k)
theorem ok42 (hd : decode y.2.1 pc = .ok (ins, len)) (hc : ck42 y pc nx o ins len = true) : zSd l d y X mc ms XL φ Q pc t (zx_i2w 23 nx t) := by
  obtain ⟨rfl, rfl, rfl⟩ := of_decide_eq_true hc
  exact zo_i2w (Or.inl rfl) (fun {_ _ _ _ _ a z} hz k => zs_i2b hd (by
    have e : a.toInt8.toInt32 = z := Int32.toInt_inj.mp (by rw [hz, Int8.toInt_toInt32, Int32.toInt_toInt8]; rfl)
    rw [e]
    exact k))
theorem ok43 (hd : decode y.2.1 pc = .ok (ins, len)) (hc : ck43 y pc nx o ins len = true) : zSd l d y X mc ms XL φ Q pc t (zx_i2w 24 nx t) := by
  obtain ⟨rfl, rfl, rfl⟩ := of_decide_eq_true hc
  exact zo_i2w (Or.inr rfl) (fun {_ _ _ _ _ a z} hz k => zs_i2s hd (by
    have e : a.toInt16.toInt32 = z := Int32.toInt_inj.mp (by rw [hz, Int16.toInt_toInt32, Int32.toInt_toInt16]; rfl)
    rw [e]
    exact k))
theorem ok48 (hd : decode y.2.1 pc = .ok (ins, len)) (hc : ck48 y pc nx o ins len = true) : zSd l d y X mc ms XL φ Q pc t (zx_ldr 19 nx t) := by
  obtain ⟨rfl, rfl, rfl⟩ := of_decide_eq_true hc
  exact zo_ldr (Or.inl rfl) (fun hne h1 h2 k => zs_ldiv hne hd (by rw [← h1 rfl]; exact k))
theorem ok49 (hd : decode y.2.1 pc = .ok (ins, len)) (hc : ck49 y pc nx o ins len = true) : zSd l d y X mc ms XL φ Q pc t (zx_ldr 20 nx t) := by
  obtain ⟨rfl, rfl, rfl⟩ := of_decide_eq_true hc
  exact zo_ldr (Or.inr rfl) (fun hne h1 h2 k => zs_lrem hne (h2 rfl) hd k)
theorem ok70 (hd : decode y.2.1 pc = .ok (ins, len)) (hc : ck70 y pc nx o ins len = true) : zSd l d y X mc ms XL φ Q pc t (zx_pop2 nx t) := by
  obtain ⟨rfl, rfl, rfl⟩ := of_decide_eq_true hc
  exact zo_pop2 (fun hc k => zs_pop2 hc hd k)
theorem ok44 (hd : decode y.2.1 pc = .ok (ins, len)) (hc : ck44 y pc nx o ins len = true) : zSd l d y X mc ms XL φ Q pc t (zx_lcmp nx t) := by
  obtain ⟨rfl, rfl, rfl⟩ := of_decide_eq_true hc
  exact zo_lcmp (fun k => zs_lcmp hd k)
theorem ok45 (hd : decode y.2.1 pc = .ok (ins, len)) (hc : ck45 y pc nx o ins len = true) : zSd l d y X mc ms XL φ Q pc t (zx_jop nx t 1) := by
  obtain ⟨rfl, rfl, rfl⟩ := of_decide_eq_true hc
  exact zo_jop (by decide) (fun _ => ⟨_, fun k => zs_land hd k⟩) (fun e => absurd e (by decide))
theorem ok46 (hd : decode y.2.1 pc = .ok (ins, len)) (hc : ck46 y pc nx o ins len = true) : zSd l d y X mc ms XL φ Q pc t (zx_jop nx t 1) := by
  obtain ⟨rfl, rfl, rfl⟩ := of_decide_eq_true hc
  exact zo_jop (by decide) (fun _ => ⟨_, fun k => zs_lor hd k⟩) (fun e => absurd e (by decide))
theorem ok47 (hd : decode y.2.1 pc = .ok (ins, len)) (hc : ck47 y pc nx o ins len = true) : zSd l d y X mc ms XL φ Q pc t (zx_jop nx t 0) := by
  obtain ⟨rfl, rfl, rfl⟩ := of_decide_eq_true hc
  exact zo_jop (by decide) (fun e => absurd e (by decide)) (fun _ => ⟨_, fun k => zs_lshl hd k⟩)
def ex22 (nx : Nat) (o : List Int) (t : zA_T) : zA_R := match o with | [i, c] => zx_inc i.toNat c nx t | _ => none
theorem ok22 (hd : decode y.2.1 pc = .ok (ins, len)) (hc : ck22 y pc nx o ins len = true) : zSd l d y X mc ms XL φ Q pc t (ex22 nx o t) := by
  unfold ck22 at hc
  split at hc
  · obtain ⟨rfl, rfl, rfl, e4, e5⟩ := of_decide_eq_true hc
    exact zo_inc e5 (fun hl k => zs_iinc rfl e4 hl hd k)
  · cases hc
def ex24 (nx : Nat) (o : List Int) (t : zA_T) : zA_R := match o with | [c, tg] => zx_if c.toNat tg.toNat nx t | _ => none
theorem ok24 (hd : decode y.2.1 pc = .ok (ins, len)) (hc : ck24 y pc nx o ins len = true) : zSd l d y X mc ms XL φ Q pc t (ex24 nx o t) := by
  unfold ck24 at hc
  split at hc
  · next c tg =>
    obtain ⟨rfl, rfl, e3, rfl, e5, e6⟩ := of_decide_eq_true hc
    have ht : (pc : Int) + (tg - pc) = (tg.toNat : Int) := by omega
    rcases (by omega : c = 0 ∨ c = 1 ∨ c = 2 ∨ c = 3 ∨ c = 4 ∨ c = 5) with rfl | rfl | rfl | rfl | rfl | rfl
    · exact zo_if (fun kt kf => zs_if_eq hd ht (fun h => kt h) (fun h => kf h))
    · exact zo_if (fun kt kf => zs_if_ne hd ht (fun h => kt h) (fun h => kf h))
    · exact zo_if (fun kt kf => zs_if_lt hd ht (fun h => kt h) (fun h => kf h))
    · exact zo_if (fun kt kf => zs_if_ge hd ht (fun h => kt h) (fun h => kf h))
    · exact zo_if (fun kt kf => zs_if_gt hd ht (fun h => kt h) (fun h => kf h))
    · exact zo_if (fun kt kf => zs_if_le hd ht (fun h => kt h) (fun h => kf h))
  · cases hc
def ex25 (nx : Nat) (o : List Int) (t : zA_T) : zA_R := match o with | [c, tg] => zx_icmp c.toNat tg.toNat nx t | _ => none
theorem ok25 (hd : decode y.2.1 pc = .ok (ins, len)) (hc : ck25 y pc nx o ins len = true) : zSd l d y X mc ms XL φ Q pc t (ex25 nx o t) := by
  unfold ck25 at hc
  split at hc
  · next c tg =>
    obtain ⟨rfl, rfl, e3, rfl, e5, e6⟩ := of_decide_eq_true hc
    have ht : (pc : Int) + (tg - pc) = (tg.toNat : Int) := by omega
    rcases (by omega : c = 0 ∨ c = 1 ∨ c = 2 ∨ c = 3 ∨ c = 4 ∨ c = 5) with rfl | rfl | rfl | rfl | rfl | rfl
    · exact zo_icmp (fun kt kf => zs_icmp_eq hd ht (fun h => kt h) (fun h => kf h))
    · exact zo_icmp (fun kt kf => zs_icmp_ne hd ht (fun h => kt h) (fun h => kf h))
    · exact zo_icmp (fun kt kf => zs_icmp_lt hd ht (fun h => kt h) (fun h => kf h))
    · exact zo_icmp (fun kt kf => zs_icmp_ge hd ht (fun h => kt h) (fun h => kf h))
    · exact zo_icmp (fun kt kf => zs_icmp_gt hd ht (fun h => kt h) (fun h => kf h))
    · exact zo_icmp (fun kt kf => zs_icmp_le hd ht (fun h => kt h) (fun h => kf h))
  · cases hc
theorem ok6 (hd : decode y.2.1 pc = .ok (ins, len)) (hc : ck6 y pc nx o ins len = true) : zSd l d y X mc ms XL φ Q pc t (some [(nx, t)]) := by
  unfold ck6 at hc
  split at hc
  · obtain ⟨rfl, rfl, e1⟩ := of_decide_eq_true hc
    exact zo_goto (fun k => zs_goto hd e1 k)
  · cases hc
def ex50 (o : List Int) (t : zA_T) : zA_R := match o with | lo :: df :: gs => zx_tab lo df gs t | _ => none
theorem ok50 (hd : decode y.2.1 pc = .ok (ins, len)) (hc : ck50 y pc nx o ins len = true) : zSd l d y X mc ms XL φ Q pc t (ex50 o t) := by
  unfold ck50 at hc
  split at hc
  · next lo d2 gs =>
    obtain ⟨h1, h2⟩ := zw_and hc
    obtain ⟨rfl, e3⟩ := of_decide_eq_true h1
    refine zo_tab (fun kd kt => ?_)
    rename_i lv st ph cc ns a
    by_cases hr : a.toInt < lo ∨ lo + gs.length - 1 < a.toInt
    · exact zs_tabOut (tgt := d2.toNat) hd hr (by omega) (kd (by omega))
    · have hi1 : (a.toInt - lo).toNat < gs.length := by omega
      have hge : gs[(a.toInt - lo).toNat]? = some gs[(a.toInt - lo).toNat] := List.getElem?_eq_getElem hi1
      have ho : (gs.map (fun g => g - (pc : Int))).toArray[(a.toInt - lo).toNat]? = some (gs[(a.toInt - lo).toNat] - pc) := by
        rw [List.getElem?_toArray, List.getElem?_map, hge]
        rfl
      have hgd : gs.getD (a.toInt - lo).toNat 0 = gs[(a.toInt - lo).toNat] := by
        rw [List.getD_eq_getElem?_getD, hge]
        rfl
      have hpos := of_decide_eq_true (List.all_eq_true.mp h2 _ (List.getElem_mem hi1))
      refine zs_tabIn (tgt := (gs.getD (a.toInt - lo).toNat 0).toNat) hd (by omega) (by omega) ho ?_ (kt _ hi1 (by omega))
      rw [hgd]
      omega
  · cases hc
theorem zlk_off {pc : Nat} {df n : Int} : ∀ (qs : List (Int × Int)), zx_lk0 n df qs = (pc : Int) + Op.lookupswitch.offset (qs.map (fun q => (q.1, q.2 - (pc : Int)))) (df - pc) n
  | [] => by rw [List.map_nil, Op.lookupswitch.offset_nil]; unfold zx_lk0; omega
  | (a, o) :: r => by
    rw [List.map_cons, Op.lookupswitch.offset_cons]
    unfold zx_lk0
    by_cases h : n = a
    · rw [if_pos h, if_pos h.symm]
      show o = pc + (o - pc)
      omega
    · rw [if_neg h, if_neg (fun e => h e.symm)]
      exact zlk_off r
theorem zlk_pos {n df : Int} (hd : 0 ≤ df) : ∀ (qs : List (Int × Int)), qs.all (fun q => decide (0 ≤ q.2)) = true → 0 ≤ zx_lk0 n df qs
  | [], _ => hd
  | q :: qs, h => by
    simp only [List.all_cons, Bool.and_eq_true, decide_eq_true_eq] at h
    unfold zx_lk0
    split
    · exact h.1
    · exact zlk_pos hd qs (by simpa using h.2)
def ex51 (o : List Int) (t : zA_T) : zA_R := match o with | d2 :: qs => zx_lk d2 (zpair qs) t | _ => none
theorem ok51 (hd : decode y.2.1 pc = .ok (ins, len)) (hc : ck51 y pc nx o ins len = true) : zSd l d y X mc ms XL φ Q pc t (ex51 o t) := by
  unfold ck51 at hc
  split at hc
  · next d2 qs =>
    obtain ⟨h1, h2⟩ := zw_and hc
    obtain ⟨h3, h4⟩ := zw_and h2
    obtain ⟨rfl, e2⟩ := of_decide_eq_true h1
    refine zo_lk (fun k => zs_lookup hd h4 rfl ?_ k)
    rename_i a
    rw [Int.toNat_of_nonneg (zlk_pos e2 _ h3), zlk_off (pc := pc)]
  · cases hc
def ex54 (nx : Nat) (o : List Int) (t : zA_T) : zA_R := match o with | i :: _ => zx_push (2, i) nx t | [] => none
theorem ok54 (hd : decode y.2.1 pc = .ok (ins, len)) (hc : ck54 y pc nx o ins len = true) : zSd l d y X mc ms XL φ Q pc t (ex54 nx o t) := by
  unfold ck54 at hc
  split at hc
  · obtain ⟨h1, h2⟩ := zw_and hc
    obtain ⟨rfl, rfl, rfl⟩ := of_decide_eq_true h1
    rcases zw_or h2 with h | h
    · obtain ⟨h3, h4⟩ := zw_and h
      have e3 := of_decide_eq_true h3
      subst e3
      exact zo_pushR (i := 0) (fun k => zs_getstatic (Or.inl ⟨rfl, rfl⟩) (zx_of h4) hd k)
    · obtain ⟨h3, h4⟩ := zw_and h
      have e3 := of_decide_eq_true h3
      subst e3
      exact zo_pushR (i := 1) (fun k => zs_getstatic (Or.inr ⟨rfl, rfl⟩) (zx_of h4) hd k)
  · cases hc
theorem ok55 (hd : decode y.2.1 pc = .ok (ins, len)) (hc : ck55 y pc nx o ins len = true) : zSd l d y X mc ms XL φ Q pc t (zx_nar mc ms 0 nx t) := by
  obtain ⟨rfl, rfl, rfl⟩ := of_decide_eq_true hc
  exact zo_nar (by decide) (fun hn hN hb hcc hs k => zs_newI zw_arrI hn hN (by show _ * 4 ≤ _; omega) hcc hs hd k)
theorem ok56 (hd : decode y.2.1 pc = .ok (ins, len)) (hc : ck56 y pc nx o ins len = true) : zSd l d y X mc ms XL φ Q pc t (zx_nar mc ms 1 nx t) := by
  obtain ⟨rfl, rfl, rfl⟩ := of_decide_eq_true hc
  exact zo_nar (by decide) (fun hn hN hb hcc hs k => zs_newJ zw_arrJ hn hN (by show _ * 8 ≤ _; omega) hcc hs hd k)
theorem ok57 (hd : decode y.2.1 pc = .ok (ins, len)) (hc : ck57 y pc nx o ins len = true) : zSd l d y X mc ms XL φ Q pc t (zx_nar mc ms 2 nx t) := by
  unfold ck57 at hc
  split at hc
  · obtain ⟨h1, h2⟩ := zw_and hc
    obtain ⟨rfl, rfl, rfl⟩ := of_decide_eq_true h1
    exact zo_nar (by decide) (fun hn hN hb hcc hs k => zs_newO (zx_of h2) hn hN (by rw [hN]; omega) hcc hs hd k)
  · cases hc
def ex58 (mc ms nx : Nat) (o : List Int) (t : zA_T) : zA_R := match o with | ci :: _ => zx_obj mc ms ci.toNat (zx_df ci.toNat).length nx t | [] => none
theorem zx_df_len {ci : Nat} {q : vw_C} (h : zc[ci]? = some q) : q.2.2 = (zx_df ci).length := by
  unfold zx_df
  rw [h]
  simp
theorem ok58 (hd : decode y.2.1 pc = .ok (ins, len)) (hc : ck58 y pc nx o ins len = true) : zSd l d y X mc ms XL φ Q pc t (ex58 mc ms nx o t) := by
  unfold ck58 at hc
  split at hc
  · split at hc
    · next q hq =>
      obtain ⟨h1, h2⟩ := zw_and hc
      obtain ⟨h3, h4⟩ := zw_and h2
      obtain ⟨h5, h6⟩ := zw_and h4
      obtain ⟨rfl, rfl, rfl⟩ := of_decide_eq_true h1
      have hN := zx_df_len hq
      exact zo_obj hq hN (fun hcc hs k => zs_new (C := q.1) (T := q.2.1) (N := q.2.2) (zx_of h3) (zx_of h5) (zx_of h6) hq hcc (by rw [hN]; exact hs) hd (by rw [← hN] at k; exact k))
    · cases hc
  · cases hc
def ex59 (d nx : Nat) (t : zA_T) : zA_R := if d = 0 then none else zx_oin nx t
theorem ok59 (hd : decode y.2.1 pc = .ok (ins, len)) (hc : ck59 y pc nx o ins len = true) : zSd l d y X mc ms XL φ Q pc t (ex59 d nx t) := by
  unfold ck59 at hc
  split at hc
  · obtain ⟨h1, h2⟩ := zw_and hc
    obtain ⟨rfl, rfl, rfl⟩ := of_decide_eq_true h1
    unfold ex59
    split
    · exact zSd_none
    · next hd0 => exact zo_oin (fun hst k => zs_objInit (zx_of h2) zw_obj1 zw_obj2 (by omega) hst hd k)
  · cases hc
def zx_cty (t : zA_T) : Nat := match t.2.2.2.1[4]? with
  | some a => (match t.2.1[a.2.toNat - 3]? with
      | some c => c.2.1
      | none => 9)
  | none => 9
def ex64 (d nx : Nat) (t : zA_T) : zA_R := if d = 0 then none else if zx_cty t = 0 then zx_cpy 0 nx t else if zx_cty t = 1 then zx_cpy 1 nx t else none
theorem ok64 (hd : decode y.2.1 pc = .ok (ins, len)) (hc : ck64 y pc nx o ins len = true) : zSd l d y X mc ms XL φ Q pc t (ex64 d nx t) := by
  unfold ck64 at hc
  split at hc
  · obtain ⟨h1, h2⟩ := zw_and hc
    obtain ⟨rfl, rfl, rfl⟩ := of_decide_eq_true h1
    unfold ex64
    split
    · exact zSd_none
    · next hd0 =>
      split
      · exact zo_cpy (by decide) (fun hst _ h0 h1 g1 g2 g3 g4 g5 k => zs_copyI (zx_of h2) zw_nat1 zw_nat2 zw_nat3 h0 h1 g1 g2 g3 g4 g5 (by omega) hst hd k) (fun _ e => absurd e (by decide))
      · split
        · exact zo_cpy (by decide) (fun _ e => absurd e (by decide)) (fun hst _ h0 h1 g1 g2 g3 g4 g5 k => zs_copyJ (zx_of h2) zw_nat1 zw_nat2 zw_nat3 h0 h1 g1 g2 g3 g4 g5 (by omega) hst hd k)
        · exact zSd_none
  · cases hc
/-! the two fills, by hand -/
theorem z_st1_self (lv : List (Nat × Value)) (i : Nat) (v : Value) : (z_st1 lv i v).lookup i = some v := by
  unfold z_st1
  rw [List.lookup_cons]
  simp
theorem z_st1_look {lv : List (Nat × Value)} {i j : Nat} {v w : Value} (h : lv.lookup j = some w) (hw : ¬ (j + 1 = i ∧ w.category = 2)) (hij : j ≠ i) : (z_st1 lv i v).lookup j = some w := by
  unfold z_st1
  have h0 : (j == i) = false := by simpa using hij
  rw [List.lookup_cons, h0]
  dsimp only
  induction lv with
  | nil => cases h
  | cons a r ih =>
    obtain ⟨k, u⟩ := a
    rw [List.lookup_cons] at h
    rw [List.filter_cons]
    cases hjk : j == k with
    | true =>
      rw [hjk] at h
      have e : u = w := Option.some.inj h
      have e2 : j = k := by simpa using hjk
      subst e; subst e2
      have hk : (!(j == i) && !(j + 1 == i && u.category == 2)) = true := by
        have h5 : (j + 1 == i && u.category == 2) = false := by
          cases h6 : (j + 1 == i && u.category == 2) with
          | false => rfl
          | true => exact absurd (by simpa using h6) hw
        simp [h0, h5]
      simp only [hk, if_true]
      rw [List.lookup_cons, hjk]
    | false =>
      rw [hjk] at h
      split
      · rw [List.lookup_cons, hjk]
        exact ih h
      · exact ih h
theorem dfI_0 : decode prog_18_method_103_code 0 = .ok (.iconst 0, 1) := by decide +kernel
theorem dfI_1 : decode prog_18_method_103_code 1 = .ok (.istore_n 2, 1) := by decide +kernel
theorem dfI_2 : decode prog_18_method_103_code 2 = .ok (.aload_n 0, 1) := by decide +kernel
theorem dfI_3 : decode prog_18_method_103_code 3 = .ok (.arraylength, 1) := by decide +kernel
theorem dfI_4 : decode prog_18_method_103_code 4 = .ok (.istore_n 3, 1) := by decide +kernel
theorem dfI_5 : decode prog_18_method_103_code 5 = .ok (.iload_n 2, 1) := by decide +kernel
theorem dfI_6 : decode prog_18_method_103_code 6 = .ok (.iload_n 3, 1) := by decide +kernel
theorem dfI_7 : decode prog_18_method_103_code 7 = .ok (.if_icmp .ge 13, 3) := by decide +kernel
theorem dfI_10 : decode prog_18_method_103_code 10 = .ok (.aload_n 0, 1) := by decide +kernel
theorem dfI_11 : decode prog_18_method_103_code 11 = .ok (.iload_n 2, 1) := by decide +kernel
theorem dfI_12 : decode prog_18_method_103_code 12 = .ok (.iload_n 1, 1) := by decide +kernel
theorem dfI_13 : decode prog_18_method_103_code 13 = .ok (.iastore, 1) := by decide +kernel
theorem dfI_14 : decode prog_18_method_103_code 14 = .ok (.iinc 2 1, 3) := by decide +kernel
theorem dfI_17 : decode prog_18_method_103_code 17 = .ok (.goto (-12), 3) := by decide +kernel
theorem dfI_20 : decode prog_18_method_103_code 20 = .ok (.return_, 1) := by decide +kernel
theorem zfill_I_loop {i n : Nat} {x : Int32} {phi : List z_C} (hn : n < 2147483648) (hlen : i < phi.length) : ∀ (c k : Nat) (f : Nat → Int32) (lv : List (Nat × Value)), k + c = n → (∀ j, j < k → f j = x) → lv.lookup 0 = some (.ref (i + 3)) → lv.lookup 1 = some (.int x) → lv.lookup 2 = some (.int (nI k)) → lv.lookup 3 = some (.int (nI n)) →
    ZW l d y_fillI X 0 0 (fun r ph' => r = none ∧ ∃ f' : Nat → Int32, (∀ j, j < n → f' j = x) ∧ ph' = phi.set i (.inl (0, n, z_I f'))) 5 lv [] (phi.set i (.inl (0, n, z_I f))) 0 0 := by
  intro c
  induction c with
  | zero =>
    intro k f lv hk hf h0 h1 h2 h3
    have hkn : k = n := by omega
    subst hkn
    refine zs_iload_n rfl h2 dfI_5 ?_
    refine zs_iload_n rfl h3 dfI_6 ?_
    refine zs_icmp_ge (tgt := 20) dfI_7 (by decide) (fun _ => ?_) (fun q => absurd (Int32.le_refl _) q)
    exact zs_ret (v := none) rfl (Or.inr (Or.inr ⟨rfl, dfI_20, rfl⟩)) rfl (Nat.le_refl _) ⟨rfl, f, hf, rfl⟩
  | succ c ih =>
    intro k f lv hk hf h0 h1 h2 h3
    have hi : (phi.set i (.inl (0, n, z_I f)))[i]? = some (.inl (0, n, z_I f)) := by rw [List.getElem?_set_self hlen]
    have hkin : vp_in (nI k) n := vp_in_nI (by omega) (by omega)
    have hkc : (nI k).toNatClampNeg = k := Int32.toNatClampNeg_ofNat_of_lt (by omega)
    refine zs_iload_n rfl h2 dfI_5 ?_
    refine zs_iload_n rfl h3 dfI_6 ?_
    refine zs_icmp_ge (tgt := 20) dfI_7 (by decide) (fun q => ?_) (fun _ => ?_)
    · exfalso
      rw [Int32.le_iff_toInt_le] at q
      have e1 : (nI k).toInt = k := zN_toInt (by omega)
      have e2 : (nI n).toInt = n := zN_toInt hn
      omega
    refine zs_aload_n rfl h0 dfI_10 ?_
    refine zs_iload_n rfl h2 dfI_11 ?_
    refine zs_iload_n rfl h1 dfI_12 ?_
    refine zs_iastore dfI_13 hi hkin ?_
    rw [List.set_set, hkc]
    refine zs_iinc (v := nI (k + 1)) (nI_1 k) (by decide) h2 dfI_14 ?_
    refine zs_goto (tgt := 5) dfI_17 (by decide) ?_
    refine ih (k + 1) _ _ (by omega) (fun j hj => ?_) (z_st1_look h0 (fun q => absurd (show (1 : Nat) = 2 from q.2) (by decide)) (by decide)) (z_st1_look h1 (fun q => absurd (show (1 : Nat) = 2 from q.2) (by decide)) (by decide)) (z_st1_self _ _ _) (z_st1_look h3 (fun q => absurd (show (1 : Nat) = 2 from q.2) (by decide)) (by decide))
    by_cases hjk : j = k
    · simp [upd, hjk]
    · simp only [upd, if_neg hjk]
      exact hf j (by omega)
theorem zfill_I {i n : Nat} {f : Nat → Int32} (x : Int32) {phi : List z_C} (hn : n < 2147483648) (hi : phi[i]? = some (.inl (0, n, z_I f))) :
    ZM l d y_fillI X [.ref (i + 3), .int x] phi 0 0 (fun r ph' => r = none ∧ ∃ f' : Nat → Int32, (∀ j, j < n → f' j = x) ∧ ph' = phi.set i (.inl (0, n, z_I f'))) := by
  have hlen := (List.getElem?_eq_some_iff.mp hi).1
  have hset : phi.set i (.inl (0, n, z_I f)) = phi := by
    apply List.ext_getElem?
    intro j
    by_cases hij : i = j
    · subst hij; rw [List.getElem?_set_self hlen, hi]
    · rw [List.getElem?_set_ne hij]
  refine ZM.of (by decide +kernel) (by simp [lg_sl, Value.category, y_fillI]) ?_
  refine zs_iconst (v := 0) (by decide) dfI_0 ?_
  refine zs_istore_n (i := 2) rfl (by decide) dfI_1 ?_
  refine zs_aload_n (i := 0) (x := i + 3) rfl rfl dfI_2 ?_
  refine zs_alen (v := nI n) (by decide) rfl dfI_3 hi ?_
  refine zs_istore_n (i := 3) rfl (by decide) dfI_4 ?_
  have h := zfill_I_loop (l := l) (d := d) (X := X) (x := x) hn hlen n 0 f [(3, .int (nI n)), (2, .int (nI 0)), (0, .ref (i + 3)), (1, .int x)] (by omega) (fun j hj => absurd hj (Nat.not_lt_zero j)) rfl rfl rfl rfl
  rw [hset] at h
  exact h
theorem dfJ_0 : decode prog_18_method_101_code 0 = .ok (.iconst 0, 1) := by decide +kernel
theorem dfJ_1 : decode prog_18_method_101_code 1 = .ok (.istore_n 3, 1) := by decide +kernel
theorem dfJ_2 : decode prog_18_method_101_code 2 = .ok (.aload_n 0, 1) := by decide +kernel
theorem dfJ_3 : decode prog_18_method_101_code 3 = .ok (.arraylength, 1) := by decide +kernel
theorem dfJ_4 : decode prog_18_method_101_code 4 = .ok (.istore 4, 2) := by decide +kernel
theorem dfJ_6 : decode prog_18_method_101_code 6 = .ok (.iload_n 3, 1) := by decide +kernel
theorem dfJ_7 : decode prog_18_method_101_code 7 = .ok (.iload 4, 2) := by decide +kernel
theorem dfJ_9 : decode prog_18_method_101_code 9 = .ok (.if_icmp .ge 13, 3) := by decide +kernel
theorem dfJ_12 : decode prog_18_method_101_code 12 = .ok (.aload_n 0, 1) := by decide +kernel
theorem dfJ_13 : decode prog_18_method_101_code 13 = .ok (.iload_n 3, 1) := by decide +kernel
theorem dfJ_14 : decode prog_18_method_101_code 14 = .ok (.lload_n 1, 1) := by decide +kernel
theorem dfJ_15 : decode prog_18_method_101_code 15 = .ok (.lastore, 1) := by decide +kernel
theorem dfJ_16 : decode prog_18_method_101_code 16 = .ok (.iinc 3 1, 3) := by decide +kernel
theorem dfJ_19 : decode prog_18_method_101_code 19 = .ok (.goto (-13), 3) := by decide +kernel
theorem dfJ_22 : decode prog_18_method_101_code 22 = .ok (.return_, 1) := by decide +kernel
theorem zfill_J_loop {i n : Nat} {x : Int64} {phi : List z_C} (hn : n < 2147483648) (hlen : i < phi.length) : ∀ (c k : Nat) (f : Nat → Int64) (lv : List (Nat × Value)), k + c = n → (∀ j, j < k → f j = x) → lv.lookup 0 = some (.ref (i + 3)) → lv.lookup 1 = some (.long x) → lv.lookup 3 = some (.int (nI k)) → lv.lookup 4 = some (.int (nI n)) →
    ZW l d y_fillJ X 0 0 (fun r ph' => r = none ∧ ∃ f' : Nat → Int64, (∀ j, j < n → f' j = x) ∧ ph' = phi.set i (.inl (1, n, z_J f'))) 6 lv [] (phi.set i (.inl (1, n, z_J f))) 0 0 := by
  intro c
  induction c with
  | zero =>
    intro k f lv hk hf h0 h1 h2 h3
    have hkn : k = n := by omega
    subst hkn
    refine zs_iload_n rfl h2 dfJ_6 ?_
    refine zs_iload h3 dfJ_7 ?_
    refine zs_icmp_ge (tgt := 22) dfJ_9 (by decide) (fun _ => ?_) (fun q => absurd (Int32.le_refl _) q)
    exact zs_ret (v := none) rfl (Or.inr (Or.inr ⟨rfl, dfJ_22, rfl⟩)) rfl (Nat.le_refl _) ⟨rfl, f, hf, rfl⟩
  | succ c ih =>
    intro k f lv hk hf h0 h1 h2 h3
    have hi : (phi.set i (.inl (1, n, z_J f)))[i]? = some (.inl (1, n, z_J f)) := by rw [List.getElem?_set_self hlen]
    have hkin : vp_in (nI k) n := vp_in_nI (by omega) (by omega)
    have hkc : (nI k).toNatClampNeg = k := Int32.toNatClampNeg_ofNat_of_lt (by omega)
    refine zs_iload_n rfl h2 dfJ_6 ?_
    refine zs_iload h3 dfJ_7 ?_
    refine zs_icmp_ge (tgt := 22) dfJ_9 (by decide) (fun q => ?_) (fun _ => ?_)
    · exfalso
      rw [Int32.le_iff_toInt_le] at q
      have e1 : (nI k).toInt = k := zN_toInt (by omega)
      have e2 : (nI n).toInt = n := zN_toInt hn
      omega
    refine zs_aload_n rfl h0 dfJ_12 ?_
    refine zs_iload_n rfl h2 dfJ_13 ?_
    refine zs_lload_n rfl h1 dfJ_14 ?_
    refine zs_lastore dfJ_15 hi hkin ?_
    rw [List.set_set, hkc]
    refine zs_iinc (v := nI (k + 1)) (nI_1 k) (by decide) h2 dfJ_16 ?_
    refine zs_goto (tgt := 6) dfJ_19 (by decide) ?_
    refine ih (k + 1) _ _ (by omega) (fun j hj => ?_) (z_st1_look h0 (fun q => absurd (show (1 : Nat) = 2 from q.2) (by decide)) (by decide)) (z_st1_look h1 (fun q => absurd q.1 (by decide)) (by decide)) (z_st1_self _ _ _) (z_st1_look h3 (fun q => absurd (show (1 : Nat) = 2 from q.2) (by decide)) (by decide))
    by_cases hjk : j = k
    · simp [vp_updL, hjk]
    · simp only [vp_updL, if_neg hjk]
      exact hf j (by omega)
theorem zfill_J {i n : Nat} {f : Nat → Int64} (x : Int64) {phi : List z_C} (hn : n < 2147483648) (hi : phi[i]? = some (.inl (1, n, z_J f))) :
    ZM l d y_fillJ X [.ref (i + 3), .long x] phi 0 0 (fun r ph' => r = none ∧ ∃ f' : Nat → Int64, (∀ j, j < n → f' j = x) ∧ ph' = phi.set i (.inl (1, n, z_J f'))) := by
  have hlen := (List.getElem?_eq_some_iff.mp hi).1
  have hset : phi.set i (.inl (1, n, z_J f)) = phi := by
    apply List.ext_getElem?
    intro j
    by_cases hij : i = j
    · subst hij; rw [List.getElem?_set_self hlen, hi]
    · rw [List.getElem?_set_ne hij]
  refine ZM.of (by decide +kernel) (by simp [lg_sl, Value.category, y_fillJ]) ?_
  refine zs_iconst (v := 0) (by decide) dfJ_0 ?_
  refine zs_istore_n (i := 3) rfl (by decide) dfJ_1 ?_
  refine zs_aload_n (i := 0) (x := i + 3) rfl rfl dfJ_2 ?_
  refine zs_alen (v := nI n) (by decide) rfl dfJ_3 hi ?_
  refine zs_istore (by decide) dfJ_4 ?_
  have h := zfill_J_loop (l := l) (d := d) (X := X) (x := x) hn hlen n 0 f [(4, .int (nI n)), (3, .int (nI 0)), (0, .ref (i + 3)), (1, .long x)] (by omega) (fun j hj => absurd hj (Nat.not_lt_zero j)) rfl rfl rfl rfl
  rw [hset] at h
  exact h
end ZK
end
section
/-! PART 14: dispatch. -/
theorem zm_cal {t : Nat} (h : zm_B t = true) : zCal (zm t) (zm_N t) ∧ plainFor (zm t).1 = true := by
  unfold zm_B at h
  split at h
  · next q hq =>
    obtain ⟨h1, h2⟩ := zw_and h
    obtain ⟨h3, h4⟩ := zw_and h2
    obtain ⟨e1, e2, e3, e4, e5⟩ := of_decide_eq_true h4
    have hn : zm_N t = q.2.2 := by unfold zm_N; rw [hq]
    rw [hn]
    exact ⟨⟨zx_of h1, zx_of h3, ⟨e1, e2, e3⟩, e4⟩, e5⟩
  · cases h
section ZK
variable {l : Launch} {d : Nat} {y : zx_Y} {X : zx_X} {mc ms XL : Nat} {φ : List z_C} {Q : Option Value → List z_C → Prop} {pc nx len : Nat} {ins : Instr} {o : List Int} {t : zA_T}
theorem zcal_fI : zCal y_fillI 2 := ⟨List.mem_filter.mpr ⟨by decide +kernel, rfl⟩, List.mem_filter.mpr ⟨by decide +kernel, rfl⟩, by decide +kernel, by decide⟩
theorem zcal_fJ : zCal y_fillJ 2 := ⟨List.mem_filter.mpr ⟨by decide +kernel, rfl⟩, List.mem_filter.mpr ⟨by decide +kernel, rfl⟩, by decide +kernel, by decide⟩
theorem zw_fI : Cond.static y_fillI.1 ∈ zx_tbl := List.mem_filter.mpr ⟨by decide +kernel, rfl⟩
theorem zw_fJ : Cond.static y_fillJ.1 ∈ zx_tbl := List.mem_filter.mpr ⟨by decide +kernel, rfl⟩
def ex67 (mc ms d nx : Nat) (t : zA_T) : zA_R := if d = 0 then none else zx_fil mc ms 0 nx t
theorem ok67 (hd : decode y.2.1 pc = .ok (ins, len)) (hc : ck67 y pc nx o ins len = true) : zSd l d y X mc ms XL φ Q pc t (ex67 mc ms d nx t) := by
  unfold ck67 at hc
  split at hc
  · obtain ⟨h1, h2⟩ := zw_and hc
    obtain ⟨rfl, rfl, rfl⟩ := of_decide_eq_true h1
    unfold ex67
    split
    · exact zSd_none
    · next hd0 =>
      exact zo_fil (by decide) (fun h1 h2' hst _ hi hn k => zs_callS (st := _) (zx_of h2) zw_fI zcal_fI (as := [.ref (_ + 3), .int _]) rfl hst (by omega : 0 + 1 ≤ d) h1 h2' hd (zfill_I _ hn hi) (fun v ph' hq => by obtain ⟨rfl, f', hf', rfl⟩ := hq; exact k f' hf')) (fun _ _ _ e => absurd e (by decide))
  · cases hc
def ex68 (mc ms d nx : Nat) (t : zA_T) : zA_R := if d = 0 then none else zx_fil mc ms 1 nx t
theorem ok68 (hd : decode y.2.1 pc = .ok (ins, len)) (hc : ck68 y pc nx o ins len = true) : zSd l d y X mc ms XL φ Q pc t (ex68 mc ms d nx t) := by
  unfold ck68 at hc
  split at hc
  · obtain ⟨h1, h2⟩ := zw_and hc
    obtain ⟨rfl, rfl, rfl⟩ := of_decide_eq_true h1
    unfold ex68
    split
    · exact zSd_none
    · next hd0 =>
      exact zo_fil (by decide) (fun _ _ _ e => absurd e (by decide)) (fun h1 h2' hst _ hi hn k => zs_callS (st := _) (zx_of h2) zw_fJ zcal_fJ (as := [.ref (_ + 3), .long _]) rfl hst (by omega : 0 + 1 ≤ d) h1 h2' hd (zfill_J _ hn hi) (fun v ph' hq => by obtain ⟨rfl, f', hf', rfl⟩ := hq; exact k f' hf'))
  · cases hc
/-- what an instruction does -/
def zex0 (XL mc ms d op nx pc : Nat) (o : List Int) (t : zA_T) : zA_R := if op = 0 then ex0 nx o t else if op = 1 then ex1 nx o t else if op = 2 then ex2 nx o t else if op = 3 then ex3 nx o t else if op = 6 then some [(nx, t)] else if op = 10 then zx_bin XL 10 nx pc t else if op = 26 then zx_ald XL 0 nx pc t else if op = 24 then ex24 nx o t else if op = 25 then ex25 nx o t else if op = 23 then ex23 nx o t else if op = 52 then ex52 nx o t else if op = 22 then ex22 nx o t else if op = 27 then zx_ast 0 nx pc t else if op = 11 then zx_bin XL 11 nx pc t else if op = 12 then zx_bin XL 12 nx pc t else if op = 13 then zx_bin XL 13 nx pc t else if op = 14 then zx_bin XL 14 nx pc t else if op = 15 then zx_bin XL 15 nx pc t else if op = 16 then zx_bin XL 16 nx pc t else if op = 17 then zx_bin XL 17 nx pc t else if op = 18 then zx_bin XL 18 nx pc t else if op = 19 then zx_bin XL 19 nx pc t else if op = 20 then zx_bin XL 20 nx pc t else if op = 33 then zx_dup 0 nx t else if op = 40 then zx_i2l nx t else if op = 36 then ex36 nx o t else if op = 44 then zx_lcmp nx t else if op = 28 then zx_ald XL 2 nx pc t else if op = 30 then zx_ald XL 1 nx pc t else if op = 21 then zx_neg nx t else if op = 31 then zx_ast 1 nx pc t else if op = 29 then zx_ast 2 nx pc t else if op = 32 then zx_len XL nx t else if op = 34 then zx_dup 1 nx t else if op = 35 then zx_dup 2 nx t else if op = 37 then ex37 nx o t else if op = 38 then ex38 nx o t else if op = 39 then ex39 nx o t else if op = 45 then zx_jop nx t 1 else if op = 46 then zx_jop nx t 1 else if op = 47 then zx_jop nx t 0 else if op = 50 then ex50 o t else if op = 51 then ex51 o t else if op = 53 then ex53 nx o t else if op = 54 then ex54 nx o t else if op = 55 then zx_nar mc ms 0 nx t else if op = 56 then zx_nar mc ms 1 nx t else if op = 57 then zx_nar mc ms 2 nx t else if op = 58 then ex58 mc ms nx o t else if op = 59 then ex59 d nx t else if op = 64 then ex64 d nx t else if op = 67 then ex67 mc ms d nx t else if op = 68 then ex68 mc ms d nx t else if op = 41 then zx_l2i nx t else if op = 42 then zx_i2w 23 nx t else if op = 43 then zx_i2w 24 nx t else if op = 48 then zx_ldr 19 nx t else if op = 49 then zx_ldr 20 nx t else if op = 70 then zx_pop2 nx t else none
theorem zex0_ok {op : Nat} (hd : decode y.2.1 pc = .ok (ins, len)) (hc : zck y pc op nx o ins len = true) : zSd l d y X mc ms XL φ Q pc t (zex0 XL mc ms d op nx pc o t) := by
  unfold zex0
  unfold zck at hc
  by_cases e0 : op = 0
  · rw [if_pos e0] at hc ⊢
    exact ok0 hd hc
  rw [if_neg e0] at hc ⊢
  by_cases e1 : op = 1
  · rw [if_pos e1] at hc ⊢
    exact ok1 hd hc
  rw [if_neg e1] at hc ⊢
  by_cases e2 : op = 2
  · rw [if_pos e2] at hc ⊢
    exact ok2 hd hc
  rw [if_neg e2] at hc ⊢
  by_cases e3 : op = 3
  · rw [if_pos e3] at hc ⊢
    exact ok3 hd hc
  rw [if_neg e3] at hc ⊢
  by_cases e6 : op = 6
  · rw [if_pos e6] at hc ⊢
    exact ok6 hd hc
  rw [if_neg e6] at hc ⊢
  by_cases e10 : op = 10
  · rw [if_pos e10] at hc ⊢
    exact ok10 hd hc
  rw [if_neg e10] at hc ⊢
  by_cases e26 : op = 26
  · rw [if_pos e26] at hc ⊢
    exact ok26 hd hc
  rw [if_neg e26] at hc ⊢
  by_cases e24 : op = 24
  · rw [if_pos e24] at hc ⊢
    exact ok24 hd hc
  rw [if_neg e24] at hc ⊢
  by_cases e25 : op = 25
  · rw [if_pos e25] at hc ⊢
    exact ok25 hd hc
  rw [if_neg e25] at hc ⊢
  by_cases e23 : op = 23
  · rw [if_pos e23] at hc ⊢
    exact ok23 hd hc
  rw [if_neg e23] at hc ⊢
  by_cases e52 : op = 52
  · rw [if_pos e52] at hc ⊢
    exact ok52 hd hc
  rw [if_neg e52] at hc ⊢
  by_cases e22 : op = 22
  · rw [if_pos e22] at hc ⊢
    exact ok22 hd hc
  rw [if_neg e22] at hc ⊢
  by_cases e27 : op = 27
  · rw [if_pos e27] at hc ⊢
    exact ok27 hd hc
  rw [if_neg e27] at hc ⊢
  by_cases e11 : op = 11
  · rw [if_pos e11] at hc ⊢
    exact ok11 hd hc
  rw [if_neg e11] at hc ⊢
  by_cases e12 : op = 12
  · rw [if_pos e12] at hc ⊢
    exact ok12 hd hc
  rw [if_neg e12] at hc ⊢
  by_cases e13 : op = 13
  · rw [if_pos e13] at hc ⊢
    exact ok13 hd hc
  rw [if_neg e13] at hc ⊢
  by_cases e14 : op = 14
  · rw [if_pos e14] at hc ⊢
    exact ok14 hd hc
  rw [if_neg e14] at hc ⊢
  by_cases e15 : op = 15
  · rw [if_pos e15] at hc ⊢
    exact ok15 hd hc
  rw [if_neg e15] at hc ⊢
  by_cases e16 : op = 16
  · rw [if_pos e16] at hc ⊢
    exact ok16 hd hc
  rw [if_neg e16] at hc ⊢
  by_cases e17 : op = 17
  · rw [if_pos e17] at hc ⊢
    exact ok17 hd hc
  rw [if_neg e17] at hc ⊢
  by_cases e18 : op = 18
  · rw [if_pos e18] at hc ⊢
    exact ok18 hd hc
  rw [if_neg e18] at hc ⊢
  by_cases e19 : op = 19
  · rw [if_pos e19] at hc ⊢
    exact ok19 hd hc
  rw [if_neg e19] at hc ⊢
  by_cases e20 : op = 20
  · rw [if_pos e20] at hc ⊢
    exact ok20 hd hc
  rw [if_neg e20] at hc ⊢
  by_cases e33 : op = 33
  · rw [if_pos e33] at hc ⊢
    exact ok33 hd hc
  rw [if_neg e33] at hc ⊢
  by_cases e40 : op = 40
  · rw [if_pos e40] at hc ⊢
    exact ok40 hd hc
  rw [if_neg e40] at hc ⊢
  by_cases e36 : op = 36
  · rw [if_pos e36] at hc ⊢
    exact ok36 hd hc
  rw [if_neg e36] at hc ⊢
  by_cases e44 : op = 44
  · rw [if_pos e44] at hc ⊢
    exact ok44 hd hc
  rw [if_neg e44] at hc ⊢
  by_cases e28 : op = 28
  · rw [if_pos e28] at hc ⊢
    exact ok28 hd hc
  rw [if_neg e28] at hc ⊢
  by_cases e30 : op = 30
  · rw [if_pos e30] at hc ⊢
    exact ok30 hd hc
  rw [if_neg e30] at hc ⊢
  by_cases e21 : op = 21
  · rw [if_pos e21] at hc ⊢
    exact ok21 hd hc
  rw [if_neg e21] at hc ⊢
  by_cases e31 : op = 31
  · rw [if_pos e31] at hc ⊢
    exact ok31 hd hc
  rw [if_neg e31] at hc ⊢
  by_cases e29 : op = 29
  · rw [if_pos e29] at hc ⊢
    exact ok29 hd hc
  rw [if_neg e29] at hc ⊢
  by_cases e32 : op = 32
  · rw [if_pos e32] at hc ⊢
    exact ok32 hd hc
  rw [if_neg e32] at hc ⊢
  by_cases e34 : op = 34
  · rw [if_pos e34] at hc ⊢
    exact ok34 hd hc
  rw [if_neg e34] at hc ⊢
  by_cases e35 : op = 35
  · rw [if_pos e35] at hc ⊢
    exact ok35 hd hc
  rw [if_neg e35] at hc ⊢
  by_cases e37 : op = 37
  · rw [if_pos e37] at hc ⊢
    exact ok37 hd hc
  rw [if_neg e37] at hc ⊢
  by_cases e38 : op = 38
  · rw [if_pos e38] at hc ⊢
    exact ok38 hd hc
  rw [if_neg e38] at hc ⊢
  by_cases e39 : op = 39
  · rw [if_pos e39] at hc ⊢
    exact ok39 hd hc
  rw [if_neg e39] at hc ⊢
  by_cases e45 : op = 45
  · rw [if_pos e45] at hc ⊢
    exact ok45 hd hc
  rw [if_neg e45] at hc ⊢
  by_cases e46 : op = 46
  · rw [if_pos e46] at hc ⊢
    exact ok46 hd hc
  rw [if_neg e46] at hc ⊢
  by_cases e47 : op = 47
  · rw [if_pos e47] at hc ⊢
    exact ok47 hd hc
  rw [if_neg e47] at hc ⊢
  by_cases e50 : op = 50
  · rw [if_pos e50] at hc ⊢
    exact ok50 hd hc
  rw [if_neg e50] at hc ⊢
  by_cases e51 : op = 51
  · rw [if_pos e51] at hc ⊢
    exact ok51 hd hc
  rw [if_neg e51] at hc ⊢
  by_cases e53 : op = 53
  · rw [if_pos e53] at hc ⊢
    exact ok53 hd hc
  rw [if_neg e53] at hc ⊢
  by_cases e54 : op = 54
  · rw [if_pos e54] at hc ⊢
    exact ok54 hd hc
  rw [if_neg e54] at hc ⊢
  by_cases e55 : op = 55
  · rw [if_pos e55] at hc ⊢
    exact ok55 hd hc
  rw [if_neg e55] at hc ⊢
  by_cases e56 : op = 56
  · rw [if_pos e56] at hc ⊢
    exact ok56 hd hc
  rw [if_neg e56] at hc ⊢
  by_cases e57 : op = 57
  · rw [if_pos e57] at hc ⊢
    exact ok57 hd hc
  rw [if_neg e57] at hc ⊢
  by_cases e58 : op = 58
  · rw [if_pos e58] at hc ⊢
    exact ok58 hd hc
  rw [if_neg e58] at hc ⊢
  by_cases e59 : op = 59
  · rw [if_pos e59] at hc ⊢
    exact ok59 hd hc
  rw [if_neg e59] at hc ⊢
  by_cases e64 : op = 64
  · rw [if_pos e64] at hc ⊢
    exact ok64 hd hc
  rw [if_neg e64] at hc ⊢
  by_cases e67 : op = 67
  · rw [if_pos e67] at hc ⊢
    exact ok67 hd hc
  rw [if_neg e67] at hc ⊢
  by_cases e68 : op = 68
  · rw [if_pos e68] at hc ⊢
    exact ok68 hd hc
  rw [if_neg e68] at hc ⊢
  by_cases e41 : op = 41
  · rw [if_pos e41] at hc ⊢
    exact ok41 hd hc
  rw [if_neg e41] at hc ⊢
  by_cases e42 : op = 42
  · rw [if_pos e42] at hc ⊢
    exact ok42 hd hc
  rw [if_neg e42] at hc ⊢
  by_cases e43 : op = 43
  · rw [if_pos e43] at hc ⊢
    exact ok43 hd hc
  rw [if_neg e43] at hc ⊢
  by_cases e48 : op = 48
  · rw [if_pos e48] at hc ⊢
    exact ok48 hd hc
  rw [if_neg e48] at hc ⊢
  by_cases e49 : op = 49
  · rw [if_pos e49] at hc ⊢
    exact ok49 hd hc
  rw [if_neg e49] at hc ⊢
  by_cases e70 : op = 70
  · rw [if_pos e70] at hc ⊢
    exact ok70 hd hc
  rw [if_neg e70] at hc ⊢
  exact zSd_none
/-- a told array that a value refers to -/
def z8i (H : zA_H) (a : zA_V) : Option (Nat × zA_C) := if a.1 = 2 ∧ 3 ≤ a.2.toNat then (match H[a.2.toNat - 3]? with
  | some c => if c.1 = 8 ∧ 0 < c.2.2.1 then some (a.2.toNat - 3, c) else none
  | none => none) else none
theorem z8i_g {H : zA_H} {a : zA_V} {q : Nat × zA_C} (h : z8i H a = some q) : a.1 = 2 ∧ 3 ≤ a.2.toNat ∧ q.1 = a.2.toNat - 3 ∧ H[q.1]? = some q.2 ∧ q.2.1 = 8 ∧ 0 < q.2.2.2.1 := by
  unfold z8i at h
  split at h
  · next h1 =>
    split at h
    · next c hc =>
      split at h
      · next h2 =>
        cases h
        exact ⟨h1.1, h1.2, rfl, hc, h2.1, h2.2⟩
      · cases h
    · cases h
  · cases h
/-- turned into a wide one -/
def z8c (c : zA_C) : zA_C := (1, if (c.2.2.2.1.headD (3, 0)).1 = 8 then 1 else 0, c.2.2.1, [c.2.2.2.1.headD (3, 0)], c.2.2.2.2)
theorem z8c_g {φ : List z_C} {ρ : List Int} {a : zA_C} {c : z_C} (h1 : a.1 = 8) (h2 : 0 < a.2.2.1) (g : zg_C φ ρ a c) : zg_C φ ρ (z8c a) c := by
  unfold z8c
  rcases g with ⟨-, -, g⟩ | ⟨g1, -⟩ | ⟨g1, -⟩ | ⟨g1, -⟩ | ⟨g1, -⟩
  · rcases g h2 with ⟨f, e, k, g, gy⟩ | ⟨f, e, k, g, gy⟩
    · rw [if_neg k]
      exact Or.inr (Or.inr (Or.inl ⟨rfl, rfl, f, e, fun j hj => g j hj, gy⟩))
    · rw [if_pos k]
      exact Or.inr (Or.inr (Or.inr (Or.inl ⟨rfl, rfl, f, e, fun j hj => g j hj, gy⟩)))
  all_goals omega
def z8l (H : zA_H) : List zA_V → Option (Nat × zA_C)
  | [] => none
  | a :: l => match z8i H a with
    | some q => some q
    | none => z8l H l
theorem z8l_g {H : zA_H} : ∀ {l : List zA_V} {q : Nat × zA_C}, z8l H l = some q → H[q.1]? = some q.2 ∧ q.2.1 = 8 ∧ 0 < q.2.2.2.1
  | [], _, h => by cases h
  | a :: l, q, h => by
    unfold z8l at h
    split at h
    · next q' hq =>
      cases h
      exact (z8i_g hq).2.2.2
    · exact z8l_g h
def z8op (op : Nat) : Bool := Nat.beq op 27 || (Nat.beq op 31 || (Nat.beq op 32 || (Nat.beq op 64 || (Nat.beq op 67 || Nat.beq op 68))))
/-- a place of a told array: told by its number, or by a name and kept in mind -/
def z8K (nx : Nat) (t : zA_T) (r : List zA_V) (i k : Nat) (c : zA_C) (v : zA_V) : zA_R := if v.1 < 6 then some [(nx, zt_st t (v :: r))] else
  some ((zwd t.1 v).map (fun p => (nx, (p.1, t.2.1.set i (8, c.2.1, c.2.2.1, c.2.2.2.1, (1000000 + k, p.2) :: c.2.2.2.2), t.2.2.1, p.2 :: r, t.2.2.2.2))))
def z8jn (S : zA_S) (c : zA_C) (j0 : zA_V) : zA_V := if j0.1 = 1 ∧ 6 ≤ (c.2.2.2.1.headD (3, 0)).1 ∧ c.2.2.2.2.all (fun q => Nat.ble 1000000 q.1) = true then j0 else zn S j0
theorem z8jn_g {ρ : List Int} {S : zA_S} {c : zA_C} {j0 : zA_V} {v : Value} (hS : zg_S ρ S) (g : zg_V ρ j0 v) : zg_V ρ (z8jn S c j0) v := by
  unfold z8jn
  split
  · exact g
  · exact zn_g hS g
def z8r (ty nx pc : Nat) (t : zA_T) (j0 : zA_V) (r : List zA_V) (i : Nat) (c : zA_C) : zA_R :=
  let j := z8jn t.1 c j0
  if zIs j = true then (match zrx t.1 j with
    | some q => if (ty = 1 ↔ (c.2.2.2.1.headD (3, 0)).1 = 8) ∧ 0 ≤ q.1 ∧ q.2 < c.2.2.1 then
        (if j.1 = 0 then zx_aldW nx t r (zx_el c j.2.toNat) else if zncr q c.2.2.2.2 = true ∧ c.2.2.1 ≤ 1000000 then (match c.2.2.2.2.lookup (1000000 + j.2.toNat) with
          | some v => zx_aldW nx t r v
          | none => z8K nx t r i j.2.toNat c (c.2.2.2.1.headD (3, 0)))
          else zx_again pc t (zSp t.1 j)) else none
    | none => none) else none
def z8rd (ty nx pc : Nat) (t : zA_T) : Option zA_R := match t.2.2.2.1 with
  | j0 :: a :: r => (match z8i t.2.1 a with
    | some q => some (z8r ty nx pc t j0 r q.1 q.2)
    | none => none)
  | _ => none
theorem z8rd_g {ty : Nat} {r : zA_R} (hty : ty < 2) (hI : ty = 0 → decode y.2.1 pc = .ok (.iaload, 1) ∧ nx = pc + 1) (hJ : ty = 1 → decode y.2.1 pc = .ok (.laload, 1) ∧ nx = pc + 1) (h : z8rd ty nx pc t = some r) : zSd l d y X mc ms XL φ Q pc t r := by
  obtain ⟨S, H, L, s0, cc, ns⟩ := t
  intro ts hts ρ ph lv st g k0
  have gT := g
  obtain ⟨g1, g2, g3, g4, g5⟩ := g
  unfold z8rd at h
  split at h
  · next j0 a r0 hst =>
    have hst : s0 = j0 :: a :: r0 := hst
    subst hst
    obtain ⟨vj, st1, rfl, gj0, gr1⟩ := zL2.cons1 g4
    obtain ⟨va, st2, rfl, ga, gr⟩ := zL2.cons1 gr1
    split at h
    · next q0 hq0 =>
      cases h
      obtain ⟨i, c⟩ := q0
      obtain ⟨a1, a2, a3, a4, a5, a6⟩ := z8i_g hq0
      dsimp only at a3 a4 a5 a6 hts
      have ea := zg_ref a1 ga
      subst ea
      rw [z_back3 a2, ← a3]
      obtain ⟨c', hc', gc⟩ := zL2.get g2 a4
      have gj := z8jn_g (c := c) g1 gj0
      unfold z8r at hts
      dsimp only at hts
      generalize hej : z8jn S c j0 = j at *
      split at hts
      · next hI0 =>
        obtain ⟨x, rfl, ex⟩ := zg_int hI0 gj
        split at hts
        · next q hq =>
          have bq := zrx_in g1 ex hq
          split at hts
          · next h4 =>
            obtain ⟨c4, c5, c6⟩ := h4
            have hin : vp_in x c.2.2.1 := vp_in_iff.mpr ⟨by omega, by omega⟩
            have hjl : x.toNatClampNeg < c.2.2.1 := z_in_lt hin
            obtain ⟨hφ, g8⟩ : φ[c.2.1]? = some c' ∧ zg_8 ρ c c' := by
              rcases gc with ⟨-, e1, e2⟩ | ⟨g1, -⟩ | ⟨g1, -⟩ | ⟨g1, -⟩ | ⟨g1, -⟩
              · exact ⟨e1, e2⟩
              all_goals omega
            have g8' := g8 a6
            have end_ : (∀ (el : Nat → Value), (∀ j, j < c.2.2.1 → zg_V ρ (zx_el c j) (el j)) → zg_Y ρ c.2.2.1 c.2.2.2.2 el → (∀ (ρ' : List Int) (ov : List (Nat × zA_V)), (∀ j, j < c.2.2.1 → zg_V ρ' ((ov.lookup j).getD (c.2.2.2.1.headD (3, 0))) (el j)) → zg_Y ρ' c.2.2.1 ov el → zg_C φ ρ' (8, c.2.1, c.2.2.1, c.2.2.2.1, ov) c') → ZW l d y X mc ms Q nx lv (el x.toNatClampNeg :: st2) ph cc ns) → ZW l d y X mc ms Q pc lv (.int x :: .ref (i + 3) :: st2) ph cc ns := by
              intro K
              rcases g8' with ⟨f, e, k, gf, gy⟩ | ⟨f, e, k, gf, gy⟩
              · have h0 : ty = 0 := by
                  rcases (by omega : ty = 0 ∨ ty = 1) with e | e
                  · exact e
                  · exact absurd (c4.mp e) k
                obtain ⟨hd, rfl⟩ := hI h0
                have hc2 := hc'
                rw [e] at hc2
                exact zs_iaload hd hc2 hin (K (fun j => .int (f j)) gf gy (fun ρ' ov g1 g2 => Or.inl ⟨rfl, hφ, fun _ => Or.inl ⟨f, e, k, g1, g2⟩⟩))
              · have h1 : ty = 1 := c4.mpr k
                obtain ⟨hd, rfl⟩ := hJ h1
                have hc2 := hc'
                rw [e] at hc2
                exact zs_laload hd hc2 hin (K (fun j => .long (f j)) gf gy (fun ρ' ov g1 g2 => Or.inl ⟨rfl, hφ, fun _ => Or.inr ⟨f, e, k, g1, g2⟩⟩))
            have fin : ∀ (v : zA_V), zx_aldW nx (S, H, L, j0 :: a :: r0, cc, ns) r0 v = some ts → ∀ u, zg_V ρ v u → ZW l d y X mc ms Q nx lv (u :: st2) ph cc ns := by
              intro v e u gu
              unfold zx_aldW at e
              split at e
              · cases e
                exact k0 _ (List.mem_singleton.mpr rfl) ρ ph lv _ (zLE.refl ρ) ⟨g1, g2, g3, ⟨gu, gr⟩, g5⟩
              · cases e
                obtain ⟨p, hp, ρ', hle, gS, gV⟩ := zwd_g g1 gu
                exact k0 _ (List.mem_map.mpr ⟨p, hp, rfl⟩) ρ' ph lv _ hle ⟨gS, zL2.mono (fun _ _ => zg_C.mono hle) g2, zL2.mono (fun _ _ q => ⟨q.1, q.2.mono hle⟩) g3, ⟨gV, zL2.mono (fun _ _ => zg_V.mono hle) gr⟩, g5.mono hle⟩
            split at hts
            · next hj0 =>
              have hx : x.toInt = j.2 := by rcases ex with ⟨-, e⟩ | ⟨e, -⟩ <;> omega
              have hxn : x.toNatClampNeg = j.2.toNat := by show x.toInt.toNat = _; rw [hx]
              exact end_ (fun el gf gy gC => fin _ hts _ (by rw [← hxn]; exact gf _ hjl))
            · next hj0 =>
              split at hts
              · next hov =>
                obtain ⟨hnc, hlen⟩ := hov
                have hbase : ∀ u, zg_V ρ (zx_el c x.toNatClampNeg) u → zg_V ρ (c.2.2.2.1.headD (3, 0)) u := by
                  intro u gu
                  unfold zx_el at gu
                  have hxn : (x.toNatClampNeg : Int) = x.toInt := by show ((x.toInt.toNat : Nat) : Int) = _; omega
                  rw [zncr_look hnc (by omega) (by omega) (by omega)] at gu
                  exact gu
                have ek : ρ[j.2.toNat]? = some x.toInt := by
                  rcases ex with ⟨h | h, e⟩ | ⟨-, e⟩
                  · exact absurd h hj0
                  · have := hI0
                    simp only [zIs, Bool.or_eq_true, beq_iff_eq] at this
                    omega
                  · exact e
                split at hts
                · next v hv =>
                  have hm := z_look_in hv
                  refine end_ (fun el gf gy gC => fin _ hts _ ?_)
                  obtain ⟨m, h1, h2⟩ := gy _ hm (Nat.le_add_right _ _)
                  have h1 : ρ[1000000 + j.2.toNat - 1000000]? = some m := h1
                  rw [Nat.add_sub_cancel_left, ek] at h1
                  cases h1
                  exact h2 (by omega) (by omega)
                · unfold z8K at hts
                  split at hts
                  · next h6 => exact end_ (fun el gf gy gC => fin (c.2.2.2.1.headD (3, 0)) (by unfold zx_aldW; rw [if_pos h6]; exact hts) _ (hbase _ (gf _ hjl)))
                  · cases hts
                    refine end_ (fun el gf gy gC => ?_)
                    obtain ⟨p, hp, ρ', hle, gS, gV⟩ := zwd_g g1 (hbase _ (gf _ hjl))
                    refine k0 _ (List.mem_map.mpr ⟨p, hp, rfl⟩) ρ' ph lv _ hle ⟨gS, zL2.setL' (gC ρ' ((1000000 + j.2.toNat, p.2) :: c.2.2.2.2) (fun i hi => ?_) (fun q hq hk => ?_)) _ (zL2.mono (fun _ _ => zg_C.mono hle) g2) hc', zL2.mono (fun _ _ q => ⟨q.1, q.2.mono hle⟩) g3, ⟨gV, zL2.mono (fun _ _ => zg_V.mono hle) gr⟩, g5.mono hle⟩
                    · rw [List.lookup_cons]
                      have : (i == 1000000 + j.2.toNat) = false := by
                        rw [beq_eq_false_iff_ne]
                        omega
                      rw [this]
                      exact (gf i hi).mono hle
                    · rcases List.mem_cons.mp hq with rfl | hq
                      · refine ⟨x.toInt, ?_, fun _ _ => gV⟩
                        show ρ'[1000000 + j.2.toNat - 1000000]? = _
                        rw [Nat.add_sub_cancel_left]
                        exact hle _ _ ek
                      · exact (gy.mono hle) q hq hk
              · obtain ⟨t', m, gt, e⟩ := zx_again_g hts rfl gT ex
                have := k0 _ m ρ ph lv _ (zLE.refl ρ) gt
                rw [e, z_back3 a2, ← a3] at this
                exact this
          · cases hts
        · cases hts
      · cases hts
    · cases h
  · cases h
def zex (XL mc ms d op nx pc : Nat) (o : List Int) (t : zA_T) : zA_R := if op = 26 then (match z8rd 0 nx pc t with
    | some r => r
    | none => zex0 XL mc ms d op nx pc o t) else if op = 30 then (match z8rd 1 nx pc t with
    | some r => r
    | none => zex0 XL mc ms d op nx pc o t) else if z8op op = true then (match z8l t.2.1 (t.2.2.2.1.take 5) with
    | some q => some [(pc, (t.1, t.2.1.set q.1 (z8c q.2), t.2.2))]
    | none => zex0 XL mc ms d op nx pc o t) else zex0 XL mc ms d op nx pc o t
theorem zex_ok {op : Nat} (hd : decode y.2.1 pc = .ok (ins, len)) (hc : zck y pc op nx o ins len = true) : zSd l d y X mc ms XL φ Q pc t (zex XL mc ms d op nx pc o t) := by
  unfold zex
  split
  · next e =>
    subst e
    split
    · next r hr =>
      have hc26 : ck26 y pc nx o ins len = true := hc
      obtain ⟨rfl, rfl, rfl⟩ := of_decide_eq_true hc26
      exact z8rd_g (by decide) (fun _ => ⟨hd, rfl⟩) (fun e => absurd e (by decide)) hr
    · exact zex0_ok hd hc
  · split
    · next e =>
      subst e
      split
      · next r hr =>
        have hc30 : ck30 y pc nx o ins len = true := hc
        obtain ⟨rfl, rfl, rfl⟩ := of_decide_eq_true hc30
        exact z8rd_g (by decide) (fun e => absurd e (by decide)) (fun _ => ⟨hd, rfl⟩) hr
      · exact zex0_ok hd hc
    · split
      · split
        · next q hq =>
          intro ts hts ρ ph lv st g k0
          cases hts
          obtain ⟨a1, a2, a3⟩ := z8l_g hq
          refine k0 _ (List.mem_singleton.mpr rfl) ρ ph lv st (zLE.refl ρ) ⟨g.1, zL2.setL q.1 g.2.1 (fun x hx => ?_), g.2.2⟩
          obtain ⟨x', ex, gx⟩ := zL2.get g.2.1 a1
          rw [hx] at ex
          cases ex
          exact z8c_g a2 a3 gx
        · exact zex0_ok hd hc
      · exact zex0_ok hd hc
end ZK
end
section
/-! PART 15: calls, ends, the explorer; it is right. -/
/-- how many cells and slots a method makes -/
def zmc_L : List (Nat × Nat × Nat) := [(0, 64, 4062), (1, 42, 2869), (3, 3, 40), (4, 3, 262), (5, 2, 248), (6, 2, 1606), (9, 4, 42), (10, 4, 160), (11, 2, 74), (12, 1, 60), (175, 20, 1145)]
def zmc (m : Nat) : Nat × Nat := (zmc_L.lookup m).getD (0, 0)
abbrev zA_F : Type := Nat × Nat × Nat × zA_L × List zA_V × Nat × Nat
abbrev zC_F : Type := Nat × Nat × Nat × List (Nat × Value) × List Value × Nat × Nat
/-- what the callers make of an answer -/
def zQS (l : Launch) (X : zx_X) (Q0 : Option Value → List z_C → Prop) : List zC_F → Option Value → List z_C → Prop
  | [] => Q0
  | f :: r => fun v ph => ZW l f.2.1 (zm f.1) X (zmc f.1).1 (zmc f.1).2 (zQS l X Q0 r) f.2.2.1 f.2.2.2.1 (v.toList ++ f.2.2.2.2.1) ph f.2.2.2.2.2.1 f.2.2.2.2.2.2
def zg_F (ρ : List Int) (f : zA_F) (g : zC_F) : Prop := f.1 < 267 ∧ f.1 = g.1 ∧ f.2.1 = g.2.1 ∧ f.2.2.1 = g.2.2.1 ∧ zg_L ρ f.2.2.2.1 g.2.2.2.1 ∧ zL2 (zg_V ρ) f.2.2.2.2.1 g.2.2.2.2.1 ∧ f.2.2.2.2.2 = g.2.2.2.2.2
theorem zg_F.mono {ρ ρ' : List Int} (h : zLE ρ ρ') {f : zA_F} {g : zC_F} (q : zg_F ρ f g) : zg_F ρ' f g :=
  ⟨q.1, q.2.1, q.2.2.1, q.2.2.2.1, zL2.mono (fun _ _ z => ⟨z.1, z.2.mono h⟩) q.2.2.2.2.1, zL2.mono (fun _ _ => zg_V.mono h) q.2.2.2.2.2.1, q.2.2.2.2.2.2⟩
def zx_args : Nat → List zA_V → zA_L
  | _, [] => []
  | i, a :: r => (i, a) :: zx_args (if zcat a = 2 then i + 2 else i + 1) r
theorem zx_args_g {ρ : List Int} : ∀ {as : List zA_V} {vs : List Value} (i : Nat), zL2 (zg_V ρ) as vs → zg_L ρ (zx_args i as) (lv_args i vs)
  | [], [], _, _ => trivial
  | a :: as, v :: vs, i, h => by
    refine ⟨⟨rfl, h.1⟩, ?_⟩
    have e : v.category = zcat a := zg_cat h.1
    show zL2 _ (zx_args (if zcat a = 2 then i + 2 else i + 1) as) (lv_args (if v.category = 2 then i + 2 else i + 1) vs)
    rw [e]
    exact zx_args_g _ h.2
  | [], _ :: _, _, h => h.elim
  | _ :: _, [], _, h => h.elim
theorem z_slSum : ∀ (vs : List Value), (lg_sl vs).length = (vs.map (fun v => v.category)).sum
  | [] => rfl
  | v :: vs => by
    have e1 : (lg_sl (v :: vs)).length = (if v.category = 2 then 2 else 1) + (lg_sl vs).length := by
      simp only [lg_sl, List.flatMap_cons, List.length_append]
      by_cases h : v.category = 2 <;> simp [h]
    rw [e1, z_slSum vs, List.map_cons, List.sum_cons]
    rcases lv_cat v with h | h
    · rw [if_neg (by omega), h]
    · rw [if_pos h, h]
theorem zL2.take {α β : Type} {R : α → β → Prop} : ∀ {as : List α} {bs : List β} (n : Nat), zL2 R as bs → zL2 R (as.take n) (bs.take n)
  | _, _, 0, _ => by simp only [List.take_zero]; trivial
  | [], [], _ + 1, _ => trivial
  | _ :: _, _ :: _, n + 1, h => ⟨h.1, zL2.take n h.2⟩
  | [], _ :: _, _ + 1, h => h.elim
  | _ :: _, [], _ + 1, h => h.elim
theorem zL2.drop {α β : Type} {R : α → β → Prop} : ∀ {as : List α} {bs : List β} (n : Nat), zL2 R as bs → zL2 R (as.drop n) (bs.drop n)
  | _, _, 0, h => h
  | [], [], _ + 1, _ => trivial
  | _ :: _, _ :: _, n + 1, h => zL2.drop n h.2
  | [], _ :: _, _ + 1, h => h.elim
  | _ :: _, [], _ + 1, h => h.elim
theorem zL2.rev {α β : Type} {R : α → β → Prop} : ∀ {as : List α} {bs : List β}, zL2 R as bs → zL2 R as.reverse bs.reverse
  | [], [], _ => trivial
  | a :: as, b :: bs, h => by
    rw [List.reverse_cons, List.reverse_cons]
    exact zL2.app (cs := [a]) (ds := [b]) ⟨h.1, trivial⟩ (zL2.rev h.2)
  | [], _ :: _, h => h.elim
  | _ :: _, [], h => h.elim
theorem zL2.mapL {ρ : List Int} {S : zA_S} (hS : zg_S ρ S) : ∀ {as : List zA_V} {bs : List Value}, zL2 (zg_V ρ) as bs → zL2 (zg_V ρ) (as.map (zn S)) bs
  | [], [], _ => trivial
  | _ :: _, _ :: _, h => ⟨zn_g hS h.1, zL2.mapL hS h.2⟩
  | [], _ :: _, h => h.elim
  | _ :: _, [], h => h.elim
/-- the receiver: nothing to ask (0), a reference (1), an object of the class (2) -/
def zx_rcv (k : Nat) (ci : Int) (a : zA_V) (H : zA_H) : Bool := if k = 0 then true else if k = 1 then a.1 == 2 else (if a.1 = 2 ∧ 3 ≤ a.2.toNat then (match H[a.2.toNat - 3]? with
  | some c => decide (c.1 = 0 ∧ c.2.1 = ci.toNat)
  | none => false) else false)
/-- a call: t', its callers; (k: 0 static, 1 special, 2 virtual) -/
def zx_call (k : Nat) (ci : Int) (m' n ml m d nx : Nat) (t : zA_T) (stk : List zA_F) : Option (Nat × zA_T × List zA_F) := match d with
  | 0 => none
  | d' + 1 =>
    let rc := if k = 0 then n else n + 1
    let as := (t.2.2.2.1.take rc).reverse
    let rest := t.2.2.2.1.drop rc
    let c' := t.2.2.2.2.1 + (zmc m').1
    let s' := t.2.2.2.2.2 + (zmc m').2
    if rc ≤ t.2.2.2.1.length ∧ (rest.map zcat).sum ≤ 8 ∧ (as.map zcat).sum ≤ ml ∧ c' ≤ (zmc m).1 ∧ s' ≤ (zmc m).2 ∧ zx_rcv k ci (as.headD (99, 0)) t.2.1 = true then
      some (d', (t.1, t.2.1, zx_args 0 (as.map (zn t.1)), [], 0, 0), (m, d' + 1, nx, t.2.2.1, rest, c', s') :: stk) else none
def zx_ci : List Int → Int
  | [_, _, _, ci, _] => ci
  | _ => 0
def zcall (op m d nx : Nat) (o : List Int) (t : zA_T) (stk : List zA_F) : Option (Nat × Nat × zA_T × List zA_F) := match o with
  | t' :: na :: ml :: _ :: o2 => (match zx_call (if op = 5 then 2 else if op = 60 then 0 else if op = 61 then 0 else 1) (zx_ci o2) t'.toNat na.toNat ml.toNat m d nx t stk with
      | some q => some (t'.toNat, q)
      | none => none)
  | _ => none
section ZK
variable {l : Launch} {d : Nat} {X : zx_X} {XL : Nat} {φ : List z_C} {Q0 : Option Value → List z_C → Prop} {pc nx len : Nat} {ins : Instr} {o : List Int} {t : zA_T}
theorem zcall_ok {op m m' d2 : Nat} {t' : zA_T} {stk stk' : List zA_F} (hm : m < 267) (hd : decode (zm m).2.1 pc = .ok (ins, len)) (hc : zcc op (zm m) pc nx o ins len = true) (he : zcall op m d nx o t stk = some (m', d2, t', stk'))
    {ρ : List Int} {ph : List z_C} {lv : List (Nat × Value)} {st : List Value} {cst : List zC_F} (g : zg_T XL X φ ρ t ph lv st) (gs : zL2 (zg_F ρ) stk cst)
    (k : m' < 267 → ∀ (lv' : List (Nat × Value)) (cst' : List zC_F), zg_T XL X φ ρ t' ph lv' [] → zL2 (zg_F ρ) stk' cst' → ZW l d2 (zm m') X (zmc m').1 (zmc m').2 (zQS l X Q0 cst') 0 lv' [] ph t'.2.2.2.2.1 t'.2.2.2.2.2) :
    ZW l d (zm m) X (zmc m).1 (zmc m).2 (zQS l X Q0 cst) pc lv st ph t.2.2.2.2.1 t.2.2.2.2.2 := by
  obtain ⟨S, H, L, s0, cc, ns⟩ := t
  obtain ⟨g1, g2, g3, g4, g5⟩ := g
  unfold zcall at he
  split at he
  · next tt na ml w o2 =>
    split at he
    · next q hq =>
      cases he
      unfold zcc at hc
      dsimp only at hc
      obtain ⟨h1, hc2⟩ := zw_and hc
      obtain ⟨h2, hc3⟩ := zw_and hc2
      obtain ⟨hlt, hna, hml, rfl, rfl⟩ := of_decide_eq_true h1
      obtain ⟨hcal, hpl⟩ := zm_cal (zm_Kg hlt h2)
      generalize hkk : (if op = 5 then 2 else if op = 60 then 0 else if op = 61 then 0 else 1) = kk at *
      unfold zx_call at hq
      split at hq
      · cases hq
      · next dd =>
        dsimp only at hq
        generalize hrc : (if kk = 0 then na.toNat else na.toNat + 1) = rc at *
        split at hq
        · next hcond =>
          cases hq
          obtain ⟨q1, q2, q3, q4, q5, q6⟩ := hcond
          have hlen : s0.length = st.length := zL2.len g4
          have q1 : rc ≤ s0.length := q1
          have gargs : zL2 (zg_V ρ) (s0.take rc).reverse (st.take rc).reverse := zL2.rev (zL2.take rc g4)
          have grest : zL2 (zg_V ρ) (s0.drop rc) (st.drop rc) := zL2.drop rc g4
          have hcat : ((st.drop rc).map (fun v => v.category)).sum ≤ 8 := by rw [zg_cats grest]; exact q2
          have hsl : (lg_sl (st.take rc).reverse).length ≤ (zm tt.toNat).2.2.1 := by rw [z_slSum, zg_cats gargs, ← hml]; exact q3
          have hstl : ((st.take rc).reverse).length = rc := by
            rw [List.length_reverse, List.length_take]
            omega
          have hM : ZM l d2 (zm tt.toNat) X (st.take rc).reverse ph (zmc tt.toNat).1 (zmc tt.toNat).2 (zQS l X Q0 ((m, d2 + 1, pc + 3, lv, st.drop rc, cc + (zmc tt.toNat).1, ns + (zmc tt.toNat).2) :: cst)) :=
            ZM.of hpl hsl (k hlt _ _ ⟨g1, g2, zx_args_g 0 (zL2.mapL g1 gargs), trivial, g5⟩ ⟨⟨hm, rfl, rfl, rfl, g3, grest, rfl⟩, gs⟩)
          have hst : st = ((st.take rc).reverse).reverse ++ st.drop rc := by rw [List.reverse_reverse, List.take_append_drop]
          have kont : ∀ (v : Option Value) (ph' : List z_C), zQS l X Q0 ((m, d2 + 1, pc + 3, lv, st.drop rc, cc + (zmc tt.toNat).1, ns + (zmc tt.toNat).2) :: cst) v ph' → ZW l (d2 + 1) (zm m) X (zmc m).1 (zmc m).2 (zQS l X Q0 cst) (pc + 3) lv (v.toList ++ st.drop rc) ph' (cc + (zmc tt.toNat).1) (ns + (zmc tt.toNat).2) := fun v ph' h => h
          have static : kk = 0 → ((st.take rc).reverse).length = zm_N tt.toNat := by
            intro e
            rw [hstl, ← hrc, if_pos e, hna]
          have recv : kk ≠ 0 → ∃ (a : zA_V) (r : List zA_V) (v : Value) (vs : List Value), (s0.take rc).reverse = a :: r ∧ (st.take rc).reverse = v :: vs ∧ zg_V ρ a v ∧ vs.length = zm_N tt.toNat := by
            intro e
            rw [if_neg e] at hrc
            have hl : ((s0.take rc).reverse).length = rc := by
              rw [List.length_reverse, List.length_take]
              omega
            cases ha : (s0.take rc).reverse with
            | nil => rw [ha] at hl; simp at hl; omega
            | cons a r =>
              cases hv : (st.take rc).reverse with
              | nil => rw [hv] at hstl; simp at hstl; omega
              | cons v vs =>
                rw [ha, hv] at gargs
                rw [hv] at hstl
                refine ⟨a, r, v, vs, rfl, rfl, gargs.1, ?_⟩
                rw [List.length_cons] at hstl
                omega
          clear gargs
          generalize hfull : (st.take rc).reverse = full at *
          generalize st.drop rc = rst at *
          split at hc3
          · next s1 s2 j =>
            split at hc3
            · next e60 =>
              obtain ⟨h5, h6⟩ := zw_and hc3
              obtain ⟨h7, h8⟩ := zw_and h6
              have h9 := of_decide_eq_true h5
              subst h9
              rw [hst]
              exact zs_callS (zx_of h7) (zx_of h8) hcal (static (by rw [← hkk, e60]; rfl)) hcat (Nat.le_refl _) q4 q5 hd hM kont
            · split at hc3
              · next e60 =>
                obtain ⟨h5, h6⟩ := zw_and hc3
                obtain ⟨h7, h8⟩ := zw_and h6
                have h9 := of_decide_eq_true h5
                subst h9
                rw [hst]
                exact zs_callSN (of_decide_eq_true h7) (zx_of h8) hcal (static (by rw [← hkk, e60]; rfl)) hcat (Nat.le_refl _) q4 q5 hd hM kont
              · split at hc3
                · next e60 =>
                  obtain ⟨h5, h6⟩ := zw_and hc3
                  obtain ⟨h7, h8⟩ := zw_and h6
                  obtain ⟨h9, h10, h11⟩ := of_decide_eq_true h5
                  subst h9
                  have ekk : kk = 1 := by rw [← hkk, e60]; rfl
                  obtain ⟨a, r, v, vs, ea, ev, gv, hvl⟩ := recv (by omega)
                  rw [ea, ekk] at q6
                  have e2 := zg_ref (a := a) (by simpa [zx_rcv] using q6) gv
                  subst e2
                  rw [hst, ev, List.reverse_cons, List.append_assoc]
                  rw [ev] at hM
                  exact zs_callI h10 h11 (zx_of h7) (zx_of h8) hcal hvl hcat (Nat.le_refl _) q4 q5 hd hM kont
                · split at hc3
                  · next e60 =>
                    obtain ⟨h5, h6⟩ := zw_and hc3
                    obtain ⟨h7, h8⟩ := zw_and h6
                    obtain ⟨h9, h10, h11⟩ := of_decide_eq_true h5
                    subst h9
                    have ekk : kk = 1 := by rw [← hkk, e60]; rfl
                    obtain ⟨a, r, v, vs, ea, ev, gv, hvl⟩ := recv (by omega)
                    rw [ea, ekk] at q6
                    have e2 := zg_ref (a := a) (by simpa [zx_rcv] using q6) gv
                    subst e2
                    rw [hst, ev, List.reverse_cons, List.append_assoc]
                    rw [ev] at hM
                    exact zs_callIN h10 h11 (of_decide_eq_true h7) (zx_of h8) hcal hvl hcat (Nat.le_refl _) q4 q5 hd hM kont
                  · cases hc3
          · next im se s1 ci j =>
            split at hc3
            · next e5 =>
              obtain ⟨h5, h6⟩ := zw_and hc3
              obtain ⟨h7, h8⟩ := zw_and h6
              obtain ⟨h9, h10⟩ := zw_and h8
              obtain ⟨h11, h12⟩ := zw_and h10
              have h13 := of_decide_eq_true h5
              subst h13
              have ekk : kk = 2 := by rw [← hkk, e5]; rfl
              obtain ⟨a, r, v, vs, ea, ev, gv, hvl⟩ := recv (by omega)
              rw [ea, ekk] at q6
              unfold zx_rcv at q6
              rw [if_neg (by decide), if_neg (by decide)] at q6
              split at q6
              · next hra =>
                have hra : a.1 = 2 ∧ 3 ≤ a.2.toNat := hra
                split at q6
                · next c hcH =>
                  have hcc := of_decide_eq_true q6
                  obtain ⟨c', hc', gc⟩ := zL2.get g2 hcH
                  obtain ⟨fs, rfl, -⟩ := zg_C0 hcc.1 gc
                  have e2 := zg_ref hra.1 gv
                  subst e2
                  split at h12
                  · next z hz =>
                    have ez := of_decide_eq_true h12
                    have hz2 : zc[c.2.1]? = some ((zm tt.toNat).1.cls, z.2.1, z.2.2) := by
                      rw [hcc.2]
                      show zc[ci.toNat]? = _
                      rw [hz, ← ez]
                    rw [hst, ev, List.reverse_cons, List.append_assoc]
                    rw [ev] at hM
                    have hra2 : 3 ≤ a.2.toNat := hra.2
                    rw [z_back3 hra2] at hM ⊢
                    exact zs_callV (zx_of h7) (zx_of h9) (zx_of h11) hc' hz2 hcal hvl hcat (Nat.le_refl _) q4 q5 hd hM kont
                  · cases h12
                · cases q6
              · cases q6
            · cases hc3
          · cases hc3
        · cases hq
    · cases he
  · cases he
/-- an end -/
def zx_ret (op : Nat) (o : List Int) (t : zA_T) : Option (Option zA_V) := match t.2.2.2.1 with
  | [] => if op = 66 then some none else none
  | [v] => if op = 4 then (if zIs v = true then (if o = [0] then some (some (zn t.1 v)) else if zx_fit 1 t.1 v = true then some (some (zn t.1 v)) else none) else none)
      else if op = 65 then (if zIsJ v = true then some (some (zn t.1 v)) else none) else none
  | _ => none
def zg_R (ρ : List Int) : Option zA_V → Option Value → Prop
  | none, none => True
  | some a, some v => zg_V ρ a v
  | _, _ => False
theorem zret_ok {op : Nat} {y : zx_Y} {r : Option zA_V} (hd : decode y.2.1 pc = .ok (ins, len)) (hc : zcr op y o ins len = true) (he : zx_ret op o t = some r) {ρ : List Int} {st : List Value} (g1 : zg_S ρ t.1) (g4 : zL2 (zg_V ρ) t.2.2.2.1 st) :
    ∃ v : Option Value, st = v.toList ∧ zEn y pc v ∧ zg_R ρ r v := by
  obtain ⟨S, H, L, s0, cc, ns⟩ := t
  unfold zx_ret at he
  unfold zcr at hc
  dsimp only at he g1 g4
  split at he
  · split at he
    · next e =>
      cases he
      rw [if_pos e] at hc
      obtain ⟨rfl, rfl, h3⟩ := of_decide_eq_true hc
      cases st with
      | nil => exact ⟨none, rfl, Or.inr (Or.inr ⟨rfl, hd, h3⟩), trivial⟩
      | cons a b => exact g4.elim
    · cases he
  · next v =>
    obtain ⟨u, st1, rfl, gv, gr⟩ := zL2.cons1 g4
    cases st1 with
    | cons a b => exact gr.elim
    | nil =>
      split at he
      · next e4 =>
        rw [if_neg (by omega), if_neg (by omega), if_pos e4] at hc
        obtain ⟨rfl, rfl, h3⟩ := of_decide_eq_true hc
        split at he
        · next hI =>
          obtain ⟨x, rfl, -⟩ := zg_int hI gv
          split at he
          · next h0 =>
            cases he
            rcases h3 with ⟨-, h3⟩ | ⟨h3, -⟩
            · exact ⟨some (.int x), rfl, Or.inl ⟨x, .int, rfl, hd, h3, rfl⟩, zn_g g1 gv⟩
            · exact absurd h0 h3
          · next h0 =>
            split at he
            · next hf =>
              cases he
              rcases h3 with ⟨h3, -⟩ | ⟨-, h3⟩
              · exact absurd h3 h0
              · have hb := (zx_fit_g g1 gv hf).2.1 rfl
                refine ⟨some (.int x), rfl, Or.inl ⟨x, .boolean, rfl, hd, h3, ?_⟩, zn_g g1 gv⟩
                rcases hb with hb | hb <;> cases hb <;> rfl
            · cases he
        · cases he
      · next e4 =>
        split at he
        · next e65 =>
          rw [if_neg (by omega), if_pos e65] at hc
          obtain ⟨rfl, rfl, h3⟩ := of_decide_eq_true hc
          split at he
          · next hI =>
            cases he
            obtain ⟨x, rfl, -⟩ := zg_long hI gv
            exact ⟨some (.long x), rfl, Or.inr (Or.inl ⟨x, rfl, hd, h3⟩), zn_g g1 gv⟩
          · cases he
        · cases he
  · cases he
end ZK
abbrev zX_ : Type := Nat → Nat → Nat → zA_T → List zA_F → Bool
def zgo (ih : zX_) (m d : Nat) (stk : List zA_F) : zA_R → Bool
  | some [q] => ih m d q.1 q.2 stk
  | some l => l.all (fun q => ih m d q.1 q.2 stk)
  | none => false
def zend (fin : zA_T → Option zA_V → Bool) (ih : zX_) (m : Nat) (t : zA_T) (stk : List zA_F) : Option (Option zA_V) → Bool
  | none => false
  | some r => if t.2.2.2.2.1 = (zmc m).1 ∧ t.2.2.2.2.2 ≤ (zmc m).2 then (match stk with
      | [] => fin t r
      | f :: stk' => ih f.1 f.2.1 f.2.2.1 (t.1, t.2.1, f.2.2.2.1, r.toList ++ f.2.2.2.2.1, f.2.2.2.2.2) stk') else false
/-- a method's answers that are known already: bounds, heaps and values -/
abbrev zR_ : Type := zA_S × zA_H × Option zA_V
abbrev zO_ : Type := Nat → Nat → zA_T → Option (List zR_)
def zres (ih : zX_) (stk : List zA_F) (r : zR_) : Bool := match stk with
  | [] => false
  | f :: stk' => ih f.1 f.2.1 f.2.2.1 (r.1, r.2.1, f.2.2.2.1, r.2.2.toList ++ f.2.2.2.2.1, f.2.2.2.2.2) stk'
def zcal2 (orc : zO_) (ih : zX_) : Option (Nat × Nat × zA_T × List zA_F) → Bool
  | none => false
  | some q => match orc q.1 q.2.1 q.2.2.1 with
    | none => ih q.1 q.2.1 0 q.2.2.1 q.2.2.2
    | some [r] => zres ih q.2.2.2 r
    | some rs => rs.all (zres ih q.2.2.2)
def zdo (XL : Nat) (fin : zA_T → Option zA_V → Bool) (orc : zO_) (ih : zX_) (m d pc : Nat) (t : zA_T) (stk : List zA_F) (op nx : Nat) (o : List Int) : Bool :=
  if op = 4 then zend fin ih m t stk (zx_ret op o t)
  else if op = 5 then zcal2 orc ih (zcall op m d nx o t stk)
  else if op < 60 then zgo ih m d stk (zex XL (zmc m).1 (zmc m).2 d op nx pc o t)
  else if op < 64 then zcal2 orc ih (zcall op m d nx o t stk)
  else if op = 65 then zend fin ih m t stk (zx_ret op o t)
  else if op = 66 then zend fin ih m t stk (zx_ret op o t)
  else zgo ih m d stk (zex XL (zmc m).1 (zmc m).2 d op nx pc o t)
noncomputable def zbody (XL : Nat) (fin : zA_T → Option zA_V → Bool) (cut : Nat → Nat → Nat → zA_T → List zA_F → Bool) (orc : zO_) (ih : zX_) (m d pc : Nat) (t : zA_T) (stk : List zA_F) : Bool :=
  match cut m d pc t stk with
  | true => true
  | false => (match Nat.ble (zbd m) pc with
    | true => false
    | false => (match zi_get m pc with
      | none => false
      | some I => zdo XL fin orc ih m d pc t stk I.1 I.2.1 I.2.2))
noncomputable def zxp (XL : Nat) (fin : zA_T → Option zA_V → Bool) (cut : Nat → Nat → Nat → zA_T → List zA_F → Bool) (orc : zO_) (n : Nat) : zX_ := Nat.rec (fun _ _ _ _ _ => false) (fun _ ih => zbody XL fin cut orc ih) n
theorem zxp_succ (XL : Nat) (fin : zA_T → Option zA_V → Bool) (cut : Nat → Nat → Nat → zA_T → List zA_F → Bool) (orc : zO_) (n : Nat) : zxp XL fin cut orc (n + 1) = zbody XL fin cut orc (zxp XL fin cut orc n) := rfl
section ZX
variable {l : Launch} {X : zx_X} {XL : Nat} {φ : List z_C} {P : List Int → Prop} {Q0 : Option Value → List z_C → Prop}
/-- what a state owes -/
def zGd (l : Launch) (X : zx_X) (XL : Nat) (φ : List z_C) (P : List Int → Prop) (Q0 : Option Value → List z_C → Prop) (m d pc : Nat) (t : zA_T) (stk : List zA_F) : Prop :=
  ∀ (ρ : List Int) (ph : List z_C) (lv : List (Nat × Value)) (st : List Value) (cst : List zC_F), P ρ → zg_T XL X φ ρ t ph lv st → zL2 (zg_F ρ) stk cst → ZW l d (zm m) X (zmc m).1 (zmc m).2 (zQS l X Q0 cst) pc lv st ph t.2.2.2.2.1 t.2.2.2.2.2
/-- what the known answers owe -/
def zOk (l : Launch) (X : zx_X) (XL : Nat) (φ : List z_C) (P : List Int → Prop) (orc : zO_) : Prop :=
  ∀ (m d : Nat) (t : zA_T) (rs : List zR_), orc m d t = some rs → ∀ (ρ : List Int) (ph : List z_C) (lv : List (Nat × Value)), P ρ → zg_T XL X φ ρ t ph lv [] → ∀ Q : Option Value → List z_C → Prop,
    (∀ r ∈ rs, ∀ (ρ' : List Int) (v : Option Value) (ph' : List z_C), zLE ρ ρ' → zg_S ρ' r.1 → zL2 (zg_C φ ρ') r.2.1 ph' → zg_R ρ' r.2.2 v → Q v ph') → ZW l d (zm m) X (zmc m).1 (zmc m).2 Q 0 lv [] ph t.2.2.2.2.1 t.2.2.2.2.2
def zFn (φ : List z_C) (P : List Int → Prop) (Q0 : Option Value → List z_C → Prop) (fin : zA_T → Option zA_V → Bool) : Prop :=
  ∀ (t : zA_T) (r : Option zA_V), fin t r = true → ∀ (ρ : List Int) (ph : List z_C) (v : Option Value), P ρ → zg_S ρ t.1 → zL2 (zg_C φ ρ) t.2.1 ph → zg_R ρ r v → Q0 v ph
theorem zbody_ok (hall : ∀ m, m < 267 → ∀ pc, pc < zbd m → zchk m pc = true) {fin : zA_T → Option zA_V → Bool} {cut : Nat → Nat → Nat → zA_T → List zA_F → Bool} {orc : zO_} {ih0 : zX_}
    (hP : ∀ ρ ρ' : List Int, zLE ρ ρ' → P ρ → P ρ') (hfin : zFn φ P Q0 fin) (horc : zOk l X XL φ P orc)
    (hcut : ∀ (m d pc : Nat) (t : zA_T) (stk : List zA_F), cut m d pc t stk = true → zGd l X XL φ P Q0 m d pc t stk)
    (ih : ∀ (m d pc : Nat) (t : zA_T) (stk : List zA_F), m < 267 → ih0 m d pc t stk = true → zGd l X XL φ P Q0 m d pc t stk)
    (m d pc : Nat) (t : zA_T) (stk : List zA_F) (hm : m < 267) (h : zbody XL fin cut orc ih0 m d pc t stk = true) : zGd l X XL φ P Q0 m d pc t stk := by
  intro ρ ph lv st cst hp g gs
  unfold zbody at h
  split at h
  · next hc => exact hcut m d pc t stk hc ρ ph lv st cst hp g gs
  · split at h
    · cases h
    · next hb =>
      have hpc : pc < zbd m := by
        rcases Nat.lt_or_ge pc (zbd m) with q | q
        · exact q
        · rw [Nat.ble_eq_true_of_le q] at hb; cases hb
      have hk := hall m hm pc hpc
      split at h
      · cases h
      · next I hI =>
        unfold zchk at hk
        rw [hI] at hk
        dsimp only at hk
        split at hk
        · next q hq =>
          obtain ⟨ins, len⟩ := q
          obtain ⟨op, nx, o⟩ := I
          dsimp only at h hk
          have hgo : zgo ih0 m d stk (zex XL (zmc m).1 (zmc m).2 d op nx pc o t) = true → zck (zm m) pc op nx o ins len = true → ZW l d (zm m) X (zmc m).1 (zmc m).2 (zQS l X Q0 cst) pc lv st ph t.2.2.2.2.1 t.2.2.2.2.2 := by
            intro h1 h2
            have hz := zex_ok (l := l) (d := d) (y := zm m) (X := X) (mc := (zmc m).1) (ms := (zmc m).2) (XL := XL) (φ := φ) (Q := zQS l X Q0 cst) (t := t) hq h2
            unfold zgo at h1
            split at h1
            · next q he =>
              exact hz _ he ρ ph lv st g (fun q' hq' ρ' ph' lv' st' hle g' => by
                rw [List.mem_singleton] at hq'
                subst hq'
                exact ih m d _ _ stk hm h1 ρ' ph' lv' st' cst (hP _ _ hle hp) g' (zL2.mono (fun _ _ => zg_F.mono hle) gs))
            · next l2 hne he =>
              exact hz _ he ρ ph lv st g (fun q' hq' ρ' ph' lv' st' hle g' => ih m d _ _ stk hm (List.all_eq_true.mp h1 q' hq') ρ' ph' lv' st' cst (hP _ _ hle hp) g' (zL2.mono (fun _ _ => zg_F.mono hle) gs))
            · cases h1
          have hcl : zcal2 orc ih0 (zcall op m d nx o t stk) = true → zcc op (zm m) pc nx o ins len = true → ZW l d (zm m) X (zmc m).1 (zmc m).2 (zQS l X Q0 cst) pc lv st ph t.2.2.2.2.1 t.2.2.2.2.2 := by
            intro h1 h2
            unfold zcal2 at h1
            split at h1
            · cases h1
            · next q he =>
              obtain ⟨m', d2, t', stk'⟩ := q
              refine zcall_ok hm hq h2 he g gs (fun hm' lv' cst' g' gs' => ?_)
              have hres : ∀ r : zR_, zres ih0 stk' r = true → ∀ (ρ' : List Int) (v : Option Value) (ph' : List z_C), zLE ρ ρ' → zg_S ρ' r.1 → zL2 (zg_C φ ρ') r.2.1 ph' → zg_R ρ' r.2.2 v → zQS l X Q0 cst' v ph' := by
                intro r hr ρ' v ph' hle gS gh gr
                cases stk' with
                | nil => cases hr
                | cons f stk2 =>
                  cases cst' with
                  | nil => exact gs'.elim
                  | cons f' cst2 =>
                    obtain ⟨f00, gs2⟩ := gs'
                    obtain ⟨f0, f1, f2, f3, f4, f5, f6⟩ := f00.mono hle
                    have grs : zL2 (zg_V ρ') r.2.2.toList v.toList := by
                      obtain ⟨r0, r1, r2⟩ := r
                      cases r2 <;> cases v
                      · exact trivial
                      · exact gr.elim
                      · exact gr.elim
                      · exact ⟨gr, trivial⟩
                    have := ih f.1 f.2.1 f.2.2.1 _ stk2 f0 hr ρ' ph' f'.2.2.2.1 (v.toList ++ f'.2.2.2.2.1) cst2 (hP _ _ hle hp) ⟨gS, gh, f4, zL2.app f5 grs, g'.2.2.2.2.mono hle⟩ (zL2.mono (fun _ _ => zg_F.mono hle) gs2)
                    rw [f1, f2, f3] at this
                    dsimp only at this
                    rw [f6] at this
                    exact this
              dsimp only at h1
              split at h1
              · exact ih m' d2 0 t' stk' hm' h1 ρ ph lv' [] cst' hp g' gs'
              · next r hor =>
                exact horc m' d2 t' _ hor ρ ph lv' hp g' _ (fun r' hr' ρ' v ph' hle gS gh gr => by
                  rw [List.mem_singleton] at hr'
                  subst hr'
                  exact hres _ h1 ρ' v ph' hle gS gh gr)
              · next rs hne hor =>
                exact horc m' d2 t' _ hor ρ ph lv' hp g' _ (fun r' hr' ρ' v ph' hle gS gh gr => hres _ (List.all_eq_true.mp h1 r' hr') ρ' v ph' hle gS gh gr)
          have hen : zend fin ih0 m t stk (zx_ret op o t) = true → zcr op (zm m) o ins len = true → ZW l d (zm m) X (zmc m).1 (zmc m).2 (zQS l X Q0 cst) pc lv st ph t.2.2.2.2.1 t.2.2.2.2.2 := by
            intro h1 h2
            unfold zend at h1
            split at h1
            · cases h1
            · next r he =>
              split at h1
              · next hcs =>
                obtain ⟨v, hv, hz, gr⟩ := zret_ok hq h2 he g.1 g.2.2.2.1
                refine zs_ret hv hz hcs.1 hcs.2 ?_
                cases stk with
                | nil =>
                  cases cst with
                  | nil => exact hfin t r h1 ρ ph v hp g.1 g.2.1 gr
                  | cons a b => exact gs.elim
                | cons f stk' =>
                  cases cst with
                  | nil => exact gs.elim
                  | cons f' cst' =>
                    obtain ⟨⟨f0, f1, f2, f3, f4, f5, f6⟩, gs'⟩ := gs
                    have grs : zL2 (zg_V ρ) r.toList v.toList := by
                      cases r <;> cases v
                      · exact trivial
                      · exact gr.elim
                      · exact gr.elim
                      · exact ⟨gr, trivial⟩
                    have := ih f.1 f.2.1 f.2.2.1 _ stk' f0 h1 ρ ph f'.2.2.2.1 (v.toList ++ f'.2.2.2.2.1) cst' hp ⟨g.1, g.2.1, f4, zL2.app f5 grs, g.2.2.2.2⟩ gs'
                    rw [f1, f2, f3] at this
                    dsimp only at this
                    rw [f6] at this
                    exact this
              · cases h1
          unfold zdo at h
          unfold zcko at hk
          split at h
          · next e => rw [if_pos e] at hk; exact hen h hk
          · next e =>
            rw [if_neg e] at hk
            split at h
            · next e => rw [if_pos e] at hk; exact hcl h hk
            · next e =>
              rw [if_neg e] at hk
              split at h
              · next e => rw [if_pos e] at hk; exact hgo h hk
              · next e =>
                rw [if_neg e] at hk
                split at h
                · next e => rw [if_pos e] at hk; exact hcl h hk
                · next e =>
                  rw [if_neg e] at hk
                  split at h
                  · next e => rw [if_pos e] at hk; exact hen h hk
                  · next e =>
                    rw [if_neg e] at hk
                    split at h
                    · next e => rw [if_pos e] at hk; exact hen h hk
                    · next e => rw [if_neg e] at hk; exact hgo h hk
        · cases hk
/-- what is explored is so -/
theorem zxp_ok (hall : ∀ m, m < 267 → ∀ pc, pc < zbd m → zchk m pc = true) {fin : zA_T → Option zA_V → Bool} {cut : Nat → Nat → Nat → zA_T → List zA_F → Bool} {orc : zO_}
    (hP : ∀ ρ ρ' : List Int, zLE ρ ρ' → P ρ → P ρ') (hfin : zFn φ P Q0 fin) (horc : zOk l X XL φ P orc)
    (hcut : ∀ (m d pc : Nat) (t : zA_T) (stk : List zA_F), cut m d pc t stk = true → zGd l X XL φ P Q0 m d pc t stk) :
    ∀ (n m d pc : Nat) (t : zA_T) (stk : List zA_F), m < 267 → zxp XL fin cut orc n m d pc t stk = true → zGd l X XL φ P Q0 m d pc t stk := by
  intro n
  induction n with
  | zero => intro m d pc t stk hm h; cases h
  | succ n ih =>
    intro m d pc t stk hm h
    rw [zxp_succ] at h
    exact zbody_ok hall hP hfin horc hcut ih m d pc t stk hm h
/-- the first instruction is done, whatever is cut -/
def zno (_ _ _ : Nat) (_ : zA_T) (_ : List zA_F) : Bool := false
def zon (_ _ : Nat) (_ : zA_T) : Option (List zR_) := none
noncomputable def zx1 (XL : Nat) (fin : zA_T → Option zA_V → Bool) (cut : Nat → Nat → Nat → zA_T → List zA_F → Bool) (orc : zO_) (n : Nat) : zX_ := zbody XL fin zno orc (zxp XL fin cut orc n)
theorem zx1_ok (hall : ∀ m, m < 267 → ∀ pc, pc < zbd m → zchk m pc = true) {fin : zA_T → Option zA_V → Bool} {cut : Nat → Nat → Nat → zA_T → List zA_F → Bool} {orc : zO_}
    (hP : ∀ ρ ρ' : List Int, zLE ρ ρ' → P ρ → P ρ') (hfin : zFn φ P Q0 fin) (horc : zOk l X XL φ P orc)
    (hcut : ∀ (m d pc : Nat) (t : zA_T) (stk : List zA_F), cut m d pc t stk = true → zGd l X XL φ P Q0 m d pc t stk)
    (n m d pc : Nat) (t : zA_T) (stk : List zA_F) (hm : m < 267) (h : zx1 XL fin cut orc n m d pc t stk = true) : zGd l X XL φ P Q0 m d pc t stk :=
  zbody_ok hall hP hfin horc (fun _ _ _ _ _ h => by cases h) (fun m d pc t stk hm h => zxp_ok hall hP hfin horc hcut n m d pc t stk hm h) m d pc t stk hm h
end ZX
end
section
/-! PART 19: states that fit a pattern; what is known of names; heads of loops. -/
/-- two heaps are the same -/
def zVeq (a b : zA_V) : Bool := Nat.beq a.1 b.1 && decide (a.2 = b.2)
def zLeq {α : Type} (e : α → α → Bool) : List α → List α → Bool
  | [], [] => true
  | a :: as, b :: bs => e a b && zLeq e as bs
  | _, _ => false
theorem zLeq_eq {α : Type} {e : α → α → Bool} (h : ∀ a b, e a b = true → a = b) : ∀ {as bs : List α}, zLeq e as bs = true → as = bs
  | [], [], _ => rfl
  | a :: as, b :: bs, g => by
    obtain ⟨g1, g2⟩ := zw_and g
    rw [h _ _ g1, zLeq_eq h g2]
  | [], _ :: _, g => by cases g
  | _ :: _, [], g => by cases g
theorem zVeq_eq (a b : zA_V) (h : zVeq a b = true) : a = b := by
  obtain ⟨h1, h2⟩ := zw_and h
  exact Prod.ext (Nat.eq_of_beq_eq_true h1) (of_decide_eq_true h2)
def zKeq (a b : Nat × zA_V) : Bool := Nat.beq a.1 b.1 && zVeq a.2 b.2
theorem zKeq_eq (a b : Nat × zA_V) (h : zKeq a b = true) : a = b := by
  obtain ⟨h1, h2⟩ := zw_and h
  exact Prod.ext (Nat.eq_of_beq_eq_true h1) (zVeq_eq _ _ h2)
def zCeq (a b : zA_C) : Bool := Nat.beq a.1 b.1 && (Nat.beq a.2.1 b.2.1 && (Nat.beq a.2.2.1 b.2.2.1 && (zLeq zVeq a.2.2.2.1 b.2.2.2.1 && zLeq zKeq a.2.2.2.2 b.2.2.2.2)))
theorem zCeq_eq (a b : zA_C) (h : zCeq a b = true) : a = b := by
  obtain ⟨h1, h⟩ := zw_and h
  obtain ⟨h2, h⟩ := zw_and h
  obtain ⟨h3, h⟩ := zw_and h
  obtain ⟨h4, h5⟩ := zw_and h
  exact Prod.ext (Nat.eq_of_beq_eq_true h1) (Prod.ext (Nat.eq_of_beq_eq_true h2) (Prod.ext (Nat.eq_of_beq_eq_true h3) (Prod.ext (zLeq_eq zVeq_eq h4) (zLeq_eq zKeq_eq h5))))
def zHeq (a b : zA_H) : Bool := zLeq zCeq a b
theorem zHeq_eq {a b : zA_H} (h : zHeq a b = true) : a = b := zLeq_eq zCeq_eq h
def zEeq (a b : Int × Int × zA_D) : Bool := decide (a.1 = b.1) && (decide (a.2.1 = b.2.1) && (Nat.beq a.2.2.1 b.2.2.1 && (zVeq a.2.2.2.1 b.2.2.2.1 && zVeq a.2.2.2.2 b.2.2.2.2)))
theorem zEeq_eq (a b : Int × Int × zA_D) (h : zEeq a b = true) : a = b := by
  obtain ⟨h1, h⟩ := zw_and h
  obtain ⟨h2, h⟩ := zw_and h
  obtain ⟨h3, h⟩ := zw_and h
  obtain ⟨h4, h5⟩ := zw_and h
  exact Prod.ext (of_decide_eq_true h1) (Prod.ext (of_decide_eq_true h2) (Prod.ext (Nat.eq_of_beq_eq_true h3) (Prod.ext (zVeq_eq _ _ h4) (zVeq_eq _ _ h5))))
def zteq (a b : zA_T) : Bool := zLeq zEeq a.1 b.1 && (zHeq a.2.1 b.2.1 && (zLeq zKeq a.2.2.1 b.2.2.1 && (zLeq zVeq a.2.2.2.1 b.2.2.2.1 && decide (a.2.2.2.2 = b.2.2.2.2))))
theorem zteq_eq {a b : zA_T} (h : zteq a b = true) : a = b := by
  obtain ⟨h1, h⟩ := zw_and h
  obtain ⟨h2, h⟩ := zw_and h
  obtain ⟨h3, h⟩ := zw_and h
  obtain ⟨h4, h5⟩ := zw_and h
  exact Prod.ext (zLeq_eq zEeq_eq h1) (Prod.ext (zHeq_eq h2) (Prod.ext (zLeq_eq zKeq_eq h3) (Prod.ext (zLeq_eq zVeq_eq h4) (of_decide_eq_true h5))))
def zfinR (H' : zA_H) (r' : Option zA_V) (t : zA_T) (r : Option zA_V) : Bool := zHeq t.2.1 H' && decide (r = r')
def zcnV (a : zA_V) : Bool := !(a.1 == 1) && !(a.1 == 5)
def zcnC (a : zA_C) : Bool := a.2.2.2.1.all zcnV && (a.2.2.2.2.all (fun q => zcnV q.2) && a.2.2.2.2.all (fun q => !(Nat.ble 1000000 q.1)))
theorem zcnV_g {ρ ρ' : List Int} {a : zA_V} {v : Value} (h : zcnV a = true) (g : zg_V ρ a v) : zg_V ρ' a v := by
  simp only [zcnV, Bool.and_eq_true, Bool.not_eq_true', beq_eq_false_iff_ne, ne_eq] at h
  rcases g with g | ⟨g, -⟩ | g | g | g | ⟨g, -⟩ | g
  · exact Or.inl g
  · exact absurd g h.1
  · exact Or.inr (Or.inr (Or.inl g))
  · exact Or.inr (Or.inr (Or.inr (Or.inl g)))
  · exact Or.inr (Or.inr (Or.inr (Or.inr (Or.inl g))))
  · exact absurd g h.2
  · exact Or.inr (Or.inr (Or.inr (Or.inr (Or.inr (Or.inr g)))))
theorem zcn_lk : ∀ {l : List (Nat × zA_V)} {j : Nat} {a : zA_V}, l.all (fun q => zcnV q.2) = true → l.lookup j = some a → zcnV a = true
  | [], _, _, _, h => by cases h
  | (k, b) :: l, j, a, h, hl => by
    simp only [List.all_cons, Bool.and_eq_true] at h
    rw [List.lookup_cons] at hl
    cases hjk : j == k with
    | true => rw [hjk] at hl; cases hl; exact h.1
    | false => rw [hjk] at hl; exact zcn_lk h.2 hl
theorem zcn_el {c : zA_C} (h : zcnC c = true) (j : Nat) : zcnV ((c.2.2.2.2.lookup j).getD (c.2.2.2.1.headD (3, 0))) = true := by
  simp only [zcnC, Bool.and_eq_true] at h
  cases hl : c.2.2.2.2.lookup j with
  | some a => exact zcn_lk h.2.1 hl
  | none =>
    cases hv : c.2.2.2.1 with
    | nil => rfl
    | cons a r => rw [hv] at h; simp only [List.all_cons, Bool.and_eq_true] at h; exact h.1.1
theorem zcn_all {ρ ρ' : List Int} : ∀ {as : List zA_V} {vs : List Value}, as.all zcnV = true → zL2 (zg_V ρ) as vs → zL2 (zg_V ρ') as vs
  | [], [], _, _ => trivial
  | a :: as, v :: vs, h, g => by
    simp only [List.all_cons, Bool.and_eq_true] at h
    exact ⟨zcnV_g h.1 g.1, zcn_all h.2 g.2⟩
  | [], _ :: _, _, g => g.elim
  | _ :: _, [], _, g => g.elim
theorem zcnC_Y {ρ' : List Int} {a : zA_C} (h : zcnC a = true) (n : Nat) (el : Nat → Value) : zg_Y ρ' n a.2.2.2.2 el := by
  intro q hq hk
  simp only [zcnC, Bool.and_eq_true] at h
  have := List.all_eq_true.mp h.2.2 q hq
  rw [Nat.ble_eq_true_of_le hk] at this
  exact absurd this (by decide)
theorem zcn_hd {vs : List zA_V} (h : vs.all zcnV = true) : zcnV (vs.headD (3, 0)) = true := by
  cases vs with
  | nil => rfl
  | cons a r => simp only [List.all_cons, Bool.and_eq_true] at h; exact h.1
theorem zcnC_g {φ : List z_C} {ρ ρ' : List Int} {a : zA_C} {c : z_C} (h : zcnC a = true) (g : zg_C φ ρ a c) : zg_C φ ρ' a c := by
  rcases g with g | ⟨h1, fs, e, g⟩ | ⟨h1, h2, f, e, g, -⟩ | ⟨h1, h2, f, e, g, -⟩ | ⟨h1, h2, f, e, g, -⟩
  · refine Or.inl ⟨g.1, g.2.1, fun h0 => ?_⟩
    rcases g.2.2 h0 with ⟨f, e, k, g, -⟩ | ⟨f, e, k, g, -⟩
    · exact Or.inl ⟨f, e, k, fun j hj => zcnV_g (zcn_el h j) (g j hj), zcnC_Y h _ _⟩
    · exact Or.inr ⟨f, e, k, fun j hj => zcnV_g (zcn_el h j) (g j hj), zcnC_Y h _ _⟩
  · refine Or.inr (Or.inl ⟨h1, fs, e, ?_, g.2⟩)
    simp only [zcnC, Bool.and_eq_true] at h
    exact zcn_all h.1 g.1
  · exact Or.inr (Or.inr (Or.inl ⟨h1, h2, f, e, fun j hj => zcnV_g (zcn_el h j) (g j hj), zcnC_Y h _ _⟩))
  · exact Or.inr (Or.inr (Or.inr (Or.inl ⟨h1, h2, f, e, fun j hj => zcnV_g (zcn_el h j) (g j hj), zcnC_Y h _ _⟩)))
  · exact Or.inr (Or.inr (Or.inr (Or.inr ⟨h1, h2, f, e, fun j hj => zcnV_g (zcn_el h j) (g j hj), zcnC_Y h _ _⟩)))
theorem zcnH_g {φ : List z_C} {ρ ρ' : List Int} : ∀ {H : zA_H} {ph : List z_C}, H.all zcnC = true → zL2 (zg_C φ ρ) H ph → zL2 (zg_C φ ρ') H ph
  | [], [], _, _ => trivial
  | a :: as, v :: vs, h, g => by
    simp only [List.all_cons, Bool.and_eq_true] at h
    exact ⟨zcnC_g h.1 g.1, zcnH_g h.2 g.2⟩
  | [], _ :: _, _, g => g.elim
  | _ :: _, [], _, g => g.elim
theorem ZW.deeper {l : Launch} {d d' : Nat} {y : zx_Y} {X : zx_X} {mc ms : Nat} {Q : Option Value → List z_C → Prop} {pc : Nat} {lv : List (Nat × Value)} {st : List Value} {ph : List z_C} {cc ns : Nat} (h : d ≤ d') (k : ZW l d y X mc ms Q pc lv st ph cc ns) : ZW l d' y X mc ms Q pc lv st ph cc ns :=
  fun K p e R s m args below meth c H locs QF ls C w h4 r hl => k K p e R s m args below meth c H locs QF ls C w ⟨Nat.le_trans h h4.1, Nat.le_trans (Nat.mul_le_mul_left 40 (Nat.succ_le_succ h)) h4.2.1, h4.2.2⟩ r hl
theorem zcnR_g {ρ ρ' : List Int} {a : zA_V} (h : zcnV a = true) : ∀ {v : Option Value}, zg_R ρ (some a) v → zg_R ρ' (some a) v
  | none, g => g.elim
  | some _, g => zcnV_g h g
theorem ZW.lsub {l : Launch} {d : Nat} {y : zx_Y} {X : zx_X} {mc ms : Nat} {Q : Option Value → List z_C → Prop} {pc : Nat} {lv lv' : List (Nat × Value)} {st : List Value} {ph : List z_C} {cc ns : Nat} (h : ∀ q ∈ lv', q ∈ lv) (k : ZW l d y X mc ms Q pc lv' st ph cc ns) : ZW l d y X mc ms Q pc lv st ph cc ns :=
  fun K p e R s m args below meth c H locs QF ls C w h4 r hl => k K p e R s m args below meth c H locs QF ls C w h4 r ⟨hl.1, hl.2.1, fun q hq => by
    obtain ⟨q', hq', rfl⟩ := List.mem_map.mp hq
    exact hl.2.2 _ (List.mem_map.mpr ⟨q', h q' hq', rfl⟩)⟩
/-- a name that was made by an operation -/
theorem zD_use {ρ : List Int} {S : zA_S} {j k : Nat} {lo hi x y : Int} {a b : zA_V} (hS : zg_S ρ S) (h : S[j]? = some (lo, hi, (k, a, b))) (hk : k ≠ 0) (ha : zE ρ a x) (hb : zE ρ b y) : ρ[j]? = some (zb_c k x y) ∧ lo ≤ zb_c k x y ∧ zb_c k x y ≤ hi := by
  obtain ⟨n, e1, e2⟩ := zL2.getR hS h
  rcases e2.2.2 with h0 | ⟨x', y', g1, g2, e⟩
  · exact absurd h0 hk
  · have u1 := zE_fun g1 ha
    have u2 := zE_fun g2 hb
    subst u1 u2
    subst e
    exact ⟨e1, e2.1, e2.2.1⟩
theorem zS_rng {ρ : List Int} {S : zA_S} {j : Nat} {lo hi n : Int} {D : zA_D} (hS : zg_S ρ S) (h : S[j]? = some (lo, hi, D)) (e : ρ[j]? = some n) : lo ≤ n ∧ n ≤ hi := by
  obtain ⟨m, e1, e2⟩ := zL2.getR hS h
  rw [e] at e1
  cases e1
  exact ⟨e2.1, e2.2.1⟩
theorem zEk {ρ : List Int} {j : Nat} {n : Int} (h : ρ[j]? = some n) : zE ρ (1, (j : Int)) n := Or.inr ⟨Or.inl rfl, by simpa using h⟩
/-- the number of a constant or a name -/
def zval (ρ : List Int) (a : zA_V) : Int := if a.1 = 0 then a.2 else ρ.getD a.2.toNat 0
theorem zval_E {ρ : List Int} {a : zA_V} {n : Int} (h : zIs a = true) (g : zE ρ a n) : zval ρ a = n := by
  unfold zval
  rcases g with ⟨g1, g2⟩ | ⟨g1, g2⟩
  · simp only [zIs, Bool.or_eq_true, beq_iff_eq] at h
    rw [if_pos (by omega), g2]
  · rw [if_neg (by omega), List.getD_eq_getElem?_getD, g2]
    rfl
/-- a value of t as a pattern has it: its names stand for the values σ -/
def zmV (S : zA_S) (σ : List zA_V) (a a0 : zA_V) : Bool :=
  if a0.1 = 1 then (match σ[a0.2.toNat]? with
    | some b => (zVeq (zn S a) b || zVeq a b) && zIs b
    | none => false)
  else if 6 ≤ a0.1 then (match zVeq a a0 with
    | true => true
    | false => zfw S a a0)
  else zVeq (zn S a) a0 && zcnV a0
theorem zmV_g {ρ ρ' : List Int} {S : zA_S} {σ : List zA_V} {a a0 : zA_V} {v : Value} (hS : zg_S ρ S) (hσ : ρ' = σ.map (zval ρ)) (h : zmV S σ a a0 = true) (g : zg_V ρ a v) : zg_V ρ' a0 v := by
  subst hσ
  unfold zmV at h
  split at h
  · next h1 =>
    split at h
    · next b hb =>
      obtain ⟨h2, h3⟩ := zw_and h
      have g' : zg_V ρ b v := by
        rcases zw_or h2 with h2 | h2
        · exact zVeq_eq _ _ h2 ▸ zn_g hS g
        · exact zVeq_eq _ _ h2 ▸ g
      obtain ⟨x, rfl, ex⟩ := zg_int h3 g'
      refine Or.inr (Or.inl ⟨h1, x, rfl, ?_⟩)
      rw [List.getElem?_map, hb, Option.map_some, zval_E h3 ex]
    · cases h
  · split at h
    · next h6 =>
      split at h
      · next h7 =>
        have e := zVeq_eq _ _ h7
        subst e
        exact zcnV_g (by simp only [zcnV, Bool.and_eq_true, Bool.not_eq_true', beq_eq_false_iff_ne, ne_eq]; omega) g
      · exact zcnV_g (by simp only [zcnV, Bool.and_eq_true, Bool.not_eq_true', beq_eq_false_iff_ne, ne_eq]; omega) (zfw_g hS g h6 h)
    · obtain ⟨h2, h3⟩ := zw_and h
      have e := zVeq_eq _ _ h2
      have g' := zn_g hS g
      rw [e] at g'
      exact zcnV_g h3 g'
def zmS (S : zA_S) : List zA_V → zA_S → Bool
  | [], [] => true
  | b :: σ, q :: S0 => zIs b && ((match zr S b with
    | some p => decide (q.1 ≤ p.1 ∧ p.2 ≤ q.2.1)
    | none => false) && (Nat.beq q.2.2.1 0 && zmS S σ S0))
  | _, _ => false
theorem zr_E {ρ : List Int} {S : zA_S} {b : zA_V} {p : Int × Int} (hS : zg_S ρ S) (hb : zIs b = true) (h : zr S b = some p) : ∃ n, zE ρ b n := by
  simp only [zIs, Bool.or_eq_true, beq_iff_eq] at hb
  rcases hb with hb | hb
  · exact ⟨b.2, Or.inl ⟨Or.inl hb, rfl⟩⟩
  · unfold zr at h
    rw [if_neg (by omega), if_pos hb] at h
    unfold zat at h
    split at h
    · next q hq =>
      obtain ⟨n, e, -⟩ := zL2.getR hS hq
      exact ⟨n, Or.inr ⟨Or.inl hb, e⟩⟩
    · cases h
theorem zmS_g {ρ ρ' : List Int} {S : zA_S} (hS : zg_S ρ S) : ∀ {σ : List zA_V} {S0 : zA_S}, zmS S σ S0 = true → zL2 (zg_E ρ') (σ.map (zval ρ)) S0
  | [], [], _ => trivial
  | b :: σ, q :: S0, h => by
    unfold zmS at h
    obtain ⟨h1, h2⟩ := zw_and h
    obtain ⟨h3, h4⟩ := zw_and h2
    obtain ⟨h5, h6⟩ := zw_and h4
    split at h3
    · next p hp =>
      have h3 := of_decide_eq_true h3
      obtain ⟨n, en⟩ := zr_E hS h1 hp
      have bn := zr_in hS en hp
      refine ⟨⟨?_, ?_, Or.inl (Nat.eq_of_beq_eq_true h5)⟩, zmS_g hS h6⟩
      · rw [zval_E h1 en]; omega
      · rw [zval_E h1 en]; omega
    · cases h3
  | [], _ :: _, h => by cases h
  | _ :: _, [], h => by cases h
def zmL (S : zA_S) (σ : List zA_V) (L : zA_L) : zA_L → Bool
  | [] => true
  | q :: L0 => (match L.lookup q.1 with
    | some a => zmV S σ a q.2
    | none => false) && zmL S σ L L0
theorem z_look_mem {lv : List (Nat × Value)} {i : Nat} {v : Value} (h : lv.lookup i = some v) : (i, v) ∈ lv := by
  obtain ⟨k, hk⟩ := z_lookup_get h
  exact List.mem_of_getElem? hk
theorem zmL_g {ρ ρ' : List Int} {S : zA_S} {σ : List zA_V} {L : zA_L} {lv : List (Nat × Value)} (hS : zg_S ρ S) (hσ : ρ' = σ.map (zval ρ)) (g : zg_L ρ L lv) : ∀ {L0 : zA_L}, zmL S σ L L0 = true → ∃ lv0, zg_L ρ' L0 lv0 ∧ ∀ q ∈ lv0, q ∈ lv
  | [], _ => ⟨[], trivial, fun q h => by cases h⟩
  | q :: L0, h => by
    unfold zmL at h
    obtain ⟨h1, h2⟩ := zw_and h
    obtain ⟨lv0, g0, m0⟩ := zmL_g hS hσ g h2
    split at h1
    · next a ha =>
      obtain ⟨v, hv, gv⟩ := zg_L.look g ha
      refine ⟨(q.1, v) :: lv0, ⟨⟨rfl, zmV_g hS hσ h1 gv⟩, g0⟩, fun p hp => ?_⟩
      rcases List.mem_cons.mp hp with rfl | hp
      · exact z_look_mem hv
      · exact m0 p hp
    · cases h1
def zmA (S : zA_S) (σ : List zA_V) (a b : zA_C) : Bool := zmV S σ (a.2.2.2.1.headD (3, 0)) (b.2.2.2.1.headD (3, 0)) && (Nat.ble b.2.2.1 1000000 && (b.2.2.2.2.all (fun q => !(Nat.ble 1000000 q.1) && zmV S σ (zx_el a q.1) q.2) && a.2.2.2.2.all (fun q => Nat.ble 1000000 q.1 || zmV S σ (zx_el a q.1) (zx_el b q.1))))
def zmC (S : zA_S) (σ : List zA_V) (a b : zA_C) : Bool := Nat.beq a.1 b.1 && (Nat.beq a.2.1 b.2.1 && (if a.1 = 8 then Nat.beq a.2.2.1 b.2.2.1 && (zLeq zVeq a.2.2.2.1 b.2.2.2.1 && (Nat.beq a.2.2.1 0 || zmA S σ a b)) else if a.1 = 0 then zLeq (zmV S σ) a.2.2.2.1 b.2.2.2.1 && b.2.2.2.2.all (fun q => a.2.2.2.2.any (fun p => zKeq p q)) else Nat.beq a.2.2.1 b.2.2.1 && zmA S σ a b))
theorem zmF_g {ρ ρ' : List Int} {S : zA_S} {σ : List zA_V} (hS : zg_S ρ S) (hσ : ρ' = σ.map (zval ρ)) : ∀ {as bs : List zA_V} {vs : List Value}, zLeq (zmV S σ) as bs = true → zL2 (zg_V ρ) as vs → zL2 (zg_V ρ') bs vs
  | [], [], [], _, _ => trivial
  | a :: as, b :: bs, v :: vs, h, g => by
    obtain ⟨h1, h2⟩ := zw_and h
    exact ⟨zmV_g hS hσ h1 g.1, zmF_g hS hσ h2 g.2⟩
  | [], [], _ :: _, _, g => g.elim
  | [], _ :: _, _, h, _ => by cases h
  | _ :: _, [], _, h, _ => by cases h
  | _ :: _, _ :: _, [], _, g => g.elim
theorem zmA_el {S : zA_S} {σ : List zA_V} {a b : zA_C} (h : zmA S σ a b = true) (j : Nat) (hj : j < b.2.2.1) : zmV S σ ((a.2.2.2.2.lookup j).getD (a.2.2.2.1.headD (3, 0))) ((b.2.2.2.2.lookup j).getD (b.2.2.2.1.headD (3, 0))) = true := by
  unfold zmA at h
  obtain ⟨h1, h⟩ := zw_and h
  obtain ⟨h2, h⟩ := zw_and h
  obtain ⟨h3, h4⟩ := zw_and h
  have hlen := Nat.le_of_ble_eq_true h2
  cases hb : b.2.2.2.2.lookup j with
  | some v => exact (zw_and (List.all_eq_true.mp h3 _ (z_look_in hb))).2
  | none =>
    cases ha : a.2.2.2.2.lookup j with
    | none => exact h1
    | some u =>
      have := List.all_eq_true.mp h4 _ (z_look_in ha)
      rcases zw_or this with e | e
      · have := Nat.le_of_ble_eq_true e
        omega
      · unfold zx_el at e
        dsimp only at e
        rw [ha, hb] at e
        exact e
theorem zmA_Y {S : zA_S} {σ : List zA_V} {a b : zA_C} (h : zmA S σ a b = true) (ρ : List Int) (n : Nat) (el : Nat → Value) : zg_Y ρ n b.2.2.2.2 el := by
  unfold zmA at h
  obtain ⟨h1, h⟩ := zw_and h
  obtain ⟨h2, h⟩ := zw_and h
  obtain ⟨h3, h4⟩ := zw_and h
  intro q hq hk
  have := (zw_and (List.all_eq_true.mp h3 q hq)).1
  rw [Nat.ble_eq_true_of_le hk] at this
  exact absurd this (by decide)
theorem zmC_g {φ : List z_C} {ρ ρ' : List Int} {S : zA_S} {σ : List zA_V} {a b : zA_C} {c : z_C} (hS : zg_S ρ S) (hσ : ρ' = σ.map (zval ρ)) (h : zmC S σ a b = true) (g : zg_C φ ρ a c) : zg_C φ ρ' b c := by
  unfold zmC at h
  obtain ⟨h1, h2⟩ := zw_and h
  obtain ⟨h3, h4⟩ := zw_and h2
  have e1 : a.1 = b.1 := Nat.eq_of_beq_eq_true h1
  have e2 : a.2.1 = b.2.1 := Nat.eq_of_beq_eq_true h3
  split at h4
  · next h8 =>
    rcases g with ⟨g1, g2, g3⟩ | ⟨g1, -⟩ | ⟨g1, -⟩ | ⟨g1, -⟩ | ⟨g1, -⟩
    · obtain ⟨p1, z1⟩ := zw_and h4
      obtain ⟨p2, p3⟩ := zw_and z1
      have q1 : a.2.2.1 = b.2.2.1 := Nat.eq_of_beq_eq_true p1
      have q2 : a.2.2.2.1 = b.2.2.2.1 := zLeq_eq zVeq_eq p2
      refine Or.inl ⟨by omega, by rw [← e2]; exact g2, fun h0 => ?_⟩
      have h5 : zmA S σ a b = true := by
        rcases zw_or p3 with e | e
        · have := Nat.eq_of_beq_eq_true e
          omega
        · exact e
      rcases g3 (by omega) with ⟨f, e, k, g, -⟩ | ⟨f, e, k, g, -⟩
      · exact Or.inl ⟨f, by rw [← q1]; exact e, by rw [← q2]; exact k, fun j hj => zmV_g hS hσ (zmA_el h5 j hj) (g j (by omega)), zmA_Y h5 _ _ _⟩
      · exact Or.inr ⟨f, by rw [← q1]; exact e, by rw [← q2]; exact k, fun j hj => zmV_g hS hσ (zmA_el h5 j hj) (g j (by omega)), zmA_Y h5 _ _ _⟩
    all_goals omega
  · split at h4
    · next h0 =>
      obtain ⟨fs, rfl, gf, gz⟩ := zg_C0 h0 g
      obtain ⟨h5, h6⟩ := zw_and h4
      refine Or.inr (Or.inl ⟨by omega, fs, by rw [e2], zmF_g hS hσ h5 gf, fun q hq => ?_⟩)
      obtain ⟨p, hp, e⟩ := List.any_eq_true.mp (List.all_eq_true.mp h6 q hq)
      rw [← zKeq_eq _ _ e]
      exact gz p hp
    · obtain ⟨h5, h6⟩ := zw_and h4
      have e3 : a.2.2.1 = b.2.2.1 := Nat.eq_of_beq_eq_true h5
      rcases g with ⟨g1, -⟩ | ⟨g1, -⟩ | ⟨g1, g2, f, e, gf, -⟩ | ⟨g1, g2, f, e, gf, -⟩ | ⟨g1, g2, f, e, gf, -⟩
      · omega
      · omega
      · exact Or.inr (Or.inr (Or.inl ⟨by omega, by omega, f, by rw [← e3]; exact e, fun j hj => zmV_g hS hσ (zmA_el h6 j hj) (gf j (by omega)), zmA_Y h6 _ _ _⟩))
      · exact Or.inr (Or.inr (Or.inr (Or.inl ⟨by omega, by omega, f, by rw [← e3]; exact e, fun j hj => zmV_g hS hσ (zmA_el h6 j hj) (gf j (by omega)), zmA_Y h6 _ _ _⟩)))
      · exact Or.inr (Or.inr (Or.inr (Or.inr ⟨by omega, by omega, f, by rw [← e3]; exact e, fun j hj => zmV_g hS hσ (zmA_el h6 j hj) (gf j (by omega)), zmA_Y h6 _ _ _⟩)))
theorem zmH_g {φ : List z_C} {ρ ρ' : List Int} {S : zA_S} {σ : List zA_V} (hS : zg_S ρ S) (hσ : ρ' = σ.map (zval ρ)) : ∀ {H H0 : zA_H} {ph : List z_C}, zLeq (zmC S σ) H H0 = true → zL2 (zg_C φ ρ) H ph → zL2 (zg_C φ ρ') H0 ph
  | [], [], [], _, _ => trivial
  | a :: as, b :: bs, v :: vs, h, g => by
    obtain ⟨h1, h2⟩ := zw_and h
    exact ⟨zmC_g hS hσ h1 g.1, zmH_g hS hσ h2 g.2⟩
  | [], [], _ :: _, _, g => g.elim
  | [], _ :: _, _, h, _ => by cases h
  | _ :: _, [], _, h, _ => by cases h
  | _ :: _, _ :: _, [], _, g => g.elim
theorem zVeq_self (a : zA_V) : zVeq a a = true := by
  unfold zVeq
  rw [Bool.and_eq_true]
  exact ⟨Nat.beq_refl a.1, decide_eq_true rfl⟩
theorem zKeq_self (a : Nat × zA_V) : zKeq a a = true := by
  unfold zKeq
  rw [Bool.and_eq_true]
  exact ⟨Nat.beq_refl a.1, zVeq_self a.2⟩
theorem zand2 {a b : Bool} (h1 : a = true) (h2 : b = true) : (a && b) = true := by
  rw [h1, h2]
  rfl
theorem zLeq_mono {α : Type} {e e' : α → α → Bool} (h : ∀ a b, e a b = true → e' a b = true) : ∀ {as bs : List α}, zLeq e as bs = true → zLeq e' as bs = true
  | [], [], _ => rfl
  | a :: as, b :: bs, g => by
    obtain ⟨g1, g2⟩ := zw_and g
    exact zand2 (h _ _ g1) (zLeq_mono h g2)
  | [], _ :: _, g => by cases g
  | _ :: _, [], g => by cases g
def zmVq (S : zA_S) (σ : List zA_V) (a a0 : zA_V) : Bool := (zVeq a a0 && zcnV a0) || zmV S σ a a0
theorem zmVq_e {S : zA_S} {σ : List zA_V} (a a0 : zA_V) (h : zmVq S σ a a0 = true) : zmV S σ a a0 = true := by
  rcases zw_or h with h | h
  · obtain ⟨h1, h2⟩ := zw_and h
    have e := zVeq_eq _ _ h1
    subst e
    have h3 := h2
    simp only [zcnV, Bool.and_eq_true, Bool.not_eq_true', beq_eq_false_iff_ne, ne_eq] at h3
    unfold zmV
    rw [if_neg h3.1]
    by_cases h6 : 6 ≤ a.1
    · rw [if_pos h6]
      simp only [zVeq_self]
    · rw [if_neg h6]
      have e : zn S a = a := by
        unfold zn
        rw [if_neg h3.1, if_neg h3.2]
      rw [e]
      exact zand2 (zVeq_self a) h2
  · exact h
/-- as zmC, sooner done -/
def zmCq (S : zA_S) (σ : List zA_V) (a b : zA_C) : Bool := match Nat.beq b.1 8 && Nat.beq b.2.2.1 0 with
  | true => Nat.beq a.1 8 && (Nat.beq a.2.1 b.2.1 && (Nat.beq a.2.2.1 0 && zLeq zVeq a.2.2.2.1 b.2.2.2.1))
  | false => (match Nat.beq b.1 0 with
    | true => Nat.beq a.1 0 && (Nat.beq a.2.1 b.2.1 && (zLeq (zmVq S σ) a.2.2.2.1 b.2.2.2.1 && (zLeq zKeq a.2.2.2.2 b.2.2.2.2 || b.2.2.2.2.all (fun q => a.2.2.2.2.any (fun p => zKeq p q)))))
    | false => zmC S σ a b)
theorem zmCq_e {S : zA_S} {σ : List zA_V} {a b : zA_C} (h : zmCq S σ a b = true) : zmC S σ a b = true := by
  unfold zmCq at h
  split at h
  · next hb =>
    obtain ⟨b1, b2⟩ := zw_and hb
    have b1 := Nat.eq_of_beq_eq_true b1
    have b2 := Nat.eq_of_beq_eq_true b2
    obtain ⟨h1, h⟩ := zw_and h
    obtain ⟨h2, h⟩ := zw_and h
    obtain ⟨h3, h4⟩ := zw_and h
    have h1 := Nat.eq_of_beq_eq_true h1
    have h3 := Nat.eq_of_beq_eq_true h3
    unfold zmC
    refine zand2 (by rw [h1, b1]; rfl) (zand2 h2 ?_)
    rw [if_pos h1]
    exact zand2 (by rw [h3, b2]; rfl) (zand2 h4 (by rw [h3]; rfl))
  · split at h
    · next hb =>
      have hb := Nat.eq_of_beq_eq_true hb
      obtain ⟨h1, h⟩ := zw_and h
      obtain ⟨h2, h⟩ := zw_and h
      obtain ⟨h3, h4⟩ := zw_and h
      have h1 := Nat.eq_of_beq_eq_true h1
      unfold zmC
      refine zand2 (by rw [h1, hb]; rfl) (zand2 h2 ?_)
      rw [if_neg (by omega), if_pos h1]
      refine zand2 (zLeq_mono zmVq_e h3) ?_
      rcases zw_or h4 with h4 | h4
      · have e := zLeq_eq zKeq_eq h4
        exact List.all_eq_true.mpr (fun q hq => List.any_eq_true.mpr ⟨q, by rw [e]; exact hq, zKeq_self q⟩)
      · exact h4
    · exact h
/-- t fits the pattern t0, where its names stand for the values σ -/
def zmT (σ : List zA_V) (t t0 : zA_T) : Bool := zmS t.1 σ t0.1 && (zLeq (zmCq t.1 σ) t.2.1 t0.2.1 && (zmL t.1 σ t.2.2.1 t0.2.2.1 && (t.2.2.2.1.isEmpty && (t0.2.2.2.1.isEmpty && decide (t.2.2.2.2 = t0.2.2.2.2)))))
theorem zmT_g {XL XL' : Nat} {X : zx_X} {φ : List z_C} {ρ : List Int} {t t0 : zA_T} {ph : List z_C} {lv : List (Nat × Value)} {st : List Value} {σ : List zA_V} (hX : ¬ XL' < 1000 ∧ XL' ≠ 3000000) (h : zmT σ t t0 = true) (g : zg_T XL X φ ρ t ph lv st) :
    st = [] ∧ t.2.2.2.2 = t0.2.2.2.2 ∧ ∃ lv0, (∀ q ∈ lv0, q ∈ lv) ∧ zg_T XL' X φ (σ.map (zval ρ)) t0 ph lv0 [] := by
  obtain ⟨g1, g2, g3, g4, g5⟩ := g
  unfold zmT at h
  obtain ⟨h1, h⟩ := zw_and h
  obtain ⟨h2, h⟩ := zw_and h
  obtain ⟨h3, h⟩ := zw_and h
  obtain ⟨h4, h⟩ := zw_and h
  obtain ⟨h5, h6⟩ := zw_and h
  obtain ⟨lv0, g0, m0⟩ := zmL_g g1 rfl g3 h3
  have e1 : t.2.2.2.1 = [] := List.isEmpty_iff.mp h4
  have e2 : t0.2.2.2.1 = [] := List.isEmpty_iff.mp h5
  refine ⟨?_, of_decide_eq_true h6, lv0, m0, zmS_g g1 h1, zmH_g g1 rfl (zLeq_mono (fun _ _ => zmCq_e) h2) g2, g0, ?_, zg_Xno _ _ _ hX.1 hX.2⟩
  · rw [e1] at g4
    cases st with
    | nil => rfl
    | cons a b => exact g4.elim
  · rw [e2]; exact trivial
section ZH
variable {l : Launch} {X : zx_X} {XL : Nat} {φ : List z_C} {Q0 : Option Value → List z_C → Prop}
/-- what a pattern owes, owes the state that fits it -/
theorem zGd_m {XL' : Nat} (hX : ¬ XL' < 1000 ∧ XL' ≠ 3000000) {P P0 : List Int → Prop} {m d pc : Nat} {t t0 : zA_T} {σ : List zA_V} (hm : zmT σ t t0 = true) (hP : ∀ ρ, P ρ → zg_S ρ t.1 → zg_S (σ.map (zval ρ)) t0.1 → P0 (σ.map (zval ρ))) (k : zGd l X XL' φ P0 Q0 m d pc t0 []) : zGd l X XL φ P Q0 m d pc t [] := by
  intro ρ ph lv st cst hp g gs
  obtain ⟨rfl, e, lv0, m0, g0⟩ := zmT_g (XL' := XL') hX hm g
  cases cst with
  | cons a b => exact gs.elim
  | nil =>
    have := k _ ph lv0 [] [] (hP ρ hp g.1 g0.1) g0 trivial
    rw [← e] at this
    exact this.lsub m0
theorem zGd_P {P P' : List Int → Prop} {m d pc : Nat} {t : zA_T} {stk : List zA_F} (h : ∀ ρ, zg_S ρ t.1 → P ρ → P' ρ) (k : zGd l X XL φ P' Q0 m d pc t stk) : zGd l X XL φ P Q0 m d pc t stk :=
  fun ρ ph lv st cst hp g gs => k ρ ph lv st cst (h ρ g.1 hp) g gs
/-- the first names -/
def zPf (Inv : List Int → Prop) (ρ : List Int) : Prop := ∃ ns, zLE ns ρ ∧ Inv ns
theorem zPf_up (Inv : List Int → Prop) : ∀ ρ ρ' : List Int, zLE ρ ρ' → zPf Inv ρ → zPf Inv ρ' := fun _ _ h ⟨ns, h1, h2⟩ => ⟨ns, h1.trans h, h2⟩
theorem zPf_self {Inv : List Int → Prop} {ρ : List Int} (h : Inv ρ) : zPf Inv ρ := ⟨ρ, zLE.refl ρ, h⟩
/-- a cut at one place, at states that are known -/
def zcuts (m0 d0 pc0 : Nat) (ts : List zA_T) (m d pc : Nat) (t : zA_T) (stk : List zA_F) : Bool := match Nat.beq pc pc0 with
  | false => false
  | true => (match stk with
    | [] => Nat.beq m m0 && (Nat.beq d d0 && ts.any (fun q => zteq t q))
    | _ => false)
theorem zcuts_g {P : List Int → Prop} {m0 d0 pc0 : Nat} {ts : List zA_T} (h : ∀ t ∈ ts, zGd l X XL φ P Q0 m0 d0 pc0 t []) : ∀ (m d pc : Nat) (t : zA_T) (stk : List zA_F), zcuts m0 d0 pc0 ts m d pc t stk = true → zGd l X XL φ P Q0 m d pc t stk := by
  intro m d pc t stk hc
  unfold zcuts at hc
  split at hc
  · cases hc
  · next hpc =>
    split at hc
    · obtain ⟨h1, h2⟩ := zw_and hc
      obtain ⟨h3, h4⟩ := zw_and h2
      obtain ⟨q, hq, he⟩ := List.any_eq_true.mp h4
      have e := zteq_eq he
      subst e
      rw [Nat.eq_of_beq_eq_true hpc, Nat.eq_of_beq_eq_true h1, Nat.eq_of_beq_eq_true h3]
      exact h _ hq
    · cases hc
/-- a run to such a cut -/
theorem zGd_run {P : List Int → Prop} {orc : zO_} {fin : zA_T → Option zA_V → Bool} {cut : Nat → Nat → Nat → zA_T → List zA_F → Bool} (hP : ∀ ρ ρ' : List Int, zLE ρ ρ' → P ρ → P ρ') (hfin : zFn φ P Q0 fin) (hor : zOk l X XL φ P orc)
    (hcut : ∀ (m d pc : Nat) (t : zA_T) (stk : List zA_F), cut m d pc t stk = true → zGd l X XL φ P Q0 m d pc t stk) {n m d pc : Nat} {t : zA_T} {stk : List zA_F} (hm : m < 267) (run : zx1 XL fin cut orc n m d pc t stk = true) : zGd l X XL φ P Q0 m d pc t stk :=
  zx1_ok zall hP hfin hor hcut n m d pc t stk hm run
def znf (_ : zA_T) (_ : Option zA_V) : Bool := false
theorem znf_ok (P : List Int → Prop) : zFn φ P Q0 znf := fun _ _ h => by cases h
end ZH
end
section
/-! PART 19b: loops by patterns and measures; contracts out of them. -/
theorem zL2.nil1 {α β : Type} {R : α → β → Prop} {bs : List β} (h : zL2 R [] bs) : bs = [] := by
  cases bs with
  | nil => rfl
  | cons a b => exact h.elim
def zPt (_ : List Int) : Prop := True
theorem zOk_no (l : Launch) (X : zx_X) (XL : Nat) (φ : List z_C) (P : List Int → Prop) : zOk l X XL φ P zon := fun m d t rs h => by cases h
theorem zCt_no (l : Launch) (X : zx_X) (XL : Nat) (φ : List z_C) (P : List Int → Prop) (Q0 : Option Value → List z_C → Prop) : ∀ (m d pc : Nat) (t : zA_T) (stk : List zA_F), zno m d pc t stk = true → zGd l X XL φ P Q0 m d pc t stk := fun m d pc t stk h => by cases h
/-- where a value lies: (0, i, _) the local i; (1, c, f) the field f of the cell c; (2, k, _) the name k; (3, _, _) the answer -/
def zloc (t : zA_T) (r : Option zA_V) (q : Nat × Nat × Nat) : Option zA_V := if q.1 = 0 then t.2.2.1.lookup q.2.1 else if q.1 = 1 then (match t.2.1[q.2.1]? with
  | some c => if c.1 = 0 then c.2.2.2.1[q.2.2]? else none
  | none => none) else if q.1 = 2 then some (1, (q.2.1 : Int)) else r
def zlocs (t : zA_T) (r : Option zA_V) : List (Nat × Nat × Nat) → Option (List zA_V)
  | [] => some []
  | q :: qs => match zloc t r q with
    | none => none
    | some a => (match zlocs t r qs with
      | none => none
      | some l => some (a :: l))
/-- a head: its place, its pattern, where the pattern's names lie, its ghosts, its measure, sums of two names that stay within a bound -/
abbrev zHd : Type := Nat × zA_T × List (Nat × Nat × Nat) × List Nat × Int × List Int × List (Nat × Nat × Nat)
def zdot : List Int → List Int → Int
  | w :: ws, n :: ns => w * n + zdot ws ns
  | _, _ => 0
def zmu (h : zHd) (ns : List Int) : Int := h.2.2.2.2.1 - zdot h.2.2.2.2.2.1 ns
def zmx : List Int → zA_S → Int
  | w :: ws, q :: S => (if 0 ≤ w then w * q.2.1 else w * q.1) + zmx ws S
  | _, _ => 0
theorem zmx_g {ρ : List Int} : ∀ {ws : List Int} {r : List Int} {S : zA_S}, zL2 (zg_E ρ) r S → zdot ws r ≤ zmx ws S
  | [], _, _, _ => Int.le_refl _
  | _ :: _, [], [], _ => Int.le_refl _
  | w :: ws, n :: r, q :: S, h => by
    have ih := zmx_g (ws := ws) h.2
    have b1 := h.1.1
    have b2 := h.1.2.1
    show w * n + zdot ws r ≤ (if 0 ≤ w then w * q.2.1 else w * q.1) + zmx ws S
    split
    · next h0 =>
      have := Int.mul_le_mul_of_nonneg_left b2 h0
      omega
    · next h0 =>
      have := Int.mul_le_mul_of_nonpos_left (a := w) (b := n) (c := q.1) (by omega) b1
      omega
  | _ :: _, [], _ :: _, h => h.elim
  | _ :: _, _ :: _, [], h => h.elim
def zhOK (h : zHd) : Bool := Nat.beq h.2.2.2.2.2.1.length h.2.1.1.length && (decide (zmx h.2.2.2.2.2.1 h.2.1.1 ≤ h.2.2.2.2.1) && h.2.2.2.1.all (fun g => Nat.blt g h.2.1.1.length))
def zdfN : Nat → List Int → zF_ → zF_
  | _, [], F => F
  | i, w :: ws, F => zdfN (i + 1) ws (zfi w i F)
theorem zdfN_g {ρ : List Int} : ∀ {ws ns : List Int} {i : Nat} {F : zF_}, ws.length = ns.length → (∀ j n, ns[j]? = some n → ρ[i + j]? = some n) → zfs ρ (zdfN i ws F) = zdot ws ns + zfs ρ F
  | [], [], _, _, _, _ => by show _ = 0 + _; rw [Int.zero_add]; rfl
  | w :: ws, n :: ns, i, F, hl, h => by
    have h0 := h 0 n rfl
    show zfs ρ (zdfN (i + 1) ws (zfi w i F)) = w * n + zdot ws ns + zfs ρ F
    rw [zdfN_g (ns := ns) (by simpa using hl) (fun j m hj => by
      have := h (j + 1) m hj
      have e : i + (j + 1) = i + 1 + j := by omega
      rw [← e]
      exact this), zfi_g, List.getD_eq_getElem?_getD]
    have h0 : ρ[i]? = some n := h0
    rw [h0]
    show _ + (w * n + _) = _
    omega
  | [], _ :: _, _, _, hl, _ => by cases hl
  | _ :: _, [], _, _, hl, _ => by cases hl
def zdfS : List Int → List zA_V → zF_ × Int → zF_ × Int
  | w :: ws, a :: σ, p => zdfS ws σ (zfv (-w) a p.1 p.2)
  | _, _, p => p
theorem zdfS_g {ρ : List Int} : ∀ {ws : List Int} {σ : List zA_V} {p : zF_ × Int}, (∀ a ∈ σ, (a.1 = 0 ∨ a.1 = 1) ∧ zE ρ a (zval ρ a)) → zfs ρ (zdfS ws σ p).1 + (zdfS ws σ p).2 = - zdot ws (σ.map (zval ρ)) + (zfs ρ p.1 + p.2)
  | [], _, p, _ => by show _ = - (0 : Int) + _; rw [Int.neg_zero, Int.zero_add]; rfl
  | _ :: _, [], p, _ => by show _ = - (0 : Int) + _; rw [Int.neg_zero, Int.zero_add]; rfl
  | w :: ws, a :: σ, p, h => by
    have ha := h a List.mem_cons_self
    show zfs ρ (zdfS ws σ (zfv (-w) a p.1 p.2)).1 + (zdfS ws σ (zfv (-w) a p.1 p.2)).2 = - (w * zval ρ a + zdot ws (σ.map (zval ρ))) + (zfs ρ p.1 + p.2)
    rw [zdfS_g (fun b hb => h b (List.mem_cons_of_mem _ hb)), zfv_g ha.1 ha.2, Int.neg_mul]
    omega
theorem zmS_E {ρ : List Int} {S : zA_S} (hS : zg_S ρ S) : ∀ {σ : List zA_V} {S0 : zA_S}, zmS S σ S0 = true → ∀ a ∈ σ, (a.1 = 0 ∨ a.1 = 1) ∧ zE ρ a (zval ρ a)
  | [], _, _, a, h => by cases h
  | b :: σ, q :: S0, h, a, ha => by
    unfold zmS at h
    obtain ⟨h1, h2⟩ := zw_and h
    obtain ⟨h3, h4⟩ := zw_and h2
    obtain ⟨h5, h6⟩ := zw_and h4
    rcases List.mem_cons.mp ha with rfl | ha
    · have h1' := h1
      simp only [zIs, Bool.or_eq_true, beq_iff_eq] at h1'
      split at h3
      · next p hp =>
        obtain ⟨n, en⟩ := zr_E hS h1 hp
        exact ⟨h1', by rw [zval_E h1 en]; exact en⟩
      · cases h3
    · exact zmS_E hS h6 a ha
  | _ :: _, [], h, _, _ => by cases h
/-- the measure falls -/
def zdec (S : zA_S) (h h' : zHd) (σ : List zA_V) : Bool := match zub S 40 (zdfS h'.2.2.2.2.2.1 σ (zdfN 0 h.2.2.2.2.2.1 [], h'.2.2.2.2.1 - h.2.2.2.2.1)).1 (zdfS h'.2.2.2.2.2.1 σ (zdfN 0 h.2.2.2.2.2.1 [], h'.2.2.2.2.1 - h.2.2.2.2.1)).2 with
  | some u => decide (u ≤ -1)
  | none => false
/-- what stands for the ghosts doesn't fall -/
def zghs (S : zA_S) : List Nat → List Nat → List zA_V → Bool
  | [], [], _ => true
  | g :: gs, g' :: gs', σ => (match σ[g']? with
    | some a => (match zub S 24 (zfv (-1) a [(1, g)] 0).1 (zfv (-1) a [(1, g)] 0).2 with
      | some u => decide (u ≤ 0)
      | none => false)
    | none => false) && zghs S gs gs' σ
  | _, _, _ => false
def zLe2 (G L : List Int) : Prop := zL2 (fun (u n : Int) => u ≤ n) G L
theorem zLe2.refl : ∀ L : List Int, zLe2 L L
  | [] => trivial
  | _ :: L => ⟨Int.le_refl _, zLe2.refl L⟩
theorem zghs_g {ρ ns : List Int} {S : zA_S} (hS : zg_S ρ S) (hle : zLE ns ρ) {σ : List zA_V} (hσ : ∀ a ∈ σ, (a.1 = 0 ∨ a.1 = 1) ∧ zE ρ a (zval ρ a)) : ∀ {gs gs' : List Nat} {G : List Int}, (∀ g ∈ gs, g < ns.length) → zghs S gs gs' σ = true → zLe2 G (gs.map (fun g => ns.getD g 0)) → zLe2 G (gs'.map (fun g => (σ.map (zval ρ)).getD g 0))
  | [], [], _, _, _, hG => hG
  | g :: gs, g' :: gs', [], _, _, hG => hG.elim
  | g :: gs, g' :: gs', x :: G, hl, h, hG => by
    unfold zghs at h
    obtain ⟨h1, h2⟩ := zw_and h
    refine ⟨?_, zghs_g hS hle hσ (fun x hx => hl x (List.mem_cons_of_mem _ hx)) h2 hG.2⟩
    have hG1 : x ≤ ns.getD g 0 := hG.1
    split at h1
    · next a ha =>
      obtain ⟨a1, a2⟩ := hσ a (List.mem_of_getElem? ha)
      have hg := hl g List.mem_cons_self
      have e1 : ns[g]? = some ns[g] := List.getElem?_eq_getElem hg
      have e2 := hle g _ e1
      split at h1
      · next u hu =>
        have h1 := of_decide_eq_true h1
        have r := zub_g hS _ _ _ _ hu
        rw [zfv_g a1 a2] at r
        have e3 : zfs ρ [(1, g)] = 1 * ρ.getD g 0 + 0 := rfl
        rw [e3, List.getD_eq_getElem?_getD, e2] at r
        have r : -1 * zval ρ a + (1 * ns[g] + 0 + 0) ≤ u := r
        rw [List.getD_eq_getElem?_getD, e1] at hG1
        have hG1 : x ≤ ns[g] := hG1
        show x ≤ (σ.map (zval ρ)).getD g' 0
        rw [List.getD_eq_getElem?_getD, List.getElem?_map, ha]
        show x ≤ zval ρ a
        omega
      · cases h1
    · cases h1
  | [], _ :: _, _, _, h, _ => by cases h
  | _ :: _, [], _, _, h, _ => by cases h
/-- what stands of sums of two names -/
def zFt (fs : List (Nat × Nat × Nat)) (ns : List Int) : Prop := ∀ f ∈ fs, ∃ a b : Int, ns[f.1]? = some a ∧ ns[f.2.1]? = some b ∧ a + b ≤ f.2.2
theorem zFt.mono {fs : List (Nat × Nat × Nat)} {ns ρ : List Int} (hle : zLE ns ρ) (h : zFt fs ns) : zFt fs ρ := fun f hf => by
  obtain ⟨a, b, h1, h2, h3⟩ := h f hf
  exact ⟨a, b, hle _ _ h1, hle _ _ h2, h3⟩
def zfx1 (S : zA_S) (f : Nat × Nat × Nat) : zA_S := match S[f.1]? with
  | none => S
  | some qa => (match S[f.2.1]? with
    | none => S
    | some qb => if -1000000 ≤ qa.1 ∧ qa.2.1 ≤ 1000000 ∧ -1000000 ≤ qb.1 ∧ qb.2.1 ≤ 1000000 ∧ f.2.2 ≤ 1000000 then
        S ++ [(((f.2.2 : Nat) : Int) - qb.2.1, ((f.2.2 : Nat) : Int) - qb.1, (11, (0, ((f.2.2 : Nat) : Int)), (1, ((f.2.1 : Nat) : Int))))] ++ [(qa.1 - (((f.2.2 : Nat) : Int) - qb.1), 0, (11, (1, ((f.1 : Nat) : Int)), (1, ((S.length : Nat) : Int))))] else S)
theorem zfx1_g {ρ : List Int} {S : zA_S} {f : Nat × Nat × Nat} (hS : zg_S ρ S) (h : ∃ a b : Int, ρ[f.1]? = some a ∧ ρ[f.2.1]? = some b ∧ a + b ≤ f.2.2) : ∃ ρ', zLE ρ ρ' ∧ zg_S ρ' (zfx1 S f) := by
  obtain ⟨a, b, h1, h2, h3⟩ := h
  unfold zfx1
  split
  · exact ⟨ρ, zLE.refl ρ, hS⟩
  · next qa ha =>
    split
    · exact ⟨ρ, zLE.refl ρ, hS⟩
    · next qb hb =>
      split
      · next hc =>
        obtain ⟨a', e1, b1, b2, -⟩ := zL2.getR hS ha
        obtain ⟨b', e2, b3, b4, -⟩ := zL2.getR hS hb
        rw [h1] at e1
        rw [h2] at e2
        cases e1
        cases e2
        have ed1 : zb_c 11 ((f.2.2 : Nat) : Int) b = ((f.2.2 : Nat) : Int) - b := zw32_in (by omega) (by omega)
        have p1 := hS.pushD (n := ((f.2.2 : Nat) : Int) - b) (q := (((f.2.2 : Nat) : Int) - qb.2.1, ((f.2.2 : Nat) : Int) - qb.1)) (D := (11, (0, ((f.2.2 : Nat) : Int)), (1, ((f.2.1 : Nat) : Int)))) (by show _ - qb.2.1 ≤ _; omega) (by show _ ≤ _ - qb.1; omega) (Or.inr ⟨_, b, zE0 _ _, zEk h2, ed1.symm⟩)
        have l1 := zLE.app ρ (((f.2.2 : Nat) : Int) - b)
        have hl : ρ.length = S.length := zL2.len hS
        have ek : (ρ ++ [((f.2.2 : Nat) : Int) - b])[S.length]? = some (((f.2.2 : Nat) : Int) - b) := by
          rw [← hl, List.getElem?_append_right (Nat.le_refl _), Nat.sub_self]
          rfl
        have ed2 : zb_c 11 a (((f.2.2 : Nat) : Int) - b) = a - (((f.2.2 : Nat) : Int) - b) := zw32_in (by omega) (by omega)
        have p2 := p1.pushD (n := a - (((f.2.2 : Nat) : Int) - b)) (q := (qa.1 - (((f.2.2 : Nat) : Int) - qb.1), 0)) (D := (11, (1, ((f.1 : Nat) : Int)), (1, ((S.length : Nat) : Int)))) (by show qa.1 - _ ≤ _; omega) (by show _ ≤ (0 : Int); omega) (Or.inr ⟨a, _, zEk (l1 _ _ h1), zEk ek, ed2.symm⟩)
        exact ⟨_, l1.trans (zLE.app _ _), p2⟩
      · exact ⟨ρ, zLE.refl ρ, hS⟩
def zfx : zA_S → List (Nat × Nat × Nat) → zA_S
  | S, [] => S
  | S, f :: fs => zfx (zfx1 S f) fs
theorem zfx_g : ∀ {fs : List (Nat × Nat × Nat)} {ρ : List Int} {S : zA_S}, zg_S ρ S → zFt fs ρ → ∃ ρ', zLE ρ ρ' ∧ zg_S ρ' (zfx S fs)
  | [], ρ, _, hS, _ => ⟨ρ, zLE.refl ρ, hS⟩
  | f :: fs, ρ, S, hS, h => by
    obtain ⟨ρ1, l1, g1⟩ := zfx1_g hS (h f List.mem_cons_self)
    obtain ⟨ρ2, l2, g2⟩ := zfx_g (fs := fs) g1 (zFt.mono l1 (fun q hq => h q (List.mem_cons_of_mem _ hq)))
    exact ⟨ρ2, l1.trans l2, g2⟩
/-- where the run from a head starts -/
def zhS (h : zHd) : zA_T := (zfx h.2.1.1 h.2.2.2.2.2.2, h.2.1.2)
theorem zGd_fx {l : Launch} {X : zx_X} {XL : Nat} {φ : List z_C} {P : List Int → Prop} {Q0 : Option Value → List z_C → Prop} {m d pc : Nat} {h : zHd} (hP : ∀ ρ ρ' : List Int, zLE ρ ρ' → P ρ → P ρ') (hf : ∀ ρ, P ρ → zFt h.2.2.2.2.2.2 ρ) (k : zGd l X XL φ P Q0 m d pc (zhS h) []) : zGd l X XL φ P Q0 m d pc h.2.1 [] := by
  intro ρ ph lv st cst hp g gs
  obtain ⟨g1, g2, g3, g4, g5⟩ := g
  obtain ⟨ρ', hle, g1'⟩ := zfx_g g1 (hf ρ hp)
  cases cst with
  | cons a b => exact gs.elim
  | nil => exact k ρ' ph lv st [] (hP _ _ hle hp) ⟨g1', zL2.mono (fun _ _ => zg_C.mono hle) g2, zL2.mono (fun _ _ q => ⟨q.1, q.2.mono hle⟩) g3, zL2.mono (fun _ _ => zg_V.mono hle) g4, g5.mono hle⟩ trivial
def zfts2 (S : zA_S) (σ : List zA_V) (fs : List (Nat × Nat × Nat)) : Bool := fs.all (fun f => match σ[f.1]? with
  | none => false
  | some a => (match σ[f.2.1]? with
    | none => false
    | some b => zle2 S a b f.2.2))
theorem zfts2_g {ρ : List Int} {S : zA_S} {σ : List zA_V} {fs : List (Nat × Nat × Nat)} (hS : zg_S ρ S) (hσ : ∀ a ∈ σ, (a.1 = 0 ∨ a.1 = 1) ∧ zE ρ a (zval ρ a)) (h : zfts2 S σ fs = true) : zFt fs (σ.map (zval ρ)) := by
  intro f hf
  have h := List.all_eq_true.mp h f hf
  split at h
  · cases h
  · next a ha =>
    split at h
    · cases h
    · next b hb =>
      exact ⟨zval ρ a, zval ρ b, by rw [List.getElem?_map, ha]; rfl, by rw [List.getElem?_map, hb]; rfl, zle2_g hS (hσ a (List.mem_of_getElem? ha)).2 (hσ b (List.mem_of_getElem? hb)).2 h⟩
def zcutH (hs : List zHd) (h : zHd) (m0 d0 : Nat) (m d pc : Nat) (t : zA_T) (stk : List zA_F) : Bool := match stk with
  | [] => hs.any (fun h' => Nat.beq pc h'.1 && (Nat.beq m m0 && (Nat.beq d d0 && (match zlocs t none h'.2.2.1 with
    | some σ => zmT σ t h'.2.1 && (zdec t.1 h h' σ && (zghs t.1 h.2.2.2.1 h'.2.2.2.1 σ && zfts2 t.1 σ h'.2.2.2.2.2.2))
    | none => false))))
  | _ => false
def zhI (h : zHd) (N : Nat) (G : List Int) (ns : List Int) : Prop := ns.length = h.2.1.1.length ∧ zmu h ns < N ∧ zLe2 G (h.2.2.2.1.map (fun g => ns.getD g 0)) ∧ zFt h.2.2.2.2.2.2 ns
theorem zLE.eq {a b : List Int} (h : zLE a b) (hl : a.length = b.length) : a = b := by
  apply List.ext_getElem hl
  intro i h1 h2
  have e := h i _ (List.getElem?_eq_getElem h1)
  rw [List.getElem?_eq_getElem h2] at e
  exact (Option.some.inj e).symm
section ZH
variable {l : Launch} {X : zx_X} {XL : Nat} {φ : List z_C} {Q0 : Option Value → List z_C → Prop}
theorem zheads (hX : ¬ XL < 1000 ∧ XL ≠ 3000000) {hs : List zHd} {m d n : Nat} (hm : m < 267) {orc : zO_} {fin : zHd → zA_T → Option zA_V → Bool} (G : List Int)
    (hok : hs.all zhOK = true) (hor : ∀ P, zOk l X XL φ P orc) (hfin : ∀ h ∈ hs, ∀ N, zFn φ (zPf (zhI h N G)) Q0 (fin h))
    (runs : ∀ h ∈ hs, zx1 XL (fin h) (zcutH hs h m d) orc n m d h.1 (zhS h) [] = true) :
    ∀ (N : Nat), ∀ h ∈ hs, zGd l X XL φ (zPf (zhI h N G)) Q0 m d h.1 h.2.1 [] := by
  intro N
  induction N with
  | zero =>
    intro h hh ρ ph lv st cst hp g gs
    obtain ⟨ns, hle, h1, h2, h3, -⟩ := hp
    have hk := List.all_eq_true.mp hok h hh
    unfold zhOK at hk
    obtain ⟨k1, k2⟩ := zw_and hk
    obtain ⟨k3, k4⟩ := zw_and k2
    have k3 := of_decide_eq_true k3
    have e : ns = ρ := hle.eq (h1.trans (zL2.len g.1).symm)
    subst e
    have := zmx_g (ws := h.2.2.2.2.2.1) g.1
    unfold zmu at h2
    omega
  | succ N ih =>
    intro h hh
    refine zGd_fx (zPf_up _) (fun ρ hp => by
      obtain ⟨ns, hle, -, -, -, h4⟩ := hp
      exact h4.mono hle) (zGd_run (zPf_up _) (hfin h hh _) (hor _) ?_ hm (runs h hh))
    intro m' d' pc t stk hc
    unfold zcutH at hc
    split at hc
    · obtain ⟨h', hh', hc⟩ := List.any_eq_true.mp hc
      obtain ⟨c1, hc⟩ := zw_and hc
      obtain ⟨c2, hc⟩ := zw_and hc
      obtain ⟨c3, hc⟩ := zw_and hc
      rw [Nat.eq_of_beq_eq_true c1, Nat.eq_of_beq_eq_true c2, Nat.eq_of_beq_eq_true c3]
      split at hc
      · next σ hσ =>
        obtain ⟨c4, hc⟩ := zw_and hc
        obtain ⟨c5, c6⟩ := zw_and hc
        obtain ⟨c6, c7⟩ := zw_and c6
        refine zGd_m hX c4 (fun ρ hp hS hS0 => ?_) (ih h' hh')
        obtain ⟨ns, hle, h1, h2, h3, -⟩ := hp
        have hk := List.all_eq_true.mp hok h hh
        unfold zhOK at hk
        obtain ⟨k1, k2⟩ := zw_and hk
        obtain ⟨k3, k4⟩ := zw_and k2
        have k1 := Nat.eq_of_beq_eq_true k1
        refine zPf_self ⟨zL2.len hS0, ?_, ?_, zfts2_g hS (zmS_E hS (zw_and c4).1) c7⟩
        · unfold zdec at c5
          split at c5
          · next u hu =>
            have c5 := of_decide_eq_true c5
            have r := zub_g hS _ _ _ _ hu
            have hzm : zmS t.1 σ h'.2.1.1 = true := (zw_and c4).1
            rw [zdfS_g (zmS_E hS hzm)] at r
            dsimp only at r
            rw [zdfN_g (ns := ns) (k1.trans h1.symm) (fun j n hj => by rw [Nat.zero_add]; exact hle j n hj)] at r
            have e0 : zfs ρ [] = 0 := rfl
            rw [e0] at r
            unfold zmu at h2 ⊢
            omega
          · cases c5
        · exact zghs_g hS hle (zmS_E hS (zw_and c4).1) (fun g hg => by
            have := List.all_eq_true.mp k4 g hg
            rw [h1]
            exact Nat.le_of_ble_eq_true this) c6 h3
      · cases hc
    · cases hc
end ZH
/-- an alternative of a contract's end: new names (bounds; not below the ghost), where they lie, the heap, the answer -/
abbrev zAlt : Type := List (Int × Int × Option Nat) × List (Nat × Nat × Nat) × zA_H × Option zA_V
def znew1 (S : zA_S) (gs : List Nat) (a : zA_V) (q : Int × Int × Option Nat) : Bool := zIs a && ((match zr S a with
  | some p => decide (q.1 ≤ p.1 ∧ p.2 ≤ q.2.1)
  | none => false) && (match q.2.2 with
    | none => true
    | some g => (match gs[g]? with
      | some k => (match zub S 24 (zfv (-1) a [(1, k)] 0).1 (zfv (-1) a [(1, k)] 0).2 with
        | some u => decide (u ≤ 0)
        | none => false)
      | none => false)))
def znews (S : zA_S) (gs : List Nat) : List zA_V → List (Int × Int × Option Nat) → Bool
  | [], [] => true
  | a :: vs, q :: qs => znew1 S gs a q && znews S gs vs qs
  | _, _ => false
def zmR (S : zA_S) (σ : List zA_V) : Option zA_V → Option zA_V → Bool
  | none, none => true
  | some a, some a0 => zmV S σ a a0
  | _, _ => false
def zfinC (alts : List zAlt) (gs : List Nat) (t : zA_T) (r : Option zA_V) : Bool := alts.any (fun alt => match zlocs t r alt.2.1 with
  | some vs => znews t.1 gs vs alt.1 && (zLeq (zmCq t.1 vs) t.2.1 alt.2.2.1 && zmR t.1 vs r alt.2.2.2)
  | none => false)
def zAok1 (G : List Int) (n : Int) (q : Int × Int × Option Nat) : Prop := q.1 ≤ n ∧ n ≤ q.2.1 ∧ ∀ g, q.2.2 = some g → ∃ u, G[g]? = some u ∧ u ≤ n
def zAok (G : List Int) (vals : List Int) (alt : zAlt) : Prop := zL2 (zAok1 G) vals alt.1
theorem znews_g {ρ ns G : List Int} {S : zA_S} {gs : List Nat} (hS : zg_S ρ S) (hle : zLE ns ρ) (hgl : ∀ g ∈ gs, g < ns.length) (hG : zLe2 G (gs.map (fun g => ns.getD g 0))) : ∀ {vs : List zA_V} {qs : List (Int × Int × Option Nat)}, znews S gs vs qs = true → zL2 (zAok1 G) (vs.map (zval ρ)) qs
  | [], [], _ => trivial
  | a :: vs, q :: qs, h => by
    unfold znews at h
    obtain ⟨h0, hr⟩ := zw_and h
    refine ⟨?_, znews_g hS hle hgl hG hr⟩
    unfold znew1 at h0
    obtain ⟨h1, h2⟩ := zw_and h0
    obtain ⟨h3, h4⟩ := zw_and h2
    have h1' := h1
    simp only [zIs, Bool.or_eq_true, beq_iff_eq] at h1'
    split at h3
    · next p hp =>
      have h3 := of_decide_eq_true h3
      obtain ⟨n, en⟩ := zr_E hS h1 hp
      have bn := zr_in hS en hp
      rw [zval_E h1 en]
      refine ⟨by omega, by omega, fun g hg => ?_⟩
      rw [hg] at h4
      dsimp only at h4
      split at h4
      · next k hk =>
        have hkl := hgl k (List.mem_of_getElem? hk)
        have e1 : ns[k]? = some ns[k] := List.getElem?_eq_getElem hkl
        have e2 := hle k _ e1
        obtain ⟨w, ew, bw⟩ := zL2.getR hG (i := g) (b := ns[k]) (by
          rw [List.getElem?_map, hk]
          show some (ns.getD k 0) = _
          rw [List.getD_eq_getElem?_getD, e1]
          rfl)
        refine ⟨w, ew, ?_⟩
        · split at h4
          · next u hu =>
            have h4 := of_decide_eq_true h4
            have r := zub_g hS _ _ _ _ hu
            rw [zfv_g h1' en] at r
            have e3 : zfs ρ [(1, k)] = 1 * ρ.getD k 0 + 0 := rfl
            rw [e3, List.getD_eq_getElem?_getD, e2] at r
            have r : -1 * n + (1 * ns[k] + 0 + 0) ≤ u := r
            omega
          · cases h4
      · cases h4
    · cases h3
  | [], _ :: _, h => by cases h
  | _ :: _, [], h => by cases h
theorem zfinC_g {φ : List z_C} {alts : List zAlt} {Q : Option Value → List z_C → Prop} {G : List Int} (hQ : ∀ alt ∈ alts, ∀ vals, zAok G vals alt → ∀ v ph', zL2 (zg_C φ vals) alt.2.2.1 ph' → zg_R vals alt.2.2.2 v → Q v ph') (h : zHd) (hok : zhOK h = true) (N : Nat) : zFn φ (zPf (zhI h N G)) Q (zfinC alts h.2.2.2.1) := by
  intro t r hf ρ ph v hp gS gH gR
  obtain ⟨ns, hle, h1, h2, h3, -⟩ := hp
  unfold zhOK at hok
  obtain ⟨k1, k2⟩ := zw_and hok
  obtain ⟨k3, k4⟩ := zw_and k2
  obtain ⟨alt, ha, hf⟩ := List.any_eq_true.mp hf
  split at hf
  · next vs hvs =>
    obtain ⟨f1, f2⟩ := zw_and hf
    obtain ⟨f3, f4⟩ := zw_and f2
    refine hQ alt ha (vs.map (zval ρ)) (znews_g gS hle (fun g hg => by
      have := List.all_eq_true.mp k4 g hg
      rw [h1]
      exact Nat.le_of_ble_eq_true this) h3 f1) v ph (zmH_g gS rfl (zLeq_mono (fun _ _ => zmCq_e) f3) gH) ?_
    unfold zmR at f4
    split at f4
    · next er ea0 =>
      rw [er]
      cases v with
      | none => trivial
      | some u => exact gR.elim
    · next a a0 er ea0 =>
      rw [er]
      cases v with
      | none => exact gR.elim
      | some u => exact zmV_g gS rfl f4 gR
    · cases f4
  · cases hf
/-- a contract -/
def zCon (m d : Nat) (te : zA_T) (gs : List Nat) (alts : List zAlt) : Prop := ∀ (l : Launch) (X : zx_X) (φ : List z_C) (Q : Option Value → List z_C → Prop) (ρ : List Int) (ph : List z_C) (lv : List (Nat × Value)), zg_T 2000000 X φ ρ te ph lv [] →
  (∀ alt ∈ alts, ∀ vals, zAok (gs.map (fun g => ρ.getD g 0)) vals alt → ∀ v ph', zL2 (zg_C φ vals) alt.2.2.1 ph' → zg_R vals alt.2.2.2 v → Q v ph') → ZW l d (zm m) X (zmc m).1 (zmc m).2 Q 0 lv [] ph te.2.2.2.2.1 te.2.2.2.2.2
theorem zCon_of {m d n : Nat} {te : zA_T} {gs : List Nat} {alts : List zAlt} {hs : List zHd} {orc : zO_} {lo : List (Nat × Nat × Nat)} {c : Int} {ws : List Int} (hm : m < 267) (hok : hs.all zhOK = true) (hor : ∀ l X φ P, zOk l X 2000000 φ P orc) (he : (0, te, lo, gs, c, ws, []) ∈ hs)
    (runs : ∀ h ∈ hs, zx1 2000000 (zfinC alts h.2.2.2.1) (zcutH hs h m d) orc n m d h.1 (zhS h) [] = true) : zCon m d te gs alts := by
  intro l X φ Q ρ ph lv g hQ
  have k := zheads (l := l) (X := X) (XL := 2000000) (φ := φ) (Q0 := Q) (by decide) (hs := hs) (m := m) (d := d) (n := n) hm (orc := orc) (fin := fun h => zfinC alts h.2.2.2.1) (gs.map (fun g => ρ.getD g 0)) hok (hor l X φ)
    (fun h hh N => zfinC_g hQ h (List.all_eq_true.mp hok h hh) N) runs ((zmu (0, te, lo, gs, c, ws, []) ρ).toNat + 1) _ he
  exact k ρ ph lv [] [] (zPf_self ⟨zL2.len g.1, by omega, zLe2.refl _, fun f hf => by cases hf⟩) g trivial
/-- names moved up -/
def zshV (n : Nat) (a : zA_V) : zA_V := if a.1 = 1 then (1, a.2 + n) else if a.1 = 5 then (5, a.2 + n) else a
def zshC (n : Nat) (c : zA_C) : zA_C := (c.1, c.2.1, c.2.2.1, c.2.2.2.1.map (zshV n), c.2.2.2.2.map (fun q => (q.1, zshV n q.2)))
/-- names as they are written, from 0 on -/
def zposV (a : zA_V) : Bool := decide (0 ≤ a.2 ∨ (a.1 ≠ 1 ∧ a.1 ≠ 5))
def zposC (c : zA_C) : Bool := c.2.2.2.1.all zposV && c.2.2.2.2.all (fun q => zposV q.2 && !(Nat.ble 1000000 q.1))
theorem zshV_g {ρ vals : List Int} {n : Nat} {a : zA_V} {v : Value} (hr : ∀ k x, vals[k]? = some x → ρ[n + k]? = some x) (hp : zposV a = true) (g : zg_V vals a v) : zg_V ρ (zshV n a) v := by
  have hp := of_decide_eq_true hp
  unfold zshV
  split
  · next h1 =>
    rcases g with ⟨g, -⟩ | ⟨g, x, e1, e2⟩ | ⟨g, -⟩ | ⟨g, -⟩ | ⟨g, -⟩ | ⟨g, -⟩ | ⟨g, -⟩
    · omega
    · refine Or.inr (Or.inl ⟨rfl, x, e1, ?_⟩)
      have := hr _ _ e2
      have e : (a.2 + (n : Int)).toNat = n + a.2.toNat := by omega
      show ρ[(a.2 + (n : Int)).toNat]? = _
      rw [e]
      exact this
    all_goals omega
  · split
    · next h5 =>
      rcases g with ⟨g, -⟩ | ⟨g, -⟩ | ⟨g, -⟩ | ⟨g, -⟩ | ⟨g, -⟩ | ⟨g, x, e1, e2⟩ | ⟨g, -⟩
      · omega
      · omega
      · omega
      · omega
      · omega
      · refine Or.inr (Or.inr (Or.inr (Or.inr (Or.inr (Or.inl ⟨rfl, x, e1, ?_⟩)))))
        have := hr _ _ e2
        have e : (a.2 + (n : Int)).toNat = n + a.2.toNat := by omega
        show ρ[(a.2 + (n : Int)).toNat]? = _
        rw [e]
        exact this
      · omega
    · next h1 h5 => exact zcnV_g (by simp only [zcnV, Bool.and_eq_true, Bool.not_eq_true', beq_eq_false_iff_ne, ne_eq]; omega) g
theorem zsh_head (n : Nat) (vs : List zA_V) : (vs.map (zshV n)).headD (3, 0) = zshV n (vs.headD (3, 0)) := by cases vs <;> rfl
theorem zsh_look (n : Nat) (ov : List (Nat × zA_V)) (j : Nat) : (ov.map (fun q => (q.1, zshV n q.2))).lookup j = (ov.lookup j).map (zshV n) := by
  induction ov with
  | nil => rfl
  | cons q r ih =>
    obtain ⟨k, v⟩ := q
    rw [List.map_cons, List.lookup_cons, List.lookup_cons]
    cases hjk : j == k
    · exact ih
    · rfl
theorem zpos_el {c : zA_C} (h : zposC c = true) (j : Nat) : zposV ((c.2.2.2.2.lookup j).getD (c.2.2.2.1.headD (3, 0))) = true := by
  obtain ⟨h1, h2⟩ := zw_and h
  cases hl : c.2.2.2.2.lookup j with
  | some a => exact (zw_and (List.all_eq_true.mp h2 _ (z_look_in hl))).1
  | none =>
    cases hv : c.2.2.2.1 with
    | nil => rfl
    | cons a r => exact List.all_eq_true.mp h1 a (by rw [hv]; exact List.mem_cons_self)
theorem zshF_g {ρ vals : List Int} {n : Nat} (hr : ∀ k x, vals[k]? = some x → ρ[n + k]? = some x) : ∀ {as : List zA_V} {vs : List Value}, as.all zposV = true → zL2 (zg_V vals) as vs → zL2 (zg_V ρ) (as.map (zshV n)) vs
  | [], [], _, _ => trivial
  | a :: as, v :: vs, h, g => by
    simp only [List.all_cons, Bool.and_eq_true] at h
    exact ⟨zshV_g hr h.1 g.1, zshF_g hr h.2 g.2⟩
  | [], _ :: _, _, g => g.elim
  | _ :: _, [], _, g => g.elim
theorem zshC_g {φ : List z_C} {ρ vals : List Int} {n : Nat} {a : zA_C} {c : z_C} (hr : ∀ k x, vals[k]? = some x → ρ[n + k]? = some x) (hp : zposC a = true) (g : zg_C φ vals a c) : zg_C φ ρ (zshC n a) c := by
  have hY : ∀ (m : Nat) (el : Nat → Value), zg_Y ρ m (a.2.2.2.2.map (fun q => (q.1, zshV n q.2))) el := by
    intro m el q hq hk
    obtain ⟨q0, hq0, rfl⟩ := List.mem_map.mp hq
    have := (zw_and (List.all_eq_true.mp (zw_and hp).2 q0 hq0)).2
    rw [Nat.ble_eq_true_of_le hk] at this
    exact absurd this (by decide)
  have hel : ∀ (j : Nat) (u : Value), zg_V vals ((a.2.2.2.2.lookup j).getD (a.2.2.2.1.headD (3, 0))) u → zg_V ρ (((a.2.2.2.2.map (fun q => (q.1, zshV n q.2))).lookup j).getD ((a.2.2.2.1.map (zshV n)).headD (3, 0))) u := by
    intro j u gu
    have := zshV_g hr (zpos_el hp j) gu
    rw [zsh_look, zsh_head]
    cases hl : a.2.2.2.2.lookup j with
    | none => rw [hl] at this; exact this
    | some x => rw [hl] at this; exact this
  rcases g with g | ⟨h1, fs, e, g⟩ | ⟨h1, h2, f, e, g, -⟩ | ⟨h1, h2, f, e, g, -⟩ | ⟨h1, h2, f, e, g, -⟩
  · have hp1 : zposV (a.2.2.2.1.headD (3, 0)) = true := by
      have h1 := (zw_and hp).1
      cases hv : a.2.2.2.1 with
      | nil => rfl
      | cons x r => exact List.all_eq_true.mp h1 x (by rw [hv]; exact List.mem_cons_self)
    have e8 : (zshV n (a.2.2.2.1.headD (3, 0))).1 = (a.2.2.2.1.headD (3, 0)).1 := by
      unfold zshV
      split
      · next e => exact e.symm
      · split
        · next e => exact e.symm
        · rfl
    refine Or.inl ⟨g.1, g.2.1, fun h0 => ?_⟩
    rcases g.2.2 h0 with ⟨f, e, k, g, -⟩ | ⟨f, e, k, g, -⟩
    · refine Or.inl ⟨f, e, ?_, fun j hj => hel j _ (g j hj), hY _ _⟩
      show ((a.2.2.2.1.map (zshV n)).headD (3, 0)).1 ≠ 8
      rw [zsh_head, e8]
      exact k
    · refine Or.inr ⟨f, e, ?_, fun j hj => hel j _ (g j hj), hY _ _⟩
      show ((a.2.2.2.1.map (zshV n)).headD (3, 0)).1 = 8
      rw [zsh_head, e8]
      exact k
  · refine Or.inr (Or.inl ⟨h1, fs, e, zshF_g hr (zw_and hp).1 g.1, fun q hq => ?_⟩)
    obtain ⟨q0, hq0, rfl⟩ := List.mem_map.mp hq
    obtain ⟨z1, z2⟩ := g.2 q0 hq0
    have e8 : zshV n q0.2 = q0.2 := by
      unfold zshV
      rw [if_neg (by omega), if_neg (by omega)]
    show (zshV n q0.2).1 = 8 ∧ ∃ (n' : Nat) (gs : List Value), φ[(zshV n q0.2).2.toNat]? = _ ∧ _
    rw [e8]
    exact ⟨z1, z2⟩
  · exact Or.inr (Or.inr (Or.inl ⟨h1, h2, f, e, fun j hj => hel j _ (g j hj), hY _ _⟩))
  · exact Or.inr (Or.inr (Or.inr (Or.inl ⟨h1, h2, f, e, fun j hj => hel j _ (g j hj), hY _ _⟩)))
  · exact Or.inr (Or.inr (Or.inr (Or.inr ⟨h1, h2, f, e, fun j hj => hel j _ (g j hj), hY _ _⟩)))
theorem zshH_g {φ : List z_C} {ρ vals : List Int} {n : Nat} (hr : ∀ k x, vals[k]? = some x → ρ[n + k]? = some x) : ∀ {H : zA_H} {ph : List z_C}, H.all zposC = true → zL2 (zg_C φ vals) H ph → zL2 (zg_C φ ρ) (H.map (zshC n)) ph
  | [], [], _, _ => trivial
  | a :: as, v :: vs, h, g => by
    simp only [List.all_cons, Bool.and_eq_true] at h
    exact ⟨zshC_g hr h.1 g.1, zshH_g hr h.2 g.2⟩
  | [], _ :: _, _, g => g.elim
  | _ :: _, [], _, g => g.elim
/-- what is known of new names beside a ghost: not below it -/
def zfct (S : zA_S) (n : Nat) (gs : List Nat) (σ : List zA_V) : Nat → List (Int × Int × Option Nat) → zA_S
  | _, [] => []
  | i, q :: qs => (match q.2.2 with
    | none => []
    | some g => (match gs[g]? with
      | none => []
      | some k => (match σ[k]? with
        | none => []
        | some b => (match zr S b with
          | none => []
          | some p => if -1000000 ≤ q.1 ∧ q.2.1 ≤ 1000000 ∧ -1000000 ≤ p.1 ∧ p.2 ≤ 1000000 then [((0 : Int), (2000000 : Int), (11, (1, ((n + i : Nat) : Int)), b))] else [])))) ++ zfct S n gs σ (i + 1) qs
def zinst (S : zA_S) (gs : List Nat) (σ : List zA_V) (alt : zAlt) : zR_ := (S ++ alt.1.map (fun q => (q.1, q.2.1, zD0)) ++ zfct S S.length gs σ 0 alt.1, alt.2.2.1.map (zshC S.length), alt.2.2.2.map (zshV S.length))
def zposA (alt : zAlt) : Bool := alt.2.2.1.all zposC && (match alt.2.2.2 with
  | some a => zposV a
  | none => true)
def zorcC (m0 d0 : Nat) (te : zA_T) (lo : List (Nat × Nat × Nat)) (gs : List Nat) (alts : List zAlt) (m d : Nat) (t : zA_T) : Option (List zR_) := match Nat.beq m m0 with
  | false => none
  | true => (match Nat.ble d0 d with
    | false => none
    | true => (match zlocs t none lo with
      | none => none
      | some σ => (match zmT σ t te with
        | false => none
        | true => some (alts.map (zinst t.1 gs σ)))))
theorem zfct_g {ρ ρ0 : List Int} {S : zA_S} {gs : List Nat} {σ : List zA_V} (hρ : zLE ρ ρ0) (hS : zg_S ρ S) (hσ : ∀ a ∈ σ, (a.1 = 0 ∨ a.1 = 1) ∧ zE ρ a (zval ρ a)) {n : Nat} : ∀ {qs : List (Int × Int × Option Nat)} {vals : List Int} {i : Nat} {S1 : zA_S}, zg_S ρ0 S1 → zL2 (zAok1 (gs.map (fun g => (σ.map (zval ρ)).getD g 0))) vals qs → (∀ k x, vals[k]? = some x → ρ0[n + i + k]? = some x) →
    ∃ ρ', zLE ρ0 ρ' ∧ zg_S ρ' (S1 ++ zfct S n gs σ i qs)
  | [], [], _, S1, h1, _, _ => ⟨ρ0, zLE.refl _, by
    show zg_S ρ0 (S1 ++ [])
    rw [List.append_nil]
    exact h1⟩
  | q :: qs, x :: vals, i, S1, h1, h2, h3 => by
    have hx : ρ0[n + i]? = some x := h3 0 x rfl
    have hrest : ∀ k y, vals[k]? = some y → ρ0[n + (i + 1) + k]? = some y := by
      intro k y hy
      have := h3 (k + 1) y hy
      have e : n + i + (k + 1) = n + (i + 1) + k := by omega
      rw [← e]
      exact this
    have none1 : ∃ ρ', zLE ρ0 ρ' ∧ zg_S ρ' (S1 ++ ([] ++ zfct S n gs σ (i + 1) qs)) := by
      rw [List.nil_append]
      exact zfct_g hρ hS hσ h1 h2.2 hrest
    unfold zfct
    split
    · exact none1
    · next g hg =>
      split
      · exact none1
      · next k hk =>
        split
        · exact none1
        · next b hb =>
          split
          · exact none1
          · next p hp =>
            split
            · next hc =>
              obtain ⟨u, hu, hux⟩ := h2.1.2.2 g hg
              have hbm := hσ b (List.mem_of_getElem? hb)
              have eu : u = zval ρ b := by
                rw [List.getElem?_map, hk] at hu
                have hu : some ((σ.map (zval ρ)).getD k 0) = some u := hu
                rw [List.getD_eq_getElem?_getD, List.getElem?_map, hb] at hu
                exact (Option.some.inj hu).symm
              have bp := zr_in hS hbm.2 hp
              have b1 := h2.1.1
              have b2 := h2.1.2.1
              have eb : zE ρ0 b (zval ρ b) := hbm.2.mono hρ
              have ed : zb_c 11 x (zval ρ b) = x - zval ρ b := zw32_in (by omega) (by omega)
              have hpush := h1.pushD (n := x - zval ρ b) (q := (0, 2000000)) (D := (11, (1, ((n + i : Nat) : Int)), b)) (by show 0 ≤ _; omega) (by show _ ≤ 2000000; omega) (Or.inr ⟨x, zval ρ b, zEk hx, eb, ed.symm⟩)
              have hle := zLE.app ρ0 (x - zval ρ b)
              obtain ⟨ρ', r1, r2⟩ := zfct_g (hρ.trans hle) hS hσ hpush h2.2 (fun k y hy => hle _ _ (hrest k y hy))
              refine ⟨ρ', hle.trans r1, ?_⟩
              rw [List.append_assoc] at r2
              exact r2
            · exact none1
  | [], _ :: _, _, _, _, h, _ => h.elim
  | _ :: _, [], _, _, _, h, _ => h.elim
theorem zg_S.news {ρ : List Int} : ∀ {vals : List Int} {qs : List (Int × Int × Option Nat)} {G : List Int} {ρ1 : List Int} {S : zA_S}, zg_S ρ1 S → zL2 (zAok1 G) vals qs → ρ = ρ1 ++ vals → zg_S ρ (S ++ qs.map (fun q => (q.1, q.2.1, zD0)))
  | [], [], _, _, S, h, _, e => by
    rw [List.append_nil] at e
    subst e
    show zg_S _ (S ++ [])
    rw [List.append_nil]
    exact h
  | x :: vals, q :: qs, G, ρ1, S, h, h2, e => by
    have hp := h.push (n := x) (q := (q.1, q.2.1)) h2.1.1 h2.1.2.1
    have := zg_S.news (ρ := ρ) (vals := vals) (qs := qs) (G := G) (ρ1 := ρ1 ++ [x]) hp h2.2 (by rw [e, List.append_assoc]; rfl)
    rw [List.append_assoc] at this
    exact this
  | [], _ :: _, _, _, _, _, h, _ => h.elim
  | _ :: _, [], _, _, _, _, h, _ => h.elim
theorem zOk_C {m0 d0 : Nat} {te : zA_T} {lo : List (Nat × Nat × Nat)} {gs : List Nat} {alts : List zAlt} (hc : zCon m0 d0 te gs alts) (hpos : alts.all zposA = true) (l : Launch) (X : zx_X) (XL : Nat) (φ : List z_C) (P : List Int → Prop) : zOk l X XL φ P (zorcC m0 d0 te lo gs alts) := by
  intro m d t rs h ρ ph lv _ g Q hQ
  unfold zorcC at h
  split at h
  · cases h
  · next hm =>
    split at h
    · cases h
    · next hd =>
      split at h
      · cases h
      · next σ hσ =>
        split at h
        · cases h
        · next hzm =>
          cases h
          have hm := Nat.eq_of_beq_eq_true hm
          subst hm
          have hS := g.1
          have hzS : zmS t.1 σ te.1 = true := (zw_and hzm).1
          obtain ⟨-, e, lv0, hm0, g0⟩ := zmT_g (XL' := 2000000) (by decide) hzm g
          have k := hc l X φ Q _ ph lv0 g0 (fun alt ha vals hok v ph' gH gR => by
            have hpa := List.all_eq_true.mp hpos alt ha
            obtain ⟨p1, p2⟩ := zw_and hpa
            have hlen : ρ.length = t.1.length := zL2.len hS
            have s1 : zg_S (ρ ++ vals) (t.1 ++ alt.1.map (fun q => (q.1, q.2.1, zD0))) := zg_S.news hS hok rfl
            have hle1 : zLE ρ (ρ ++ vals) := fun k n hk => by
              rw [List.getElem?_append_left (List.getElem?_eq_some_iff.mp hk).1]
              exact hk
            have hv : ∀ k x, vals[k]? = some x → (ρ ++ vals)[t.1.length + 0 + k]? = some x := by
              intro k x hk
              rw [List.getElem?_append_right (by omega)]
              have e : t.1.length + 0 + k - ρ.length = k := by omega
              rw [e]
              exact hk
            obtain ⟨ρ', r1, r2⟩ := zfct_g (ρ := ρ) (n := t.1.length) (gs := gs) hle1 hS (zmS_E hS hzS) s1 hok hv
            have hr : ∀ k x, vals[k]? = some x → ρ'[t.1.length + k]? = some x := fun k x hk => r1 _ _ (hv k x hk)
            refine hQ _ (List.mem_map.mpr ⟨alt, ha, rfl⟩) ρ' v ph' (hle1.trans r1) r2 (zshH_g hr p1 gH) ?_
            show zg_R ρ' (alt.2.2.2.map (zshV t.1.length)) v
            cases hret : alt.2.2.2 with
            | none =>
              rw [hret] at gR
              cases v with
              | none => trivial
              | some u => exact gR.elim
            | some a =>
              rw [hret] at gR p2
              cases v with
              | none => exact gR.elim
              | some u => exact zshV_g hr p2 gR)
          have k := ZW.deeper (Nat.le_of_ble_eq_true hd) (ZW.lsub hm0 k)
          rw [← e] at k
          exact k
/-- one after the other -/
def zor (a b : zO_) : zO_ := fun m d t => match a m d t with
  | some r => some r
  | none => b m d t
theorem zOk_or {a b : zO_} {l : Launch} {X : zx_X} {XL : Nat} {φ : List z_C} {P : List Int → Prop} (h1 : zOk l X XL φ P a) (h2 : zOk l X XL φ P b) : zOk l X XL φ P (zor a b) := by
  intro m d t rs h
  unfold zor at h
  split at h
  · next r hr =>
    cases h
    exact h1 m d t _ hr
  · exact h2 m d t rs h
end
section
/-! PART 19c: answers by the values of an argument; lists of runs. -/
def zAll {α : Type} (p : α → Prop) : List α → Prop
  | [] => True
  | a :: l => p a ∧ zAll p l
theorem zAll_mem {α : Type} {p : α → Prop} : ∀ {l : List α}, zAll p l → ∀ a ∈ l, p a
  | [], _, a, h => by cases h
  | b :: l, hp, a, h => by
    rcases List.mem_cons.mp h with rfl | h
    · exact hp.1
    · exact zAll_mem hp.2 a h
def zsplL (o : zO_) (m d : Nat) (t : zA_T) : List zA_S → Option (List zR_)
  | [] => some []
  | S :: l => match o m d (S, t.2) with
    | none => none
    | some r => (match zsplL o m d t l with
      | none => none
      | some rs => some (r ++ rs))
theorem zsplL_g {o : zO_} {m d : Nat} {t : zA_T} : ∀ {l : List zA_S} {rs : List zR_}, zsplL o m d t l = some rs → ∀ S ∈ l, ∃ r, o m d (S, t.2) = some r ∧ ∀ x ∈ r, x ∈ rs
  | [], _, _, S, h => by cases h
  | S0 :: l, rs, h, S, hS => by
    unfold zsplL at h
    split at h
    · cases h
    · next r hr =>
      split at h
      · cases h
      · next rs' hrs =>
        cases h
        rcases List.mem_cons.mp hS with rfl | hS
        · exact ⟨r, hr, fun x hx => List.mem_append_left _ hx⟩
        · obtain ⟨r', h1, h2⟩ := zsplL_g hrs S hS
          exact ⟨r', h1, fun x hx => List.mem_append_right _ (h2 x hx)⟩
/-- for each value of the local i -/
def zspl (m0 i : Nat) (o : zO_) : zO_ := fun m d t => match Nat.beq m m0 with
  | false => none
  | true => (match t.2.2.1.lookup i with
    | none => none
    | some a => if a.1 = 1 then (match zSp t.1 a with
        | none => none
        | some l => zsplL o m d t l) else o m d t)
theorem zOk_spl {m0 i : Nat} {o : zO_} {l : Launch} {X : zx_X} {XL : Nat} {φ : List z_C} {P : List Int → Prop} (h1 : zOk l X XL φ P o) : zOk l X XL φ P (zspl m0 i o) := by
  intro m d t rs h ρ ph lv hp g Q hQ
  unfold zspl at h
  split at h
  · cases h
  · split at h
    · cases h
    · next a ha =>
      split at h
      · next hI =>
        split at h
        · cases h
        · next ls hls =>
          obtain ⟨v, -, gv⟩ := zg_L.look g.2.2.1 ha
          obtain ⟨x, -, ex⟩ := zg_int (by simp [zIs, hI]) gv
          obtain ⟨S', m1, gs⟩ := zSp_g g.1 ex hls
          obtain ⟨r, hr, hm⟩ := zsplL_g h S' m1
          exact h1 m d (S', t.2) r hr ρ ph lv hp ⟨gs, g.2⟩ Q (fun q hq => hQ q (hm q hq))
      · exact h1 m d t rs h ρ ph lv hp g Q hQ
/-- bounds that leave nothing out -/
def zcov : Int → Int → List (Int × Int) → Bool
  | lo, hi, [] => decide (hi < lo)
  | lo, hi, q :: qs => decide (q.1 ≤ lo) && zcov (q.2 + 1) hi qs
theorem zcov_g : ∀ {qs : List (Int × Int)} {lo hi n : Int}, zcov lo hi qs = true → lo ≤ n → n ≤ hi → ∃ q ∈ qs, q.1 ≤ n ∧ n ≤ q.2
  | [], lo, hi, n, h, h1, h2 => by
    have h := of_decide_eq_true h
    omega
  | q :: qs, lo, hi, n, h, h1, h2 => by
    obtain ⟨h3, h4⟩ := zw_and h
    have h3 := of_decide_eq_true h3
    by_cases hq : n ≤ q.2
    · exact ⟨q, List.mem_cons_self, by omega, hq⟩
    · obtain ⟨p, hp, r⟩ := zcov_g h4 (by omega) h2
      exact ⟨p, List.mem_cons_of_mem _ hp, r⟩
/-- a state with narrower bounds of a name -/
def zcvT (te : zA_T) (k : Nat) (q : Int × Int) : zA_T := (zrf te.1 (1, (k : Int)) q, te.2)
theorem zCon_cov {m d : Nat} {te : zA_T} {gs : List Nat} {alts : List zAlt} (k : Nat) (qs : List (Int × Int)) {e : Int × Int × zA_D} (hk : te.1[k]? = some e) (hc : zcov e.1 e.2.1 qs = true) (h : ∀ q ∈ qs, zCon m d (zcvT te k q) gs alts) : zCon m d te gs alts := by
  intro l X φ Q ρ ph lv g hQ
  obtain ⟨n, en, b1, b2, -⟩ := zL2.getR g.1 hk
  obtain ⟨q, hq, c1, c2⟩ := zcov_g hc b1 b2
  exact h q hq l X φ Q ρ ph lv ⟨zrf_g g.1 (zEk en) c1 c2, g.2⟩ hQ
end
section
/-! PART 19d: the heap of every state between calls, in wide words. -/
def zHT : zA_H := [(0, 0, 0, [(2, (.ofNat 4)), (2, (.ofNat 8)), (2, (.ofNat 12)), (2, (.ofNat 15)), (2, (.ofNat 18)), (2, (.ofNat 19)), (2, (.ofNat 20)), (2, (.ofNat 25)), (2, (.ofNat 30)), (2, (.ofNat 33))], []),
  (0, 1, 0, [(2, (.ofNat 5)), (2, (.ofNat 6)), (2, (.ofNat 7)), (6, (.ofNat 144115183780888576)), (6, (.ofNat 18446744067267100672)), (6, (.ofNat 73014444032))], [(3, (8, (.ofNat 1))), (4, (8, (.ofNat 1))), (5, (8, (.ofNat 1)))]),
  (8, 2, 24, [(6, (.ofNat 18446744067267100672))], []),
  (8, 3, 8, [(6, (.ofNat 18446744067267100672))], []),
  (8, 4, 8, [(6, (.ofNat 18446744067267100672))], []),
  (0, 2, 0, [(2, (.ofNat 9)), (2, (.ofNat 10)), (2, (.ofNat 11)), (6, (.ofNat 1103806595072)), (6, (.ofNat 1103806595072))], [(3, (8, (.ofNat 5)))]),
  (8, 6, 128, [(6, (.ofNat 85946590560001))], []),
  (1, 0, 128, [(6, (.ofNat 18446744067267100672))], []),
  (1, 0, 6, [(6, (.ofNat 18446744067267100672))], []),
  (0, 3, 0, [(2, (.ofNat 13)), (2, (.ofNat 14)), (6, (.ofNat 1035087118336)), (6, (.ofNat 1103806595072)), (6, (.ofNat 1035087118336)), (6, (.ofNat 12884901888))], [(2, (8, (.ofNat 9)))]),
  (8, 10, 120, [(6, (.ofNat 2194728288256))], []),
  (1, 0, 128, [(6, (.ofNat 85946590560001))], []),
  (0, 4, 0, [(2, (.ofNat 4)), (2, (.ofNat 8)), (2, (.ofNat 16)), (2, (.ofNat 17)), (6, (.ofNat 18446744067267100672)), (6, (.ofNat 18446744067267100672))], []),
  (1, 0, 1536, [(6, (.ofNat 18446744067267100672))], []),
  (1, 0, 70, [(6, (.ofNat 18446744067267100672))], []),
  (0, 5, 0, [(2, (.ofNat 4)), (2, (.ofNat 15)), (6, (.ofNat 30064771072)), (6, (.ofNat 210453397503))], []),
  (0, 6, 0, [(2, (.ofNat 4))], []),
  (0, 7, 0, [(2, (.ofNat 4)), (2, (.ofNat 21)), (6, (.ofNat 12884901888)), (6, (.ofNat 144115183780888576)), (6, (.ofNat 73014444032)), (2, (.ofNat 22)), (2, (.ofNat 23)), (2, (.ofNat 24))], [(2, (8, (.ofNat 17))), (3, (8, (.ofNat 17))), (4, (8, (.ofNat 17)))]),
  (8, 18, 5, [(6, (.ofNat 18446744067267100672))], []),
  (8, 19, 24, [(6, (.ofNat 18446744067267100672))], []),
  (8, 20, 8, [(6, (.ofNat 18446744067267100672))], []),
  (8, 21, 5, [(6, (.ofNat 18446744067267100672))], []),
  (0, 8, 0, [(2, (.ofNat 4)), (2, (.ofNat 26)), (2, (.ofNat 27)), (2, (.ofNat 28)), (2, (.ofNat 29)), (6, (.ofNat 347892350976)), (6, (.ofNat 347892350976))], [(5, (8, (.ofNat 22))), (6, (8, (.ofNat 22)))]),
  (8, 23, 0, [], []),
  (8, 24, 0, [], []),
  (8, 25, 40, [(6, (.ofNat 18446744067267100672))], []),
  (8, 26, 40, [(6, (.ofNat 18446744067267100672))], []),
  (0, 9, 0, [(2, (.ofNat 31)), (2, (.ofNat 32)), (6, (.ofNat 433791696896)), (6, (.ofNat 858997754167296))], [(2, (8, (.ofNat 27))), (3, (8, (.ofNat 27)))]),
  (8, 28, 50, [(6, (.ofNat 64424509440))], []),
  (8, 29, 24, [(6, (.ofNat 18446744067267100672))], []),
  (1, 2, 6, [(3, (.ofNat 0))], [(5, (2, (.ofNat 44))), (4, (2, (.ofNat 42))), (3, (2, (.ofNat 40))), (2, (2, (.ofNat 38))), (1, (2, (.ofNat 36))), (0, (2, (.ofNat 34)))]),
  (0, 10, 0, [(2, (.ofNat 35)), (6, (.ofNat 425201762303)), (6, (.ofNat 38654705663)), (6, (.ofNat 519691042816))], [(1, (8, (.ofNat 31))), (2, (8, (.ofNat 31))), (3, (8, (.ofNat 31)))]),
  (8, 32, 60, [(8, (.ofNat 0))], []),
  (0, 10, 0, [(2, (.ofNat 37)), (6, (.ofNat 425201762303)), (6, (.ofNat 38654705663)), (6, (.ofNat 519691042816))], [(1, (8, (.ofNat 33))), (2, (8, (.ofNat 33))), (3, (8, (.ofNat 33)))]),
  (8, 34, 60, [(8, (.ofNat 0))], []),
  (0, 10, 0, [(2, (.ofNat 39)), (6, (.ofNat 425201762303)), (6, (.ofNat 38654705663)), (6, (.ofNat 519691042816))], [(1, (8, (.ofNat 35))), (2, (8, (.ofNat 35))), (3, (8, (.ofNat 35)))]),
  (8, 36, 60, [(8, (.ofNat 0))], []),
  (0, 10, 0, [(2, (.ofNat 41)), (6, (.ofNat 425201762303)), (6, (.ofNat 38654705663)), (6, (.ofNat 519691042816))], [(1, (8, (.ofNat 37))), (2, (8, (.ofNat 37))), (3, (8, (.ofNat 37)))]),
  (8, 38, 60, [(8, (.ofNat 0))], []),
  (0, 10, 0, [(2, (.ofNat 43)), (6, (.ofNat 425201762303)), (6, (.ofNat 38654705663)), (6, (.ofNat 519691042816))], [(1, (8, (.ofNat 39))), (2, (8, (.ofNat 39))), (3, (8, (.ofNat 39)))]),
  (8, 40, 60, [(8, (.ofNat 0))], []),
  (0, 10, 0, [(2, (.ofNat 45)), (6, (.ofNat 425201762303)), (6, (.ofNat 38654705663)), (6, (.ofNat 519691042816))], [(1, (8, (.ofNat 41))), (2, (8, (.ofNat 41))), (3, (8, (.ofNat 41)))]),
  (8, 42, 60, [(8, (.ofNat 0))], []),
  (0, 11, 0, [(2, (.ofNat 47)), (2, (.ofNat 48)), (2, (.ofNat 49)), (2, (.ofNat 50)), (6, (.ofNat 347892350976)), (6, (.ofNat 347892350976)), (6, (.ofNat 73014444032)), (6, (.ofNat 144115183780888576)), (2, (.ofNat 51)), (6, (.ofNat 1035087118336)), (2, (.ofNat 52)), (6, (.ofNat 1035087118335)), (6, (.ofNat 4294967295)), (6, (.ofNat 1035087118336)), (6, (.ofNat 1035087118336)), (6, (.ofNat 1035087118335)), (6, (.ofNat 55834574848)), (2, (.ofNat 53)), (2, (.ofNat 54)), (2, (.ofNat 55)), (2, (.ofNat 56)), (2, (.ofNat 57)), (6, (.ofNat 12884901888)), (6, (.ofNat 73014444032)), (6, (.ofNat 144115183780888576)), (2, (.ofNat 58)), (2, (.ofNat 59)), (2, (.ofNat 60)), (6, (.ofNat 433791696896)), (2, (.ofNat 61)), (2, (.ofNat 62)), (6, (.ofNat 858997754167296)), (6, (.ofNat 64424509440)), (6, (.ofNat 425201762304)), (2, (.ofNat 63)), (2, (.ofNat 64)), (2, (.ofNat 65)), (2, (.ofNat 66))], [(4, (8, (.ofNat 43))), (5, (8, (.ofNat 43))), (6, (8, (.ofNat 43))), (7, (8, (.ofNat 43))), (9, (8, (.ofNat 43))), (11, (8, (.ofNat 43))), (22, (8, (.ofNat 43))), (23, (8, (.ofNat 43))), (24, (8, (.ofNat 43))), (28, (8, (.ofNat 43))), (31, (8, (.ofNat 43)))]),
  (8, 44, 41, [(6, (.ofNat 18446744067267100672))], [(40, (6, (.ofNat 81604378625)))]),
  (8, 45, 0, [], []),
  (8, 46, 0, [], []),
  (8, 47, 0, [], []),
  (8, 48, 120, [(6, (.ofNat 2194728288256))], []),
  (8, 49, 120, [(6, (.ofNat 2194728288256))], []),
  (1, 0, 6, [(6, (.ofNat 18446744067267100672))], []),
  (1, 0, 24, [(6, (.ofNat 18446744067267100672))], []),
  (1, 0, 70, [(6, (.ofNat 8589938886967296))], []),
  (1, 0, 96, [(6, (.ofNat 6807523164160))], []),
  (8, 54, 5, [(6, (.ofNat 18446744067267100672))], []),
  (8, 55, 8, [(6, (.ofNat 18446744067267100672))], []),
  (8, 56, 24, [(6, (.ofNat 18446744067267100672))], []),
  (8, 57, 5, [(6, (.ofNat 18446744067267100672))], []),
  (8, 58, 50, [(6, (.ofNat 64424509440))], []),
  (8, 59, 24, [(6, (.ofNat 18446744067267100672))], []),
  (8, 60, 6, [(6, (.ofNat 468151435263))], []),
  (8, 61, 6, [(6, (.ofNat 519691042816))], []),
  (8, 62, 360, [(8, (.ofNat 0))], []),
  (1, 1, 60, [(8, (.ofNat 0))], [])]
def zh_0 : zA_C := (0, 0, 0, [(2, (.ofNat 4)), (2, (.ofNat 8)), (2, (.ofNat 12)), (2, (.ofNat 15)), (2, (.ofNat 18)), (2, (.ofNat 19)), (2, (.ofNat 20)), (2, (.ofNat 25)), (2, (.ofNat 30)), (2, (.ofNat 33))], [])
def zh_1 : zA_C := (0, 1, 0, [(2, (.ofNat 5)), (2, (.ofNat 6)), (2, (.ofNat 7)), (6, (.ofNat 144115183780888576)), (6, (.ofNat 18446744067267100672)), (6, (.ofNat 73014444032))], [(3, (8, (.ofNat 1))), (4, (8, (.ofNat 1))), (5, (8, (.ofNat 1)))])
def zh_2 : zA_C := (8, 2, 24, [(6, (.ofNat 18446744067267100672))], [])
def zh_3 : zA_C := (8, 3, 8, [(6, (.ofNat 18446744067267100672))], [])
def zh_4 : zA_C := (8, 4, 8, [(6, (.ofNat 18446744067267100672))], [])
def zh_5 : zA_C := (0, 2, 0, [(2, (.ofNat 9)), (2, (.ofNat 10)), (2, (.ofNat 11)), (6, (.ofNat 1103806595072)), (6, (.ofNat 1103806595072))], [(3, (8, (.ofNat 5)))])
def zh_6 : zA_C := (8, 6, 128, [(6, (.ofNat 85946590560001))], [])
def zh_7 : zA_C := (1, 0, 128, [(6, (.ofNat 18446744067267100672))], [])
def zh_8 : zA_C := (1, 0, 6, [(6, (.ofNat 18446744067267100672))], [])
def zh_9 : zA_C := (0, 3, 0, [(2, (.ofNat 13)), (2, (.ofNat 14)), (6, (.ofNat 1035087118336)), (6, (.ofNat 1103806595072)), (6, (.ofNat 1035087118336)), (6, (.ofNat 12884901888))], [(2, (8, (.ofNat 9)))])
def zh_10 : zA_C := (8, 10, 120, [(6, (.ofNat 2194728288256))], [])
def zh_11 : zA_C := (1, 0, 128, [(6, (.ofNat 85946590560001))], [])
def zh_12 : zA_C := (0, 4, 0, [(2, (.ofNat 4)), (2, (.ofNat 8)), (2, (.ofNat 16)), (2, (.ofNat 17)), (6, (.ofNat 18446744067267100672)), (6, (.ofNat 18446744067267100672))], [])
def zh_13 : zA_C := (1, 0, 1536, [(6, (.ofNat 18446744067267100672))], [])
def zh_14 : zA_C := (1, 0, 70, [(6, (.ofNat 18446744067267100672))], [])
def zh_15 : zA_C := (0, 5, 0, [(2, (.ofNat 4)), (2, (.ofNat 15)), (6, (.ofNat 30064771072)), (6, (.ofNat 210453397503))], [])
def zh_16 : zA_C := (0, 6, 0, [(2, (.ofNat 4))], [])
def zh_17 : zA_C := (0, 7, 0, [(2, (.ofNat 4)), (2, (.ofNat 21)), (6, (.ofNat 12884901888)), (6, (.ofNat 144115183780888576)), (6, (.ofNat 73014444032)), (2, (.ofNat 22)), (2, (.ofNat 23)), (2, (.ofNat 24))], [(2, (8, (.ofNat 17))), (3, (8, (.ofNat 17))), (4, (8, (.ofNat 17)))])
def zh_18 : zA_C := (8, 18, 5, [(6, (.ofNat 18446744067267100672))], [])
def zh_19 : zA_C := (8, 19, 24, [(6, (.ofNat 18446744067267100672))], [])
def zh_20 : zA_C := (8, 20, 8, [(6, (.ofNat 18446744067267100672))], [])
def zh_21 : zA_C := (8, 21, 5, [(6, (.ofNat 18446744067267100672))], [])
def zh_22 : zA_C := (0, 8, 0, [(2, (.ofNat 4)), (2, (.ofNat 26)), (2, (.ofNat 27)), (2, (.ofNat 28)), (2, (.ofNat 29)), (6, (.ofNat 347892350976)), (6, (.ofNat 347892350976))], [(5, (8, (.ofNat 22))), (6, (8, (.ofNat 22)))])
def zh_23 : zA_C := (8, 23, 0, [], [])
def zh_24 : zA_C := (8, 24, 0, [], [])
def zh_25 : zA_C := (8, 25, 40, [(6, (.ofNat 18446744067267100672))], [])
def zh_26 : zA_C := (8, 26, 40, [(6, (.ofNat 18446744067267100672))], [])
def zh_27 : zA_C := (0, 9, 0, [(2, (.ofNat 31)), (2, (.ofNat 32)), (6, (.ofNat 433791696896)), (6, (.ofNat 858997754167296))], [(2, (8, (.ofNat 27))), (3, (8, (.ofNat 27)))])
def zh_28 : zA_C := (8, 28, 50, [(6, (.ofNat 64424509440))], [])
def zh_29 : zA_C := (8, 29, 24, [(6, (.ofNat 18446744067267100672))], [])
def zh_30 : zA_C := (1, 2, 6, [(3, (.ofNat 0))], [(5, (2, (.ofNat 44))), (4, (2, (.ofNat 42))), (3, (2, (.ofNat 40))), (2, (2, (.ofNat 38))), (1, (2, (.ofNat 36))), (0, (2, (.ofNat 34)))])
def zh_31 : zA_C := (0, 10, 0, [(2, (.ofNat 35)), (6, (.ofNat 425201762303)), (6, (.ofNat 38654705663)), (6, (.ofNat 519691042816))], [(1, (8, (.ofNat 31))), (2, (8, (.ofNat 31))), (3, (8, (.ofNat 31)))])
def zh_32 : zA_C := (8, 32, 60, [(8, (.ofNat 0))], [])
def zh_33 : zA_C := (0, 10, 0, [(2, (.ofNat 37)), (6, (.ofNat 425201762303)), (6, (.ofNat 38654705663)), (6, (.ofNat 519691042816))], [(1, (8, (.ofNat 33))), (2, (8, (.ofNat 33))), (3, (8, (.ofNat 33)))])
def zh_34 : zA_C := (8, 34, 60, [(8, (.ofNat 0))], [])
def zh_35 : zA_C := (0, 10, 0, [(2, (.ofNat 39)), (6, (.ofNat 425201762303)), (6, (.ofNat 38654705663)), (6, (.ofNat 519691042816))], [(1, (8, (.ofNat 35))), (2, (8, (.ofNat 35))), (3, (8, (.ofNat 35)))])
def zh_36 : zA_C := (8, 36, 60, [(8, (.ofNat 0))], [])
def zh_37 : zA_C := (0, 10, 0, [(2, (.ofNat 41)), (6, (.ofNat 425201762303)), (6, (.ofNat 38654705663)), (6, (.ofNat 519691042816))], [(1, (8, (.ofNat 37))), (2, (8, (.ofNat 37))), (3, (8, (.ofNat 37)))])
def zh_38 : zA_C := (8, 38, 60, [(8, (.ofNat 0))], [])
def zh_39 : zA_C := (0, 10, 0, [(2, (.ofNat 43)), (6, (.ofNat 425201762303)), (6, (.ofNat 38654705663)), (6, (.ofNat 519691042816))], [(1, (8, (.ofNat 39))), (2, (8, (.ofNat 39))), (3, (8, (.ofNat 39)))])
def zh_40 : zA_C := (8, 40, 60, [(8, (.ofNat 0))], [])
def zh_41 : zA_C := (0, 10, 0, [(2, (.ofNat 45)), (6, (.ofNat 425201762303)), (6, (.ofNat 38654705663)), (6, (.ofNat 519691042816))], [(1, (8, (.ofNat 41))), (2, (8, (.ofNat 41))), (3, (8, (.ofNat 41)))])
def zh_42 : zA_C := (8, 42, 60, [(8, (.ofNat 0))], [])
def zh_43 : zA_C := (0, 11, 0, [(2, (.ofNat 47)), (2, (.ofNat 48)), (2, (.ofNat 49)), (2, (.ofNat 50)), (6, (.ofNat 347892350976)), (6, (.ofNat 347892350976)), (6, (.ofNat 73014444032)), (6, (.ofNat 144115183780888576)), (2, (.ofNat 51)), (6, (.ofNat 1035087118336)), (2, (.ofNat 52)), (6, (.ofNat 1035087118335)), (6, (.ofNat 4294967295)), (6, (.ofNat 1035087118336)), (6, (.ofNat 1035087118336)), (6, (.ofNat 1035087118335)), (6, (.ofNat 55834574848)), (2, (.ofNat 53)), (2, (.ofNat 54)), (2, (.ofNat 55)), (2, (.ofNat 56)), (2, (.ofNat 57)), (6, (.ofNat 12884901888)), (6, (.ofNat 73014444032)), (6, (.ofNat 144115183780888576)), (2, (.ofNat 58)), (2, (.ofNat 59)), (2, (.ofNat 60)), (6, (.ofNat 433791696896)), (2, (.ofNat 61)), (2, (.ofNat 62)), (6, (.ofNat 858997754167296)), (6, (.ofNat 64424509440)), (6, (.ofNat 425201762304)), (2, (.ofNat 63)), (2, (.ofNat 64)), (2, (.ofNat 65)), (2, (.ofNat 66))], [(4, (8, (.ofNat 43))), (5, (8, (.ofNat 43))), (6, (8, (.ofNat 43))), (7, (8, (.ofNat 43))), (9, (8, (.ofNat 43))), (11, (8, (.ofNat 43))), (22, (8, (.ofNat 43))), (23, (8, (.ofNat 43))), (24, (8, (.ofNat 43))), (28, (8, (.ofNat 43))), (31, (8, (.ofNat 43)))])
def zh_44 : zA_C := (8, 44, 41, [(6, (.ofNat 18446744067267100672))], [(40, (6, (.ofNat 81604378625)))])
def zh_45 : zA_C := (8, 45, 0, [], [])
def zh_46 : zA_C := (8, 46, 0, [], [])
def zh_47 : zA_C := (8, 47, 0, [], [])
def zh_48 : zA_C := (8, 48, 120, [(6, (.ofNat 2194728288256))], [])
def zh_49 : zA_C := (8, 49, 120, [(6, (.ofNat 2194728288256))], [])
def zh_50 : zA_C := (1, 0, 6, [(6, (.ofNat 18446744067267100672))], [])
def zh_51 : zA_C := (1, 0, 24, [(6, (.ofNat 18446744067267100672))], [])
def zh_52 : zA_C := (1, 0, 70, [(6, (.ofNat 8589938886967296))], [])
def zh_53 : zA_C := (1, 0, 96, [(6, (.ofNat 6807523164160))], [])
def zh_54 : zA_C := (8, 54, 5, [(6, (.ofNat 18446744067267100672))], [])
def zh_55 : zA_C := (8, 55, 8, [(6, (.ofNat 18446744067267100672))], [])
def zh_56 : zA_C := (8, 56, 24, [(6, (.ofNat 18446744067267100672))], [])
def zh_57 : zA_C := (8, 57, 5, [(6, (.ofNat 18446744067267100672))], [])
def zh_58 : zA_C := (8, 58, 50, [(6, (.ofNat 64424509440))], [])
def zh_59 : zA_C := (8, 59, 24, [(6, (.ofNat 18446744067267100672))], [])
def zh_60 : zA_C := (8, 60, 6, [(6, (.ofNat 468151435263))], [])
def zh_61 : zA_C := (8, 61, 6, [(6, (.ofNat 519691042816))], [])
def zh_62 : zA_C := (8, 62, 360, [(8, (.ofNat 0))], [])
def zh_63 : zA_C := (1, 1, 60, [(8, (.ofNat 0))], [])
def zFr : zA_H := [(8, 0, 0, [], []),
  (8, 1, 0, [], []),
  (8, 2, 0, [], []),
  (8, 3, 0, [], []),
  (8, 4, 0, [], []),
  (8, 5, 0, [], []),
  (8, 6, 0, [], []),
  (8, 7, 0, [], []),
  (8, 8, 0, [], []),
  (8, 9, 0, [], []),
  (8, 10, 0, [], []),
  (8, 11, 0, [], []),
  (8, 12, 0, [], []),
  (8, 13, 0, [], []),
  (8, 14, 0, [], []),
  (8, 15, 0, [], []),
  (8, 16, 0, [], []),
  (8, 17, 0, [], []),
  (8, 18, 0, [], []),
  (8, 19, 0, [], []),
  (8, 20, 0, [], []),
  (8, 21, 0, [], []),
  (8, 22, 0, [], []),
  (8, 23, 0, [], []),
  (8, 24, 0, [], []),
  (8, 25, 0, [], []),
  (8, 26, 0, [], []),
  (8, 27, 0, [], []),
  (8, 28, 0, [], []),
  (8, 29, 0, [], []),
  (8, 30, 0, [], []),
  (8, 31, 0, [], []),
  (8, 32, 0, [], []),
  (8, 33, 0, [], []),
  (8, 34, 0, [], []),
  (8, 35, 0, [], []),
  (8, 36, 0, [], []),
  (8, 37, 0, [], []),
  (8, 38, 0, [], []),
  (8, 39, 0, [], []),
  (8, 40, 0, [], []),
  (8, 41, 0, [], []),
  (8, 42, 0, [], []),
  (8, 43, 0, [], []),
  (8, 44, 0, [], []),
  (8, 45, 0, [], []),
  (8, 46, 0, [], []),
  (8, 47, 0, [], []),
  (8, 48, 0, [], []),
  (8, 49, 0, [], []),
  (8, 50, 0, [], []),
  (8, 51, 0, [], []),
  (8, 52, 0, [], []),
  (8, 53, 0, [], []),
  (8, 54, 0, [], []),
  (8, 55, 0, [], []),
  (8, 56, 0, [], []),
  (8, 57, 0, [], []),
  (8, 58, 0, [], []),
  (8, 59, 0, [], []),
  (8, 60, 0, [], []),
  (8, 61, 0, [], []),
  (8, 62, 0, [], []),
  (8, 63, 0, [], [])]
/-- fields that hold alike: cell, field, cell, field -/
def zPs : List (Nat × Nat × Nat × Nat) := []
end
section
/-! PART 19e: contracts that speak of the cells alone that a method reaches; the others stay what they are. -/
theorem zL2.ofI {α β : Type} {R : α → β → Prop} : ∀ {as : List α} {bs : List β}, as.length = bs.length → (∀ (i : Nat) a b, as[i]? = some a → bs[i]? = some b → R a b) → zL2 R as bs
  | [], [], _, _ => trivial
  | a :: as, b :: bs, hl, h => ⟨h 0 a b rfl rfl, zL2.ofI (by simpa using hl) (fun i x y hx hy => h (i + 1) x y hx hy)⟩
  | [], _ :: _, hl, _ => by simp at hl
  | _ :: _, [], hl, _ => by simp at hl
/-- the cell i, whatever it is, as it was -/
def zfr (i : Nat) (a : zA_C) : Bool := Nat.beq a.1 8 && (Nat.beq a.2.1 i && Nat.beq a.2.2.1 0)
theorem zfr_g {φ : List z_C} {ρ : List Int} {i : Nat} {a : zA_C} {c : z_C} (h : zfr i a = true) (hc : φ[i]? = some c) : zg_C φ ρ a c := by
  obtain ⟨h1, h2⟩ := zw_and h
  obtain ⟨h3, h4⟩ := zw_and h2
  exact Or.inl ⟨Nat.eq_of_beq_eq_true h1, by rw [Nat.eq_of_beq_eq_true h3]; exact hc, zg_8.nil ρ c (Nat.eq_of_beq_eq_true h4)⟩
theorem zg_C8 {φ : List z_C} {ρ : List Int} {a : zA_C} {c : z_C} (h : a.1 = 8) (g : zg_C φ ρ a c) : φ[a.2.1]? = some c := by
  rcases g with g | ⟨g, -⟩ | ⟨g, -⟩ | ⟨g, -⟩ | ⟨g, -⟩
  · exact g.2.1
  all_goals omega
theorem zgC_self {φ ph : List z_C} {ρ : List Int} {b : zA_C} {c : z_C} {i : Nat} (g : zg_C φ ρ b c) (hc : ph[i]? = some c) (h8 : b.1 = 8 → b.2.1 = i) (hz : ∀ q ∈ b.2.2.2.2, b.1 = 0 → q.2.2.toNat = i) : zg_C ph ρ b c := by
  rcases g with ⟨g1, g2, g3⟩ | ⟨g1, fs, e, g2, gz⟩ | g | g | g
  · exact Or.inl ⟨g1, by rw [h8 g1]; exact hc, g3⟩
  · refine Or.inr (Or.inl ⟨g1, fs, e, g2, fun q hq => ⟨(gz q hq).1, b.2.1, fs, ?_, rfl⟩⟩)
    rw [hz q hq g1, hc, e]
  · exact Or.inr (Or.inr (Or.inl g))
  · exact Or.inr (Or.inr (Or.inr (Or.inl g)))
  · exact Or.inr (Or.inr (Or.inr (Or.inr g)))
theorem zgC_conv {φ ph : List z_C} {ρ vals : List Int} {a c : zA_C} {u u' : z_C} {i : Nat} (gc : zg_C ph vals c u') (hph : ph[i]? = some u) (ga : zg_C φ ρ a u) (hk : c.1 = 1 ∨ (c.1 = 0 ∧ a.1 = 0 ∧ ∀ q ∈ c.2.2.2.2, q.2.2.toNat = i ∧ q ∈ a.2.2.2.2)) : zg_C φ vals c u' := by
  rcases gc with ⟨g1, -⟩ | ⟨g1, fs', e', g2, gz'⟩ | g | g | g
  · omega
  · rcases hk with hk | ⟨-, ha, hq⟩
    · omega
    · obtain ⟨fs, e, -, gz⟩ := zg_C0 ha ga
      refine Or.inr (Or.inl ⟨g1, fs', e', g2, fun q hm => ?_⟩)
      obtain ⟨z1, n, gs, z2, z3⟩ := gz' q hm
      obtain ⟨hi, hma⟩ := hq q hm
      obtain ⟨-, n2, gs2, z4, z5⟩ := gz q hma
      rw [hi, hph, e] at z2
      have e3 : fs = gs := by
        have := Option.some.inj z2
        injection this with this
        exact (Prod.ext_iff.mp this).2
      exact ⟨z1, n2, gs2, z4, by rw [z3, ← e3, z5]⟩
  · exact Or.inr (Or.inr (Or.inl g))
  · exact Or.inr (Or.inr (Or.inr (Or.inl g)))
  · exact Or.inr (Or.inr (Or.inr (Or.inr g)))
theorem zmC_ov {S : zA_S} {σ : List zA_V} {a b : zA_C} (h : zmC S σ a b = true) (hb : b.1 = 0) : a.1 = 0 ∧ ∀ q ∈ b.2.2.2.2, q ∈ a.2.2.2.2 := by
  unfold zmC at h
  obtain ⟨h1, h2⟩ := zw_and h
  obtain ⟨-, h4⟩ := zw_and h2
  have e1 : a.1 = b.1 := Nat.eq_of_beq_eq_true h1
  have ha : a.1 = 0 := by omega
  rw [if_neg (by omega), if_pos ha] at h4
  refine ⟨ha, fun q hq => ?_⟩
  obtain ⟨p, hp, e⟩ := List.any_eq_true.mp (List.all_eq_true.mp (zw_and h4).2 q hq)
  rw [← zKeq_eq _ _ e]
  exact hp
/-- t fits the pattern te, where it is looked at: at the cells F -/
def zmF (σ : List zA_V) (t te : zA_T) (F : List Nat) : Bool := zmS t.1 σ te.1 && (F.all (fun i => match t.2.1[i]?, te.2.1[i]? with
  | some a, some b => zmCq t.1 σ a b
  | _, _ => false) && (Nat.beq t.2.1.length te.2.1.length && (zmL t.1 σ t.2.2.1 te.2.2.1 && (t.2.2.2.1.isEmpty && (te.2.2.2.1.isEmpty && decide (t.2.2.2.2 = te.2.2.2.2))))))
/-- the cells W as A has them, its names moved up -/
def zsF (n : Nat) (A : zA_H) : List Nat → zA_H → zA_H
  | [], H => H
  | i :: W, H => zsF n A W (H.set i (zshC n (A.getD i (99, 0, 0, [], []))))
theorem zsF_len (n : Nat) (A : zA_H) : ∀ (W : List Nat) (H : zA_H), (zsF n A W H).length = H.length
  | [], _ => rfl
  | i :: W, H => by
    show (zsF n A W (H.set i _)).length = _
    rw [zsF_len n A W, List.length_set]
theorem zsF_out {n : Nat} {A : zA_H} {i : Nat} : ∀ {W : List Nat} {H : zA_H}, (∀ w ∈ W, w ≠ i) → (zsF n A W H)[i]? = H[i]?
  | [], _, _ => rfl
  | w :: W, H, h => by
    show (zsF n A W (H.set w _))[i]? = _
    rw [zsF_out (fun v hv => h v (List.mem_cons_of_mem _ hv)), List.getElem?_set_ne (h w List.mem_cons_self)]
theorem zsF_in {n : Nat} {A : zA_H} {i : Nat} : ∀ {W : List Nat} {H : zA_H}, (∃ w ∈ W, w = i) → i < H.length → (zsF n A W H)[i]? = some (zshC n (A.getD i (99, 0, 0, [], [])))
  | [], _, ⟨_, hm, _⟩, _ => by cases hm
  | w :: W, H, hw, hl => by
    show (zsF n A W (H.set w _))[i]? = _
    by_cases h : ∃ v ∈ W, v = i
    · exact zsF_in h (by rw [List.length_set]; exact hl)
    · rw [zsF_out (fun v hv e => h ⟨v, hv, e⟩)]
      obtain ⟨v, hv, e⟩ := hw
      rcases List.mem_cons.mp hv with e2 | hv
      · have e3 : w = i := by rw [← e2]; exact e
        subst e3
        rw [List.getElem?_set_self hl]
      · exact absurd ⟨v, hv, e⟩ h
def zinF (S : zA_S) (gs : List Nat) (σ : List zA_V) (H : zA_H) (W : List Nat) (alt : zAlt) : zR_ := (S ++ alt.1.map (fun q => (q.1, q.2.1, zD0)) ++ zfct S S.length gs σ 0 alt.1, zsF S.length alt.2.2.1 W H, alt.2.2.2.map (zshV S.length))
def zorcF (m0 d0 : Nat) (te : zA_T) (lo : List (Nat × Nat × Nat)) (gs : List Nat) (alts : List zAlt) (F W : List Nat) (m d : Nat) (t : zA_T) : Option (List zR_) := match Nat.beq m m0 with
  | false => none
  | true => (match Nat.ble d0 d with
    | false => none
    | true => (match zlocs t none lo with
      | none => none
      | some σ => (match zmF σ t te F with
        | false => none
        | true => some (alts.map (zinF t.1 gs σ t.2.1 W)))))
def zhas (W : List Nat) (i : Nat) : Bool := W.any (fun w => Nat.beq w i)
theorem zhas_g {W : List Nat} {i : Nat} (h : zhas W i = true) : ∃ w ∈ W, w = i := by
  obtain ⟨w, hw, e⟩ := List.any_eq_true.mp h
  exact ⟨w, hw, Nat.eq_of_beq_eq_true e⟩
theorem zhas_n {W : List Nat} {i : Nat} (h : zhas W i = false) : ∀ w ∈ W, w ≠ i := by
  intro w hw e
  have : zhas W i = true := List.any_eq_true.mpr ⟨w, hw, by rw [e]; exact Nat.beq_refl i⟩
  rw [h] at this
  cases this
/-- what is looked at once: te tells nothing of the cells outside F; what ends tell of cells outside W is that they are as they were -/
def zFk1 (W : List Nat) (i : Nat) (b c : zA_C) : Bool := match zhas W i with
  | true => zposC c && (Nat.beq c.1 1 || (Nat.beq c.1 0 && (Nat.beq b.1 0 && c.2.2.2.2.all (fun q => Nat.beq q.2.2.toNat i && b.2.2.2.2.any (fun p => zKeq p q)))))
  | false => Nat.beq c.1 8 && Nat.beq c.2.1 i
def zFk (te : zA_T) (alts : List zAlt) (F W : List Nat) (i : Nat) : Bool := match te.2.1[i]? with
  | none => false
  | some b => (zhas F i || zfr i b) && ((!(Nat.beq b.1 8) || Nat.beq b.2.1 i) && (b.2.2.2.2.all (fun q => !(Nat.beq b.1 0) || Nat.beq q.2.2.toNat i) && ((!(zhas W i) || zhas F i) && alts.all (fun alt => match alt.2.2.1[i]? with
    | none => false
    | some c => zFk1 W i b c))))
def zFok (te : zA_T) (alts : List zAlt) (F W : List Nat) : Bool := (List.range te.2.1.length).all (zFk te alts F W) && alts.all (fun alt => Nat.beq alt.2.2.1.length te.2.1.length && (match alt.2.2.2 with
  | some a => zposV a
  | none => true))
theorem zOk_F {m0 d0 : Nat} {te : zA_T} {lo : List (Nat × Nat × Nat)} {gs : List Nat} {alts : List zAlt} {F W : List Nat} (hc : zCon m0 d0 te gs alts) (hok : zFok te alts F W = true) (l : Launch) (X : zx_X) (XL : Nat) (φ : List z_C) (P : List Int → Prop) : zOk l X XL φ P (zorcF m0 d0 te lo gs alts F W) := by
  intro m d t rs h ρ ph lv _ g Q hQ
  obtain ⟨hok1, hok2⟩ := zw_and hok
  unfold zorcF at h
  split at h
  · cases h
  · next hm =>
    split at h
    · cases h
    · next hd =>
      split at h
      · cases h
      · next σ hσ =>
        split at h
        · cases h
        · next hzm =>
          cases h
          have hm := Nat.eq_of_beq_eq_true hm
          subst hm
          obtain ⟨gS, gH, gL, gst, gX⟩ := g
          unfold zmF at hzm
          obtain ⟨h1, hzm⟩ := zw_and hzm
          obtain ⟨h2, hzm⟩ := zw_and hzm
          obtain ⟨h3, hzm⟩ := zw_and hzm
          obtain ⟨h4, hzm⟩ := zw_and hzm
          obtain ⟨-, hzm⟩ := zw_and hzm
          obtain ⟨h5, h6⟩ := zw_and hzm
          obtain ⟨lv0, g0, m0⟩ := zmL_g gS rfl gL h4
          have e2 : te.2.2.2.1 = [] := List.isEmpty_iff.mp h5
          have e3 : t.2.2.2.2 = te.2.2.2.2 := of_decide_eq_true h6
          have hlenH : t.2.1.length = te.2.1.length := Nat.eq_of_beq_eq_true h3
          have hlenP : t.2.1.length = ph.length := zL2.len gH
          -- what is known of a cell, on both sides
          have st : ∀ (i : Nat) (b : zA_C), te.2.1[i]? = some b → (zhas F i || zfr i b) = true ∧ (b.1 = 8 → b.2.1 = i) ∧ (∀ q ∈ b.2.2.2.2, b.1 = 0 → q.2.2.toNat = i) ∧ (zhas W i = true → zhas F i = true) ∧ ∀ alt ∈ alts, ∃ c, alt.2.2.1[i]? = some c ∧ zFk1 W i b c = true := by
            intro i b hb
            have hi : i < te.2.1.length := (List.getElem?_eq_some_iff.mp hb).1
            have hk := List.all_eq_true.mp hok1 i (List.mem_range.mpr hi)
            unfold zFk at hk
            rw [hb] at hk
            dsimp only at hk
            obtain ⟨k1, hk⟩ := zw_and hk
            obtain ⟨k2, hk⟩ := zw_and hk
            obtain ⟨k3, hk⟩ := zw_and hk
            obtain ⟨k4, hk⟩ := zw_and hk
            refine ⟨k1, fun h8 => ?_, fun q hq hq0 => ?_, fun hw => ?_, fun alt ha => ?_⟩
            · rcases zw_or k2 with k2 | k2
              · rw [h8] at k2
                cases k2
              · exact Nat.eq_of_beq_eq_true k2
            · rcases zw_or (List.all_eq_true.mp k3 q hq) with k | k
              · rw [hq0] at k
                cases k
              · exact Nat.eq_of_beq_eq_true k
            · rw [hw] at k4
              exact k4
            · have k5 := List.all_eq_true.mp hk alt ha
              split at k5
              · cases k5
              · next c hc' => exact ⟨c, hc', k5⟩
          have two : ∀ (i : Nat) (b : zA_C), te.2.1[i]? = some b → zhas F i = true → ∃ a, t.2.1[i]? = some a ∧ zmC t.1 σ a b = true := by
            intro i b hb hF
            obtain ⟨w, hw, e⟩ := zhas_g hF
            subst e
            have hm := List.all_eq_true.mp h2 w hw
            rw [hb] at hm
            split at hm
            · next a b' ha hb' =>
              cases hb'
              exact ⟨a, ha, zmCq_e hm⟩
            · cases hm
          have hT : zL2 (zg_C ph (σ.map (zval ρ))) te.2.1 ph := by
            refine zL2.ofI (by omega) (fun i b c hb hcp => ?_)
            obtain ⟨s1, s2, s3, -, -⟩ := st i b hb
            rcases zw_or s1 with hF | hfr
            · obtain ⟨a, ha, hm⟩ := two i b hb hF
              obtain ⟨c', hc', gc⟩ := zL2.get gH ha
              rw [hcp] at hc'
              cases hc'
              exact zgC_self (zmC_g gS rfl hm gc) hcp s2 s3
            · exact zfr_g hfr hcp
          have k := hc l X ph Q _ ph lv0 ⟨zmS_g gS h1, hT, g0, by rw [e2]; exact trivial, zg_Xno _ _ _ (by decide) (by decide)⟩ (fun alt ha vals hok' v ph' gH' gR => by
            have hlen : ρ.length = t.1.length := zL2.len gS
            have s1 : zg_S (ρ ++ vals) (t.1 ++ alt.1.map (fun q => (q.1, q.2.1, zD0))) := zg_S.news gS hok' rfl
            have hle1 : zLE ρ (ρ ++ vals) := fun k n hk => by
              rw [List.getElem?_append_left (List.getElem?_eq_some_iff.mp hk).1]
              exact hk
            have hv : ∀ k x, vals[k]? = some x → (ρ ++ vals)[t.1.length + 0 + k]? = some x := by
              intro k x hk
              rw [List.getElem?_append_right (by omega)]
              have e : t.1.length + 0 + k - ρ.length = k := by omega
              rw [e]
              exact hk
            obtain ⟨ρ', r1, r2⟩ := zfct_g (ρ := ρ) (n := t.1.length) (gs := gs) hle1 gS (zmS_E gS h1) s1 hok' hv
            have hr : ∀ k x, vals[k]? = some x → ρ'[t.1.length + k]? = some x := fun k x hk => r1 _ _ (hv k x hk)
            have hall : alt.2.2.1.length = ph'.length := zL2.len gH'
            refine hQ _ (List.mem_map.mpr ⟨alt, ha, rfl⟩) ρ' v ph' (hle1.trans r1) r2 ?_ ?_
            · show zL2 (zg_C φ ρ') (zsF t.1.length alt.2.2.1 W t.2.1) ph'
              have hlenA : alt.2.2.1.length = te.2.1.length := Nat.eq_of_beq_eq_true (zw_and (List.all_eq_true.mp hok2 alt ha)).1
              refine zL2.ofI (by rw [zsF_len]; omega) (fun i x c' hx hcp => ?_)
              have hi : i < te.2.1.length := by
                have := (List.getElem?_eq_some_iff.mp hx).1
                rw [zsF_len] at this
                omega
              obtain ⟨s1', s2, s3, s4, s5⟩ := st i _ (List.getElem?_eq_getElem hi)
              have hb := List.getElem?_eq_getElem hi
              generalize te.2.1[i] = b at *
              obtain ⟨c, hcA, hk⟩ := s5 alt ha
              obtain ⟨c'', hc'', gc⟩ := zL2.get gH' hcA
              rw [hcp] at hc''
              cases hc''
              have hiH : i < t.2.1.length := by omega
              obtain ⟨u, hu, gu⟩ := zL2.get gH (List.getElem?_eq_getElem hiH)
              unfold zFk1 at hk
              split at hk
              · next hW =>
                rw [zsF_in (zhas_g hW) hiH] at hx
                have eA : alt.2.2.1.getD i (99, 0, 0, [], []) = c := by rw [List.getD_eq_getElem?_getD, hcA]; rfl
                rw [eA] at hx
                cases hx
                obtain ⟨k1, k2⟩ := zw_and hk
                obtain ⟨a, haH, hmC⟩ := two i b hb (s4 hW)
                rw [List.getElem?_eq_getElem hiH] at haH
                cases haH
                refine zshC_g hr k1 (zgC_conv gc hu gu ?_)
                rcases zw_or k2 with k2 | k2
                · exact Or.inl (Nat.eq_of_beq_eq_true k2)
                · obtain ⟨k3, k2⟩ := zw_and k2
                  obtain ⟨k4, k5⟩ := zw_and k2
                  obtain ⟨z1, z2⟩ := zmC_ov hmC (Nat.eq_of_beq_eq_true k4)
                  refine Or.inr ⟨Nat.eq_of_beq_eq_true k3, z1, fun q hq => ?_⟩
                  obtain ⟨k6, k7⟩ := zw_and (List.all_eq_true.mp k5 q hq)
                  obtain ⟨p, hp, e⟩ := List.any_eq_true.mp k7
                  have e := zKeq_eq _ _ e
                  subst e
                  exact ⟨Nat.eq_of_beq_eq_true k6, z2 _ hp⟩
              · next hW =>
                rw [zsF_out (zhas_n hW), List.getElem?_eq_getElem hiH] at hx
                cases hx
                obtain ⟨k1, k2⟩ := zw_and hk
                have := zg_C8 (Nat.eq_of_beq_eq_true k1) gc
                rw [Nat.eq_of_beq_eq_true k2, hu] at this
                cases this
                exact gu.mono (hle1.trans r1)
            · show zg_R ρ' (alt.2.2.2.map (zshV t.1.length)) v
              have p2 := (zw_and (List.all_eq_true.mp hok2 alt ha)).2
              cases hret : alt.2.2.2 with
              | none =>
                rw [hret] at gR
                cases v with
                | none => trivial
                | some u => exact gR.elim
              | some a =>
                rw [hret] at gR p2
                cases v with
                | none => exact gR.elim
                | some u => exact zshV_g hr p2 gR)
          have k := ZW.deeper (Nat.le_of_ble_eq_true hd) (ZW.lsub m0 k)
          rw [← e3] at k
          exact k
/-- a heap that tells of some cells what G tells, of the others that they are as they were -/
def zfrL : Nat → zA_H → zA_H → Bool
  | _, [], [] => true
  | i, a :: as, b :: bs => (zfr i a || zCeq a b) && zfrL (i + 1) as bs
  | _, _, _ => false
theorem zfrL_to {φ : List z_C} {ρ : List Int} : ∀ {T G : zA_H} {i : Nat} {ph : List z_C}, zfrL i T G = true → (∀ k, φ[i + k]? = ph[k]?) → zL2 (zg_C φ ρ) G ph → zL2 (zg_C φ ρ) T ph
  | [], [], _, [], _, _, _ => trivial
  | a :: as, b :: bs, i, u :: ph, h, hφ, g => by
    obtain ⟨h1, h2⟩ := zw_and h
    refine ⟨?_, zfrL_to (i := i + 1) h2 (fun k => ?_) g.2⟩
    · rcases zw_or h1 with h1 | h1
      · exact zfr_g h1 (hφ 0)
      · rw [zCeq_eq _ _ h1]
        exact g.1
    · have := hφ (k + 1)
      rw [show i + (k + 1) = i + 1 + k by omega] at this
      exact this
  | [], [], _, _ :: _, _, _, g => g.elim
  | [], _ :: _, _, _, h, _, _ => by cases h
  | _ :: _, [], _, _, h, _, _ => by cases h
  | _ :: _, _ :: _, _, [], _, _, g => g.elim
theorem zfrL_back {φ : List z_C} {ρ : List Int} : ∀ {A G : zA_H} {i : Nat} {ph ph' : List z_C}, zfrL i A G = true → (∀ k, φ[i + k]? = ph[k]?) → zL2 (zg_C φ ρ) G ph → zL2 (zg_C φ ρ) A ph' → zL2 (zg_C φ ρ) G ph'
  | [], [], _, _, [], _, _, _, _ => trivial
  | a :: as, b :: bs, i, u :: ph, u' :: ph', h, hφ, g, g' => by
    obtain ⟨h1, h2⟩ := zw_and h
    refine ⟨?_, zfrL_back (i := i + 1) h2 (fun k => ?_) g.2 g'.2⟩
    · rcases zw_or h1 with h1 | h1
      · obtain ⟨k1, k2⟩ := zw_and h1
        have e := zg_C8 (Nat.eq_of_beq_eq_true k1) g'.1
        rw [Nat.eq_of_beq_eq_true (zw_and k2).1] at e
        have e2 : φ[i]? = some u := hφ 0
        rw [e2] at e
        cases e
        exact g.1
      · rw [← zCeq_eq _ _ h1]
        exact g'.1
    · have := hφ (k + 1)
      rw [show i + (k + 1) = i + 1 + k by omega] at this
      exact this
  | [], [], _, _, _ :: _, _, _, _, g => g.elim
  | [], _ :: _, _, _, _, h, _, _, _ => by cases h
  | _ :: _, [], _, _, _, h, _, _, _ => by cases h
  | _ :: _, _ :: _, _, [], _, _, _, g, _ => g.elim
  | _ :: _, _ :: _, _, _ :: _, [], _, _, _, g => g.elim
end
