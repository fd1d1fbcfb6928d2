/-! PART 07: what is known of a state: numbers as constants or names with bounds; the pure state that it speaks of. -/
/-- (0, c) the int c; (1, k) the int named k; (2, i) the reference i; (3, _) null; (4, c) the long c; (5, k) the long named k;
(6, q) an int within the bounds q; (7, q) the same, or -2000000000; (8, _) a long; (9, i) the reference i or null -/
abbrev zA_V : Type := Nat × Int
/-- (0, class, _, fields, _); (1, array class, length, [all], [but these]) -/
abbrev zA_C : Type := Nat × Nat × Nat × List zA_V × List (Nat × zA_V)
/-- how a name was made: nothing is said (0), or an operation of two values -/
abbrev zA_D : Type := Nat × zA_V × zA_V
abbrev zA_S : Type := List (Int × Int × zA_D)
abbrev zA_H : Type := List zA_C
abbrev zA_L : Type := List (Nat × zA_V)
/-- bounds, heap, locals, stack, cells made, slots made -/
abbrev zA_T : Type := zA_S × zA_H × zA_L × List zA_V × Nat × Nat
def zL2 {α β : Type} (R : α → β → Prop) : List α → List β → Prop
  | [], [] => True
  | a :: as, b :: bs => R a b ∧ zL2 R as bs
  | _, _ => False
theorem zL2.len {α β : Type} {R : α → β → Prop} : ∀ {as : List α} {bs : List β}, zL2 R as bs → as.length = bs.length
  | [], [], _ => rfl
  | _ :: _, _ :: _, h => congrArg (· + 1) (zL2.len h.2)
  | [], _ :: _, h => h.elim
  | _ :: _, [], h => h.elim
theorem zL2.get {α β : Type} {R : α → β → Prop} : ∀ {as : List α} {bs : List β} {i : Nat} {a : α}, zL2 R as bs → as[i]? = some a → ∃ b, bs[i]? = some b ∧ R a b
  | a :: as, b :: bs, 0, x, h, e => ⟨b, rfl, by cases e; exact h.1⟩
  | a :: as, b :: bs, i + 1, x, h, e => zL2.get (as := as) (bs := bs) (i := i) h.2 e
  | [], [], _, _, _, e => by cases e
  | [], _ :: _, _, _, h, _ => h.elim
  | _ :: _, [], _, _, h, _ => h.elim
theorem zL2.mono {α β : Type} {R R' : α → β → Prop} (hR : ∀ a b, R a b → R' a b) : ∀ {as : List α} {bs : List β}, zL2 R as bs → zL2 R' as bs
  | [], [], _ => trivial
  | _ :: _, _ :: _, h => ⟨hR _ _ h.1, zL2.mono hR h.2⟩
  | [], _ :: _, h => h.elim
  | _ :: _, [], h => h.elim
theorem zL2.set {α β : Type} {R : α → β → Prop} {a : α} {b : β} (hab : R a b) : ∀ {as : List α} {bs : List β} (i : Nat), zL2 R as bs → zL2 R (as.set i a) (bs.set i b)
  | [], [], _, _ => trivial
  | _ :: _, _ :: _, 0, h => ⟨hab, h.2⟩
  | _ :: _, _ :: _, i + 1, h => ⟨h.1, zL2.set hab i h.2⟩
  | [], _ :: _, _, h => h.elim
  | _ :: _, [], _, h => h.elim
theorem zL2.app {α β : Type} {R : α → β → Prop} {cs : List α} {ds : List β} (h2 : zL2 R cs ds) : ∀ {as : List α} {bs : List β}, zL2 R as bs → zL2 R (as ++ cs) (bs ++ ds)
  | [], [], _ => h2
  | _ :: _, _ :: _, h => ⟨h.1, zL2.app h2 h.2⟩
  | [], _ :: _, h => h.elim
  | _ :: _, [], h => h.elim
theorem zL2.setL {α β : Type} {R : α → β → Prop} {a : α} : ∀ {as : List α} {bs : List β} (i : Nat), zL2 R as bs → (∀ b, bs[i]? = some b → R a b) → zL2 R (as.set i a) bs
  | [], [], _, _, _ => trivial
  | _ :: _, b :: _, 0, h, hb => ⟨hb b rfl, h.2⟩
  | _ :: _, _ :: _, i + 1, h, hb => ⟨h.1, zL2.setL i h.2 (fun b e => hb b e)⟩
  | [], _ :: _, _, h, _ => h.elim
  | _ :: _, [], _, h, _ => h.elim
/-- the sum, difference, .. of two ints -/
def zw32 (z : Int) : Int := if -2147483648 ≤ z ∧ z ≤ 2147483647 then z else z.bmod 4294967296
theorem zw32_eq (z : Int) : zw32 z = z.bmod 4294967296 := by
  unfold zw32
  split
  · next h => exact (Int.bmod_eq_of_le (by omega) (by omega)).symm
  · rfl
/-- the bits of n, counted one by one -/
def zpopN : Nat → Nat → Nat
  | 0, _ => 0
  | k + 1, n => zpopN k n + n / 2 ^ k % 2
def zb (k : Nat) (a b : Int32) : Int32 := if k = 10 then a + b else if k = 11 then a - b else if k = 12 then a * b else if k = 13 then a &&& b else if k = 14 then a ||| b else if k = 15 then a ^^^ b else if k = 16 then a <<< (b &&& 31) else if k = 17 then a >>> (b &&& 31) else if k = 18 then (a.toUInt32 >>> (b.toUInt32 &&& Int32.toUInt32 31)).toInt32 else if k = 19 then a / b else if k = 21 then Int32.ofNat (zpopN 32 a.toBitVec.toNat) else a - a / b * b
def zb_c (k : Nat) (a b : Int) : Int := if k = 10 then zw32 (a + b) else if k = 11 then zw32 (a - b) else if k = 12 then zw32 (a * b) else if k = 22 then zw32 a else if k = 23 then a.bmod 256 else if k = 24 then a.bmod 65536 else (zb k (Int32.ofInt a) (Int32.ofInt b)).toInt
theorem zb_cEq (k : Nat) (a b : Int32) (hk : k ≤ 21 := by omega) : (zb k a b).toInt = zb_c k a.toInt b.toInt := by
  unfold zb_c
  split
  · next h => subst h; rw [zw32_eq]; exact Int32.toInt_add a b
  · split
    · next h => subst h; rw [zw32_eq]; exact Int32.toInt_sub a b
    · split
      · next h => subst h; rw [zw32_eq]; exact Int32.toInt_mul a b
      · rw [if_neg (by omega), if_neg (by omega), if_neg (by omega), Int32.ofInt_toInt, Int32.ofInt_toInt]
abbrev zI2 : Type := Int × Int
def zfull : zI2 := (-2147483648, 2147483647)
def zfullJ : zI2 := (-9223372036854775808, 9223372036854775807)
/-- the bounds that a wide value stands for -/
def zlo (a : zA_V) : Int := a.2 % 8589934592 - 4294967296
def zhi (a : zA_V) : Int := a.2 / 8589934592
def zIq (a : zA_V) : List zI2 := if a.1 = 6 then [(zlo a, zhi a)] else if a.1 = 7 then [(-2000000000, -2000000000), (zlo a, zhi a)] else []
def zg_W (a : zA_V) (v : Value) : Prop := 6 ≤ a.1 ∧ ((∃ x : Int32, v = .int x ∧ ∃ q ∈ zIq a, q.1 ≤ x.toInt ∧ x.toInt ≤ q.2) ∨ (a.1 = 8 ∧ ∃ x : Int64, v = .long x) ∨ (a.1 = 9 ∧ (v = .null ∨ v = .ref a.2.toNat)))
/-- what a value is, where the names mean ρ -/
def zg_V (ρ : List Int) (a : zA_V) (v : Value) : Prop :=
  (a.1 = 0 ∧ ∃ x : Int32, v = .int x ∧ x.toInt = a.2) ∨ (a.1 = 1 ∧ ∃ x : Int32, v = .int x ∧ ρ[a.2.toNat]? = some x.toInt) ∨ (a.1 = 2 ∧ v = .ref a.2.toNat) ∨ (a.1 = 3 ∧ v = .null) ∨
  (a.1 = 4 ∧ ∃ x : Int64, v = .long x ∧ x.toInt = a.2) ∨ (a.1 = 5 ∧ ∃ x : Int64, v = .long x ∧ ρ[a.2.toNat]? = some x.toInt) ∨ zg_W a v
/-- the number of a constant or a name -/
def zE (ρ : List Int) (a : zA_V) (n : Int) : Prop := ((a.1 = 0 ∨ a.1 = 4) ∧ n = a.2) ∨ ((a.1 = 1 ∨ a.1 = 5) ∧ ρ[a.2.toNat]? = some n)
def zg_D (ρ : List Int) (n : Int) (d : zA_D) : Prop := d.1 = 0 ∨ ∃ x y : Int, zE ρ d.2.1 x ∧ zE ρ d.2.2 y ∧ n = zb_c d.1 x y
def zg_E (ρ : List Int) (n : Int) (q : Int × Int × zA_D) : Prop := q.1 ≤ n ∧ n ≤ q.2.1 ∧ zg_D ρ n q.2.2
def zg_S (ρ : List Int) (S : zA_S) : Prop := zL2 (zg_E ρ) ρ S
def zLE (ρ ρ' : List Int) : Prop := ∀ (k : Nat) (n : Int), ρ[k]? = some n → ρ'[k]? = some n
theorem zLE.refl (ρ : List Int) : zLE ρ ρ := fun _ _ h => h
theorem zLE.trans {a b c : List Int} (h : zLE a b) (g : zLE b c) : zLE a c := fun k n q => g k n (h k n q)
theorem zLE.app (ρ : List Int) (n : Int) : zLE ρ (ρ ++ [n]) := fun k m h => by
  rw [List.getElem?_append_left (List.getElem?_eq_some_iff.mp h).1]
  exact h
theorem zE.mono {ρ ρ' : List Int} (h : zLE ρ ρ') {a : zA_V} {n : Int} (g : zE ρ a n) : zE ρ' a n := by
  rcases g with g | ⟨g, e⟩
  · exact Or.inl g
  · exact Or.inr ⟨g, h _ _ e⟩
theorem zg_D.mono {ρ ρ' : List Int} (h : zLE ρ ρ') {n : Int} {d : zA_D} (g : zg_D ρ n d) : zg_D ρ' n d := by
  rcases g with g | ⟨x, y, g1, g2, e⟩
  · exact Or.inl g
  · exact Or.inr ⟨x, y, g1.mono h, g2.mono h, e⟩
theorem zg_V.mono {ρ ρ' : List Int} (h : zLE ρ ρ') {a : zA_V} {v : Value} (g : zg_V ρ a v) : zg_V ρ' a v := by
  rcases g with g | ⟨g, x, e1, e2⟩ | g | g | g | ⟨g, x, e1, e2⟩ | g
  · exact Or.inl g
  · exact Or.inr (Or.inl ⟨g, x, e1, h _ _ e2⟩)
  · exact Or.inr (Or.inr (Or.inl g))
  · exact Or.inr (Or.inr (Or.inr (Or.inl g)))
  · exact Or.inr (Or.inr (Or.inr (Or.inr (Or.inl g))))
  · exact Or.inr (Or.inr (Or.inr (Or.inr (Or.inr (Or.inl ⟨g, x, e1, h _ _ e2⟩)))))
  · exact Or.inr (Or.inr (Or.inr (Or.inr (Or.inr (Or.inr g)))))
/-- an int -/
def zIs (a : zA_V) : Bool := a.1 == 0 || a.1 == 1
def zIsJ (a : zA_V) : Bool := a.1 == 4 || a.1 == 5
theorem zg_int {ρ : List Int} {a : zA_V} {v : Value} (h : zIs a = true) (g : zg_V ρ a v) : ∃ x : Int32, v = .int x ∧ zE ρ a x.toInt := by
  simp only [zIs, Bool.or_eq_true, beq_iff_eq] at h
  rcases g with ⟨g, x, e1, e2⟩ | ⟨g, x, e1, e2⟩ | ⟨g, -⟩ | ⟨g, -⟩ | ⟨g, -⟩ | ⟨g, -⟩ | ⟨g, -⟩
  · exact ⟨x, e1, Or.inl ⟨Or.inl g, e2⟩⟩
  · exact ⟨x, e1, Or.inr ⟨Or.inl g, e2⟩⟩
  all_goals omega
theorem zg_long {ρ : List Int} {a : zA_V} {v : Value} (h : zIsJ a = true) (g : zg_V ρ a v) : ∃ x : Int64, v = .long x ∧ zE ρ a x.toInt := by
  simp only [zIsJ, Bool.or_eq_true, beq_iff_eq] at h
  rcases g with ⟨g, -⟩ | ⟨g, -⟩ | ⟨g, -⟩ | ⟨g, -⟩ | ⟨g, x, e1, e2⟩ | ⟨g, x, e1, e2⟩ | ⟨g, -⟩
  · omega
  · omega
  · omega
  · omega
  · exact ⟨x, e1, Or.inl ⟨Or.inr g, e2⟩⟩
  · exact ⟨x, e1, Or.inr ⟨Or.inr g, e2⟩⟩
  · omega
theorem zg_ref {ρ : List Int} {a : zA_V} {v : Value} (h : a.1 = 2) (g : zg_V ρ a v) : v = .ref a.2.toNat := by
  rcases g with ⟨g, -⟩ | ⟨g, -⟩ | ⟨g, e⟩ | ⟨g, -⟩ | ⟨g, -⟩ | ⟨g, -⟩ | ⟨g, -⟩
  · omega
  · omega
  · exact e
  all_goals omega
theorem zg_ofI {ρ : List Int} {c : Int} {x : Int32} (h : x.toInt = c) : zg_V ρ (0, c) (.int x) := Or.inl ⟨rfl, x, rfl, h⟩
theorem zg_ofJ {ρ : List Int} {c : Int} {x : Int64} (h : x.toInt = c) : zg_V ρ (4, c) (.long x) := Or.inr (Or.inr (Or.inr (Or.inr (Or.inl ⟨rfl, x, rfl, h⟩))))
theorem zg_ofK {ρ : List Int} {k : Nat} {x : Int32} (h : ρ[k]? = some x.toInt) : zg_V ρ (1, (k : Int)) (.int x) := Or.inr (Or.inl ⟨rfl, x, rfl, by simpa using h⟩)
theorem zg_ofKJ {ρ : List Int} {k : Nat} {x : Int64} (h : ρ[k]? = some x.toInt) : zg_V ρ (5, (k : Int)) (.long x) := Or.inr (Or.inr (Or.inr (Or.inr (Or.inr (Or.inl ⟨rfl, x, rfl, by simpa using h⟩)))))
theorem zg_ofR {ρ : List Int} {i : Nat} : zg_V ρ (2, (i : Int)) (.ref i) := Or.inr (Or.inr (Or.inl ⟨rfl, by simp⟩))
theorem zL2.getR {α β : Type} {R : α → β → Prop} : ∀ {as : List α} {bs : List β} {i : Nat} {b : β}, zL2 R as bs → bs[i]? = some b → ∃ a, as[i]? = some a ∧ R a b
  | a :: as, b :: bs, 0, x, h, e => ⟨a, rfl, by cases e; exact h.1⟩
  | a :: as, b :: bs, i + 1, x, h, e => zL2.getR (as := as) (bs := bs) (i := i) h.2 e
  | [], [], _, _, _, e => by cases e
  | [], _ :: _, _, _, h, _ => h.elim
  | _ :: _, [], _, _, h, _ => h.elim
/-- the bounds of a constant or a name -/
def zat (S : zA_S) (k : Nat) : Option (Int × Int) := match S[k]? with
  | some q => some (q.1, q.2.1)
  | none => none
theorem zat_in {ρ : List Int} {S : zA_S} {k : Nat} {n : Int} {q : Int × Int} (hS : zg_S ρ S) (h : zat S k = some q) (e : ρ[k]? = some n) : q.1 ≤ n ∧ n ≤ q.2 := by
  unfold zat at h
  split at h
  · next u hu =>
    obtain ⟨n', e1, e2⟩ := zL2.getR hS hu
    rw [e] at e1
    cases e1
    cases h
    exact ⟨e2.1, e2.2.1⟩
  · cases h
def zr (S : zA_S) (a : zA_V) : Option (Int × Int) := if a.1 = 0 then some (a.2, a.2) else if a.1 = 1 then zat S a.2.toNat else if a.1 = 4 then some (a.2, a.2) else if a.1 = 5 then zat S a.2.toNat else none
theorem zr_in {ρ : List Int} {S : zA_S} {a : zA_V} {n : Int} {q : Int × Int} (hS : zg_S ρ S) (he : zE ρ a n) (h : zr S a = some q) : q.1 ≤ n ∧ n ≤ q.2 := by
  have key : ∀ {k : Nat}, zat S k = some q → ρ[k]? = some n → q.1 ≤ n ∧ n ≤ q.2 := fun h1 h2 => zat_in hS h1 h2
  unfold zr at h
  rcases he with ⟨h1, rfl⟩ | ⟨h1, h2⟩
  · split at h
    · cases h; exact ⟨Int.le_refl _, Int.le_refl _⟩
    · split at h
      · omega
      · split at h
        · cases h; exact ⟨Int.le_refl _, Int.le_refl _⟩
        · omega
  · split at h
    · omega
    · split at h
      · exact key h h2
      · split at h
        · omega
        · split at h
          · exact key h h2
          · omega
/-- a name with one value is that constant -/
def zn (S : zA_S) (a : zA_V) : zA_V := if a.1 = 1 then (match zat S a.2.toNat with | some q => if q.1 = q.2 then (0, q.1) else a | none => a) else if a.1 = 5 then (match zat S a.2.toNat with | some q => if q.1 = q.2 then (4, q.1) else a | none => a) else a
theorem zn_g {ρ : List Int} {S : zA_S} {a : zA_V} {v : Value} (hS : zg_S ρ S) (g : zg_V ρ a v) : zg_V ρ (zn S a) v := by
  have key : ∀ {k : Nat} {q : Int × Int} {n : Int}, zat S k = some q → ρ[k]? = some n → q.1 = q.2 → n = q.1 := by
    intro k q n h1 h2 h3
    have e2 := zat_in hS h1 h2
    omega
  unfold zn
  split
  · next h1 =>
    split
    · next q hq =>
      split
      · next he =>
        rcases g with ⟨g, -⟩ | ⟨g, x, e1, e2⟩ | ⟨g, -⟩ | ⟨g, -⟩ | ⟨g, -⟩ | ⟨g, -⟩ | ⟨g, -⟩
        · omega
        · exact Or.inl ⟨rfl, x, e1, key hq e2 he⟩
        all_goals omega
      · exact g
    · exact g
  · split
    · next h1 =>
      split
      · next q hq =>
        split
        · next he =>
          rcases g with ⟨g, -⟩ | ⟨g, -⟩ | ⟨g, -⟩ | ⟨g, -⟩ | ⟨g, -⟩ | ⟨g, x, e1, e2⟩ | ⟨g, -⟩
          · omega
          · omega
          · omega
          · omega
          · omega
          · exact Or.inr (Or.inr (Or.inr (Or.inr (Or.inl ⟨rfl, x, e1, key hq e2 he⟩))))
          · omega
        · exact g
      · exact g
    · exact g
/-- new bounds of a name -/
def zmo (q : Int × Int) : zA_S → Nat → zA_S
  | [], _ => []
  | u :: S, 0 => (q.1, q.2, u.2.2) :: S
  | u :: S, i + 1 => u :: zmo q S i
def zrf (S : zA_S) (a : zA_V) (q : Int × Int) : zA_S := if a.1 = 1 then zmo q S a.2.toNat else if a.1 = 5 then zmo q S a.2.toNat else S
theorem zrf_g {ρ : List Int} {S : zA_S} {a : zA_V} {n : Int} {q : Int × Int} (hS : zg_S ρ S) (he : zE ρ a n) (h1 : q.1 ≤ n) (h2 : n ≤ q.2) : zg_S ρ (zrf S a q) := by
  have hset : ∀ {as : List Int} {bs : zA_S} (i : Nat), zL2 (zg_E ρ) as bs → as[i]? = some n → zL2 (zg_E ρ) as (zmo q bs i) := by
    intro as
    induction as with
    | nil => intro bs i _ h; cases h
    | cons x xs ih =>
      intro bs i h h4
      cases bs with
      | nil => exact h.elim
      | cons y ys =>
        cases i with
        | zero => cases h4; exact ⟨⟨h1, h2, h.1.2.2⟩, h.2⟩
        | succ i => exact ⟨h.1, ih i h.2 h4⟩
  have key : ρ[a.2.toNat]? = some n → zg_S ρ (zmo q S a.2.toNat) := fun h3 => hset _ hS h3
  unfold zrf
  rcases he with ⟨h3, -⟩ | ⟨h3, h4⟩
  · rw [if_neg (by omega), if_neg (by omega)]
    exact hS
  · rcases h3 with h3 | h3
    · rw [if_pos h3]; exact key h4
    · rw [if_neg (by omega), if_pos h3]; exact key h4
/-- the bounds where a < b -/
def zLT (S : zA_S) (a b : zA_V) : List zA_S := match zr S a, zr S b with
  | some p, some q => if p.1 < q.2 then [zrf (zrf S a (p.1, min p.2 (q.2 - 1))) b (max q.1 (p.1 + 1), q.2)] else []
  | _, _ => [S]
theorem zLT_g {ρ : List Int} {S : zA_S} {a b : zA_V} {n1 n2 : Int} (hS : zg_S ρ S) (h1 : zE ρ a n1) (h2 : zE ρ b n2) (h : n1 < n2) : ∃ S', S' ∈ zLT S a b ∧ zg_S ρ S' := by
  unfold zLT
  split
  · next p q e1 e2 =>
    have g1 := zr_in hS h1 e1
    have g2 := zr_in hS h2 e2
    rw [if_pos (by omega)]
    exact ⟨_, List.mem_singleton.mpr rfl, zrf_g (zrf_g hS h1 g1.1 (by have := g2.2; omega)) h2 (by have := g1.1; have := g2.1; omega) g2.2⟩
  · exact ⟨S, List.mem_singleton.mpr rfl, hS⟩
/-- the bounds where a ≥ b -/
def zGE (S : zA_S) (a b : zA_V) : List zA_S := match zr S a, zr S b with
  | some p, some q => if q.1 ≤ p.2 then [zrf (zrf S a (max p.1 q.1, p.2)) b (q.1, min q.2 p.2)] else []
  | _, _ => [S]
theorem zGE_g {ρ : List Int} {S : zA_S} {a b : zA_V} {n1 n2 : Int} (hS : zg_S ρ S) (h1 : zE ρ a n1) (h2 : zE ρ b n2) (h : n2 ≤ n1) : ∃ S', S' ∈ zGE S a b ∧ zg_S ρ S' := by
  unfold zGE
  split
  · next p q e1 e2 =>
    have g1 := zr_in hS h1 e1
    have g2 := zr_in hS h2 e2
    rw [if_pos (by omega)]
    exact ⟨_, List.mem_singleton.mpr rfl, zrf_g (zrf_g hS h1 (by have := g2.1; omega) g1.2) h2 g2.1 (by have := g1.2; omega)⟩
  · exact ⟨S, List.mem_singleton.mpr rfl, hS⟩
def zEQ (S : zA_S) (a b : zA_V) : List zA_S := match zr S a, zr S b with
  | some p, some q => if max p.1 q.1 ≤ min p.2 q.2 then [zrf (zrf S a (max p.1 q.1, min p.2 q.2)) b (max p.1 q.1, min p.2 q.2)] else []
  | _, _ => [S]
theorem zEQ_g {ρ : List Int} {S : zA_S} {a b : zA_V} {n1 n2 : Int} (hS : zg_S ρ S) (h1 : zE ρ a n1) (h2 : zE ρ b n2) (h : n1 = n2) : ∃ S', S' ∈ zEQ S a b ∧ zg_S ρ S' := by
  unfold zEQ
  split
  · next p q e1 e2 =>
    have g1 := zr_in hS h1 e1
    have g2 := zr_in hS h2 e2
    subst h
    have m1 : max p.1 q.1 ≤ n1 := by omega
    have m2 : n1 ≤ min p.2 q.2 := by omega
    rw [if_pos (by omega)]
    exact ⟨_, List.mem_singleton.mpr rfl, zrf_g (zrf_g hS h1 m1 m2) h2 m1 m2⟩
  · exact ⟨S, List.mem_singleton.mpr rfl, hS⟩
def zNE (S : zA_S) (a b : zA_V) : List zA_S := if a = b then [] else zLT S a b ++ zLT S b a
theorem zE_fun {ρ : List Int} {a : zA_V} {n m : Int} (h : zE ρ a n) (g : zE ρ a m) : n = m := by
  rcases h with ⟨h1, h2⟩ | ⟨h1, h2⟩ <;> rcases g with ⟨g1, g2⟩ | ⟨g1, g2⟩
  · omega
  · omega
  · omega
  · rw [h2] at g2; cases g2; rfl
theorem zNE_g {ρ : List Int} {S : zA_S} {a b : zA_V} {n1 n2 : Int} (hS : zg_S ρ S) (h1 : zE ρ a n1) (h2 : zE ρ b n2) (h : n1 ≠ n2) : ∃ S', S' ∈ zNE S a b ∧ zg_S ρ S' := by
  unfold zNE
  have hne : ¬ a = b := fun e => h (zE_fun (by rw [e] at h1; exact h1) h2)
  rw [if_neg hne]
  rcases Int.lt_or_gt_of_ne h with h | h
  · obtain ⟨S', m, g⟩ := zLT_g hS h1 h2 h
    exact ⟨S', List.mem_append_left _ m, g⟩
  · obtain ⟨S', m, g⟩ := zLT_g hS h2 h1 h
    exact ⟨S', List.mem_append_right _ m, g⟩
/-- all values of a name, one by one -/
def zSp (S : zA_S) (a : zA_V) : Option (List zA_S) := match zr S a with
  | some q => if q.2 - q.1 ≤ 63 then some ((List.range (q.2 - q.1 + 1).toNat).map (fun i : Nat => zrf S a (q.1 + (i : Int), q.1 + (i : Int)))) else none
  | none => none
theorem zSp_g {ρ : List Int} {S : zA_S} {a : zA_V} {n : Int} {l : List zA_S} (hS : zg_S ρ S) (h1 : zE ρ a n) (h : zSp S a = some l) : ∃ S', S' ∈ l ∧ zg_S ρ S' := by
  unfold zSp at h
  split at h
  · next q e1 =>
    split at h
    · cases h
      have g1 := zr_in hS h1 e1
      refine ⟨zrf S a (q.1 + ((n - q.1).toNat : Int), q.1 + ((n - q.1).toNat : Int)), List.mem_map.mpr ⟨(n - q.1).toNat, List.mem_range.mpr (by omega), rfl⟩, zrf_g hS h1 (by show q.1 + ((n - q.1).toNat : Int) ≤ n; omega) (by show n ≤ q.1 + ((n - q.1).toNat : Int); omega)⟩
    · cases h
  · cases h
/-- a new name -/
def zD0 : zA_D := (0, (3, 0), (3, 0))
theorem zg_S.mono {ρ ρ' r : List Int} {S : zA_S} (hS : zL2 (zg_E ρ) r S) (hle : zLE ρ ρ') : zL2 (zg_E ρ') r S := zL2.mono (fun _ _ h => ⟨h.1, h.2.1, h.2.2.mono hle⟩) hS
theorem zg_S.pushD {ρ : List Int} {S : zA_S} (hS : zg_S ρ S) {n : Int} {q : Int × Int} {D : zA_D} (h1 : q.1 ≤ n) (h2 : n ≤ q.2) (h3 : zg_D ρ n D) : zg_S (ρ ++ [n]) (S ++ [(q.1, q.2, D)]) :=
  zL2.app (cs := [n]) (ds := [(q.1, q.2, D)]) ⟨⟨h1, h2, h3.mono (zLE.app ρ n)⟩, trivial⟩ (zg_S.mono hS (zLE.app ρ n))
theorem zg_S.push {ρ : List Int} {S : zA_S} (hS : zg_S ρ S) {n : Int} {q : Int × Int} (h1 : q.1 ≤ n) (h2 : n ≤ q.2) : zg_S (ρ ++ [n]) (S ++ [(q.1, q.2, zD0)]) := hS.pushD h1 h2 (Or.inl rfl)
/-- the name that was made so before -/
def zfd (d : zA_D) : zA_S → Nat → Option Nat
  | [], _ => none
  | q :: S, i => match Nat.beq q.2.2.1 d.1 with
    | false => zfd d S (i + 1)
    | true => if q.2.2 = d then some i else zfd d S (i + 1)
theorem zfd_at {d : zA_D} : ∀ {S : zA_S} {i j : Nat}, zfd d S i = some j → ∃ q, i ≤ j ∧ S[j - i]? = some q ∧ q.2.2 = d
  | [], _, _, h => by cases h
  | q :: S, i, j, h => by
    unfold zfd at h
    have rec1 : zfd d S (i + 1) = some j → ∃ q', i ≤ j ∧ (q :: S)[j - i]? = some q' ∧ q'.2.2 = d := by
      intro h
      obtain ⟨q', h1, h2, h3⟩ := zfd_at h
      have e : j - i = (j - (i + 1)) + 1 := by omega
      exact ⟨q', by omega, by rw [e]; exact h2, h3⟩
    split at h
    · exact rec1 h
    · split at h
      · next e => cases h; exact ⟨q, Nat.le_refl _, by rw [Nat.sub_self]; rfl, e⟩
      · exact rec1 h
theorem zfd_g {ρ : List Int} {S : zA_S} {d : zA_D} {j : Nat} {n : Int} (hS : zg_S ρ S) (h : zfd d S 0 = some j) (hd : d.1 ≠ 0) (hn : ∀ x y : Int, zE ρ d.2.1 x → zE ρ d.2.2 y → n = zb_c d.1 x y) : ρ[j]? = some n := by
  obtain ⟨q, -, h2, h3⟩ := zfd_at h
  obtain ⟨m, e1, e2⟩ := zL2.getR hS h2
  rcases e2.2.2 with h0 | ⟨x, y, g1, g2, e⟩
  · rw [h3] at h0; exact absurd h0 hd
  · rw [h3] at g1 g2 e
    rw [hn x y g1 g2, ← e]
    simpa using e1
/-- a wide value by its names -/
def zwd1 (S : zA_S) (q : zI2) : zA_S × zA_V := if q.1 = q.2 then (S, (0, q.1)) else (S ++ [(q.1, q.2, zD0)], (1, (S.length : Int)))
def zwd (S : zA_S) (a : zA_V) : List (zA_S × zA_V) := if a.1 < 6 then [(S, a)] else if a.1 < 8 then (zIq a).map (zwd1 S) else if a.1 = 8 then [(S ++ [(zfullJ.1, zfullJ.2, zD0)], (5, (S.length : Int)))] else if a.1 = 9 then [(S, (3, 0)), (S, (2, a.2))] else []
theorem zg_S.at {ρ : List Int} {S : zA_S} (hS : zg_S ρ S) (n : Int) : (ρ ++ [n])[S.length]? = some n := by
  have := zL2.len hS
  rw [← this, List.getElem?_append_right (Nat.le_refl _)]
  simp
theorem zwd_g {ρ : List Int} {S : zA_S} {a : zA_V} {v : Value} (hS : zg_S ρ S) (g : zg_V ρ a v) : ∃ p ∈ zwd S a, ∃ ρ', zLE ρ ρ' ∧ zg_S ρ' p.1 ∧ zg_V ρ' p.2 v := by
  unfold zwd
  split
  · exact ⟨_, List.mem_singleton.mpr rfl, ρ, zLE.refl ρ, hS, g⟩
  · next h6 =>
    have gw : zg_W a v := by
      rcases g with ⟨g, -⟩ | ⟨g, -⟩ | ⟨g, -⟩ | ⟨g, -⟩ | ⟨g, -⟩ | ⟨g, -⟩ | g
      · omega
      · omega
      · omega
      · omega
      · omega
      · omega
      · exact g
    rcases gw.2 with ⟨x, rfl, q, hq, h1, h2⟩ | ⟨h8, x, rfl⟩ | ⟨h9, h⟩
    · have h8 : a.1 < 8 := by
        unfold zIq at hq
        split at hq
        · omega
        · split at hq
          · omega
          · cases hq
      rw [if_pos h8]
      refine ⟨_, List.mem_map.mpr ⟨q, hq, rfl⟩, ?_⟩
      unfold zwd1
      split
      · exact ⟨ρ, zLE.refl ρ, hS, zg_ofI (by omega)⟩
      · exact ⟨_, zLE.app ρ x.toInt, hS.push h1 h2, zg_ofK (hS.at _)⟩
    · rw [if_neg (by omega), if_pos h8]
      have h1 := Int64.le_toInt x
      have h2 := Int64.toInt_lt x
      exact ⟨_, List.mem_singleton.mpr rfl, _, zLE.app ρ x.toInt, hS.push (q := zfullJ) (by show -9223372036854775808 ≤ _; omega) (by show _ ≤ 9223372036854775807; omega), zg_ofKJ (hS.at _)⟩
    · rw [if_neg (by omega), if_neg (by omega), if_pos h9]
      rcases h with rfl | rfl
      · exact ⟨_, List.mem_cons_self, ρ, zLE.refl ρ, hS, Or.inr (Or.inr (Or.inr (Or.inl ⟨rfl, rfl⟩)))⟩
      · exact ⟨_, List.mem_cons_of_mem _ List.mem_cons_self, ρ, zLE.refl ρ, hS, Or.inr (Or.inr (Or.inl ⟨rfl, rfl⟩))⟩
/-- a value of this kind -/
def zfw (S : zA_S) (v w : zA_V) : Bool := if w.1 < 8 then (zIs v && (match zr S v with
    | some p => (zIq w).any (fun q => decide (q.1 ≤ p.1 ∧ p.2 ≤ q.2))
    | none => false)) else if w.1 = 8 then zIsJ v else false
theorem zfw_g {ρ : List Int} {S : zA_S} {v w : zA_V} {u : Value} (hS : zg_S ρ S) (g : zg_V ρ v u) (h6 : 6 ≤ w.1) (h : zfw S v w = true) : zg_V ρ w u := by
  unfold zfw at h
  refine Or.inr (Or.inr (Or.inr (Or.inr (Or.inr (Or.inr ⟨h6, ?_⟩)))))
  split at h
  · simp only [Bool.and_eq_true] at h
    obtain ⟨h1, h2⟩ := h
    obtain ⟨x, rfl, ex⟩ := zg_int h1 g
    split at h2
    · next p hp =>
      obtain ⟨q, hq, hd⟩ := List.any_eq_true.mp h2
      have b := zr_in hS ex hp
      have hd := of_decide_eq_true hd
      exact Or.inl ⟨x, rfl, q, hq, by omega, by omega⟩
    · cases h2
  · split at h
    · next h8 =>
      obtain ⟨x, rfl, -⟩ := zg_long h g
      exact Or.inr (Or.inl ⟨h8, x, rfl⟩)
    · cases h
/-- what is known of places that a name tells: the key 1000000 + k is the place that the name k tells -/
def zg_Y (ρ : List Int) (n : Nat) (ov : List (Nat × zA_V)) (el : Nat → Value) : Prop := ∀ q ∈ ov, 1000000 ≤ q.1 → ∃ m : Int, ρ[q.1 - 1000000]? = some m ∧ (0 ≤ m → m < n → zg_V ρ q.2 (el m.toNat))
theorem zg_Y.mono {ρ ρ' : List Int} (h : zLE ρ ρ') {n : Nat} {ov : List (Nat × zA_V)} {el : Nat → Value} (g : zg_Y ρ n ov el) : zg_Y ρ' n ov el := fun q hq hk => by
  obtain ⟨m, h1, h2⟩ := g q hq hk
  exact ⟨m, h _ _ h1, fun a b => (h2 a b).mono h⟩
theorem zg_Y.nil (ρ : List Int) (n : Nat) (el : Nat → Value) : zg_Y ρ n [] el := fun q h => by cases h
/-- fields that are what they are in a cell of φ -/
def zg_Z (φ : List z_C) (ov : List (Nat × zA_V)) (fs : List Value) : Prop := ∀ q ∈ ov, q.2.1 = 8 ∧ ∃ (n : Nat) (gs : List Value), φ[q.2.2.toNat]? = some (.inr (n, gs)) ∧ fs[q.1]? = gs[q.1]?
theorem zg_Z.nil (φ : List z_C) (fs : List Value) : zg_Z φ [] fs := fun q h => by cases h
/-- (8, i, n, [w], places) with n above 0: it is an array of n values within w, too, or as the places have it -/
def zg_8 (ρ : List Int) (a : zA_C) (c : z_C) : Prop := 0 < a.2.2.1 → ((∃ f : Nat → Int32, c = .inl (0, a.2.2.1, z_I f) ∧ (a.2.2.2.1.headD (3, 0)).1 ≠ 8 ∧ (∀ j, j < a.2.2.1 → zg_V ρ ((a.2.2.2.2.lookup j).getD (a.2.2.2.1.headD (3, 0))) (.int (f j))) ∧ zg_Y ρ a.2.2.1 a.2.2.2.2 (fun j => .int (f j))) ∨ (∃ f : Nat → Int64, c = .inl (1, a.2.2.1, z_J f) ∧ (a.2.2.2.1.headD (3, 0)).1 = 8 ∧ (∀ j, j < a.2.2.1 → zg_V ρ ((a.2.2.2.2.lookup j).getD (a.2.2.2.1.headD (3, 0))) (.long (f j))) ∧ zg_Y ρ a.2.2.1 a.2.2.2.2 (fun j => .long (f j))))
theorem zg_8.mono {ρ ρ' : List Int} (h : zLE ρ ρ') {a : zA_C} {c : z_C} (g : zg_8 ρ a c) : zg_8 ρ' a c := fun h0 => by
  rcases g h0 with ⟨f, e, k, g, gy⟩ | ⟨f, e, k, g, gy⟩
  · exact Or.inl ⟨f, e, k, fun j hj => (g j hj).mono h, gy.mono h⟩
  · exact Or.inr ⟨f, e, k, fun j hj => (g j hj).mono h, gy.mono h⟩
theorem zg_8.nil (ρ : List Int) {a : zA_C} (c : z_C) (h : a.2.2.1 = 0) : zg_8 ρ a c := fun h0 => by omega
/-- a cell; (8, i ..) is the cell i of φ, whatever it is -/
def zg_C (φ : List z_C) (ρ : List Int) (a : zA_C) (c : z_C) : Prop :=
  (a.1 = 8 ∧ φ[a.2.1]? = some c ∧ zg_8 ρ a c) ∨
  (a.1 = 0 ∧ ∃ fs, c = .inr (a.2.1, fs) ∧ zL2 (zg_V ρ) a.2.2.2.1 fs ∧ zg_Z φ a.2.2.2.2 fs) ∨
  (a.1 = 1 ∧ a.2.1 = 0 ∧ ∃ f : Nat → Int32, c = .inl (0, a.2.2.1, z_I f) ∧ (∀ j, j < a.2.2.1 → zg_V ρ ((a.2.2.2.2.lookup j).getD (a.2.2.2.1.headD (3, 0))) (.int (f j))) ∧ zg_Y ρ a.2.2.1 a.2.2.2.2 (fun j => .int (f j))) ∨
  (a.1 = 1 ∧ a.2.1 = 1 ∧ ∃ f : Nat → Int64, c = .inl (1, a.2.2.1, z_J f) ∧ (∀ j, j < a.2.2.1 → zg_V ρ ((a.2.2.2.2.lookup j).getD (a.2.2.2.1.headD (3, 0))) (.long (f j))) ∧ zg_Y ρ a.2.2.1 a.2.2.2.2 (fun j => .long (f j))) ∨
  (a.1 = 1 ∧ a.2.1 = 2 ∧ ∃ f : Nat → Option Nat, c = .inl (2, a.2.2.1, z_O f) ∧ (∀ j, j < a.2.2.1 → zg_V ρ ((a.2.2.2.2.lookup j).getD (a.2.2.2.1.headD (3, 0))) (z_rf (f j))) ∧ zg_Y ρ a.2.2.1 a.2.2.2.2 (fun j => z_rf (f j)))
theorem zg_C.mono {φ : List z_C} {ρ ρ' : List Int} (h : zLE ρ ρ') {a : zA_C} {c : z_C} (g : zg_C φ ρ a c) : zg_C φ ρ' a c := by
  rcases g with g | ⟨h1, fs, e, g⟩ | ⟨h1, h2, f, e, g, gy⟩ | ⟨h1, h2, f, e, g, gy⟩ | ⟨h1, h2, f, e, g, gy⟩
  · exact Or.inl ⟨g.1, g.2.1, g.2.2.mono h⟩
  · exact Or.inr (Or.inl ⟨h1, fs, e, zL2.mono (fun _ _ => zg_V.mono h) g.1, g.2⟩)
  · exact Or.inr (Or.inr (Or.inl ⟨h1, h2, f, e, fun j hj => (g j hj).mono h, gy.mono h⟩))
  · exact Or.inr (Or.inr (Or.inr (Or.inl ⟨h1, h2, f, e, fun j hj => (g j hj).mono h, gy.mono h⟩)))
  · exact Or.inr (Or.inr (Or.inr (Or.inr ⟨h1, h2, f, e, fun j hj => (g j hj).mono h, gy.mono h⟩)))
def zg_L (ρ : List Int) (L : zA_L) (lv : List (Nat × Value)) : Prop := zL2 (fun a c => a.1 = c.1 ∧ zg_V ρ a.2 c.2) L lv
/-- the script: its first ints are the first names (from 1000 on: nothing is said of it; 3000000: from a place on, that is the name 6, six of them) -/
def zg_X (ρ : List Int) (XL : Nat) (X : zx_X) : Prop := (XL < 1000 → X.1 = XL ∧ ∀ j, j < XL → ρ[j]? = some (X.2 j).toInt) ∧
  (XL = 3000000 → ∃ i : Nat, ρ[6]? = some (i : Int) ∧ i + 6 ≤ X.1 ∧ X.1 ≤ 4000 ∧ ∀ j, j < 6 → ρ[j]? = some (X.2 (i + j)).toInt)
theorem zg_X.mono {ρ ρ' : List Int} {XL : Nat} {X : zx_X} (h : zLE ρ ρ') (g : zg_X ρ XL X) : zg_X ρ' XL X :=
  ⟨fun hx => ⟨(g.1 hx).1, fun j hj => h _ _ ((g.1 hx).2 j hj)⟩, fun hx => by
    obtain ⟨i, h1, h2, h3, h4⟩ := g.2 hx
    exact ⟨i, h _ _ h1, h2, h3, fun j hj => h _ _ (h4 j hj)⟩⟩
theorem zg_Xno (ρ : List Int) (XL : Nat) (X : zx_X) (h1 : ¬ XL < 1000) (h2 : XL ≠ 3000000) : zg_X ρ XL X := ⟨fun h => absurd h h1, fun h => absurd h h2⟩
def zg_T (XL : Nat) (X : zx_X) (φ : List z_C) (ρ : List Int) (t : zA_T) (ph : List z_C) (lv : List (Nat × Value)) (st : List Value) : Prop :=
  zg_S ρ t.1 ∧ zL2 (zg_C φ ρ) t.2.1 ph ∧ zg_L ρ t.2.2.1 lv ∧ zL2 (zg_V ρ) t.2.2.2.1 st ∧ zg_X ρ XL X
theorem zg_L.look {ρ : List Int} : ∀ {L : zA_L} {lv : List (Nat × Value)} {i : Nat} {a : zA_V}, zg_L ρ L lv → L.lookup i = some a → ∃ v, lv.lookup i = some v ∧ zg_V ρ a v
  | [], [], _, _, _, e => by cases e
  | (j, x) :: L, (k, v) :: lv, i, a, h, e => by
    obtain ⟨⟨h1, h2⟩, h3⟩ := h
    have h1 : j = k := h1
    subst h1
    rw [List.lookup_cons] at e ⊢
    cases hij : i == j with
    | true =>
      rw [hij] at e
      have e : x = a := Option.some.inj e
      subst e
      exact ⟨v, rfl, h2⟩
    | false =>
      rw [hij] at e
      exact zg_L.look h3 e
  | [], _ :: _, _, _, h, _ => h.elim
  | _ :: _, [], _, _, h, _ => h.elim
theorem zg_cat {ρ : List Int} {a : zA_V} {v : Value} (g : zg_V ρ a v) : v.category = if a.1 = 4 ∨ a.1 = 5 ∨ a.1 = 8 then 2 else 1 := by
  rcases g with ⟨g, x, e1, -⟩ | ⟨g, x, e1, -⟩ | ⟨g, e1⟩ | ⟨g, e1⟩ | ⟨g, x, e1, -⟩ | ⟨g, x, e1, -⟩ | ⟨g, ⟨x, e1, q, hq, -⟩ | ⟨g8, x, e1⟩ | ⟨g9, e1 | e1⟩⟩ <;> subst e1
  · rw [if_neg (by omega)]; rfl
  · rw [if_neg (by omega)]; rfl
  · rw [if_neg (by omega)]; rfl
  · rw [if_neg (by omega)]; rfl
  · rw [if_pos (by omega)]; rfl
  · rw [if_pos (by omega)]; rfl
  · have h8 : a.1 < 8 := by
      unfold zIq at hq
      split at hq
      · omega
      · split at hq
        · omega
        · cases hq
    rw [if_neg (by omega)]; rfl
  · rw [if_pos (by omega)]; rfl
  · rw [if_neg (by omega)]; rfl
  · rw [if_neg (by omega)]; rfl
def zcat (a : zA_V) : Nat := if a.1 = 4 ∨ a.1 = 5 ∨ a.1 = 8 then 2 else 1
def zS1 (L : zA_L) (i : Nat) (a : zA_V) : zA_L := (i, a) :: L.filter (fun q => !(q.1 == i) && !(q.1 + 1 == i && zcat q.2 == 2))
def zS2 (L : zA_L) (i : Nat) (a : zA_V) : zA_L := (i, a) :: L.filter (fun q => !(q.1 == i) && (!(q.1 == i + 1) && !(q.1 + 1 == i && zcat q.2 == 2)))
theorem zL2.filter {α β : Type} {R : α → β → Prop} {p : α → Bool} {q : β → Bool} (hpq : ∀ a b, R a b → p a = q b) : ∀ {as : List α} {bs : List β}, zL2 R as bs → zL2 R (as.filter p) (bs.filter q)
  | [], [], _ => trivial
  | a :: as, b :: bs, h => by
    rw [List.filter_cons, List.filter_cons, hpq a b h.1]
    cases q b with
    | true => exact ⟨h.1, zL2.filter hpq h.2⟩
    | false => exact zL2.filter hpq h.2
  | [], _ :: _, h => h.elim
  | _ :: _, [], h => h.elim
theorem zS1_g {ρ : List Int} {L : zA_L} {lv : List (Nat × Value)} {i : Nat} {a : zA_V} {v : Value} (h : zg_L ρ L lv) (g : zg_V ρ a v) : zg_L ρ (zS1 L i a) (z_st1 lv i v) :=
  ⟨⟨rfl, g⟩, zL2.filter (fun x y hxy => by rw [hxy.1, zg_cat hxy.2]; rfl) h⟩
theorem zS2_g {ρ : List Int} {L : zA_L} {lv : List (Nat × Value)} {i : Nat} {a : zA_V} {v : Value} (h : zg_L ρ L lv) (g : zg_V ρ a v) : zg_L ρ (zS2 L i a) (z_st2 lv i v) :=
  ⟨⟨rfl, g⟩, zL2.filter (fun x y hxy => by rw [hxy.1, zg_cat hxy.2]; rfl) h⟩
