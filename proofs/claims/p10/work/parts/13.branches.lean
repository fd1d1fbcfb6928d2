/-! PART 09: comparisons, switches, conversions. -/
def zcP (c : Nat) (a b : Int32) : Prop := if c = 0 then a = b else if c = 1 then a ≠ b else if c = 2 then a < b else if c = 3 then b ≤ a else if c = 4 then b < a else a ≤ b
def zcT (c : Nat) (S : zA_S) (a b : zA_V) : List zA_S := if c = 0 then zEQ S a b else if c = 1 then zNE S a b else if c = 2 then zLT S a b else if c = 3 then zGE S a b else if c = 4 then zLT S b a else zGE S b a
def zcF (c : Nat) (S : zA_S) (a b : zA_V) : List zA_S := if c = 0 then zNE S a b else if c = 1 then zEQ S a b else if c = 2 then zGE S a b else if c = 3 then zLT S a b else if c = 4 then zGE S b a else zLT S b a
theorem zcT_g {c : Nat} {ρ : List Int} {S : zA_S} {a b : zA_V} {x z : Int32} (hS : zg_S ρ S) (h1 : zE ρ a x.toInt) (h2 : zE ρ b z.toInt) (h : zcP c x z) : ∃ S', S' ∈ zcT c S a b ∧ zg_S ρ S' := by
  unfold zcT
  unfold zcP at h
  split
  · next e => rw [if_pos e] at h; exact zEQ_g hS h1 h2 (by rw [h])
  · next e =>
    rw [if_neg e] at h
    split
    · next e => rw [if_pos e] at h; exact zNE_g hS h1 h2 (fun q => h (Int32.toInt_inj.mp q))
    · next e =>
      rw [if_neg e] at h
      split
      · next e => rw [if_pos e] at h; exact zLT_g hS h1 h2 (Int32.lt_iff_toInt_lt.mp h)
      · next e =>
        rw [if_neg e] at h
        split
        · next e => rw [if_pos e] at h; exact zGE_g hS h1 h2 (Int32.le_iff_toInt_le.mp h)
        · next e =>
          rw [if_neg e] at h
          split
          · next e => rw [if_pos e] at h; exact zLT_g hS h2 h1 (Int32.lt_iff_toInt_lt.mp h)
          · next e => rw [if_neg e] at h; exact zGE_g hS h2 h1 (Int32.le_iff_toInt_le.mp h)
theorem zcF_g {c : Nat} {ρ : List Int} {S : zA_S} {a b : zA_V} {x z : Int32} (hS : zg_S ρ S) (h1 : zE ρ a x.toInt) (h2 : zE ρ b z.toInt) (h : ¬ zcP c x z) : ∃ S', S' ∈ zcF c S a b ∧ zg_S ρ S' := by
  unfold zcF
  unfold zcP at h
  simp only [Int32.lt_iff_toInt_lt, Int32.le_iff_toInt_le] at h
  split
  · next e => rw [if_pos e] at h; exact zNE_g hS h1 h2 (fun q => h (Int32.toInt_inj.mp q))
  · next e =>
    rw [if_neg e] at h
    split
    · next e => rw [if_pos e] at h; exact zEQ_g hS h1 h2 (by have : x = z := Classical.byContradiction h; rw [this])
    · next e =>
      rw [if_neg e] at h
      split
      · next e => rw [if_pos e] at h; exact zGE_g hS h1 h2 (by omega)
      · next e =>
        rw [if_neg e] at h
        split
        · next e => rw [if_pos e] at h; exact zLT_g hS h1 h2 (by omega)
        · next e =>
          rw [if_neg e] at h
          split
          · next e => rw [if_pos e] at h; exact zGE_g hS h2 h1 (by omega)
          · next e => rw [if_neg e] at h; exact zLT_g hS h2 h1 (by omega)
theorem zE0 (ρ : List Int) (c : Int) : zE ρ (0, c) c := Or.inl ⟨Or.inl rfl, rfl⟩
/-- where a sum or a difference does not wrap -/
def znw (S : zA_S) (x y : zA_V) (sub : Bool) : Option (zI2 × zI2) := match zr S x, zr S y with
  | some p, some q => (match sub with
    | false => if -2147483648 ≤ p.1 + q.1 ∧ p.2 + q.2 ≤ 2147483647 then some (p, q) else none
    | true => if -2147483648 ≤ p.1 - q.2 ∧ p.2 - q.1 ≤ 2147483647 then some (p, q) else none)
  | _, _ => none
theorem zw32_in {z : Int} (h1 : -2147483648 ≤ z) (h2 : z ≤ 2147483647) : zw32 z = z := by
  unfold zw32
  rw [if_pos ⟨h1, h2⟩]
theorem znw_add {ρ : List Int} {S : zA_S} {x y : zA_V} {p q : zI2} {a b : Int} (hS : zg_S ρ S) (h : znw S x y false = some (p, q)) (ha : zE ρ x a) (hb : zE ρ y b) : zb_c 10 a b = a + b ∧ p.1 ≤ a ∧ a ≤ p.2 ∧ q.1 ≤ b ∧ b ≤ q.2 := by
  unfold znw at h
  split at h
  · next u v hu hv =>
    have b1 := zr_in hS ha hu
    have b2 := zr_in hS hb hv
    dsimp only at h
    split at h
    · next hc =>
      cases h
      exact ⟨zw32_in (by omega) (by omega), b1.1, b1.2, b2.1, b2.2⟩
    · cases h
  · cases h
theorem znw_sub {ρ : List Int} {S : zA_S} {x y : zA_V} {p q : zI2} {a b : Int} (hS : zg_S ρ S) (h : znw S x y true = some (p, q)) (ha : zE ρ x a) (hb : zE ρ y b) : zb_c 11 a b = a - b ∧ p.1 ≤ a ∧ a ≤ p.2 ∧ q.1 ≤ b ∧ b ≤ q.2 := by
  unfold znw at h
  split at h
  · next u v hu hv =>
    have b1 := zr_in hS ha hu
    have b2 := zr_in hS hb hv
    dsimp only at h
    split at h
    · next hc =>
      cases h
      exact ⟨zw32_in (by omega) (by omega), b1.1, b1.2, b2.1, b2.2⟩
    · cases h
  · cases h
theorem zldr_c {u v : Int} (h0 : 0 ≤ u) (h1 : u ≤ 2147483647) (h2 : 0 < v) (h3 : v ≤ 2147483647) : zb_c 19 u v = u / v ∧ zb_c 20 u v = u - u / v * v := by
  have eu : (Int32.ofInt u).toInt = u := Int32.toInt_ofInt_of_le (by omega) (by omega)
  have ev : (Int32.ofInt v).toInt = v := Int32.toInt_ofInt_of_le (by omega) (by omega)
  have d1 : 0 ≤ u / v := Int.ediv_nonneg h0 (by omega)
  have d2 : u / v ≤ u := Int.ediv_le_self _ h0
  refine ⟨?_, ?_⟩
  · have e1 : zb_c 19 u v = (Int32.ofInt u / Int32.ofInt v).toInt := rfl
    rw [e1, Int32.toInt_div, eu, ev, Int.tdiv_eq_ediv_of_nonneg h0]
    exact Int.bmod_eq_of_le (by omega) (by omega)
  · have e1 : zb_c 20 u v = (Int32.ofInt u - Int32.ofInt u / Int32.ofInt v * Int32.ofInt v).toInt := rfl
    rw [e1, z_mod_eq, eu, ev, Int.tmod_eq_emod_of_nonneg h0, Int.emod_def, Int.mul_comm]
theorem zg_D.comm12 {ρ : List Int} {n : Int} {x y : zA_V} (h : zg_D ρ n (12, x, y)) : zg_D ρ n (12, y, x) := by
  rcases h with h | ⟨u, v, g1, g2, e⟩
  · exact Or.inl h
  · refine Or.inr ⟨v, u, g2, g1, ?_⟩
    have e : n = zw32 (u * v) := e
    rw [e, Int.mul_comm]
    rfl
/-- what the bounds of a product with a number say -/
def zpgM (S : zA_S) (lo hi : Int) (x y : zA_V) : zA_S := if y.1 = 0 ∧ 0 < y.2 then (match zr S x with
  | some p => if -2147483648 ≤ p.1 * y.2 ∧ p.2 * y.2 ≤ 2147483647 then zrf S x (max p.1 (-((-lo) / y.2)), min p.2 (hi / y.2)) else S
  | none => S) else S
theorem z_mulr {p : zI2} {u v : Int} (hv : 0 < v) (h1 : p.1 ≤ u) (h2 : u ≤ p.2) (h3 : -2147483648 ≤ p.1 * v) (h4 : p.2 * v ≤ 2147483647) : zb_c 12 u v = u * v := by
  have k1 := Int.mul_le_mul_of_nonneg_right h1 (by omega : 0 ≤ v)
  have k2 := Int.mul_le_mul_of_nonneg_right h2 (by omega : 0 ≤ v)
  exact zw32_in (by omega) (by omega)
theorem zpgM_g {ρ : List Int} {S : zA_S} {lo hi n : Int} {x y : zA_V} (hS : zg_S ρ S) (h : zg_D ρ n (12, x, y)) (h1 : lo ≤ n) (h2 : n ≤ hi) : zg_S ρ (zpgM S lo hi x y) := by
  unfold zpgM
  split
  · next hy =>
    split
    · next p hp =>
      split
      · next hc =>
        rcases h with h | ⟨u, v, g1, g2, e⟩
        · cases h
        · have e : n = zb_c 12 u v := e
          have g1 : zE ρ x u := g1
          have g2 : zE ρ y v := g2
          have b := zr_in hS g1 hp
          have ev : v = y.2 := by rcases g2 with ⟨-, g2⟩ | ⟨g2 | g2, -⟩ <;> omega
          subst ev
          rw [z_mulr hy.2 b.1 b.2 hc.1 hc.2] at e
          have r1 : u ≤ hi / y.2 := (Int.le_ediv_iff_mul_le hy.2).mpr (by omega)
          have r2 : -u ≤ (-lo) / y.2 := (Int.le_ediv_iff_mul_le hy.2).mpr (by rw [Int.neg_mul]; omega)
          exact zrf_g hS g1 (by show max p.1 (-((-lo) / y.2)) ≤ u; omega) (by show u ≤ min p.2 (hi / y.2); omega)
      · exact hS
    · exact hS
  · exact hS
/-- what the bounds of a quotient by a number say -/
def zpgQ (S : zA_S) (lo hi : Int) (x y : zA_V) : zA_S := if y.1 = 0 ∧ 0 < y.2 ∧ y.2 ≤ 2147483647 then (match zr S x with
  | some p => if 0 ≤ p.1 ∧ p.2 ≤ 2147483647 then zrf S x (max p.1 (lo * y.2), min p.2 (hi * y.2 + (y.2 - 1))) else S
  | none => S) else S
theorem zpgQ_g {ρ : List Int} {S : zA_S} {lo hi n : Int} {x y : zA_V} (hS : zg_S ρ S) (h : zg_D ρ n (19, x, y)) (h1 : lo ≤ n) (h2 : n ≤ hi) : zg_S ρ (zpgQ S lo hi x y) := by
  unfold zpgQ
  split
  · next hy =>
    split
    · next p hp =>
      split
      · next hc =>
        rcases h with h | ⟨u, v, g1, g2, e⟩
        · cases h
        · have e : n = zb_c 19 u v := e
          have g1 : zE ρ x u := g1
          have g2 : zE ρ y v := g2
          have b := zr_in hS g1 hp
          have ev : v = y.2 := by rcases g2 with ⟨-, g2⟩ | ⟨g2 | g2, -⟩ <;> omega
          subst ev
          rw [(zldr_c (by omega) (by omega) hy.2.1 hy.2.2).1] at e
          have r1 : lo * y.2 ≤ u := (Int.le_ediv_iff_mul_le hy.2.1).mp (by omega)
          have r2 : u < (hi + 1) * y.2 := (Int.ediv_lt_iff_lt_mul hy.2.1).mp (by omega)
          rw [Int.add_mul] at r2
          exact zrf_g hS g1 (by show max p.1 (lo * y.2) ≤ u; omega) (by show u ≤ min p.2 (hi * y.2 + (y.2 - 1)); omega)
      · exact hS
    · exact hS
  · exact hS
/-- what new bounds of a name say of what it was made of -/
def zpg (S : zA_S) (a : zA_V) : zA_S := if a.1 = 1 then (match S[a.2.toNat]? with
    | some (lo, hi, (k, x, y)) => if k = 10 then (match znw S x y false with
        | some (p, q) => zrf (zrf S x (max p.1 (lo - q.2), min p.2 (hi - q.1))) y (max q.1 (lo - p.2), min q.2 (hi - p.1))
        | none => S) else if k = 11 then (match znw S x y true with
        | some (p, q) => zrf (zrf S x (max p.1 (lo + q.1), min p.2 (hi + q.2))) y (max q.1 (p.1 - hi), min q.2 (p.2 - lo))
        | none => S) else if k = 12 then zpgM S lo hi (if y.1 = 0 then x else y) (if y.1 = 0 then y else x) else if k = 19 then zpgQ S lo hi x y else S
    | none => S) else S
theorem zpg_g {ρ : List Int} {S : zA_S} {a : zA_V} (hS : zg_S ρ S) : zg_S ρ (zpg S a) := by
  unfold zpg
  split
  · split
    · next lo hi k x y hk =>
      obtain ⟨n, e1, e2, e3, e4⟩ := zL2.getR hS hk
      have e2 : lo ≤ n := e2
      have e3 : n ≤ hi := e3
      split
      · next h10 =>
        rcases e4 with h0 | ⟨u, v, g1, g2, e⟩
        · have h0 : k = 0 := h0
          omega
        · have e : n = zb_c k u v := e
          split
          · next p q hpq =>
            obtain ⟨w1, w2, w3, w4, w5⟩ := znw_add hS hpq g1 g2
            rw [h10, w1] at e
            exact zrf_g (zrf_g hS g1 (by show max p.1 (lo - q.2) ≤ u; omega) (by show u ≤ min p.2 (hi - q.1); omega)) g2 (by show max q.1 (lo - p.2) ≤ v; omega) (by show v ≤ min q.2 (hi - p.1); omega)
          · exact hS
      · split
        · next h11 =>
          rcases e4 with h0 | ⟨u, v, g1, g2, e⟩
          · have h0 : k = 0 := h0
            omega
          · have e : n = zb_c k u v := e
            split
            · next p q hpq =>
              obtain ⟨w1, w2, w3, w4, w5⟩ := znw_sub hS hpq g1 g2
              rw [h11, w1] at e
              exact zrf_g (zrf_g hS g1 (by show max p.1 (lo + q.1) ≤ u; omega) (by show u ≤ min p.2 (hi + q.2); omega)) g2 (by show max q.1 (p.1 - hi) ≤ v; omega) (by show v ≤ min q.2 (p.2 - lo); omega)
            · exact hS
        · split
          · next h12 =>
            rw [h12] at e4
            refine zpgM_g hS ?_ e2 e3
            split
            · exact e4
            · exact e4.comm12
          · split
            · next h19 => exact zpgQ_g hS (by rw [h19] at e4; exact e4) e2 e3
            · exact hS
    · exact hS
  · exact hS
/-- no bounds of a name that can't be -/
def zne1 (S : zA_S) (a : zA_V) : Bool := match zr S a with
  | some p => decide (p.1 ≤ p.2)
  | none => true
def zne (S : zA_S) (a : zA_V) : Bool := if a.1 = 1 then zne1 S a && (match S[a.2.toNat]? with
  | some q => zne1 S q.2.2.2.1 && zne1 S q.2.2.2.2
  | none => true) else true
theorem zr_ne {ρ : List Int} {S : zA_S} {a : zA_V} {p : zI2} (hS : zg_S ρ S) (h : zr S a = some p) : p.1 ≤ p.2 := by
  have key : ∀ k : Nat, zat S k = some p → p.1 ≤ p.2 := by
    intro k hk
    unfold zat at hk
    split at hk
    · next q hq =>
      obtain ⟨n, e1, e2⟩ := zL2.getR hS hq
      cases hk
      exact Int.le_trans e2.1 e2.2.1
    · cases hk
  unfold zr at h
  split at h
  · cases h; exact Int.le_refl _
  · split at h
    · exact key _ h
    · split at h
      · cases h; exact Int.le_refl _
      · split at h
        · exact key _ h
        · cases h
theorem zne1_g {ρ : List Int} {S : zA_S} (hS : zg_S ρ S) (a : zA_V) : zne1 S a = true := by
  unfold zne1
  split
  · next p hp => exact decide_eq_true (zr_ne hS hp)
  · rfl
theorem zne_g {ρ : List Int} {S : zA_S} (hS : zg_S ρ S) (a : zA_V) : zne S a = true := by
  unfold zne
  split
  · rw [zne1_g hS]
    split
    · rw [zne1_g hS, zne1_g hS]; rfl
    · rfl
  · rfl
/-- and one step further -/
def zpgA (S : zA_S) (a : zA_V) : zA_S := if a.1 = 1 then (match (zpg S a)[a.2.toNat]? with
  | some q => zpg (zpg (zpg S a) q.2.2.2.1) q.2.2.2.2
  | none => zpg S a) else S
theorem zpgA_g {ρ : List Int} {S : zA_S} {a : zA_V} (hS : zg_S ρ S) : zg_S ρ (zpgA S a) := by
  unfold zpgA
  split
  · split
    · exact zpg_g (zpg_g (zpg_g hS))
    · exact zpg_g hS
  · exact hS
def zpg2 (a b : zA_V) (l : List zA_S) : List zA_S := (l.map (fun S => zpgA (zpgA S a) b)).filter (fun S => zne S a && zne S b)
theorem zpg2_g {ρ : List Int} {a b : zA_V} {l : List zA_S} (h : ∃ S', S' ∈ l ∧ zg_S ρ S') : ∃ S', S' ∈ zpg2 a b l ∧ zg_S ρ S' := by
  obtain ⟨S', m, g⟩ := h
  have g' : zg_S ρ (zpgA (zpgA S' a) b) := zpgA_g (zpgA_g g)
  exact ⟨_, List.mem_filter.mpr ⟨List.mem_map.mpr ⟨S', m, rfl⟩, by rw [zne_g g' a, zne_g g' b]; rfl⟩, g'⟩
/-- the difference of two names, with what a comparison says of it: c as of branches -/
def zdq (c : Nat) (q : zI2) : zI2 := if c = 0 then (0, 0) else if c = 2 then (q.1, min q.2 (-1)) else if c = 3 then (max q.1 0, q.2) else if c = 4 then (max q.1 1, q.2) else if c = 5 then (q.1, min q.2 0) else q
theorem zdq_g {c : Nat} {q : zI2} {x z : Int32} (h : zcP c x z) (h1 : q.1 ≤ x.toInt - z.toInt) (h2 : x.toInt - z.toInt ≤ q.2) : (zdq c q).1 ≤ x.toInt - z.toInt ∧ x.toInt - z.toInt ≤ (zdq c q).2 := by
  unfold zdq
  unfold zcP at h
  split
  · next e => rw [if_pos e] at h; subst h; exact ⟨by show (0 : Int) ≤ _; omega, by show _ ≤ (0 : Int); omega⟩
  · next e =>
    rw [if_neg e] at h
    split
    · next e2 =>
      rw [if_neg (by omega), if_pos e2] at h
      rw [Int32.lt_iff_toInt_lt] at h
      exact ⟨h1, by show _ ≤ min q.2 (-1); omega⟩
    · next e2 =>
      split
      · next e3 =>
        rw [if_neg (by omega), if_neg (by omega), if_pos e3] at h
        rw [Int32.le_iff_toInt_le] at h
        exact ⟨by show max q.1 0 ≤ _; omega, h2⟩
      · next e3 =>
        split
        · next e4 =>
          rw [if_neg (by omega), if_neg (by omega), if_neg (by omega), if_pos e4] at h
          rw [Int32.lt_iff_toInt_lt] at h
          exact ⟨by show max q.1 1 ≤ _; omega, h2⟩
        · next e4 =>
          split
          · next e5 =>
            rw [if_neg (by omega), if_neg (by omega), if_neg (by omega), if_neg (by omega)] at h
            rw [Int32.le_iff_toInt_le] at h
            exact ⟨h1, by show _ ≤ min q.2 0; omega⟩
          · exact ⟨h1, h2⟩
/-- the branch not taken -/
def zcN (c : Nat) : Nat := if c = 0 then 1 else if c = 1 then 0 else if c = 2 then 3 else if c = 3 then 2 else if c = 4 then 5 else 4
theorem zcN_g {c : Nat} {x z : Int32} (h : ¬ zcP c x z) : zcP (zcN c) x z := by
  unfold zcP at h
  unfold zcN
  split at h
  · next e => rw [if_pos e]; exact h
  · next e0 =>
    rw [if_neg e0]
    split at h
    · next e => rw [if_pos e]; exact Classical.byContradiction (fun q => h q)
    · next e1 =>
      rw [if_neg e1]
      split at h
      · next e =>
        rw [if_pos e]
        show z ≤ x
        rw [Int32.lt_iff_toInt_lt] at h
        rw [Int32.le_iff_toInt_le]
        omega
      · next e2 =>
        rw [if_neg e2]
        split at h
        · next e =>
          rw [if_pos e]
          show x < z
          rw [Int32.le_iff_toInt_le] at h
          rw [Int32.lt_iff_toInt_lt]
          omega
        · next e3 =>
          rw [if_neg e3]
          split at h
          · next e =>
            rw [if_pos e]
            show x ≤ z
            rw [Int32.lt_iff_toInt_lt] at h
            rw [Int32.le_iff_toInt_le]
            omega
          · next e4 =>
            rw [if_neg e4]
            show z < x
            rw [Int32.le_iff_toInt_le] at h
            rw [Int32.lt_iff_toInt_lt]
            omega
def zfc (c : Nat) (a b : zA_V) (S : zA_S) : zA_S := if a.1 = 1 ∧ b.1 = 1 ∧ c ≠ 1 ∧ c ≤ 5 then (match znw S a b true with
    | some (p, q) => (match zfd (11, a, b) S 0 with
      | some j => (match zat S j with
        | some u => zmo (zdq c u) S j
        | none => S)
      | none => S ++ [((zdq c (p.1 - q.2, p.2 - q.1)).1, (zdq c (p.1 - q.2, p.2 - q.1)).2, (11, a, b))])
    | none => S) else S
theorem zfc_g {c : Nat} {a b : zA_V} {ρ : List Int} {S : zA_S} {x z : Int32} (hS : zg_S ρ S) (h1 : zE ρ a x.toInt) (h2 : zE ρ b z.toInt) (h : zcP c x z) : ∃ ρ', zLE ρ ρ' ∧ zg_S ρ' (zfc c a b S) := by
  unfold zfc
  split
  · split
    · next p q hpq =>
      obtain ⟨w1, w2, w3, w4, w5⟩ := znw_sub hS hpq h1 h2
      split
      · next j hj =>
        have e : ρ[j]? = some (x.toInt - z.toInt) := zfd_g hS hj (show (11 : Nat) ≠ 0 by decide) (fun u v hu hv => by rw [zE_fun hu h1, zE_fun hv h2]; exact w1.symm)
        split
        · next u hu =>
          have b0 := zat_in hS hu e
          have b1 := zdq_g (q := u) h b0.1 b0.2
          have := zrf_g (a := (1, (j : Int))) (q := zdq c u) hS (Or.inr ⟨Or.inl rfl, by simpa using e⟩) b1.1 b1.2
          have e2 : zrf S (1, (j : Int)) (zdq c u) = zmo (zdq c u) S j := by
            unfold zrf
            rw [if_pos rfl]
            simp
          rw [e2] at this
          exact ⟨ρ, zLE.refl ρ, this⟩
        · exact ⟨ρ, zLE.refl ρ, hS⟩
      · have b1 := zdq_g (c := c) (q := (p.1 - q.2, p.2 - q.1)) h (by show p.1 - q.2 ≤ _; omega) (by show _ ≤ p.2 - q.1; omega)
        exact ⟨_, zLE.app ρ (x.toInt - z.toInt), hS.pushD (q := zdq c (p.1 - q.2, p.2 - q.1)) b1.1 b1.2 (Or.inr ⟨_, _, h1, h2, w1.symm⟩)⟩
    · exact ⟨ρ, zLE.refl ρ, hS⟩
  · exact ⟨ρ, zLE.refl ρ, hS⟩
/-- no name is left without a value -/
def zneS (S : zA_S) : Bool := S.all (fun q => decide (q.1 ≤ q.2.1))
theorem zneS_g {ρ : List Int} {S : zA_S} (hS : zg_S ρ S) : zneS S = true := List.all_eq_true.mpr (fun q hq => by
  obtain ⟨i, hi⟩ := List.getElem?_of_mem hq
  obtain ⟨n, -, b1, b2, -⟩ := zL2.getR hS hi
  exact decide_eq_true (Int.le_trans b1 b2))
section ZO
variable {l : Launch} {d : Nat} {y : zx_Y} {X : zx_X} {mc ms XL : Nat} {φ : List z_C} {Q : Option Value → List z_C → Prop}
def zx_to (pc : Nat) (t : zA_T) (r : List zA_V) (l : List zA_S) : List (Nat × zA_T) := l.map (fun S => (pc, zt_Sst t S r))
def zx_if (c tg nx : Nat) (t : zA_T) : zA_R := match t.2.2.2.1 with
  | a0 :: r => let a := zn t.1 a0
    if zIs a = true then some (zx_to tg t r (zpg2 a (0, 0) (zcT c t.1 a (0, 0))) ++ zx_to nx t r (zpg2 a (0, 0) (zcF c t.1 a (0, 0)))) else none
  | [] => none
def zx_icmp (c tg nx : Nat) (t : zA_T) : zA_R := match t.2.2.2.1 with
  | b0 :: a0 :: r => let a := zn t.1 a0
    let b := zn t.1 b0
    if zIs a = true ∧ zIs b = true then some (zx_to tg t r (((zpg2 a b (zcT c t.1 a b)).map (zfc c a b)).filter zneS) ++ zx_to nx t r (((zpg2 a b (zcF c t.1 a b)).map (zfc (zcN c) a b)).filter zneS)) else none
  | _ => none
theorem zo_if {c pc tg nx : Nat} {t : zA_T} (hs : ∀ {lv st ph cc ns} {a : Int32}, (zcP c a 0 → ZW l d y X mc ms Q tg lv st ph cc ns) → (¬ zcP c a 0 → ZW l d y X mc ms Q nx lv st ph cc ns) → ZW l d y X mc ms Q pc lv (.int a :: st) ph cc ns) : zSd l d y X mc ms XL φ Q pc t (zx_if c tg nx t) := by
  obtain ⟨S, H, L, s0, cc, ns⟩ := t
  intro ts hts ρ ph lv st g k0
  obtain ⟨g1, g2, g3, g4, g5⟩ := g
  unfold zx_if at hts
  split at hts
  · next a0 r hst =>
    have hst : s0 = a0 :: r := hst
    subst hst
    obtain ⟨va, st1, rfl, ga0, gr⟩ := zL2.cons1 g4
    have ga := zn_g g1 ga0
    dsimp only at hts
    generalize hea : zn S a0 = a at *
    split at hts
    · next hI =>
      cases hts
      obtain ⟨x, rfl, ex⟩ := zg_int hI ga
      refine hs (fun h => ?_) (fun h => ?_)
      · obtain ⟨S', m, gs⟩ := zpg2_g (a := a) (b := (0, 0)) (zcT_g g1 ex (zE0 ρ (0 : Int32).toInt) h)
        exact k0 (tg, zt_Sst (S, H, L, a0 :: r, cc, ns) S' r) (List.mem_append_left _ (List.mem_map.mpr ⟨S', m, rfl⟩)) ρ ph lv _ (zLE.refl ρ) ⟨gs, g2, g3, gr, g5⟩
      · obtain ⟨S', m, gs⟩ := zpg2_g (a := a) (b := (0, 0)) (zcF_g g1 ex (zE0 ρ (0 : Int32).toInt) h)
        exact k0 (nx, zt_Sst (S, H, L, a0 :: r, cc, ns) S' r) (List.mem_append_right _ (List.mem_map.mpr ⟨S', m, rfl⟩)) ρ ph lv _ (zLE.refl ρ) ⟨gs, g2, g3, gr, g5⟩
    · cases hts
  · cases hts
theorem zo_icmp {c pc tg nx : Nat} {t : zA_T} (hs : ∀ {lv st ph cc ns} {a b : Int32}, (zcP c a b → ZW l d y X mc ms Q tg lv st ph cc ns) → (¬ zcP c a b → ZW l d y X mc ms Q nx lv st ph cc ns) → ZW l d y X mc ms Q pc lv (.int b :: .int a :: st) ph cc ns) : zSd l d y X mc ms XL φ Q pc t (zx_icmp c tg nx t) := by
  obtain ⟨S, H, L, s0, cc, ns⟩ := t
  intro ts hts ρ ph lv st g k0
  obtain ⟨g1, g2, g3, g4, g5⟩ := g
  unfold zx_icmp at hts
  split at hts
  · next b0 a0 r hst =>
    have hst : s0 = b0 :: a0 :: r := hst
    subst hst
    obtain ⟨vb, st1, rfl, gb0, gr1⟩ := zL2.cons1 g4
    obtain ⟨va, st2, rfl, ga0, gr⟩ := zL2.cons1 gr1
    have ga := zn_g g1 ga0
    have gb := zn_g g1 gb0
    dsimp only at hts
    generalize hea : zn S a0 = a at *
    generalize heb : zn S b0 = b at *
    split at hts
    · next hI =>
      cases hts
      obtain ⟨x, rfl, ex⟩ := zg_int hI.1 ga
      obtain ⟨z, rfl, ez⟩ := zg_int hI.2 gb
      refine hs (fun h => ?_) (fun h => ?_)
      · obtain ⟨S', m, gs⟩ := zpg2_g (a := a) (b := b) (zcT_g g1 ex ez h)
        obtain ⟨ρ', hle, gs'⟩ := zfc_g gs ex ez h
        exact k0 (tg, zt_Sst (S, H, L, b0 :: a0 :: r, cc, ns) (zfc c a b S') r) (List.mem_append_left _ (List.mem_map.mpr ⟨_, List.mem_filter.mpr ⟨List.mem_map.mpr ⟨S', m, rfl⟩, zneS_g gs'⟩, rfl⟩)) ρ' ph lv _ hle ⟨gs', zL2.mono (fun _ _ => zg_C.mono hle) g2, zL2.mono (fun _ _ q => ⟨q.1, q.2.mono hle⟩) g3, zL2.mono (fun _ _ => zg_V.mono hle) gr, g5.mono hle⟩
      · obtain ⟨S', m, gs⟩ := zpg2_g (a := a) (b := b) (zcF_g g1 ex ez h)
        obtain ⟨ρ', hle, gs'⟩ := zfc_g gs ex ez (zcN_g h)
        exact k0 (nx, zt_Sst (S, H, L, b0 :: a0 :: r, cc, ns) (zfc (zcN c) a b S') r) (List.mem_append_right _ (List.mem_map.mpr ⟨_, List.mem_filter.mpr ⟨List.mem_map.mpr ⟨S', m, rfl⟩, zneS_g gs'⟩, rfl⟩)) ρ' ph lv _ hle ⟨gs', zL2.mono (fun _ _ => zg_C.mono hle) g2, zL2.mono (fun _ _ q => ⟨q.1, q.2.mono hle⟩) g3, zL2.mono (fun _ _ => zg_V.mono hle) gr, g5.mono hle⟩
    · cases hts
  · cases hts
/-- the int that a long was made of -/
def zIv (a : zA_V) : zA_V := if a.1 = 5 then (1, a.2) else a
def zx_lcmp (nx : Nat) (t : zA_T) : zA_R := match t.2.2.2.1 with
  | b0 :: a0 :: r => let a := zn t.1 a0
    let b := zn t.1 b0
    if zIsJ a = true ∧ zIsJ b = true then some (zx_to nx t ((0, -1) :: r) ((zLT t.1 a b).map (fun S => zpg S (zIv a))) ++ (zx_to nx t ((0, 0) :: r) ((zEQ t.1 a b).map (fun S => zpg S (zIv a))) ++ zx_to nx t ((0, 1) :: r) ((zLT t.1 b a).map (fun S => zpg S (zIv a))))) else none
  | _ => none
theorem zo_lcmp {pc nx : Nat} {t : zA_T} (hs : ∀ {lv st ph cc ns} {a b : Int64}, ZW l d y X mc ms Q nx lv (.int (lg_cmp a b) :: st) ph cc ns → ZW l d y X mc ms Q pc lv (.long b :: .long a :: st) ph cc ns) : zSd l d y X mc ms XL φ Q pc t (zx_lcmp nx t) := by
  obtain ⟨S, H, L, s0, cc, ns⟩ := t
  intro ts hts ρ ph lv st g k0
  obtain ⟨g1, g2, g3, g4, g5⟩ := g
  unfold zx_lcmp at hts
  split at hts
  · next b0 a0 r hst =>
    have hst : s0 = b0 :: a0 :: r := hst
    subst hst
    obtain ⟨vb, st1, rfl, gb0, gr1⟩ := zL2.cons1 g4
    obtain ⟨va, st2, rfl, ga0, gr⟩ := zL2.cons1 gr1
    have ga := zn_g g1 ga0
    have gb := zn_g g1 gb0
    dsimp only at hts
    generalize hea : zn S a0 = a at *
    generalize heb : zn S b0 = b at *
    split at hts
    · next hI =>
      cases hts
      obtain ⟨x, rfl, ex⟩ := zg_long hI.1 ga
      obtain ⟨z, rfl, ez⟩ := zg_long hI.2 gb
      refine hs ?_
      rcases Int.lt_trichotomy x.toInt z.toInt with h | h | h
      · have e1 : lg_cmp x z = -1 := by
          have h1 : ¬ x > z := fun q => by have := Int64.lt_iff_toInt_lt.mp q; omega
          have h2 : ¬ x = z := fun q => by rw [q] at h; omega
          simp [lg_cmp, h1, h2]
        rw [e1]
        obtain ⟨S', m, gs⟩ := zLT_g g1 ex ez h
        exact k0 (nx, zt_Sst (S, H, L, b0 :: a0 :: r, cc, ns) (zpg S' (zIv a)) ((0, -1) :: r)) (List.mem_append_left _ (List.mem_map.mpr ⟨_, List.mem_map.mpr ⟨S', m, rfl⟩, rfl⟩)) ρ ph lv _ (zLE.refl ρ) ⟨zpg_g gs, g2, g3, ⟨zg_ofI (by decide), gr⟩, g5⟩
      · have e1 : lg_cmp x z = 0 := by
          have h2 : x = z := Int64.toInt_inj.mp h
          have h1 : ¬ x > z := fun q => by have := Int64.lt_iff_toInt_lt.mp q; omega
          simp [lg_cmp, h1, h2]
        rw [e1]
        obtain ⟨S', m, gs⟩ := zEQ_g g1 ex ez h
        exact k0 (nx, zt_Sst (S, H, L, b0 :: a0 :: r, cc, ns) (zpg S' (zIv a)) ((0, 0) :: r)) (List.mem_append_right _ (List.mem_append_left _ (List.mem_map.mpr ⟨_, List.mem_map.mpr ⟨S', m, rfl⟩, rfl⟩))) ρ ph lv _ (zLE.refl ρ) ⟨zpg_g gs, g2, g3, ⟨zg_ofI (by decide), gr⟩, g5⟩
      · have e1 : lg_cmp x z = 1 := by
          have h1 : x > z := Int64.lt_iff_toInt_lt.mpr h
          simp [lg_cmp, h1]
        rw [e1]
        obtain ⟨S', m, gs⟩ := zLT_g g1 ez ex h
        exact k0 (nx, zt_Sst (S, H, L, b0 :: a0 :: r, cc, ns) (zpg S' (zIv a)) ((0, 1) :: r)) (List.mem_append_right _ (List.mem_append_right _ (List.mem_map.mpr ⟨_, List.mem_map.mpr ⟨S', m, rfl⟩, rfl⟩))) ρ ph lv _ (zLE.refl ρ) ⟨zpg_g gs, g2, g3, ⟨zg_ofI (by decide), gr⟩, g5⟩
    · cases hts
  · cases hts
/-- the targets of tableswitch: lo, default, targets -/
def zx_tab1 (t : zA_T) (r : List zA_V) (a : zA_V) : Int → List Int → List (Nat × zA_T)
  | _, [] => []
  | k, g :: gs => zx_to g.toNat t r (zEQ t.1 a (0, k)) ++ zx_tab1 t r a (k + 1) gs
def zx_tab (lo df : Int) (gs : List Int) (t : zA_T) : zA_R := match t.2.2.2.1 with
  | a0 :: r => let a := zn t.1 a0
    if a.1 = 0 then
      (if a.2 < lo ∨ lo + gs.length ≤ a.2 then some [(df.toNat, zt_st t r)] else some [((gs.getD (a.2 - lo).toNat 0).toNat, zt_st t r)])
    else if zIs a = true then some (zx_tab1 t r a lo gs ++ (zx_to df.toNat t r (zLT t.1 a (0, lo)) ++ zx_to df.toNat t r (zGE t.1 a (0, lo + gs.length)))) else none
  | [] => none
theorem zx_tab1_g {t : zA_T} {r : List zA_V} {a : zA_V} {ρ : List Int} {n : Int} (hS : zg_S ρ t.1) (he : zE ρ a n) : ∀ (gs : List Int) (k : Int) (i : Nat), i < gs.length → n = k + i → ∃ S', zg_S ρ S' ∧ ((gs.getD i 0).toNat, zt_Sst t S' r) ∈ zx_tab1 t r a k gs
  | [], _, _, h, _ => by cases h
  | g :: gs, k, 0, _, hn => by
    obtain ⟨S', m, gs'⟩ := zEQ_g hS he (zE0 ρ k) (by omega)
    exact ⟨S', gs', List.mem_append_left _ (List.mem_map.mpr ⟨S', m, rfl⟩)⟩
  | g :: gs, k, i + 1, h, hn => by
    obtain ⟨S', g1, m⟩ := zx_tab1_g hS he gs (k + 1) i (by simpa using h) (by omega)
    exact ⟨S', g1, List.mem_append_right _ m⟩
theorem zo_tab {pc : Nat} {lo df : Int} {gs : List Int} {t : zA_T} (hs : ∀ {lv st ph cc ns} {a : Int32}, (a.toInt < lo ∨ lo + gs.length ≤ a.toInt → ZW l d y X mc ms Q df.toNat lv st ph cc ns) → (∀ i : Nat, i < gs.length → a.toInt = lo + i → ZW l d y X mc ms Q (gs.getD i 0).toNat lv st ph cc ns) → ZW l d y X mc ms Q pc lv (.int a :: st) ph cc ns) : zSd l d y X mc ms XL φ Q pc t (zx_tab lo df gs t) := by
  obtain ⟨S, H, L, s0, cc, ns⟩ := t
  intro ts hts ρ ph lv st g k0
  obtain ⟨g1, g2, g3, g4, g5⟩ := g
  unfold zx_tab at hts
  split at hts
  · next a0 r hst =>
    have hst : s0 = a0 :: r := hst
    subst hst
    obtain ⟨va, st1, rfl, ga0, gr⟩ := zL2.cons1 g4
    have ga := zn_g g1 ga0
    dsimp only at hts
    generalize hea : zn S a0 = a at *
    split at hts
    · next h0 =>
      obtain ⟨x, rfl, ex⟩ := zg_int (a := a) (by simp [zIs, h0]) ga
      have hx : x.toInt = a.2 := by rcases ex with ⟨-, e⟩ | ⟨e, -⟩ <;> omega
      split at hts
      · next hr =>
        cases hts
        refine hs (fun _ => k0 _ (List.mem_singleton.mpr rfl) ρ ph lv _ (zLE.refl ρ) ⟨g1, g2, g3, gr, g5⟩) (fun i hi he => ?_)
        omega
      · next hr =>
        cases hts
        refine hs (fun q => by omega) (fun i hi he => ?_)
        have e2 : (a.2 - lo).toNat = i := by omega
        have := k0 _ (List.mem_singleton.mpr rfl) ρ ph lv _ (zLE.refl ρ) ⟨g1, g2, g3, gr, g5⟩
        rw [e2] at this
        exact this
    · split at hts
      · next hI =>
        cases hts
        obtain ⟨x, rfl, ex⟩ := zg_int hI ga
        refine hs (fun h => ?_) (fun i hi he => ?_)
        · rcases h with h | h
          · obtain ⟨S', m, gs'⟩ := zLT_g g1 ex (zE0 ρ lo) h
            exact k0 (df.toNat, zt_Sst (S, H, L, a0 :: r, cc, ns) S' r) (List.mem_append_right _ (List.mem_append_left _ (List.mem_map.mpr ⟨S', m, rfl⟩))) ρ ph lv _ (zLE.refl ρ) ⟨gs', g2, g3, gr, g5⟩
          · obtain ⟨S', m, gs'⟩ := zGE_g g1 ex (zE0 ρ (lo + gs.length)) h
            exact k0 (df.toNat, zt_Sst (S, H, L, a0 :: r, cc, ns) S' r) (List.mem_append_right _ (List.mem_append_right _ (List.mem_map.mpr ⟨S', m, rfl⟩))) ρ ph lv _ (zLE.refl ρ) ⟨gs', g2, g3, gr, g5⟩
        · obtain ⟨S', gs', m⟩ := zx_tab1_g (t := (S, H, L, a0 :: r, cc, ns)) (r := r) g1 ex gs lo i hi he
          exact k0 _ (List.mem_append_left _ m) ρ ph lv _ (zLE.refl ρ) ⟨gs', g2, g3, gr, g5⟩
      · cases hts
  · cases hts
/-- lookupswitch: default, pairs -/
def zx_lk1 (t : zA_T) (r : List zA_V) (a : zA_V) (df : Int) : List (Int × Int) → List (Nat × zA_T)
  | [] => [(df.toNat, zt_st t r)]
  | q :: qs => zx_to q.2.toNat t r (zEQ t.1 a (0, q.1)) ++ zx_lk1 t r a df qs
def zx_lk0 (n : Int) (df : Int) : List (Int × Int) → Int
  | [] => df
  | q :: qs => if n = q.1 then q.2 else zx_lk0 n df qs
def zx_lk (df : Int) (qs : List (Int × Int)) (t : zA_T) : zA_R := match t.2.2.2.1 with
  | a0 :: r => let a := zn t.1 a0
    if a.1 = 0 then some [((zx_lk0 a.2 df qs).toNat, zt_st t r)] else if zIs a = true then some (zx_lk1 t r a df qs) else none
  | [] => none
theorem zx_lk1_g {t : zA_T} {r : List zA_V} {a : zA_V} {df : Int} {ρ : List Int} {n : Int} (hS : zg_S ρ t.1) (he : zE ρ a n) : ∀ (qs : List (Int × Int)), ∃ S', zg_S ρ S' ∧ ((zx_lk0 n df qs).toNat, zt_Sst t S' r) ∈ zx_lk1 t r a df qs
  | [] => ⟨t.1, hS, List.mem_singleton.mpr rfl⟩
  | q :: qs => by
    by_cases h : n = q.1
    · obtain ⟨S', m, gs'⟩ := zEQ_g hS he (zE0 ρ q.1) h
      refine ⟨S', gs', List.mem_append_left _ (List.mem_map.mpr ⟨S', m, ?_⟩)⟩
      simp [zx_lk0, h]
    · obtain ⟨S', g1, m⟩ := zx_lk1_g hS he qs
      refine ⟨S', g1, List.mem_append_right _ ?_⟩
      simp only [zx_lk0, if_neg h]
      exact m
theorem zo_lk {pc : Nat} {df : Int} {qs : List (Int × Int)} {t : zA_T} (hs : ∀ {lv st ph cc ns} {a : Int32}, ZW l d y X mc ms Q (zx_lk0 a.toInt df qs).toNat lv st ph cc ns → ZW l d y X mc ms Q pc lv (.int a :: st) ph cc ns) : zSd l d y X mc ms XL φ Q pc t (zx_lk df qs t) := by
  obtain ⟨S, H, L, s0, cc, ns⟩ := t
  intro ts hts ρ ph lv st g k0
  obtain ⟨g1, g2, g3, g4, g5⟩ := g
  unfold zx_lk at hts
  split at hts
  · next a0 r hst =>
    have hst : s0 = a0 :: r := hst
    subst hst
    obtain ⟨va, st1, rfl, ga0, gr⟩ := zL2.cons1 g4
    have ga := zn_g g1 ga0
    dsimp only at hts
    generalize hea : zn S a0 = a at *
    split at hts
    · next h0 =>
      obtain ⟨x, rfl, ex⟩ := zg_int (a := a) (by simp [zIs, h0]) ga
      have hx : x.toInt = a.2 := by rcases ex with ⟨-, e⟩ | ⟨e, -⟩ <;> omega
      cases hts
      refine hs ?_
      rw [hx]
      exact k0 _ (List.mem_singleton.mpr rfl) ρ ph lv _ (zLE.refl ρ) ⟨g1, g2, g3, gr, g5⟩
    · split at hts
      · next hI =>
        cases hts
        obtain ⟨x, rfl, ex⟩ := zg_int hI ga
        obtain ⟨S', gs', m⟩ := zx_lk1_g (t := (S, H, L, a0 :: r, cc, ns)) (r := r) (df := df) g1 ex qs
        exact hs (k0 _ m ρ ph lv _ (zLE.refl ρ) ⟨gs', g2, g3, gr, g5⟩)
      · cases hts
  · cases hts
/-- goto, pop, dup, dup2 -/
theorem zo_goto {pc nx : Nat} {t : zA_T} (hs : ∀ {lv st ph cc ns}, ZW l d y X mc ms Q nx lv st ph cc ns → ZW l d y X mc ms Q pc lv st ph cc ns) : zSd l d y X mc ms XL φ Q pc t (some [(nx, t)]) := by
  intro ts hts ρ ph lv st g k0
  cases hts
  exact hs (k0 _ (List.mem_singleton.mpr rfl) ρ ph lv st (zLE.refl ρ) g)
def zx_dup (w nx : Nat) (t : zA_T) : zA_R := match t.2.2.2.1 with
  | a :: r => if zcat a = 1 then
      (if w = 0 then some [(nx, zt_st t (a :: a :: r))] else if w = 1 then some [(nx, zt_st t r)] else match r with
        | b :: r2 => if zcat b = 1 then some [(nx, zt_st t (a :: b :: a :: b :: r2))] else none
        | [] => none) else none
  | [] => none
theorem zo_dup {w pc nx : Nat} {t : zA_T} (h0 : ∀ {lv st ph cc ns} {v : Value}, w = 0 → v.category = 1 → ZW l d y X mc ms Q nx lv (v :: v :: st) ph cc ns → ZW l d y X mc ms Q pc lv (v :: st) ph cc ns)
    (h1 : ∀ {lv st ph cc ns} {v : Value}, w = 1 → v.category = 1 → ZW l d y X mc ms Q nx lv st ph cc ns → ZW l d y X mc ms Q pc lv (v :: st) ph cc ns)
    (h2 : ∀ {lv st ph cc ns} {v u : Value}, w ≠ 0 → w ≠ 1 → v.category = 1 → u.category = 1 → ZW l d y X mc ms Q nx lv (v :: u :: v :: u :: st) ph cc ns → ZW l d y X mc ms Q pc lv (v :: u :: st) ph cc ns) : zSd l d y X mc ms XL φ Q pc t (zx_dup w nx t) := by
  obtain ⟨S, H, L, s0, cc, ns⟩ := t
  intro ts hts ρ ph lv st g k0
  obtain ⟨g1, g2, g3, g4, g5⟩ := g
  unfold zx_dup at hts
  split at hts
  · next a r hst =>
    have hst : s0 = a :: r := hst
    subst hst
    obtain ⟨va, st1, rfl, ga, gr⟩ := zL2.cons1 g4
    split at hts
    · next hc =>
      have hcv : va.category = 1 := (zg_cat ga).trans hc
      split at hts
      · next e => cases hts; exact h0 e hcv (k0 _ (List.mem_singleton.mpr rfl) ρ ph lv _ (zLE.refl ρ) ⟨g1, g2, g3, ⟨ga, ga, gr⟩, g5⟩)
      · next e =>
        split at hts
        · next e1 => cases hts; exact h1 e1 hcv (k0 _ (List.mem_singleton.mpr rfl) ρ ph lv _ (zLE.refl ρ) ⟨g1, g2, g3, gr, g5⟩)
        · next e1 =>
          split at hts
          · next b r2 =>
            obtain ⟨vb, st2, rfl, gb, gr2⟩ := zL2.cons1 gr
            split at hts
            · next hc2 =>
              cases hts
              exact h2 e e1 hcv ((zg_cat gb).trans hc2) (k0 _ (List.mem_singleton.mpr rfl) ρ ph lv _ (zLE.refl ρ) ⟨g1, g2, g3, ⟨ga, gb, ga, gb, gr2⟩, g5⟩)
            · cases hts
          · cases hts
    · cases hts
  · cases hts
/-- i2l, l2i, ineg, iinc -/
def zx_i2l (nx : Nat) (t : zA_T) : zA_R := match t.2.2.2.1 with
  | a0 :: r => let a := zn t.1 a0
    if a.1 = 0 then some [(nx, zt_st t ((4, a.2) :: r))] else if a.1 = 1 then some [(nx, zt_st t ((5, a.2) :: r))] else none
  | [] => none
theorem zo_i2l {pc nx : Nat} {t : zA_T} (hs : ∀ {lv st ph cc ns} {a : Int32}, ZW l d y X mc ms Q nx lv (.long a.toInt64 :: st) ph cc ns → ZW l d y X mc ms Q pc lv (.int a :: st) ph cc ns) : zSd l d y X mc ms XL φ Q pc t (zx_i2l nx t) := by
  obtain ⟨S, H, L, s0, cc, ns⟩ := t
  intro ts hts ρ ph lv st g k0
  obtain ⟨g1, g2, g3, g4, g5⟩ := g
  unfold zx_i2l at hts
  split at hts
  · next a0 r hst =>
    have hst : s0 = a0 :: r := hst
    subst hst
    obtain ⟨va, st1, rfl, ga0, gr⟩ := zL2.cons1 g4
    have ga := zn_g g1 ga0
    dsimp only at hts
    generalize hea : zn S a0 = a at *
    split at hts
    · next h0 =>
      cases hts
      obtain ⟨x, rfl, ex⟩ := zg_int (a := a) (by simp [zIs, h0]) ga
      have hx : x.toInt = a.2 := by rcases ex with ⟨-, e⟩ | ⟨e, -⟩ <;> omega
      exact hs (k0 _ (List.mem_singleton.mpr rfl) ρ ph lv _ (zLE.refl ρ) ⟨g1, g2, g3, ⟨zg_ofJ (by rw [Int32.toInt_toInt64]; exact hx), gr⟩, g5⟩)
    · split at hts
      · next h1 =>
        cases hts
        rcases ga with ⟨g, -⟩ | ⟨g, x, rfl, e2⟩ | ⟨g, -⟩ | ⟨g, -⟩ | ⟨g, -⟩ | ⟨g, -⟩ | ⟨g, -⟩
        · omega
        · exact hs (k0 _ (List.mem_singleton.mpr rfl) ρ ph lv _ (zLE.refl ρ) ⟨g1, g2, g3, ⟨Or.inr (Or.inr (Or.inr (Or.inr (Or.inr (Or.inl ⟨rfl, _, rfl, by rw [Int32.toInt_toInt64]; exact e2⟩))))), gr⟩, g5⟩)
        all_goals omega
      · cases hts
  · cases hts
def zx_neg (nx : Nat) (t : zA_T) : zA_R := match t.2.2.2.1 with
  | a0 :: r => let a := zn t.1 a0
    if a.1 = 0 then some [(nx, zt_st t ((0, zw32 (- a.2)) :: r))] else if a.1 = 1 then (match zr t.1 a with
      | some q => zx_new (zcl (- q.2, - q.1)) (11, (0, 0), a) nx t r
      | none => none) else none
  | [] => none
theorem zo_neg {pc nx : Nat} {t : zA_T} (hs : ∀ {lv st ph cc ns} {a : Int32}, ZW l d y X mc ms Q nx lv (.int (-a) :: st) ph cc ns → ZW l d y X mc ms Q pc lv (.int a :: st) ph cc ns) : zSd l d y X mc ms XL φ Q pc t (zx_neg nx t) := by
  obtain ⟨S, H, L, s0, cc, ns⟩ := t
  intro ts hts ρ ph lv st g k0
  obtain ⟨g1, g2, g3, g4, g5⟩ := g
  unfold zx_neg at hts
  split at hts
  · next a0 r hst =>
    have hst : s0 = a0 :: r := hst
    subst hst
    obtain ⟨va, st1, rfl, ga0, gr⟩ := zL2.cons1 g4
    have ga := zn_g g1 ga0
    dsimp only at hts
    generalize hea : zn S a0 = a at *
    split at hts
    · next h0 =>
      cases hts
      obtain ⟨x, rfl, ex⟩ := zg_int (a := a) (by simp [zIs, h0]) ga
      have hx : x.toInt = a.2 := by rcases ex with ⟨-, e⟩ | ⟨e, -⟩ <;> omega
      exact hs (k0 _ (List.mem_singleton.mpr rfl) ρ ph lv _ (zLE.refl ρ) ⟨g1, g2, g3, ⟨zg_ofI (by rw [zw32_eq, ← hx]; exact Int32.toInt_neg x), gr⟩, g5⟩)
    · split at hts
      · next h1 =>
        obtain ⟨x, rfl, ex⟩ := zg_int (a := a) (by simp [zIs, h1]) ga
        split at hts
        · next q hq =>
          have b := zr_in g1 ex hq
          have b3 := zcl_in (q := (- q.2, - q.1)) (Int32.toInt_neg x) (by show - q.2 ≤ _; omega) (by show _ ≤ - q.1; omega)
          obtain ⟨t', ρ', m, hle, gt, e⟩ := zx_new_g (φ := φ) hts g1 g2 g3 gr g5 b3.1 b3.2 (Or.inr ⟨_, _, zE0 ρ 0, ex, by
            show (-x).toInt = zb_c 11 0 x.toInt
            have e0 : zb_c 11 0 x.toInt = zw32 (0 - x.toInt) := rfl
            rw [e0, zw32_eq, Int.zero_sub]
            exact Int32.toInt_neg x⟩)
          have := k0 _ m ρ' ph lv _ hle gt
          rw [e] at this
          exact hs this
        · cases hts
      · cases hts
  · cases hts
def zx_inc (i : Nat) (n : Int) (nx : Nat) (t : zA_T) : zA_R := match t.2.2.1.lookup i with
  | some a0 => let a := zn t.1 a0
    if a.1 = 0 then some [(nx, zt_L t (zS1 t.2.2.1 i (0, zw32 (a.2 + n))) t.2.2.2.1)] else if a.1 = 1 then (match zr t.1 a with
      | some q => some [(nx, (t.1 ++ [((zcl (q.1 + n, q.2 + n)).1, (zcl (q.1 + n, q.2 + n)).2, 10, a, (0, n))], t.2.1, zS1 t.2.2.1 i (1, (t.1.length : Int)), t.2.2.2))]
      | none => none) else none
  | none => none
theorem zo_inc {i pc nx : Nat} {n : Int} {t : zA_T} (hn : (Int32.ofInt n).toInt = n) (hs : ∀ {lv st ph cc ns} {x : Int32}, lv.lookup i = some (.int x) → ZW l d y X mc ms Q nx (z_st1 lv i (.int (x + Int32.ofInt n))) st ph cc ns → ZW l d y X mc ms Q pc lv st ph cc ns) : zSd l d y X mc ms XL φ Q pc t (zx_inc i n nx t) := by
  obtain ⟨S, H, L, s0, cc, ns⟩ := t
  intro ts hts ρ ph lv st g k0
  obtain ⟨g1, g2, g3, g4, g5⟩ := g
  unfold zx_inc at hts
  split at hts
  · next a0 hst =>
    obtain ⟨va, hv, ga0⟩ := zg_L.look g3 hst
    have ga := zn_g g1 ga0
    dsimp only at hts
    generalize hea : zn S a0 = a at *
    have hadd : ∀ x : Int32, (x + Int32.ofInt n).toInt = (x.toInt + n).bmod 4294967296 := fun x => by
      have := Int32.toInt_add x (Int32.ofInt n)
      rw [hn] at this
      exact this
    split at hts
    · next h0 =>
      cases hts
      obtain ⟨x, rfl, ex⟩ := zg_int (a := a) (by simp [zIs, h0]) ga
      have hx : x.toInt = a.2 := by rcases ex with ⟨-, e⟩ | ⟨e, -⟩ <;> omega
      exact hs hv (k0 _ (List.mem_singleton.mpr rfl) ρ ph _ st (zLE.refl ρ) ⟨g1, g2, zS1_g g3 (zg_ofI (by rw [zw32_eq, ← hx]; exact hadd x)), g4, g5⟩)
    · split at hts
      · next h1 =>
        obtain ⟨x, rfl, ex⟩ := zg_int (a := a) (by simp [zIs, h1]) ga
        split at hts
        · next q hq =>
          cases hts
          have b := zr_in g1 ex hq
          have b3 := zcl_in (q := (q.1 + n, q.2 + n)) (hadd x) (by show q.1 + n ≤ _; omega) (by show _ ≤ q.2 + n; omega)
          have hle := zLE.app ρ (x + Int32.ofInt n).toInt
          exact hs hv (k0 _ (List.mem_singleton.mpr rfl) (ρ ++ [(x + Int32.ofInt n).toInt]) ph _ st hle ⟨g1.pushD b3.1 b3.2 (Or.inr ⟨_, _, ex, zE0 ρ n, by
            show (x + Int32.ofInt n).toInt = zb_c 10 x.toInt n
            have e0 : zb_c 10 x.toInt n = zw32 (x.toInt + n) := rfl
            rw [e0, zw32_eq]
            exact hadd x⟩), zL2.mono (fun _ _ => zg_C.mono hle) g2, zS1_g (zL2.mono (fun _ _ q => ⟨q.1, q.2.mono hle⟩) g3) (zg_ofK (g1.at _)), zL2.mono (fun _ _ => zg_V.mono hle) g4, g5.mono hle⟩)
        · cases hts
      · cases hts
  · cases hts
/-- an int, a long of which nothing is known -/
def zx_newJ (nx : Nat) (t : zA_T) (r : List zA_V) : zA_R := some [(nx, zt_Sst t (t.1 ++ [(zfullJ.1, zfullJ.2, zD0)]) ((5, (t.1.length : Int)) :: r))]
def zx_jop (nx : Nat) (t : zA_T) (ty : Nat) : zA_R := match t.2.2.2.1 with
  | b :: a :: r => if zIsJ a = true then (if zx_ty ty b = true then zx_newJ nx t r else none) else none
  | _ => none
theorem zx_newJ_g {nx : Nat} {t : zA_T} {r : List zA_V} {ρ : List Int} {ph : List z_C} {lv : List (Nat × Value)} {st : List Value} (x : Int64) {ts : List (Nat × zA_T)} (h : zx_newJ nx t r = some ts) (g1 : zg_S ρ t.1) (g2 : zL2 (zg_C φ ρ) t.2.1 ph) (g3 : zg_L ρ t.2.2.1 lv) (gr : zL2 (zg_V ρ) r st) (g5 : zg_X ρ XL X) :
    ∃ t' ρ', (nx, t') ∈ ts ∧ zLE ρ ρ' ∧ zg_T XL X φ ρ' t' ph lv (.long x :: st) ∧ t'.2.2.2.2 = t.2.2.2.2 := by
  cases h
  have hle := zLE.app ρ x.toInt
  have h1 := Int64.le_toInt x
  have h2 := Int64.toInt_lt x
  exact ⟨_, ρ ++ [x.toInt], List.mem_singleton.mpr rfl, hle, ⟨g1.push (q := zfullJ) (by show -9223372036854775808 ≤ _; omega) (by show _ ≤ 9223372036854775807; omega), zL2.mono (fun _ _ => zg_C.mono hle) g2, zL2.mono (fun _ _ q => ⟨q.1, q.2.mono hle⟩) g3, ⟨zg_ofKJ (g1.at _), zL2.mono (fun _ _ => zg_V.mono hle) gr⟩, g5.mono hle⟩, rfl⟩
theorem zo_jop {pc nx ty : Nat} {t : zA_T} (hty : ty < 2) (h0 : ∀ {lv st ph cc ns} {a b : Int64}, ty = 1 → (∃ x, ZW l d y X mc ms Q nx lv (.long x :: st) ph cc ns → ZW l d y X mc ms Q pc lv (.long b :: .long a :: st) ph cc ns))
    (h1 : ∀ {lv st ph cc ns} {a : Int64} {b : Int32}, ty = 0 → (∃ x, ZW l d y X mc ms Q nx lv (.long x :: st) ph cc ns → ZW l d y X mc ms Q pc lv (.int b :: .long a :: st) ph cc ns)) : zSd l d y X mc ms XL φ Q pc t (zx_jop nx t ty) := by
  obtain ⟨S, H, L, s0, cc, ns⟩ := t
  intro ts hts ρ ph lv st g k0
  obtain ⟨g1, g2, g3, g4, g5⟩ := g
  unfold zx_jop at hts
  split at hts
  · next b a r hst =>
    have hst : s0 = b :: a :: r := hst
    subst hst
    obtain ⟨vb, st1, rfl, gb, gr1⟩ := zL2.cons1 g4
    obtain ⟨va, st2, rfl, ga, gr⟩ := zL2.cons1 gr1
    split at hts
    · next hI =>
      split at hts
      · next hb =>
        obtain ⟨z, rfl, -⟩ := zg_long hI ga
        rcases (by omega : ty = 0 ∨ ty = 1) with e | e
        · subst e
          obtain ⟨w, rfl, -⟩ := zg_int (by simpa [zx_ty] using hb) gb
          obtain ⟨x, hx⟩ := h1 (lv := lv) (st := st2) (ph := ph) (cc := cc) (ns := ns) (a := z) (b := w) rfl
          obtain ⟨t', ρ', m, hle, gt, e⟩ := zx_newJ_g (φ := φ) x hts g1 g2 g3 gr g5
          have := k0 _ m ρ' ph lv _ hle gt
          rw [e] at this
          exact hx this
        · subst e
          obtain ⟨w, rfl, -⟩ := zg_long (by simpa [zx_ty] using hb) gb
          obtain ⟨x, hx⟩ := h0 (lv := lv) (st := st2) (ph := ph) (cc := cc) (ns := ns) (a := z) (b := w) rfl
          obtain ⟨t', ρ', m, hle, gt, e⟩ := zx_newJ_g (φ := φ) x hts g1 g2 g3 gr g5
          have := k0 _ m ρ' ph lv _ hle gt
          rw [e] at this
          exact hx this
      · cases hts
    · cases hts
  · cases hts
end ZO
