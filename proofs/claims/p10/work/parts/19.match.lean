/-! PART 19: states that fit a pattern; what is known of names; heads of loops. -/
/-- two heaps are the same -/
def zVeq (a b : zA_V) : Bool := Nat.beq a.1 b.1 && decide (a.2 = b.2)
def zLeq {α : Type} (e : α → α → Bool) : List α → List α → Bool
  | [], [] => true
  | a :: as, b :: bs => e a b && zLeq e as bs
  | _, _ => false
theorem zLeq_eq {α : Type} {e : α → α → Bool} (h : ∀ a b, e a b = true → a = b) : ∀ {as bs : List α}, zLeq e as bs = true → as = bs
  | [], [], _ => rfl
  | a :: as, b :: bs, g => by
    obtain ⟨g1, g2⟩ := zw_and g
    rw [h _ _ g1, zLeq_eq h g2]
  | [], _ :: _, g => by cases g
  | _ :: _, [], g => by cases g
theorem zVeq_eq (a b : zA_V) (h : zVeq a b = true) : a = b := by
  obtain ⟨h1, h2⟩ := zw_and h
  exact Prod.ext (Nat.eq_of_beq_eq_true h1) (of_decide_eq_true h2)
def zKeq (a b : Nat × zA_V) : Bool := Nat.beq a.1 b.1 && zVeq a.2 b.2
theorem zKeq_eq (a b : Nat × zA_V) (h : zKeq a b = true) : a = b := by
  obtain ⟨h1, h2⟩ := zw_and h
  exact Prod.ext (Nat.eq_of_beq_eq_true h1) (zVeq_eq _ _ h2)
def zCeq (a b : zA_C) : Bool := Nat.beq a.1 b.1 && (Nat.beq a.2.1 b.2.1 && (Nat.beq a.2.2.1 b.2.2.1 && (zLeq zVeq a.2.2.2.1 b.2.2.2.1 && zLeq zKeq a.2.2.2.2 b.2.2.2.2)))
theorem zCeq_eq (a b : zA_C) (h : zCeq a b = true) : a = b := by
  obtain ⟨h1, h⟩ := zw_and h
  obtain ⟨h2, h⟩ := zw_and h
  obtain ⟨h3, h⟩ := zw_and h
  obtain ⟨h4, h5⟩ := zw_and h
  exact Prod.ext (Nat.eq_of_beq_eq_true h1) (Prod.ext (Nat.eq_of_beq_eq_true h2) (Prod.ext (Nat.eq_of_beq_eq_true h3) (Prod.ext (zLeq_eq zVeq_eq h4) (zLeq_eq zKeq_eq h5))))
def zHeq (a b : zA_H) : Bool := zLeq zCeq a b
theorem zHeq_eq {a b : zA_H} (h : zHeq a b = true) : a = b := zLeq_eq zCeq_eq h
def zEeq (a b : Int × Int × zA_D) : Bool := decide (a.1 = b.1) && (decide (a.2.1 = b.2.1) && (Nat.beq a.2.2.1 b.2.2.1 && (zVeq a.2.2.2.1 b.2.2.2.1 && zVeq a.2.2.2.2 b.2.2.2.2)))
theorem zEeq_eq (a b : Int × Int × zA_D) (h : zEeq a b = true) : a = b := by
  obtain ⟨h1, h⟩ := zw_and h
  obtain ⟨h2, h⟩ := zw_and h
  obtain ⟨h3, h⟩ := zw_and h
  obtain ⟨h4, h5⟩ := zw_and h
  exact Prod.ext (of_decide_eq_true h1) (Prod.ext (of_decide_eq_true h2) (Prod.ext (Nat.eq_of_beq_eq_true h3) (Prod.ext (zVeq_eq _ _ h4) (zVeq_eq _ _ h5))))
def zteq (a b : zA_T) : Bool := zLeq zEeq a.1 b.1 && (zHeq a.2.1 b.2.1 && (zLeq zKeq a.2.2.1 b.2.2.1 && (zLeq zVeq a.2.2.2.1 b.2.2.2.1 && decide (a.2.2.2.2 = b.2.2.2.2))))
theorem zteq_eq {a b : zA_T} (h : zteq a b = true) : a = b := by
  obtain ⟨h1, h⟩ := zw_and h
  obtain ⟨h2, h⟩ := zw_and h
  obtain ⟨h3, h⟩ := zw_and h
  obtain ⟨h4, h5⟩ := zw_and h
  exact Prod.ext (zLeq_eq zEeq_eq h1) (Prod.ext (zHeq_eq h2) (Prod.ext (zLeq_eq zKeq_eq h3) (Prod.ext (zLeq_eq zVeq_eq h4) (of_decide_eq_true h5))))
def zfinR (H' : zA_H) (r' : Option zA_V) (t : zA_T) (r : Option zA_V) : Bool := zHeq t.2.1 H' && decide (r = r')
def zcnV (a : zA_V) : Bool := !(a.1 == 1) && !(a.1 == 5)
def zcnC (a : zA_C) : Bool := a.2.2.2.1.all zcnV && (a.2.2.2.2.all (fun q => zcnV q.2) && a.2.2.2.2.all (fun q => !(Nat.ble 1000000 q.1)))
theorem zcnV_g {ρ ρ' : List Int} {a : zA_V} {v : Value} (h : zcnV a = true) (g : zg_V ρ a v) : zg_V ρ' a v := by
  simp only [zcnV, Bool.and_eq_true, Bool.not_eq_true', beq_eq_false_iff_ne, ne_eq] at h
  rcases g with g | ⟨g, -⟩ | g | g | g | ⟨g, -⟩ | g
  · exact Or.inl g
  · exact absurd g h.1
  · exact Or.inr (Or.inr (Or.inl g))
  · exact Or.inr (Or.inr (Or.inr (Or.inl g)))
  · exact Or.inr (Or.inr (Or.inr (Or.inr (Or.inl g))))
  · exact absurd g h.2
  · exact Or.inr (Or.inr (Or.inr (Or.inr (Or.inr (Or.inr g)))))
theorem zcn_lk : ∀ {l : List (Nat × zA_V)} {j : Nat} {a : zA_V}, l.all (fun q => zcnV q.2) = true → l.lookup j = some a → zcnV a = true
  | [], _, _, _, h => by cases h
  | (k, b) :: l, j, a, h, hl => by
    simp only [List.all_cons, Bool.and_eq_true] at h
    rw [List.lookup_cons] at hl
    cases hjk : j == k with
    | true => rw [hjk] at hl; cases hl; exact h.1
    | false => rw [hjk] at hl; exact zcn_lk h.2 hl
theorem zcn_el {c : zA_C} (h : zcnC c = true) (j : Nat) : zcnV ((c.2.2.2.2.lookup j).getD (c.2.2.2.1.headD (3, 0))) = true := by
  simp only [zcnC, Bool.and_eq_true] at h
  cases hl : c.2.2.2.2.lookup j with
  | some a => exact zcn_lk h.2.1 hl
  | none =>
    cases hv : c.2.2.2.1 with
    | nil => rfl
    | cons a r => rw [hv] at h; simp only [List.all_cons, Bool.and_eq_true] at h; exact h.1.1
theorem zcn_all {ρ ρ' : List Int} : ∀ {as : List zA_V} {vs : List Value}, as.all zcnV = true → zL2 (zg_V ρ) as vs → zL2 (zg_V ρ') as vs
  | [], [], _, _ => trivial
  | a :: as, v :: vs, h, g => by
    simp only [List.all_cons, Bool.and_eq_true] at h
    exact ⟨zcnV_g h.1 g.1, zcn_all h.2 g.2⟩
  | [], _ :: _, _, g => g.elim
  | _ :: _, [], _, g => g.elim
theorem zcnC_Y {ρ' : List Int} {a : zA_C} (h : zcnC a = true) (n : Nat) (el : Nat → Value) : zg_Y ρ' n a.2.2.2.2 el := by
  intro q hq hk
  simp only [zcnC, Bool.and_eq_true] at h
  have := List.all_eq_true.mp h.2.2 q hq
  rw [Nat.ble_eq_true_of_le hk] at this
  exact absurd this (by decide)
theorem zcn_hd {vs : List zA_V} (h : vs.all zcnV = true) : zcnV (vs.headD (3, 0)) = true := by
  cases vs with
  | nil => rfl
  | cons a r => simp only [List.all_cons, Bool.and_eq_true] at h; exact h.1
theorem zcnC_g {φ : List z_C} {ρ ρ' : List Int} {a : zA_C} {c : z_C} (h : zcnC a = true) (g : zg_C φ ρ a c) : zg_C φ ρ' a c := by
  rcases g with g | ⟨h1, fs, e, g⟩ | ⟨h1, h2, f, e, g, -⟩ | ⟨h1, h2, f, e, g, -⟩ | ⟨h1, h2, f, e, g, -⟩
  · refine Or.inl ⟨g.1, g.2.1, fun h0 => ?_⟩
    rcases g.2.2 h0 with ⟨f, e, k, g, -⟩ | ⟨f, e, k, g, -⟩
    · exact Or.inl ⟨f, e, k, fun j hj => zcnV_g (zcn_el h j) (g j hj), zcnC_Y h _ _⟩
    · exact Or.inr ⟨f, e, k, fun j hj => zcnV_g (zcn_el h j) (g j hj), zcnC_Y h _ _⟩
  · refine Or.inr (Or.inl ⟨h1, fs, e, ?_, g.2⟩)
    simp only [zcnC, Bool.and_eq_true] at h
    exact zcn_all h.1 g.1
  · exact Or.inr (Or.inr (Or.inl ⟨h1, h2, f, e, fun j hj => zcnV_g (zcn_el h j) (g j hj), zcnC_Y h _ _⟩))
  · exact Or.inr (Or.inr (Or.inr (Or.inl ⟨h1, h2, f, e, fun j hj => zcnV_g (zcn_el h j) (g j hj), zcnC_Y h _ _⟩)))
  · exact Or.inr (Or.inr (Or.inr (Or.inr ⟨h1, h2, f, e, fun j hj => zcnV_g (zcn_el h j) (g j hj), zcnC_Y h _ _⟩)))
theorem zcnH_g {φ : List z_C} {ρ ρ' : List Int} : ∀ {H : zA_H} {ph : List z_C}, H.all zcnC = true → zL2 (zg_C φ ρ) H ph → zL2 (zg_C φ ρ') H ph
  | [], [], _, _ => trivial
  | a :: as, v :: vs, h, g => by
    simp only [List.all_cons, Bool.and_eq_true] at h
    exact ⟨zcnC_g h.1 g.1, zcnH_g h.2 g.2⟩
  | [], _ :: _, _, g => g.elim
  | _ :: _, [], _, g => g.elim
theorem ZW.deeper {l : Launch} {d d' : Nat} {y : zx_Y} {X : zx_X} {mc ms : Nat} {Q : Option Value → List z_C → Prop} {pc : Nat} {lv : List (Nat × Value)} {st : List Value} {ph : List z_C} {cc ns : Nat} (h : d ≤ d') (k : ZW l d y X mc ms Q pc lv st ph cc ns) : ZW l d' y X mc ms Q pc lv st ph cc ns :=
  fun K p e R s m args below meth c H locs QF ls C w h4 r hl => k K p e R s m args below meth c H locs QF ls C w ⟨Nat.le_trans h h4.1, Nat.le_trans (Nat.mul_le_mul_left 40 (Nat.succ_le_succ h)) h4.2.1, h4.2.2⟩ r hl
theorem zcnR_g {ρ ρ' : List Int} {a : zA_V} (h : zcnV a = true) : ∀ {v : Option Value}, zg_R ρ (some a) v → zg_R ρ' (some a) v
  | none, g => g.elim
  | some _, g => zcnV_g h g
theorem ZW.lsub {l : Launch} {d : Nat} {y : zx_Y} {X : zx_X} {mc ms : Nat} {Q : Option Value → List z_C → Prop} {pc : Nat} {lv lv' : List (Nat × Value)} {st : List Value} {ph : List z_C} {cc ns : Nat} (h : ∀ q ∈ lv', q ∈ lv) (k : ZW l d y X mc ms Q pc lv' st ph cc ns) : ZW l d y X mc ms Q pc lv st ph cc ns :=
  fun K p e R s m args below meth c H locs QF ls C w h4 r hl => k K p e R s m args below meth c H locs QF ls C w h4 r ⟨hl.1, hl.2.1, fun q hq => by
    obtain ⟨q', hq', rfl⟩ := List.mem_map.mp hq
    exact hl.2.2 _ (List.mem_map.mpr ⟨q', h q' hq', rfl⟩)⟩
/-- a name that was made by an operation -/
theorem zD_use {ρ : List Int} {S : zA_S} {j k : Nat} {lo hi x y : Int} {a b : zA_V} (hS : zg_S ρ S) (h : S[j]? = some (lo, hi, (k, a, b))) (hk : k ≠ 0) (ha : zE ρ a x) (hb : zE ρ b y) : ρ[j]? = some (zb_c k x y) ∧ lo ≤ zb_c k x y ∧ zb_c k x y ≤ hi := by
  obtain ⟨n, e1, e2⟩ := zL2.getR hS h
  rcases e2.2.2 with h0 | ⟨x', y', g1, g2, e⟩
  · exact absurd h0 hk
  · have u1 := zE_fun g1 ha
    have u2 := zE_fun g2 hb
    subst u1 u2
    subst e
    exact ⟨e1, e2.1, e2.2.1⟩
theorem zS_rng {ρ : List Int} {S : zA_S} {j : Nat} {lo hi n : Int} {D : zA_D} (hS : zg_S ρ S) (h : S[j]? = some (lo, hi, D)) (e : ρ[j]? = some n) : lo ≤ n ∧ n ≤ hi := by
  obtain ⟨m, e1, e2⟩ := zL2.getR hS h
  rw [e] at e1
  cases e1
  exact ⟨e2.1, e2.2.1⟩
theorem zEk {ρ : List Int} {j : Nat} {n : Int} (h : ρ[j]? = some n) : zE ρ (1, (j : Int)) n := Or.inr ⟨Or.inl rfl, by simpa using h⟩
/-- the number of a constant or a name -/
def zval (ρ : List Int) (a : zA_V) : Int := if a.1 = 0 then a.2 else ρ.getD a.2.toNat 0
theorem zval_E {ρ : List Int} {a : zA_V} {n : Int} (h : zIs a = true) (g : zE ρ a n) : zval ρ a = n := by
  unfold zval
  rcases g with ⟨g1, g2⟩ | ⟨g1, g2⟩
  · simp only [zIs, Bool.or_eq_true, beq_iff_eq] at h
    rw [if_pos (by omega), g2]
  · rw [if_neg (by omega), List.getD_eq_getElem?_getD, g2]
    rfl
/-- a value of t as a pattern has it: its names stand for the values σ -/
def zmV (S : zA_S) (σ : List zA_V) (a a0 : zA_V) : Bool :=
  if a0.1 = 1 then (match σ[a0.2.toNat]? with
    | some b => (zVeq (zn S a) b || zVeq a b) && zIs b
    | none => false)
  else if 6 ≤ a0.1 then (match zVeq a a0 with
    | true => true
    | false => zfw S a a0)
  else zVeq (zn S a) a0 && zcnV a0
theorem zmV_g {ρ ρ' : List Int} {S : zA_S} {σ : List zA_V} {a a0 : zA_V} {v : Value} (hS : zg_S ρ S) (hσ : ρ' = σ.map (zval ρ)) (h : zmV S σ a a0 = true) (g : zg_V ρ a v) : zg_V ρ' a0 v := by
  subst hσ
  unfold zmV at h
  split at h
  · next h1 =>
    split at h
    · next b hb =>
      obtain ⟨h2, h3⟩ := zw_and h
      have g' : zg_V ρ b v := by
        rcases zw_or h2 with h2 | h2
        · exact zVeq_eq _ _ h2 ▸ zn_g hS g
        · exact zVeq_eq _ _ h2 ▸ g
      obtain ⟨x, rfl, ex⟩ := zg_int h3 g'
      refine Or.inr (Or.inl ⟨h1, x, rfl, ?_⟩)
      rw [List.getElem?_map, hb, Option.map_some, zval_E h3 ex]
    · cases h
  · split at h
    · next h6 =>
      split at h
      · next h7 =>
        have e := zVeq_eq _ _ h7
        subst e
        exact zcnV_g (by simp only [zcnV, Bool.and_eq_true, Bool.not_eq_true', beq_eq_false_iff_ne, ne_eq]; omega) g
      · exact zcnV_g (by simp only [zcnV, Bool.and_eq_true, Bool.not_eq_true', beq_eq_false_iff_ne, ne_eq]; omega) (zfw_g hS g h6 h)
    · obtain ⟨h2, h3⟩ := zw_and h
      have e := zVeq_eq _ _ h2
      have g' := zn_g hS g
      rw [e] at g'
      exact zcnV_g h3 g'
def zmS (S : zA_S) : List zA_V → zA_S → Bool
  | [], [] => true
  | b :: σ, q :: S0 => zIs b && ((match zr S b with
    | some p => decide (q.1 ≤ p.1 ∧ p.2 ≤ q.2.1)
    | none => false) && (Nat.beq q.2.2.1 0 && zmS S σ S0))
  | _, _ => false
theorem zr_E {ρ : List Int} {S : zA_S} {b : zA_V} {p : Int × Int} (hS : zg_S ρ S) (hb : zIs b = true) (h : zr S b = some p) : ∃ n, zE ρ b n := by
  simp only [zIs, Bool.or_eq_true, beq_iff_eq] at hb
  rcases hb with hb | hb
  · exact ⟨b.2, Or.inl ⟨Or.inl hb, rfl⟩⟩
  · unfold zr at h
    rw [if_neg (by omega), if_pos hb] at h
    unfold zat at h
    split at h
    · next q hq =>
      obtain ⟨n, e, -⟩ := zL2.getR hS hq
      exact ⟨n, Or.inr ⟨Or.inl hb, e⟩⟩
    · cases h
theorem zmS_g {ρ ρ' : List Int} {S : zA_S} (hS : zg_S ρ S) : ∀ {σ : List zA_V} {S0 : zA_S}, zmS S σ S0 = true → zL2 (zg_E ρ') (σ.map (zval ρ)) S0
  | [], [], _ => trivial
  | b :: σ, q :: S0, h => by
    unfold zmS at h
    obtain ⟨h1, h2⟩ := zw_and h
    obtain ⟨h3, h4⟩ := zw_and h2
    obtain ⟨h5, h6⟩ := zw_and h4
    split at h3
    · next p hp =>
      have h3 := of_decide_eq_true h3
      obtain ⟨n, en⟩ := zr_E hS h1 hp
      have bn := zr_in hS en hp
      refine ⟨⟨?_, ?_, Or.inl (Nat.eq_of_beq_eq_true h5)⟩, zmS_g hS h6⟩
      · rw [zval_E h1 en]; omega
      · rw [zval_E h1 en]; omega
    · cases h3
  | [], _ :: _, h => by cases h
  | _ :: _, [], h => by cases h
def zmL (S : zA_S) (σ : List zA_V) (L : zA_L) : zA_L → Bool
  | [] => true
  | q :: L0 => (match L.lookup q.1 with
    | some a => zmV S σ a q.2
    | none => false) && zmL S σ L L0
theorem z_look_mem {lv : List (Nat × Value)} {i : Nat} {v : Value} (h : lv.lookup i = some v) : (i, v) ∈ lv := by
  obtain ⟨k, hk⟩ := z_lookup_get h
  exact List.mem_of_getElem? hk
theorem zmL_g {ρ ρ' : List Int} {S : zA_S} {σ : List zA_V} {L : zA_L} {lv : List (Nat × Value)} (hS : zg_S ρ S) (hσ : ρ' = σ.map (zval ρ)) (g : zg_L ρ L lv) : ∀ {L0 : zA_L}, zmL S σ L L0 = true → ∃ lv0, zg_L ρ' L0 lv0 ∧ ∀ q ∈ lv0, q ∈ lv
  | [], _ => ⟨[], trivial, fun q h => by cases h⟩
  | q :: L0, h => by
    unfold zmL at h
    obtain ⟨h1, h2⟩ := zw_and h
    obtain ⟨lv0, g0, m0⟩ := zmL_g hS hσ g h2
    split at h1
    · next a ha =>
      obtain ⟨v, hv, gv⟩ := zg_L.look g ha
      refine ⟨(q.1, v) :: lv0, ⟨⟨rfl, zmV_g hS hσ h1 gv⟩, g0⟩, fun p hp => ?_⟩
      rcases List.mem_cons.mp hp with rfl | hp
      · exact z_look_mem hv
      · exact m0 p hp
    · cases h1
def zmA (S : zA_S) (σ : List zA_V) (a b : zA_C) : Bool := zmV S σ (a.2.2.2.1.headD (3, 0)) (b.2.2.2.1.headD (3, 0)) && (Nat.ble b.2.2.1 1000000 && (b.2.2.2.2.all (fun q => !(Nat.ble 1000000 q.1) && zmV S σ (zx_el a q.1) q.2) && a.2.2.2.2.all (fun q => Nat.ble 1000000 q.1 || zmV S σ (zx_el a q.1) (zx_el b q.1))))
def zmC (S : zA_S) (σ : List zA_V) (a b : zA_C) : Bool := Nat.beq a.1 b.1 && (Nat.beq a.2.1 b.2.1 && (if a.1 = 8 then Nat.beq a.2.2.1 b.2.2.1 && (zLeq zVeq a.2.2.2.1 b.2.2.2.1 && (Nat.beq a.2.2.1 0 || zmA S σ a b)) else if a.1 = 0 then zLeq (zmV S σ) a.2.2.2.1 b.2.2.2.1 && b.2.2.2.2.all (fun q => a.2.2.2.2.any (fun p => zKeq p q)) else Nat.beq a.2.2.1 b.2.2.1 && zmA S σ a b))
theorem zmF_g {ρ ρ' : List Int} {S : zA_S} {σ : List zA_V} (hS : zg_S ρ S) (hσ : ρ' = σ.map (zval ρ)) : ∀ {as bs : List zA_V} {vs : List Value}, zLeq (zmV S σ) as bs = true → zL2 (zg_V ρ) as vs → zL2 (zg_V ρ') bs vs
  | [], [], [], _, _ => trivial
  | a :: as, b :: bs, v :: vs, h, g => by
    obtain ⟨h1, h2⟩ := zw_and h
    exact ⟨zmV_g hS hσ h1 g.1, zmF_g hS hσ h2 g.2⟩
  | [], [], _ :: _, _, g => g.elim
  | [], _ :: _, _, h, _ => by cases h
  | _ :: _, [], _, h, _ => by cases h
  | _ :: _, _ :: _, [], _, g => g.elim
theorem zmA_el {S : zA_S} {σ : List zA_V} {a b : zA_C} (h : zmA S σ a b = true) (j : Nat) (hj : j < b.2.2.1) : zmV S σ ((a.2.2.2.2.lookup j).getD (a.2.2.2.1.headD (3, 0))) ((b.2.2.2.2.lookup j).getD (b.2.2.2.1.headD (3, 0))) = true := by
  unfold zmA at h
  obtain ⟨h1, h⟩ := zw_and h
  obtain ⟨h2, h⟩ := zw_and h
  obtain ⟨h3, h4⟩ := zw_and h
  have hlen := Nat.le_of_ble_eq_true h2
  cases hb : b.2.2.2.2.lookup j with
  | some v => exact (zw_and (List.all_eq_true.mp h3 _ (z_look_in hb))).2
  | none =>
    cases ha : a.2.2.2.2.lookup j with
    | none => exact h1
    | some u =>
      have := List.all_eq_true.mp h4 _ (z_look_in ha)
      rcases zw_or this with e | e
      · have := Nat.le_of_ble_eq_true e
        omega
      · unfold zx_el at e
        dsimp only at e
        rw [ha, hb] at e
        exact e
theorem zmA_Y {S : zA_S} {σ : List zA_V} {a b : zA_C} (h : zmA S σ a b = true) (ρ : List Int) (n : Nat) (el : Nat → Value) : zg_Y ρ n b.2.2.2.2 el := by
  unfold zmA at h
  obtain ⟨h1, h⟩ := zw_and h
  obtain ⟨h2, h⟩ := zw_and h
  obtain ⟨h3, h4⟩ := zw_and h
  intro q hq hk
  have := (zw_and (List.all_eq_true.mp h3 q hq)).1
  rw [Nat.ble_eq_true_of_le hk] at this
  exact absurd this (by decide)
theorem zmC_g {φ : List z_C} {ρ ρ' : List Int} {S : zA_S} {σ : List zA_V} {a b : zA_C} {c : z_C} (hS : zg_S ρ S) (hσ : ρ' = σ.map (zval ρ)) (h : zmC S σ a b = true) (g : zg_C φ ρ a c) : zg_C φ ρ' b c := by
  unfold zmC at h
  obtain ⟨h1, h2⟩ := zw_and h
  obtain ⟨h3, h4⟩ := zw_and h2
  have e1 : a.1 = b.1 := Nat.eq_of_beq_eq_true h1
  have e2 : a.2.1 = b.2.1 := Nat.eq_of_beq_eq_true h3
  split at h4
  · next h8 =>
    rcases g with ⟨g1, g2, g3⟩ | ⟨g1, -⟩ | ⟨g1, -⟩ | ⟨g1, -⟩ | ⟨g1, -⟩
    · obtain ⟨p1, z1⟩ := zw_and h4
      obtain ⟨p2, p3⟩ := zw_and z1
      have q1 : a.2.2.1 = b.2.2.1 := Nat.eq_of_beq_eq_true p1
      have q2 : a.2.2.2.1 = b.2.2.2.1 := zLeq_eq zVeq_eq p2
      refine Or.inl ⟨by omega, by rw [← e2]; exact g2, fun h0 => ?_⟩
      have h5 : zmA S σ a b = true := by
        rcases zw_or p3 with e | e
        · have := Nat.eq_of_beq_eq_true e
          omega
        · exact e
      rcases g3 (by omega) with ⟨f, e, k, g, -⟩ | ⟨f, e, k, g, -⟩
      · exact Or.inl ⟨f, by rw [← q1]; exact e, by rw [← q2]; exact k, fun j hj => zmV_g hS hσ (zmA_el h5 j hj) (g j (by omega)), zmA_Y h5 _ _ _⟩
      · exact Or.inr ⟨f, by rw [← q1]; exact e, by rw [← q2]; exact k, fun j hj => zmV_g hS hσ (zmA_el h5 j hj) (g j (by omega)), zmA_Y h5 _ _ _⟩
    all_goals omega
  · split at h4
    · next h0 =>
      obtain ⟨fs, rfl, gf, gz⟩ := zg_C0 h0 g
      obtain ⟨h5, h6⟩ := zw_and h4
      refine Or.inr (Or.inl ⟨by omega, fs, by rw [e2], zmF_g hS hσ h5 gf, fun q hq => ?_⟩)
      obtain ⟨p, hp, e⟩ := List.any_eq_true.mp (List.all_eq_true.mp h6 q hq)
      rw [← zKeq_eq _ _ e]
      exact gz p hp
    · obtain ⟨h5, h6⟩ := zw_and h4
      have e3 : a.2.2.1 = b.2.2.1 := Nat.eq_of_beq_eq_true h5
      rcases g with ⟨g1, -⟩ | ⟨g1, -⟩ | ⟨g1, g2, f, e, gf, -⟩ | ⟨g1, g2, f, e, gf, -⟩ | ⟨g1, g2, f, e, gf, -⟩
      · omega
      · omega
      · exact Or.inr (Or.inr (Or.inl ⟨by omega, by omega, f, by rw [← e3]; exact e, fun j hj => zmV_g hS hσ (zmA_el h6 j hj) (gf j (by omega)), zmA_Y h6 _ _ _⟩))
      · exact Or.inr (Or.inr (Or.inr (Or.inl ⟨by omega, by omega, f, by rw [← e3]; exact e, fun j hj => zmV_g hS hσ (zmA_el h6 j hj) (gf j (by omega)), zmA_Y h6 _ _ _⟩)))
      · exact Or.inr (Or.inr (Or.inr (Or.inr ⟨by omega, by omega, f, by rw [← e3]; exact e, fun j hj => zmV_g hS hσ (zmA_el h6 j hj) (gf j (by omega)), zmA_Y h6 _ _ _⟩)))
theorem zmH_g {φ : List z_C} {ρ ρ' : List Int} {S : zA_S} {σ : List zA_V} (hS : zg_S ρ S) (hσ : ρ' = σ.map (zval ρ)) : ∀ {H H0 : zA_H} {ph : List z_C}, zLeq (zmC S σ) H H0 = true → zL2 (zg_C φ ρ) H ph → zL2 (zg_C φ ρ') H0 ph
  | [], [], [], _, _ => trivial
  | a :: as, b :: bs, v :: vs, h, g => by
    obtain ⟨h1, h2⟩ := zw_and h
    exact ⟨zmC_g hS hσ h1 g.1, zmH_g hS hσ h2 g.2⟩
  | [], [], _ :: _, _, g => g.elim
  | [], _ :: _, _, h, _ => by cases h
  | _ :: _, [], _, h, _ => by cases h
  | _ :: _, _ :: _, [], _, g => g.elim
theorem zVeq_self (a : zA_V) : zVeq a a = true := by
  unfold zVeq
  rw [Bool.and_eq_true]
  exact ⟨Nat.beq_refl a.1, decide_eq_true rfl⟩
theorem zKeq_self (a : Nat × zA_V) : zKeq a a = true := by
  unfold zKeq
  rw [Bool.and_eq_true]
  exact ⟨Nat.beq_refl a.1, zVeq_self a.2⟩
theorem zand2 {a b : Bool} (h1 : a = true) (h2 : b = true) : (a && b) = true := by
  rw [h1, h2]
  rfl
theorem zLeq_mono {α : Type} {e e' : α → α → Bool} (h : ∀ a b, e a b = true → e' a b = true) : ∀ {as bs : List α}, zLeq e as bs = true → zLeq e' as bs = true
  | [], [], _ => rfl
  | a :: as, b :: bs, g => by
    obtain ⟨g1, g2⟩ := zw_and g
    exact zand2 (h _ _ g1) (zLeq_mono h g2)
  | [], _ :: _, g => by cases g
  | _ :: _, [], g => by cases g
def zmVq (S : zA_S) (σ : List zA_V) (a a0 : zA_V) : Bool := (zVeq a a0 && zcnV a0) || zmV S σ a a0
theorem zmVq_e {S : zA_S} {σ : List zA_V} (a a0 : zA_V) (h : zmVq S σ a a0 = true) : zmV S σ a a0 = true := by
  rcases zw_or h with h | h
  · obtain ⟨h1, h2⟩ := zw_and h
    have e := zVeq_eq _ _ h1
    subst e
    have h3 := h2
    simp only [zcnV, Bool.and_eq_true, Bool.not_eq_true', beq_eq_false_iff_ne, ne_eq] at h3
    unfold zmV
    rw [if_neg h3.1]
    by_cases h6 : 6 ≤ a.1
    · rw [if_pos h6]
      simp only [zVeq_self]
    · rw [if_neg h6]
      have e : zn S a = a := by
        unfold zn
        rw [if_neg h3.1, if_neg h3.2]
      rw [e]
      exact zand2 (zVeq_self a) h2
  · exact h
/-- as zmC, sooner done -/
def zmCq (S : zA_S) (σ : List zA_V) (a b : zA_C) : Bool := match Nat.beq b.1 8 && Nat.beq b.2.2.1 0 with
  | true => Nat.beq a.1 8 && (Nat.beq a.2.1 b.2.1 && (Nat.beq a.2.2.1 0 && zLeq zVeq a.2.2.2.1 b.2.2.2.1))
  | false => (match Nat.beq b.1 0 with
    | true => Nat.beq a.1 0 && (Nat.beq a.2.1 b.2.1 && (zLeq (zmVq S σ) a.2.2.2.1 b.2.2.2.1 && (zLeq zKeq a.2.2.2.2 b.2.2.2.2 || b.2.2.2.2.all (fun q => a.2.2.2.2.any (fun p => zKeq p q)))))
    | false => zmC S σ a b)
theorem zmCq_e {S : zA_S} {σ : List zA_V} {a b : zA_C} (h : zmCq S σ a b = true) : zmC S σ a b = true := by
  unfold zmCq at h
  split at h
  · next hb =>
    obtain ⟨b1, b2⟩ := zw_and hb
    have b1 := Nat.eq_of_beq_eq_true b1
    have b2 := Nat.eq_of_beq_eq_true b2
    obtain ⟨h1, h⟩ := zw_and h
    obtain ⟨h2, h⟩ := zw_and h
    obtain ⟨h3, h4⟩ := zw_and h
    have h1 := Nat.eq_of_beq_eq_true h1
    have h3 := Nat.eq_of_beq_eq_true h3
    unfold zmC
    refine zand2 (by rw [h1, b1]; rfl) (zand2 h2 ?_)
    rw [if_pos h1]
    exact zand2 (by rw [h3, b2]; rfl) (zand2 h4 (by rw [h3]; rfl))
  · split at h
    · next hb =>
      have hb := Nat.eq_of_beq_eq_true hb
      obtain ⟨h1, h⟩ := zw_and h
      obtain ⟨h2, h⟩ := zw_and h
      obtain ⟨h3, h4⟩ := zw_and h
      have h1 := Nat.eq_of_beq_eq_true h1
      unfold zmC
      refine zand2 (by rw [h1, hb]; rfl) (zand2 h2 ?_)
      rw [if_neg (by omega), if_pos h1]
      refine zand2 (zLeq_mono zmVq_e h3) ?_
      rcases zw_or h4 with h4 | h4
      · have e := zLeq_eq zKeq_eq h4
        exact List.all_eq_true.mpr (fun q hq => List.any_eq_true.mpr ⟨q, by rw [e]; exact hq, zKeq_self q⟩)
      · exact h4
    · exact h
/-- t fits the pattern t0, where its names stand for the values σ -/
def zmT (σ : List zA_V) (t t0 : zA_T) : Bool := zmS t.1 σ t0.1 && (zLeq (zmCq t.1 σ) t.2.1 t0.2.1 && (zmL t.1 σ t.2.2.1 t0.2.2.1 && (t.2.2.2.1.isEmpty && (t0.2.2.2.1.isEmpty && decide (t.2.2.2.2 = t0.2.2.2.2)))))
theorem zmT_g {XL XL' : Nat} {X : zx_X} {φ : List z_C} {ρ : List Int} {t t0 : zA_T} {ph : List z_C} {lv : List (Nat × Value)} {st : List Value} {σ : List zA_V} (hX : ¬ XL' < 1000 ∧ XL' ≠ 3000000) (h : zmT σ t t0 = true) (g : zg_T XL X φ ρ t ph lv st) :
    st = [] ∧ t.2.2.2.2 = t0.2.2.2.2 ∧ ∃ lv0, (∀ q ∈ lv0, q ∈ lv) ∧ zg_T XL' X φ (σ.map (zval ρ)) t0 ph lv0 [] := by
  obtain ⟨g1, g2, g3, g4, g5⟩ := g
  unfold zmT at h
  obtain ⟨h1, h⟩ := zw_and h
  obtain ⟨h2, h⟩ := zw_and h
  obtain ⟨h3, h⟩ := zw_and h
  obtain ⟨h4, h⟩ := zw_and h
  obtain ⟨h5, h6⟩ := zw_and h
  obtain ⟨lv0, g0, m0⟩ := zmL_g g1 rfl g3 h3
  have e1 : t.2.2.2.1 = [] := List.isEmpty_iff.mp h4
  have e2 : t0.2.2.2.1 = [] := List.isEmpty_iff.mp h5
  refine ⟨?_, of_decide_eq_true h6, lv0, m0, zmS_g g1 h1, zmH_g g1 rfl (zLeq_mono (fun _ _ => zmCq_e) h2) g2, g0, ?_, zg_Xno _ _ _ hX.1 hX.2⟩
  · rw [e1] at g4
    cases st with
    | nil => rfl
    | cons a b => exact g4.elim
  · rw [e2]; exact trivial
section ZH
variable {l : Launch} {X : zx_X} {XL : Nat} {φ : List z_C} {Q0 : Option Value → List z_C → Prop}
/-- what a pattern owes, owes the state that fits it -/
theorem zGd_m {XL' : Nat} (hX : ¬ XL' < 1000 ∧ XL' ≠ 3000000) {P P0 : List Int → Prop} {m d pc : Nat} {t t0 : zA_T} {σ : List zA_V} (hm : zmT σ t t0 = true) (hP : ∀ ρ, P ρ → zg_S ρ t.1 → zg_S (σ.map (zval ρ)) t0.1 → P0 (σ.map (zval ρ))) (k : zGd l X XL' φ P0 Q0 m d pc t0 []) : zGd l X XL φ P Q0 m d pc t [] := by
  intro ρ ph lv st cst hp g gs
  obtain ⟨rfl, e, lv0, m0, g0⟩ := zmT_g (XL' := XL') hX hm g
  cases cst with
  | cons a b => exact gs.elim
  | nil =>
    have := k _ ph lv0 [] [] (hP ρ hp g.1 g0.1) g0 trivial
    rw [← e] at this
    exact this.lsub m0
theorem zGd_P {P P' : List Int → Prop} {m d pc : Nat} {t : zA_T} {stk : List zA_F} (h : ∀ ρ, zg_S ρ t.1 → P ρ → P' ρ) (k : zGd l X XL φ P' Q0 m d pc t stk) : zGd l X XL φ P Q0 m d pc t stk :=
  fun ρ ph lv st cst hp g gs => k ρ ph lv st cst (h ρ g.1 hp) g gs
/-- the first names -/
def zPf (Inv : List Int → Prop) (ρ : List Int) : Prop := ∃ ns, zLE ns ρ ∧ Inv ns
theorem zPf_up (Inv : List Int → Prop) : ∀ ρ ρ' : List Int, zLE ρ ρ' → zPf Inv ρ → zPf Inv ρ' := fun _ _ h ⟨ns, h1, h2⟩ => ⟨ns, h1.trans h, h2⟩
theorem zPf_self {Inv : List Int → Prop} {ρ : List Int} (h : Inv ρ) : zPf Inv ρ := ⟨ρ, zLE.refl ρ, h⟩
/-- a cut at one place, at states that are known -/
def zcuts (m0 d0 pc0 : Nat) (ts : List zA_T) (m d pc : Nat) (t : zA_T) (stk : List zA_F) : Bool := match Nat.beq pc pc0 with
  | false => false
  | true => (match stk with
    | [] => Nat.beq m m0 && (Nat.beq d d0 && ts.any (fun q => zteq t q))
    | _ => false)
theorem zcuts_g {P : List Int → Prop} {m0 d0 pc0 : Nat} {ts : List zA_T} (h : ∀ t ∈ ts, zGd l X XL φ P Q0 m0 d0 pc0 t []) : ∀ (m d pc : Nat) (t : zA_T) (stk : List zA_F), zcuts m0 d0 pc0 ts m d pc t stk = true → zGd l X XL φ P Q0 m d pc t stk := by
  intro m d pc t stk hc
  unfold zcuts at hc
  split at hc
  · cases hc
  · next hpc =>
    split at hc
    · obtain ⟨h1, h2⟩ := zw_and hc
      obtain ⟨h3, h4⟩ := zw_and h2
      obtain ⟨q, hq, he⟩ := List.any_eq_true.mp h4
      have e := zteq_eq he
      subst e
      rw [Nat.eq_of_beq_eq_true hpc, Nat.eq_of_beq_eq_true h1, Nat.eq_of_beq_eq_true h3]
      exact h _ hq
    · cases hc
/-- a run to such a cut -/
theorem zGd_run {P : List Int → Prop} {orc : zO_} {fin : zA_T → Option zA_V → Bool} {cut : Nat → Nat → Nat → zA_T → List zA_F → Bool} (hP : ∀ ρ ρ' : List Int, zLE ρ ρ' → P ρ → P ρ') (hfin : zFn φ P Q0 fin) (hor : zOk l X XL φ P orc)
    (hcut : ∀ (m d pc : Nat) (t : zA_T) (stk : List zA_F), cut m d pc t stk = true → zGd l X XL φ P Q0 m d pc t stk) {n m d pc : Nat} {t : zA_T} {stk : List zA_F} (hm : m < 267) (run : zx1 XL fin cut orc n m d pc t stk = true) : zGd l X XL φ P Q0 m d pc t stk :=
  zx1_ok zall hP hfin hor hcut n m d pc t stk hm run
def znf (_ : zA_T) (_ : Option zA_V) : Bool := false
theorem znf_ok (P : List Int → Prop) : zFn φ P Q0 znf := fun _ _ h => by cases h
end ZH
