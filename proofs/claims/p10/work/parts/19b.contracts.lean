/-! PART 19b: loops by patterns and measures; contracts out of them. -/
theorem zL2.nil1 {α β : Type} {R : α → β → Prop} {bs : List β} (h : zL2 R [] bs) : bs = [] := by
  cases bs with
  | nil => rfl
  | cons a b => exact h.elim
def zPt (_ : List Int) : Prop := True
theorem zOk_no (l : Launch) (X : zx_X) (XL : Nat) (φ : List z_C) (P : List Int → Prop) : zOk l X XL φ P zon := fun m d t rs h => by cases h
theorem zCt_no (l : Launch) (X : zx_X) (XL : Nat) (φ : List z_C) (P : List Int → Prop) (Q0 : Option Value → List z_C → Prop) : ∀ (m d pc : Nat) (t : zA_T) (stk : List zA_F), zno m d pc t stk = true → zGd l X XL φ P Q0 m d pc t stk := fun m d pc t stk h => by cases h
/-- where a value lies: (0, i, _) the local i; (1, c, f) the field f of the cell c; (2, k, _) the name k; (3, _, _) the answer -/
def zloc (t : zA_T) (r : Option zA_V) (q : Nat × Nat × Nat) : Option zA_V := if q.1 = 0 then t.2.2.1.lookup q.2.1 else if q.1 = 1 then (match t.2.1[q.2.1]? with
  | some c => if c.1 = 0 then c.2.2.2.1[q.2.2]? else none
  | none => none) else if q.1 = 2 then some (1, (q.2.1 : Int)) else r
def zlocs (t : zA_T) (r : Option zA_V) : List (Nat × Nat × Nat) → Option (List zA_V)
  | [] => some []
  | q :: qs => match zloc t r q with
    | none => none
    | some a => (match zlocs t r qs with
      | none => none
      | some l => some (a :: l))
/-- a head: its place, its pattern, where the pattern's names lie, its ghosts, its measure, sums of two names that stay within a bound -/
abbrev zHd : Type := Nat × zA_T × List (Nat × Nat × Nat) × List Nat × Int × List Int × List (Nat × Nat × Nat)
def zdot : List Int → List Int → Int
  | w :: ws, n :: ns => w * n + zdot ws ns
  | _, _ => 0
def zmu (h : zHd) (ns : List Int) : Int := h.2.2.2.2.1 - zdot h.2.2.2.2.2.1 ns
def zmx : List Int → zA_S → Int
  | w :: ws, q :: S => (if 0 ≤ w then w * q.2.1 else w * q.1) + zmx ws S
  | _, _ => 0
theorem zmx_g {ρ : List Int} : ∀ {ws : List Int} {r : List Int} {S : zA_S}, zL2 (zg_E ρ) r S → zdot ws r ≤ zmx ws S
  | [], _, _, _ => Int.le_refl _
  | _ :: _, [], [], _ => Int.le_refl _
  | w :: ws, n :: r, q :: S, h => by
    have ih := zmx_g (ws := ws) h.2
    have b1 := h.1.1
    have b2 := h.1.2.1
    show w * n + zdot ws r ≤ (if 0 ≤ w then w * q.2.1 else w * q.1) + zmx ws S
    split
    · next h0 =>
      have := Int.mul_le_mul_of_nonneg_left b2 h0
      omega
    · next h0 =>
      have := Int.mul_le_mul_of_nonpos_left (a := w) (b := n) (c := q.1) (by omega) b1
      omega
  | _ :: _, [], _ :: _, h => h.elim
  | _ :: _, _ :: _, [], h => h.elim
def zhOK (h : zHd) : Bool := Nat.beq h.2.2.2.2.2.1.length h.2.1.1.length && (decide (zmx h.2.2.2.2.2.1 h.2.1.1 ≤ h.2.2.2.2.1) && h.2.2.2.1.all (fun g => Nat.blt g h.2.1.1.length))
def zdfN : Nat → List Int → zF_ → zF_
  | _, [], F => F
  | i, w :: ws, F => zdfN (i + 1) ws (zfi w i F)
theorem zdfN_g {ρ : List Int} : ∀ {ws ns : List Int} {i : Nat} {F : zF_}, ws.length = ns.length → (∀ j n, ns[j]? = some n → ρ[i + j]? = some n) → zfs ρ (zdfN i ws F) = zdot ws ns + zfs ρ F
  | [], [], _, _, _, _ => by show _ = 0 + _; rw [Int.zero_add]; rfl
  | w :: ws, n :: ns, i, F, hl, h => by
    have h0 := h 0 n rfl
    show zfs ρ (zdfN (i + 1) ws (zfi w i F)) = w * n + zdot ws ns + zfs ρ F
    rw [zdfN_g (ns := ns) (by simpa using hl) (fun j m hj => by
      have := h (j + 1) m hj
      have e : i + (j + 1) = i + 1 + j := by omega
      rw [← e]
      exact this), zfi_g, List.getD_eq_getElem?_getD]
    have h0 : ρ[i]? = some n := h0
    rw [h0]
    show _ + (w * n + _) = _
    omega
  | [], _ :: _, _, _, hl, _ => by cases hl
  | _ :: _, [], _, _, hl, _ => by cases hl
def zdfS : List Int → List zA_V → zF_ × Int → zF_ × Int
  | w :: ws, a :: σ, p => zdfS ws σ (zfv (-w) a p.1 p.2)
  | _, _, p => p
theorem zdfS_g {ρ : List Int} : ∀ {ws : List Int} {σ : List zA_V} {p : zF_ × Int}, (∀ a ∈ σ, (a.1 = 0 ∨ a.1 = 1) ∧ zE ρ a (zval ρ a)) → zfs ρ (zdfS ws σ p).1 + (zdfS ws σ p).2 = - zdot ws (σ.map (zval ρ)) + (zfs ρ p.1 + p.2)
  | [], _, p, _ => by show _ = - (0 : Int) + _; rw [Int.neg_zero, Int.zero_add]; rfl
  | _ :: _, [], p, _ => by show _ = - (0 : Int) + _; rw [Int.neg_zero, Int.zero_add]; rfl
  | w :: ws, a :: σ, p, h => by
    have ha := h a List.mem_cons_self
    show zfs ρ (zdfS ws σ (zfv (-w) a p.1 p.2)).1 + (zdfS ws σ (zfv (-w) a p.1 p.2)).2 = - (w * zval ρ a + zdot ws (σ.map (zval ρ))) + (zfs ρ p.1 + p.2)
    rw [zdfS_g (fun b hb => h b (List.mem_cons_of_mem _ hb)), zfv_g ha.1 ha.2, Int.neg_mul]
    omega
theorem zmS_E {ρ : List Int} {S : zA_S} (hS : zg_S ρ S) : ∀ {σ : List zA_V} {S0 : zA_S}, zmS S σ S0 = true → ∀ a ∈ σ, (a.1 = 0 ∨ a.1 = 1) ∧ zE ρ a (zval ρ a)
  | [], _, _, a, h => by cases h
  | b :: σ, q :: S0, h, a, ha => by
    unfold zmS at h
    obtain ⟨h1, h2⟩ := zw_and h
    obtain ⟨h3, h4⟩ := zw_and h2
    obtain ⟨h5, h6⟩ := zw_and h4
    rcases List.mem_cons.mp ha with rfl | ha
    · have h1' := h1
      simp only [zIs, Bool.or_eq_true, beq_iff_eq] at h1'
      split at h3
      · next p hp =>
        obtain ⟨n, en⟩ := zr_E hS h1 hp
        exact ⟨h1', by rw [zval_E h1 en]; exact en⟩
      · cases h3
    · exact zmS_E hS h6 a ha
  | _ :: _, [], h, _, _ => by cases h
/-- the measure falls -/
def zdec (S : zA_S) (h h' : zHd) (σ : List zA_V) : Bool := match zub S 40 (zdfS h'.2.2.2.2.2.1 σ (zdfN 0 h.2.2.2.2.2.1 [], h'.2.2.2.2.1 - h.2.2.2.2.1)).1 (zdfS h'.2.2.2.2.2.1 σ (zdfN 0 h.2.2.2.2.2.1 [], h'.2.2.2.2.1 - h.2.2.2.2.1)).2 with
  | some u => decide (u ≤ -1)
  | none => false
/-- what stands for the ghosts doesn't fall -/
def zghs (S : zA_S) : List Nat → List Nat → List zA_V → Bool
  | [], [], _ => true
  | g :: gs, g' :: gs', σ => (match σ[g']? with
    | some a => (match zub S 24 (zfv (-1) a [(1, g)] 0).1 (zfv (-1) a [(1, g)] 0).2 with
      | some u => decide (u ≤ 0)
      | none => false)
    | none => false) && zghs S gs gs' σ
  | _, _, _ => false
def zLe2 (G L : List Int) : Prop := zL2 (fun (u n : Int) => u ≤ n) G L
theorem zLe2.refl : ∀ L : List Int, zLe2 L L
  | [] => trivial
  | _ :: L => ⟨Int.le_refl _, zLe2.refl L⟩
theorem zghs_g {ρ ns : List Int} {S : zA_S} (hS : zg_S ρ S) (hle : zLE ns ρ) {σ : List zA_V} (hσ : ∀ a ∈ σ, (a.1 = 0 ∨ a.1 = 1) ∧ zE ρ a (zval ρ a)) : ∀ {gs gs' : List Nat} {G : List Int}, (∀ g ∈ gs, g < ns.length) → zghs S gs gs' σ = true → zLe2 G (gs.map (fun g => ns.getD g 0)) → zLe2 G (gs'.map (fun g => (σ.map (zval ρ)).getD g 0))
  | [], [], _, _, _, hG => hG
  | g :: gs, g' :: gs', [], _, _, hG => hG.elim
  | g :: gs, g' :: gs', x :: G, hl, h, hG => by
    unfold zghs at h
    obtain ⟨h1, h2⟩ := zw_and h
    refine ⟨?_, zghs_g hS hle hσ (fun x hx => hl x (List.mem_cons_of_mem _ hx)) h2 hG.2⟩
    have hG1 : x ≤ ns.getD g 0 := hG.1
    split at h1
    · next a ha =>
      obtain ⟨a1, a2⟩ := hσ a (List.mem_of_getElem? ha)
      have hg := hl g List.mem_cons_self
      have e1 : ns[g]? = some ns[g] := List.getElem?_eq_getElem hg
      have e2 := hle g _ e1
      split at h1
      · next u hu =>
        have h1 := of_decide_eq_true h1
        have r := zub_g hS _ _ _ _ hu
        rw [zfv_g a1 a2] at r
        have e3 : zfs ρ [(1, g)] = 1 * ρ.getD g 0 + 0 := rfl
        rw [e3, List.getD_eq_getElem?_getD, e2] at r
        have r : -1 * zval ρ a + (1 * ns[g] + 0 + 0) ≤ u := r
        rw [List.getD_eq_getElem?_getD, e1] at hG1
        have hG1 : x ≤ ns[g] := hG1
        show x ≤ (σ.map (zval ρ)).getD g' 0
        rw [List.getD_eq_getElem?_getD, List.getElem?_map, ha]
        show x ≤ zval ρ a
        omega
      · cases h1
    · cases h1
  | [], _ :: _, _, _, h, _ => by cases h
  | _ :: _, [], _, _, h, _ => by cases h
/-- what stands of sums of two names -/
def zFt (fs : List (Nat × Nat × Nat)) (ns : List Int) : Prop := ∀ f ∈ fs, ∃ a b : Int, ns[f.1]? = some a ∧ ns[f.2.1]? = some b ∧ a + b ≤ f.2.2
theorem zFt.mono {fs : List (Nat × Nat × Nat)} {ns ρ : List Int} (hle : zLE ns ρ) (h : zFt fs ns) : zFt fs ρ := fun f hf => by
  obtain ⟨a, b, h1, h2, h3⟩ := h f hf
  exact ⟨a, b, hle _ _ h1, hle _ _ h2, h3⟩
def zfx1 (S : zA_S) (f : Nat × Nat × Nat) : zA_S := match S[f.1]? with
  | none => S
  | some qa => (match S[f.2.1]? with
    | none => S
    | some qb => if -1000000 ≤ qa.1 ∧ qa.2.1 ≤ 1000000 ∧ -1000000 ≤ qb.1 ∧ qb.2.1 ≤ 1000000 ∧ f.2.2 ≤ 1000000 then
        S ++ [(((f.2.2 : Nat) : Int) - qb.2.1, ((f.2.2 : Nat) : Int) - qb.1, (11, (0, ((f.2.2 : Nat) : Int)), (1, ((f.2.1 : Nat) : Int))))] ++ [(qa.1 - (((f.2.2 : Nat) : Int) - qb.1), 0, (11, (1, ((f.1 : Nat) : Int)), (1, ((S.length : Nat) : Int))))] else S)
theorem zfx1_g {ρ : List Int} {S : zA_S} {f : Nat × Nat × Nat} (hS : zg_S ρ S) (h : ∃ a b : Int, ρ[f.1]? = some a ∧ ρ[f.2.1]? = some b ∧ a + b ≤ f.2.2) : ∃ ρ', zLE ρ ρ' ∧ zg_S ρ' (zfx1 S f) := by
  obtain ⟨a, b, h1, h2, h3⟩ := h
  unfold zfx1
  split
  · exact ⟨ρ, zLE.refl ρ, hS⟩
  · next qa ha =>
    split
    · exact ⟨ρ, zLE.refl ρ, hS⟩
    · next qb hb =>
      split
      · next hc =>
        obtain ⟨a', e1, b1, b2, -⟩ := zL2.getR hS ha
        obtain ⟨b', e2, b3, b4, -⟩ := zL2.getR hS hb
        rw [h1] at e1
        rw [h2] at e2
        cases e1
        cases e2
        have ed1 : zb_c 11 ((f.2.2 : Nat) : Int) b = ((f.2.2 : Nat) : Int) - b := zw32_in (by omega) (by omega)
        have p1 := hS.pushD (n := ((f.2.2 : Nat) : Int) - b) (q := (((f.2.2 : Nat) : Int) - qb.2.1, ((f.2.2 : Nat) : Int) - qb.1)) (D := (11, (0, ((f.2.2 : Nat) : Int)), (1, ((f.2.1 : Nat) : Int)))) (by show _ - qb.2.1 ≤ _; omega) (by show _ ≤ _ - qb.1; omega) (Or.inr ⟨_, b, zE0 _ _, zEk h2, ed1.symm⟩)
        have l1 := zLE.app ρ (((f.2.2 : Nat) : Int) - b)
        have hl : ρ.length = S.length := zL2.len hS
        have ek : (ρ ++ [((f.2.2 : Nat) : Int) - b])[S.length]? = some (((f.2.2 : Nat) : Int) - b) := by
          rw [← hl, List.getElem?_append_right (Nat.le_refl _), Nat.sub_self]
          rfl
        have ed2 : zb_c 11 a (((f.2.2 : Nat) : Int) - b) = a - (((f.2.2 : Nat) : Int) - b) := zw32_in (by omega) (by omega)
        have p2 := p1.pushD (n := a - (((f.2.2 : Nat) : Int) - b)) (q := (qa.1 - (((f.2.2 : Nat) : Int) - qb.1), 0)) (D := (11, (1, ((f.1 : Nat) : Int)), (1, ((S.length : Nat) : Int)))) (by show qa.1 - _ ≤ _; omega) (by show _ ≤ (0 : Int); omega) (Or.inr ⟨a, _, zEk (l1 _ _ h1), zEk ek, ed2.symm⟩)
        exact ⟨_, l1.trans (zLE.app _ _), p2⟩
      · exact ⟨ρ, zLE.refl ρ, hS⟩
def zfx : zA_S → List (Nat × Nat × Nat) → zA_S
  | S, [] => S
  | S, f :: fs => zfx (zfx1 S f) fs
theorem zfx_g : ∀ {fs : List (Nat × Nat × Nat)} {ρ : List Int} {S : zA_S}, zg_S ρ S → zFt fs ρ → ∃ ρ', zLE ρ ρ' ∧ zg_S ρ' (zfx S fs)
  | [], ρ, _, hS, _ => ⟨ρ, zLE.refl ρ, hS⟩
  | f :: fs, ρ, S, hS, h => by
    obtain ⟨ρ1, l1, g1⟩ := zfx1_g hS (h f List.mem_cons_self)
    obtain ⟨ρ2, l2, g2⟩ := zfx_g (fs := fs) g1 (zFt.mono l1 (fun q hq => h q (List.mem_cons_of_mem _ hq)))
    exact ⟨ρ2, l1.trans l2, g2⟩
/-- where the run from a head starts -/
def zhS (h : zHd) : zA_T := (zfx h.2.1.1 h.2.2.2.2.2.2, h.2.1.2)
theorem zGd_fx {l : Launch} {X : zx_X} {XL : Nat} {φ : List z_C} {P : List Int → Prop} {Q0 : Option Value → List z_C → Prop} {m d pc : Nat} {h : zHd} (hP : ∀ ρ ρ' : List Int, zLE ρ ρ' → P ρ → P ρ') (hf : ∀ ρ, P ρ → zFt h.2.2.2.2.2.2 ρ) (k : zGd l X XL φ P Q0 m d pc (zhS h) []) : zGd l X XL φ P Q0 m d pc h.2.1 [] := by
  intro ρ ph lv st cst hp g gs
  obtain ⟨g1, g2, g3, g4, g5⟩ := g
  obtain ⟨ρ', hle, g1'⟩ := zfx_g g1 (hf ρ hp)
  cases cst with
  | cons a b => exact gs.elim
  | nil => exact k ρ' ph lv st [] (hP _ _ hle hp) ⟨g1', zL2.mono (fun _ _ => zg_C.mono hle) g2, zL2.mono (fun _ _ q => ⟨q.1, q.2.mono hle⟩) g3, zL2.mono (fun _ _ => zg_V.mono hle) g4, g5.mono hle⟩ trivial
def zfts2 (S : zA_S) (σ : List zA_V) (fs : List (Nat × Nat × Nat)) : Bool := fs.all (fun f => match σ[f.1]? with
  | none => false
  | some a => (match σ[f.2.1]? with
    | none => false
    | some b => zle2 S a b f.2.2))
theorem zfts2_g {ρ : List Int} {S : zA_S} {σ : List zA_V} {fs : List (Nat × Nat × Nat)} (hS : zg_S ρ S) (hσ : ∀ a ∈ σ, (a.1 = 0 ∨ a.1 = 1) ∧ zE ρ a (zval ρ a)) (h : zfts2 S σ fs = true) : zFt fs (σ.map (zval ρ)) := by
  intro f hf
  have h := List.all_eq_true.mp h f hf
  split at h
  · cases h
  · next a ha =>
    split at h
    · cases h
    · next b hb =>
      exact ⟨zval ρ a, zval ρ b, by rw [List.getElem?_map, ha]; rfl, by rw [List.getElem?_map, hb]; rfl, zle2_g hS (hσ a (List.mem_of_getElem? ha)).2 (hσ b (List.mem_of_getElem? hb)).2 h⟩
def zcutH (hs : List zHd) (h : zHd) (m0 d0 : Nat) (m d pc : Nat) (t : zA_T) (stk : List zA_F) : Bool := match stk with
  | [] => hs.any (fun h' => Nat.beq pc h'.1 && (Nat.beq m m0 && (Nat.beq d d0 && (match zlocs t none h'.2.2.1 with
    | some σ => zmT σ t h'.2.1 && (zdec t.1 h h' σ && (zghs t.1 h.2.2.2.1 h'.2.2.2.1 σ && zfts2 t.1 σ h'.2.2.2.2.2.2))
    | none => false))))
  | _ => false
def zhI (h : zHd) (N : Nat) (G : List Int) (ns : List Int) : Prop := ns.length = h.2.1.1.length ∧ zmu h ns < N ∧ zLe2 G (h.2.2.2.1.map (fun g => ns.getD g 0)) ∧ zFt h.2.2.2.2.2.2 ns
theorem zLE.eq {a b : List Int} (h : zLE a b) (hl : a.length = b.length) : a = b := by
  apply List.ext_getElem hl
  intro i h1 h2
  have e := h i _ (List.getElem?_eq_getElem h1)
  rw [List.getElem?_eq_getElem h2] at e
  exact (Option.some.inj e).symm
section ZH
variable {l : Launch} {X : zx_X} {XL : Nat} {φ : List z_C} {Q0 : Option Value → List z_C → Prop}
theorem zheads (hX : ¬ XL < 1000 ∧ XL ≠ 3000000) {hs : List zHd} {m d n : Nat} (hm : m < 267) {orc : zO_} {fin : zHd → zA_T → Option zA_V → Bool} (G : List Int)
    (hok : hs.all zhOK = true) (hor : ∀ P, zOk l X XL φ P orc) (hfin : ∀ h ∈ hs, ∀ N, zFn φ (zPf (zhI h N G)) Q0 (fin h))
    (runs : ∀ h ∈ hs, zx1 XL (fin h) (zcutH hs h m d) orc n m d h.1 (zhS h) [] = true) :
    ∀ (N : Nat), ∀ h ∈ hs, zGd l X XL φ (zPf (zhI h N G)) Q0 m d h.1 h.2.1 [] := by
  intro N
  induction N with
  | zero =>
    intro h hh ρ ph lv st cst hp g gs
    obtain ⟨ns, hle, h1, h2, h3, -⟩ := hp
    have hk := List.all_eq_true.mp hok h hh
    unfold zhOK at hk
    obtain ⟨k1, k2⟩ := zw_and hk
    obtain ⟨k3, k4⟩ := zw_and k2
    have k3 := of_decide_eq_true k3
    have e : ns = ρ := hle.eq (h1.trans (zL2.len g.1).symm)
    subst e
    have := zmx_g (ws := h.2.2.2.2.2.1) g.1
    unfold zmu at h2
    omega
  | succ N ih =>
    intro h hh
    refine zGd_fx (zPf_up _) (fun ρ hp => by
      obtain ⟨ns, hle, -, -, -, h4⟩ := hp
      exact h4.mono hle) (zGd_run (zPf_up _) (hfin h hh _) (hor _) ?_ hm (runs h hh))
    intro m' d' pc t stk hc
    unfold zcutH at hc
    split at hc
    · obtain ⟨h', hh', hc⟩ := List.any_eq_true.mp hc
      obtain ⟨c1, hc⟩ := zw_and hc
      obtain ⟨c2, hc⟩ := zw_and hc
      obtain ⟨c3, hc⟩ := zw_and hc
      rw [Nat.eq_of_beq_eq_true c1, Nat.eq_of_beq_eq_true c2, Nat.eq_of_beq_eq_true c3]
      split at hc
      · next σ hσ =>
        obtain ⟨c4, hc⟩ := zw_and hc
        obtain ⟨c5, c6⟩ := zw_and hc
        obtain ⟨c6, c7⟩ := zw_and c6
        refine zGd_m hX c4 (fun ρ hp hS hS0 => ?_) (ih h' hh')
        obtain ⟨ns, hle, h1, h2, h3, -⟩ := hp
        have hk := List.all_eq_true.mp hok h hh
        unfold zhOK at hk
        obtain ⟨k1, k2⟩ := zw_and hk
        obtain ⟨k3, k4⟩ := zw_and k2
        have k1 := Nat.eq_of_beq_eq_true k1
        refine zPf_self ⟨zL2.len hS0, ?_, ?_, zfts2_g hS (zmS_E hS (zw_and c4).1) c7⟩
        · unfold zdec at c5
          split at c5
          · next u hu =>
            have c5 := of_decide_eq_true c5
            have r := zub_g hS _ _ _ _ hu
            have hzm : zmS t.1 σ h'.2.1.1 = true := (zw_and c4).1
            rw [zdfS_g (zmS_E hS hzm)] at r
            dsimp only at r
            rw [zdfN_g (ns := ns) (k1.trans h1.symm) (fun j n hj => by rw [Nat.zero_add]; exact hle j n hj)] at r
            have e0 : zfs ρ [] = 0 := rfl
            rw [e0] at r
            unfold zmu at h2 ⊢
            omega
          · cases c5
        · exact zghs_g hS hle (zmS_E hS (zw_and c4).1) (fun g hg => by
            have := List.all_eq_true.mp k4 g hg
            rw [h1]
            exact Nat.le_of_ble_eq_true this) c6 h3
      · cases hc
    · cases hc
end ZH
/-- an alternative of a contract's end: new names (bounds; not below the ghost), where they lie, the heap, the answer -/
abbrev zAlt : Type := List (Int × Int × Option Nat) × List (Nat × Nat × Nat) × zA_H × Option zA_V
def znew1 (S : zA_S) (gs : List Nat) (a : zA_V) (q : Int × Int × Option Nat) : Bool := zIs a && ((match zr S a with
  | some p => decide (q.1 ≤ p.1 ∧ p.2 ≤ q.2.1)
  | none => false) && (match q.2.2 with
    | none => true
    | some g => (match gs[g]? with
      | some k => (match zub S 24 (zfv (-1) a [(1, k)] 0).1 (zfv (-1) a [(1, k)] 0).2 with
        | some u => decide (u ≤ 0)
        | none => false)
      | none => false)))
def znews (S : zA_S) (gs : List Nat) : List zA_V → List (Int × Int × Option Nat) → Bool
  | [], [] => true
  | a :: vs, q :: qs => znew1 S gs a q && znews S gs vs qs
  | _, _ => false
def zmR (S : zA_S) (σ : List zA_V) : Option zA_V → Option zA_V → Bool
  | none, none => true
  | some a, some a0 => zmV S σ a a0
  | _, _ => false
def zfinC (alts : List zAlt) (gs : List Nat) (t : zA_T) (r : Option zA_V) : Bool := alts.any (fun alt => match zlocs t r alt.2.1 with
  | some vs => znews t.1 gs vs alt.1 && (zLeq (zmCq t.1 vs) t.2.1 alt.2.2.1 && zmR t.1 vs r alt.2.2.2)
  | none => false)
def zAok1 (G : List Int) (n : Int) (q : Int × Int × Option Nat) : Prop := q.1 ≤ n ∧ n ≤ q.2.1 ∧ ∀ g, q.2.2 = some g → ∃ u, G[g]? = some u ∧ u ≤ n
def zAok (G : List Int) (vals : List Int) (alt : zAlt) : Prop := zL2 (zAok1 G) vals alt.1
theorem znews_g {ρ ns G : List Int} {S : zA_S} {gs : List Nat} (hS : zg_S ρ S) (hle : zLE ns ρ) (hgl : ∀ g ∈ gs, g < ns.length) (hG : zLe2 G (gs.map (fun g => ns.getD g 0))) : ∀ {vs : List zA_V} {qs : List (Int × Int × Option Nat)}, znews S gs vs qs = true → zL2 (zAok1 G) (vs.map (zval ρ)) qs
  | [], [], _ => trivial
  | a :: vs, q :: qs, h => by
    unfold znews at h
    obtain ⟨h0, hr⟩ := zw_and h
    refine ⟨?_, znews_g hS hle hgl hG hr⟩
    unfold znew1 at h0
    obtain ⟨h1, h2⟩ := zw_and h0
    obtain ⟨h3, h4⟩ := zw_and h2
    have h1' := h1
    simp only [zIs, Bool.or_eq_true, beq_iff_eq] at h1'
    split at h3
    · next p hp =>
      have h3 := of_decide_eq_true h3
      obtain ⟨n, en⟩ := zr_E hS h1 hp
      have bn := zr_in hS en hp
      rw [zval_E h1 en]
      refine ⟨by omega, by omega, fun g hg => ?_⟩
      rw [hg] at h4
      dsimp only at h4
      split at h4
      · next k hk =>
        have hkl := hgl k (List.mem_of_getElem? hk)
        have e1 : ns[k]? = some ns[k] := List.getElem?_eq_getElem hkl
        have e2 := hle k _ e1
        obtain ⟨w, ew, bw⟩ := zL2.getR hG (i := g) (b := ns[k]) (by
          rw [List.getElem?_map, hk]
          show some (ns.getD k 0) = _
          rw [List.getD_eq_getElem?_getD, e1]
          rfl)
        refine ⟨w, ew, ?_⟩
        · split at h4
          · next u hu =>
            have h4 := of_decide_eq_true h4
            have r := zub_g hS _ _ _ _ hu
            rw [zfv_g h1' en] at r
            have e3 : zfs ρ [(1, k)] = 1 * ρ.getD k 0 + 0 := rfl
            rw [e3, List.getD_eq_getElem?_getD, e2] at r
            have r : -1 * n + (1 * ns[k] + 0 + 0) ≤ u := r
            omega
          · cases h4
      · cases h4
    · cases h3
  | [], _ :: _, h => by cases h
  | _ :: _, [], h => by cases h
theorem zfinC_g {φ : List z_C} {alts : List zAlt} {Q : Option Value → List z_C → Prop} {G : List Int} (hQ : ∀ alt ∈ alts, ∀ vals, zAok G vals alt → ∀ v ph', zL2 (zg_C φ vals) alt.2.2.1 ph' → zg_R vals alt.2.2.2 v → Q v ph') (h : zHd) (hok : zhOK h = true) (N : Nat) : zFn φ (zPf (zhI h N G)) Q (zfinC alts h.2.2.2.1) := by
  intro t r hf ρ ph v hp gS gH gR
  obtain ⟨ns, hle, h1, h2, h3, -⟩ := hp
  unfold zhOK at hok
  obtain ⟨k1, k2⟩ := zw_and hok
  obtain ⟨k3, k4⟩ := zw_and k2
  obtain ⟨alt, ha, hf⟩ := List.any_eq_true.mp hf
  split at hf
  · next vs hvs =>
    obtain ⟨f1, f2⟩ := zw_and hf
    obtain ⟨f3, f4⟩ := zw_and f2
    refine hQ alt ha (vs.map (zval ρ)) (znews_g gS hle (fun g hg => by
      have := List.all_eq_true.mp k4 g hg
      rw [h1]
      exact Nat.le_of_ble_eq_true this) h3 f1) v ph (zmH_g gS rfl (zLeq_mono (fun _ _ => zmCq_e) f3) gH) ?_
    unfold zmR at f4
    split at f4
    · next er ea0 =>
      rw [er]
      cases v with
      | none => trivial
      | some u => exact gR.elim
    · next a a0 er ea0 =>
      rw [er]
      cases v with
      | none => exact gR.elim
      | some u => exact zmV_g gS rfl f4 gR
    · cases f4
  · cases hf
/-- a contract -/
def zCon (m d : Nat) (te : zA_T) (gs : List Nat) (alts : List zAlt) : Prop := ∀ (l : Launch) (X : zx_X) (φ : List z_C) (Q : Option Value → List z_C → Prop) (ρ : List Int) (ph : List z_C) (lv : List (Nat × Value)), zg_T 2000000 X φ ρ te ph lv [] →
  (∀ alt ∈ alts, ∀ vals, zAok (gs.map (fun g => ρ.getD g 0)) vals alt → ∀ v ph', zL2 (zg_C φ vals) alt.2.2.1 ph' → zg_R vals alt.2.2.2 v → Q v ph') → ZW l d (zm m) X (zmc m).1 (zmc m).2 Q 0 lv [] ph te.2.2.2.2.1 te.2.2.2.2.2
theorem zCon_of {m d n : Nat} {te : zA_T} {gs : List Nat} {alts : List zAlt} {hs : List zHd} {orc : zO_} {lo : List (Nat × Nat × Nat)} {c : Int} {ws : List Int} (hm : m < 267) (hok : hs.all zhOK = true) (hor : ∀ l X φ P, zOk l X 2000000 φ P orc) (he : (0, te, lo, gs, c, ws, []) ∈ hs)
    (runs : ∀ h ∈ hs, zx1 2000000 (zfinC alts h.2.2.2.1) (zcutH hs h m d) orc n m d h.1 (zhS h) [] = true) : zCon m d te gs alts := by
  intro l X φ Q ρ ph lv g hQ
  have k := zheads (l := l) (X := X) (XL := 2000000) (φ := φ) (Q0 := Q) (by decide) (hs := hs) (m := m) (d := d) (n := n) hm (orc := orc) (fin := fun h => zfinC alts h.2.2.2.1) (gs.map (fun g => ρ.getD g 0)) hok (hor l X φ)
    (fun h hh N => zfinC_g hQ h (List.all_eq_true.mp hok h hh) N) runs ((zmu (0, te, lo, gs, c, ws, []) ρ).toNat + 1) _ he
  exact k ρ ph lv [] [] (zPf_self ⟨zL2.len g.1, by omega, zLe2.refl _, fun f hf => by cases hf⟩) g trivial
/-- names moved up -/
def zshV (n : Nat) (a : zA_V) : zA_V := if a.1 = 1 then (1, a.2 + n) else if a.1 = 5 then (5, a.2 + n) else a
def zshC (n : Nat) (c : zA_C) : zA_C := (c.1, c.2.1, c.2.2.1, c.2.2.2.1.map (zshV n), c.2.2.2.2.map (fun q => (q.1, zshV n q.2)))
/-- names as they are written, from 0 on -/
def zposV (a : zA_V) : Bool := decide (0 ≤ a.2 ∨ (a.1 ≠ 1 ∧ a.1 ≠ 5))
def zposC (c : zA_C) : Bool := c.2.2.2.1.all zposV && c.2.2.2.2.all (fun q => zposV q.2 && !(Nat.ble 1000000 q.1))
theorem zshV_g {ρ vals : List Int} {n : Nat} {a : zA_V} {v : Value} (hr : ∀ k x, vals[k]? = some x → ρ[n + k]? = some x) (hp : zposV a = true) (g : zg_V vals a v) : zg_V ρ (zshV n a) v := by
  have hp := of_decide_eq_true hp
  unfold zshV
  split
  · next h1 =>
    rcases g with ⟨g, -⟩ | ⟨g, x, e1, e2⟩ | ⟨g, -⟩ | ⟨g, -⟩ | ⟨g, -⟩ | ⟨g, -⟩ | ⟨g, -⟩
    · omega
    · refine Or.inr (Or.inl ⟨rfl, x, e1, ?_⟩)
      have := hr _ _ e2
      have e : (a.2 + (n : Int)).toNat = n + a.2.toNat := by omega
      show ρ[(a.2 + (n : Int)).toNat]? = _
      rw [e]
      exact this
    all_goals omega
  · split
    · next h5 =>
      rcases g with ⟨g, -⟩ | ⟨g, -⟩ | ⟨g, -⟩ | ⟨g, -⟩ | ⟨g, -⟩ | ⟨g, x, e1, e2⟩ | ⟨g, -⟩
      · omega
      · omega
      · omega
      · omega
      · omega
      · refine Or.inr (Or.inr (Or.inr (Or.inr (Or.inr (Or.inl ⟨rfl, x, e1, ?_⟩)))))
        have := hr _ _ e2
        have e : (a.2 + (n : Int)).toNat = n + a.2.toNat := by omega
        show ρ[(a.2 + (n : Int)).toNat]? = _
        rw [e]
        exact this
      · omega
    · next h1 h5 => exact zcnV_g (by simp only [zcnV, Bool.and_eq_true, Bool.not_eq_true', beq_eq_false_iff_ne, ne_eq]; omega) g
theorem zsh_head (n : Nat) (vs : List zA_V) : (vs.map (zshV n)).headD (3, 0) = zshV n (vs.headD (3, 0)) := by cases vs <;> rfl
theorem zsh_look (n : Nat) (ov : List (Nat × zA_V)) (j : Nat) : (ov.map (fun q => (q.1, zshV n q.2))).lookup j = (ov.lookup j).map (zshV n) := by
  induction ov with
  | nil => rfl
  | cons q r ih =>
    obtain ⟨k, v⟩ := q
    rw [List.map_cons, List.lookup_cons, List.lookup_cons]
    cases hjk : j == k
    · exact ih
    · rfl
theorem zpos_el {c : zA_C} (h : zposC c = true) (j : Nat) : zposV ((c.2.2.2.2.lookup j).getD (c.2.2.2.1.headD (3, 0))) = true := by
  obtain ⟨h1, h2⟩ := zw_and h
  cases hl : c.2.2.2.2.lookup j with
  | some a => exact (zw_and (List.all_eq_true.mp h2 _ (z_look_in hl))).1
  | none =>
    cases hv : c.2.2.2.1 with
    | nil => rfl
    | cons a r => exact List.all_eq_true.mp h1 a (by rw [hv]; exact List.mem_cons_self)
theorem zshF_g {ρ vals : List Int} {n : Nat} (hr : ∀ k x, vals[k]? = some x → ρ[n + k]? = some x) : ∀ {as : List zA_V} {vs : List Value}, as.all zposV = true → zL2 (zg_V vals) as vs → zL2 (zg_V ρ) (as.map (zshV n)) vs
  | [], [], _, _ => trivial
  | a :: as, v :: vs, h, g => by
    simp only [List.all_cons, Bool.and_eq_true] at h
    exact ⟨zshV_g hr h.1 g.1, zshF_g hr h.2 g.2⟩
  | [], _ :: _, _, g => g.elim
  | _ :: _, [], _, g => g.elim
theorem zshC_g {φ : List z_C} {ρ vals : List Int} {n : Nat} {a : zA_C} {c : z_C} (hr : ∀ k x, vals[k]? = some x → ρ[n + k]? = some x) (hp : zposC a = true) (g : zg_C φ vals a c) : zg_C φ ρ (zshC n a) c := by
  have hY : ∀ (m : Nat) (el : Nat → Value), zg_Y ρ m (a.2.2.2.2.map (fun q => (q.1, zshV n q.2))) el := by
    intro m el q hq hk
    obtain ⟨q0, hq0, rfl⟩ := List.mem_map.mp hq
    have := (zw_and (List.all_eq_true.mp (zw_and hp).2 q0 hq0)).2
    rw [Nat.ble_eq_true_of_le hk] at this
    exact absurd this (by decide)
  have hel : ∀ (j : Nat) (u : Value), zg_V vals ((a.2.2.2.2.lookup j).getD (a.2.2.2.1.headD (3, 0))) u → zg_V ρ (((a.2.2.2.2.map (fun q => (q.1, zshV n q.2))).lookup j).getD ((a.2.2.2.1.map (zshV n)).headD (3, 0))) u := by
    intro j u gu
    have := zshV_g hr (zpos_el hp j) gu
    rw [zsh_look, zsh_head]
    cases hl : a.2.2.2.2.lookup j with
    | none => rw [hl] at this; exact this
    | some x => rw [hl] at this; exact this
  rcases g with g | ⟨h1, fs, e, g⟩ | ⟨h1, h2, f, e, g, -⟩ | ⟨h1, h2, f, e, g, -⟩ | ⟨h1, h2, f, e, g, -⟩
  · have hp1 : zposV (a.2.2.2.1.headD (3, 0)) = true := by
      have h1 := (zw_and hp).1
      cases hv : a.2.2.2.1 with
      | nil => rfl
      | cons x r => exact List.all_eq_true.mp h1 x (by rw [hv]; exact List.mem_cons_self)
    have e8 : (zshV n (a.2.2.2.1.headD (3, 0))).1 = (a.2.2.2.1.headD (3, 0)).1 := by
      unfold zshV
      split
      · next e => exact e.symm
      · split
        · next e => exact e.symm
        · rfl
    refine Or.inl ⟨g.1, g.2.1, fun h0 => ?_⟩
    rcases g.2.2 h0 with ⟨f, e, k, g, -⟩ | ⟨f, e, k, g, -⟩
    · refine Or.inl ⟨f, e, ?_, fun j hj => hel j _ (g j hj), hY _ _⟩
      show ((a.2.2.2.1.map (zshV n)).headD (3, 0)).1 ≠ 8
      rw [zsh_head, e8]
      exact k
    · refine Or.inr ⟨f, e, ?_, fun j hj => hel j _ (g j hj), hY _ _⟩
      show ((a.2.2.2.1.map (zshV n)).headD (3, 0)).1 = 8
      rw [zsh_head, e8]
      exact k
  · refine Or.inr (Or.inl ⟨h1, fs, e, zshF_g hr (zw_and hp).1 g.1, fun q hq => ?_⟩)
    obtain ⟨q0, hq0, rfl⟩ := List.mem_map.mp hq
    obtain ⟨z1, z2⟩ := g.2 q0 hq0
    have e8 : zshV n q0.2 = q0.2 := by
      unfold zshV
      rw [if_neg (by omega), if_neg (by omega)]
    show (zshV n q0.2).1 = 8 ∧ ∃ (n' : Nat) (gs : List Value), φ[(zshV n q0.2).2.toNat]? = _ ∧ _
    rw [e8]
    exact ⟨z1, z2⟩
  · exact Or.inr (Or.inr (Or.inl ⟨h1, h2, f, e, fun j hj => hel j _ (g j hj), hY _ _⟩))
  · exact Or.inr (Or.inr (Or.inr (Or.inl ⟨h1, h2, f, e, fun j hj => hel j _ (g j hj), hY _ _⟩)))
  · exact Or.inr (Or.inr (Or.inr (Or.inr ⟨h1, h2, f, e, fun j hj => hel j _ (g j hj), hY _ _⟩)))
theorem zshH_g {φ : List z_C} {ρ vals : List Int} {n : Nat} (hr : ∀ k x, vals[k]? = some x → ρ[n + k]? = some x) : ∀ {H : zA_H} {ph : List z_C}, H.all zposC = true → zL2 (zg_C φ vals) H ph → zL2 (zg_C φ ρ) (H.map (zshC n)) ph
  | [], [], _, _ => trivial
  | a :: as, v :: vs, h, g => by
    simp only [List.all_cons, Bool.and_eq_true] at h
    exact ⟨zshC_g hr h.1 g.1, zshH_g hr h.2 g.2⟩
  | [], _ :: _, _, g => g.elim
  | _ :: _, [], _, g => g.elim
/-- what is known of new names beside a ghost: not below it -/
def zfct (S : zA_S) (n : Nat) (gs : List Nat) (σ : List zA_V) : Nat → List (Int × Int × Option Nat) → zA_S
  | _, [] => []
  | i, q :: qs => (match q.2.2 with
    | none => []
    | some g => (match gs[g]? with
      | none => []
      | some k => (match σ[k]? with
        | none => []
        | some b => (match zr S b with
          | none => []
          | some p => if -1000000 ≤ q.1 ∧ q.2.1 ≤ 1000000 ∧ -1000000 ≤ p.1 ∧ p.2 ≤ 1000000 then [((0 : Int), (2000000 : Int), (11, (1, ((n + i : Nat) : Int)), b))] else [])))) ++ zfct S n gs σ (i + 1) qs
def zinst (S : zA_S) (gs : List Nat) (σ : List zA_V) (alt : zAlt) : zR_ := (S ++ alt.1.map (fun q => (q.1, q.2.1, zD0)) ++ zfct S S.length gs σ 0 alt.1, alt.2.2.1.map (zshC S.length), alt.2.2.2.map (zshV S.length))
def zposA (alt : zAlt) : Bool := alt.2.2.1.all zposC && (match alt.2.2.2 with
  | some a => zposV a
  | none => true)
def zorcC (m0 d0 : Nat) (te : zA_T) (lo : List (Nat × Nat × Nat)) (gs : List Nat) (alts : List zAlt) (m d : Nat) (t : zA_T) : Option (List zR_) := match Nat.beq m m0 with
  | false => none
  | true => (match Nat.ble d0 d with
    | false => none
    | true => (match zlocs t none lo with
      | none => none
      | some σ => (match zmT σ t te with
        | false => none
        | true => some (alts.map (zinst t.1 gs σ)))))
theorem zfct_g {ρ ρ0 : List Int} {S : zA_S} {gs : List Nat} {σ : List zA_V} (hρ : zLE ρ ρ0) (hS : zg_S ρ S) (hσ : ∀ a ∈ σ, (a.1 = 0 ∨ a.1 = 1) ∧ zE ρ a (zval ρ a)) {n : Nat} : ∀ {qs : List (Int × Int × Option Nat)} {vals : List Int} {i : Nat} {S1 : zA_S}, zg_S ρ0 S1 → zL2 (zAok1 (gs.map (fun g => (σ.map (zval ρ)).getD g 0))) vals qs → (∀ k x, vals[k]? = some x → ρ0[n + i + k]? = some x) →
    ∃ ρ', zLE ρ0 ρ' ∧ zg_S ρ' (S1 ++ zfct S n gs σ i qs)
  | [], [], _, S1, h1, _, _ => ⟨ρ0, zLE.refl _, by
    show zg_S ρ0 (S1 ++ [])
    rw [List.append_nil]
    exact h1⟩
  | q :: qs, x :: vals, i, S1, h1, h2, h3 => by
    have hx : ρ0[n + i]? = some x := h3 0 x rfl
    have hrest : ∀ k y, vals[k]? = some y → ρ0[n + (i + 1) + k]? = some y := by
      intro k y hy
      have := h3 (k + 1) y hy
      have e : n + i + (k + 1) = n + (i + 1) + k := by omega
      rw [← e]
      exact this
    have none1 : ∃ ρ', zLE ρ0 ρ' ∧ zg_S ρ' (S1 ++ ([] ++ zfct S n gs σ (i + 1) qs)) := by
      rw [List.nil_append]
      exact zfct_g hρ hS hσ h1 h2.2 hrest
    unfold zfct
    split
    · exact none1
    · next g hg =>
      split
      · exact none1
      · next k hk =>
        split
        · exact none1
        · next b hb =>
          split
          · exact none1
          · next p hp =>
            split
            · next hc =>
              obtain ⟨u, hu, hux⟩ := h2.1.2.2 g hg
              have hbm := hσ b (List.mem_of_getElem? hb)
              have eu : u = zval ρ b := by
                rw [List.getElem?_map, hk] at hu
                have hu : some ((σ.map (zval ρ)).getD k 0) = some u := hu
                rw [List.getD_eq_getElem?_getD, List.getElem?_map, hb] at hu
                exact (Option.some.inj hu).symm
              have bp := zr_in hS hbm.2 hp
              have b1 := h2.1.1
              have b2 := h2.1.2.1
              have eb : zE ρ0 b (zval ρ b) := hbm.2.mono hρ
              have ed : zb_c 11 x (zval ρ b) = x - zval ρ b := zw32_in (by omega) (by omega)
              have hpush := h1.pushD (n := x - zval ρ b) (q := (0, 2000000)) (D := (11, (1, ((n + i : Nat) : Int)), b)) (by show 0 ≤ _; omega) (by show _ ≤ 2000000; omega) (Or.inr ⟨x, zval ρ b, zEk hx, eb, ed.symm⟩)
              have hle := zLE.app ρ0 (x - zval ρ b)
              obtain ⟨ρ', r1, r2⟩ := zfct_g (hρ.trans hle) hS hσ hpush h2.2 (fun k y hy => hle _ _ (hrest k y hy))
              refine ⟨ρ', hle.trans r1, ?_⟩
              rw [List.append_assoc] at r2
              exact r2
            · exact none1
  | [], _ :: _, _, _, _, h, _ => h.elim
  | _ :: _, [], _, _, _, h, _ => h.elim
theorem zg_S.news {ρ : List Int} : ∀ {vals : List Int} {qs : List (Int × Int × Option Nat)} {G : List Int} {ρ1 : List Int} {S : zA_S}, zg_S ρ1 S → zL2 (zAok1 G) vals qs → ρ = ρ1 ++ vals → zg_S ρ (S ++ qs.map (fun q => (q.1, q.2.1, zD0)))
  | [], [], _, _, S, h, _, e => by
    rw [List.append_nil] at e
    subst e
    show zg_S _ (S ++ [])
    rw [List.append_nil]
    exact h
  | x :: vals, q :: qs, G, ρ1, S, h, h2, e => by
    have hp := h.push (n := x) (q := (q.1, q.2.1)) h2.1.1 h2.1.2.1
    have := zg_S.news (ρ := ρ) (vals := vals) (qs := qs) (G := G) (ρ1 := ρ1 ++ [x]) hp h2.2 (by rw [e, List.append_assoc]; rfl)
    rw [List.append_assoc] at this
    exact this
  | [], _ :: _, _, _, _, _, h, _ => h.elim
  | _ :: _, [], _, _, _, _, h, _ => h.elim
theorem zOk_C {m0 d0 : Nat} {te : zA_T} {lo : List (Nat × Nat × Nat)} {gs : List Nat} {alts : List zAlt} (hc : zCon m0 d0 te gs alts) (hpos : alts.all zposA = true) (l : Launch) (X : zx_X) (XL : Nat) (φ : List z_C) (P : List Int → Prop) : zOk l X XL φ P (zorcC m0 d0 te lo gs alts) := by
  intro m d t rs h ρ ph lv _ g Q hQ
  unfold zorcC at h
  split at h
  · cases h
  · next hm =>
    split at h
    · cases h
    · next hd =>
      split at h
      · cases h
      · next σ hσ =>
        split at h
        · cases h
        · next hzm =>
          cases h
          have hm := Nat.eq_of_beq_eq_true hm
          subst hm
          have hS := g.1
          have hzS : zmS t.1 σ te.1 = true := (zw_and hzm).1
          obtain ⟨-, e, lv0, hm0, g0⟩ := zmT_g (XL' := 2000000) (by decide) hzm g
          have k := hc l X φ Q _ ph lv0 g0 (fun alt ha vals hok v ph' gH gR => by
            have hpa := List.all_eq_true.mp hpos alt ha
            obtain ⟨p1, p2⟩ := zw_and hpa
            have hlen : ρ.length = t.1.length := zL2.len hS
            have s1 : zg_S (ρ ++ vals) (t.1 ++ alt.1.map (fun q => (q.1, q.2.1, zD0))) := zg_S.news hS hok rfl
            have hle1 : zLE ρ (ρ ++ vals) := fun k n hk => by
              rw [List.getElem?_append_left (List.getElem?_eq_some_iff.mp hk).1]
              exact hk
            have hv : ∀ k x, vals[k]? = some x → (ρ ++ vals)[t.1.length + 0 + k]? = some x := by
              intro k x hk
              rw [List.getElem?_append_right (by omega)]
              have e : t.1.length + 0 + k - ρ.length = k := by omega
              rw [e]
              exact hk
            obtain ⟨ρ', r1, r2⟩ := zfct_g (ρ := ρ) (n := t.1.length) (gs := gs) hle1 hS (zmS_E hS hzS) s1 hok hv
            have hr : ∀ k x, vals[k]? = some x → ρ'[t.1.length + k]? = some x := fun k x hk => r1 _ _ (hv k x hk)
            refine hQ _ (List.mem_map.mpr ⟨alt, ha, rfl⟩) ρ' v ph' (hle1.trans r1) r2 (zshH_g hr p1 gH) ?_
            show zg_R ρ' (alt.2.2.2.map (zshV t.1.length)) v
            cases hret : alt.2.2.2 with
            | none =>
              rw [hret] at gR
              cases v with
              | none => trivial
              | some u => exact gR.elim
            | some a =>
              rw [hret] at gR p2
              cases v with
              | none => exact gR.elim
              | some u => exact zshV_g hr p2 gR)
          have k := ZW.deeper (Nat.le_of_ble_eq_true hd) (ZW.lsub hm0 k)
          rw [← e] at k
          exact k
/-- one after the other -/
def zor (a b : zO_) : zO_ := fun m d t => match a m d t with
  | some r => some r
  | none => b m d t
theorem zOk_or {a b : zO_} {l : Launch} {X : zx_X} {XL : Nat} {φ : List z_C} {P : List Int → Prop} (h1 : zOk l X XL φ P a) (h2 : zOk l X XL φ P b) : zOk l X XL φ P (zor a b) := by
  intro m d t rs h
  unfold zor at h
  split at h
  · next r hr =>
    cases h
    exact h1 m d t _ hr
  · exact h2 m d t rs h
