/-! PART 25.0: arrays that only φ tells are read and written by hand. -/
/-- a name that was read: the name, the place's number, the cell -/
abbrev zFa : Type := Nat × zA_V × Nat
def zFaOk (φ : List z_C) (ρ : List Int) (fa : zFa) : Prop := ∃ x : Int, zE ρ fa.2.1 x ∧ 0 ≤ x ∧ ρ[fa.1]? = some (zrd φ fa.2.2 x.toNat)
def zPF (φ : List z_C) (I : List Int → Prop) (Fs : List zFa) (ρ : List Int) : Prop := zPf I ρ ∧ ∀ fa ∈ Fs, zFaOk φ ρ fa
theorem zPF_up (φ : List z_C) (I : List Int → Prop) (Fs : List zFa) : ∀ ρ ρ' : List Int, zLE ρ ρ' → zPF φ I Fs ρ → zPF φ I Fs ρ' := fun ρ ρ' h g => ⟨zPf_up I ρ ρ' h g.1, fun fa hf => by
  obtain ⟨x, h1, h2, h3⟩ := g.2 fa hf
  exact ⟨x, h1.mono h, h2, h _ _ h3⟩⟩
/-- arrays of φ: cell, length, bounds -/
abbrev zAr : Type := List (Nat × Nat × Int × Int)
def zArOk (φ : List z_C) (A : zAr) : Prop := ∀ i q, A.lookup i = some q → (∃ f : Nat → Int32, φ[i]? = some (.inl (0, q.1, z_I f))) ∧ ∀ k, k < q.1 → q.2.1 ≤ zrd φ i k ∧ zrd φ i k ≤ q.2.2
theorem zrd_eqn {φ : List z_C} {c n : Nat} {f : Nat → Int32} (h : φ[c]? = some (.inl (0, n, z_I f))) (k : Nat) : zrd φ c k = (f k).toInt := by
  unfold zrd
  rw [h]
  rfl
def zrdA (A : zAr) (H : zA_H) (a : zA_V) : Option (Nat × Nat × Int × Int) := if a.1 = 2 ∧ 3 ≤ a.2.toNat then (match H[a.2.toNat - 3]? with
  | some c => if c.1 = 8 then (match A.lookup c.2.1 with
    | some q => some (c.2.1, q)
    | none => none) else none
  | none => none) else none
theorem zrdA_g {A : zAr} {H : zA_H} {a : zA_V} {q : Nat × Nat × Int × Int} {φ : List z_C} {ρ : List Int} {ph : List z_C} {v : Value} (h : zrdA A H a = some q) (g : zL2 (zg_C φ ρ) H ph) (gv : zg_V ρ a v) : ∃ i, v = .ref (i + 3) ∧ A.lookup q.1 = some q.2 ∧ ph[i]? = φ[q.1]? ∧ i = a.2.toNat - 3 ∧ 3 ≤ a.2.toNat ∧ ∃ c, H[i]? = some c ∧ c.1 = 8 ∧ c.2.1 = q.1 := by
  unfold zrdA at h
  split at h
  · next h1 =>
    have e := zg_ref h1.1 gv
    subst e
    split at h
    · next c hc =>
      split at h
      · next h8 =>
        split at h
        · next q' hq =>
          cases h
          obtain ⟨x, ex, gx⟩ := zL2.get g hc
          refine ⟨a.2.toNat - 3, z_back3 h1.2, hq, ?_, rfl, h1.2, c, hc, h8, rfl⟩
          rcases gx with ⟨-, gx⟩ | ⟨g1, -⟩ | ⟨g1, -⟩ | ⟨g1, -⟩ | ⟨g1, -⟩
          · rw [ex, gx]
          all_goals omega
        · cases h
      · cases h
    · cases h
  · cases h
/-- the state after such a reading -/
def zrdN (j : zA_V) (r : List zA_V) (t : zA_T) (q : Nat × Nat × Int × Int) : Option (zFa × zA_T) := match zrx t.1 j with
  | some p => if zIs j = true ∧ 0 ≤ p.1 ∧ p.2 < q.2.1 then some ((t.1.length, j, q.1), (t.1 ++ [(q.2.2.1, q.2.2.2, zD0)], t.2.1, t.2.2.1, (1, (t.1.length : Int)) :: r, t.2.2.2.2)) else none
  | none => none
def zrdS (A : zAr) (t : zA_T) : Option (zFa × zA_T) := match t.2.2.2.1 with
  | j :: a :: r => (match zrdA A t.2.1 a with
    | some q => zrdN j r t q
    | none => none)
  | _ => none
section ZR
variable {l : Launch} {X : zx_X} {XL : Nat} {φ : List z_C} {Q0 : Option Value → List z_C → Prop}
theorem zGd_rd {P : List Int → Prop} (hP : ∀ ρ ρ' : List Int, zLE ρ ρ' → P ρ → P ρ') {A : zAr} (hA : zArOk φ A) {m d pc : Nat} {t t' : zA_T} {fa : zFa} {stk : List zA_F} (hd : decode (zm m).2.1 pc = .ok (.iaload, 1)) (hr : zrdS A t = some (fa, t')) (k : zGd l X XL φ (fun ρ => P ρ ∧ zFaOk φ ρ fa) Q0 m d (pc + 1) t' stk) : zGd l X XL φ P Q0 m d pc t stk := by
  obtain ⟨S, H, L, s0, cc, ns⟩ := t
  intro ρ ph lv st cst hp g gs
  obtain ⟨g1, g2, g3, g4, g5⟩ := g
  unfold zrdS at hr
  split at hr
  · next j a r hst =>
    have hst : s0 = j :: a :: r := hst
    subst hst
    obtain ⟨vj, st1, rfl, gj, gr1⟩ := zL2.cons1 g4
    obtain ⟨va, st2, rfl, ga, gr⟩ := zL2.cons1 gr1
    split at hr
    · next q hq =>
      obtain ⟨i, rfl, hl, hi, -⟩ := zrdA_g hq g2 ga
      obtain ⟨⟨f, hf⟩, hb⟩ := hA _ _ hl
      unfold zrdN at hr
      split at hr
      · next p hp' =>
        split at hr
        · next hc =>
          cases hr
          obtain ⟨c1, c2, c3⟩ := hc
          obtain ⟨x, rfl, ex⟩ := zg_int c1 gj
          have b := zrx_in g1 ex hp'
          have hin : vp_in x q.2.1 := vp_in_iff.mpr ⟨by omega, by omega⟩
          have hx : x.toNatClampNeg = x.toInt.toNat := rfl
          have hlen : ρ.length = S.length := zL2.len g1
          have e := hb x.toInt.toNat (by omega)
          have hle := zLE.app ρ (zrd φ q.1 x.toInt.toNat)
          have eL : (ρ ++ [zrd φ q.1 x.toInt.toNat])[S.length]? = some (zrd φ q.1 x.toInt.toNat) := by
            rw [← hlen, List.getElem?_append_right (Nat.le_refl _), Nat.sub_self]
            rfl
          refine zs_iaload hd (hi.trans hf) hin (k _ ph lv (.int (f x.toNatClampNeg) :: st2) cst ⟨hP _ _ hle hp, x.toInt, ex.mono hle, by omega, eL⟩ ⟨g1.push e.1 e.2, zL2.mono (fun _ _ => zg_C.mono hle) g2, zL2.mono (fun _ _ q => ⟨q.1, q.2.mono hle⟩) g3, ⟨zg_ofK ?_, zL2.mono (fun _ _ => zg_V.mono hle) gr⟩, g5.mono hle⟩ (zL2.mono (fun _ _ => zg_F.mono hle) gs))
          show (ρ ++ [zrd φ q.1 x.toInt.toNat])[S.length]? = _
          rw [eL, hx, zrd_eqn hf]
        · cases hr
      · cases hr
    · cases hr
  · cases hr
/-- a cut by what was read -/
abbrev zCf : Type := List zFa → Nat → Nat → Nat → zA_T → List zA_F → Bool
noncomputable def zrX (A : zAr) (XL : Nat) (fin : zA_T → Option zA_V → Bool) (orc : zO_) (n : Nat) (m0 : Nat) (pcs : List Nat) (cf : zCf) : Nat → zCf
  | 0 => cf
  | k + 1 => fun Fs m d pc t stk => cf Fs m d pc t stk || (Nat.beq m m0 && (pcs.any (fun p => Nat.beq p pc) && (match zrdS A t with
    | some q => zxp XL fin (zrX A XL fin orc n m0 pcs cf k (q.1 :: Fs)) orc n m d (pc + 1) q.2 stk
    | none => false)))
theorem zrX_g {I : List Int → Prop} {A : zAr} (hA : zArOk φ A) {fin : zA_T → Option zA_V → Bool} {orc : zO_} {n m0 : Nat} {pcs : List Nat} {cf : zCf} (hm : m0 < 267) (hd : ∀ pc ∈ pcs, decode (zm m0).2.1 pc = .ok (.iaload, 1)) (hfin : ∀ Fs, zFn φ (zPF φ I Fs) Q0 fin) (hor : ∀ Fs, zOk l X XL φ (zPF φ I Fs) orc)
    (hcf : ∀ Fs m d pc t stk, cf Fs m d pc t stk = true → zGd l X XL φ (zPF φ I Fs) Q0 m d pc t stk) : ∀ (k : Nat) (Fs : List zFa) (m d pc : Nat) (t : zA_T) (stk : List zA_F), zrX A XL fin orc n m0 pcs cf k Fs m d pc t stk = true → zGd l X XL φ (zPF φ I Fs) Q0 m d pc t stk := by
  intro k
  induction k with
  | zero => intro Fs m d pc t stk h; exact hcf Fs m d pc t stk h
  | succ k ih =>
    intro Fs m d pc t stk h
    rcases zw_or h with h | h
    · exact hcf Fs m d pc t stk h
    · obtain ⟨h1, q1⟩ := zw_and h
      obtain ⟨h2, q2⟩ := zw_and q1
      have e1 := Nat.eq_of_beq_eq_true h1
      obtain ⟨p, hp, e⟩ := List.any_eq_true.mp h2
      have e2 := Nat.eq_of_beq_eq_true e
      subst e1 e2
      split at q2
      · next q hq =>
        refine zGd_rd (zPF_up φ I Fs) hA (hd p hp) (fa := q.1) (t' := q.2) hq ?_
        refine zGd_P (P' := zPF φ I (q.1 :: Fs)) (fun ρ _ hp => ⟨hp.1.1, fun fa hf => ?_⟩) (zxp_ok zall (zPF_up φ I _) (hfin _) (hor _) (ih (q.1 :: Fs)) n m d (p + 1) q.2 stk hm q2)
        rcases List.mem_cons.mp hf with rfl | hf
        · exact hp.2
        · exact hp.1.2 fa hf
      · cases q2
end ZR
/-! what linear bounds say -/
/-- a sum of values times numbers -/
def zlf : List (Int × zA_V) → zF_ × Int → zF_ × Int
  | [], p => p
  | a :: l, p => zlf l (zfv a.1 a.2 p.1 p.2)
def zlkn (n : Nat) (a : Int × zA_V) : Bool := Nat.beq a.2.1 0 || (Nat.beq a.2.1 1 && Nat.blt a.2.2.toNat n)
def zlle (S : zA_S) (l : List (Int × zA_V)) (c : Int) : Bool := l.all (zlkn S.length) && (match zub S 40 (zlf l ([], c)).1 (zlf l ([], c)).2 with
  | some u => decide (u ≤ 0)
  | none => false)
def zlsum (ρ : List Int) : List (Int × zA_V) → Int
  | [] => 0
  | a :: l => a.1 * zval ρ a.2 + zlsum ρ l
theorem zlf_g {ρ : List Int} : ∀ {l : List (Int × zA_V)} {p : zF_ × Int}, (∀ a ∈ l, (a.2.1 = 0 ∨ a.2.1 = 1) ∧ zE ρ a.2 (zval ρ a.2)) → zfs ρ (zlf l p).1 + (zlf l p).2 = zlsum ρ l + (zfs ρ p.1 + p.2)
  | [], p, _ => by show _ = 0 + _; rw [Int.zero_add]; rfl
  | a :: l, p, h => by
    have ha := h a List.mem_cons_self
    show zfs ρ (zlf l (zfv a.1 a.2 p.1 p.2)).1 + (zlf l (zfv a.1 a.2 p.1 p.2)).2 = a.1 * zval ρ a.2 + zlsum ρ l + (zfs ρ p.1 + p.2)
    rw [zlf_g (fun b hb => h b (List.mem_cons_of_mem _ hb)), zfv_g ha.1 ha.2]
    omega
theorem zlkn_g {ρ : List Int} {S : zA_S} (hS : zg_S ρ S) {a : Int × zA_V} (h : zlkn S.length a = true) : (a.2.1 = 0 ∨ a.2.1 = 1) ∧ zE ρ a.2 (zval ρ a.2) := by
  rcases zw_or h with h | h
  · have e := Nat.eq_of_beq_eq_true h
    exact ⟨Or.inl e, Or.inl ⟨Or.inl e, by unfold zval; rw [if_pos e]⟩⟩
  · obtain ⟨h1, h2⟩ := zw_and h
    have e := Nat.eq_of_beq_eq_true h1
    have h2 : a.2.2.toNat < S.length := Nat.le_of_ble_eq_true h2
    rw [← zL2.len hS] at h2
    refine ⟨Or.inr e, Or.inr ⟨Or.inl e, ?_⟩⟩
    unfold zval
    rw [if_neg (by omega), List.getD_eq_getElem?_getD, List.getElem?_eq_getElem h2]
    rfl
theorem zlle_g {ρ : List Int} {S : zA_S} {l : List (Int × zA_V)} {c : Int} (hS : zg_S ρ S) (h : zlle S l c = true) : zlsum ρ l + c ≤ 0 := by
  unfold zlle at h
  obtain ⟨h1, h2⟩ := zw_and h
  have k : ∀ a ∈ l, (a.2.1 = 0 ∨ a.2.1 = 1) ∧ zE ρ a.2 (zval ρ a.2) := fun a ha => zlkn_g hS (List.all_eq_true.mp h1 a ha)
  split at h2
  · next u hu =>
    have h2 := of_decide_eq_true h2
    have r := zub_g hS _ _ _ _ hu
    rw [zlf_g k] at r
    have e0 : zfs ρ ([] : zF_) = 0 := rfl
    have r : zlsum ρ l + (zfs ρ ([] : zF_) + c) ≤ u := r
    omega
  · cases h2
/-- a sum that is 0 -/
def zleq0 (S : zA_S) (l : List (Int × zA_V)) (c : Int) : Bool := zlle S l c && zlle S (l.map (fun a => (-a.1, a.2))) (-c)
theorem zlsum_neg {ρ : List Int} : ∀ l : List (Int × zA_V), zlsum ρ (l.map (fun a => (-a.1, a.2))) = - zlsum ρ l
  | [] => rfl
  | a :: l => by
    show -a.1 * zval ρ a.2 + zlsum ρ (l.map (fun a => (-a.1, a.2))) = - (a.1 * zval ρ a.2 + zlsum ρ l)
    rw [zlsum_neg l, Int.neg_mul]
    omega
theorem zleq0_g {ρ : List Int} {S : zA_S} {l : List (Int × zA_V)} {c : Int} (hS : zg_S ρ S) (h : zleq0 S l c = true) : zlsum ρ l + c = 0 := by
  obtain ⟨h1, h2⟩ := zw_and h
  have r1 := zlle_g hS h1
  have r2 := zlle_g hS h2
  rw [zlsum_neg] at r2
  omega
/-- the value of a place that was read -/
theorem zleq0_v {ρ : List Int} {S : zA_S} {l : List (Int × zA_V)} {c : Int} {a : Int × zA_V} {x : Int} (hS : zg_S ρ S) (h : zleq0 S (a :: l) c = true) (hx : zE ρ a.2 x) : zval ρ a.2 = x := by
  obtain ⟨h1, -⟩ := zw_and (zw_and h).1
  exact zE_fun (zlkn_g hS (zw_and h1).1).2 hx
theorem zv_name {ρ : List Int} {k : Nat} {n : Int} (h : ρ[k]? = some n) : zval ρ (1, (k : Int)) = n := zval_E (a := (1, (k : Int))) rfl (zEk h)
theorem zl_2 {ρ : List Int} {a b : zA_V} {i j c : Int} (h : zlsum ρ [(i, a), (j, b)] + c = 0) : i * zval ρ a + j * zval ρ b + c = 0 := by
  have h : i * zval ρ a + (j * zval ρ b + 0) + c = 0 := h
  omega
theorem zl_1 {ρ : List Int} {a : zA_V} {i c : Int} (h : zlsum ρ [(i, a)] + c = 0) : i * zval ρ a + c = 0 := by
  have h : i * zval ρ a + 0 + c = 0 := h
  omega
theorem zl_3 {ρ : List Int} {a b d : zA_V} {i j k c : Int} (h : zlsum ρ [(i, a), (j, b), (k, d)] + c = 0) : i * zval ρ a + j * zval ρ b + k * zval ρ d + c = 0 := by
  have h : i * zval ρ a + (j * zval ρ b + (k * zval ρ d + 0)) + c = 0 := h
  omega
theorem zm_1 {ρ : List Int} {a : zA_V} {i c : Int} (h : zlsum ρ [(i, a)] + c ≤ 0) : i * zval ρ a + c ≤ 0 := by
  have h : i * zval ρ a + 0 + c ≤ 0 := h
  omega
theorem zm_2 {ρ : List Int} {a b : zA_V} {i j c : Int} (h : zlsum ρ [(i, a), (j, b)] + c ≤ 0) : i * zval ρ a + j * zval ρ b + c ≤ 0 := by
  have h : i * zval ρ a + (j * zval ρ b + 0) + c ≤ 0 := h
  omega
