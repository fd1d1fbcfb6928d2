/-! PART 08: what an instruction does to what is known. -/
def zt_st (t : zA_T) (st : List zA_V) : zA_T := (t.1, t.2.1, t.2.2.1, st, t.2.2.2.2)
def zt_S (t : zA_T) (S : zA_S) : zA_T := (S, t.2)
def zt_Sst (t : zA_T) (S : zA_S) (st : List zA_V) : zA_T := (S, t.2.1, t.2.2.1, st, t.2.2.2.2)
def zt_L (t : zA_T) (L : zA_L) (st : List zA_V) : zA_T := (t.1, t.2.1, L, st, t.2.2.2.2)
def zt_H (t : zA_T) (H : zA_H) (st : List zA_V) : zA_T := (t.1, H, t.2.2.1, st, t.2.2.2.2)
def zcl (q : zI2) : zI2 := if -2147483648 ≤ q.1 ∧ q.2 ≤ 2147483647 then q else zfull
theorem zfull_in (x : Int32) : zfull.1 ≤ x.toInt ∧ x.toInt ≤ zfull.2 := by
  have h1 := Int32.le_toInt x
  have h2 := Int32.toInt_lt x
  exact ⟨by show -2147483648 ≤ _; omega, by show _ ≤ 2147483647; omega⟩
theorem zcl_in {q : zI2} {z : Int} {x : Int32} (hx : x.toInt = z.bmod 4294967296) (h1 : q.1 ≤ z) (h2 : z ≤ q.2) : (zcl q).1 ≤ x.toInt ∧ x.toInt ≤ (zcl q).2 := by
  unfold zcl
  split
  · next h =>
    rw [hx, Int.bmod_eq_of_le (by omega) (by omega)]
    exact ⟨h1, h2⟩
  · exact zfull_in x
def zp2 (n : Int) : Int := ((2 ^ n.toNat : Nat) : Int)
theorem zp2_eq (n : Int) : zp2 n = 2 ^ n.toNat := Int.natCast_pow 2 n.toNat
/-- bounds of a sum, a difference, .. -/
def zr_mul (p q : zI2) : zI2 := zcl (min (min (p.1 * q.1) (p.1 * q.2)) (min (p.2 * q.1) (p.2 * q.2)), max (max (p.1 * q.1) (p.1 * q.2)) (max (p.2 * q.1) (p.2 * q.2)))
def zr_and (p q : zI2) : zI2 := if 0 ≤ q.1 then (0, if 0 ≤ p.1 then min p.2 q.2 else q.2) else if 0 ≤ p.1 then (0, p.2) else zfull
def zr_or (p q : zI2) : zI2 := if 0 ≤ p.1 ∧ 0 ≤ q.1 ∧ p.2 < 2147483648 ∧ q.2 < 2147483648 then (0, zpw (max p.2 q.2)) else zfull
def zr_shl (p q : zI2) : zI2 := if 0 ≤ p.1 ∧ 0 ≤ q.1 ∧ q.2 ≤ 31 ∧ p.2 * zp2 q.2 < 2147483648 then (p.1 * zp2 q.1, p.2 * zp2 q.2) else zfull
def zr_shr (p q : zI2) : zI2 := (min p.1 0, if 0 ≤ p.1 ∧ 0 ≤ q.1 ∧ q.2 ≤ 31 then p.2 / zp2 q.1 else max p.2 0)
def zr_ush (p q : zI2) : zI2 := if 0 ≤ p.1 ∧ 0 ≤ q.1 ∧ q.2 ≤ 31 then (0, p.2 / zp2 q.1) else if 1 ≤ q.1 ∧ q.2 ≤ 31 then (0, 4294967295 / zp2 q.1) else zfull
def zr_div (p q : zI2) : zI2 := if 0 < q.1 then (if q.1 = q.2 then (p.1.tdiv q.1, p.2.tdiv q.1) else (min p.1 0, max p.2 0)) else zfull
def zr_rem (p q : zI2) : zI2 := if 0 < q.1 then (if 0 ≤ p.1 then (0, min p.2 (q.2 - 1)) else (1 - q.2, q.2 - 1)) else zfull
def zb_r (k : Nat) (p q : zI2) : zI2 :=
  if k = 10 then zcl (p.1 + q.1, p.2 + q.2) else if k = 11 then zcl (p.1 - q.2, p.2 - q.1) else if k = 12 then zr_mul p q else if k = 13 then zr_and p q
  else if k = 14 ∨ k = 15 then zr_or p q else if k = 16 then zr_shl p q else if k = 17 then zr_shr p q else if k = 18 then zr_ush p q else if k = 19 then zr_div p q else zr_rem p q
theorem z_and_in (a b : Int32) (h : 0 ≤ b.toInt) : 0 ≤ (a &&& b).toInt ∧ (a &&& b).toInt ≤ b.toInt := by
  have e1 : ∀ c : Int32, c.toInt = c.toBitVec.toInt := fun c => rfl
  have hb : b.toBitVec.toInt = (b.toBitVec.toNat : Int) := by
    rw [e1] at h
    rw [BitVec.toInt_eq_toNat_cond] at h ⊢
    have := b.toBitVec.isLt
    split
    · rfl
    · next q => rw [if_neg q] at h; omega
  have hab : (a &&& b).toBitVec = a.toBitVec &&& b.toBitVec := Int32.toBitVec_and a b
  have hle : (a.toBitVec &&& b.toBitVec).toNat ≤ b.toBitVec.toNat := by
    rw [BitVec.toNat_and]
    exact Nat.and_le_right
  have hb2 : 2 * b.toBitVec.toNat < 2 ^ 32 := by
    rw [e1, BitVec.toInt_eq_toNat_cond] at h
    have := b.toBitVec.isLt
    split at h
    · assumption
    · omega
  have hr : (a &&& b).toInt = ((a.toBitVec &&& b.toBitVec).toNat : Int) := by
    rw [e1, hab, BitVec.toInt_eq_toNat_cond, if_pos (by omega)]
  rw [hr, e1 b, hb]
  omega
theorem z_mod_eq (a b : Int32) : (a - a / b * b).toInt = a.toInt.tmod b.toInt := by
  rw [irem_eq_mod]
  exact Int32.toInt_mod a b
theorem z_and_comm (a b : Int32) : a &&& b = b &&& a := by
  apply Int32.toBitVec_inj.mp
  rw [Int32.toBitVec_and, Int32.toBitVec_and, BitVec.and_comm]
theorem zr_mul_in {p q : zI2} {a b : Int32} (h1 : p.1 ≤ a.toInt) (h2 : a.toInt ≤ p.2) (h3 : q.1 ≤ b.toInt) (h4 : b.toInt ≤ q.2) : (zr_mul p q).1 ≤ (zb 12 a b).toInt ∧ (zb 12 a b).toInt ≤ (zr_mul p q).2 := by
  have u := z_mul_in h1 h2 h3 h4
  exact zcl_in (Int32.toInt_mul a b) u.1 u.2
theorem zr_and_in {p q : zI2} {a b : Int32} (h1 : p.1 ≤ a.toInt) (h2 : a.toInt ≤ p.2) (h3 : q.1 ≤ b.toInt) (h4 : b.toInt ≤ q.2) : (zr_and p q).1 ≤ (zb 13 a b).toInt ∧ (zb 13 a b).toInt ≤ (zr_and p q).2 := by
  have h5 : (zb 13 a b).toInt = (a &&& b).toInt := rfl
  rw [h5]
  unfold zr_and
  split
  · next g =>
    have u := z_and_in a b (by omega)
    refine ⟨u.1, ?_⟩
    dsimp only
    split
    · next g2 =>
      have u2 := z_and_in b a (by omega)
      rw [← z_and_comm a b] at u2
      omega
    · omega
  · split
    · next g =>
      have u := z_and_in b a (by omega)
      rw [← z_and_comm a b] at u
      exact ⟨u.1, by show _ ≤ p.2; omega⟩
    · exact zfull_in _
theorem zr_or_in {p q : zI2} {a b : Int32} (h1 : p.1 ≤ a.toInt) (h2 : a.toInt ≤ p.2) (h3 : q.1 ≤ b.toInt) (h4 : b.toInt ≤ q.2) : ((zr_or p q).1 ≤ (zb 14 a b).toInt ∧ (zb 14 a b).toInt ≤ (zr_or p q).2) ∧ ((zr_or p q).1 ≤ (zb 15 a b).toInt ∧ (zb 15 a b).toInt ≤ (zr_or p q).2) := by
  unfold zr_or
  split
  · next g => exact ⟨z_or_in a b (by omega) (by omega) (by omega) (by omega) (by omega), z_xor_in a b (by omega) (by omega) (by omega) (by omega) (by omega)⟩
  · exact ⟨zfull_in _, zfull_in _⟩
theorem zr_shl_in {p q : zI2} {a b : Int32} (h1 : p.1 ≤ a.toInt) (h2 : a.toInt ≤ p.2) (h3 : q.1 ≤ b.toInt) (h4 : b.toInt ≤ q.2) : (zr_shl p q).1 ≤ (zb 16 a b).toInt ∧ (zb 16 a b).toInt ≤ (zr_shl p q).2 := by
  unfold zr_shl
  split
  · next g =>
    obtain ⟨g1, g2, g3, g4⟩ := g
    rw [zp2_eq] at g4
    have u1 := z_pow_le (m := b.toInt.toNat) (n := q.2.toNat) (by omega)
    have u2 := z_pow_le (m := q.1.toNat) (n := b.toInt.toNat) (by omega)
    have u3 : a.toInt * 2 ^ b.toInt.toNat ≤ p.2 * 2 ^ q.2.toNat := by
      have v1 := Int.mul_le_mul_of_nonneg_left u1 (by omega : 0 ≤ a.toInt)
      have v2 := Int.mul_le_mul_of_nonneg_right h2 (Int.le_of_lt (z_pow_pos q.2.toNat))
      exact Int.le_trans v1 v2
    have u4 : p.1 * 2 ^ q.1.toNat ≤ a.toInt * 2 ^ b.toInt.toNat := by
      have v1 := Int.mul_le_mul_of_nonneg_right h1 (Int.le_of_lt (z_pow_pos q.1.toNat))
      have v2 := Int.mul_le_mul_of_nonneg_left u2 (by omega : 0 ≤ a.toInt)
      exact Int.le_trans v1 v2
    have e : (zb 16 a b).toInt = a.toInt * 2 ^ b.toInt.toNat := z_shl_eq a b (by omega) (by omega) (by omega) (Int.lt_of_le_of_lt u3 g4)
    rw [e, zp2_eq, zp2_eq]
    exact ⟨u4, u3⟩
  · exact zfull_in _
theorem zr_shr_in {p q : zI2} {a b : Int32} (h1 : p.1 ≤ a.toInt) (h2 : a.toInt ≤ p.2) (h3 : q.1 ≤ b.toInt) (h4 : b.toInt ≤ q.2) : (zr_shr p q).1 ≤ (zb 17 a b).toInt ∧ (zb 17 a b).toInt ≤ (zr_shr p q).2 := by
  have u := z_shr_in a b
  have e : (zb 17 a b).toInt = (a >>> (b &&& 31)).toInt := rfl
  rw [e]
  unfold zr_shr
  refine ⟨by show min p.1 0 ≤ _; omega, ?_⟩
  dsimp only
  split
  · next g =>
    rw [zp2_eq]
    exact z_shr_in2 a b (by omega) g.2.1 h3 (by omega) h2
  · omega
theorem zr_ush_in {p q : zI2} {a b : Int32} (h1 : p.1 ≤ a.toInt) (h2 : a.toInt ≤ p.2) (h3 : q.1 ≤ b.toInt) (h4 : b.toInt ≤ q.2) : (zr_ush p q).1 ≤ (zb 18 a b).toInt ∧ (zb 18 a b).toInt ≤ (zr_ush p q).2 := by
  have e : (zb 18 a b).toInt = ((a.toUInt32 >>> (b.toUInt32 &&& Int32.toUInt32 31)).toInt32).toInt := rfl
  rw [e]
  unfold zr_ush
  split
  · next g =>
    rw [zp2_eq]
    exact z_ushr_in2 a b (by omega) g.2.1 h3 (by omega) h2
  · split
    · next g =>
      rw [zp2_eq]
      exact z_ushr_in a b g.1 h3 (by omega)
    · exact zfull_in _
theorem zr_div_in {p q : zI2} {a b : Int32} (h1 : p.1 ≤ a.toInt) (h2 : a.toInt ≤ p.2) (h3 : q.1 ≤ b.toInt) (h4 : b.toInt ≤ q.2) : (zr_div p q).1 ≤ (zb 19 a b).toInt ∧ (zb 19 a b).toInt ≤ (zr_div p q).2 := by
  unfold zr_div
  split
  · next g =>
    have hdv : (zb 19 a b).toInt = a.toInt.tdiv b.toInt := by
      show (a / b).toInt = _
      rw [Int32.toInt_div]
      have u := z_tdiv_abs (a := a.toInt) (b := b.toInt) (by omega)
      have v1 := Int32.toInt_lt a
      have v2 := Int32.le_toInt a
      exact Int.bmod_eq_of_le (by omega) (by omega)
    rw [hdv]
    split
    · next g2 =>
      have e : b.toInt = q.1 := by omega
      rw [e]
      exact ⟨z_tdiv_mono g h1, z_tdiv_mono g h2⟩
    · have u := z_tdiv_abs (a := a.toInt) (b := b.toInt) (by omega)
      exact ⟨by show min p.1 0 ≤ _; omega, by show _ ≤ max p.2 0; omega⟩
  · exact zfull_in _
theorem zr_rem_in {p q : zI2} {a b : Int32} (h1 : p.1 ≤ a.toInt) (h2 : a.toInt ≤ p.2) (h3 : q.1 ≤ b.toInt) (h4 : b.toInt ≤ q.2) : (zr_rem p q).1 ≤ (zb 20 a b).toInt ∧ (zb 20 a b).toInt ≤ (zr_rem p q).2 := by
  have hm : (zb 20 a b).toInt = a.toInt.tmod b.toInt := z_mod_eq a b
  unfold zr_rem
  split
  · next g =>
    have hbd := tmod_bounds (a := a.toInt) (M := b.toInt) (by omega)
    rw [hm]
    split
    · next g0 =>
      have e1 : a.toInt.tmod b.toInt = a.toInt % b.toInt := Int.tmod_eq_emod_of_nonneg (by omega)
      rw [e1] at hbd ⊢
      have u1 := Int.emod_nonneg a.toInt (by omega : b.toInt ≠ 0)
      have u2 : a.toInt % b.toInt ≤ a.toInt := by
        by_cases hlt : a.toInt < b.toInt
        · rw [Int.emod_eq_of_lt (by omega) hlt]
          exact Int.le_refl _
        · have := Int.emod_lt_of_pos a.toInt (by omega : 0 < b.toInt)
          omega
      exact ⟨u1, by show _ ≤ min p.2 (q.2 - 1); omega⟩
    · exact ⟨by show 1 - q.2 ≤ _; omega, by show _ ≤ q.2 - 1; omega⟩
  · exact zfull_in _
theorem zb_r_in {k : Nat} {p q : zI2} {a b : Int32} (hk : k ≤ 20) (h1 : p.1 ≤ a.toInt) (h2 : a.toInt ≤ p.2) (h3 : q.1 ≤ b.toInt) (h4 : b.toInt ≤ q.2) : (zb_r k p q).1 ≤ (zb k a b).toInt ∧ (zb k a b).toInt ≤ (zb_r k p q).2 := by
  by_cases e10 : k = 10
  · subst e10; exact zcl_in (Int32.toInt_add a b) (by show p.1 + q.1 ≤ _; omega) (by show _ ≤ p.2 + q.2; omega)
  by_cases e11 : k = 11
  · subst e11; exact zcl_in (Int32.toInt_sub a b) (by show p.1 - q.2 ≤ _; omega) (by show _ ≤ p.2 - q.1; omega)
  by_cases e12 : k = 12
  · subst e12; exact zr_mul_in h1 h2 h3 h4
  by_cases e13 : k = 13
  · subst e13; exact zr_and_in h1 h2 h3 h4
  by_cases e14 : k = 14
  · subst e14; exact (zr_or_in h1 h2 h3 h4).1
  by_cases e15 : k = 15
  · subst e15; exact (zr_or_in h1 h2 h3 h4).2
  by_cases e16 : k = 16
  · subst e16; exact zr_shl_in h1 h2 h3 h4
  by_cases e17 : k = 17
  · subst e17; exact zr_shr_in h1 h2 h3 h4
  by_cases e18 : k = 18
  · subst e18; exact zr_ush_in h1 h2 h3 h4
  by_cases e19 : k = 19
  · subst e19; exact zr_div_in h1 h2 h3 h4
  by_cases e20 : k = 20
  · subst e20; exact zr_rem_in h1 h2 h3 h4
  have e21 : ¬ k = 21 := by omega
  have hz : zb k a b = zb 20 a b := by simp [zb, e21, e10, e11, e12, e13, e14, e15, e16, e17, e18, e19]
  have hr : zb_r k p q = zr_rem p q := by simp [zb_r, e10, e11, e12, e13, e14, e15, e16, e17, e18, e19]
  rw [hz, hr]
  exact zr_rem_in h1 h2 h3 h4
abbrev zA_R : Type := Option (List (Nat × zA_T))
section ZO
variable {l : Launch} {d : Nat} {y : zx_Y} {X : zx_X} {mc ms XL : Nat} {φ : List z_C} {Q : Option Value → List z_C → Prop}
/-- what an instruction owes: if what it makes of t is good at all its ends, t is good -/
def zSd (l : Launch) (d : Nat) (y : zx_Y) (X : zx_X) (mc ms XL : Nat) (φ : List z_C) (Q : Option Value → List z_C → Prop) (pc : Nat) (t : zA_T) (r : zA_R) : Prop :=
  ∀ (ts : List (Nat × zA_T)), r = some ts → ∀ (ρ : List Int) (ph : List z_C) (lv : List (Nat × Value)) (st : List Value), zg_T XL X φ ρ t ph lv st →
    (∀ q ∈ ts, ∀ (ρ' : List Int) (ph' : List z_C) (lv' : List (Nat × Value)) (st' : List Value), zLE ρ ρ' → zg_T XL X φ ρ' q.2 ph' lv' st' → ZW l d y X mc ms Q q.1 lv' st' ph' q.2.2.2.2.2.1 q.2.2.2.2.2.2) →
    ZW l d y X mc ms Q pc lv st ph t.2.2.2.2.1 t.2.2.2.2.2
def zx_push (v : zA_V) (nx : Nat) (t : zA_T) : zA_R := some [(nx, zt_st t (v :: t.2.2.2.1))]
theorem zL2.cons1 {α β : Type} {R : α → β → Prop} {a : α} {as : List α} {bs : List β} (h : zL2 R (a :: as) bs) : ∃ b bs', bs = b :: bs' ∧ R a b ∧ zL2 R as bs' := by
  cases bs with
  | nil => exact h.elim
  | cons b bs' => exact ⟨b, bs', rfl, h.1, h.2⟩
theorem zo_pushI {pc nx : Nat} {c : Int} {x : Int32} (hx : x.toInt = c) {t : zA_T} (hs : ∀ {lv st ph cc ns}, ZW l d y X mc ms Q nx lv (.int x :: st) ph cc ns → ZW l d y X mc ms Q pc lv st ph cc ns) : zSd l d y X mc ms XL φ Q pc t (zx_push (0, c) nx t) := by
  intro ts hts ρ ph lv st g k
  cases hts
  exact hs (k _ (List.mem_singleton.mpr rfl) ρ ph lv _ (zLE.refl ρ) ⟨g.1, g.2.1, g.2.2.1, ⟨zg_ofI hx, g.2.2.2.1⟩, g.2.2.2.2⟩)
theorem zo_pushJ {pc nx : Nat} {c : Int} {x : Int64} (hx : x.toInt = c) {t : zA_T} (hs : ∀ {lv st ph cc ns}, ZW l d y X mc ms Q nx lv (.long x :: st) ph cc ns → ZW l d y X mc ms Q pc lv st ph cc ns) : zSd l d y X mc ms XL φ Q pc t (zx_push (4, c) nx t) := by
  intro ts hts ρ ph lv st g k
  cases hts
  exact hs (k _ (List.mem_singleton.mpr rfl) ρ ph lv _ (zLE.refl ρ) ⟨g.1, g.2.1, g.2.2.1, ⟨zg_ofJ hx, g.2.2.2.1⟩, g.2.2.2.2⟩)
theorem zo_pushR {pc nx i : Nat} {t : zA_T} (hs : ∀ {lv st ph cc ns}, ZW l d y X mc ms Q nx lv (.ref i :: st) ph cc ns → ZW l d y X mc ms Q pc lv st ph cc ns) : zSd l d y X mc ms XL φ Q pc t (zx_push (2, (i : Int)) nx t) := by
  intro ts hts ρ ph lv st g k
  cases hts
  exact hs (k _ (List.mem_singleton.mpr rfl) ρ ph lv _ (zLE.refl ρ) ⟨g.1, g.2.1, g.2.2.1, ⟨zg_ofR, g.2.2.2.1⟩, g.2.2.2.2⟩)
/-- loads: of an int (0), a long (1), a reference (2) -/
def zx_ty (ty : Nat) (a : zA_V) : Bool := if ty = 0 then zIs a else if ty = 1 then zIsJ a else a.1 == 2
def zx_load (ty i nx : Nat) (t : zA_T) : zA_R := match t.2.2.1.lookup i with
  | some a => if zx_ty ty a = true then some [(nx, zt_st t (a :: t.2.2.2.1))] else none
  | none => none
theorem zo_load {pc nx ty i : Nat} {t : zA_T} (hs : ∀ {lv st ph cc ns v}, lv.lookup i = some v → (ty = 0 → ∃ x, v = .int x) → (ty = 1 → ∃ x, v = .long x) → (ty ≠ 0 → ty ≠ 1 → ∃ x, v = .ref x) → ZW l d y X mc ms Q nx lv (v :: st) ph cc ns → ZW l d y X mc ms Q pc lv st ph cc ns) : zSd l d y X mc ms XL φ Q pc t (zx_load ty i nx t) := by
  intro ts hts ρ ph lv st g k
  unfold zx_load at hts
  split at hts
  · next a ha =>
    split at hts
    · next hty =>
      cases hts
      obtain ⟨v, hv, gv⟩ := zg_L.look g.2.2.1 ha
      refine hs hv (fun e => ?_) (fun e => ?_) (fun e1 e2 => ?_) (k _ (List.mem_singleton.mpr rfl) ρ ph lv _ (zLE.refl ρ) ⟨g.1, g.2.1, g.2.2.1, ⟨gv, g.2.2.2.1⟩, g.2.2.2.2⟩)
      · subst e
        obtain ⟨x, hx, -⟩ := zg_int (by simpa [zx_ty] using hty) gv
        exact ⟨x, hx⟩
      · subst e
        obtain ⟨x, hx, -⟩ := zg_long (by simpa [zx_ty] using hty) gv
        exact ⟨x, hx⟩
      · exact ⟨_, zg_ref (by simpa [zx_ty, e1, e2] using hty) gv⟩
    · cases hts
  · cases hts
/-- stores -/
def zx_store (ty i nx : Nat) (t : zA_T) : zA_R := match t.2.2.2.1 with
  | a :: r => if zx_ty ty a = true then some [(nx, zt_L t (if ty = 1 then zS2 t.2.2.1 i a else zS1 t.2.2.1 i a) r)] else none
  | [] => none
theorem zo_store {pc nx ty i : Nat} {t : zA_T} (hs : ∀ {lv st ph cc ns v}, (ty = 0 → ∃ x, v = .int x) → (ty = 1 → ∃ x, v = .long x) → (ty ≠ 0 → ty ≠ 1 → ∃ x, v = .ref x) → ZW l d y X mc ms Q nx (if ty = 1 then z_st2 lv i v else z_st1 lv i v) st ph cc ns → ZW l d y X mc ms Q pc lv (v :: st) ph cc ns) : zSd l d y X mc ms XL φ Q pc t (zx_store ty i nx t) := by
  obtain ⟨S, H, L, s0, cc, ns⟩ := t
  intro ts hts ρ ph lv st g k
  obtain ⟨g1, g2, g3, g4, g5⟩ := g
  unfold zx_store at hts
  split at hts
  · next a r ha =>
    have ha : s0 = a :: r := ha
    subst ha
    obtain ⟨v, st', rfl, gv, gr⟩ := zL2.cons1 g4
    split at hts
    · next hty =>
      cases hts
      refine hs (fun e => ?_) (fun e => ?_) (fun e1 e2 => ?_) (k _ (List.mem_singleton.mpr rfl) ρ ph _ _ (zLE.refl ρ) ⟨g1, g2, ?_, gr, g5⟩)
      · subst e
        obtain ⟨x, hx, -⟩ := zg_int (by simpa [zx_ty] using hty) gv
        exact ⟨x, hx⟩
      · subst e
        obtain ⟨x, hx, -⟩ := zg_long (by simpa [zx_ty] using hty) gv
        exact ⟨x, hx⟩
      · exact ⟨_, zg_ref (by simpa [zx_ty, e1, e2] using hty) gv⟩
      · show zg_L ρ (if ty = 1 then zS2 L i a else zS1 L i a) _
        split
        · exact zS2_g g3 gv
        · exact zS1_g g3 gv
    · cases hts
  · cases hts
/-- a result that is known within bounds, and how it was made -/
def zx_new (q : zI2) (D : zA_D) (nx : Nat) (t : zA_T) (r : List zA_V) : zA_R := if q.1 = q.2 then some [(nx, zt_st t ((0, q.1) :: r))] else
  match (if D.1 = 0 then none else zfd D t.1 0) with
  | some j => some [(nx, zt_st t ((1, (j : Int)) :: r))]
  | none => some [(nx, zt_Sst t (t.1 ++ [(q.1, q.2, D)]) ((1, (t.1.length : Int)) :: r))]
theorem zx_new_g {q : zI2} {D : zA_D} {nx : Nat} {t : zA_T} {r : List zA_V} {ρ : List Int} {ph : List z_C} {lv : List (Nat × Value)} {st : List Value} {x : Int32} {ts : List (Nat × zA_T)} (h : zx_new q D nx t r = some ts) (g1 : zg_S ρ t.1) (g2 : zL2 (zg_C φ ρ) t.2.1 ph) (g3 : zg_L ρ t.2.2.1 lv) (gr : zL2 (zg_V ρ) r st) (g5 : zg_X ρ XL X) (h1 : q.1 ≤ x.toInt) (h2 : x.toInt ≤ q.2) (h3 : zg_D ρ x.toInt D) :
    ∃ t' ρ', (nx, t') ∈ ts ∧ zLE ρ ρ' ∧ zg_T XL X φ ρ' t' ph lv (.int x :: st) ∧ t'.2.2.2.2 = t.2.2.2.2 := by
  unfold zx_new at h
  split at h
  · next e =>
    cases h
    exact ⟨_, ρ, List.mem_singleton.mpr rfl, zLE.refl ρ, ⟨g1, g2, g3, ⟨zg_ofI (by omega), gr⟩, g5⟩, rfl⟩
  · split at h
    · next j hj =>
      cases h
      split at hj
      · cases hj
      · next hD =>
        have e : ρ[j]? = some x.toInt := by
          refine zfd_g g1 hj hD (fun u v hu hv => ?_)
          rcases h3 with h0 | ⟨u', v', hu', hv', e⟩
          · exact absurd h0 hD
          · rw [zE_fun hu hu', zE_fun hv hv']
            exact e
        exact ⟨_, ρ, List.mem_singleton.mpr rfl, zLE.refl ρ, ⟨g1, g2, g3, ⟨zg_ofK e, gr⟩, g5⟩, rfl⟩
    · cases h
      have hle := zLE.app ρ x.toInt
      exact ⟨_, ρ ++ [x.toInt], List.mem_singleton.mpr rfl, hle, ⟨g1.pushD h1 h2 h3, zL2.mono (fun _ _ => zg_C.mono hle) g2, zL2.mono (fun _ _ q => ⟨q.1, q.2.mono hle⟩) g3, ⟨zg_ofK (g1.at _), zL2.mono (fun _ _ => zg_V.mono hle) gr⟩, g5.mono hle⟩, rfl⟩
/-- the same instruction once more, with other bounds -/
def zx_again (pc : Nat) (t : zA_T) (l : Option (List zA_S)) : zA_R := match l with
  | some l => some (l.map (fun S => (pc, zt_S t S)))
  | none => none
/-- arithmetic of two ints -/
def zx_bin (XL k nx pc : Nat) (t : zA_T) : zA_R := match t.2.2.2.1 with
  | b0 :: a0 :: r =>
    let a := zn t.1 a0
    let b := zn t.1 b0
    if zIs a = true ∧ zIs b = true then
      if a.1 = 0 ∧ b.1 = 0 then
        if 19 ≤ k ∧ b.2 = 0 then none else some [(nx, zt_st t ((0, zb_c k a.2 b.2) :: r))]
      else if XL < 2000000 ∧ (k = 16 ∨ k = 18 ∨ k = 17 ∧ ¬ (a.1 = 0 ∧ a.2 = 0)) ∧ b.1 = 1 then zx_again pc t (zSp t.1 b)
      else if XL < 2000000 ∧ k = 12 ∧ a.1 = 1 then zx_again pc t (zSp t.1 a)
      else if XL < 2000000 ∧ k = 12 ∧ b.1 = 1 then zx_again pc t (zSp t.1 b)
      else match zr t.1 a, zr t.1 b with
        | some p, some q => if 19 ≤ k ∧ ¬ (0 < q.1 ∨ q.2 < 0) then none else zx_new (zb_r k p q) (k, a, b) nx t r
        | _, _ => none
    else none
  | _ => none
theorem zx_again_g {pc : Nat} {t : zA_T} {o : Option (List zA_S)} {ts : List (Nat × zA_T)} {a : zA_V} {n : Int} {ρ : List Int} {ph : List z_C} {lv : List (Nat × Value)} {st : List Value} (h : zx_again pc t o = some ts) (ho : o = zSp t.1 a) (g : zg_T XL X φ ρ t ph lv st) (he : zE ρ a n) : ∃ t', (pc, t') ∈ ts ∧ zg_T XL X φ ρ t' ph lv st ∧ t'.2.2.2.2 = t.2.2.2.2 := by
  unfold zx_again at h
  split at h
  · next l2 =>
    cases h
    obtain ⟨S', m, gs⟩ := zSp_g g.1 he ho.symm
    exact ⟨zt_S t S', List.mem_map.mpr ⟨S', m, rfl⟩, ⟨gs, g.2⟩, rfl⟩
  · cases h
theorem zo_bin {k pc nx : Nat} {t : zA_T} (hk20 : k ≤ 20) (hs : ∀ {lv st ph cc ns} {a b : Int32}, (19 ≤ k → ¬ b = 0) → ZW l d y X mc ms Q nx lv (.int (zb k a b) :: st) ph cc ns → ZW l d y X mc ms Q pc lv (.int b :: .int a :: st) ph cc ns) : zSd l d y X mc ms XL φ Q pc t (zx_bin XL k nx pc t) := by
  obtain ⟨S, H, L, s0, cc, ns⟩ := t
  intro ts hts ρ ph lv st g k0
  have gT := g
  obtain ⟨g1, g2, g3, g4, g5⟩ := g
  unfold zx_bin at hts
  split at hts
  · next b0 a0 r hst =>
    have hst : s0 = b0 :: a0 :: r := hst
    subst hst
    obtain ⟨vb, st1, rfl, gb0, gr1⟩ := zL2.cons1 g4
    obtain ⟨va, st2, rfl, ga0, gr⟩ := zL2.cons1 gr1
    have ga := zn_g g1 ga0
    have gb := zn_g g1 gb0
    dsimp only at hts
    generalize hea : zn S a0 = a at *
    generalize heb : zn S b0 = b at *
    split at hts
    · next hI =>
      obtain ⟨x, rfl, ex⟩ := zg_int hI.1 ga
      obtain ⟨z, rfl, ez⟩ := zg_int hI.2 gb
      split at hts
      · next hc =>
        split at hts
        · cases hts
        · next hz =>
          cases hts
          have hx : x.toInt = a.2 := by rcases ex with ⟨-, e⟩ | ⟨e, -⟩ <;> omega
          have hzz : z.toInt = b.2 := by rcases ez with ⟨-, e⟩ | ⟨e, -⟩ <;> omega
          refine hs (fun hk e => hz ⟨hk, by rw [← hzz, e]; rfl⟩) (k0 _ (List.mem_singleton.mpr rfl) ρ ph lv _ (zLE.refl ρ) ⟨g1, g2, g3, ⟨zg_ofI ?_, gr⟩, g5⟩)
          rw [← hx, ← hzz]
          exact zb_cEq k x z
      · split at hts
        · obtain ⟨t', m, gt, e⟩ := zx_again_g hts rfl gT ez
          have := k0 _ m ρ ph lv _ (zLE.refl ρ) gt
          rw [e] at this
          exact this
        · split at hts
          · obtain ⟨t', m, gt, e⟩ := zx_again_g hts rfl gT ex
            have := k0 _ m ρ ph lv _ (zLE.refl ρ) gt
            rw [e] at this
            exact this
          · split at hts
            · obtain ⟨t', m, gt, e⟩ := zx_again_g hts rfl gT ez
              have := k0 _ m ρ ph lv _ (zLE.refl ρ) gt
              rw [e] at this
              exact this
            · split at hts
              · next p q hp hq =>
                split at hts
                · cases hts
                · next hz =>
                  have b1 := zr_in g1 ex hp
                  have b2 := zr_in g1 ez hq
                  have b3 := zb_r_in (k := k) hk20 b1.1 b1.2 b2.1 b2.2
                  obtain ⟨t', ρ', m, hle, gt, e⟩ := zx_new_g (φ := φ) hts g1 g2 g3 gr g5 b3.1 b3.2 (Or.inr ⟨_, _, ex, ez, zb_cEq k x z⟩)
                  have := k0 _ m ρ' ph lv _ hle gt
                  rw [e] at this
                  refine hs (fun hk e0 => ?_) this
                  have hz0 : z.toInt = 0 := by rw [e0]; rfl
                  have u1 := b2.1
                  have u2 := b2.2
                  have hz2 : ¬ (¬ (0 < q.1 ∨ q.2 < 0)) := fun hn => hz ⟨hk, hn⟩
                  omega
              · cases hts
    · cases hts
  · cases hts
end ZO
