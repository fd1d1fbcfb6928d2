/-! PART 30.3: a call that empties one of two fields that hold alike; then the other. -/
/-- the field f of the cell c holds 0 -/
def zjZ (c f : Nat) (φ : List z_C) : Prop := ∃ (n : Nat) (gs : List Value), φ[c]? = some (.inr (n, gs)) ∧ gs[f]? = some (.int 0)
def zJz (c f : Nat) (φ : List z_C) : Prop := zjG zjDC φ ∧ zjG zjDM φ ∧ zjZ c f φ
def zis0 (a : Option zA_V) : Bool := match a with
  | none => false
  | some a => zVeq a (0, 0)
theorem zis0_g {φ : List z_C} {ρ : List Int} {H : zA_H} {ph : List z_C} {c f : Nat} (h : zis0 (zvf H c f) = true) (g : zL2 (zg_C φ ρ) H ph) : zjZ c f ph := by
  generalize ha : zvf H c f = a at h
  cases a with
  | none => cases h
  | some a =>
    have e := zVeq_eq _ _ h
    subst e
    obtain ⟨m, fs, v, e1, e2, gv⟩ := zvf_g ha g
    obtain ⟨x, rfl, ex⟩ := zg_int (a := (0, 0)) rfl gv
    have e0 : x.toInt = 0 := by rcases ex with ⟨-, e⟩ | ⟨e, -⟩; exact e; exact absurd e (by decide)
    have e3 : x = 0 := Int32.toInt_inj.mp (show x.toInt = (0 : Int32).toInt from e0)
    rw [e3] at e2
    exact ⟨m, fs, e1, e2⟩
/-- half way -/
def zlMd (c f : Nat) (t : zA_T) : Bool := zH0c t.1 t.2.1 zHT && (zjt zjDC t.2.1 && (zjt zjDM t.2.1 && (zis0 (zvf t.2.1 c f) && (zmS t.1 zσ7 zS7 && (zmL t.1 zσ7 t.2.2.1 zLL && (t.2.2.2.1.isEmpty && decide (t.2.2.2.2 = ztB.2.2.2.2)))))))
def zlcM (c f mid : Nat) (m d pc : Nat) (t : zA_T) (stk : List zA_F) : Bool := match stk with
  | _ :: _ => false
  | [] => Nat.beq pc mid && (Nat.beq m 0 && (Nat.beq d 2000 && zlMd c f t))
theorem zHself {φ : List z_C} {ρ : List Int} {t : zA_T} {ph : List z_C} (hS : zg_S ρ t.1) (h : zH0c t.1 t.2.1 zHT = true) (g : zL2 (zg_C φ ρ) t.2.1 ph) : zL2 (zg_C ph []) zHT ph := zself zHT_8 (φ := φ) ((zH0c_len h).symm.trans (zL2.len g)) (fun i b hb h8 x hx => by
  obtain ⟨a, ha, hz⟩ := zH0c_at h i b hb h8
  obtain ⟨x', ex, gx⟩ := zL2.get g ha
  rw [hx] at ex
  cases ex
  exact z0c_g hS hz gx)
/-- what a station half way owes -/
def zlSz (c f : Nat) (l : Launch) (X : zx_X) (Q0 : Option Value → List z_C → Prop) (N pc : Nat) : Prop := ∀ φ, zJz c f φ → zGd l X 3000000 φ (zPf (zlI X N)) Q0 0 2000 pc ztB []
theorem zlMd_g {l : Launch} {X : zx_X} {Q0 : Option Value → List z_C → Prop} {N c f pc : Nat} {φ : List z_C} {t : zA_T} (hJ : zJ φ) (hM : zlSz c f l X Q0 N pc) (h : zlMd c f t = true) : zGd l X 3000000 φ (zPf (zlI X N)) Q0 0 2000 pc t [] := by
  unfold zlMd at h
  obtain ⟨h1, z1⟩ := zw_and h
  obtain ⟨h2, z2⟩ := zw_and z1
  obtain ⟨h3, z3⟩ := zw_and z2
  obtain ⟨h4, z4⟩ := zw_and z3
  obtain ⟨h5, z5⟩ := zw_and z4
  obtain ⟨h6, z6⟩ := zw_and z5
  obtain ⟨h7, h8⟩ := zw_and z6
  have h8 := of_decide_eq_true h8
  intro ρ ph lv st cst hp g gs
  cases cst with
  | cons a b => exact gs.elim
  | nil =>
    obtain ⟨g1, g2, g3, g4, g5⟩ := g
    have e1 : t.2.2.2.1 = [] := List.isEmpty_iff.mp h7
    rw [e1] at g4
    have hst := zL2.nil1 g4
    subst hst
    obtain ⟨ns, hle, hI⟩ := hp
    have hns := zσ7_ns hle hI.1
    obtain ⟨lv0, gl, hm0⟩ := zmL_g (σ := zσ7) g1 rfl g3 h6
    have gS := zmS_g g1 h5
    rw [hns] at gl gS
    have gX : zg_X ns 3000000 X := by
      refine ⟨fun h => absurd h (by decide), fun _ => ?_⟩
      obtain ⟨i, k1, k2, k3, k4⟩ := g5.2 rfl
      have back : ∀ j n, j < 7 → ρ[j]? = some n → ns[j]? = some n := fun j n hj hn => by
        have e1 := List.getElem?_eq_getElem (l := ns) (i := j) (by rw [hI.1]; exact hj)
        have e2 := hle _ _ e1
        rw [hn] at e2
        rw [e1, Option.some.inj e2]
      exact ⟨i, back 6 _ (by decide) k1, k2, k3, fun j hj => back j _ (by omega) (k4 j hj)⟩
    have k := hM ph ⟨zjt_g h2 hJ.1 g2, zjt_g h3 hJ.2.1 g2, zis0_g h4 g2⟩ ns ph lv0 [] [] (zPf_self hI) ⟨gS, zg_C.up (zHself g1 h1 g2), gl, trivial, gX⟩ trivial
    have k := k.lsub hm0
    rw [← h8] at k
    exact k
noncomputable def zlrunM (orc : zO_) (c f mid pc : Nat) : Bool := zx1 3000000 znf (zlcM c f mid) orc 9000 0 2000 pc ztB []
theorem zlrunM_g {l : Launch} {X : zx_X} {Q0 : Option Value → List z_C → Prop} {N : Nat} {orc : zO_} {c f mid pc : Nat} (h : zlrunM orc c f mid pc = true) (hor : ∀ φ, zOk l X 3000000 φ (zPf (zlI X N)) orc) (hM : zlSz c f l X Q0 N mid) : zlSt l X Q0 N pc := by
  intro φ hj
  refine zGd_run (zPf_up _) (znf_ok _) (hor φ) ?_ (by decide) h
  intro m d pc t stk hcut
  unfold zlcM at hcut
  split at hcut
  · cases hcut
  · obtain ⟨k1, z1⟩ := zw_and hcut
    obtain ⟨k2, z2⟩ := zw_and z1
    obtain ⟨k3, k4⟩ := zw_and z2
    rw [Nat.eq_of_beq_eq_true k1, Nat.eq_of_beq_eq_true k2, Nat.eq_of_beq_eq_true k3]
    exact zlMd_g hj hM k4
/-- back at the head with the other one empty, too -/
def zlZh (c f c2 f2 : Nat) (t : zA_T) (a : zA_V) : Bool := Nat.beq a.1 1 && ((match t.1[a.2.toNat]? with
  | none => false
  | some q => decide (q.2.2 = (10, ((1, 6) : zA_V), ((0, 6) : zA_V)))) && (zH0c t.1 t.2.1 zHT && (zjt zjDC t.2.1 && (zjt zjDM t.2.1 && ((ztold t.2.1 c f && zis0 (zvf t.2.1 c2 f2)) && (zmL t.1 [a] t.2.2.1 ztH.2.2.1 && (t.2.2.2.1.isEmpty && decide (t.2.2.2.2 = ztH.2.2.2.2))))))))
def zlZd (c f c2 f2 : Nat) (t : zA_T) : Bool := match t.2.2.1.lookup 3 with
  | none => false
  | some a => zlZh c f c2 f2 t a
def zlcZ (c f c2 f2 : Nat) (m d pc : Nat) (t : zA_T) (stk : List zA_F) : Bool := match stk with
  | _ :: _ => false
  | [] => Nat.beq pc 18 && (Nat.beq m 0 && (Nat.beq d 2000 && zlZd c f c2 f2 t))
theorem zlZh_g {l : Launch} {X : zx_X} {Q0 : Option Value → List z_C → Prop} {N c f c2 f2 : Nat} {φ : List z_C} {t : zA_T} {a : zA_V} (hps : zPs = [(c, f, c2, f2)]) (hJ : zJz c f φ) (hH : zlHd l X Q0 N) (h : zlZh c f c2 f2 t a = true) : zGd l X 3000000 φ (zPf (zlI X N)) Q0 0 2000 18 t [] := by
  unfold zlZh at h
  obtain ⟨h1, z1⟩ := zw_and h
  obtain ⟨h2, z2⟩ := zw_and z1
  obtain ⟨h3, z3⟩ := zw_and z2
  obtain ⟨h4, z4⟩ := zw_and z3
  obtain ⟨h5, z5⟩ := zw_and z4
  obtain ⟨h6, z6⟩ := zw_and z5
  obtain ⟨h7, z7⟩ := zw_and z6
  obtain ⟨h8, h9⟩ := zw_and z7
  have h9 := of_decide_eq_true h9
  clear h z1 z2 z3 z4 z5 z6 z7
  split at h2
  · cases h2
  · next q hq =>
    have h2 := of_decide_eq_true h2
    intro ρ ph lv st cst hp g gs
    cases cst with
    | cons a b => exact gs.elim
    | nil =>
      obtain ⟨g1, g2, g3, g4, g5⟩ := g
      have e1 : t.2.2.2.1 = [] := List.isEmpty_iff.mp h8
      rw [e1] at g4
      have hst := zL2.nil1 g4
      subst hst
      obtain ⟨ns, hle, hl, i, e6, b1, b2, b3⟩ := hp
      obtain ⟨lo, hi, D⟩ := q
      have h2 : D = (10, ((1, 6) : zA_V), ((0, 6) : zA_V)) := h2
      subst h2
      have r6 : ρ[6]? = some (i : Int) := hle _ _ e6
      obtain ⟨ed, -, -⟩ := zD_use g1 hq (by decide) (zEk (j := 6) r6) (zE0 ρ 6)
      have ei : (i : Int) ≤ 3072 := by omega
      have ej : 0 ≤ (i : Int) := by omega
      have ha0 : ¬ a.1 = 0 := zn0 h1
      have ew : zb_c 10 (i : Int) 6 = (i : Int) + 6 := by
        exact zb10w (by omega) (by omega)
      have ev : zval ρ a = (i : Int) + 6 := by
        unfold zval
        rw [if_neg ha0, List.getD_eq_getElem?_getD, ed, ew]
        rfl
      have hP : zjP ph := fun p hp => by
        rw [hps, List.mem_singleton] at hp
        subst hp
        obtain ⟨q1, q2⟩ := zw_and h6
        obtain ⟨n1, gs1, m1, fs1, a1, a2, a3⟩ := ztold_g q1 g2
        obtain ⟨n, gs, k1, k2⟩ := hJ.2.2
        rw [k1] at a1
        cases a1
        obtain ⟨n', gs', k3, k4⟩ := zis0_g q2 g2
        exact ⟨m1, n', fs1, gs', .int 0, a2, a3.trans k2, k3, k4⟩
      have hJ' : zJ ph := ⟨zjt_g h4 hJ.1 g2, zjt_g h5 hJ.2.1 g2, hP⟩
      obtain ⟨lv0, gl, hm0⟩ := zmL_g (σ := [a]) g1 rfl g3 h7
      have ec : ((i + 6 : Nat) : Int) = (i : Int) + 6 := by omega
      have el : [a].map (zval ρ) = [((i + 6 : Nat) : Int)] := by
        rw [ec, ← ev]
        exact (rfl : [zval ρ a] = [zval ρ a])
      rw [el] at gl
      have k := hH ph hJ' [((i + 6 : Nat) : Int)] ph lv0 [] [] (zPf_self ⟨i + 6, rfl, b1, b2, by omega⟩) ⟨⟨⟨by show (0 : Int) ≤ ((i + 6 : Nat) : Int); omega, by show ((i + 6 : Nat) : Int) ≤ 4000; omega, Or.inl rfl⟩, trivial⟩, zg_C.up (zHself g1 h3 g2), gl, trivial, zg_Xno _ _ _ (by decide) (by decide)⟩ trivial
      have k := k.lsub hm0
      rw [← h9] at k
      exact k
noncomputable def zlrunZ (orc : zO_) (c f c2 f2 pc : Nat) : Bool := zx1 3000000 znf (zlcZ c f c2 f2) orc 9000 0 2000 pc ztB []
theorem zlrunZ_g {l : Launch} {X : zx_X} {Q0 : Option Value → List z_C → Prop} {N : Nat} {orc : zO_} {c f c2 f2 pc : Nat} (hps : zPs = [(c, f, c2, f2)]) (h : zlrunZ orc c f c2 f2 pc = true) (hor : ∀ φ, zOk l X 3000000 φ (zPf (zlI X N)) orc) (hH : zlHd l X Q0 N) : zlSz c f l X Q0 N pc := by
  intro φ hj
  refine zGd_run (zPf_up _) (znf_ok _) (hor φ) ?_ (by decide) h
  intro m d pc t stk hcut
  unfold zlcZ at hcut
  split at hcut
  · cases hcut
  · obtain ⟨k1, z1⟩ := zw_and hcut
    obtain ⟨k2, z2⟩ := zw_and z1
    obtain ⟨k3, k4⟩ := zw_and z2
    rw [Nat.eq_of_beq_eq_true k1, Nat.eq_of_beq_eq_true k2, Nat.eq_of_beq_eq_true k3]
    unfold zlZd at k4
    split at k4
    · cases k4
    · exact zlZh_g hps hj hH k4
