/-! PART 30.2: cases of the law with the fields that hold alike named. -/
def zsf (c f k : Nat) (H : zA_H) : zA_H := match H[c]? with
  | some o => H.set c (o.1, o.2.1, o.2.2.1, o.2.2.2.1.set f (1, (k : Int)), o.2.2.2.2)
  | none => H
theorem zsf_g {φ : List z_C} {ρ : List Int} {H : zA_H} {ph : List z_C} {c f k m : Nat} {fs : List Value} {x : Int32} (g : zL2 (zg_C φ ρ) H ph) (h1 : ph[c]? = some (.inr (m, fs))) (h2 : fs[f]? = some (.int x)) (hk : ρ[k]? = some x.toInt) : zL2 (zg_C φ ρ) (zsf c f k H) ph := by
  unfold zsf
  split
  · next o ho =>
    refine zL2.setL c g (fun y hy => ?_)
    obtain ⟨x', ex, gx⟩ := zL2.get g ho
    rw [h1] at hy ex
    cases hy
    cases ex
    rcases gx with ⟨g1, g2⟩ | ⟨g1, fs', e, gf, gz⟩ | ⟨g1, g2, f', e, -⟩ | ⟨g1, g2, f', e, -⟩ | ⟨g1, g2, f', e, -⟩
    · exact Or.inl ⟨g1, g2⟩
    · cases e
      refine Or.inr (Or.inl ⟨g1, fs, rfl, zL2.setL f gf (fun w hw => ?_), gz⟩)
      rw [h2] at hw
      cases hw
      exact zg_ofK hk
    · cases e
    · cases e
    · cases e
  · exact g
/-- the pair p is the name 7 -/
def ztN (p : Nat × Nat × Nat × Nat) (q : zI2) : zA_T := (zS7 ++ [(q.1, q.2, zD0)], zsf p.2.2.1 p.2.2.2 7 (zsf p.1 p.2.1 7 zHT), zLL, [], 64, 4062)
def zppb (S : zA_S) (H : zA_H) (p : Nat × Nat × Nat × Nat) : Bool := (ztold H p.1 p.2.1 && ztold H p.2.2.1 p.2.2.2) || zpeq S H p
def zjt (J : zjD) (H : zA_H) : Bool := zjck J.1 H && (ztold H J.2.1 J.2.2.1 && ztold H J.2.1 J.2.2.2.1)
theorem zjt_g {J : zjD} {φ : List z_C} {ρ : List Int} {H : zA_H} {ph : List z_C} (h : zjt J H = true) (hJ : zjG J φ) (g : zL2 (zg_C φ ρ) H ph) : zjG J ph := by
  obtain ⟨h1, z1⟩ := zw_and h
  obtain ⟨h2, h3⟩ := zw_and z1
  refine ⟨zjR_same (fun c hc => ?_) hJ.1, ?_⟩
  · obtain ⟨b, hb, -⟩ := zjck_d h1 c hc
    obtain ⟨x, ex, -⟩ := zL2.get g hb
    rw [ex, zjck_g h1 g c hc x ex]
  · obtain ⟨n, gs, x, y, k1, k2, k3, k4⟩ := hJ.2
    obtain ⟨n1, gs1, m1, fs1, a1, a2, a3⟩ := ztold_g h2 g
    obtain ⟨n2, gs2, m2, fs2, b1, b2, b3⟩ := ztold_g h3 g
    rw [k1] at a1 b1
    cases a1
    cases b1
    rw [a2] at b2
    cases b2
    exact ⟨_, fs1, x, y, a2, a3.trans k2, b3.trans k3, k4⟩
/-- back at the head -/
def zlNh (t : zA_T) (a : zA_V) : Bool := Nat.beq a.1 1 && ((match t.1[a.2.toNat]? with
  | none => false
  | some q => decide (q.2.2 = (10, ((1, 6) : zA_V), ((0, 6) : zA_V)))) && (zH0c t.1 t.2.1 zHT && (zjt zjDC t.2.1 && (zjt zjDM t.2.1 && (zPs.all (zppb t.1 t.2.1) && (zmL t.1 [a] t.2.2.1 ztH.2.2.1 && (t.2.2.2.1.isEmpty && decide (t.2.2.2.2 = ztH.2.2.2.2))))))))
def zlNd (t : zA_T) : Bool := match t.2.2.1.lookup 3 with
  | none => false
  | some a => zlNh t a
def zlcN (m d pc : Nat) (t : zA_T) (stk : List zA_F) : Bool := match stk with
  | _ :: _ => false
  | [] => Nat.beq pc 18 && (Nat.beq m 0 && (Nat.beq d 2000 && zlNd t))
theorem zlNh_g {l : Launch} {X : zx_X} {Q0 : Option Value → List z_C → Prop} {N : Nat} {φ : List z_C} {t : zA_T} {a : zA_V} (hJ : zJ φ) (hH : zlHd l X Q0 N) (h : zlNh t a = true) : zGd l X 3000000 φ (zPf (zlI X N)) Q0 0 2000 18 t [] := by
  unfold zlNh at h
  obtain ⟨h1, z1⟩ := zw_and h
  obtain ⟨h2, z2⟩ := zw_and z1
  obtain ⟨h3, z3⟩ := zw_and z2
  obtain ⟨h4, z4⟩ := zw_and z3
  obtain ⟨h5, z5⟩ := zw_and z4
  obtain ⟨h6, z6⟩ := zw_and z5
  obtain ⟨h7, z7⟩ := zw_and z6
  obtain ⟨h8, h9⟩ := zw_and z7
  have h9 := of_decide_eq_true h9
  clear h z1 z2 z3 z4 z5 z6 z7
  split at h2
  · cases h2
  · next q hq =>
    have h2 := of_decide_eq_true h2
    intro ρ ph lv st cst hp g gs
    cases cst with
    | cons a b => exact gs.elim
    | nil =>
      obtain ⟨g1, g2, g3, g4, g5⟩ := g
      have e1 : t.2.2.2.1 = [] := List.isEmpty_iff.mp h8
      rw [e1] at g4
      have hst := zL2.nil1 g4
      subst hst
      obtain ⟨ns, hle, hl, i, e6, b1, b2, b3⟩ := hp
      obtain ⟨lo, hi, D⟩ := q
      have h2 : D = (10, ((1, 6) : zA_V), ((0, 6) : zA_V)) := h2
      subst h2
      have r6 : ρ[6]? = some (i : Int) := hle _ _ e6
      obtain ⟨ed, -, -⟩ := zD_use g1 hq (by decide) (zEk (j := 6) r6) (zE0 ρ 6)
      have ei : (i : Int) ≤ 3072 := by omega
      have ej : 0 ≤ (i : Int) := by omega
      have ha0 : ¬ a.1 = 0 := zn0 h1
      have ew : zb_c 10 (i : Int) 6 = (i : Int) + 6 := by
        exact zb10w (by omega) (by omega)
      have ev : zval ρ a = (i : Int) + 6 := by
        unfold zval
        rw [if_neg ha0, List.getD_eq_getElem?_getD, ed, ew]
        rfl
      have hP : zjP ph := fun p hp => by
        rcases zw_or (List.all_eq_true.mp h6 p hp) with h | h
        · obtain ⟨c1, c2⟩ := zw_and h
          obtain ⟨n1, gs1, m1, fs1, a1, a2, a3⟩ := ztold_g c1 g2
          obtain ⟨n2, gs2, m2, fs2, b1, b2, b3⟩ := ztold_g c2 g2
          obtain ⟨n, m, gs, hs, v, e1, e2, e3, e4⟩ := hJ.2.2 p hp
          rw [e1] at a1
          cases a1
          rw [e3] at b1
          cases b1
          exact ⟨m1, m2, fs1, fs2, v, a2, a3.trans e2, b2, b3.trans e4⟩
        · exact zpeq_g g1 g2 h
      have hJ' : zJ ph := ⟨zjt_g h4 hJ.1 g2, zjt_g h5 hJ.2.1 g2, hP⟩
      have gH : zL2 (zg_C ph []) zHT ph := zself zHT_8 (φ := φ) ((zH0c_len h3).symm.trans (zL2.len g2)) (fun i b hb h8 x hx => by
        obtain ⟨a, ha, hz⟩ := zH0c_at h3 i b hb h8
        obtain ⟨x', ex, gx⟩ := zL2.get g2 ha
        rw [hx] at ex
        cases ex
        exact zmC_g (σ := []) g1 rfl hz gx)
      obtain ⟨lv0, gl, hm0⟩ := zmL_g (σ := [a]) g1 rfl g3 h7
      have ec : ((i + 6 : Nat) : Int) = (i : Int) + 6 := by omega
      have el : [a].map (zval ρ) = [((i + 6 : Nat) : Int)] := by
        rw [ec, ← ev]
        exact (rfl : [zval ρ a] = [zval ρ a])
      rw [el] at gl
      have k := hH ph hJ' [((i + 6 : Nat) : Int)] ph lv0 [] [] (zPf_self ⟨i + 6, rfl, b1, b2, by omega⟩) ⟨⟨⟨by show (0 : Int) ≤ ((i + 6 : Nat) : Int); omega, by show ((i + 6 : Nat) : Int) ≤ 4000; omega, Or.inl rfl⟩, trivial⟩, zg_C.up gH, gl, trivial, zg_Xno _ _ _ (by decide) (by decide)⟩ trivial
      have k := k.lsub hm0
      rw [← h9] at k
      exact k
noncomputable def zlrunN (orc : zO_) (p : Nat × Nat × Nat × Nat) (q : zI2) (pc : Nat) : Bool := zx1 3000000 znf zlcN orc 9000 0 2000 pc (ztN p q) []
/-- a field in wide words -/
def zvw (c f : Nat) (q : zI2) : Bool := match zvf zHT c f with
  | none => false
  | some a => Nat.beq a.1 6 && decide (zIq a = [q])
theorem zvw_g {φ : List z_C} {ρ : List Int} {ph : List z_C} {c f : Nat} {q : zI2} (h : zvw c f q = true) (g : zL2 (zg_C φ ρ) zHT ph) : ∃ m fs x, ph[c]? = some (.inr (m, fs)) ∧ fs[f]? = some (.int x) ∧ q.1 ≤ x.toInt ∧ x.toInt ≤ q.2 := by
  unfold zvw at h
  generalize ha : zvf zHT c f = a at h
  cases a with
  | none => cases h
  | some a =>
    obtain ⟨h1, h2⟩ := zw_and h
    obtain ⟨m, fs, v, e1, e2, gv⟩ := zvf_g ha g
    obtain ⟨x, rfl, b1, b2⟩ := zg_W6e (Nat.eq_of_beq_eq_true h1) (of_decide_eq_true h2) gv
    exact ⟨m, fs, x, e1, e2, b1, b2⟩
theorem zlrunN_g {l : Launch} {X : zx_X} {Q0 : Option Value → List z_C → Prop} {N : Nat} {orc : zO_} {p : Nat × Nat × Nat × Nat} {q : zI2} {pc : Nat} (hp : p ∈ zPs) (hc : zpck zHT = true) (hw : zvw p.1 p.2.1 q = true) (h : zlrunN orc p q pc = true) (hor : ∀ φ, zOk l X 3000000 φ (zPf (zlI X N)) orc) (hH : zlHd l X Q0 N) : zlSt l X Q0 N pc := by
  intro φ hj
  have k : zGd l X 3000000 φ (zPf (zlI X N)) Q0 0 2000 pc (ztN p q) [] := by
    refine zGd_run (zPf_up _) (znf_ok _) (hor φ) ?_ (by decide) h
    intro m d pc t stk hcut
    unfold zlcN at hcut
    split at hcut
    · cases hcut
    · obtain ⟨k1, z1⟩ := zw_and hcut
      obtain ⟨k2, z2⟩ := zw_and z1
      obtain ⟨k3, k4⟩ := zw_and z2
      rw [Nat.eq_of_beq_eq_true k1, Nat.eq_of_beq_eq_true k2, Nat.eq_of_beq_eq_true k3]
      unfold zlNd at k4
      split at k4
      · cases k4
      · exact zlNh_g hj hH k4
  intro ρ ph lv st cst hpI g gs
  obtain ⟨g1, g2, g3, g4, g5⟩ := g
  obtain ⟨m, fs, x, e1, e2, b1, b2⟩ := zvw_g hw g2
  obtain ⟨c1, c2⟩ := zw_and (List.all_eq_true.mp hc p hp)
  obtain ⟨n1, gs1, m1, fs1, a1, a2, a3⟩ := ztold_g c1 g2
  obtain ⟨n2, gs2, m2, fs2, d1, d2, d3⟩ := ztold_g c2 g2
  obtain ⟨n, m', gs', hs, v, u1, u2, u3, u4⟩ := hj.2.2 p hp
  rw [u1] at a1
  cases a1
  rw [u3] at d1
  cases d1
  rw [a2] at e1
  cases e1
  rw [a3, u2] at e2
  cases e2
  have hle := zLE.app ρ x.toInt
  have hlen : ρ.length = 7 := zL2.len g1
  have e7 : (ρ ++ [x.toInt])[7]? = some x.toInt := by
    rw [List.getElem?_append_right (by omega), hlen]
    rfl
  exact k (ρ ++ [x.toInt]) ph lv st cst (zPf_up _ _ _ hle hpI) ⟨g1.push b1 b2, zsf_g (zsf_g (zL2.mono (fun _ _ => zg_C.mono hle) g2) a2 (a3.trans u2) e7) d2 (d3.trans u4) e7, zL2.mono (fun _ _ q => ⟨q.1, q.2.mono hle⟩) g3, zL2.mono (fun _ _ => zg_V.mono hle) g4, g5.mono hle⟩ (zL2.mono (fun _ _ => zg_F.mono hle) gs)
