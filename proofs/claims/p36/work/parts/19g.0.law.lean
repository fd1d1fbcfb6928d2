/-! PART 30.0: the law's body: stations, calls that keep the journals. -/
/-- the state after such a call -/
def zjAft (rq : Option zI2) (t : zA_T) (f : zA_F) : zA_T := match rq with
  | none => (t.1, zHT, f.2.2.2.1, f.2.2.2.2.1, f.2.2.2.2.2.1, f.2.2.2.2.2.2)
  | some q => (t.1 ++ [(q.1, q.2, zD0)], zHT, f.2.2.2.1, (1, (t.1.length : Int)) :: f.2.2.2.2.1, f.2.2.2.2.2.1, f.2.2.2.2.2.2)
/-- a contract that keeps the journals: method, depth, its entry, where its names lie, its answer -/
abbrev zJc : Type := Nat × Nat × zA_T × List (Nat × Nat × Nat) × Option zI2
def zcJ2 (e : zJc) (t : zA_T) : Option (List zA_V) := match zlocs t none e.2.2.2.1 with
  | none => none
  | some σ => if zmT σ t e.2.2.1 = true then some σ else none
def zcJ1 (e : zJc) (k : zX_) (m d pc : Nat) (t : zA_T) (stk : List zA_F) : Bool := match stk with
  | [] => false
  | f :: r => Nat.beq m e.1 && (Nat.beq pc 0 && (Nat.ble e.2.1 d && ((zcJ2 e t).isSome && k f.1 f.2.1 f.2.2.1 (zjAft e.2.2.2.2 t f) r)))
theorem zg_C.up {φ : List z_C} {ρ : List Int} {H : zA_H} {ph : List z_C} (g : zL2 (zg_C φ []) H ph) : zL2 (zg_C φ ρ) H ph :=
  zL2.mono (fun _ _ => zg_C.mono (fun k n h => by simp at h)) g
theorem zcJ1_g {l : Launch} {X : zx_X} {XL : Nat} {Q0 : Option Value → List z_C → Prop} {P : List Int → Prop} (hP : ∀ ρ ρ' : List Int, zLE ρ ρ' → P ρ → P ρ') {e : zJc} {k : zX_} (hc : zConJ e.1 e.2.1 e.2.2.1 e.2.2.2.2) (hk : ∀ φ', zJ φ' → ∀ m d pc t stk, m < 267 → k m d pc t stk = true → zGd l X XL φ' P Q0 m d pc t stk)
    {φ : List z_C} (hJ : zJ φ) {m d pc : Nat} {t : zA_T} {stk : List zA_F} (h : zcJ1 e k m d pc t stk = true) : zGd l X XL φ P Q0 m d pc t stk := by
  unfold zcJ1 at h
  split at h
  · cases h
  · next f r =>
    obtain ⟨hm, q1⟩ := zw_and h
    obtain ⟨h1, q2⟩ := zw_and q1
    obtain ⟨h2, q3⟩ := zw_and q2
    obtain ⟨h0, q4⟩ := zw_and q3
    clear h q1 q2 q3
    have hm := Nat.eq_of_beq_eq_true hm
    subst hm
    have h1 := Nat.eq_of_beq_eq_true h1
    subst h1
    obtain ⟨σ, hσ⟩ := Option.isSome_iff_exists.mp h0
    have h3 : zmT σ t e.2.2.1 = true := by
      unfold zcJ2 at hσ
      split at hσ
      · cases hσ
      · split at hσ
        · next hh => cases hσ; exact hh
        · cases hσ
    intro ρ ph lv st cst hp g gs
    obtain ⟨g1, g2, g3, g4, g5⟩ := id g
    obtain ⟨rfl, ee, lv0, hm0, g0⟩ := zmT_g (XL' := 2000000) (by decide) h3 g
    cases cst with
    | nil => exact gs.elim
    | cons c cs =>
      obtain ⟨f1, f2, f3, f4, f5, f6, f7⟩ := gs.1
      have kk := hc l X φ (zQS l X Q0 (c :: cs)) _ ph lv0 hJ g0 (fun φ' v ph' hJ' gH gR => by
        have hlen : ρ.length = t.1.length := zL2.len g1
        have key : ∀ (ρ' : List Int) (t' : zA_T) (st' : List Value), zLE ρ ρ' → zg_S ρ' t'.1 → t'.2.1 = zHT → t'.2.2.1 = f.2.2.2.1 → zL2 (zg_V ρ') t'.2.2.2.1 st' → st' = v.toList ++ c.2.2.2.2.1 → t'.2.2.2.2 = f.2.2.2.2.2 → k f.1 f.2.1 f.2.2.1 t' r = true → zQS l X Q0 (c :: cs) v ph' := by
          intro ρ' t' st' hle e1 e2 e3 e4 e5 e6 hr
          have := hk φ' hJ' _ _ _ _ _ f1 hr ρ' ph' c.2.2.2.1 st' cs (hP _ _ hle hp) ⟨e1, by rw [e2]; exact zg_C.up gH, by rw [e3]; exact zL2.mono (fun _ _ q => ⟨q.1, q.2.mono hle⟩) f5, e4, g5.mono hle⟩ (zL2.mono (fun _ _ => zg_F.mono hle) gs.2)
          show ZW l c.2.1 (zm c.1) X (zmc c.1).1 (zmc c.1).2 (zQS l X Q0 cs) c.2.2.1 c.2.2.2.1 (v.toList ++ c.2.2.2.2.1) ph' c.2.2.2.2.2.1 c.2.2.2.2.2.2
          rw [e6, f7] at this
          rw [f2, f3, f4, e5] at this
          exact this
        generalize hrq : e.2.2.2.2 = rq at *
        cases rq with
        | none =>
          cases v with
          | none => exact key ρ (zjAft none t f) c.2.2.2.2.1 (zLE.refl ρ) g1 rfl rfl f6 rfl rfl q4
          | some u => exact gR.elim
        | some q =>
          cases v with
          | none => exact gR.elim
          | some u =>
            cases u with
            | int x =>
              have gR : q.1 ≤ x.toInt ∧ x.toInt ≤ q.2 := gR
              refine key (ρ ++ [x.toInt]) (zjAft (some q) t f) (.int x :: c.2.2.2.2.1) (zLE.app ρ _) (g1.push gR.1 gR.2) rfl rfl ⟨?_, zL2.mono (fun _ _ => zg_V.mono (zLE.app ρ _)) f6⟩ rfl rfl q4
              refine zg_ofK ?_
              rw [← hlen, List.getElem?_append_right (Nat.le_refl _), Nat.sub_self]
              rfl
            | _ => exact gR.elim)
      have kk := ZW.deeper (Nat.le_of_ble_eq_true h2) (ZW.lsub hm0 kk)
      rw [← ee] at kk
      exact kk
/-! stations in the law -/
def zLL : zA_L := [(3, (1, 6)), (2, (2, 46)), (1, (2, 3)), (0, (2, 2))]
def zS7 : zA_S := [(-2147483648, 2147483647, zD0), (-2147483648, 2147483647, zD0), (-2147483648, 2147483647, zD0), (-2147483648, 2147483647, zD0), (-2147483648, 2147483647, zD0), (-2147483648, 2147483647, zD0), (0, 3066, zD0)]
def ztB : zA_T := (zS7, zHT, zLL, [], 64, 4062)
def zσ7 : List zA_V := [(1, 0), (1, 1), (1, 2), (1, 3), (1, 4), (1, 5), (1, 6)]
def ztH : zA_T := ([(0, 4000, zD0)], zHT, [(3, (1, 0)), (2, (2, 46)), (1, (2, 3)), (0, (2, 2))], [], 64, 4062)
/-- what is known at a station -/
def zlI (X : zx_X) (N : Nat) (ns : List Int) : Prop := ns.length = 7 ∧ ∃ i : Nat, ns[6]? = some (i : Int) ∧ i + 6 ≤ X.1 ∧ X.1 ≤ 3072 ∧ X.1 - i ≤ N
def zlH (X : zx_X) (N : Nat) (ns : List Int) : Prop := ∃ i : Nat, ns = [(i : Int)] ∧ i ≤ X.1 ∧ X.1 ≤ 3072 ∧ X.1 - i < N
/-- back at the head: the place is six more -/
def zlhd (t : zA_T) : Bool := match t.2.2.1.lookup 3 with
  | none => false
  | some a => Nat.beq a.1 1 && ((match t.1[a.2.toNat]? with
    | none => false
    | some q => decide (q.2.2 = (10, ((1, 6) : zA_V), ((0, 6) : zA_V)))) && zmT [a] t ztH)
def zlc (pcs : List Nat) (m d pc : Nat) (t : zA_T) (stk : List zA_F) : Bool := match stk with
  | _ :: _ => false
  | [] => Nat.beq m 0 && (Nat.beq d 2000 && (match Nat.beq pc 18 with
    | true => zlhd t
    | false => pcs.any (fun p => Nat.beq p pc) && zmT zσ7 t ztB))
theorem zl7 {ρ ns : List Int} (hle : zLE ns ρ) (hl : ns.length = 7) : ns = [ρ.getD 0 0, ρ.getD 1 0, ρ.getD 2 0, ρ.getD 3 0, ρ.getD 4 0, ρ.getD 5 0, ρ.getD 6 0] := by
  match ns, hl with
  | [a, b, c, d, e, f, g], _ =>
    have k : ∀ j n, [a, b, c, d, e, f, g][j]? = some n → ρ.getD j 0 = n := fun j n h => by
      rw [List.getD_eq_getElem?_getD, hle _ _ h]
      rfl
    rw [k 0 a rfl, k 1 b rfl, k 2 c rfl, k 3 d rfl, k 4 e rfl, k 5 f rfl, k 6 g rfl]
theorem zσ7_ns {ρ ns : List Int} (hle : zLE ns ρ) (hl : ns.length = 7) : zσ7.map (zval ρ) = ns := by
  rw [zl7 hle hl]
  rfl
theorem zb10w {a b : Int} (h1 : -2147483648 ≤ a + b) (h2 : a + b ≤ 2147483647) : zb_c 10 a b = a + b := zw32_in h1 h2
theorem zn0 {n : Nat} (h : Nat.beq n 1 = true) : ¬ n = 0 := fun e => by
  subst e
  cases h
section ZL
variable {l : Launch} {X : zx_X} {Q0 : Option Value → List z_C → Prop} {N : Nat}
theorem zlS_g {φ : List z_C} {pc : Nat} {t : zA_T} (hm : zmT zσ7 t ztB = true) (k : zGd l X 3000000 φ (zPf (zlI X N)) Q0 0 2000 pc ztB []) : zGd l X 3000000 φ (zPf (zlI X N)) Q0 0 2000 pc t [] := by
  intro ρ ph lv st cst hp g gs
  obtain ⟨rfl, e, lv0, m0, g0⟩ := zmT_g (XL' := 2000000) (by decide) hm g
  obtain ⟨ns, hle, hI⟩ := hp
  have hns := zσ7_ns hle hI.1
  rw [hns] at g0
  cases cst with
  | cons a b => exact gs.elim
  | nil =>
    have gX : zg_X ns 3000000 X := by
      refine ⟨fun h => absurd h (by decide), fun _ => ?_⟩
      obtain ⟨i, h1, h2, h3, h4⟩ := g.2.2.2.2.2 rfl
      have back : ∀ j n, j < 7 → ρ[j]? = some n → ns[j]? = some n := fun j n hj hn => by
        have e1 := List.getElem?_eq_getElem (l := ns) (i := j) (by rw [hI.1]; exact hj)
        have e2 := hle _ _ e1
        rw [hn] at e2
        rw [e1, Option.some.inj e2]
      exact ⟨i, back 6 _ (by decide) h1, h2, h3, fun j hj => back j _ (by omega) (h4 j hj)⟩
    have := k ns ph lv0 [] [] (zPf_self hI) ⟨g0.1, g0.2.1, g0.2.2.1, g0.2.2.2.1, gX⟩ trivial
    rw [← e] at this
    exact this.lsub m0
theorem zlh_g {φ : List z_C} {t : zA_T} (h : zlhd t = true) (k : zGd l X 2000000 φ (zPf (zlH X N)) Q0 0 2000 18 ztH []) : zGd l X 3000000 φ (zPf (zlI X N)) Q0 0 2000 18 t [] := by
  unfold zlhd at h
  split at h
  · cases h
  · next a ha =>
    obtain ⟨h1, h⟩ := zw_and h
    obtain ⟨h2, h3⟩ := zw_and h
    split at h2
    · cases h2
    · next q hq =>
      have h2 := of_decide_eq_true h2
      refine zGd_m (XL' := 2000000) (by decide) h3 (fun ρ hp hS _ => ?_) k
      obtain ⟨ns, hle, hl, i, e6, b1, b2, b3⟩ := hp
      obtain ⟨lo, hi, D⟩ := q
      have h2 : D = (10, ((1, 6) : zA_V), ((0, 6) : zA_V)) := h2
      subst h2
      have r6 : ρ[6]? = some (i : Int) := hle _ _ e6
      obtain ⟨e1, -, -⟩ := zD_use hS hq (by decide) (zEk (j := 6) r6) (zE0 ρ 6)
      have ei : (i : Int) ≤ 3072 := by omega
      have ej : 0 ≤ (i : Int) := by omega
      have ha0 : ¬ a.1 = 0 := zn0 h1
      clear h1 h3 k
      have ew : zb_c 10 (i : Int) 6 = (i : Int) + 6 := by
        exact zb10w (by omega) (by omega)
      refine zPf_self ⟨i + 6, ?_, b1, b2, by omega⟩
      have ev : zval ρ a = (i : Int) + 6 := by
        unfold zval
        rw [if_neg ha0, List.getD_eq_getElem?_getD, e1, ew]
        rfl
      have ec : ((i + 6 : Nat) : Int) = (i : Int) + 6 := by omega
      rw [ec, ← ev]
      exact (rfl : [zval ρ a] = [zval ρ a])
theorem zlc_g {φ : List z_C} {pcs : List Nat} (hH : zGd l X 2000000 φ (zPf (zlH X N)) Q0 0 2000 18 ztH []) (hs : ∀ pc ∈ pcs, zGd l X 3000000 φ (zPf (zlI X N)) Q0 0 2000 pc ztB []) : ∀ (m d pc : Nat) (t : zA_T) (stk : List zA_F), zlc pcs m d pc t stk = true → zGd l X 3000000 φ (zPf (zlI X N)) Q0 m d pc t stk := by
  intro m d pc t stk h
  unfold zlc at h
  split at h
  · cases h
  · obtain ⟨q1, q2⟩ := zw_and h
    obtain ⟨q3, q4⟩ := zw_and q2
    have e1 := Nat.eq_of_beq_eq_true q1
    have e2 := Nat.eq_of_beq_eq_true q3
    clear h q1 q2 q3
    subst e1 e2
    split at q4
    · next hp =>
      have hp := Nat.eq_of_beq_eq_true hp
      subst hp
      exact zlh_g q4 hH
    · obtain ⟨h3, h4⟩ := zw_and q4
      obtain ⟨p, hp, e⟩ := List.any_eq_true.mp h3
      have e := Nat.eq_of_beq_eq_true e
      subst e
      exact zlS_g h4 (hs p hp)
end ZL
/-- a run in the law, to stations and to calls that keep the journals -/
noncomputable def zlcJ (J : List zJc) (orc : zO_) (pcs : List Nat) (n : Nat) (m d pc : Nat) (t : zA_T) (stk : List zA_F) : Bool := zlc pcs m d pc t stk || J.any (fun e => zcJ1 e (zxp 3000000 znf (zlc pcs) orc n) m d pc t stk)
def zlJok (J : List zJc) : Prop := ∀ e ∈ J, zConJ e.1 e.2.1 e.2.2.1 e.2.2.2.2
/-- what the head owes, whatever the journals hold -/
def zlHd (l : Launch) (X : zx_X) (Q0 : Option Value → List z_C → Prop) (N : Nat) : Prop := ∀ φ, zJ φ → zGd l X 2000000 φ (zPf (zlH X N)) Q0 0 2000 18 ztH []
def zlSt (l : Launch) (X : zx_X) (Q0 : Option Value → List z_C → Prop) (N pc : Nat) : Prop := ∀ φ, zJ φ → zGd l X 3000000 φ (zPf (zlI X N)) Q0 0 2000 pc ztB []
noncomputable def zlrun (J : List zJc) (orc : zO_) (pcs : List Nat) (pc : Nat) : Bool := zx1 3000000 znf (zlcJ J orc pcs 6000) orc 6000 0 2000 pc ztB []
theorem zlrun_g {l : Launch} {X : zx_X} {Q0 : Option Value → List z_C → Prop} {N : Nat} {J : List zJc} {orc : zO_} {pcs : List Nat} {pc : Nat} (h : zlrun J orc pcs pc = true) (hJc : zlJok J) (hor : ∀ φ, zOk l X 3000000 φ (zPf (zlI X N)) orc) (hH : zlHd l X Q0 N) (hs : ∀ pc ∈ pcs, zlSt l X Q0 N pc) : zlSt l X Q0 N pc := by
  intro φ hj
  refine zGd_run (zPf_up _) (znf_ok _) (hor φ) ?_ (by decide) h
  intro m d pc t stk hc
  rcases zw_or hc with hc | hc
  · exact zlc_g (hH φ hj) (fun p hp => hs p hp φ hj) m d pc t stk hc
  · obtain ⟨e, he, hc⟩ := List.any_eq_true.mp hc
    refine zcJ1_g (zPf_up _) (hJc e he) (fun φ' hj' m d pc t stk hm hr => ?_) hj hc
    exact zxp_ok zall (zPf_up _) (znf_ok _) (hor φ') (zlc_g (hH φ' hj') (fun p hp => hs p hp φ' hj')) 6000 m d pc t stk hm hr
