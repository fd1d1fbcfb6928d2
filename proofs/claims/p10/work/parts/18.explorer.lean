/-! PART 15: calls, ends, the explorer; it is right. -/
/-- how many cells and slots a method makes -/
def zmc_L : List (Nat × Nat × Nat) := [(0, 64, 4062), (1, 42, 2869), (3, 3, 40), (4, 3, 262), (5, 2, 248), (6, 2, 1606), (9, 4, 42), (10, 4, 160), (11, 2, 74), (12, 1, 60), (175, 20, 1145)]
def zmc (m : Nat) : Nat × Nat := (zmc_L.lookup m).getD (0, 0)
abbrev zA_F : Type := Nat × Nat × Nat × zA_L × List zA_V × Nat × Nat
abbrev zC_F : Type := Nat × Nat × Nat × List (Nat × Value) × List Value × Nat × Nat
/-- what the callers make of an answer -/
def zQS (l : Launch) (X : zx_X) (Q0 : Option Value → List z_C → Prop) : List zC_F → Option Value → List z_C → Prop
  | [] => Q0
  | f :: r => fun v ph => ZW l f.2.1 (zm f.1) X (zmc f.1).1 (zmc f.1).2 (zQS l X Q0 r) f.2.2.1 f.2.2.2.1 (v.toList ++ f.2.2.2.2.1) ph f.2.2.2.2.2.1 f.2.2.2.2.2.2
def zg_F (ρ : List Int) (f : zA_F) (g : zC_F) : Prop := f.1 < 267 ∧ f.1 = g.1 ∧ f.2.1 = g.2.1 ∧ f.2.2.1 = g.2.2.1 ∧ zg_L ρ f.2.2.2.1 g.2.2.2.1 ∧ zL2 (zg_V ρ) f.2.2.2.2.1 g.2.2.2.2.1 ∧ f.2.2.2.2.2 = g.2.2.2.2.2
theorem zg_F.mono {ρ ρ' : List Int} (h : zLE ρ ρ') {f : zA_F} {g : zC_F} (q : zg_F ρ f g) : zg_F ρ' f g :=
  ⟨q.1, q.2.1, q.2.2.1, q.2.2.2.1, zL2.mono (fun _ _ z => ⟨z.1, z.2.mono h⟩) q.2.2.2.2.1, zL2.mono (fun _ _ => zg_V.mono h) q.2.2.2.2.2.1, q.2.2.2.2.2.2⟩
def zx_args : Nat → List zA_V → zA_L
  | _, [] => []
  | i, a :: r => (i, a) :: zx_args (if zcat a = 2 then i + 2 else i + 1) r
theorem zx_args_g {ρ : List Int} : ∀ {as : List zA_V} {vs : List Value} (i : Nat), zL2 (zg_V ρ) as vs → zg_L ρ (zx_args i as) (lv_args i vs)
  | [], [], _, _ => trivial
  | a :: as, v :: vs, i, h => by
    refine ⟨⟨rfl, h.1⟩, ?_⟩
    have e : v.category = zcat a := zg_cat h.1
    show zL2 _ (zx_args (if zcat a = 2 then i + 2 else i + 1) as) (lv_args (if v.category = 2 then i + 2 else i + 1) vs)
    rw [e]
    exact zx_args_g _ h.2
  | [], _ :: _, _, h => h.elim
  | _ :: _, [], _, h => h.elim
theorem z_slSum : ∀ (vs : List Value), (lg_sl vs).length = (vs.map (fun v => v.category)).sum
  | [] => rfl
  | v :: vs => by
    have e1 : (lg_sl (v :: vs)).length = (if v.category = 2 then 2 else 1) + (lg_sl vs).length := by
      simp only [lg_sl, List.flatMap_cons, List.length_append]
      by_cases h : v.category = 2 <;> simp [h]
    rw [e1, z_slSum vs, List.map_cons, List.sum_cons]
    rcases lv_cat v with h | h
    · rw [if_neg (by omega), h]
    · rw [if_pos h, h]
theorem zL2.take {α β : Type} {R : α → β → Prop} : ∀ {as : List α} {bs : List β} (n : Nat), zL2 R as bs → zL2 R (as.take n) (bs.take n)
  | _, _, 0, _ => by simp only [List.take_zero]; trivial
  | [], [], _ + 1, _ => trivial
  | _ :: _, _ :: _, n + 1, h => ⟨h.1, zL2.take n h.2⟩
  | [], _ :: _, _ + 1, h => h.elim
  | _ :: _, [], _ + 1, h => h.elim
theorem zL2.drop {α β : Type} {R : α → β → Prop} : ∀ {as : List α} {bs : List β} (n : Nat), zL2 R as bs → zL2 R (as.drop n) (bs.drop n)
  | _, _, 0, h => h
  | [], [], _ + 1, _ => trivial
  | _ :: _, _ :: _, n + 1, h => zL2.drop n h.2
  | [], _ :: _, _ + 1, h => h.elim
  | _ :: _, [], _ + 1, h => h.elim
theorem zL2.rev {α β : Type} {R : α → β → Prop} : ∀ {as : List α} {bs : List β}, zL2 R as bs → zL2 R as.reverse bs.reverse
  | [], [], _ => trivial
  | a :: as, b :: bs, h => by
    rw [List.reverse_cons, List.reverse_cons]
    exact zL2.app (cs := [a]) (ds := [b]) ⟨h.1, trivial⟩ (zL2.rev h.2)
  | [], _ :: _, h => h.elim
  | _ :: _, [], h => h.elim
theorem zL2.mapL {ρ : List Int} {S : zA_S} (hS : zg_S ρ S) : ∀ {as : List zA_V} {bs : List Value}, zL2 (zg_V ρ) as bs → zL2 (zg_V ρ) (as.map (zn S)) bs
  | [], [], _ => trivial
  | _ :: _, _ :: _, h => ⟨zn_g hS h.1, zL2.mapL hS h.2⟩
  | [], _ :: _, h => h.elim
  | _ :: _, [], h => h.elim
/-- the receiver: nothing to ask (0), a reference (1), an object of the class (2) -/
def zx_rcv (k : Nat) (ci : Int) (a : zA_V) (H : zA_H) : Bool := if k = 0 then true else if k = 1 then a.1 == 2 else (if a.1 = 2 ∧ 3 ≤ a.2.toNat then (match H[a.2.toNat - 3]? with
  | some c => decide (c.1 = 0 ∧ c.2.1 = ci.toNat)
  | none => false) else false)
/-- a call: t', its callers; (k: 0 static, 1 special, 2 virtual) -/
def zx_call (k : Nat) (ci : Int) (m' n ml m d nx : Nat) (t : zA_T) (stk : List zA_F) : Option (Nat × zA_T × List zA_F) := match d with
  | 0 => none
  | d' + 1 =>
    let rc := if k = 0 then n else n + 1
    let as := (t.2.2.2.1.take rc).reverse
    let rest := t.2.2.2.1.drop rc
    let c' := t.2.2.2.2.1 + (zmc m').1
    let s' := t.2.2.2.2.2 + (zmc m').2
    if rc ≤ t.2.2.2.1.length ∧ (rest.map zcat).sum ≤ 8 ∧ (as.map zcat).sum ≤ ml ∧ c' ≤ (zmc m).1 ∧ s' ≤ (zmc m).2 ∧ zx_rcv k ci (as.headD (99, 0)) t.2.1 = true then
      some (d', (t.1, t.2.1, zx_args 0 (as.map (zn t.1)), [], 0, 0), (m, d' + 1, nx, t.2.2.1, rest, c', s') :: stk) else none
def zx_ci : List Int → Int
  | [_, _, _, ci, _] => ci
  | _ => 0
def zcall (op m d nx : Nat) (o : List Int) (t : zA_T) (stk : List zA_F) : Option (Nat × Nat × zA_T × List zA_F) := match o with
  | t' :: na :: ml :: _ :: o2 => (match zx_call (if op = 5 then 2 else if op = 60 then 0 else if op = 61 then 0 else 1) (zx_ci o2) t'.toNat na.toNat ml.toNat m d nx t stk with
      | some q => some (t'.toNat, q)
      | none => none)
  | _ => none
section ZK
variable {l : Launch} {d : Nat} {X : zx_X} {XL : Nat} {φ : List z_C} {Q0 : Option Value → List z_C → Prop} {pc nx len : Nat} {ins : Instr} {o : List Int} {t : zA_T}
theorem zcall_ok {op m m' d2 : Nat} {t' : zA_T} {stk stk' : List zA_F} (hm : m < 267) (hd : decode (zm m).2.1 pc = .ok (ins, len)) (hc : zcc op (zm m) pc nx o ins len = true) (he : zcall op m d nx o t stk = some (m', d2, t', stk'))
    {ρ : List Int} {ph : List z_C} {lv : List (Nat × Value)} {st : List Value} {cst : List zC_F} (g : zg_T XL X φ ρ t ph lv st) (gs : zL2 (zg_F ρ) stk cst)
    (k : m' < 267 → ∀ (lv' : List (Nat × Value)) (cst' : List zC_F), zg_T XL X φ ρ t' ph lv' [] → zL2 (zg_F ρ) stk' cst' → ZW l d2 (zm m') X (zmc m').1 (zmc m').2 (zQS l X Q0 cst') 0 lv' [] ph t'.2.2.2.2.1 t'.2.2.2.2.2) :
    ZW l d (zm m) X (zmc m).1 (zmc m).2 (zQS l X Q0 cst) pc lv st ph t.2.2.2.2.1 t.2.2.2.2.2 := by
  obtain ⟨S, H, L, s0, cc, ns⟩ := t
  obtain ⟨g1, g2, g3, g4, g5⟩ := g
  unfold zcall at he
  split at he
  · next tt na ml w o2 =>
    split at he
    · next q hq =>
      cases he
      unfold zcc at hc
      dsimp only at hc
      obtain ⟨h1, hc2⟩ := zw_and hc
      obtain ⟨h2, hc3⟩ := zw_and hc2
      obtain ⟨hlt, hna, hml, rfl, rfl⟩ := of_decide_eq_true h1
      obtain ⟨hcal, hpl⟩ := zm_cal (zm_Kg hlt h2)
      generalize hkk : (if op = 5 then 2 else if op = 60 then 0 else if op = 61 then 0 else 1) = kk at *
      unfold zx_call at hq
      split at hq
      · cases hq
      · next dd =>
        dsimp only at hq
        generalize hrc : (if kk = 0 then na.toNat else na.toNat + 1) = rc at *
        split at hq
        · next hcond =>
          cases hq
          obtain ⟨q1, q2, q3, q4, q5, q6⟩ := hcond
          have hlen : s0.length = st.length := zL2.len g4
          have q1 : rc ≤ s0.length := q1
          have gargs : zL2 (zg_V ρ) (s0.take rc).reverse (st.take rc).reverse := zL2.rev (zL2.take rc g4)
          have grest : zL2 (zg_V ρ) (s0.drop rc) (st.drop rc) := zL2.drop rc g4
          have hcat : ((st.drop rc).map (fun v => v.category)).sum ≤ 8 := by rw [zg_cats grest]; exact q2
          have hsl : (lg_sl (st.take rc).reverse).length ≤ (zm tt.toNat).2.2.1 := by rw [z_slSum, zg_cats gargs, ← hml]; exact q3
          have hstl : ((st.take rc).reverse).length = rc := by
            rw [List.length_reverse, List.length_take]
            omega
          have hM : ZM l d2 (zm tt.toNat) X (st.take rc).reverse ph (zmc tt.toNat).1 (zmc tt.toNat).2 (zQS l X Q0 ((m, d2 + 1, pc + 3, lv, st.drop rc, cc + (zmc tt.toNat).1, ns + (zmc tt.toNat).2) :: cst)) :=
            ZM.of hpl hsl (k hlt _ _ ⟨g1, g2, zx_args_g 0 (zL2.mapL g1 gargs), trivial, g5⟩ ⟨⟨hm, rfl, rfl, rfl, g3, grest, rfl⟩, gs⟩)
          have hst : st = ((st.take rc).reverse).reverse ++ st.drop rc := by rw [List.reverse_reverse, List.take_append_drop]
          have kont : ∀ (v : Option Value) (ph' : List z_C), zQS l X Q0 ((m, d2 + 1, pc + 3, lv, st.drop rc, cc + (zmc tt.toNat).1, ns + (zmc tt.toNat).2) :: cst) v ph' → ZW l (d2 + 1) (zm m) X (zmc m).1 (zmc m).2 (zQS l X Q0 cst) (pc + 3) lv (v.toList ++ st.drop rc) ph' (cc + (zmc tt.toNat).1) (ns + (zmc tt.toNat).2) := fun v ph' h => h
          have static : kk = 0 → ((st.take rc).reverse).length = zm_N tt.toNat := by
            intro e
            rw [hstl, ← hrc, if_pos e, hna]
          have recv : kk ≠ 0 → ∃ (a : zA_V) (r : List zA_V) (v : Value) (vs : List Value), (s0.take rc).reverse = a :: r ∧ (st.take rc).reverse = v :: vs ∧ zg_V ρ a v ∧ vs.length = zm_N tt.toNat := by
            intro e
            rw [if_neg e] at hrc
            have hl : ((s0.take rc).reverse).length = rc := by
              rw [List.length_reverse, List.length_take]
              omega
            cases ha : (s0.take rc).reverse with
            | nil => rw [ha] at hl; simp at hl; omega
            | cons a r =>
              cases hv : (st.take rc).reverse with
              | nil => rw [hv] at hstl; simp at hstl; omega
              | cons v vs =>
                rw [ha, hv] at gargs
                rw [hv] at hstl
                refine ⟨a, r, v, vs, rfl, rfl, gargs.1, ?_⟩
                rw [List.length_cons] at hstl
                omega
          clear gargs
          generalize hfull : (st.take rc).reverse = full at *
          generalize st.drop rc = rst at *
          split at hc3
          · next s1 s2 j =>
            split at hc3
            · next e60 =>
              obtain ⟨h5, h6⟩ := zw_and hc3
              obtain ⟨h7, h8⟩ := zw_and h6
              have h9 := of_decide_eq_true h5
              subst h9
              rw [hst]
              exact zs_callS (zx_of h7) (zx_of h8) hcal (static (by rw [← hkk, e60]; rfl)) hcat (Nat.le_refl _) q4 q5 hd hM kont
            · split at hc3
              · next e60 =>
                obtain ⟨h5, h6⟩ := zw_and hc3
                obtain ⟨h7, h8⟩ := zw_and h6
                have h9 := of_decide_eq_true h5
                subst h9
                rw [hst]
                exact zs_callSN (of_decide_eq_true h7) (zx_of h8) hcal (static (by rw [← hkk, e60]; rfl)) hcat (Nat.le_refl _) q4 q5 hd hM kont
              · split at hc3
                · next e60 =>
                  obtain ⟨h5, h6⟩ := zw_and hc3
                  obtain ⟨h7, h8⟩ := zw_and h6
                  obtain ⟨h9, h10, h11⟩ := of_decide_eq_true h5
                  subst h9
                  have ekk : kk = 1 := by rw [← hkk, e60]; rfl
                  obtain ⟨a, r, v, vs, ea, ev, gv, hvl⟩ := recv (by omega)
                  rw [ea, ekk] at q6
                  have e2 := zg_ref (a := a) (by simpa [zx_rcv] using q6) gv
                  subst e2
                  rw [hst, ev, List.reverse_cons, List.append_assoc]
                  rw [ev] at hM
                  exact zs_callI h10 h11 (zx_of h7) (zx_of h8) hcal hvl hcat (Nat.le_refl _) q4 q5 hd hM kont
                · split at hc3
                  · next e60 =>
                    obtain ⟨h5, h6⟩ := zw_and hc3
                    obtain ⟨h7, h8⟩ := zw_and h6
                    obtain ⟨h9, h10, h11⟩ := of_decide_eq_true h5
                    subst h9
                    have ekk : kk = 1 := by rw [← hkk, e60]; rfl
                    obtain ⟨a, r, v, vs, ea, ev, gv, hvl⟩ := recv (by omega)
                    rw [ea, ekk] at q6
                    have e2 := zg_ref (a := a) (by simpa [zx_rcv] using q6) gv
                    subst e2
                    rw [hst, ev, List.reverse_cons, List.append_assoc]
                    rw [ev] at hM
                    exact zs_callIN h10 h11 (of_decide_eq_true h7) (zx_of h8) hcal hvl hcat (Nat.le_refl _) q4 q5 hd hM kont
                  · cases hc3
          · next im se s1 ci j =>
            split at hc3
            · next e5 =>
              obtain ⟨h5, h6⟩ := zw_and hc3
              obtain ⟨h7, h8⟩ := zw_and h6
              obtain ⟨h9, h10⟩ := zw_and h8
              obtain ⟨h11, h12⟩ := zw_and h10
              have h13 := of_decide_eq_true h5
              subst h13
              have ekk : kk = 2 := by rw [← hkk, e5]; rfl
              obtain ⟨a, r, v, vs, ea, ev, gv, hvl⟩ := recv (by omega)
              rw [ea, ekk] at q6
              unfold zx_rcv at q6
              rw [if_neg (by decide), if_neg (by decide)] at q6
              split at q6
              · next hra =>
                have hra : a.1 = 2 ∧ 3 ≤ a.2.toNat := hra
                split at q6
                · next c hcH =>
                  have hcc := of_decide_eq_true q6
                  obtain ⟨c', hc', gc⟩ := zL2.get g2 hcH
                  obtain ⟨fs, rfl, -⟩ := zg_C0 hcc.1 gc
                  have e2 := zg_ref hra.1 gv
                  subst e2
                  split at h12
                  · next z hz =>
                    have ez := of_decide_eq_true h12
                    have hz2 : zc[c.2.1]? = some ((zm tt.toNat).1.cls, z.2.1, z.2.2) := by
                      rw [hcc.2]
                      show zc[ci.toNat]? = _
                      rw [hz, ← ez]
                    rw [hst, ev, List.reverse_cons, List.append_assoc]
                    rw [ev] at hM
                    have hra2 : 3 ≤ a.2.toNat := hra.2
                    rw [z_back3 hra2] at hM ⊢
                    exact zs_callV (zx_of h7) (zx_of h9) (zx_of h11) hc' hz2 hcal hvl hcat (Nat.le_refl _) q4 q5 hd hM kont
                  · cases h12
                · cases q6
              · cases q6
            · cases hc3
          · cases hc3
        · cases hq
    · cases he
  · cases he
/-- an end -/
def zx_ret (op : Nat) (o : List Int) (t : zA_T) : Option (Option zA_V) := match t.2.2.2.1 with
  | [] => if op = 66 then some none else none
  | [v] => if op = 4 then (if zIs v = true then (if o = [0] then some (some (zn t.1 v)) else if zx_fit 1 t.1 v = true then some (some (zn t.1 v)) else none) else none)
      else if op = 65 then (if zIsJ v = true then some (some (zn t.1 v)) else none) else none
  | _ => none
def zg_R (ρ : List Int) : Option zA_V → Option Value → Prop
  | none, none => True
  | some a, some v => zg_V ρ a v
  | _, _ => False
theorem zret_ok {op : Nat} {y : zx_Y} {r : Option zA_V} (hd : decode y.2.1 pc = .ok (ins, len)) (hc : zcr op y o ins len = true) (he : zx_ret op o t = some r) {ρ : List Int} {st : List Value} (g1 : zg_S ρ t.1) (g4 : zL2 (zg_V ρ) t.2.2.2.1 st) :
    ∃ v : Option Value, st = v.toList ∧ zEn y pc v ∧ zg_R ρ r v := by
  obtain ⟨S, H, L, s0, cc, ns⟩ := t
  unfold zx_ret at he
  unfold zcr at hc
  dsimp only at he g1 g4
  split at he
  · split at he
    · next e =>
      cases he
      rw [if_pos e] at hc
      obtain ⟨rfl, rfl, h3⟩ := of_decide_eq_true hc
      cases st with
      | nil => exact ⟨none, rfl, Or.inr (Or.inr ⟨rfl, hd, h3⟩), trivial⟩
      | cons a b => exact g4.elim
    · cases he
  · next v =>
    obtain ⟨u, st1, rfl, gv, gr⟩ := zL2.cons1 g4
    cases st1 with
    | cons a b => exact gr.elim
    | nil =>
      split at he
      · next e4 =>
        rw [if_neg (by omega), if_neg (by omega), if_pos e4] at hc
        obtain ⟨rfl, rfl, h3⟩ := of_decide_eq_true hc
        split at he
        · next hI =>
          obtain ⟨x, rfl, -⟩ := zg_int hI gv
          split at he
          · next h0 =>
            cases he
            rcases h3 with ⟨-, h3⟩ | ⟨h3, -⟩
            · exact ⟨some (.int x), rfl, Or.inl ⟨x, .int, rfl, hd, h3, rfl⟩, zn_g g1 gv⟩
            · exact absurd h0 h3
          · next h0 =>
            split at he
            · next hf =>
              cases he
              rcases h3 with ⟨h3, -⟩ | ⟨-, h3⟩
              · exact absurd h3 h0
              · have hb := (zx_fit_g g1 gv hf).2.1 rfl
                refine ⟨some (.int x), rfl, Or.inl ⟨x, .boolean, rfl, hd, h3, ?_⟩, zn_g g1 gv⟩
                rcases hb with hb | hb <;> cases hb <;> rfl
            · cases he
        · cases he
      · next e4 =>
        split at he
        · next e65 =>
          rw [if_neg (by omega), if_pos e65] at hc
          obtain ⟨rfl, rfl, h3⟩ := of_decide_eq_true hc
          split at he
          · next hI =>
            cases he
            obtain ⟨x, rfl, -⟩ := zg_long hI gv
            exact ⟨some (.long x), rfl, Or.inr (Or.inl ⟨x, rfl, hd, h3⟩), zn_g g1 gv⟩
          · cases he
        · cases he
  · cases he
end ZK
abbrev zX_ : Type := Nat → Nat → Nat → zA_T → List zA_F → Bool
def zgo (ih : zX_) (m d : Nat) (stk : List zA_F) : zA_R → Bool
  | some [q] => ih m d q.1 q.2 stk
  | some l => l.all (fun q => ih m d q.1 q.2 stk)
  | none => false
def zend (fin : zA_T → Option zA_V → Bool) (ih : zX_) (m : Nat) (t : zA_T) (stk : List zA_F) : Option (Option zA_V) → Bool
  | none => false
  | some r => if t.2.2.2.2.1 = (zmc m).1 ∧ t.2.2.2.2.2 ≤ (zmc m).2 then (match stk with
      | [] => fin t r
      | f :: stk' => ih f.1 f.2.1 f.2.2.1 (t.1, t.2.1, f.2.2.2.1, r.toList ++ f.2.2.2.2.1, f.2.2.2.2.2) stk') else false
/-- a method's answers that are known already: bounds, heaps and values -/
abbrev zR_ : Type := zA_S × zA_H × Option zA_V
abbrev zO_ : Type := Nat → Nat → zA_T → Option (List zR_)
def zres (ih : zX_) (stk : List zA_F) (r : zR_) : Bool := match stk with
  | [] => false
  | f :: stk' => ih f.1 f.2.1 f.2.2.1 (r.1, r.2.1, f.2.2.2.1, r.2.2.toList ++ f.2.2.2.2.1, f.2.2.2.2.2) stk'
def zcal2 (orc : zO_) (ih : zX_) : Option (Nat × Nat × zA_T × List zA_F) → Bool
  | none => false
  | some q => match orc q.1 q.2.1 q.2.2.1 with
    | none => ih q.1 q.2.1 0 q.2.2.1 q.2.2.2
    | some [r] => zres ih q.2.2.2 r
    | some rs => rs.all (zres ih q.2.2.2)
def zdo (XL : Nat) (fin : zA_T → Option zA_V → Bool) (orc : zO_) (ih : zX_) (m d pc : Nat) (t : zA_T) (stk : List zA_F) (op nx : Nat) (o : List Int) : Bool :=
  if op = 4 then zend fin ih m t stk (zx_ret op o t)
  else if op = 5 then zcal2 orc ih (zcall op m d nx o t stk)
  else if op < 60 then zgo ih m d stk (zex XL (zmc m).1 (zmc m).2 d op nx pc o t)
  else if op < 64 then zcal2 orc ih (zcall op m d nx o t stk)
  else if op = 65 then zend fin ih m t stk (zx_ret op o t)
  else if op = 66 then zend fin ih m t stk (zx_ret op o t)
  else zgo ih m d stk (zex XL (zmc m).1 (zmc m).2 d op nx pc o t)
noncomputable def zbody (XL : Nat) (fin : zA_T → Option zA_V → Bool) (cut : Nat → Nat → Nat → zA_T → List zA_F → Bool) (orc : zO_) (ih : zX_) (m d pc : Nat) (t : zA_T) (stk : List zA_F) : Bool :=
  match cut m d pc t stk with
  | true => true
  | false => (match Nat.ble (zbd m) pc with
    | true => false
    | false => (match zi_get m pc with
      | none => false
      | some I => zdo XL fin orc ih m d pc t stk I.1 I.2.1 I.2.2))
noncomputable def zxp (XL : Nat) (fin : zA_T → Option zA_V → Bool) (cut : Nat → Nat → Nat → zA_T → List zA_F → Bool) (orc : zO_) (n : Nat) : zX_ := Nat.rec (fun _ _ _ _ _ => false) (fun _ ih => zbody XL fin cut orc ih) n
theorem zxp_succ (XL : Nat) (fin : zA_T → Option zA_V → Bool) (cut : Nat → Nat → Nat → zA_T → List zA_F → Bool) (orc : zO_) (n : Nat) : zxp XL fin cut orc (n + 1) = zbody XL fin cut orc (zxp XL fin cut orc n) := rfl
section ZX
variable {l : Launch} {X : zx_X} {XL : Nat} {φ : List z_C} {P : List Int → Prop} {Q0 : Option Value → List z_C → Prop}
/-- what a state owes -/
def zGd (l : Launch) (X : zx_X) (XL : Nat) (φ : List z_C) (P : List Int → Prop) (Q0 : Option Value → List z_C → Prop) (m d pc : Nat) (t : zA_T) (stk : List zA_F) : Prop :=
  ∀ (ρ : List Int) (ph : List z_C) (lv : List (Nat × Value)) (st : List Value) (cst : List zC_F), P ρ → zg_T XL X φ ρ t ph lv st → zL2 (zg_F ρ) stk cst → ZW l d (zm m) X (zmc m).1 (zmc m).2 (zQS l X Q0 cst) pc lv st ph t.2.2.2.2.1 t.2.2.2.2.2
/-- what the known answers owe -/
def zOk (l : Launch) (X : zx_X) (XL : Nat) (φ : List z_C) (P : List Int → Prop) (orc : zO_) : Prop :=
  ∀ (m d : Nat) (t : zA_T) (rs : List zR_), orc m d t = some rs → ∀ (ρ : List Int) (ph : List z_C) (lv : List (Nat × Value)), P ρ → zg_T XL X φ ρ t ph lv [] → ∀ Q : Option Value → List z_C → Prop,
    (∀ r ∈ rs, ∀ (ρ' : List Int) (v : Option Value) (ph' : List z_C), zLE ρ ρ' → zg_S ρ' r.1 → zL2 (zg_C φ ρ') r.2.1 ph' → zg_R ρ' r.2.2 v → Q v ph') → ZW l d (zm m) X (zmc m).1 (zmc m).2 Q 0 lv [] ph t.2.2.2.2.1 t.2.2.2.2.2
def zFn (φ : List z_C) (P : List Int → Prop) (Q0 : Option Value → List z_C → Prop) (fin : zA_T → Option zA_V → Bool) : Prop :=
  ∀ (t : zA_T) (r : Option zA_V), fin t r = true → ∀ (ρ : List Int) (ph : List z_C) (v : Option Value), P ρ → zg_S ρ t.1 → zL2 (zg_C φ ρ) t.2.1 ph → zg_R ρ r v → Q0 v ph
theorem zbody_ok (hall : ∀ m, m < 267 → ∀ pc, pc < zbd m → zchk m pc = true) {fin : zA_T → Option zA_V → Bool} {cut : Nat → Nat → Nat → zA_T → List zA_F → Bool} {orc : zO_} {ih0 : zX_}
    (hP : ∀ ρ ρ' : List Int, zLE ρ ρ' → P ρ → P ρ') (hfin : zFn φ P Q0 fin) (horc : zOk l X XL φ P orc)
    (hcut : ∀ (m d pc : Nat) (t : zA_T) (stk : List zA_F), cut m d pc t stk = true → zGd l X XL φ P Q0 m d pc t stk)
    (ih : ∀ (m d pc : Nat) (t : zA_T) (stk : List zA_F), m < 267 → ih0 m d pc t stk = true → zGd l X XL φ P Q0 m d pc t stk)
    (m d pc : Nat) (t : zA_T) (stk : List zA_F) (hm : m < 267) (h : zbody XL fin cut orc ih0 m d pc t stk = true) : zGd l X XL φ P Q0 m d pc t stk := by
  intro ρ ph lv st cst hp g gs
  unfold zbody at h
  split at h
  · next hc => exact hcut m d pc t stk hc ρ ph lv st cst hp g gs
  · split at h
    · cases h
    · next hb =>
      have hpc : pc < zbd m := by
        rcases Nat.lt_or_ge pc (zbd m) with q | q
        · exact q
        · rw [Nat.ble_eq_true_of_le q] at hb; cases hb
      have hk := hall m hm pc hpc
      split at h
      · cases h
      · next I hI =>
        unfold zchk at hk
        rw [hI] at hk
        dsimp only at hk
        split at hk
        · next q hq =>
          obtain ⟨ins, len⟩ := q
          obtain ⟨op, nx, o⟩ := I
          dsimp only at h hk
          have hgo : zgo ih0 m d stk (zex XL (zmc m).1 (zmc m).2 d op nx pc o t) = true → zck (zm m) pc op nx o ins len = true → ZW l d (zm m) X (zmc m).1 (zmc m).2 (zQS l X Q0 cst) pc lv st ph t.2.2.2.2.1 t.2.2.2.2.2 := by
            intro h1 h2
            have hz := zex_ok (l := l) (d := d) (y := zm m) (X := X) (mc := (zmc m).1) (ms := (zmc m).2) (XL := XL) (φ := φ) (Q := zQS l X Q0 cst) (t := t) hq h2
            unfold zgo at h1
            split at h1
            · next q he =>
              exact hz _ he ρ ph lv st g (fun q' hq' ρ' ph' lv' st' hle g' => by
                rw [List.mem_singleton] at hq'
                subst hq'
                exact ih m d _ _ stk hm h1 ρ' ph' lv' st' cst (hP _ _ hle hp) g' (zL2.mono (fun _ _ => zg_F.mono hle) gs))
            · next l2 hne he =>
              exact hz _ he ρ ph lv st g (fun q' hq' ρ' ph' lv' st' hle g' => ih m d _ _ stk hm (List.all_eq_true.mp h1 q' hq') ρ' ph' lv' st' cst (hP _ _ hle hp) g' (zL2.mono (fun _ _ => zg_F.mono hle) gs))
            · cases h1
          have hcl : zcal2 orc ih0 (zcall op m d nx o t stk) = true → zcc op (zm m) pc nx o ins len = true → ZW l d (zm m) X (zmc m).1 (zmc m).2 (zQS l X Q0 cst) pc lv st ph t.2.2.2.2.1 t.2.2.2.2.2 := by
            intro h1 h2
            unfold zcal2 at h1
            split at h1
            · cases h1
            · next q he =>
              obtain ⟨m', d2, t', stk'⟩ := q
              refine zcall_ok hm hq h2 he g gs (fun hm' lv' cst' g' gs' => ?_)
              have hres : ∀ r : zR_, zres ih0 stk' r = true → ∀ (ρ' : List Int) (v : Option Value) (ph' : List z_C), zLE ρ ρ' → zg_S ρ' r.1 → zL2 (zg_C φ ρ') r.2.1 ph' → zg_R ρ' r.2.2 v → zQS l X Q0 cst' v ph' := by
                intro r hr ρ' v ph' hle gS gh gr
                cases stk' with
                | nil => cases hr
                | cons f stk2 =>
                  cases cst' with
                  | nil => exact gs'.elim
                  | cons f' cst2 =>
                    obtain ⟨f00, gs2⟩ := gs'
                    obtain ⟨f0, f1, f2, f3, f4, f5, f6⟩ := f00.mono hle
                    have grs : zL2 (zg_V ρ') r.2.2.toList v.toList := by
                      obtain ⟨r0, r1, r2⟩ := r
                      cases r2 <;> cases v
                      · exact trivial
                      · exact gr.elim
                      · exact gr.elim
                      · exact ⟨gr, trivial⟩
                    have := ih f.1 f.2.1 f.2.2.1 _ stk2 f0 hr ρ' ph' f'.2.2.2.1 (v.toList ++ f'.2.2.2.2.1) cst2 (hP _ _ hle hp) ⟨gS, gh, f4, zL2.app f5 grs, g'.2.2.2.2.mono hle⟩ (zL2.mono (fun _ _ => zg_F.mono hle) gs2)
                    rw [f1, f2, f3] at this
                    dsimp only at this
                    rw [f6] at this
                    exact this
              dsimp only at h1
              split at h1
              · exact ih m' d2 0 t' stk' hm' h1 ρ ph lv' [] cst' hp g' gs'
              · next r hor =>
                exact horc m' d2 t' _ hor ρ ph lv' hp g' _ (fun r' hr' ρ' v ph' hle gS gh gr => by
                  rw [List.mem_singleton] at hr'
                  subst hr'
                  exact hres _ h1 ρ' v ph' hle gS gh gr)
              · next rs hne hor =>
                exact horc m' d2 t' _ hor ρ ph lv' hp g' _ (fun r' hr' ρ' v ph' hle gS gh gr => hres _ (List.all_eq_true.mp h1 r' hr') ρ' v ph' hle gS gh gr)
          have hen : zend fin ih0 m t stk (zx_ret op o t) = true → zcr op (zm m) o ins len = true → ZW l d (zm m) X (zmc m).1 (zmc m).2 (zQS l X Q0 cst) pc lv st ph t.2.2.2.2.1 t.2.2.2.2.2 := by
            intro h1 h2
            unfold zend at h1
            split at h1
            · cases h1
            · next r he =>
              split at h1
              · next hcs =>
                obtain ⟨v, hv, hz, gr⟩ := zret_ok hq h2 he g.1 g.2.2.2.1
                refine zs_ret hv hz hcs.1 hcs.2 ?_
                cases stk with
                | nil =>
                  cases cst with
                  | nil => exact hfin t r h1 ρ ph v hp g.1 g.2.1 gr
                  | cons a b => exact gs.elim
                | cons f stk' =>
                  cases cst with
                  | nil => exact gs.elim
                  | cons f' cst' =>
                    obtain ⟨⟨f0, f1, f2, f3, f4, f5, f6⟩, gs'⟩ := gs
                    have grs : zL2 (zg_V ρ) r.toList v.toList := by
                      cases r <;> cases v
                      · exact trivial
                      · exact gr.elim
                      · exact gr.elim
                      · exact ⟨gr, trivial⟩
                    have := ih f.1 f.2.1 f.2.2.1 _ stk' f0 h1 ρ ph f'.2.2.2.1 (v.toList ++ f'.2.2.2.2.1) cst' hp ⟨g.1, g.2.1, f4, zL2.app f5 grs, g.2.2.2.2⟩ gs'
                    rw [f1, f2, f3] at this
                    dsimp only at this
                    rw [f6] at this
                    exact this
              · cases h1
          unfold zdo at h
          unfold zcko at hk
          split at h
          · next e => rw [if_pos e] at hk; exact hen h hk
          · next e =>
            rw [if_neg e] at hk
            split at h
            · next e => rw [if_pos e] at hk; exact hcl h hk
            · next e =>
              rw [if_neg e] at hk
              split at h
              · next e => rw [if_pos e] at hk; exact hgo h hk
              · next e =>
                rw [if_neg e] at hk
                split at h
                · next e => rw [if_pos e] at hk; exact hcl h hk
                · next e =>
                  rw [if_neg e] at hk
                  split at h
                  · next e => rw [if_pos e] at hk; exact hen h hk
                  · next e =>
                    rw [if_neg e] at hk
                    split at h
                    · next e => rw [if_pos e] at hk; exact hen h hk
                    · next e => rw [if_neg e] at hk; exact hgo h hk
        · cases hk
/-- what is explored is so -/
theorem zxp_ok (hall : ∀ m, m < 267 → ∀ pc, pc < zbd m → zchk m pc = true) {fin : zA_T → Option zA_V → Bool} {cut : Nat → Nat → Nat → zA_T → List zA_F → Bool} {orc : zO_}
    (hP : ∀ ρ ρ' : List Int, zLE ρ ρ' → P ρ → P ρ') (hfin : zFn φ P Q0 fin) (horc : zOk l X XL φ P orc)
    (hcut : ∀ (m d pc : Nat) (t : zA_T) (stk : List zA_F), cut m d pc t stk = true → zGd l X XL φ P Q0 m d pc t stk) :
    ∀ (n m d pc : Nat) (t : zA_T) (stk : List zA_F), m < 267 → zxp XL fin cut orc n m d pc t stk = true → zGd l X XL φ P Q0 m d pc t stk := by
  intro n
  induction n with
  | zero => intro m d pc t stk hm h; cases h
  | succ n ih =>
    intro m d pc t stk hm h
    rw [zxp_succ] at h
    exact zbody_ok hall hP hfin horc hcut ih m d pc t stk hm h
/-- the first instruction is done, whatever is cut -/
def zno (_ _ _ : Nat) (_ : zA_T) (_ : List zA_F) : Bool := false
def zon (_ _ : Nat) (_ : zA_T) : Option (List zR_) := none
noncomputable def zx1 (XL : Nat) (fin : zA_T → Option zA_V → Bool) (cut : Nat → Nat → Nat → zA_T → List zA_F → Bool) (orc : zO_) (n : Nat) : zX_ := zbody XL fin zno orc (zxp XL fin cut orc n)
theorem zx1_ok (hall : ∀ m, m < 267 → ∀ pc, pc < zbd m → zchk m pc = true) {fin : zA_T → Option zA_V → Bool} {cut : Nat → Nat → Nat → zA_T → List zA_F → Bool} {orc : zO_}
    (hP : ∀ ρ ρ' : List Int, zLE ρ ρ' → P ρ → P ρ') (hfin : zFn φ P Q0 fin) (horc : zOk l X XL φ P orc)
    (hcut : ∀ (m d pc : Nat) (t : zA_T) (stk : List zA_F), cut m d pc t stk = true → zGd l X XL φ P Q0 m d pc t stk)
    (n m d pc : Nat) (t : zA_T) (stk : List zA_F) (hm : m < 267) (h : zx1 XL fin cut orc n m d pc t stk = true) : zGd l X XL φ P Q0 m d pc t stk :=
  zbody_ok hall hP hfin horc (fun _ _ _ _ _ h => by cases h) (fun m d pc t stk hm h => zxp_ok hall hP hfin horc hcut n m d pc t stk hm h) m d pc t stk hm h
end ZX
