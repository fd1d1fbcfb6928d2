/-! PART 10: fields and arrays of what is known. -/
theorem zg_C0 {φ : List z_C} {ρ : List Int} {a : zA_C} {c : z_C} (h : a.1 = 0) (g : zg_C φ ρ a c) : ∃ fs, c = .inr (a.2.1, fs) ∧ zL2 (zg_V ρ) a.2.2.2.1 fs := by
  rcases g with ⟨h1, -⟩ | ⟨-, g⟩ | ⟨h1, -⟩ | ⟨h1, -⟩ | ⟨h1, -⟩
  · omega
  · exact g
  all_goals omega
theorem zg_CI {φ : List z_C} {ρ : List Int} {a : zA_C} {c : z_C} (h : a.1 = 1) (h2 : a.2.1 = 0) (g : zg_C φ ρ a c) : ∃ f : Nat → Int32, c = .inl (0, a.2.2.1, z_I f) ∧ ∀ j, j < a.2.2.1 → zg_V ρ ((a.2.2.2.2.lookup j).getD (a.2.2.2.1.headD (3, 0))) (.int (f j)) := by
  rcases g with ⟨h1, -⟩ | ⟨h1, -⟩ | ⟨-, -, g⟩ | ⟨-, h1, -⟩ | ⟨-, h1, -⟩
  · omega
  · omega
  · exact g
  all_goals omega
theorem zg_CJ {φ : List z_C} {ρ : List Int} {a : zA_C} {c : z_C} (h : a.1 = 1) (h2 : a.2.1 = 1) (g : zg_C φ ρ a c) : ∃ f : Nat → Int64, c = .inl (1, a.2.2.1, z_J f) ∧ ∀ j, j < a.2.2.1 → zg_V ρ ((a.2.2.2.2.lookup j).getD (a.2.2.2.1.headD (3, 0))) (.long (f j)) := by
  rcases g with ⟨h1, -⟩ | ⟨h1, -⟩ | ⟨-, h1, -⟩ | ⟨-, -, g⟩ | ⟨-, h1, -⟩
  · omega
  · omega
  · omega
  · exact g
  · omega
theorem zg_CO {φ : List z_C} {ρ : List Int} {a : zA_C} {c : z_C} (h : a.1 = 1) (h2 : a.2.1 = 2) (g : zg_C φ ρ a c) : ∃ f : Nat → Option Nat, c = .inl (2, a.2.2.1, z_O f) ∧ ∀ j, j < a.2.2.1 → zg_V ρ ((a.2.2.2.2.lookup j).getD (a.2.2.2.1.headD (3, 0))) (z_rf (f j)) := by
  rcases g with ⟨h1, -⟩ | ⟨h1, -⟩ | ⟨-, h1, -⟩ | ⟨-, h1, -⟩ | ⟨-, -, g⟩
  · omega
  · omega
  · omega
  · omega
  · exact g
section ZO
variable {l : Launch} {d : Nat} {y : zx_Y} {X : zx_X} {mc ms XL : Nat} {φ : List z_C} {Q : Option Value → List z_C → Prop}
def zx_getW (nx : Nat) (t : zA_T) (i k : Nat) (c : zA_C) (r : List zA_V) (p : zA_S × zA_V) : Nat × zA_T := (nx, (p.1, t.2.1.set i (0, c.2.1, 0, c.2.2.2.1.set k p.2, []), t.2.2.1, p.2 :: r, t.2.2.2.2))
def zx_get (k ci nx : Nat) (t : zA_T) : zA_R := match t.2.2.2.1 with
  | a :: r => if a.1 = 2 ∧ 3 ≤ a.2.toNat then (match t.2.1[a.2.toNat - 3]? with
      | some c => if c.1 = 0 ∧ c.2.1 = ci then (match c.2.2.2.1[k]? with
          | some v => if v.1 < 6 then some [(nx, zt_st t (v :: r))] else some ((zwd t.1 v).map (zx_getW nx t (a.2.toNat - 3) k c r))
          | none => none) else none
      | none => none) else none
  | [] => none
theorem zL2.setL' {α β : Type} {R : α → β → Prop} {a : α} {b : β} (hab : R a b) : ∀ {as : List α} {bs : List β} (i : Nat), zL2 R as bs → bs[i]? = some b → zL2 R (as.set i a) bs
  | [], [], _, _, _ => trivial
  | _ :: _, _ :: _, 0, h, hb => by cases hb; exact ⟨hab, h.2⟩
  | _ :: _, _ :: _, i + 1, h, hb => ⟨h.1, zL2.setL' hab i h.2 hb⟩
  | [], _ :: _, _, h, _ => h.elim
  | _ :: _, [], _, h, _ => h.elim
theorem z_back3 {n : Nat} (h : 3 ≤ n) : Value.ref n = Value.ref (n - 3 + 3) := by rw [Nat.sub_add_cancel h]
theorem zo_get {k ci pc nx : Nat} {t : zA_T} (hs : ∀ {lv st ph cc ns} {i : Nat} {fs : List Value} {v : Value}, ph[i]? = some (.inr (ci, fs)) → fs[k]? = some v → ZW l d y X mc ms Q nx lv (v :: st) ph cc ns → ZW l d y X mc ms Q pc lv (.ref (i + 3) :: st) ph cc ns) : zSd l d y X mc ms XL φ Q pc t (zx_get k ci nx t) := by
  obtain ⟨S, H, L, s0, cc, ns⟩ := t
  intro ts hts ρ ph lv st g k0
  obtain ⟨g1, g2, g3, g4, g5⟩ := g
  unfold zx_get at hts
  split at hts
  · next a r hst =>
    have hst : s0 = a :: r := hst
    subst hst
    obtain ⟨va, st1, rfl, ga, gr⟩ := zL2.cons1 g4
    split at hts
    · next h2 =>
      have ea := zg_ref h2.1 ga
      subst ea
      rw [z_back3 h2.2]
      split at hts
      · next c hc =>
        obtain ⟨c', hc', gc⟩ := zL2.get g2 hc
        split at hts
        · next h3 =>
          obtain ⟨fs, rfl, gf⟩ := zg_C0 h3.1 gc
          split at hts
          · next v hv =>
            obtain ⟨v', hv', gv⟩ := zL2.get gf hv
            rw [h3.2] at hc'
            split at hts
            · cases hts
              exact hs hc' hv' (k0 _ (List.mem_singleton.mpr rfl) ρ ph lv _ (zLE.refl ρ) ⟨g1, g2, g3, ⟨gv, gr⟩, g5⟩)
            · cases hts
              obtain ⟨p, hp, ρ', hle, gS, gV⟩ := zwd_g g1 gv
              refine hs hc' hv' (k0 _ (List.mem_map.mpr ⟨p, hp, rfl⟩) ρ' ph lv _ hle ⟨gS, zL2.setL' ?_ _ (zL2.mono (fun _ _ => zg_C.mono hle) g2) hc', zL2.mono (fun _ _ q => ⟨q.1, q.2.mono hle⟩) g3, ⟨gV, zL2.mono (fun _ _ => zg_V.mono hle) gr⟩, g5.mono hle⟩)
              refine Or.inr (Or.inl ⟨rfl, fs, by rw [← h3.2], zL2.setL' gV _ (zL2.mono (fun _ _ => zg_V.mono hle) gf) hv'⟩)
          · cases hts
        · cases hts
      · cases hts
    · cases hts
  · cases hts
/-- what may be put into a field: an int (0), a boolean (1), a reference (2) -/
def zx_fit (tc : Nat) (S : zA_S) (v : zA_V) : Bool := if tc = 0 then zIs v else if tc = 1 then (zIs v && (match zr S v with | some q => decide (0 ≤ q.1 ∧ q.2 ≤ 1) | none => false)) else v.1 == 2
theorem zx_fit_g {tc : Nat} {S : zA_S} {v : zA_V} {ρ : List Int} {u : Value} (hS : zg_S ρ S) (g : zg_V ρ v u) (h : zx_fit tc S v = true) : (tc = 0 → ∃ x, u = .int x) ∧ (tc = 1 → u = .int 0 ∨ u = .int 1) ∧ (tc ≠ 0 → tc ≠ 1 → ∃ a, u = .ref a) := by
  unfold zx_fit at h
  refine ⟨fun e => ?_, fun e => ?_, fun e1 e2 => ?_⟩
  · rw [if_pos e] at h
    obtain ⟨x, hx, -⟩ := zg_int h g
    exact ⟨x, hx⟩
  · rw [if_neg (by omega), if_pos e, Bool.and_eq_true] at h
    obtain ⟨x, hx, he⟩ := zg_int h.1 g
    have h2 := h.2
    split at h2
    · next q hq =>
      have := zr_in hS he hq
      have h3 := of_decide_eq_true h2
      rcases (by omega : x.toInt = 0 ∨ x.toInt = 1) with e1 | e1
      · exact Or.inl (by rw [hx, Int32.toInt_inj.mp (show x.toInt = (0 : Int32).toInt from e1)])
      · exact Or.inr (by rw [hx, Int32.toInt_inj.mp (show x.toInt = (1 : Int32).toInt from e1)])
    · cases h2
  · rw [if_neg e1, if_neg e2] at h
    exact ⟨_, zg_ref (by simpa using h) g⟩
def zx_put (k ci tc nx : Nat) (t : zA_T) : zA_R := match t.2.2.2.1 with
  | v0 :: a :: r => if a.1 = 2 ∧ 3 ≤ a.2.toNat then (match t.2.1[a.2.toNat - 3]? with
      | some c => if c.1 = 0 ∧ c.2.1 = ci ∧ k < c.2.2.2.1.length ∧ zx_fit tc t.1 v0 = true then
          some [(nx, zt_H t (t.2.1.set (a.2.toNat - 3) (0, ci, 0, c.2.2.2.1.set k (zn t.1 v0), [])) r)] else none
      | none => none) else none
  | _ => none
theorem zo_put {k ci tc pc nx : Nat} {t : zA_T} (hs : ∀ {lv st ph cc ns} {i : Nat} {fs : List Value} {v : Value}, ph[i]? = some (.inr (ci, fs)) → k < fs.length → (tc = 0 → ∃ x, v = .int x) → (tc = 1 → v = .int 0 ∨ v = .int 1) → (tc ≠ 0 → tc ≠ 1 → ∃ a, v = .ref a) → ZW l d y X mc ms Q nx lv st (ph.set i (.inr (ci, fs.set k v))) cc ns → ZW l d y X mc ms Q pc lv (v :: .ref (i + 3) :: st) ph cc ns) : zSd l d y X mc ms XL φ Q pc t (zx_put k ci tc nx t) := by
  obtain ⟨S, H, L, s0, cc, ns⟩ := t
  intro ts hts ρ ph lv st g k0
  obtain ⟨g1, g2, g3, g4, g5⟩ := g
  unfold zx_put at hts
  split at hts
  · next v0 a r hst =>
    have hst : s0 = v0 :: a :: r := hst
    subst hst
    obtain ⟨vv, st0, rfl, gv, gr0⟩ := zL2.cons1 g4
    obtain ⟨va, st1, rfl, ga, gr⟩ := zL2.cons1 gr0
    split at hts
    · next h2 =>
      have ea := zg_ref h2.1 ga
      subst ea
      rw [z_back3 h2.2]
      split at hts
      · next c hc =>
        obtain ⟨c', hc', gc⟩ := zL2.get g2 hc
        split at hts
        · next h3 =>
          obtain ⟨fs, rfl, gf⟩ := zg_C0 h3.1 gc
          cases hts
          rw [h3.2.1] at hc'
          obtain ⟨f1, f2, f3⟩ := zx_fit_g g1 gv h3.2.2.2
          refine hs hc' (by rw [← zL2.len gf]; exact h3.2.2.1) f1 f2 f3 (k0 _ (List.mem_singleton.mpr rfl) ρ _ lv _ (zLE.refl ρ) ⟨g1, zL2.set ?_ _ g2, g3, gr, g5⟩)
          exact Or.inr (Or.inl ⟨rfl, _, rfl, zL2.set (zn_g g1 gv) _ gf⟩)
        · cases hts
      · cases hts
    · cases hts
  · cases hts
/-- one place of an array that is known -/
def zx_el (c : zA_C) (j : Nat) : zA_V := (c.2.2.2.2.lookup j).getD (c.2.2.2.1.headD (3, 0))
def zx_tbN (i : Nat) : Nat := if i = 0 then 32 else 8
def zx_tbG (i : Nat) : List Int32 := if i = 0 then zs_own else zs_abv
def zx_aldW (nx : Nat) (t : zA_T) (r : List zA_V) (v : zA_V) : zA_R := if v.1 < 6 then some [(nx, zt_st t (v :: r))] else some ((zwd t.1 v).map (fun p => (nx, zt_Sst t p.1 (p.2 :: r))))
def zx_ald (XL ty nx pc : Nat) (t : zA_T) : zA_R := match t.2.2.2.1 with
  | j0 :: a :: r => let j := zn t.1 j0
    if a.1 = 2 ∧ zIs j = true then
      if 3 ≤ a.2.toNat then (match t.2.1[a.2.toNat - 3]?, zr t.1 j with
        | some c, some q => if c.1 = 1 ∧ c.2.1 = ty ∧ 0 ≤ q.1 ∧ q.2 < c.2.2.1 then
            (if j.1 = 0 then zx_aldW nx t r (zx_el c j.2.toNat) else match c.2.2.2.2 with
              | [] => zx_aldW nx t r (c.2.2.2.1.headD (3, 0))
              | _ :: _ => zx_again pc t (zSp t.1 j)) else none
        | _, _ => none)
      else if ty = 0 then
        if a.2.toNat = 2 then (if j.1 = 0 ∧ 0 ≤ j.2 ∧ j.2 < XL ∧ XL < 1000 then some [(nx, zt_st t ((1, j.2) :: r))] else none)
        else if j.1 = 0 then (if 0 ≤ j.2 ∧ j.2 < zx_tbN a.2.toNat then some [(nx, zt_st t ((0, ((zx_tbG a.2.toNat).getD j.2.toNat 0).toInt) :: r))] else none)
        else zx_again pc t (zSp t.1 j)
      else none
    else none
  | _ => none
theorem zo_ald {ty pc nx : Nat} {t : zA_T} (hty : ty < 3)
    (hI : ∀ {lv st ph cc ns} {i n : Nat} {f : Nat → Int32} {j : Int32}, ty = 0 → ph[i]? = some (.inl (0, n, z_I f)) → vp_in j n → ZW l d y X mc ms Q nx lv (.int (f j.toNatClampNeg) :: st) ph cc ns → ZW l d y X mc ms Q pc lv (.int j :: .ref (i + 3) :: st) ph cc ns)
    (hJ : ∀ {lv st ph cc ns} {i n : Nat} {f : Nat → Int64} {j : Int32}, ty = 1 → ph[i]? = some (.inl (1, n, z_J f)) → vp_in j n → ZW l d y X mc ms Q nx lv (.long (f j.toNatClampNeg) :: st) ph cc ns → ZW l d y X mc ms Q pc lv (.int j :: .ref (i + 3) :: st) ph cc ns)
    (hO : ∀ {lv st ph cc ns} {i n : Nat} {f : Nat → Option Nat} {j : Int32}, ty = 2 → ph[i]? = some (.inl (2, n, z_O f)) → vp_in j n → ZW l d y X mc ms Q nx lv (z_rf (f j.toNatClampNeg) :: st) ph cc ns → ZW l d y X mc ms Q pc lv (.int j :: .ref (i + 3) :: st) ph cc ns)
    (hT : ∀ {lv st ph cc ns} {i n : Nat} {g : List Int32} {j : Int32}, ty = 0 → (i = 0 ∧ n = 32 ∧ g = zs_own ∨ i = 1 ∧ n = 8 ∧ g = zs_abv) → vp_in j n → ZW l d y X mc ms Q nx lv (.int (g.getD j.toNatClampNeg 0) :: st) ph cc ns → ZW l d y X mc ms Q pc lv (.int j :: .ref i :: st) ph cc ns)
    (hX : ∀ {lv st ph cc ns} {j : Int32}, ty = 0 → vp_in j X.1 → ZW l d y X mc ms Q nx lv (.int (X.2 j.toNatClampNeg) :: st) ph cc ns → ZW l d y X mc ms Q pc lv (.int j :: .ref 2 :: st) ph cc ns) :
    zSd l d y X mc ms XL φ Q pc t (zx_ald XL ty nx pc t) := by
  obtain ⟨S, H, L, s0, cc, ns⟩ := t
  intro ts hts ρ ph lv st g k0
  have gT := g
  obtain ⟨g1, g2, g3, g4, g5⟩ := g
  unfold zx_ald at hts
  split at hts
  · next j0 a r hst =>
    have hst : s0 = j0 :: a :: r := hst
    subst hst
    obtain ⟨vj, st0, rfl, gj0, gr0⟩ := zL2.cons1 g4
    obtain ⟨va, st1, rfl, ga, gr⟩ := zL2.cons1 gr0
    have gj := zn_g g1 gj0
    dsimp only at hts
    generalize hej : zn S j0 = j at *
    split at hts
    · next hI0 =>
      have ea := zg_ref hI0.1 ga
      subst ea
      obtain ⟨x, rfl, ex⟩ := zg_int hI0.2 gj
      split at hts
      · next h3 =>
        rw [z_back3 h3] at *
        split at hts
        · next c q hc hq =>
          obtain ⟨c', hc', gc⟩ := zL2.get g2 hc
          have bq := zr_in g1 ex hq
          split at hts
          · next h4 =>
            obtain ⟨c1, c2, c3, c4⟩ := h4
            have hin : vp_in x c.2.2.1 := vp_in_iff.mpr ⟨by omega, by omega⟩
            have hjl : x.toNatClampNeg < c.2.2.1 := z_in_lt hin
            have fin : ∀ (v : zA_V), (∀ u, zg_V ρ (zx_el c x.toNatClampNeg) u → zg_V ρ v u) → zx_aldW nx (S, H, L, j0 :: a :: r, cc, ns) r v = some ts → ZW l d y X mc ms Q pc lv (.int x :: .ref (a.2.toNat - 3 + 3) :: st1) ph cc ns := by
              intro v hv e
              have go : ∀ u, zg_V ρ v u → ZW l d y X mc ms Q nx lv (u :: st1) ph cc ns := by
                intro u gu
                unfold zx_aldW at e
                split at e
                · cases e
                  exact k0 _ (List.mem_singleton.mpr rfl) ρ ph lv _ (zLE.refl ρ) ⟨g1, g2, g3, ⟨gu, gr⟩, g5⟩
                · cases e
                  obtain ⟨p, hp, ρ', hle, gS, gV⟩ := zwd_g g1 gu
                  exact k0 _ (List.mem_map.mpr ⟨p, hp, rfl⟩) ρ' ph lv _ hle ⟨gS, zL2.mono (fun _ _ => zg_C.mono hle) g2, zL2.mono (fun _ _ q => ⟨q.1, q.2.mono hle⟩) g3, ⟨gV, zL2.mono (fun _ _ => zg_V.mono hle) gr⟩, g5.mono hle⟩
              rcases (by omega : ty = 0 ∨ ty = 1 ∨ ty = 2) with e | e | e
              · obtain ⟨f, rfl, gf⟩ := zg_CI c1 (c2.trans e) gc
                exact hI e hc' hin (go _ (hv _ (gf _ hjl)))
              · obtain ⟨f, rfl, gf⟩ := zg_CJ c1 (c2.trans e) gc
                exact hJ e hc' hin (go _ (hv _ (gf _ hjl)))
              · obtain ⟨f, rfl, gf⟩ := zg_CO c1 (c2.trans e) gc
                exact hO e hc' hin (go _ (hv _ (gf _ hjl)))
            split at hts
            · next hj0 =>
              have hx : x.toInt = j.2 := by rcases ex with ⟨-, e⟩ | ⟨e, -⟩ <;> omega
              have hxn : x.toNatClampNeg = j.2.toNat := by show x.toInt.toNat = _; rw [hx]
              exact fin _ (fun u gu => by rw [hxn] at gu; exact gu) hts
            · split at hts
              · next hov => exact fin _ (fun u gu => by unfold zx_el at gu; rw [hov] at gu; exact gu) hts
              · obtain ⟨t', m, gt, e⟩ := zx_again_g hts rfl gT ex
                have := k0 _ m ρ ph lv _ (zLE.refl ρ) gt
                rw [e] at this
                exact this
          · cases hts
        · cases hts
      · next h3 =>
        split at hts
        · next hty0 =>
          split at hts
          · next h5 =>
            split at hts
            · next h6 =>
              cases hts
              have hx : x.toInt = j.2 := by rcases ex with ⟨-, e⟩ | ⟨e, -⟩ <;> omega
              have hxn : x.toNatClampNeg = j.2.toNat := by show x.toInt.toNat = _; rw [hx]
              rw [h5]
              refine hX hty0 (vp_in_iff.mpr ⟨by omega, by rw [(g5 h6.2.2.2).1]; omega⟩) (k0 _ (List.mem_singleton.mpr rfl) ρ ph lv _ (zLE.refl ρ) ⟨g1, g2, g3, ⟨?_, gr⟩, g5⟩)
              rw [hxn]
              exact Or.inr (Or.inl ⟨rfl, _, rfl, (g5 h6.2.2.2).2 _ (by omega)⟩)
            · cases hts
          · next h5 =>
            split at hts
            · next hj0 =>
              have hx : x.toInt = j.2 := by rcases ex with ⟨-, e⟩ | ⟨e, -⟩ <;> omega
              have hxn : x.toNatClampNeg = j.2.toNat := by show x.toInt.toNat = _; rw [hx]
              split at hts
              · next h6 =>
                cases hts
                have hcase : a.2.toNat = 0 ∧ zx_tbN a.2.toNat = 32 ∧ zx_tbG a.2.toNat = zs_own ∨ a.2.toNat = 1 ∧ zx_tbN a.2.toNat = 8 ∧ zx_tbG a.2.toNat = zs_abv := by
                  unfold zx_tbN zx_tbG
                  rcases (by omega : a.2.toNat = 0 ∨ a.2.toNat = 1) with e | e
                  · exact Or.inl ⟨e, by rw [if_pos e], by rw [if_pos e]⟩
                  · exact Or.inr ⟨e, by rw [if_neg (by omega)], by rw [if_neg (by omega)]⟩
                refine hT (n := zx_tbN a.2.toNat) (g := zx_tbG a.2.toNat) hty0 hcase (vp_in_iff.mpr ⟨by omega, by rw [hx]; exact h6.2⟩) (k0 _ (List.mem_singleton.mpr rfl) ρ ph lv _ (zLE.refl ρ) ⟨g1, g2, g3, ⟨zg_ofI ?_, gr⟩, g5⟩)
                rw [hxn]
              · cases hts
            · obtain ⟨t', m, gt, e⟩ := zx_again_g hts rfl gT ex
              have := k0 _ m ρ ph lv _ (zLE.refl ρ) gt
              rw [e] at this
              exact this
        · cases hts
    · cases hts
  · cases hts
/-- a place of an array is written -/
def zx_wr (c : zA_C) (j : Nat) (v : zA_V) : zA_C := (1, c.2.1, c.2.2.1, c.2.2.2.1, (if v = c.2.2.2.1.headD (3, 0) then c.2.2.2.2.filter (fun q => !(q.1 == j)) else (j, v) :: c.2.2.2.2.filter (fun q => !(q.1 == j))))
theorem z_look_f (l : List (Nat × zA_V)) (j i : Nat) : (l.filter (fun q => !(q.1 == j))).lookup i = if i = j then none else l.lookup i := by
  induction l with
  | nil => simp
  | cons a r ih =>
    obtain ⟨k, v⟩ := a
    rw [List.filter_cons]
    by_cases hkj : k = j
    · subst hkj
      simp only [beq_self_eq_true, Bool.not_true, Bool.false_eq_true, if_false]
      rw [ih, List.lookup_cons]
      by_cases hik : i = k
      · simp [hik]
      · have : (i == k) = false := by simpa using hik
        simp [hik, this]
    · have h1 : (k == j) = false := by simpa using hkj
      simp only [h1, Bool.not_false, if_true]
      rw [List.lookup_cons, List.lookup_cons, ih]
      by_cases hik : i = k
      · have : ¬ i = j := fun e => hkj (hik.symm.trans e)
        simp [hik, hkj]
      · have h2 : (i == k) = false := by simpa using hik
        simp [h2]
theorem zx_wr_el (c : zA_C) (j i : Nat) (v : zA_V) : zx_el (zx_wr c j v) i = if i = j then v else zx_el c i := by
  unfold zx_el zx_wr
  dsimp only
  split
  · next h =>
    rw [z_look_f]
    split
    · rw [Option.getD_none, h]
    · rfl
  · next h =>
    rw [List.lookup_cons]
    by_cases hij : i = j
    · subst hij
      simp
    · have : (i == j) = false := by simpa using hij
      rw [this, if_neg hij]
      simp only [z_look_f, if_neg hij]
/-- a value that the place stands for already -/
def zsm (S : zA_S) (v w : zA_V) : Bool := if w.1 < 6 then decide (zn S v = w) else zfw S v w
theorem zsm_g {ρ : List Int} {S : zA_S} {v w : zA_V} {u : Value} (hS : zg_S ρ S) (g : zg_V ρ v u) (h : zsm S v w = true) : zg_V ρ w u := by
  unfold zsm at h
  split at h
  · have e := of_decide_eq_true h
    rw [← e]
    exact zn_g hS g
  · exact zfw_g hS g (by omega) h
theorem zL2.setR' {α β : Type} {R : α → β → Prop} {a : α} {b : β} (hab : R a b) : ∀ {as : List α} {bs : List β} (i : Nat), zL2 R as bs → as[i]? = some a → zL2 R as (bs.set i b)
  | [], [], _, _, _ => trivial
  | _ :: _, _ :: _, 0, h, ha => by cases ha; exact ⟨hab, h.2⟩
  | _ :: _, _ :: _, i + 1, h, ha => ⟨h.1, zL2.setR' hab i h.2 ha⟩
  | [], _ :: _, _, h, _ => h.elim
  | _ :: _, [], _, h, _ => h.elim
def zx_ast (ty nx pc : Nat) (t : zA_T) : zA_R := match t.2.2.2.1 with
  | v0 :: j0 :: a :: r => let j := zn t.1 j0
    if a.1 = 2 ∧ zIs j = true ∧ 3 ≤ a.2.toNat ∧ zx_ty ty v0 = true then
      (match t.2.1[a.2.toNat - 3]?, zr t.1 j with
        | some c, some q => if c.1 = 1 ∧ c.2.1 = ty ∧ 0 ≤ q.1 ∧ q.2 < c.2.2.1 then
            (if ty < 2 ∧ c.2.2.2.2 = [] ∧ zsm t.1 v0 (c.2.2.2.1.headD (3, 0)) = true then some [(nx, zt_st t r)] else if j.1 = 0 then
              (if ty = 2 then (if 3 ≤ v0.2.toNat then (match t.2.1[v0.2.toNat - 3]? with
                  | some e => if e.1 = 0 ∧ e.2.1 = 10 then some [(nx, zt_H t (t.2.1.set (a.2.toNat - 3) (zx_wr c j.2.toNat (zn t.1 v0))) r)] else none
                  | none => none) else none)
                else some [(nx, zt_H t (t.2.1.set (a.2.toNat - 3) (zx_wr c j.2.toNat (zn t.1 v0))) r)])
              else zx_again pc t (zSp t.1 j)) else none
        | _, _ => none)
    else none
  | _ => none
theorem zo_ast {ty pc nx : Nat} {t : zA_T} (hty : ty < 3)
    (hI : ∀ {lv st ph cc ns} {i n : Nat} {f : Nat → Int32} {j x : Int32}, ty = 0 → ph[i]? = some (.inl (0, n, z_I f)) → vp_in j n → ZW l d y X mc ms Q nx lv st (ph.set i (.inl (0, n, z_I (upd f j.toNatClampNeg x)))) cc ns → ZW l d y X mc ms Q pc lv (.int x :: .int j :: .ref (i + 3) :: st) ph cc ns)
    (hJ : ∀ {lv st ph cc ns} {i n : Nat} {f : Nat → Int64} {j : Int32} {x : Int64}, ty = 1 → ph[i]? = some (.inl (1, n, z_J f)) → vp_in j n → ZW l d y X mc ms Q nx lv st (ph.set i (.inl (1, n, z_J (vp_updL f j.toNatClampNeg x)))) cc ns → ZW l d y X mc ms Q pc lv (.long x :: .int j :: .ref (i + 3) :: st) ph cc ns)
    (hO : ∀ {lv st ph cc ns} {i n q : Nat} {f : Nat → Option Nat} {j : Int32} {fs : List Value}, ty = 2 → ph[i]? = some (.inl (2, n, z_O f)) → ph[q]? = some (.inr (10, fs)) → vp_in j n → ZW l d y X mc ms Q nx lv st (ph.set i (.inl (2, n, z_O (va_up f j.toNatClampNeg (some (q + 3)))))) cc ns → ZW l d y X mc ms Q pc lv (.ref (q + 3) :: .int j :: .ref (i + 3) :: st) ph cc ns) :
    zSd l d y X mc ms XL φ Q pc t (zx_ast ty nx pc t) := by
  obtain ⟨S, H, L, s0, cc, ns⟩ := t
  intro ts hts ρ ph lv st g k0
  have gT := g
  obtain ⟨g1, g2, g3, g4, g5⟩ := g
  unfold zx_ast at hts
  split at hts
  · next v0 j0 a r hst =>
    have hst : s0 = v0 :: j0 :: a :: r := hst
    subst hst
    obtain ⟨vv, st2, rfl, gv, gr2⟩ := zL2.cons1 g4
    obtain ⟨vj, st0, rfl, gj0, gr0⟩ := zL2.cons1 gr2
    obtain ⟨va, st1, rfl, ga, gr⟩ := zL2.cons1 gr0
    have gj := zn_g g1 gj0
    have gv' := zn_g g1 gv
    dsimp only at hts
    generalize hej : zn S j0 = j at *
    split at hts
    · next hI0 =>
      have ea := zg_ref hI0.1 ga
      subst ea
      obtain ⟨x, rfl, ex⟩ := zg_int hI0.2.1 gj
      have hvt := hI0.2.2.2
      rw [z_back3 hI0.2.2.1] at *
      split at hts
      · next c q hc hq =>
        obtain ⟨c', hc', gc⟩ := zL2.get g2 hc
        have bq := zr_in g1 ex hq
        split at hts
        · next h4 =>
          obtain ⟨c1, c2, c3, c4⟩ := h4
          have hin : vp_in x c.2.2.1 := vp_in_iff.mpr ⟨by omega, by omega⟩
          split at hts
          · next hsm =>
            cases hts
            obtain ⟨m1, m2, m3⟩ := hsm
            have gd := zsm_g g1 gv m3
            have hel : ∀ i, (c.2.2.2.2.lookup i).getD (c.2.2.2.1.headD (3, 0)) = c.2.2.2.1.headD (3, 0) := by
              intro i
              rw [m2]
              rfl
            rcases (by omega : ty = 0 ∨ ty = 1) with e | e
            · subst e
              obtain ⟨f, rfl, gf⟩ := zg_CI c1 c2 gc
              obtain ⟨z, rfl, -⟩ := zg_int (by simpa [zx_ty] using hvt) gv
              refine hI rfl hc' hin (k0 _ (List.mem_singleton.mpr rfl) ρ _ lv _ (zLE.refl ρ) ⟨g1, zL2.setR' ?_ _ g2 hc, g3, gr, g5⟩)
              refine Or.inr (Or.inr (Or.inl ⟨c1, c2, _, rfl, fun i hi => ?_⟩))
              have := gf i hi
              rw [hel] at this ⊢
              simp only [upd]
              split
              · exact gd
              · exact this
            · subst e
              obtain ⟨f, rfl, gf⟩ := zg_CJ c1 c2 gc
              obtain ⟨z, rfl, -⟩ := zg_long (by simpa [zx_ty] using hvt) gv
              refine hJ rfl hc' hin (k0 _ (List.mem_singleton.mpr rfl) ρ _ lv _ (zLE.refl ρ) ⟨g1, zL2.setR' ?_ _ g2 hc, g3, gr, g5⟩)
              refine Or.inr (Or.inr (Or.inr (Or.inl ⟨c1, c2, _, rfl, fun i hi => ?_⟩)))
              have := gf i hi
              rw [hel] at this ⊢
              simp only [vp_updL]
              split
              · exact gd
              · exact this
          · split at hts
            · next hj0 =>
              have hx : x.toInt = j.2 := by rcases ex with ⟨-, e⟩ | ⟨e, -⟩ <;> omega
              have hxn : x.toNatClampNeg = j.2.toNat := by show x.toInt.toNat = _; rw [hx]
              have hel : ∀ (i : Nat) (u : Value), (i = x.toNatClampNeg → zg_V ρ (zn S v0) u) → (i ≠ x.toNatClampNeg → zg_V ρ (zx_el c i) u) → zg_V ρ (zx_el (zx_wr c j.2.toNat (zn S v0)) i) u := by
                intro i u e1 e2
                rw [zx_wr_el]
                split
                · next e => exact e1 (e.trans hxn.symm)
                · next e => exact e2 (fun q => e (q.trans hxn))
              rcases (by omega : ty = 0 ∨ ty = 1 ∨ ty = 2) with e | e | e
              · subst e
                rw [if_neg (by decide)] at hts
                cases hts
                obtain ⟨f, rfl, gf⟩ := zg_CI c1 c2 gc
                obtain ⟨z, rfl, -⟩ := zg_int (by simpa [zx_ty] using hvt) gv
                refine hI rfl hc' hin (k0 _ (List.mem_singleton.mpr rfl) ρ _ lv _ (zLE.refl ρ) ⟨g1, zL2.set ?_ _ g2, g3, gr, g5⟩)
                refine Or.inr (Or.inr (Or.inl ⟨rfl, c2, _, rfl, fun i hi => hel i _ (fun e => ?_) (fun e => ?_)⟩))
                · rw [e]; simp only [upd, if_true]; exact gv'
                · simp only [upd, if_neg e]; exact gf i hi
              · subst e
                rw [if_neg (by decide)] at hts
                cases hts
                obtain ⟨f, rfl, gf⟩ := zg_CJ c1 c2 gc
                obtain ⟨z, rfl, -⟩ := zg_long (by simpa [zx_ty] using hvt) gv
                refine hJ rfl hc' hin (k0 _ (List.mem_singleton.mpr rfl) ρ _ lv _ (zLE.refl ρ) ⟨g1, zL2.set ?_ _ g2, g3, gr, g5⟩)
                refine Or.inr (Or.inr (Or.inr (Or.inl ⟨rfl, c2, _, rfl, fun i hi => hel i _ (fun e => ?_) (fun e => ?_)⟩)))
                · rw [e]; simp only [vp_updL, if_true]; exact gv'
                · simp only [vp_updL, if_neg e]; exact gf i hi
              · subst e
                rw [if_pos rfl] at hts
                split at hts
                · next h5 =>
                  split at hts
                  · next e he =>
                    obtain ⟨e', he', ge⟩ := zL2.get g2 he
                    split at hts
                    · next h6 =>
                      cases hts
                      obtain ⟨f, rfl, gf⟩ := zg_CO c1 c2 gc
                      obtain ⟨fs, rfl, -⟩ := zg_C0 h6.1 ge
                      rw [h6.2] at he'
                      have ev := zg_ref (by simpa [zx_ty] using hvt) gv
                      subst ev
                      rw [z_back3 h5] at gv' ⊢
                      refine hO rfl hc' he' hin (k0 _ (List.mem_singleton.mpr rfl) ρ _ lv _ (zLE.refl ρ) ⟨g1, zL2.set ?_ _ g2, g3, gr, g5⟩)
                      refine Or.inr (Or.inr (Or.inr (Or.inr ⟨rfl, c2, _, rfl, fun i hi => hel i _ (fun e => ?_) (fun e => ?_)⟩)))
                      · rw [e]; simp only [va_up, if_true]; exact gv'
                      · simp only [va_up, if_neg e]; exact gf i hi
                    · cases hts
                  · cases hts
                · cases hts
            · obtain ⟨t', m, gt, e⟩ := zx_again_g hts rfl gT ex
              have := k0 _ m ρ ph lv _ (zLE.refl ρ) gt
              rw [e] at this
              exact this
        · cases hts
      · cases hts
    · cases hts
  · cases hts
end ZO
