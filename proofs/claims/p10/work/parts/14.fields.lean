/-! PART 10: fields and arrays of what is known. -/
theorem zg_C0 {φ : List z_C} {ρ : List Int} {a : zA_C} {c : z_C} (h : a.1 = 0) (g : zg_C φ ρ a c) : ∃ fs, c = .inr (a.2.1, fs) ∧ zL2 (zg_V ρ) a.2.2.2.1 fs ∧ zg_Z φ a.2.2.2.2 fs := by
  rcases g with ⟨h1, -⟩ | ⟨-, g⟩ | ⟨h1, -⟩ | ⟨h1, -⟩ | ⟨h1, -⟩
  · omega
  · exact g
  all_goals omega
theorem zg_CI {φ : List z_C} {ρ : List Int} {a : zA_C} {c : z_C} (h : a.1 = 1) (h2 : a.2.1 = 0) (g : zg_C φ ρ a c) : ∃ f : Nat → Int32, c = .inl (0, a.2.2.1, z_I f) ∧ (∀ j, j < a.2.2.1 → zg_V ρ ((a.2.2.2.2.lookup j).getD (a.2.2.2.1.headD (3, 0))) (.int (f j))) ∧ zg_Y ρ a.2.2.1 a.2.2.2.2 (fun j => .int (f j)) := by
  rcases g with ⟨h1, -⟩ | ⟨h1, -⟩ | ⟨-, -, g⟩ | ⟨-, h1, -⟩ | ⟨-, h1, -⟩
  · omega
  · omega
  · exact g
  all_goals omega
theorem zg_CJ {φ : List z_C} {ρ : List Int} {a : zA_C} {c : z_C} (h : a.1 = 1) (h2 : a.2.1 = 1) (g : zg_C φ ρ a c) : ∃ f : Nat → Int64, c = .inl (1, a.2.2.1, z_J f) ∧ (∀ j, j < a.2.2.1 → zg_V ρ ((a.2.2.2.2.lookup j).getD (a.2.2.2.1.headD (3, 0))) (.long (f j))) ∧ zg_Y ρ a.2.2.1 a.2.2.2.2 (fun j => .long (f j)) := by
  rcases g with ⟨h1, -⟩ | ⟨h1, -⟩ | ⟨-, h1, -⟩ | ⟨-, -, g⟩ | ⟨-, h1, -⟩
  · omega
  · omega
  · omega
  · exact g
  · omega
theorem zg_CO {φ : List z_C} {ρ : List Int} {a : zA_C} {c : z_C} (h : a.1 = 1) (h2 : a.2.1 = 2) (g : zg_C φ ρ a c) : ∃ f : Nat → Option Nat, c = .inl (2, a.2.2.1, z_O f) ∧ (∀ j, j < a.2.2.1 → zg_V ρ ((a.2.2.2.2.lookup j).getD (a.2.2.2.1.headD (3, 0))) (z_rf (f j))) ∧ zg_Y ρ a.2.2.1 a.2.2.2.2 (fun j => z_rf (f j)) := by
  rcases g with ⟨h1, -⟩ | ⟨h1, -⟩ | ⟨-, h1, -⟩ | ⟨-, h1, -⟩ | ⟨-, -, g⟩
  · omega
  · omega
  · omega
  · omega
  · exact g
section ZO
variable {l : Launch} {d : Nat} {y : zx_Y} {X : zx_X} {mc ms XL : Nat} {φ : List z_C} {Q : Option Value → List z_C → Prop}
def zx_getW (nx : Nat) (t : zA_T) (i k : Nat) (c : zA_C) (r : List zA_V) (p : zA_S × zA_V) : Nat × zA_T := (nx, (p.1, t.2.1.set i (0, c.2.1, 0, c.2.2.2.1.set k p.2, c.2.2.2.2), t.2.2.1, p.2 :: r, t.2.2.2.2))
def zx_get (k ci nx : Nat) (t : zA_T) : zA_R := match t.2.2.2.1 with
  | a :: r => if a.1 = 2 ∧ 3 ≤ a.2.toNat then (match t.2.1[a.2.toNat - 3]? with
      | some c => if c.1 = 0 ∧ c.2.1 = ci then (match c.2.2.2.1[k]? with
          | some v => if v.1 < 6 then some [(nx, zt_st t (v :: r))] else some ((zwd t.1 v).map (zx_getW nx t (a.2.toNat - 3) k c r))
          | none => none) else none
      | none => none) else none
  | [] => none
theorem zL2.setL' {α β : Type} {R : α → β → Prop} {a : α} {b : β} (hab : R a b) : ∀ {as : List α} {bs : List β} (i : Nat), zL2 R as bs → bs[i]? = some b → zL2 R (as.set i a) bs
  | [], [], _, _, _ => trivial
  | _ :: _, _ :: _, 0, h, hb => by cases hb; exact ⟨hab, h.2⟩
  | _ :: _, _ :: _, i + 1, h, hb => ⟨h.1, zL2.setL' hab i h.2 hb⟩
  | [], _ :: _, _, h, _ => h.elim
  | _ :: _, [], _, h, _ => h.elim
theorem z_back3 {n : Nat} (h : 3 ≤ n) : Value.ref n = Value.ref (n - 3 + 3) := by rw [Nat.sub_add_cancel h]
theorem zo_get {k ci pc nx : Nat} {t : zA_T} (hs : ∀ {lv st ph cc ns} {i : Nat} {fs : List Value} {v : Value}, ph[i]? = some (.inr (ci, fs)) → fs[k]? = some v → ZW l d y X mc ms Q nx lv (v :: st) ph cc ns → ZW l d y X mc ms Q pc lv (.ref (i + 3) :: st) ph cc ns) : zSd l d y X mc ms XL φ Q pc t (zx_get k ci nx t) := by
  obtain ⟨S, H, L, s0, cc, ns⟩ := t
  intro ts hts ρ ph lv st g k0
  obtain ⟨g1, g2, g3, g4, g5⟩ := g
  unfold zx_get at hts
  split at hts
  · next a r hst =>
    have hst : s0 = a :: r := hst
    subst hst
    obtain ⟨va, st1, rfl, ga, gr⟩ := zL2.cons1 g4
    split at hts
    · next h2 =>
      have ea := zg_ref h2.1 ga
      subst ea
      rw [z_back3 h2.2]
      split at hts
      · next c hc =>
        obtain ⟨c', hc', gc⟩ := zL2.get g2 hc
        split at hts
        · next h3 =>
          obtain ⟨fs, rfl, gf, gz⟩ := zg_C0 h3.1 gc
          split at hts
          · next v hv =>
            obtain ⟨v', hv', gv⟩ := zL2.get gf hv
            rw [h3.2] at hc'
            split at hts
            · cases hts
              exact hs hc' hv' (k0 _ (List.mem_singleton.mpr rfl) ρ ph lv _ (zLE.refl ρ) ⟨g1, g2, g3, ⟨gv, gr⟩, g5⟩)
            · cases hts
              obtain ⟨p, hp, ρ', hle, gS, gV⟩ := zwd_g g1 gv
              refine hs hc' hv' (k0 _ (List.mem_map.mpr ⟨p, hp, rfl⟩) ρ' ph lv _ hle ⟨gS, zL2.setL' ?_ _ (zL2.mono (fun _ _ => zg_C.mono hle) g2) hc', zL2.mono (fun _ _ q => ⟨q.1, q.2.mono hle⟩) g3, ⟨gV, zL2.mono (fun _ _ => zg_V.mono hle) gr⟩, g5.mono hle⟩)
              refine Or.inr (Or.inl ⟨rfl, fs, by rw [← h3.2], zL2.setL' gV _ (zL2.mono (fun _ _ => zg_V.mono hle) gf) hv', gz⟩)
          · cases hts
        · cases hts
      · cases hts
    · cases hts
  · cases hts
/-- what may be put into a field: an int (0), a boolean (1), a reference (2) -/
def zx_fit (tc : Nat) (S : zA_S) (v : zA_V) : Bool := if tc = 0 then zIs v else if tc = 1 then (zIs v && (match zr S v with | some q => decide (0 ≤ q.1 ∧ q.2 ≤ 1) | none => false)) else v.1 == 2
theorem zx_fit_g {tc : Nat} {S : zA_S} {v : zA_V} {ρ : List Int} {u : Value} (hS : zg_S ρ S) (g : zg_V ρ v u) (h : zx_fit tc S v = true) : (tc = 0 → ∃ x, u = .int x) ∧ (tc = 1 → u = .int 0 ∨ u = .int 1) ∧ (tc ≠ 0 → tc ≠ 1 → ∃ a, u = .ref a) := by
  unfold zx_fit at h
  refine ⟨fun e => ?_, fun e => ?_, fun e1 e2 => ?_⟩
  · rw [if_pos e] at h
    obtain ⟨x, hx, -⟩ := zg_int h g
    exact ⟨x, hx⟩
  · rw [if_neg (by omega), if_pos e, Bool.and_eq_true] at h
    obtain ⟨x, hx, he⟩ := zg_int h.1 g
    have h2 := h.2
    split at h2
    · next q hq =>
      have := zr_in hS he hq
      have h3 := of_decide_eq_true h2
      rcases (by omega : x.toInt = 0 ∨ x.toInt = 1) with e1 | e1
      · exact Or.inl (by rw [hx, Int32.toInt_inj.mp (show x.toInt = (0 : Int32).toInt from e1)])
      · exact Or.inr (by rw [hx, Int32.toInt_inj.mp (show x.toInt = (1 : Int32).toInt from e1)])
    · cases h2
  · rw [if_neg e1, if_neg e2] at h
    exact ⟨_, zg_ref (by simpa using h) g⟩
def zx_put (k ci tc nx : Nat) (t : zA_T) : zA_R := match t.2.2.2.1 with
  | v0 :: a :: r => if a.1 = 2 ∧ 3 ≤ a.2.toNat then (match t.2.1[a.2.toNat - 3]? with
      | some c => if c.1 = 0 ∧ c.2.1 = ci ∧ k < c.2.2.2.1.length ∧ zx_fit tc t.1 v0 = true then
          some [(nx, zt_H t (t.2.1.set (a.2.toNat - 3) (0, ci, 0, c.2.2.2.1.set k (zn t.1 v0), c.2.2.2.2.filter (fun q => !(Nat.beq q.1 k)))) r)] else none
      | none => none) else none
  | _ => none
theorem zo_put {k ci tc pc nx : Nat} {t : zA_T} (hs : ∀ {lv st ph cc ns} {i : Nat} {fs : List Value} {v : Value}, ph[i]? = some (.inr (ci, fs)) → k < fs.length → (tc = 0 → ∃ x, v = .int x) → (tc = 1 → v = .int 0 ∨ v = .int 1) → (tc ≠ 0 → tc ≠ 1 → ∃ a, v = .ref a) → ZW l d y X mc ms Q nx lv st (ph.set i (.inr (ci, fs.set k v))) cc ns → ZW l d y X mc ms Q pc lv (v :: .ref (i + 3) :: st) ph cc ns) : zSd l d y X mc ms XL φ Q pc t (zx_put k ci tc nx t) := by
  obtain ⟨S, H, L, s0, cc, ns⟩ := t
  intro ts hts ρ ph lv st g k0
  obtain ⟨g1, g2, g3, g4, g5⟩ := g
  unfold zx_put at hts
  split at hts
  · next v0 a r hst =>
    have hst : s0 = v0 :: a :: r := hst
    subst hst
    obtain ⟨vv, st0, rfl, gv, gr0⟩ := zL2.cons1 g4
    obtain ⟨va, st1, rfl, ga, gr⟩ := zL2.cons1 gr0
    split at hts
    · next h2 =>
      have ea := zg_ref h2.1 ga
      subst ea
      rw [z_back3 h2.2]
      split at hts
      · next c hc =>
        obtain ⟨c', hc', gc⟩ := zL2.get g2 hc
        split at hts
        · next h3 =>
          obtain ⟨fs, rfl, gf, gz⟩ := zg_C0 h3.1 gc
          cases hts
          rw [h3.2.1] at hc'
          obtain ⟨f1, f2, f3⟩ := zx_fit_g g1 gv h3.2.2.2
          refine hs hc' (by rw [← zL2.len gf]; exact h3.2.2.1) f1 f2 f3 (k0 _ (List.mem_singleton.mpr rfl) ρ _ lv _ (zLE.refl ρ) ⟨g1, zL2.set ?_ _ g2, g3, gr, g5⟩)
          refine Or.inr (Or.inl ⟨rfl, _, rfl, zL2.set (zn_g g1 gv) _ gf, fun q hq => ?_⟩)
          obtain ⟨m1, m2⟩ := List.mem_filter.mp hq
          obtain ⟨z1, n, gs, z2, z3⟩ := gz q m1
          refine ⟨z1, n, gs, z2, ?_⟩
          have hne : k ≠ q.1 := fun e => by
            rw [e] at m2
            simp at m2
          rw [List.getElem?_set_ne hne]
          exact z3
        · cases hts
      · cases hts
    · cases hts
  · cases hts
/-- one place of an array that is known -/
def zx_el (c : zA_C) (j : Nat) : zA_V := (c.2.2.2.2.lookup j).getD (c.2.2.2.1.headD (3, 0))
def zx_tbN (i : Nat) : Nat := if i = 0 then 32 else 8
def zx_tbG (i : Nat) : List Int32 := if i = 0 then zs_own else zs_abv
def zx_aldW (nx : Nat) (t : zA_T) (r : List zA_V) (v : zA_V) : zA_R := if v.1 < 6 then some [(nx, zt_st t (v :: r))] else some ((zwd t.1 v).map (fun p => (nx, zt_Sst t p.1 (p.2 :: r))))
/-- nothing but places that names tell -/
def znc (ov : List (Nat × zA_V)) : Bool := ov.all (fun q => Nat.ble 1000000 q.1)
theorem znc_look {ov : List (Nat × zA_V)} (h : znc ov = true) {j : Nat} (hj : j < 1000000) : ov.lookup j = none := by
  induction ov with
  | nil => rfl
  | cons q r ih =>
    obtain ⟨k, v⟩ := q
    have h2 : Nat.ble 1000000 k = true ∧ znc r = true := by
      unfold znc at h ⊢
      rw [List.all_cons, Bool.and_eq_true] at h
      exact h
    have h3 := Nat.le_of_ble_eq_true h2.1
    rw [List.lookup_cons]
    have hk : (j == k) = false := by
      rw [beq_eq_false_iff_ne]
      omega
    rw [hk]
    exact ih h2.2
/-- no place of these bounds that is told by a number -/
def zncr (q : zI2) (ov : List (Nat × zA_V)) : Bool := ov.all (fun e => Nat.ble 1000000 e.1 || (decide ((e.1 : Int) < q.1) || decide (q.2 < (e.1 : Int))))
theorem zncr_look {q : zI2} {ov : List (Nat × zA_V)} (h : zncr q ov = true) {j : Nat} (hj : j < 1000000) (h1 : q.1 ≤ (j : Int)) (h2 : (j : Int) ≤ q.2) : ov.lookup j = none := by
  induction ov with
  | nil => rfl
  | cons e r ih =>
    obtain ⟨k, v⟩ := e
    have h' : (Nat.ble 1000000 k || (decide ((k : Int) < q.1) || decide (q.2 < (k : Int)))) = true ∧ zncr q r = true := by
      unfold zncr at h ⊢
      rw [List.all_cons, Bool.and_eq_true] at h
      exact h
    rw [List.lookup_cons]
    have hk : (j == k) = false := by
      rw [beq_eq_false_iff_ne]
      have h3 := h'.1
      rw [Bool.or_eq_true, Bool.or_eq_true] at h3
      rcases h3 with h3 | h3 | h3
      · have := Nat.le_of_ble_eq_true h3
        omega
      · have := of_decide_eq_true h3
        omega
      · have := of_decide_eq_true h3
        omega
    rw [hk]
    exact ih h'.2
def zcst (q : Nat × zA_V) : Bool := !(Nat.ble 1000000 q.1)
theorem zcst_look (l : List (Nat × zA_V)) {i : Nat} (hi : i < 1000000) : (l.filter zcst).lookup i = l.lookup i := by
  induction l with
  | nil => rfl
  | cons a r ih =>
    obtain ⟨k, v⟩ := a
    rw [List.filter_cons]
    by_cases hz : zcst (k, v) = true
    · rw [if_pos hz, List.lookup_cons, List.lookup_cons, ih]
    · rw [if_neg hz, ih, List.lookup_cons]
      have hk : (i == k) = false := by
        rw [beq_eq_false_iff_ne]
        intro e
        subst e
        apply hz
        unfold zcst
        cases hb : Nat.ble 1000000 i with
        | false => rfl
        | true => have := Nat.le_of_ble_eq_true hb; omega
      rw [hk]
/-- what a place that the name k tells holds, named, and kept in mind -/
def zx_aldK (nx : Nat) (t : zA_T) (r : List zA_V) (i k : Nat) (c : zA_C) (v : zA_V) : zA_R := if v.1 < 6 then some [(nx, zt_st t (v :: r))] else
  some ((zwd t.1 v).map (fun p => (nx, (p.1, t.2.1.set i (1, c.2.1, c.2.2.1, c.2.2.2.1, (1000000 + k, p.2) :: c.2.2.2.2), t.2.2.1, p.2 :: r, t.2.2.2.2))))
theorem z_look_in {l : List (Nat × zA_V)} {j : Nat} {a : zA_V} (h : l.lookup j = some a) : (j, a) ∈ l := by
  induction l with
  | nil => cases h
  | cons q r ih =>
    obtain ⟨k, v⟩ := q
    rw [List.lookup_cons] at h
    cases hjk : j == k with
    | true =>
      rw [hjk] at h
      cases h
      rw [eq_of_beq hjk]
      exact List.mem_cons_self
    | false =>
      rw [hjk] at h
      exact List.mem_cons_of_mem _ (ih h)
/-- a place told by a name stays told by it where the array is wide -/
def zjn (S : zA_S) (H : zA_H) (a j0 : zA_V) : zA_V := if j0.1 = 1 ∧ 3 ≤ a.2.toNat then (match H[a.2.toNat - 3]? with
  | none => zn S j0
  | some c => if c.1 = 1 ∧ 6 ≤ (c.2.2.2.1.headD (3, 0)).1 ∧ c.2.2.2.2.all (fun q => Nat.ble 1000000 q.1) = true then j0 else zn S j0) else zn S j0
theorem zjn_g {ρ : List Int} {S : zA_S} {H : zA_H} {a j0 : zA_V} {v : Value} (hS : zg_S ρ S) (g : zg_V ρ j0 v) : zg_V ρ (zjn S H a j0) v := by
  unfold zjn
  split
  · split
    · exact zn_g hS g
    · split
      · exact g
      · exact zn_g hS g
  · exact zn_g hS g
def zx_ald (XL ty nx pc : Nat) (t : zA_T) : zA_R := match t.2.2.2.1 with
  | j0 :: a :: r => let j := zjn t.1 t.2.1 a j0
    if a.1 = 2 ∧ zIs j = true then
      if 3 ≤ a.2.toNat then (match t.2.1[a.2.toNat - 3]?, zrx t.1 j with
        | some c, some q => if c.1 = 1 ∧ c.2.1 = ty ∧ 0 ≤ q.1 ∧ q.2 < c.2.2.1 then
            (if j.1 = 0 then zx_aldW nx t r (zx_el c j.2.toNat) else if zncr q c.2.2.2.2 = true ∧ c.2.2.1 ≤ 1000000 then (match c.2.2.2.2.lookup (1000000 + j.2.toNat) with
              | some v => zx_aldW nx t r v
              | none => zx_aldK nx t r (a.2.toNat - 3) j.2.toNat c (c.2.2.2.1.headD (3, 0)))
              else zx_again pc t (zSp t.1 j)) else none
        | _, _ => none)
      else if ty = 0 then
        if a.2.toNat = 2 then (if j.1 = 0 ∧ 0 ≤ j.2 ∧ j.2 < XL ∧ XL < 1000 then some [(nx, zt_st t ((1, j.2) :: r))]
          else if XL = 3000000 ∧ j.1 = 1 then (if j.2 = 6 then some [(nx, zt_st t ((1, 0) :: r))] else (match t.1[j.2.toNat]? with
            | some q => if q.2.2.1 = 10 ∧ q.2.2.2.1 = (1, 6) ∧ q.2.2.2.2.1 = 0 ∧ 1 ≤ q.2.2.2.2.2 ∧ q.2.2.2.2.2 ≤ 5 then some [(nx, zt_st t ((1, q.2.2.2.2.2) :: r))] else none
            | none => none)) else none)
        else if j.1 = 0 then (if 0 ≤ j.2 ∧ j.2 < zx_tbN a.2.toNat then some [(nx, zt_st t ((0, ((zx_tbG a.2.toNat).getD j.2.toNat 0).toInt) :: r))] else none)
        else zx_again pc t (zSp t.1 j)
      else none
    else none
  | _ => none
theorem zo_ald {ty pc nx : Nat} {t : zA_T} (hty : ty < 3)
    (hI : ∀ {lv st ph cc ns} {i n : Nat} {f : Nat → Int32} {j : Int32}, ty = 0 → ph[i]? = some (.inl (0, n, z_I f)) → vp_in j n → ZW l d y X mc ms Q nx lv (.int (f j.toNatClampNeg) :: st) ph cc ns → ZW l d y X mc ms Q pc lv (.int j :: .ref (i + 3) :: st) ph cc ns)
    (hJ : ∀ {lv st ph cc ns} {i n : Nat} {f : Nat → Int64} {j : Int32}, ty = 1 → ph[i]? = some (.inl (1, n, z_J f)) → vp_in j n → ZW l d y X mc ms Q nx lv (.long (f j.toNatClampNeg) :: st) ph cc ns → ZW l d y X mc ms Q pc lv (.int j :: .ref (i + 3) :: st) ph cc ns)
    (hO : ∀ {lv st ph cc ns} {i n : Nat} {f : Nat → Option Nat} {j : Int32}, ty = 2 → ph[i]? = some (.inl (2, n, z_O f)) → vp_in j n → ZW l d y X mc ms Q nx lv (z_rf (f j.toNatClampNeg) :: st) ph cc ns → ZW l d y X mc ms Q pc lv (.int j :: .ref (i + 3) :: st) ph cc ns)
    (hT : ∀ {lv st ph cc ns} {i n : Nat} {g : List Int32} {j : Int32}, ty = 0 → (i = 0 ∧ n = 32 ∧ g = zs_own ∨ i = 1 ∧ n = 8 ∧ g = zs_abv) → vp_in j n → ZW l d y X mc ms Q nx lv (.int (g.getD j.toNatClampNeg 0) :: st) ph cc ns → ZW l d y X mc ms Q pc lv (.int j :: .ref i :: st) ph cc ns)
    (hX : ∀ {lv st ph cc ns} {j : Int32}, ty = 0 → vp_in j X.1 → ZW l d y X mc ms Q nx lv (.int (X.2 j.toNatClampNeg) :: st) ph cc ns → ZW l d y X mc ms Q pc lv (.int j :: .ref 2 :: st) ph cc ns) :
    zSd l d y X mc ms XL φ Q pc t (zx_ald XL ty nx pc t) := by
  obtain ⟨S, H, L, s0, cc, ns⟩ := t
  intro ts hts ρ ph lv st g k0
  have gT := g
  obtain ⟨g1, g2, g3, g4, g5⟩ := g
  unfold zx_ald at hts
  split at hts
  · next j0 a r hst =>
    have hst : s0 = j0 :: a :: r := hst
    subst hst
    obtain ⟨vj, st0, rfl, gj0, gr0⟩ := zL2.cons1 g4
    obtain ⟨va, st1, rfl, ga, gr⟩ := zL2.cons1 gr0
    have gj := zjn_g (H := H) (a := a) g1 gj0
    dsimp only at hts
    generalize hej : zjn S H a j0 = j at *
    split at hts
    · next hI0 =>
      have ea := zg_ref hI0.1 ga
      subst ea
      obtain ⟨x, rfl, ex⟩ := zg_int hI0.2 gj
      split at hts
      · next h3 =>
        rw [z_back3 h3] at *
        split at hts
        · next c q hc hq =>
          obtain ⟨c', hc', gc⟩ := zL2.get g2 hc
          have bq := zrx_in g1 ex hq
          split at hts
          · next h4 =>
            obtain ⟨c1, c2, c3, c4⟩ := h4
            have hin : vp_in x c.2.2.1 := vp_in_iff.mpr ⟨by omega, by omega⟩
            have hjl : x.toNatClampNeg < c.2.2.1 := z_in_lt hin
            have fin : ∀ (v : zA_V), (∀ u, zg_V ρ (zx_el c x.toNatClampNeg) u → zg_V ρ v u) → zx_aldW nx (S, H, L, j0 :: a :: r, cc, ns) r v = some ts → ZW l d y X mc ms Q pc lv (.int x :: .ref (a.2.toNat - 3 + 3) :: st1) ph cc ns := by
              intro v hv e
              have go : ∀ u, zg_V ρ v u → ZW l d y X mc ms Q nx lv (u :: st1) ph cc ns := by
                intro u gu
                unfold zx_aldW at e
                split at e
                · cases e
                  exact k0 _ (List.mem_singleton.mpr rfl) ρ ph lv _ (zLE.refl ρ) ⟨g1, g2, g3, ⟨gu, gr⟩, g5⟩
                · cases e
                  obtain ⟨p, hp, ρ', hle, gS, gV⟩ := zwd_g g1 gu
                  exact k0 _ (List.mem_map.mpr ⟨p, hp, rfl⟩) ρ' ph lv _ hle ⟨gS, zL2.mono (fun _ _ => zg_C.mono hle) g2, zL2.mono (fun _ _ q => ⟨q.1, q.2.mono hle⟩) g3, ⟨gV, zL2.mono (fun _ _ => zg_V.mono hle) gr⟩, g5.mono hle⟩
              rcases (by omega : ty = 0 ∨ ty = 1 ∨ ty = 2) with e | e | e
              · obtain ⟨f, rfl, gf, -⟩ := zg_CI c1 (c2.trans e) gc
                exact hI e hc' hin (go _ (hv _ (gf _ hjl)))
              · obtain ⟨f, rfl, gf, -⟩ := zg_CJ c1 (c2.trans e) gc
                exact hJ e hc' hin (go _ (hv _ (gf _ hjl)))
              · obtain ⟨f, rfl, gf, -⟩ := zg_CO c1 (c2.trans e) gc
                exact hO e hc' hin (go _ (hv _ (gf _ hjl)))
            split at hts
            · next hj0 =>
              have hx : x.toInt = j.2 := by rcases ex with ⟨-, e⟩ | ⟨e, -⟩ <;> omega
              have hxn : x.toNatClampNeg = j.2.toNat := by show x.toInt.toNat = _; rw [hx]
              exact fin _ (fun u gu => by rw [hxn] at gu; exact gu) hts
            · split at hts
              · next hov =>
                obtain ⟨hnc, hlen⟩ := hov
                have hbase : ∀ u, zg_V ρ (zx_el c x.toNatClampNeg) u → zg_V ρ (c.2.2.2.1.headD (3, 0)) u := by
                  intro u gu
                  unfold zx_el at gu
                  have hxn : (x.toNatClampNeg : Int) = x.toInt := by show ((x.toInt.toNat : Nat) : Int) = _; omega
                  rw [zncr_look hnc (by omega) (by omega) (by omega)] at gu
                  exact gu
                have ek : ρ[j.2.toNat]? = some x.toInt := by
                  rcases ex with ⟨h | h, e⟩ | ⟨-, e⟩
                  · next hj0 => exact absurd h hj0
                  · have := hI0.2
                    simp only [zIs, Bool.or_eq_true, beq_iff_eq] at this
                    omega
                  · exact e
                split at hts
                · next v hv =>
                  have hm := z_look_in hv
                  have go : ∀ {el : Nat → Value}, zg_Y ρ c.2.2.1 c.2.2.2.2 el → zg_V ρ v (el x.toNatClampNeg) := by
                    intro el gy
                    obtain ⟨m, h1, h2⟩ := gy _ hm (Nat.le_add_right _ _)
                    have h1 : ρ[1000000 + j.2.toNat - 1000000]? = some m := h1
                    rw [Nat.add_sub_cancel_left, ek] at h1
                    cases h1
                    exact h2 (by omega) (by omega)
                  have fin2 : ∀ u, zg_V ρ v u → ZW l d y X mc ms Q nx lv (u :: st1) ph cc ns := by
                    intro u gu
                    unfold zx_aldW at hts
                    split at hts
                    · cases hts
                      exact k0 _ (List.mem_singleton.mpr rfl) ρ ph lv _ (zLE.refl ρ) ⟨g1, g2, g3, ⟨gu, gr⟩, g5⟩
                    · cases hts
                      obtain ⟨p, hp, ρ', hle, gS, gV⟩ := zwd_g g1 gu
                      exact k0 _ (List.mem_map.mpr ⟨p, hp, rfl⟩) ρ' ph lv _ hle ⟨gS, zL2.mono (fun _ _ => zg_C.mono hle) g2, zL2.mono (fun _ _ q => ⟨q.1, q.2.mono hle⟩) g3, ⟨gV, zL2.mono (fun _ _ => zg_V.mono hle) gr⟩, g5.mono hle⟩
                  rcases (by omega : ty = 0 ∨ ty = 1 ∨ ty = 2) with e | e | e
                  · obtain ⟨f, rfl, -, gy⟩ := zg_CI c1 (c2.trans e) gc
                    exact hI e hc' hin (fin2 _ (go gy))
                  · obtain ⟨f, rfl, -, gy⟩ := zg_CJ c1 (c2.trans e) gc
                    exact hJ e hc' hin (fin2 _ (go gy))
                  · obtain ⟨f, rfl, -, gy⟩ := zg_CO c1 (c2.trans e) gc
                    exact hO e hc' hin (fin2 _ (go gy))
                · unfold zx_aldK at hts
                  split at hts
                  · next h6 => exact fin _ hbase (by unfold zx_aldW; rw [if_pos h6]; exact hts)
                  · cases hts
                    have go : ∀ {c0 : z_C} {el : Nat → Value}, ph[a.2.toNat - 3]? = some c0 → zg_V ρ (c.2.2.2.1.headD (3, 0)) (el x.toNatClampNeg) →
                        (∀ (ρ' : List Int) (p : zA_V), zLE ρ ρ' → zg_V ρ' p (el x.toNatClampNeg) → zg_C φ ρ' (1, c.2.1, c.2.2.1, c.2.2.2.1, (1000000 + j.2.toNat, p) :: c.2.2.2.2) c0) → ZW l d y X mc ms Q nx lv (el x.toNatClampNeg :: st1) ph cc ns := by
                      intro c0 el hc0 gu hcell
                      obtain ⟨p, hp, ρ', hle, gS, gV⟩ := zwd_g g1 gu
                      exact k0 _ (List.mem_map.mpr ⟨p, hp, rfl⟩) ρ' ph lv _ hle ⟨gS, zL2.setL' (hcell ρ' p.2 hle gV) _ (zL2.mono (fun _ _ => zg_C.mono hle) g2) hc0, zL2.mono (fun _ _ q => ⟨q.1, q.2.mono hle⟩) g3, ⟨gV, zL2.mono (fun _ _ => zg_V.mono hle) gr⟩, g5.mono hle⟩
                    have lk : ∀ (p : zA_V) (i : Nat), i < c.2.2.1 → ((1000000 + j.2.toNat, p) :: c.2.2.2.2).lookup i = c.2.2.2.2.lookup i := by
                      intro p i hi
                      rw [List.lookup_cons]
                      have : (i == 1000000 + j.2.toNat) = false := by
                        rw [beq_eq_false_iff_ne]
                        omega
                      rw [this]
                    have gY : ∀ {el : Nat → Value} (ρ' : List Int) (p : zA_V), zLE ρ ρ' → zg_V ρ' p (el x.toNatClampNeg) → zg_Y ρ c.2.2.1 c.2.2.2.2 el → zg_Y ρ' c.2.2.1 ((1000000 + j.2.toNat, p) :: c.2.2.2.2) el := by
                      intro el ρ' p hle gp gy q hq hk
                      rcases List.mem_cons.mp hq with rfl | hq
                      · refine ⟨x.toInt, ?_, fun _ _ => gp⟩
                        show ρ'[1000000 + j.2.toNat - 1000000]? = _
                        rw [Nat.add_sub_cancel_left]
                        exact hle _ _ ek
                      · exact (gy.mono hle) q hq hk
                    rcases (by omega : ty = 0 ∨ ty = 1 ∨ ty = 2) with e | e | e
                    · obtain ⟨f, rfl, gf, gy⟩ := zg_CI c1 (c2.trans e) gc
                      exact hI e hc' hin (go (el := fun j => .int (f j)) hc' (hbase _ (gf _ hjl)) (fun ρ' p hle gp => Or.inr (Or.inr (Or.inl ⟨rfl, c2.trans e, f, rfl, fun i hi => by rw [lk p i hi]; exact (gf i hi).mono hle, gY ρ' p hle gp gy⟩))))
                    · obtain ⟨f, rfl, gf, gy⟩ := zg_CJ c1 (c2.trans e) gc
                      exact hJ e hc' hin (go (el := fun j => .long (f j)) hc' (hbase _ (gf _ hjl)) (fun ρ' p hle gp => Or.inr (Or.inr (Or.inr (Or.inl ⟨rfl, c2.trans e, f, rfl, fun i hi => by rw [lk p i hi]; exact (gf i hi).mono hle, gY ρ' p hle gp gy⟩)))))
                    · obtain ⟨f, rfl, gf, gy⟩ := zg_CO c1 (c2.trans e) gc
                      exact hO e hc' hin (go (el := fun j => z_rf (f j)) hc' (hbase _ (gf _ hjl)) (fun ρ' p hle gp => Or.inr (Or.inr (Or.inr (Or.inr ⟨rfl, c2.trans e, f, rfl, fun i hi => by rw [lk p i hi]; exact (gf i hi).mono hle, gY ρ' p hle gp gy⟩)))))
              · obtain ⟨t', m, gt, e⟩ := zx_again_g hts rfl gT ex
                have := k0 _ m ρ ph lv _ (zLE.refl ρ) gt
                rw [e] at this
                exact this
          · cases hts
        · cases hts
      · next h3 =>
        split at hts
        · next hty0 =>
          split at hts
          · next h5 =>
            split at hts
            · next h6 =>
              cases hts
              have hx : x.toInt = j.2 := by rcases ex with ⟨-, e⟩ | ⟨e, -⟩ <;> omega
              have hxn : x.toNatClampNeg = j.2.toNat := by show x.toInt.toNat = _; rw [hx]
              rw [h5]
              refine hX hty0 (vp_in_iff.mpr ⟨by omega, by rw [(g5.1 h6.2.2.2).1]; omega⟩) (k0 _ (List.mem_singleton.mpr rfl) ρ ph lv _ (zLE.refl ρ) ⟨g1, g2, g3, ⟨?_, gr⟩, g5⟩)
              rw [hxn]
              exact Or.inr (Or.inl ⟨rfl, _, rfl, (g5.1 h6.2.2.2).2 _ (by omega)⟩)
            · split at hts
              · next h7 =>
                obtain ⟨i0, u1, u2, u3, u4⟩ := g5.2 h7.1
                have ek : ρ[j.2.toNat]? = some x.toInt := by
                  rcases ex with ⟨h | h, e⟩ | ⟨-, e⟩
                  · omega
                  · omega
                  · exact e
                rw [h5]
                have go : ∀ k : Nat, k < 6 → x.toInt = (i0 : Int) + (k : Int) → ZW l d y X mc ms Q nx lv (.int (X.2 x.toNatClampNeg) :: st1) ph cc ns → ZW l d y X mc ms Q pc lv (.int x :: .ref 2 :: st1) ph cc ns := by
                  intro k hk hx kk
                  exact hX hty0 (vp_in_iff.mpr ⟨by omega, by omega⟩) kk
                split at hts
                · next h8 =>
                  cases hts
                  rw [h8] at ek
                  have e6 : x.toInt = (i0 : Int) := by
                    have := ek.symm.trans u1
                    exact Option.some.inj this
                  refine go 0 (by decide) (by omega) (k0 _ (List.mem_singleton.mpr rfl) ρ ph lv _ (zLE.refl ρ) ⟨g1, g2, g3, ⟨?_, gr⟩, g5⟩)
                  have hxn : x.toNatClampNeg = i0 + 0 := by show x.toInt.toNat = _; omega
                  rw [hxn]
                  exact Or.inr (Or.inl ⟨rfl, _, rfl, u4 0 (by decide)⟩)
                · split at hts
                  · next q hq =>
                    split at hts
                    · next h9 =>
                      cases hts
                      obtain ⟨v1, v2, v3, v4, v5⟩ := h9
                      obtain ⟨n, e1, e2⟩ := zL2.getR g1 hq
                      rw [ek] at e1
                      cases e1
                      rcases e2.2.2 with h0 | ⟨a1, b1, w1, w2, w3⟩
                      · omega
                      · rw [v2] at w1
                        have ea : a1 = (i0 : Int) := zE_fun w1 (Or.inr ⟨Or.inl rfl, u1⟩)
                        have eb : b1 = q.2.2.2.2.2 := by
                          rcases w2 with ⟨-, e⟩ | ⟨e, -⟩
                          · exact e
                          · omega
                        have hsum : x.toInt = (i0 : Int) + q.2.2.2.2.2 := by
                          rw [w3, v1, ea, eb]
                          show zw32 _ = _
                          unfold zw32
                          rw [if_pos (by omega)]
                        refine go q.2.2.2.2.2.toNat (by omega) (by omega) (k0 _ (List.mem_singleton.mpr rfl) ρ ph lv _ (zLE.refl ρ) ⟨g1, g2, g3, ⟨?_, gr⟩, g5⟩)
                        have hxn : x.toNatClampNeg = i0 + q.2.2.2.2.2.toNat := by show x.toInt.toNat = _; omega
                        rw [hxn]
                        exact Or.inr (Or.inl ⟨rfl, _, rfl, u4 _ (by omega)⟩)
                    · cases hts
                  · cases hts
              · cases hts
          · next h5 =>
            split at hts
            · next hj0 =>
              have hx : x.toInt = j.2 := by rcases ex with ⟨-, e⟩ | ⟨e, -⟩ <;> omega
              have hxn : x.toNatClampNeg = j.2.toNat := by show x.toInt.toNat = _; rw [hx]
              split at hts
              · next h6 =>
                cases hts
                have hcase : a.2.toNat = 0 ∧ zx_tbN a.2.toNat = 32 ∧ zx_tbG a.2.toNat = zs_own ∨ a.2.toNat = 1 ∧ zx_tbN a.2.toNat = 8 ∧ zx_tbG a.2.toNat = zs_abv := by
                  unfold zx_tbN zx_tbG
                  rcases (by omega : a.2.toNat = 0 ∨ a.2.toNat = 1) with e | e
                  · exact Or.inl ⟨e, by rw [if_pos e], by rw [if_pos e]⟩
                  · exact Or.inr ⟨e, by rw [if_neg (by omega)], by rw [if_neg (by omega)]⟩
                refine hT (n := zx_tbN a.2.toNat) (g := zx_tbG a.2.toNat) hty0 hcase (vp_in_iff.mpr ⟨by omega, by rw [hx]; exact h6.2⟩) (k0 _ (List.mem_singleton.mpr rfl) ρ ph lv _ (zLE.refl ρ) ⟨g1, g2, g3, ⟨zg_ofI ?_, gr⟩, g5⟩)
                rw [hxn]
              · cases hts
            · obtain ⟨t', m, gt, e⟩ := zx_again_g hts rfl gT ex
              have := k0 _ m ρ ph lv _ (zLE.refl ρ) gt
              rw [e] at this
              exact this
        · cases hts
    · cases hts
  · cases hts
/-- a place of an array is written -/
def zkeep (j : Nat) (q : Nat × zA_V) : Bool := !(q.1 == j) && !(Nat.ble 1000000 q.1)
def zx_wr (c : zA_C) (j : Nat) (v : zA_V) : zA_C := (1, c.2.1, c.2.2.1, c.2.2.2.1, (if v = c.2.2.2.1.headD (3, 0) then c.2.2.2.2.filter (zkeep j) else (j, v) :: c.2.2.2.2.filter (zkeep j)))
theorem z_look_k (l : List (Nat × zA_V)) (j i : Nat) (hi : i < 1000000) : (l.filter (zkeep j)).lookup i = if i = j then none else l.lookup i := by
  induction l with
  | nil => simp
  | cons a r ih =>
    obtain ⟨k, v⟩ := a
    rw [List.filter_cons]
    by_cases hz : zkeep j (k, v) = true
    · rw [if_pos hz, List.lookup_cons, List.lookup_cons, ih]
      by_cases hik : i = k
      · subst hik
        have : ¬ i = j := by
          simp only [zkeep, Bool.and_eq_true, Bool.not_eq_true', beq_eq_false_iff_ne, ne_eq] at hz
          exact hz.1
        simp [this]
      · have h2 : (i == k) = false := by simpa using hik
        simp [h2]
    · rw [if_neg hz, ih, List.lookup_cons]
      by_cases hik : i = k
      · subst hik
        have hij : i = j := by
          simp only [zkeep, Bool.and_eq_true, Bool.not_eq_true', beq_eq_false_iff_ne, ne_eq, not_and] at hz
          refine Classical.byContradiction (fun q => ?_)
          have h3 := hz q
          have h4 : Nat.ble 1000000 i = false := by
            cases hb : Nat.ble 1000000 i with
            | false => rfl
            | true => have := Nat.le_of_ble_eq_true hb; omega
          exact h3 h4
        simp [hij]
      · have h2 : (i == k) = false := by simpa using hik
        simp [h2]
theorem zx_wr_Y (c : zA_C) {j : Nat} (hj : j < 1000000) (v : zA_V) (ρ : List Int) (n : Nat) (el : Nat → Value) : zg_Y ρ n (zx_wr c j v).2.2.2.2 el := by
  intro q hq hk
  have key : q ∈ c.2.2.2.2.filter (zkeep j) → False := by
    intro h
    have := (List.mem_filter.mp h).2
    simp only [zkeep, Bool.and_eq_true, Bool.not_eq_true'] at this
    rw [Nat.ble_eq_true_of_le hk] at this
    exact absurd this.2 (by decide)
  have hq : q ∈ (if v = c.2.2.2.1.headD (3, 0) then c.2.2.2.2.filter (zkeep j) else (j, v) :: c.2.2.2.2.filter (zkeep j)) := hq
  split at hq
  · exact (key hq).elim
  · rcases List.mem_cons.mp hq with rfl | hq
    · have hk : 1000000 ≤ j := hk
      omega
    · exact (key hq).elim
theorem z_look_f (l : List (Nat × zA_V)) (j i : Nat) : (l.filter (fun q => !(q.1 == j))).lookup i = if i = j then none else l.lookup i := by
  induction l with
  | nil => simp
  | cons a r ih =>
    obtain ⟨k, v⟩ := a
    rw [List.filter_cons]
    by_cases hkj : k = j
    · subst hkj
      simp only [beq_self_eq_true, Bool.not_true, Bool.false_eq_true, if_false]
      rw [ih, List.lookup_cons]
      by_cases hik : i = k
      · simp [hik]
      · have : (i == k) = false := by simpa using hik
        simp [hik, this]
    · have h1 : (k == j) = false := by simpa using hkj
      simp only [h1, Bool.not_false, if_true]
      rw [List.lookup_cons, List.lookup_cons, ih]
      by_cases hik : i = k
      · have : ¬ i = j := fun e => hkj (hik.symm.trans e)
        simp [hik, hkj]
      · have h2 : (i == k) = false := by simpa using hik
        simp [h2]
theorem zx_wr_el (c : zA_C) (j i : Nat) (v : zA_V) (hi : i < 1000000) : zx_el (zx_wr c j v) i = if i = j then v else zx_el c i := by
  unfold zx_el zx_wr
  dsimp only
  split
  · next h =>
    rw [z_look_k _ _ _ hi]
    split
    · rw [Option.getD_none, h]
    · rfl
  · next h =>
    rw [List.lookup_cons]
    by_cases hij : i = j
    · subst hij
      simp
    · have : (i == j) = false := by simpa using hij
      rw [this, if_neg hij]
      simp only [z_look_k _ _ _ hi, if_neg hij]
/-- a value that the place stands for already -/
def zsm (S : zA_S) (v w : zA_V) : Bool := if w.1 < 6 then decide (zn S v = w) else zfw S v w
theorem zsm_g {ρ : List Int} {S : zA_S} {v w : zA_V} {u : Value} (hS : zg_S ρ S) (g : zg_V ρ v u) (h : zsm S v w = true) : zg_V ρ w u := by
  unfold zsm at h
  split at h
  · have e := of_decide_eq_true h
    rw [← e]
    exact zn_g hS g
  · exact zfw_g hS g (by omega) h
theorem zL2.setR' {α β : Type} {R : α → β → Prop} {a : α} {b : β} (hab : R a b) : ∀ {as : List α} {bs : List β} (i : Nat), zL2 R as bs → as[i]? = some a → zL2 R as (bs.set i b)
  | [], [], _, _, _ => trivial
  | _ :: _, _ :: _, 0, h, ha => by cases ha; exact ⟨hab, h.2⟩
  | _ :: _, _ :: _, i + 1, h, ha => ⟨h.1, zL2.setR' hab i h.2 ha⟩
  | [], _ :: _, _, h, _ => h.elim
  | _ :: _, [], _, h, _ => h.elim
def zx_ast (ty nx pc : Nat) (t : zA_T) : zA_R := match t.2.2.2.1 with
  | v0 :: j0 :: a :: r => let j := zn t.1 j0
    if a.1 = 2 ∧ zIs j = true ∧ 3 ≤ a.2.toNat ∧ zx_ty ty v0 = true then
      (match t.2.1[a.2.toNat - 3]?, zrx t.1 j with
        | some c, some q => if c.1 = 1 ∧ c.2.1 = ty ∧ 0 ≤ q.1 ∧ q.2 < c.2.2.1 then
            (if ty < 2 ∧ zncr q c.2.2.2.2 = true ∧ c.2.2.1 ≤ 1000000 ∧ zsm t.1 v0 (c.2.2.2.1.headD (3, 0)) = true then
                some [(nx, zt_H t (t.2.1.set (a.2.toNat - 3) (1, ty, c.2.2.1, c.2.2.2.1, (if j.1 = 1 ∧ 6 ≤ (c.2.2.2.1.headD (3, 0)).1 then [(1000000 + j.2.toNat, zn t.1 v0)] else []) ++ c.2.2.2.2.filter zcst)) r)] else if ¬ c.2.2.1 ≤ 1000000 then none else if j.1 = 0 then
              (if ty = 2 then (if 3 ≤ v0.2.toNat then (match t.2.1[v0.2.toNat - 3]? with
                  | some e => if e.1 = 0 ∧ e.2.1 = 10 then some [(nx, zt_H t (t.2.1.set (a.2.toNat - 3) (zx_wr c j.2.toNat (zn t.1 v0))) r)] else none
                  | none => none) else none)
                else some [(nx, zt_H t (t.2.1.set (a.2.toNat - 3) (zx_wr c j.2.toNat (zn t.1 v0))) r)])
              else zx_again pc t (zSp t.1 j)) else none
        | _, _ => none)
    else none
  | _ => none
theorem zo_ast {ty pc nx : Nat} {t : zA_T} (hty : ty < 3)
    (hI : ∀ {lv st ph cc ns} {i n : Nat} {f : Nat → Int32} {j x : Int32}, ty = 0 → ph[i]? = some (.inl (0, n, z_I f)) → vp_in j n → ZW l d y X mc ms Q nx lv st (ph.set i (.inl (0, n, z_I (upd f j.toNatClampNeg x)))) cc ns → ZW l d y X mc ms Q pc lv (.int x :: .int j :: .ref (i + 3) :: st) ph cc ns)
    (hJ : ∀ {lv st ph cc ns} {i n : Nat} {f : Nat → Int64} {j : Int32} {x : Int64}, ty = 1 → ph[i]? = some (.inl (1, n, z_J f)) → vp_in j n → ZW l d y X mc ms Q nx lv st (ph.set i (.inl (1, n, z_J (vp_updL f j.toNatClampNeg x)))) cc ns → ZW l d y X mc ms Q pc lv (.long x :: .int j :: .ref (i + 3) :: st) ph cc ns)
    (hO : ∀ {lv st ph cc ns} {i n q : Nat} {f : Nat → Option Nat} {j : Int32} {fs : List Value}, ty = 2 → ph[i]? = some (.inl (2, n, z_O f)) → ph[q]? = some (.inr (10, fs)) → vp_in j n → ZW l d y X mc ms Q nx lv st (ph.set i (.inl (2, n, z_O (va_up f j.toNatClampNeg (some (q + 3)))))) cc ns → ZW l d y X mc ms Q pc lv (.ref (q + 3) :: .int j :: .ref (i + 3) :: st) ph cc ns) :
    zSd l d y X mc ms XL φ Q pc t (zx_ast ty nx pc t) := by
  obtain ⟨S, H, L, s0, cc, ns⟩ := t
  intro ts hts ρ ph lv st g k0
  have gT := g
  obtain ⟨g1, g2, g3, g4, g5⟩ := g
  unfold zx_ast at hts
  split at hts
  · next v0 j0 a r hst =>
    have hst : s0 = v0 :: j0 :: a :: r := hst
    subst hst
    obtain ⟨vv, st2, rfl, gv, gr2⟩ := zL2.cons1 g4
    obtain ⟨vj, st0, rfl, gj0, gr0⟩ := zL2.cons1 gr2
    obtain ⟨va, st1, rfl, ga, gr⟩ := zL2.cons1 gr0
    have gj := zn_g g1 gj0
    have gv' := zn_g g1 gv
    dsimp only at hts
    generalize hej : zn S j0 = j at *
    split at hts
    · next hI0 =>
      have ea := zg_ref hI0.1 ga
      subst ea
      obtain ⟨x, rfl, ex⟩ := zg_int hI0.2.1 gj
      have hvt := hI0.2.2.2
      rw [z_back3 hI0.2.2.1] at *
      split at hts
      · next c q hc hq =>
        obtain ⟨c', hc', gc⟩ := zL2.get g2 hc
        have bq := zrx_in g1 ex hq
        split at hts
        · next h4 =>
          obtain ⟨c1, c2, c3, c4⟩ := h4
          have hin : vp_in x c.2.2.1 := vp_in_iff.mpr ⟨by omega, by omega⟩
          split at hts
          · next hsm =>
            cases hts
            obtain ⟨m1, m2, m2', m3⟩ := hsm
            have gd := zsm_g g1 gv m3
            have hx0 : c.2.2.2.2.lookup x.toNatClampNeg = none := zncr_look m2 (by have := z_in_lt hin; omega) (by show q.1 ≤ ((x.toInt.toNat : Nat) : Int); omega) (by show ((x.toInt.toNat : Nat) : Int) ≤ q.2; omega)
            generalize hov : (if j.1 = 1 ∧ 6 ≤ (c.2.2.2.1.headD (3, 0)).1 then [(1000000 + j.2.toNat, zn S v0)] else ([] : List (Nat × zA_V))) = ov
            have hlk : ∀ i, i < c.2.2.1 → (ov ++ c.2.2.2.2.filter zcst).lookup i = c.2.2.2.2.lookup i := by
              intro i hi
              have e0 : ov.lookup i = none := by
                rw [← hov]
                split
                · rw [List.lookup_cons]
                  have : (i == 1000000 + j.2.toNat) = false := by
                    rw [beq_eq_false_iff_ne]
                    omega
                  rw [this]
                  rfl
                · rfl
              rw [List.lookup_append, e0, zcst_look _ (by omega)]
              rfl
            have hY : ∀ el : Nat → Value, zg_V ρ (zn S v0) (el x.toNatClampNeg) → zg_Y ρ c.2.2.1 (ov ++ c.2.2.2.2.filter zcst) el := by
              intro el ge q hq hk
              have hq := (List.mem_append.mp hq).resolve_right (fun hq => by
                have := (List.mem_filter.mp hq).2
                unfold zcst at this
                rw [Nat.ble_eq_true_of_le hk] at this
                exact absurd this (by decide))
              rw [← hov] at hq
              split at hq
              · next hj1 =>
                rw [List.mem_singleton] at hq
                subst hq
                refine ⟨x.toInt, ?_, fun _ _ => ge⟩
                show ρ[1000000 + j.2.toNat - 1000000]? = _
                rw [Nat.add_sub_cancel_left]
                rcases ex with ⟨h | h, e⟩ | ⟨-, e⟩
                · omega
                · omega
                · exact e
              · cases hq
            rcases (by omega : ty = 0 ∨ ty = 1) with e | e
            · subst e
              obtain ⟨f, rfl, gf, -⟩ := zg_CI c1 c2 gc
              obtain ⟨z, rfl, -⟩ := zg_int (by simpa [zx_ty] using hvt) gv
              refine hI rfl hc' hin (k0 _ (List.mem_singleton.mpr rfl) ρ _ lv _ (zLE.refl ρ) ⟨g1, zL2.set ?_ _ g2, g3, gr, g5⟩)
              show zg_C φ ρ (1, 0, c.2.2.1, c.2.2.2.1, (if j.1 = 1 ∧ 6 ≤ (c.2.2.2.1.headD (3, 0)).1 then [(1000000 + j.2.toNat, zn S v0)] else ([] : List (Nat × zA_V))) ++ c.2.2.2.2.filter zcst) _
              rw [hov]
              refine Or.inr (Or.inr (Or.inl ⟨rfl, rfl, _, rfl, fun i hi => ?_, hY (fun j => .int (upd f x.toNatClampNeg z j)) (by simp only [upd, if_true]; exact gv')⟩))
              have hi : i < c.2.2.1 := hi
              have := gf i hi
              show zg_V ρ (((ov ++ c.2.2.2.2.filter zcst).lookup i).getD (c.2.2.2.1.headD (3, 0))) _
              rw [hlk i hi]
              simp only [upd]
              split
              · next e =>
                rw [e, hx0]
                exact gd
              · exact this
            · subst e
              obtain ⟨f, rfl, gf, -⟩ := zg_CJ c1 c2 gc
              obtain ⟨z, rfl, -⟩ := zg_long (by simpa [zx_ty] using hvt) gv
              refine hJ rfl hc' hin (k0 _ (List.mem_singleton.mpr rfl) ρ _ lv _ (zLE.refl ρ) ⟨g1, zL2.set ?_ _ g2, g3, gr, g5⟩)
              show zg_C φ ρ (1, 1, c.2.2.1, c.2.2.2.1, (if j.1 = 1 ∧ 6 ≤ (c.2.2.2.1.headD (3, 0)).1 then [(1000000 + j.2.toNat, zn S v0)] else ([] : List (Nat × zA_V))) ++ c.2.2.2.2.filter zcst) _
              rw [hov]
              refine Or.inr (Or.inr (Or.inr (Or.inl ⟨rfl, rfl, _, rfl, fun i hi => ?_, hY (fun j => .long (vp_updL f x.toNatClampNeg z j)) (by simp only [vp_updL, if_true]; exact gv')⟩)))
              have hi : i < c.2.2.1 := hi
              have := gf i hi
              show zg_V ρ (((ov ++ c.2.2.2.2.filter zcst).lookup i).getD (c.2.2.2.1.headD (3, 0))) _
              rw [hlk i hi]
              simp only [vp_updL]
              split
              · next e =>
                rw [e, hx0]
                exact gd
              · exact this
          · split at hts
            · cases hts
            · next hlen =>
              have hlen : c.2.2.1 ≤ 1000000 := Classical.byContradiction hlen
              split at hts
              · next hj0 =>
                have hx : x.toInt = j.2 := by rcases ex with ⟨-, e⟩ | ⟨e, -⟩ <;> omega
                have hxn : x.toNatClampNeg = j.2.toNat := by show x.toInt.toNat = _; rw [hx]
                have hel : ∀ (i : Nat) (u : Value), i < c.2.2.1 → (i = x.toNatClampNeg → zg_V ρ (zn S v0) u) → (i ≠ x.toNatClampNeg → zg_V ρ (zx_el c i) u) → zg_V ρ (zx_el (zx_wr c j.2.toNat (zn S v0)) i) u := by
                  intro i u hi e1 e2
                  rw [zx_wr_el _ _ _ _ (by omega)]
                  split
                  · next e => exact e1 (e.trans hxn.symm)
                  · next e => exact e2 (fun q => e (q.trans hxn))
                rcases (by omega : ty = 0 ∨ ty = 1 ∨ ty = 2) with e | e | e
                · subst e
                  rw [if_neg (by decide)] at hts
                  cases hts
                  obtain ⟨f, rfl, gf, -⟩ := zg_CI c1 c2 gc
                  obtain ⟨z, rfl, -⟩ := zg_int (by simpa [zx_ty] using hvt) gv
                  refine hI rfl hc' hin (k0 _ (List.mem_singleton.mpr rfl) ρ _ lv _ (zLE.refl ρ) ⟨g1, zL2.set ?_ _ g2, g3, gr, g5⟩)
                  refine Or.inr (Or.inr (Or.inl ⟨rfl, c2, _, rfl, fun i hi => hel i _ hi (fun e => ?_) (fun e => ?_), zx_wr_Y _ (by omega) _ _ _ _⟩))
                  · rw [e]; simp only [upd, if_true]; exact gv'
                  · simp only [upd, if_neg e]; exact gf i hi
                · subst e
                  rw [if_neg (by decide)] at hts
                  cases hts
                  obtain ⟨f, rfl, gf, -⟩ := zg_CJ c1 c2 gc
                  obtain ⟨z, rfl, -⟩ := zg_long (by simpa [zx_ty] using hvt) gv
                  refine hJ rfl hc' hin (k0 _ (List.mem_singleton.mpr rfl) ρ _ lv _ (zLE.refl ρ) ⟨g1, zL2.set ?_ _ g2, g3, gr, g5⟩)
                  refine Or.inr (Or.inr (Or.inr (Or.inl ⟨rfl, c2, _, rfl, fun i hi => hel i _ hi (fun e => ?_) (fun e => ?_), zx_wr_Y _ (by omega) _ _ _ _⟩)))
                  · rw [e]; simp only [vp_updL, if_true]; exact gv'
                  · simp only [vp_updL, if_neg e]; exact gf i hi
                · subst e
                  rw [if_pos rfl] at hts
                  split at hts
                  · next h5 =>
                    split at hts
                    · next e he =>
                      obtain ⟨e', he', ge⟩ := zL2.get g2 he
                      split at hts
                      · next h6 =>
                        cases hts
                        obtain ⟨f, rfl, gf, -⟩ := zg_CO c1 c2 gc
                        obtain ⟨fs, rfl, -⟩ := zg_C0 h6.1 ge
                        rw [h6.2] at he'
                        have ev := zg_ref (by simpa [zx_ty] using hvt) gv
                        subst ev
                        rw [z_back3 h5] at gv' ⊢
                        refine hO rfl hc' he' hin (k0 _ (List.mem_singleton.mpr rfl) ρ _ lv _ (zLE.refl ρ) ⟨g1, zL2.set ?_ _ g2, g3, gr, g5⟩)
                        refine Or.inr (Or.inr (Or.inr (Or.inr ⟨rfl, c2, _, rfl, fun i hi => hel i _ hi (fun e => ?_) (fun e => ?_), zx_wr_Y _ (by omega) _ _ _ _⟩)))
                        · rw [e]; simp only [va_up, if_true]; exact gv'
                        · simp only [va_up, if_neg e]; exact gf i hi
                      · cases hts
                    · cases hts
                  · cases hts
              · obtain ⟨t', m, gt, e⟩ := zx_again_g hts rfl gT ex
                have := k0 _ m ρ ph lv _ (zLE.refl ρ) gt
                rw [e] at this
                exact this
        · cases hts
      · cases hts
    · cases hts
  · cases hts
end ZO
