/-! PART 11: lengths, new cells, copies, fills. -/
section ZO
variable {l : Launch} {d : Nat} {y : zx_Y} {X : zx_X} {mc ms XL : Nat} {φ : List z_C} {Q : Option Value → List z_C → Prop}
theorem zN_toInt {n : Nat} (h : n < 2147483648) : (Int32.ofNat n).toInt = (n : Int) := Int32.toInt_ofNat_small (by omega)
def zx_len (XL nx : Nat) (t : zA_T) : zA_R := match t.2.2.2.1 with
  | a :: r => if a.1 = 2 then (if a.2.toNat = 2 then (if XL < 1000 then some [(nx, zt_st t ((0, (XL : Int)) :: r))] else none)
      else if 3 ≤ a.2.toNat then (match t.2.1[a.2.toNat - 3]? with
        | some c => if c.1 = 1 ∧ c.2.1 < 3 ∧ c.2.2.1 < 2147483648 then some [(nx, zt_st t ((0, (c.2.2.1 : Int)) :: r))] else none
        | none => none) else none) else none
  | [] => none
theorem zo_len {pc nx : Nat} {t : zA_T} (hA : ∀ {lv st ph cc ns} {i k n : Nat} {x : z_S}, k < 3 → ph[i]? = some (.inl (k, n, x)) → ZW l d y X mc ms Q nx lv (.int (Int32.ofNat n) :: st) ph cc ns → ZW l d y X mc ms Q pc lv (.ref (i + 3) :: st) ph cc ns)
    (hX : ∀ {lv st ph cc ns}, ZW l d y X mc ms Q nx lv (.int (Int32.ofNat X.1) :: st) ph cc ns → ZW l d y X mc ms Q pc lv (.ref 2 :: st) ph cc ns) : zSd l d y X mc ms XL φ Q pc t (zx_len XL nx t) := by
  obtain ⟨S, H, L, s0, cc, ns⟩ := t
  intro ts hts ρ ph lv st g k0
  obtain ⟨g1, g2, g3, g4, g5⟩ := g
  unfold zx_len at hts
  split at hts
  · next a r hst =>
    have hst : s0 = a :: r := hst
    subst hst
    obtain ⟨va, st1, rfl, ga, gr⟩ := zL2.cons1 g4
    split at hts
    · next h2 =>
      have ea := zg_ref h2 ga
      subst ea
      split at hts
      · next h3 =>
        split at hts
        · next h4 =>
          cases hts
          rw [h3]
          refine hX (k0 _ (List.mem_singleton.mpr rfl) ρ ph lv _ (zLE.refl ρ) ⟨g1, g2, g3, ⟨zg_ofI ?_, gr⟩, g5⟩)
          rw [(g5.1 h4).1]
          exact zN_toInt (by omega)
        · cases hts
      · split at hts
        · next h3 =>
          rw [z_back3 h3]
          split at hts
          · next c hc =>
            obtain ⟨c', hc', gc⟩ := zL2.get g2 hc
            split at hts
            · next h4 =>
              cases hts
              obtain ⟨c1, c2, c3⟩ := h4
              have hex : ∃ x, c' = .inl (c.2.1, c.2.2.1, x) := by
                rcases (by omega : c.2.1 = 0 ∨ c.2.1 = 1 ∨ c.2.1 = 2) with e | e | e
                · obtain ⟨f, rfl, -, -⟩ := zg_CI c1 e gc; exact ⟨_, by rw [e]⟩
                · obtain ⟨f, rfl, -, -⟩ := zg_CJ c1 e gc; exact ⟨_, by rw [e]⟩
                · obtain ⟨f, rfl, -, -⟩ := zg_CO c1 e gc; exact ⟨_, by rw [e]⟩
              obtain ⟨x, rfl⟩ := hex
              exact hA c2 hc' (k0 _ (List.mem_singleton.mpr rfl) ρ ph lv _ (zLE.refl ρ) ⟨g1, g2, g3, ⟨zg_ofI (zN_toInt c3), gr⟩, g5⟩)
            · cases hts
          · cases hts
        · cases hts
    · cases hts
  · cases hts
/-- a new array of ty (0 int, 1 long, 2 references) -/
def zx_nb (ty : Nat) : zA_V := if ty = 0 then (0, 0) else if ty = 1 then (4, 0) else (3, 0)
def zx_nar (mc ms ty nx : Nat) (t : zA_T) : zA_R := match t.2.2.2.1 with
  | a :: r => if a.1 = 0 ∧ 0 ≤ a.2 ∧ a.2 ≤ 10000 ∧ t.2.2.2.2.1 + 1 ≤ mc ∧ t.2.2.2.2.2 + a.2.toNat ≤ ms then
      some [(nx, (t.1, t.2.1 ++ [(1, ty, a.2.toNat, [zx_nb ty], [])], t.2.2.1, (2, ((t.2.1.length + 3 : Nat) : Int)) :: r, t.2.2.2.2.1 + 1, t.2.2.2.2.2 + a.2.toNat))] else none
  | [] => none
def zx_nc (ty n : Nat) : z_C := if ty = 0 then .inl (0, n, z_I (fun _ => 0)) else if ty = 1 then .inl (1, n, z_J (fun _ => 0)) else .inl (2, n, z_O (fun _ => none))
theorem zx_nc_g (φ : List z_C) (ρ : List Int) {ty : Nat} (hty : ty < 3) (n : Nat) : zg_C φ ρ (1, ty, n, [zx_nb ty], []) (zx_nc ty n) := by
  rcases (by omega : ty = 0 ∨ ty = 1 ∨ ty = 2) with e | e | e <;> subst e
  · exact Or.inr (Or.inr (Or.inl ⟨rfl, rfl, _, rfl, fun j hj => zg_ofI (by decide), zg_Y.nil _ _ _⟩))
  · exact Or.inr (Or.inr (Or.inr (Or.inl ⟨rfl, rfl, _, rfl, fun j hj => zg_ofJ (by decide), zg_Y.nil _ _ _⟩)))
  · exact Or.inr (Or.inr (Or.inr (Or.inr ⟨rfl, rfl, _, rfl, fun j hj => Or.inr (Or.inr (Or.inr (Or.inl ⟨rfl, rfl⟩))), zg_Y.nil _ _ _⟩)))
theorem zo_nar {ty pc nx : Nat} {t : zA_T} (hty : ty < 3) (hs : ∀ {lv st ph cc ns} {n : Int32} {N : Nat}, ¬ n < 0 → n.toNatClampNeg = N → N ≤ 10000 → cc + 1 ≤ mc → ns + N ≤ ms → ZW l d y X mc ms Q nx lv (.ref (ph.length + 3) :: st) (ph ++ [zx_nc ty N]) (cc + 1) (ns + N) → ZW l d y X mc ms Q pc lv (.int n :: st) ph cc ns) : zSd l d y X mc ms XL φ Q pc t (zx_nar mc ms ty nx t) := by
  obtain ⟨S, H, L, s0, cc, ns⟩ := t
  intro ts hts ρ ph lv st g k0
  obtain ⟨g1, g2, g3, g4, g5⟩ := g
  unfold zx_nar at hts
  split at hts
  · next a r hst =>
    have hst : s0 = a :: r := hst
    subst hst
    obtain ⟨va, st1, rfl, ga, gr⟩ := zL2.cons1 g4
    split at hts
    · next h2 =>
      cases hts
      obtain ⟨h1, h2, h3, h4, h5⟩ := h2
      obtain ⟨x, rfl, ex⟩ := zg_int (a := a) (by simp [zIs, h1]) ga
      have hx : x.toInt = a.2 := by rcases ex with ⟨-, e⟩ | ⟨e, -⟩ <;> omega
      have hxn : x.toNatClampNeg = a.2.toNat := by show x.toInt.toNat = _; rw [hx]
      refine hs (fun q => by rw [Int32.lt_iff_toInt_lt, Int32.toInt_zero] at q; omega) hxn (by omega) h4 h5 (k0 _ (List.mem_singleton.mpr rfl) ρ _ lv _ (zLE.refl ρ) ⟨g1, zL2.app (cs := [(1, ty, a.2.toNat, [zx_nb ty], [])]) (ds := [zx_nc ty a.2.toNat]) ⟨zx_nc_g φ ρ hty _, trivial⟩ g2, g3, ⟨?_, gr⟩, g5⟩)
      rw [← zL2.len g2]
      exact zg_ofR
    · cases hts
  · cases hts
/-- a new object -/
def zx_dv (t : FieldType) : zA_V := match t with
  | .object _ => (3, 0)
  | .array _ => (3, 0)
  | .long => (4, 0)
  | .float => (99, 0)
  | .double => (99, 0)
  | _ => (0, 0)
def zx_df (ci : Nat) : List zA_V := match zc[ci]? with
  | some q => (List.range q.2.2).map (fun k => zx_dv (zc_ty q k))
  | none => []
def zx_obj (mc ms ci N nx : Nat) (t : zA_T) : zA_R :=
  if (zx_df ci).length = N ∧ (zx_df ci).all (fun v => !(v.1 == 99)) = true ∧ t.2.2.2.2.1 + 1 ≤ mc ∧ t.2.2.2.2.2 + N ≤ ms then
    some [(nx, (t.1, t.2.1 ++ [(0, ci, 0, zx_df ci, [])], t.2.2.1, (2, ((t.2.1.length + 3 : Nat) : Int)) :: t.2.2.2.1, t.2.2.2.2.1 + 1, t.2.2.2.2.2 + N))] else none
theorem zx_dv_g (ρ : List Int) (t : FieldType) (h : (zx_dv t).1 ≠ 99) : zg_V ρ (zx_dv t) (defaultValue t) := by
  cases t with
  | object n => exact Or.inr (Or.inr (Or.inr (Or.inl ⟨rfl, rfl⟩)))
  | array n => exact Or.inr (Or.inr (Or.inr (Or.inl ⟨rfl, rfl⟩)))
  | long => exact zg_ofJ (by decide)
  | float => exact absurd rfl h
  | double => exact absurd rfl h
  | _ => exact zg_ofI (by decide)
theorem zx_df_g (ρ : List Int) {ci : Nat} {q : vw_C} (hq : zc[ci]? = some q) (h : (zx_df ci).all (fun v => !(v.1 == 99)) = true) : zL2 (zg_V ρ) (zx_df ci) (zc_fs q) := by
  unfold zx_df at h ⊢
  rw [hq] at h ⊢
  dsimp only at h ⊢
  unfold zc_fs
  generalize List.range q.2.2 = ks at h ⊢
  induction ks with
  | nil => exact trivial
  | cons k ks ih =>
    simp only [List.map_cons, List.all_cons, Bool.and_eq_true] at h
    refine ⟨zx_dv_g ρ _ (fun e => ?_), ih h.2⟩
    have := h.1
    rw [e] at this
    simp at this
theorem zo_obj {ci N pc nx : Nat} {t : zA_T} {q : vw_C} (hq : zc[ci]? = some q) (hN : q.2.2 = N) (hs : ∀ {lv st ph cc ns}, cc + 1 ≤ mc → ns + N ≤ ms → ZW l d y X mc ms Q nx lv (.ref (ph.length + 3) :: st) (ph ++ [.inr (ci, zc_fs q)]) (cc + 1) (ns + N) → ZW l d y X mc ms Q pc lv st ph cc ns) : zSd l d y X mc ms XL φ Q pc t (zx_obj mc ms ci N nx t) := by
  obtain ⟨S, H, L, s0, cc, ns⟩ := t
  intro ts hts ρ ph lv st g k0
  obtain ⟨g1, g2, g3, g4, g5⟩ := g
  unfold zx_obj at hts
  split at hts
  · next h =>
    cases hts
    refine hs h.2.2.1 h.2.2.2 (k0 _ (List.mem_singleton.mpr rfl) ρ _ lv _ (zLE.refl ρ) ⟨g1, zL2.app (cs := [(0, ci, 0, zx_df ci, [])]) (ds := [.inr (ci, zc_fs q)]) ⟨Or.inr (Or.inl ⟨rfl, _, rfl, zx_df_g ρ hq h.2.1, zg_Z.nil _ _⟩), trivial⟩ g2, g3, ⟨?_, g4⟩, g5⟩)
    rw [← zL2.len g2]
    exact zg_ofR
  · cases hts
theorem zg_cats {ρ : List Int} : ∀ {r : List zA_V} {st : List Value}, zL2 (zg_V ρ) r st → st.map (fun v => v.category) = r.map zcat
  | [], [], _ => rfl
  | a :: r, v :: st, h => by rw [List.map_cons, List.map_cons, zg_cats h.2, zg_cat h.1]; rfl
  | [], _ :: _, h => h.elim
  | _ :: _, [], h => h.elim
/-- places i .. one by one -/
def zrl (g : Nat → zA_V) : Nat → Nat → List (Nat × zA_V)
  | _, 0 => []
  | i, n + 1 => (i, g i) :: zrl g (i + 1) n
theorem zrl_look (g : Nat → zA_V) : ∀ (n i j : Nat), i ≤ j → j < i + n → (zrl g i n).lookup j = some (g j)
  | 0, i, j, h1, h2 => by omega
  | n + 1, i, j, h1, h2 => by
    unfold zrl
    rw [List.lookup_cons]
    by_cases e : j = i
    · subst e
      rw [beq_self_eq_true]
    · have : (j == i) = false := by rw [beq_eq_false_iff_ne]; exact e
      rw [this]
      exact zrl_look g n (i + 1) j (by omega) (by omega)
theorem zrl_lt (g : Nat → zA_V) : ∀ (n i : Nat) (q : Nat × zA_V), q ∈ zrl g i n → q.1 < i + n
  | 0, _, _, h => by cases h
  | n + 1, i, q, h => by
    rcases List.mem_cons.mp h with rfl | h
    · show i < i + (n + 1)
      omega
    · have := zrl_lt g n (i + 1) q h
      omega
/-- a stretch copied place by place -/
def zcpo (c e : zA_C) (sp dp k : Nat) : List (Nat × zA_V) := zrl (fun i => if dp ≤ i ∧ i < dp + k then zx_el c (sp + (i - dp)) else zx_el e i) 0 e.2.2.1
/-- a whole array over another, or a stretch of it, where both hold alike, or place by place -/
def zx_cpy (ty nx : Nat) (t : zA_T) : zA_R := match t.2.2.2.1 with
  | k0 :: dp0 :: rd :: sp0 :: rs :: r =>
    let k := zn t.1 k0
    let dp := zn t.1 dp0
    let sp := zn t.1 sp0
    if (r.map zcat).sum ≤ 8 ∧ zIs k = true ∧ zIs dp = true ∧ zIs sp = true ∧ rd.1 = 2 ∧ rs.1 = 2 ∧ 3 ≤ rd.2.toNat ∧ 3 ≤ rs.2.toNat then
      (match t.2.1[rs.2.toNat - 3]?, t.2.1[rd.2.toNat - 3]? with
        | some c, some e => if c.1 = 1 ∧ e.1 = 1 ∧ c.2.1 = ty ∧ e.2.1 = ty then
            (if k.1 = 0 ∧ dp = (0, 0) ∧ sp = (0, 0) ∧ k.2 = e.2.2.1 ∧ e.2.2.1 ≤ c.2.2.1 then
              some [(nx, zt_H t (t.2.1.set (rd.2.toNat - 3) (1, ty, e.2.2.1, c.2.2.2.1, c.2.2.2.2)) r)]
            else if znc c.2.2.2.2 = true ∧ znc e.2.2.2.2 = true ∧ c.2.2.1 ≤ 1000000 ∧ e.2.2.1 ≤ 1000000 ∧ c.2.2.2.1.headD (3, 0) = e.2.2.2.1.headD (3, 0) ∧ (e.2.2.2.1.headD (3, 0)).1 ≠ 1 ∧ (e.2.2.2.1.headD (3, 0)).1 ≠ 5 ∧
                zlb t.1 k ≥ 0 ∧ zlb t.1 dp ≥ 0 ∧ zlb t.1 sp ≥ 0 ∧ zle2 t.1 sp k c.2.2.1 = true ∧ zle2 t.1 dp k e.2.2.1 = true then
              some [(nx, zt_H t (t.2.1.set (rd.2.toNat - 3) (1, ty, e.2.2.1, e.2.2.2.1, [])) r)]
            else if ty = 0 ∧ k.1 = 0 ∧ dp.1 = 0 ∧ sp.1 = 0 ∧ 0 ≤ k.2 ∧ 0 ≤ dp.2 ∧ 0 ≤ sp.2 ∧ sp.2 + k.2 ≤ c.2.2.1 ∧ dp.2 + k.2 ≤ e.2.2.1 ∧ e.2.2.1 ≤ 1000000 then
              some [(nx, zt_H t (t.2.1.set (rd.2.toNat - 3) (1, 0, e.2.2.1, e.2.2.2.1, zcpo c e sp.2.toNat dp.2.toNat k.2.toNat)) r)] else none) else none
        | _, _ => none) else none
  | _ => none
theorem zo_cpy {ty pc nx : Nat} {t : zA_T} (hty : ty < 2)
    (hI : ∀ {lv st ph cc ns} {i0 i1 n0 n1 : Nat} {f g : Nat → Int32} {sp dp k : Int32}, (st.map (fun v => v.category)).sum ≤ 8 → ty = 0 → ph[i0]? = some (.inl (0, n0, z_I f)) → ph[i1]? = some (.inl (0, n1, z_I g)) → ¬ sp < 0 → ¬ dp < 0 → ¬ k < 0 → sp.toNatClampNeg + k.toNatClampNeg ≤ n0 → dp.toNatClampNeg + k.toNatClampNeg ≤ n1 → ZW l d y X mc ms Q nx lv st (ph.set i1 (.inl (0, n1, z_I (va_cpy f g sp.toNatClampNeg dp.toNatClampNeg k.toNatClampNeg)))) cc ns → ZW l d y X mc ms Q pc lv (.int k :: .int dp :: .ref (i1 + 3) :: .int sp :: .ref (i0 + 3) :: st) ph cc ns)
    (hJ : ∀ {lv st ph cc ns} {i0 i1 n0 n1 : Nat} {f g : Nat → Int64} {sp dp k : Int32}, (st.map (fun v => v.category)).sum ≤ 8 → ty = 1 → ph[i0]? = some (.inl (1, n0, z_J f)) → ph[i1]? = some (.inl (1, n1, z_J g)) → ¬ sp < 0 → ¬ dp < 0 → ¬ k < 0 → sp.toNatClampNeg + k.toNatClampNeg ≤ n0 → dp.toNatClampNeg + k.toNatClampNeg ≤ n1 → ZW l d y X mc ms Q nx lv st (ph.set i1 (.inl (1, n1, z_J (va_cpy f g sp.toNatClampNeg dp.toNatClampNeg k.toNatClampNeg)))) cc ns → ZW l d y X mc ms Q pc lv (.int k :: .int dp :: .ref (i1 + 3) :: .int sp :: .ref (i0 + 3) :: st) ph cc ns) :
    zSd l d y X mc ms XL φ Q pc t (zx_cpy ty nx t) := by
  obtain ⟨S, H, L, s0, cc, ns⟩ := t
  intro ts hts ρ ph lv st g k0
  obtain ⟨g1, g2, g3, g4, g5⟩ := g
  unfold zx_cpy at hts
  split at hts
  · next k dp rd sp rs r hst =>
    have hst : s0 = k :: dp :: rd :: sp :: rs :: r := hst
    subst hst
    obtain ⟨vk, st1, rfl, gk, gr1⟩ := zL2.cons1 g4
    obtain ⟨vd, st2, rfl, gd, gr2⟩ := zL2.cons1 gr1
    obtain ⟨vrd, st3, rfl, grd, gr3⟩ := zL2.cons1 gr2
    obtain ⟨vs, st4, rfl, gs, gr4⟩ := zL2.cons1 gr3
    obtain ⟨vrs, st5, rfl, grs, gr⟩ := zL2.cons1 gr4
    have gk := zn_g g1 gk
    have gd := zn_g g1 gd
    have gs := zn_g g1 gs
    dsimp only at hts
    generalize zn S k = k at *
    generalize zn S dp = dp at *
    generalize zn S sp = sp at *
    split at hts
    · next h =>
      obtain ⟨hcs, h1, h2, h3, h4, h5, h6, h7⟩ := h
      have e1 := zg_ref h4 grd
      have e2 := zg_ref h5 grs
      subst e1 e2
      rw [z_back3 h6, z_back3 h7]
      obtain ⟨xk, rfl, exk⟩ := zg_int h1 gk
      obtain ⟨xd, rfl, exd⟩ := zg_int h2 gd
      obtain ⟨xs, rfl, exs⟩ := zg_int h3 gs
      have nneg : ∀ z : Int32, 0 ≤ z.toInt → ¬ z < 0 := fun z hz q => by rw [Int32.lt_iff_toInt_lt, Int32.toInt_zero] at q; omega
      split at hts
      · next c e hc he =>
        obtain ⟨c', hc', gc⟩ := zL2.get g2 hc
        obtain ⟨e', he', ge⟩ := zL2.get g2 he
        split at hts
        · next hh =>
          obtain ⟨c1, e1, c2, e2⟩ := hh
          split at hts
          · next hf =>
            cases hts
            obtain ⟨f1, rfl, rfl, hke, hle⟩ := hf
            have hk : xk.toInt = k.2 := by rcases exk with ⟨-, e⟩ | ⟨e, -⟩ <;> omega
            have hd : xd.toInt = 0 := by rcases exd with ⟨-, e⟩ | ⟨e, -⟩; exact e; exact absurd e (by decide)
            have hs : xs.toInt = 0 := by rcases exs with ⟨-, e⟩ | ⟨e, -⟩; exact e; exact absurd e (by decide)
            have hkn : xk.toNatClampNeg = k.2.toNat := by show xk.toInt.toNat = _; rw [hk]
            have hdn : xd.toNatClampNeg = 0 := by show xd.toInt.toNat = _; rw [hd]; rfl
            have hsn : xs.toNatClampNeg = 0 := by show xs.toInt.toNat = _; rw [hs]; rfl
            rcases (by omega : ty = 0 ∨ ty = 1) with e | e
            · subst e
              obtain ⟨f, rfl, gf, gy⟩ := zg_CI c1 c2 gc
              obtain ⟨f2, rfl, -, -⟩ := zg_CI e1 e2 ge
              have ev : ∀ j, j < e.2.2.1 → va_cpy f f2 xs.toNatClampNeg xd.toNatClampNeg xk.toNatClampNeg j = f j := by
                intro j hj
                unfold va_cpy
                rw [hdn, hsn, hkn, if_pos ⟨Nat.zero_le _, by omega⟩]
                congr 1
                omega
              refine hI (by rw [zg_cats gr]; exact hcs) rfl hc' he' (nneg _ (by omega)) (nneg _ (by omega)) (nneg _ (by omega)) (by omega) (by omega) (k0 _ (List.mem_singleton.mpr rfl) ρ _ lv _ (zLE.refl ρ) ⟨g1, zL2.set ?_ _ g2, g3, gr, g5⟩)
              refine Or.inr (Or.inr (Or.inl ⟨rfl, rfl, _, rfl, fun j hj => ?_, fun q hq hkq => ?_⟩))
              · have hj : j < e.2.2.1 := hj
                rw [ev j hj]
                exact gf j (by omega)
              · obtain ⟨m, m1, m2⟩ := gy q hq hkq
                refine ⟨m, m1, fun a b => ?_⟩
                have b : m < (e.2.2.1 : Int) := b
                dsimp only
                rw [ev m.toNat (by omega)]
                exact m2 a (by omega)
            · subst e
              obtain ⟨f, rfl, gf, gy⟩ := zg_CJ c1 c2 gc
              obtain ⟨f2, rfl, -, -⟩ := zg_CJ e1 e2 ge
              have ev : ∀ j, j < e.2.2.1 → va_cpy f f2 xs.toNatClampNeg xd.toNatClampNeg xk.toNatClampNeg j = f j := by
                intro j hj
                unfold va_cpy
                rw [hdn, hsn, hkn, if_pos ⟨Nat.zero_le _, by omega⟩]
                congr 1
                omega
              refine hJ (by rw [zg_cats gr]; exact hcs) rfl hc' he' (nneg _ (by omega)) (nneg _ (by omega)) (nneg _ (by omega)) (by omega) (by omega) (k0 _ (List.mem_singleton.mpr rfl) ρ _ lv _ (zLE.refl ρ) ⟨g1, zL2.set ?_ _ g2, g3, gr, g5⟩)
              refine Or.inr (Or.inr (Or.inr (Or.inl ⟨rfl, rfl, _, rfl, fun j hj => ?_, fun q hq hkq => ?_⟩)))
              · have hj : j < e.2.2.1 := hj
                rw [ev j hj]
                exact gf j (by omega)
              · obtain ⟨m, m1, m2⟩ := gy q hq hkq
                refine ⟨m, m1, fun a b => ?_⟩
                have b : m < (e.2.2.1 : Int) := b
                dsimp only
                rw [ev m.toNat (by omega)]
                exact m2 a (by omega)
          · split at hts
            · next hf =>
              cases hts
              obtain ⟨n1, n2, l1, l2, hb, hb1, hb5, hk, hd, hs, hsk, hdk⟩ := hf
              have hk := zlb_g g1 exk hk
              have hd := zlb_g g1 exd hd
              have hs := zlb_g g1 exs hs
              have hsk := zle2_g g1 exs exk hsk
              have hdk := zle2_g g1 exd exk hdk
              have hkn : (xk.toNatClampNeg : Int) = xk.toInt := by show ((xk.toInt.toNat : Nat) : Int) = _; omega
              have hdn : (xd.toNatClampNeg : Int) = xd.toInt := by show ((xd.toInt.toNat : Nat) : Int) = _; omega
              have hsn : (xs.toNatClampNeg : Int) = xs.toInt := by show ((xs.toInt.toNat : Nat) : Int) = _; omega
              rcases (by omega : ty = 0 ∨ ty = 1) with e | e
              · subst e
                obtain ⟨f, rfl, gf, -⟩ := zg_CI c1 c2 gc
                obtain ⟨f2, rfl, gf2, -⟩ := zg_CI e1 e2 ge
                refine hI (by rw [zg_cats gr]; exact hcs) rfl hc' he' (nneg _ (by omega)) (nneg _ (by omega)) (nneg _ (by omega)) (by omega) (by omega) (k0 _ (List.mem_singleton.mpr rfl) ρ _ lv _ (zLE.refl ρ) ⟨g1, zL2.set ?_ _ g2, g3, gr, g5⟩)
                refine Or.inr (Or.inr (Or.inl ⟨rfl, rfl, _, rfl, fun j hj => ?_, zg_Y.nil _ _ _⟩))
                have hj : j < e.2.2.1 := hj
                show zg_V ρ (e.2.2.2.1.headD (3, 0)) (.int (va_cpy f f2 _ _ _ j))
                unfold va_cpy
                split
                · next hin =>
                  have := gf (xs.toNatClampNeg + (j - xd.toNatClampNeg)) (by omega)
                  rw [znc_look n1 (by omega), hb] at this
                  exact this
                · have := gf2 j hj
                  rw [znc_look n2 (by omega)] at this
                  exact this
              · subst e
                obtain ⟨f, rfl, gf, -⟩ := zg_CJ c1 c2 gc
                obtain ⟨f2, rfl, gf2, -⟩ := zg_CJ e1 e2 ge
                refine hJ (by rw [zg_cats gr]; exact hcs) rfl hc' he' (nneg _ (by omega)) (nneg _ (by omega)) (nneg _ (by omega)) (by omega) (by omega) (k0 _ (List.mem_singleton.mpr rfl) ρ _ lv _ (zLE.refl ρ) ⟨g1, zL2.set ?_ _ g2, g3, gr, g5⟩)
                refine Or.inr (Or.inr (Or.inr (Or.inl ⟨rfl, rfl, _, rfl, fun j hj => ?_, zg_Y.nil _ _ _⟩)))
                have hj : j < e.2.2.1 := hj
                show zg_V ρ (e.2.2.2.1.headD (3, 0)) (.long (va_cpy f f2 _ _ _ j))
                unfold va_cpy
                split
                · next hin =>
                  have := gf (xs.toNatClampNeg + (j - xd.toNatClampNeg)) (by omega)
                  rw [znc_look n1 (by omega), hb] at this
                  exact this
                · have := gf2 j hj
                  rw [znc_look n2 (by omega)] at this
                  exact this
            · split at hts
              · next hf =>
                cases hts
                obtain ⟨rfl, k1, d1, s1, k2, d2, s2, hsk, hdk, hl⟩ := hf
                have hk : xk.toInt = k.2 := by rcases exk with ⟨-, e⟩ | ⟨e, -⟩ <;> omega
                have hd : xd.toInt = dp.2 := by rcases exd with ⟨-, e⟩ | ⟨e, -⟩ <;> omega
                have hs : xs.toInt = sp.2 := by rcases exs with ⟨-, e⟩ | ⟨e, -⟩ <;> omega
                have hkn : xk.toNatClampNeg = k.2.toNat := by show xk.toInt.toNat = _; rw [hk]
                have hdn : xd.toNatClampNeg = dp.2.toNat := by show xd.toInt.toNat = _; rw [hd]
                have hsn : xs.toNatClampNeg = sp.2.toNat := by show xs.toInt.toNat = _; rw [hs]
                obtain ⟨f, rfl, gf, -⟩ := zg_CI c1 c2 gc
                obtain ⟨f2, rfl, gf2, -⟩ := zg_CI e1 e2 ge
                refine hI (by rw [zg_cats gr]; exact hcs) rfl hc' he' (nneg _ (by omega)) (nneg _ (by omega)) (nneg _ (by omega)) (by omega) (by omega) (k0 _ (List.mem_singleton.mpr rfl) ρ _ lv _ (zLE.refl ρ) ⟨g1, zL2.set ?_ _ g2, g3, gr, g5⟩)
                rw [hkn, hdn, hsn]
                refine Or.inr (Or.inr (Or.inl ⟨rfl, rfl, _, rfl, fun j hj => ?_, fun q hq hkq => ?_⟩))
                · have hj : j < e.2.2.1 := hj
                  show zg_V ρ (((zcpo c e sp.2.toNat dp.2.toNat k.2.toNat).lookup j).getD (e.2.2.2.1.headD (3, 0))) (.int (va_cpy f f2 _ _ _ j))
                  unfold zcpo
                  rw [zrl_look _ _ _ _ (Nat.zero_le _) (by omega)]
                  show zg_V ρ (if dp.2.toNat ≤ j ∧ j < dp.2.toNat + k.2.toNat then zx_el c (sp.2.toNat + (j - dp.2.toNat)) else zx_el e j) _
                  unfold va_cpy
                  split
                  · next hin => exact gf _ (by omega)
                  · exact gf2 j hj
                · have h1 := zrl_lt _ _ _ _ hq
                  have hkq : 1000000 ≤ q.1 := hkq
                  omega
              · cases hts
        · cases hts
      · cases hts
    · cases hts
  · cases hts
/-- an array filled with one value -/
def zx_fil (mc ms ty nx : Nat) (t : zA_T) : zA_R := match t.2.2.2.1 with
  | v :: a :: r => if a.1 = 2 ∧ 3 ≤ a.2.toNat ∧ zx_ty ty v = true ∧ (r.map zcat).sum ≤ 8 ∧ t.2.2.2.2.1 ≤ mc ∧ t.2.2.2.2.2 ≤ ms then
      (match t.2.1[a.2.toNat - 3]? with
        | some c => if c.1 = 1 ∧ c.2.1 = ty ∧ c.2.2.1 < 2147483648 then some [(nx, zt_H t (t.2.1.set (a.2.toNat - 3) (1, ty, c.2.2.1, [zn t.1 v], [])) r)] else none
        | none => none) else none
  | _ => none
theorem zo_fil {ty pc nx : Nat} {t : zA_T} (hty : ty < 2)
    (hI : ∀ {lv st ph cc ns} {i n : Nat} {f : Nat → Int32} {x : Int32}, cc ≤ mc → ns ≤ ms → (st.map (fun v => v.category)).sum ≤ 8 → ty = 0 → ph[i]? = some (.inl (0, n, z_I f)) → n < 2147483648 → (∀ f' : Nat → Int32, (∀ j, j < n → f' j = x) → ZW l d y X mc ms Q nx lv st (ph.set i (.inl (0, n, z_I f'))) cc ns) → ZW l d y X mc ms Q pc lv (.int x :: .ref (i + 3) :: st) ph cc ns)
    (hJ : ∀ {lv st ph cc ns} {i n : Nat} {f : Nat → Int64} {x : Int64}, cc ≤ mc → ns ≤ ms → (st.map (fun v => v.category)).sum ≤ 8 → ty = 1 → ph[i]? = some (.inl (1, n, z_J f)) → n < 2147483648 → (∀ f' : Nat → Int64, (∀ j, j < n → f' j = x) → ZW l d y X mc ms Q nx lv st (ph.set i (.inl (1, n, z_J f'))) cc ns) → ZW l d y X mc ms Q pc lv (.long x :: .ref (i + 3) :: st) ph cc ns) :
    zSd l d y X mc ms XL φ Q pc t (zx_fil mc ms ty nx t) := by
  obtain ⟨S, H, L, s0, cc, ns⟩ := t
  intro ts hts ρ ph lv st g k0
  obtain ⟨g1, g2, g3, g4, g5⟩ := g
  unfold zx_fil at hts
  split at hts
  · next v a r hst =>
    have hst : s0 = v :: a :: r := hst
    subst hst
    obtain ⟨vv, st1, rfl, gv, gr1⟩ := zL2.cons1 g4
    obtain ⟨va, st2, rfl, ga, gr⟩ := zL2.cons1 gr1
    split at hts
    · next h =>
      obtain ⟨h1, h2, h3, hcs, hm1, hm2⟩ := h
      have e1 := zg_ref h1 ga
      subst e1
      rw [z_back3 h2]
      split at hts
      · next c hc =>
        obtain ⟨c', hc', gc⟩ := zL2.get g2 hc
        split at hts
        · next hh =>
          cases hts
          obtain ⟨c1, c2, c3⟩ := hh
          rcases (by omega : ty = 0 ∨ ty = 1) with e | e
          · subst e
            obtain ⟨f, rfl, gf, -⟩ := zg_CI c1 c2 gc
            obtain ⟨x, rfl, -⟩ := zg_int (by simpa [zx_ty] using h3) gv
            refine hI hm1 hm2 (by rw [zg_cats gr]; exact hcs) rfl hc' c3 (fun f' hf' => k0 _ (List.mem_singleton.mpr rfl) ρ _ lv _ (zLE.refl ρ) ⟨g1, zL2.set ?_ _ g2, g3, gr, g5⟩)
            refine Or.inr (Or.inr (Or.inl ⟨rfl, rfl, _, rfl, fun j hj => ?_, zg_Y.nil _ _ _⟩))
            rw [hf' j hj]
            exact zn_g g1 gv
          · subst e
            obtain ⟨f, rfl, gf, -⟩ := zg_CJ c1 c2 gc
            obtain ⟨x, rfl, -⟩ := zg_long (by simpa [zx_ty] using h3) gv
            refine hJ hm1 hm2 (by rw [zg_cats gr]; exact hcs) rfl hc' c3 (fun f' hf' => k0 _ (List.mem_singleton.mpr rfl) ρ _ lv _ (zLE.refl ρ) ⟨g1, zL2.set ?_ _ g2, g3, gr, g5⟩)
            refine Or.inr (Or.inr (Or.inr (Or.inl ⟨rfl, rfl, _, rfl, fun j hj => ?_, zg_Y.nil _ _ _⟩)))
            rw [hf' j hj]
            exact zn_g g1 gv
        · cases hts
      · cases hts
    · cases hts
  · cases hts
/-- Object.<init> -/
def zx_oin (nx : Nat) (t : zA_T) : zA_R := match t.2.2.2.1 with
  | a :: r => if a.1 = 2 ∧ (r.map zcat).sum ≤ 8 then some [(nx, zt_st t r)] else none
  | [] => none
theorem zo_oin {pc nx : Nat} {t : zA_T} (hs : ∀ {lv st ph cc ns} {a : Nat}, (st.map (fun v => v.category)).sum ≤ 8 → ZW l d y X mc ms Q nx lv st ph cc ns → ZW l d y X mc ms Q pc lv (.ref a :: st) ph cc ns) : zSd l d y X mc ms XL φ Q pc t (zx_oin nx t) := by
  obtain ⟨S, H, L, s0, cc, ns⟩ := t
  intro ts hts ρ ph lv st g k0
  obtain ⟨g1, g2, g3, g4, g5⟩ := g
  unfold zx_oin at hts
  split at hts
  · next a r hst =>
    have hst : s0 = a :: r := hst
    subst hst
    obtain ⟨va, st1, rfl, ga, gr⟩ := zL2.cons1 g4
    split at hts
    · next h =>
      cases hts
      have e1 := zg_ref h.1 ga
      subst e1
      exact hs (by rw [zg_cats gr]; exact h.2) (k0 _ (List.mem_singleton.mpr rfl) ρ ph lv _ (zLE.refl ρ) ⟨g1, g2, g3, gr, g5⟩)
    · cases hts
  · cases hts
end ZO
