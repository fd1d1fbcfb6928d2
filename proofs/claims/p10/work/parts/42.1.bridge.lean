/-! PART 19h.0: the heap between calls: as functions by cell, and as the explorer has it. -/
theorem zL2.ofG {α β : Type} {R : α → β → Prop} : ∀ {as : List α} {bs : List β}, as.length = bs.length → (∀ (i : Nat) a b, as[i]? = some a → bs[i]? = some b → R a b) → zL2 R as bs
  | [], [], _, _ => trivial
  | a :: as, b :: bs, hl, h => ⟨h 0 a b rfl rfl, zL2.ofG (Nat.succ.inj hl) (fun i a' b' ha hb => h (i + 1) a' b' ha hb)⟩
  | [], _ :: _, hl, _ => by cases hl
  | _ :: _, [], hl, _ => by cases hl
/-- a field's value: a reference that is there; else wide, or a number (w) -/
def zbV (w : Bool) (a : zA_V) (f : Option Nat) : Bool := match f with
  | some r => decide (a = ((2, (r : Int)) : zA_V))
  | none => decide (a.1 = 6) || (w && decide (a.1 = 0))
def zb2 (w : Bool) : List zA_V → List (Option Nat) → Bool
  | [], [] => true
  | a :: as, f :: fs => zbV w a f && zb2 w as fs
  | _, _ => false
def zbh (a : zA_C) : zA_V := a.2.2.2.1.headD (3, 0)
/-- the explorer's cell a is one of this shape -/
def zbC (w : Bool) (i : Nat) (a : zA_C) (t : zy_T) : Bool :=
  if t.1 = 0 then decide (a.1 = 0 ∧ a.2.1 = t.2.1) && (zb2 w a.2.2.2.1 t.2.2 && a.2.2.2.2.all (fun q => decide (q.2 = ((8, (i : Int)) : zA_V) ∧ t.2.2[q.1]? = some none)))
  else if t.1 = 1 then decide (a.1 = 8 ∧ a.2.1 = i ∧ (a.2.2.1 = 0 ∨ a.2.2.1 = t.2.1 ∧ (zbh a).1 = 6 ∧ a.2.2.2.2.all (fun q => q.2.1 == 6 && !(Nat.ble 1000000 q.1)) = true)) || decide (a.1 = 1 ∧ a.2.1 = 0 ∧ a.2.2.1 = t.2.1 ∧ (zbh a).1 = 6 ∧ a.2.2.2.2 = [])
  else if t.1 = 2 then decide (a.1 = 8 ∧ a.2.1 = i ∧ a.2.2.1 = t.2.1 ∧ (zbh a).1 = 8 ∧ a.2.2.2.2 = []) || decide (a.1 = 1 ∧ a.2.1 = 1 ∧ a.2.2.1 = t.2.1 ∧ (zbh a).1 = 8 ∧ a.2.2.2.2 = [])
  else decide (t.1 = 3 ∧ a.1 = 1 ∧ a.2.1 = 2 ∧ a.2.2.1 = 6 ∧ t.2.1 = 6 ∧ zbh a = (3, 0) ∧ a.2.2.2.2 = [(5, (2, 44)), (4, (2, 42)), (3, (2, 40)), (2, (2, 38)), (1, (2, 36)), (0, (2, 34))])
def zbA (w : Bool) : Nat → zA_H → List zy_T → Bool
  | _, [], [] => true
  | i, a :: as, t :: ts => zbC w i a t && zbA w (i + 1) as ts
  | _, _, _ => false
theorem zbA_at {w : Bool} : ∀ {i : Nat} {H : zA_H} {ts : List zy_T}, zbA w i H ts = true → H.length = ts.length ∧ ∀ (j : Nat) (a : zA_C) (t : zy_T), H[j]? = some a → ts[j]? = some t → zbC w (i + j) a t = true
  | _, [], [], _ => ⟨rfl, fun j a t h => by cases h⟩
  | i, a :: as, t :: ts, h => by
    obtain ⟨h1, h4⟩ := zw_and h
    obtain ⟨k1, k2⟩ := zbA_at h4
    refine ⟨congrArg (· + 1) k1, fun j b u hj hu => ?_⟩
    cases j with
    | zero =>
      cases hj
      cases hu
      exact h1
    | succ j =>
      have := k2 j b u hj hu
      rw [show i + 1 + j = i + (j + 1) by omega] at this
      exact this
  | _, [], _ :: _, h => by cases h
  | _, _ :: _, [], h => by cases h
theorem zb_all : zbA false 0 zHT zy_tm = true := by decide +kernel
theorem zvW {ρ : List Int} {v : zA_V} {x : Int32} (h : v.1 = 6) (h1 : zlo v ≤ x.toInt) (h2 : x.toInt ≤ zhi v) : zg_V ρ v (.int x) := by
  refine Or.inr (Or.inr (Or.inr (Or.inr (Or.inr (Or.inr ⟨by omega, Or.inl ⟨x, rfl, (zlo v, zhi v), ?_, h1, h2⟩⟩)))))
  unfold zIq
  rw [if_pos h]
  exact List.mem_cons_self
theorem zvW_inv {ρ : List Int} {v : zA_V} {u : Value} (h : v.1 = 6) (g : zg_V ρ v u) : ∃ x : Int32, u = .int x ∧ zlo v ≤ x.toInt ∧ x.toInt ≤ zhi v := by
  rcases g with ⟨g, -⟩ | ⟨g, -⟩ | ⟨g, -⟩ | ⟨g, -⟩ | ⟨g, -⟩ | ⟨g, -⟩ | ⟨-, g⟩
  all_goals first | omega | skip
  rcases g with ⟨x, ex, q, hq, b1, b2⟩ | ⟨g, -⟩ | ⟨g, -⟩
  · unfold zIq at hq
    rw [if_pos h, List.mem_singleton] at hq
    subst hq
    exact ⟨x, ex, b1, b2⟩
  · omega
  · omega
theorem zvJ {ρ : List Int} {v : zA_V} (h : v.1 = 8) (x : Int64) : zg_V ρ v (.long x) := Or.inr (Or.inr (Or.inr (Or.inr (Or.inr (Or.inr ⟨by omega, Or.inr (Or.inl ⟨h, x, rfl⟩)⟩)))))
theorem zbel {a : zA_C} (h6 : (zbh a).1 = 6) (ho : a.2.2.2.2.all (fun q => q.2.1 == 6 && !(Nat.ble 1000000 q.1)) = true) (j : Nat) : (zx_el a j).1 = 6 := by
  unfold zx_el
  cases hl : a.2.2.2.2.lookup j with
  | none => exact h6
  | some v => simpa using (zw_and (List.all_eq_true.mp ho _ (z_look_in hl))).1
theorem zb2_at {w : Bool} : ∀ {as : List zA_V} {fs : List (Option Nat)}, zb2 w as fs = true → as.length = fs.length ∧ ∀ (k : Nat) (a : zA_V) (f : Option Nat), as[k]? = some a → fs[k]? = some f → zbV w a f = true
  | [], [], _ => ⟨rfl, fun k a f h => by cases h⟩
  | a :: as, f :: fs, h => by
    obtain ⟨k1, k2⟩ := zb2_at (zw_and h).2
    refine ⟨congrArg (· + 1) k1, fun k b g hb hg => ?_⟩
    cases k with
    | zero => cases hb; cases hg; exact (zw_and h).1
    | succ k => exact k2 k b g hb hg
  | [], _ :: _, h => by cases h
  | _ :: _, [], h => by cases h
theorem zbH_at {w : Bool} {H : zA_H} (hA : zbA w 0 H zy_tm = true) {i : Nat} {a : zA_C} (h : H[i]? = some a) : ∃ t, zy_tm[i]? = some t ∧ zbC w i a t = true := by
  obtain ⟨hl, hk⟩ := zbA_at hA
  have hi := (List.getElem?_eq_some_iff.mp h).1
  have ht : zy_tm[i]? = some (zy_tm[i]'(by omega)) := List.getElem?_eq_getElem (by omega)
  have := hk i a _ h ht
  rw [Nat.zero_add] at this
  exact ⟨_, ht, this⟩
theorem zrv_f {i k : Nat} {a : zA_C} {v : zA_V} (h : zHT[i]? = some a) (h0 : a.1 = 0) (hk : a.2.2.2.1[k]? = some v) : zrv i k = v := by
  unfold zrv
  rw [h]
  dsimp only
  rw [if_pos h0, hk]
  rfl
theorem zrv_a {i k : Nat} {a : zA_C} (h : zHT[i]? = some a) (h0 : a.1 ≠ 0) : zrv i k = zx_el a k := by
  unfold zrv
  rw [h]
  dsimp only
  rw [if_neg h0]
theorem zrg_6 {i k : Nat} {v : zA_V} (h : zrv i k = v) (h6 : v.1 = 6) : (zrg i k).1 = zlo v ∧ (zrg i k).2 = zhi v := by
  unfold zrg zbd2
  rw [h, if_pos h6]
  exact ⟨rfl, rfl⟩
theorem zrn_of {i : Nat} {t : zy_T} (h : zy_tm[i]? = some t) : zrn i = if t.1 = 0 then t.2.2.length else t.2.1 := by
  unfold zrn
  rw [h]
/-- the functions' heap is as the explorer has it -/
theorem zb_to {s : zy_S} (hg : zRg s) (hw : zy_W s) : zL2 (zg_C (zy_hp s) []) zHT (zy_hp s) := by
  have hlen0 : zHT.length = (zy_hp s).length := by
    rw [(zbA_at zb_all).1]
    rw [zy_hp_eq]
    exact List.length_mapIdx.symm
  refine zL2.ofG hlen0 ?_
  intro i a x ha hx
  obtain ⟨t, ht, hc⟩ := zbH_at zb_all ha
  have hx' := zy_at (s := s) ht
  rw [hx] at hx'
  cases hx'
  unfold zbC at hc
  split at hc
  · next t0 =>
    obtain ⟨c1, c2⟩ := zw_and hc
    obtain ⟨c3, c4⟩ := zw_and c2
    obtain ⟨a0, a1⟩ := of_decide_eq_true c1
    obtain ⟨l1, l2⟩ := zb2_at c3
    have ecl : zy_cl s i t = .inr (a.2.1, zy_fs s i t.2.2) := by unfold zy_cl; rw [if_pos t0, a1]
    refine Or.inr (Or.inl ⟨a0, zy_fs s i t.2.2, ecl, zL2.ofG (by rw [zy_fs_len]; exact l1) (fun k v u hv hu => ?_), fun q hq => ?_⟩)
    · have hk : k < t.2.2.length := by have := (List.getElem?_eq_some_iff.mp hv).1; omega
      have hf : t.2.2[k]? = some (t.2.2[k]'hk) := List.getElem?_eq_getElem hk
      have hb := l2 k v _ hv hf
      have hu' := zy_fs_get (s := s) (c := i) hf
      rw [hu] at hu'
      generalize t.2.2[k] = f at hf hb hu'
      cases f with
      | some r =>
        have e := of_decide_eq_true hb
        cases hu'
        rw [e]
        exact zg_ofR
      | none =>
        have e : v.1 = 6 := by
          rcases zw_or hb with e | e
          · exact of_decide_eq_true e
          · cases e
        cases hu'
        have r := hg i k (by rw [zrn_of ht, if_pos t0]; exact hk)
        obtain ⟨q1, q2⟩ := zrg_6 (zrv_f ha a0 hv) e
        exact zvW e (by rw [← q1]; exact r.1) (by rw [← q2]; exact r.2)
    · obtain ⟨e, -⟩ := of_decide_eq_true (List.all_eq_true.mp c4 q hq)
      refine ⟨by rw [e], a.2.1, zy_fs s i t.2.2, ?_, rfl⟩
      rw [e]
      show (zy_hp s)[((i : Int)).toNat]? = _
      rw [Int.toNat_natCast, hx, ecl]
  · next t0 =>
    have el : (a.1 ≠ 0) → (∀ j, (zx_el a j).1 = 6) → t.1 = 1 → ∀ j, j < t.2.1 → zg_V [] (zx_el a j) (.int (s.1 i j)) := by
      intro a0 h6 t1 j hj
      have r := hg i j (by rw [zrn_of ht, if_neg t0]; exact hj)
      obtain ⟨q1, q2⟩ := zrg_6 (zrv_a ha a0) (h6 j)
      exact zvW (h6 j) (by rw [← q1]; exact r.1) (by rw [← q2]; exact r.2)
    have nilY : ∀ (n : Nat) (e : Nat → Value), a.2.2.2.2.all (fun q => q.2.1 == 6 && !(Nat.ble 1000000 q.1)) = true → zg_Y [] n a.2.2.2.2 e := by
      intro n e ho q hq hk
      have := (zw_and (List.all_eq_true.mp ho q hq)).2
      rw [Nat.ble_eq_true_of_le hk] at this
      cases this
    split at hc
    · next t1 =>
      have ecl : zy_cl s i t = .inl (0, t.2.1, z_I (s.1 i)) := by unfold zy_cl; rw [if_neg t0, if_pos t1]
      rcases zw_or hc with hc | hc
      · obtain ⟨a0, a1, a2⟩ := of_decide_eq_true hc
        refine Or.inl ⟨a0, by rw [a1]; exact hx, fun hn => ?_⟩
        rcases a2 with a2 | ⟨a2, a3, a4⟩
        · omega
        · exact Or.inl ⟨s.1 i, by rw [a2]; exact ecl, fun w => by have w : (zbh a).1 = 8 := w; omega, fun j hj => el (by omega) (zbel a3 a4) t1 j (by omega), nilY _ _ a4⟩
      · obtain ⟨a0, a1, a2, a3, a4⟩ := of_decide_eq_true hc
        have a5 : a.2.2.2.2.all (fun q => q.2.1 == 6 && !(Nat.ble 1000000 q.1)) = true := by rw [a4]; rfl
        exact Or.inr (Or.inr (Or.inl ⟨a0, a1, s.1 i, by rw [a2]; exact ecl, fun j hj => el (by omega) (zbel a3 a5) t1 j (by omega), nilY _ _ a5⟩))
    · next t1 =>
      split at hc
      · next t2 =>
        have ecl : zy_cl s i t = .inl (1, t.2.1, z_J (s.2.1 i)) := by unfold zy_cl; rw [if_neg t0, if_neg t1, if_pos t2]
        have elJ : (zbh a).1 = 8 → a.2.2.2.2 = [] → ∀ j, zg_V [] (zx_el a j) (.long (s.2.1 i j)) := by
          intro a3 a4 j
          unfold zx_el
          rw [a4]
          exact zvJ a3 _
        rcases zw_or hc with hc | hc
        · obtain ⟨a0, a1, a2, a3, a4⟩ := of_decide_eq_true hc
          exact Or.inl ⟨a0, by rw [a1]; exact hx, fun hn => Or.inr ⟨s.2.1 i, by rw [a2]; exact ecl, a3, fun j hj => elJ a3 a4 j, by rw [a4]; exact zg_Y.nil _ _ _⟩⟩
        · obtain ⟨a0, a1, a2, a3, a4⟩ := of_decide_eq_true hc
          exact Or.inr (Or.inr (Or.inr (Or.inl ⟨a0, a1, s.2.1 i, by rw [a2]; exact ecl, fun j hj => elJ a3 a4 j, by rw [a4]; exact zg_Y.nil _ _ _⟩)))
      · next t2 =>
        obtain ⟨t3, a0, a1, a2, a3, a4, a5⟩ := of_decide_eq_true hc
        have ecl : zy_cl s i t = .inl (2, t.2.1, z_O s.2.2) := by unfold zy_cl; rw [if_neg t0, if_neg t1, if_neg t2]
        refine Or.inr (Or.inr (Or.inr (Or.inr ⟨a0, a1, s.2.2, by rw [a2, ← a3]; exact ecl, fun j hj => ?_, ?_⟩)))
        · rw [a2] at hj
          rw [hw j hj, a5]
          rcases (by omega : j = 0 ∨ j = 1 ∨ j = 2 ∨ j = 3 ∨ j = 4 ∨ j = 5) with rfl | rfl | rfl | rfl | rfl | rfl <;> exact zg_ofR
        · rw [a5]
          intro q hq hk
          exfalso
          simp only [List.mem_cons, List.not_mem_nil, or_false] at hq
          rcases hq with rfl | rfl | rfl | rfl | rfl | rfl <;> exact absurd hk (by decide)
/-- the functions that a heap is -/
def zrdS (ph : List z_C) : zy_S := (fun i k => match ph[i]? with
    | some (.inr (_, fs)) => (match fs[k]? with
      | some (.int x) => x
      | _ => 0)
    | some (.inl (_, _, .inl f)) => f k
    | _ => 0, fun i k => match ph[i]? with
    | some (.inl (_, _, .inr (.inl f))) => f k
    | _ => 0, match ph[(30 : Nat)]? with
    | some (.inl (_, _, .inr (.inr (.inr (.inr f))))) => f
    | _ => fun _ => none)
/-- a told place of ints -/
def zto (c k : Nat) : Bool := match zHT[c]? with
  | some a => if a.1 = 0 then a.2.2.2.2.any (fun q => Nat.beq q.1 k) else a.1 == 8 && !((zbh a).1 == 8)
  | none => false
/-- what the cell i of H says of the functions s', beside s -/
def zbK (s s' : zy_S) (ρ : List Int) (i : Nat) (a : zA_C) : Prop :=
  (a.1 = 0 → (∀ k v, a.2.2.2.1[k]? = some v → v.1 = 6 ∨ v.1 = 0 → zg_V ρ v (.int (s'.1 i k))) ∧ ∀ q ∈ a.2.2.2.2, s'.1 i q.1 = s.1 i q.1) ∧
  (a.1 = 8 → ∀ t, zy_tm[i]? = some t → (t.1 = 1 → s'.1 i = s.1 i) ∧ (t.1 = 2 → s'.2.1 i = s.2.1 i)) ∧
  (a.1 = 1 → a.2.1 = 0 → ∀ j, j < a.2.2.1 → zg_V ρ (zx_el a j) (.int (s'.1 i j)))
theorem zb_cell {w : Bool} {s : zy_S} {ρ : List Int} {ph : List z_C} {i : Nat} {a : zA_C} {c : z_C} {t : zy_T} (ht : zy_tm[i]? = some t) (hc : zbC w i a t = true) (hx : ph[i]? = some c) (g : zg_C (zy_hp s) ρ a c) (h30 : t.1 = 3 → i = 30) : c = zy_cl (zrdS ph) i t ∧ zbK s (zrdS ph) ρ i a := by
  unfold zbC at hc
  split at hc
  · next t0 =>
    obtain ⟨c1, c2⟩ := zw_and hc
    obtain ⟨c3, c4⟩ := zw_and c2
    obtain ⟨a0, a1⟩ := of_decide_eq_true c1
    obtain ⟨l1, l2⟩ := zb2_at c3
    obtain ⟨fs, rfl, gf, gz⟩ := zg_C0 a0 g
    have lf : a.2.2.2.1.length = fs.length := zL2.len gf
    have rd : ∀ k, (zrdS ph).1 i k = (match fs[k]? with | some (.int x) => x | _ => 0) := by
      intro k
      show (match ph[i]? with | some (.inr (_, fs)) => (match fs[k]? with | some (.int x) => x | _ => 0) | some (.inl (_, _, .inl f)) => f k | _ => 0) = _
      rw [hx]
    have int_ : ∀ (k : Nat) (v : zA_V) (u : Value), a.2.2.2.1[k]? = some v → fs[k]? = some u → t.2.2[k]? = some none → u = .int ((zrdS ph).1 i k) ∧ zg_V ρ v u := by
      intro k v u hv hu hf
      obtain ⟨u', hu', gu⟩ := zL2.get gf hv
      rw [hu] at hu'
      cases hu'
      refine ⟨?_, gu⟩
      have hb := l2 k v none hv hf
      have : ∃ x : Int32, u = .int x := by
        rcases zw_or hb with e | e
        · obtain ⟨x, ex, -⟩ := zvW_inv (of_decide_eq_true e) gu
          exact ⟨x, ex⟩
        · obtain ⟨x, ex, -⟩ := zg_int (a := v) (by unfold zIs; rw [of_decide_eq_true (zw_and e).2]; rfl) gu
          exact ⟨x, ex⟩
      obtain ⟨x, rfl⟩ := this
      rw [rd k, hu]
    refine ⟨?_, fun _ => ⟨fun k v hv h60 => ?_, fun q hq => ?_⟩, fun h => by omega, fun h => by omega⟩
    · unfold zy_cl
      rw [if_pos t0, a1]
      congr 2
      apply List.ext_getElem?
      intro k
      cases hu : fs[k]? with
      | none =>
        have hlen := List.getElem?_eq_none_iff.mp hu
        rw [List.getElem?_eq_none (by rw [zy_fs_len]; omega)]
      | some u =>
        have hk := (List.getElem?_eq_some_iff.mp hu).1
        have hv : a.2.2.2.1[k]? = some (a.2.2.2.1[k]'(by omega)) := List.getElem?_eq_getElem (by omega)
        have hf : t.2.2[k]? = some (t.2.2[k]'(by omega)) := List.getElem?_eq_getElem (by omega)
        have hb := l2 k _ _ hv hf
        rw [zy_fs_get hf]
        generalize t.2.2[k]'(by omega) = f at hf hb
        generalize a.2.2.2.1[k]'(by omega) = v at hv hb
        cases f with
        | none =>
          rw [(int_ k v u hv hu hf).1]
          rfl
        | some r =>
          have e := of_decide_eq_true hb
          obtain ⟨u', hu', gu⟩ := zL2.get gf hv
          rw [hu] at hu'
          cases hu'
          rw [e] at gu
          rw [zg_ref rfl gu]
          rfl
    · obtain ⟨u, hu, gu⟩ := zL2.get gf hv
      have hk := (List.getElem?_eq_some_iff.mp hv).1
      have hf : t.2.2[k]? = some (t.2.2[k]'(by omega)) := List.getElem?_eq_getElem (by omega)
      have hb := l2 k _ _ hv hf
      generalize t.2.2[k]'(by omega) = f at hf hb
      cases f with
      | none =>
        obtain ⟨e1, e2⟩ := int_ k v u hv hu hf
        rw [← e1]
        exact e2
      | some r =>
        have e := of_decide_eq_true hb
        rw [e] at h60
        omega
    · obtain ⟨e, ef⟩ := of_decide_eq_true (List.all_eq_true.mp c4 q hq)
      obtain ⟨-, n, gs, z1, z2⟩ := gz q hq
      rw [e] at z1
      have z1 : (zy_hp s)[((i : Int)).toNat]? = some (.inr (n, gs)) := z1
      rw [Int.toNat_natCast, zy_at ht] at z1
      have z3 : zy_cl s i t = .inr (t.2.1, zy_fs s i t.2.2) := by unfold zy_cl; rw [if_pos t0]
      rw [z3] at z1
      cases z1
      rw [zy_fs_get ef] at z2
      rw [rd, z2]
      rfl
  · next t0 =>
    split at hc
    · next t1 =>
      have ecl : ∀ u : zy_S, zy_cl u i t = .inl (0, t.2.1, z_I (u.1 i)) := fun u => by unfold zy_cl; rw [if_neg t0, if_pos t1]
      have key : ∀ f : Nat → Int32, c = .inl (0, t.2.1, z_I f) → (zrdS ph).1 i = f := by
        intro f e
        funext k
        show (match ph[i]? with | some (.inr (_, fs)) => (match fs[k]? with | some (.int x) => x | _ => 0) | some (.inl (_, _, .inl f)) => f k | _ => 0) = _
        rw [hx, e]
        rfl
      rcases zw_or hc with hc | hc
      · obtain ⟨a0, a1, -⟩ := of_decide_eq_true hc
        rcases g with ⟨-, g, -⟩ | ⟨g1, -⟩ | ⟨g1, -⟩ | ⟨g1, -⟩ | ⟨g1, -⟩
        · rw [a1, zy_at ht, ecl s] at g
          have e := (Option.some.inj g).symm
          have k := key _ e
          refine ⟨by rw [ecl, k]; exact e, fun h => by omega, fun _ t' ht' => ?_, fun h => by omega⟩
          rw [ht] at ht'
          cases ht'
          exact ⟨fun _ => k, fun h => by omega⟩
        all_goals omega
      · obtain ⟨a0, a1, a2, a3, a4⟩ := of_decide_eq_true hc
        obtain ⟨f, e, gf, -⟩ := zg_CI a0 a1 g
        rw [a2] at e
        have k := key _ e
        refine ⟨by rw [ecl, k]; exact e, fun h => by omega, fun h => by omega, fun _ _ j hj => ?_⟩
        rw [k]
        exact gf j hj
    · next t1 =>
      split at hc
      · next t2 =>
        have ecl : ∀ u : zy_S, zy_cl u i t = .inl (1, t.2.1, z_J (u.2.1 i)) := fun u => by unfold zy_cl; rw [if_neg t0, if_neg t1, if_pos t2]
        have key : ∀ f : Nat → Int64, c = .inl (1, t.2.1, z_J f) → (zrdS ph).2.1 i = f := by
          intro f e
          funext k
          show (match ph[i]? with | some (.inl (_, _, .inr (.inl f))) => f k | _ => 0) = _
          rw [hx, e]
          rfl
        rcases zw_or hc with hc | hc
        · obtain ⟨a0, a1, -⟩ := of_decide_eq_true hc
          rcases g with ⟨-, g, -⟩ | ⟨g1, -⟩ | ⟨g1, -⟩ | ⟨g1, -⟩ | ⟨g1, -⟩
          · rw [a1, zy_at ht, ecl s] at g
            have e := (Option.some.inj g).symm
            have k := key _ e
            refine ⟨by rw [ecl, k]; exact e, fun h => by omega, fun _ t' ht' => ?_, fun h => by omega⟩
            rw [ht] at ht'
            cases ht'
            exact ⟨fun h => by omega, fun _ => k⟩
          all_goals omega
        · obtain ⟨a0, a1, a2, a3, a4⟩ := of_decide_eq_true hc
          obtain ⟨f, e, gf, -⟩ := zg_CJ a0 a1 g
          rw [a2] at e
          have k := key _ e
          exact ⟨by rw [ecl, k]; exact e, fun h => by omega, fun h => by omega, fun _ h => by omega⟩
      · next t2 =>
        obtain ⟨t3, a0, a1, a2, a3, a4, a5⟩ := of_decide_eq_true hc
        obtain ⟨f, e, gf, -⟩ := zg_CO a0 a1 g
        have ei := h30 t3
        subst ei
        have k : (zrdS ph).2.2 = f := by
          show (match ph[(30 : Nat)]? with | some (.inl (_, _, .inr (.inr (.inr (.inr f))))) => f | _ => fun _ => none) = _
          rw [hx, e]
          rfl
        have ecl : zy_cl (zrdS ph) 30 t = .inl (2, t.2.1, z_O (zrdS ph).2.2) := by unfold zy_cl; rw [if_neg t0, if_neg t1, if_neg t2]
        exact ⟨by rw [ecl, k, a3, ← a2]; exact e, fun h => by omega, fun h => by omega, fun _ h => by omega⟩
theorem z30_of {i : Nat} {t : zy_T} (h : zy_tm[i]? = some t) (h3 : t.1 = 3) : i = 30 := by
  have k : (List.range 64).all (fun i => match zy_tm[i]? with | some t => !(Nat.beq t.1 3) || Nat.beq i 30 | none => true) = true := by decide +kernel
  have hl : i < 64 := (List.getElem?_eq_some_iff.mp h).1
  have := List.all_eq_true.mp k i (List.mem_range.mpr hl)
  rw [h] at this
  rcases zw_or this with e | e
  · rw [h3] at e; cases e
  · exact Nat.eq_of_beq_eq_true e
/-- any heap that fits is the functions' -/
theorem zb_back {w : Bool} {s : zy_S} {H : zA_H} (hA : zbA w 0 H zy_tm = true) {ρ : List Int} {ph : List z_C} (g : zL2 (zg_C (zy_hp s) ρ) H ph) : ph = zy_hp (zrdS ph) ∧ ∀ (i : Nat) (a : zA_C), H[i]? = some a → zbK s (zrdS ph) ρ i a := by
  have hl := (zbA_at hA).1
  have hlen := zL2.len g
  constructor
  · apply List.ext_getElem?
    intro i
    cases hx : ph[i]? with
    | none =>
      have := List.getElem?_eq_none_iff.mp hx
      rw [List.getElem?_eq_none (by simp [zy_hp_eq]; omega)]
    | some c =>
      obtain ⟨a, ha, gc⟩ := zL2.getR g hx
      obtain ⟨t, ht, hc⟩ := zbH_at hA ha
      rw [zy_at ht]
      rw [← (zb_cell ht hc hx gc (z30_of ht)).1]
  · intro i a ha
    obtain ⟨c, hx, gc⟩ := zL2.get g ha
    obtain ⟨t, ht, hc⟩ := zbH_at hA ha
    exact (zb_cell ht hc hx gc (z30_of ht)).2
theorem zb_W {s : zy_S} {H : zA_H} (h30 : H[30]? = zHT[30]?) {ρ : List Int} {ph : List z_C} (g : zL2 (zg_C (zy_hp s) ρ) H ph) : zy_W (zrdS ph) := by
  have ha : zHT[30]? = some (1, 2, 6, [(3, 0)], [(5, (2, 44)), (4, (2, 42)), (3, (2, 40)), (2, (2, 38)), (1, (2, 36)), (0, (2, 34))]) := rfl
  rw [ha] at h30
  obtain ⟨c, hx, gc⟩ := zL2.get g h30
  obtain ⟨f, e, gf, -⟩ := zg_CO rfl rfl gc
  have k : (zrdS ph).2.2 = f := by
    show (match ph[(30 : Nat)]? with | some (.inl (_, _, .inr (.inr (.inr (.inr f))))) => f | _ => fun _ => none) = _
    rw [hx, e]
    rfl
  intro j hj
  rw [k]
  have back : ∀ r : Nat, zg_V ρ ((2, (r : Int)) : zA_V) (z_rf (f j)) → f j = some r := by
    intro r gr
    have e := zg_ref rfl gr
    cases hf : f j with
    | none => rw [hf] at e; cases e
    | some q =>
      rw [hf] at e
      have e : Value.ref q = .ref ((r : Int)).toNat := e
      cases e
      rw [Int.toNat_natCast]
  have gj := gf j hj
  rcases (by omega : j = 0 ∨ j = 1 ∨ j = 2 ∨ j = 3 ∨ j = 4 ∨ j = 5) with rfl | rfl | rfl | rfl | rfl | rfl
  · exact back 34 gj
  · exact back 36 gj
  · exact back 38 gj
  · exact back 40 gj
  · exact back 42 gj
  · exact back 44 gj
