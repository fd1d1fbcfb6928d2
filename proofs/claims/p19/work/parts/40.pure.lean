/-! PARTS 40.0.pure to 40.1.fills -/
section
/-! PART 18v.0: the heap between calls as functions: ints by cell and place, longs by cell and place, the shelves' references; a row an instruction. Made by wip/v4/gen_v0.py. -/
abbrev zy_S : Type := (Nat → Nat → Int32) × (Nat → Nat → Int64) × (Nat → Option Nat)
/-- a cell's shape: (0, class, fields: none an int, some r the reference r); (1, n, _) ints; (2, n, _) longs; (3, n, _) references -/
abbrev zy_T : Type := Nat × Nat × List (Option Nat)
def zy_tm : List zy_T := [
  (0, 0, [some 4, some 8, some 12, some 15, some 18, some 19, some 20, some 25, some 30, some 33]),
  (0, 1, [some 5, some 6, some 7, none, none, none]),
  (1, 24, []),
  (1, 8, []),
  (1, 8, []),
  (0, 2, [some 9, some 10, some 11, none, none]),
  (1, 128, []),
  (1, 128, []),
  (1, 6, []),
  (0, 3, [some 13, some 14, none, none, none, none]),
  (1, 120, []),
  (1, 128, []),
  (0, 4, [some 4, some 8, some 16, some 17, none, none]),
  (1, 1536, []),
  (1, 70, []),
  (0, 5, [some 4, some 15, none, none]),
  (0, 6, [some 4]),
  (0, 7, [some 4, some 21, none, none, none, some 22, some 23, some 24]),
  (1, 5, []),
  (1, 24, []),
  (1, 8, []),
  (1, 5, []),
  (0, 8, [some 4, some 26, some 27, some 28, some 29, none, none]),
  (1, 40, []),
  (1, 40, []),
  (1, 40, []),
  (1, 40, []),
  (0, 9, [some 31, some 32, none, none]),
  (1, 50, []),
  (1, 24, []),
  (3, 6, []),
  (0, 10, [some 35, none, none, none]),
  (2, 60, []),
  (0, 10, [some 37, none, none, none]),
  (2, 60, []),
  (0, 10, [some 39, none, none, none]),
  (2, 60, []),
  (0, 10, [some 41, none, none, none]),
  (2, 60, []),
  (0, 10, [some 43, none, none, none]),
  (2, 60, []),
  (0, 10, [some 45, none, none, none]),
  (2, 60, []),
  (0, 11, [some 47, some 48, some 49, some 50, none, none, none, none, some 51, none, some 52, none, none, none, none, none, none, some 53, some 54, some 55, some 56, some 57, none, none, none, some 58, some 59, some 60, none, some 61, some 62, none, none, none, some 63, some 64, some 65, some 66]),
  (1, 41, []),
  (1, 40, []),
  (1, 40, []),
  (1, 40, []),
  (1, 120, []),
  (1, 120, []),
  (1, 6, []),
  (1, 24, []),
  (1, 70, []),
  (1, 96, []),
  (1, 5, []),
  (1, 8, []),
  (1, 24, []),
  (1, 5, []),
  (1, 50, []),
  (1, 24, []),
  (1, 6, []),
  (1, 6, []),
  (2, 360, []),
  (2, 60, [])]
def zy_fv (s : zy_S) (c k : Nat) : Option Nat → Value
  | none => .int (s.1 c k)
  | some r => .ref r
def zy_fs (s : zy_S) (c : Nat) (fs : List (Option Nat)) : List Value := fs.mapIdx (fun k f => zy_fv s c k f)
def zy_cl (s : zy_S) (c : Nat) (t : zy_T) : z_C := if t.1 = 0 then .inr (t.2.1, zy_fs s c t.2.2) else if t.1 = 1 then .inl (0, t.2.1, z_I (s.1 c)) else if t.1 = 2 then .inl (1, t.2.1, z_J (s.2.1 c)) else .inl (2, t.2.1, z_O s.2.2)
theorem zy_hx : ∃ f : zy_S → List z_C, ∀ s, f s = zy_tm.mapIdx (fun i t => zy_cl s i t) := ⟨fun s => zy_tm.mapIdx (fun i t => zy_cl s i t), fun _ => rfl⟩
/-- the heap; closed, so that nothing evaluates it -/
noncomputable def zy_hp : zy_S → List z_C := Classical.choose zy_hx
theorem zy_hp_eq (s : zy_S) : zy_hp s = zy_tm.mapIdx (fun i t => zy_cl s i t) := Classical.choose_spec zy_hx s
theorem zy_at {s : zy_S} {c : Nat} {t : zy_T} (h : zy_tm[c]? = some t) : (zy_hp s)[c]? = some (zy_cl s c t) := by
  simp only [zy_hp_eq, List.getElem?_mapIdx, h, Option.map_some]
def zy_up (s : zy_S) (c k : Nat) (x : Int32) : zy_S := (fun a b => bif Nat.beq a c && Nat.beq b k then x else s.1 a b, s.2)
def zy_uj (s : zy_S) (c k : Nat) (x : Int64) : zy_S := (s.1, fun a b => bif Nat.beq a c && Nat.beq b k then x else s.2.1 a b, s.2.2)
/-- the whole row c -/
def zy_ua (s : zy_S) (c : Nat) (f : Nat → Int32) : zy_S := (fun a b => bif Nat.beq a c then f b else s.1 a b, s.2)
def zy_ub (s : zy_S) (c : Nat) (f : Nat → Int64) : zy_S := (s.1, fun a b => bif Nat.beq a c then f b else s.2.1 a b, s.2.2)
theorem zy_nb {a b : Nat} (h : ¬ a = b) : Nat.beq a b = false := by
  cases hh : Nat.beq a b with
  | false => rfl
  | true => exact absurd (Nat.eq_of_beq_eq_true hh) h
theorem zy_bq2 {α : Type} (a c b k : Nat) (x y : α) : (bif Nat.beq a c && Nat.beq b k then x else y) = if a = c ∧ b = k then x else y := by
  by_cases h1 : a = c
  · by_cases h2 : b = k
    · subst h1; subst h2; simp
    · have e : Nat.beq b k = false := zy_nb h2
      simp [h2, e]
  · have e : Nat.beq a c = false := zy_nb h1
    simp [h1, e]
theorem zy_bq1 {α : Type} (a c : Nat) (x y : α) : (bif Nat.beq a c then x else y) = if a = c then x else y := by
  by_cases h1 : a = c
  · subst h1; simp
  · have e : Nat.beq a c = false := zy_nb h1
    simp [h1, e]
theorem zy_up_at (s : zy_S) (c k : Nat) (x : Int32) (a b : Nat) : (zy_up s c k x).1 a b = if a = c ∧ b = k then x else s.1 a b := zy_bq2 ..
theorem zy_uj_at (s : zy_S) (c k : Nat) (x : Int64) (a b : Nat) : (zy_uj s c k x).2.1 a b = if a = c ∧ b = k then x else s.2.1 a b := zy_bq2 ..
theorem zy_ua_at (s : zy_S) (c : Nat) (f : Nat → Int32) (a b : Nat) : (zy_ua s c f).1 a b = if a = c then f b else s.1 a b := zy_bq1 ..
theorem zy_ub_at (s : zy_S) (c : Nat) (f : Nat → Int64) (a b : Nat) : (zy_ub s c f).2.1 a b = if a = c then f b else s.2.1 a b := zy_bq1 ..
theorem zy_fs_get {s : zy_S} {c k : Nat} {fs : List (Option Nat)} {f : Option Nat} (h : fs[k]? = some f) : (zy_fs s c fs)[k]? = some (zy_fv s c k f) := by
  simp only [zy_fs, List.getElem?_mapIdx, h, Option.map_some]
theorem zy_fs_len (s : zy_S) (c : Nat) (fs : List (Option Nat)) : (zy_fs s c fs).length = fs.length := by simp [zy_fs]
theorem zy_setG {s s' : zy_S} {c : Nat} {t : zy_T} {x : z_C} (h : zy_tm[c]? = some t) (hx : zy_cl s' c t = x) (ho : ∀ j u, j ≠ c → zy_cl s' j u = zy_cl s j u) : (zy_hp s).set c x = zy_hp s' := by
  apply List.ext_getElem?
  intro j
  rw [List.getElem?_set]
  by_cases e : c = j
  · subst e
    have hl : c < (zy_hp s).length := by
      have := (List.getElem?_eq_some_iff.mp h).1
      simpa [zy_hp_eq] using this
    rw [if_pos rfl, if_pos hl, zy_at h, hx]
  · rw [if_neg e]
    simp only [zy_hp_eq, List.getElem?_mapIdx]
    cases hj : zy_tm[j]? with
    | none => rfl
    | some u => simp only [Option.map_some]; rw [ho j u (fun q => e q.symm)]
theorem zy_clO {s s' : zy_S} {j : Nat} (h1 : s'.1 j = s.1 j) (h2 : s'.2.1 j = s.2.1 j) (h3 : s'.2.2 = s.2.2) (u : zy_T) : zy_cl s' j u = zy_cl s j u := by
  have e : ∀ k f, zy_fv s' j k f = zy_fv s j k f := by
    intro k f
    cases f with
    | none => exact congrArg (fun g => Value.int (g k)) h1
    | some r => rfl
  unfold zy_cl zy_fs
  simp only [e, h1, h2, h3]
theorem zy_up_row {s : zy_S} {c k j : Nat} {x : Int32} (h : j ≠ c) : (zy_up s c k x).1 j = s.1 j := by
  funext b
  rw [zy_up_at, if_neg (fun q => h q.1)]
theorem zy_uj_row {s : zy_S} {c k j : Nat} {x : Int64} (h : j ≠ c) : (zy_uj s c k x).2.1 j = s.2.1 j := by
  funext b
  rw [zy_uj_at, if_neg (fun q => h q.1)]
theorem zy_ua_row {s : zy_S} {c j : Nat} {f : Nat → Int32} (h : j ≠ c) : (zy_ua s c f).1 j = s.1 j := by
  funext b
  rw [zy_ua_at, if_neg h]
theorem zy_ub_row {s : zy_S} {c j : Nat} {f : Nat → Int64} (h : j ≠ c) : (zy_ub s c f).2.1 j = s.2.1 j := by
  funext b
  rw [zy_ub_at, if_neg h]
theorem zy_setF {s : zy_S} {c k ci : Nat} {fs : List (Option Nat)} {x : Int32} (h : zy_tm[c]? = some (0, ci, fs)) (hf : fs[k]? = some none) : (zy_hp s).set c (.inr (ci, (zy_fs s c fs).set k (.int x))) = zy_hp (zy_up s c k x) := by
  refine zy_setG h ?_ (fun j u hj => zy_clO (zy_up_row hj) rfl rfl u)
  show (Sum.inr (ci, zy_fs (zy_up s c k x) c fs) : z_C) = _
  congr 2
  apply List.ext_getElem?
  intro j
  rw [List.getElem?_set]
  simp only [zy_fs, List.getElem?_mapIdx, List.length_mapIdx]
  by_cases e : k = j
  · subst e
    have hl := (List.getElem?_eq_some_iff.mp hf).1
    rw [if_pos rfl, if_pos hl, hf]
    simp [zy_fv, zy_up_at]
  · rw [if_neg e]
    cases hj : fs[j]? with
    | none => rfl
    | some u =>
      cases u with
      | none => simp [zy_fv, zy_up_at, show ¬ j = k from fun q => e q.symm]
      | some r => rfl
theorem zy_setA {s : zy_S} {c n j : Nat} {fs : List (Option Nat)} {x : Int32} (h : zy_tm[c]? = some (1, n, fs)) : (zy_hp s).set c (.inl (0, n, z_I (upd (s.1 c) j x))) = zy_hp (zy_up s c j x) := by
  refine zy_setG h ?_ (fun j u hj => zy_clO (zy_up_row hj) rfl rfl u)
  show (Sum.inl (0, n, z_I ((zy_up s c j x).1 c)) : z_C) = _
  have e : (zy_up s c j x).1 c = upd (s.1 c) j x := by funext b; rw [zy_up_at]; simp [upd]
  rw [e]
theorem zy_setJ {s : zy_S} {c n j : Nat} {fs : List (Option Nat)} {x : Int64} (h : zy_tm[c]? = some (2, n, fs)) : (zy_hp s).set c (.inl (1, n, z_J (vp_updL (s.2.1 c) j x))) = zy_hp (zy_uj s c j x) := by
  refine zy_setG h ?_ (fun a u ha => zy_clO (s := s) (s' := zy_uj s c j x) (j := a) rfl (zy_uj_row ha) rfl u)
  show (Sum.inl (1, n, z_J ((zy_uj s c j x).2.1 c)) : z_C) = _
  have e : (zy_uj s c j x).2.1 c = vp_updL (s.2.1 c) j x := by funext b; rw [zy_uj_at]; simp [vp_updL]
  rw [e]
theorem zy_setR {s : zy_S} {c n : Nat} {fs : List (Option Nat)} {f : Nat → Int32} (h : zy_tm[c]? = some (1, n, fs)) : (zy_hp s).set c (.inl (0, n, z_I f)) = zy_hp (zy_ua s c f) := by
  refine zy_setG h ?_ (fun j u hj => zy_clO (zy_ua_row hj) rfl rfl u)
  show (Sum.inl (0, n, z_I ((zy_ua s c f).1 c)) : z_C) = _
  have e : (zy_ua s c f).1 c = f := by funext b; rw [zy_ua_at]; simp
  rw [e]
theorem zy_setQ {s : zy_S} {c n : Nat} {fs : List (Option Nat)} {f : Nat → Int64} (h : zy_tm[c]? = some (2, n, fs)) : (zy_hp s).set c (.inl (1, n, z_J f)) = zy_hp (zy_ub s c f) := by
  refine zy_setG h ?_ (fun a u ha => zy_clO (s := s) (s' := zy_ub s c f) (j := a) rfl (zy_ub_row ha) rfl u)
  show (Sum.inl (1, n, z_J ((zy_ub s c f).2.1 c)) : z_C) = _
  have e : (zy_ub s c f).2.1 c = f := by funext b; rw [zy_ub_at]; simp
  rw [e]
/-- locals by place -/
def zy_lf : Nat → List (Option Value) → List (Nat × Value)
  | _, [] => []
  | i, some v :: r => (i, v) :: zy_lf (i + 1) r
  | i, none :: r => zy_lf (i + 1) r
theorem zy_lf_look : ∀ {L : List (Option Value)} {i j : Nat} {v : Value}, L[j]? = some (some v) → (zy_lf i L).lookup (i + j) = some v
  | [], _, _, _, h => by cases h
  | some w :: L, i, 0, v, h => by
    cases h
    unfold zy_lf
    rw [Nat.add_zero, List.lookup_cons, beq_self_eq_true]
  | none :: L, i, 0, v, h => by cases h
  | some w :: L, i, j + 1, v, h => by
    unfold zy_lf
    have e : ((i + (j + 1)) == i) = false := by simp
    rw [List.lookup_cons, e]
    have := zy_lf_look (i := i + 1) (j := j) (L := L) h
    rw [show i + (j + 1) = i + 1 + j by omega]
    exact this
  | none :: L, i, j + 1, v, h => by
    unfold zy_lf
    have := zy_lf_look (i := i + 1) (j := j) (L := L) h
    rw [show i + (j + 1) = i + 1 + j by omega]
    exact this
theorem zy_look {L : List (Option Value)} {j : Nat} {v : Value} (h : L[j]? = some (some v)) : (zy_lf 0 L).lookup j = some v := by
  have := zy_lf_look (i := 0) h
  rwa [Nat.zero_add] at this
theorem zy_lf_mem : ∀ {L : List (Option Value)} {i : Nat} {q : Nat × Value}, q ∈ zy_lf i L ↔ ∃ j, L[j]? = some (some q.2) ∧ q.1 = i + j
  | [], i, q => by simp [zy_lf]
  | some w :: L, i, q => by
    unfold zy_lf
    rw [List.mem_cons, zy_lf_mem]
    constructor
    · rintro (rfl | ⟨j, h1, h2⟩)
      · exact ⟨0, rfl, rfl⟩
      · exact ⟨j + 1, h1, by omega⟩
    · rintro ⟨j, h1, h2⟩
      cases j with
      | zero =>
        left
        have : w = q.2 := by simpa using h1
        rw [this, ← show q.1 = i from h2]
      | succ j => exact Or.inr ⟨j, h1, by omega⟩
  | none :: L, i, q => by
    unfold zy_lf
    rw [zy_lf_mem]
    constructor
    · rintro ⟨j, h1, h2⟩
      exact ⟨j + 1, h1, by omega⟩
    · rintro ⟨j, h1, h2⟩
      cases j with
      | zero => cases h1
      | succ j => exact ⟨j, h1, by omega⟩
/-- no long lies on the place i from the one ahead -/
def zy_c1 (L : List (Option Value)) : Nat → Bool
  | 0 => true
  | j + 1 => match L[j]? with
    | some (some (.int _)) => true
    | some (some (.ref _)) => true
    | some none => true
    | _ => false
theorem zy_c1_g {L : List (Option Value)} {i j : Nat} {v : Value} (h : zy_c1 L i = true) (hj : L[j]? = some (some v)) : ¬ (j + 1 = i ∧ v.category = 2) := by
  rintro ⟨rfl, hc⟩
  cases v with
  | int x => exact absurd hc (show ¬ (1 = 2) by decide)
  | ref x => exact absurd hc (show ¬ (1 = 2) by decide)
  | _ => simp [zy_c1, hj] at h
theorem zy_st1 {L : List (Option Value)} {i : Nat} {v : Value} (h : zy_c1 L i = true) : ∀ q ∈ zy_lf 0 (L.set i (some v)), q ∈ z_st1 (zy_lf 0 L) i v := by
  intro q hq
  obtain ⟨j, h1, h2⟩ := zy_lf_mem.mp hq
  rw [Nat.zero_add] at h2
  rw [List.getElem?_set] at h1
  unfold z_st1
  by_cases e : i = j
  · subst e
    rw [if_pos rfl] at h1
    split at h1
    · cases h1
      rw [← h2]
      exact List.mem_cons_self
    · cases h1
  · rw [if_neg e] at h1
    refine List.mem_cons_of_mem _ (List.mem_filter.mpr ⟨zy_lf_mem.mpr ⟨j, h1, by omega⟩, ?_⟩)
    have h3 := zy_c1_g h h1
    rw [← h2] at h3 e
    simp only [Bool.and_eq_true, Bool.not_eq_true', beq_eq_false_iff_ne, Bool.and_eq_false_iff, ne_eq]
    refine ⟨fun q => e q.symm, ?_⟩
    by_cases hc : q.1 + 1 = i
    · exact Or.inr (fun w => h3 ⟨hc, w⟩)
    · exact Or.inl hc
theorem zy_st2 {L : List (Option Value)} {i : Nat} {v : Value} (h : zy_c1 L i = true) : ∀ q ∈ zy_lf 0 ((L.set i (some v)).set (i + 1) none), q ∈ z_st2 (zy_lf 0 L) i v := by
  intro q hq
  obtain ⟨j, h1, h2⟩ := zy_lf_mem.mp hq
  rw [Nat.zero_add] at h2
  rw [List.getElem?_set] at h1
  unfold z_st2
  by_cases e1 : i + 1 = j
  · rw [if_pos e1] at h1
    split at h1 <;> cases h1
  · rw [if_neg e1, List.getElem?_set] at h1
    by_cases e : i = j
    · subst e
      rw [if_pos rfl] at h1
      split at h1
      · cases h1
        rw [← h2]
        exact List.mem_cons_self
      · cases h1
    · rw [if_neg e] at h1
      refine List.mem_cons_of_mem _ (List.mem_filter.mpr ⟨zy_lf_mem.mpr ⟨j, h1, by omega⟩, ?_⟩)
      have h3 := zy_c1_g h h1
      rw [← h2] at h3 e e1
      simp only [Bool.and_eq_true, Bool.not_eq_true', beq_eq_false_iff_ne, Bool.and_eq_false_iff, ne_eq]
      refine ⟨fun q => e q.symm, fun q => e1 q.symm, ?_⟩
      by_cases hc : q.1 + 1 = i
      · exact Or.inr (fun w => h3 ⟨hc, w⟩)
      · exact Or.inl hc
/-- fewer locals -/
def zy_le : List (Option Value) → List (Option Value) → Prop
  | [], _ => True
  | none :: r, _ :: r' => zy_le r r'
  | none :: r, [] => zy_le r []
  | some v :: r, some w :: r' => v = w ∧ zy_le r r'
  | some _ :: _, _ => False
theorem zy_le_at : ∀ {A B : List (Option Value)} {j : Nat} {v : Value}, zy_le A B → A[j]? = some (some v) → B[j]? = some (some v)
  | [], _, _, _, _, h => by cases h
  | none :: A, [], j, v, g, h => by
    cases j with
    | zero => cases h
    | succ j => have := zy_le_at (A := A) (B := []) (j := j) g h; cases this
  | none :: A, b :: B, j, v, g, h => by
    cases j with
    | zero => cases h
    | succ j => exact zy_le_at (A := A) (B := B) (j := j) g h
  | some a :: A, [], j, v, g, h => g.elim
  | some a :: A, none :: B, j, v, g, h => g.elim
  | some a :: A, some b :: B, j, v, g, h => by
    obtain ⟨rfl, g2⟩ := g
    cases j with
    | zero => exact h
    | succ j => exact zy_le_at (A := A) (B := B) (j := j) g2 h
theorem zy_le_sub {A B : List (Option Value)} (g : zy_le A B) : ∀ q ∈ zy_lf 0 A, q ∈ zy_lf 0 B := by
  intro q hq
  obtain ⟨j, h1, h2⟩ := zy_lf_mem.mp hq
  exact zy_lf_mem.mpr ⟨j, zy_le_at g h1, h2⟩
noncomputable def zy_g (m pc : Nat) : Option zI_ := bif Nat.blt m 267 && Nat.blt pc (zbd m) then zi_get m pc else none
theorem zy_ck {m pc op nx : Nat} {o : List Int} (h : zy_g m pc = some (op, nx, o)) : m < 267 ∧ ∃ ins len, decode (zm m).2.1 pc = .ok (ins, len) ∧ zcko (zm m) pc op nx o ins len = true := by
  unfold zy_g at h
  cases hb : (Nat.blt m 267 && Nat.blt pc (zbd m)) with
  | false => rw [hb] at h; cases h
  | true =>
    rw [hb] at h
    obtain ⟨h1, h2⟩ := zw_and hb
    have h1 : m < 267 := Nat.le_of_ble_eq_true h1
    have h2 : pc < zbd m := Nat.le_of_ble_eq_true h2
    have hk := zall m h1 pc h2
    unfold zchk at hk
    have h : zi_get m pc = some (op, nx, o) := h
    rw [h] at hk
    dsimp only at hk
    refine ⟨h1, ?_⟩
    split at hk
    · next q hq => exact ⟨q.1, q.2, hq, hk⟩
    · cases hk
/-- from here the method returns an answer and a heap of which P holds -/
def zyR (X : zx_X) (d m pc : Nat) (lv : List (Option Value)) (st : List Value) (s : zy_S) (P : Option Value → zy_S → Prop) : Prop :=
  ∀ (l : Launch) (Q : Option Value → List z_C → Prop), (∀ v s', P v s' → Q v (zy_hp s')) → ZW l d (zm m) X (zmc m).1 (zmc m).2 Q pc (zy_lf 0 lv) st (zy_hp s) (zmc m).1 (zmc m).2
/-- it returns v, with s' -/
def zyE (v : Option Value) (s' : zy_S) : Option Value → zy_S → Prop := fun u t => u = v ∧ t = s'
def zy_in (j : Int32) (n : Nat) : Bool := decide (0 ≤ j.toInt ∧ j.toInt < n)
theorem zy_in_vp {j : Int32} {n : Nat} (h : zy_in j n = true) : vp_in j n := vp_in_iff.mpr (of_decide_eq_true h)
theorem zy_if {α : Type} {c : Prop} {hc : Decidable c} {a : Option α} {x : α} (h : @ite _ c hc a none = some x) : c ∧ a = some x := by
  split at h
  · exact ⟨by assumption, h⟩
  · cases h
theorem zy_pi {α β : Type} {a r : α} {b t : β} (h : some (a, b) = some (r, t)) : a = r ∧ b = t := Prod.mk.inj (Option.some.inj h)
theorem zy_bind {α β : Type} {a : Option α} {f : α → Option β} {x : β} (h : a.bind f = some x) : ∃ p, a = some p ∧ f p = some x := Option.bind_eq_some_iff.mp h
section ZY
variable {X : zx_X} {d d' m pc nx c n : Nat} {lv L : List (Option Value)} {st rest : List Value} {s s1 : zy_S} {u : Option Value} {P P' : Option Value → zy_S → Prop} {fs : List (Option Nat)}
theorem zy_deep (h : d ≤ d') (k : zyR X d m pc lv st s P) : zyR X d' m pc lv st s P := fun l Q hQ => ZW.deeper h (k l Q hQ)
theorem zy_sub (h : zy_le L lv) (k : zyR X d m pc L st s P) : zyR X d m pc lv st s P := fun l Q hQ => ZW.lsub (zy_le_sub h) (k l Q hQ)
theorem zy_w {pc' : Nat} {lv' : List (Option Value)} {st' : List Value} {s2 : zy_S} (k : zyR X d m pc' lv' st' s2 P) (h : ∀ (l : Launch) (Q : Option Value → List z_C → Prop), ZW l d (zm m) X (zmc m).1 (zmc m).2 Q pc' (zy_lf 0 lv') st' (zy_hp s2) (zmc m).1 (zmc m).2 → ZW l d (zm m) X (zmc m).1 (zmc m).2 Q pc (zy_lf 0 lv) st (zy_hp s) (zmc m).1 (zmc m).2) : zyR X d m pc lv st s P := fun l Q hQ => h l Q (k l Q hQ)
theorem zy_0 {i : Int} {x : Nat} (h : zy_g m pc = some (0, nx, [i])) (hv : lv[i.toNat]? = some (some (.ref x))) (k : zyR X d m nx lv (.ref x :: st) s P) : zyR X d m pc lv st s P := by
  obtain ⟨hm, ins, len, hd, hc⟩ := zy_ck h
  have hc : ck0 (zm m) pc nx [i] ins len = true := hc
  unfold ck0 at hc
  rcases zw_or hc with h | h
  · obtain ⟨rfl, rfl, e1, rfl⟩ := of_decide_eq_true h
    exact zy_w k (fun l Q k => zs_aload_n (by omega) (zy_look hv) hd k)
  · obtain ⟨rfl, rfl, rfl⟩ := of_decide_eq_true h
    exact zy_w k (fun l Q k => zs_aload (zy_look hv) hd k)
theorem zy_2 {i : Int} {x : Int32} (h : zy_g m pc = some (2, nx, [i])) (hv : lv[i.toNat]? = some (some (.int x))) (k : zyR X d m nx lv (.int x :: st) s P) : zyR X d m pc lv st s P := by
  obtain ⟨hm, ins, len, hd, hc⟩ := zy_ck h
  have hc : ck2 (zm m) pc nx [i] ins len = true := hc
  unfold ck2 at hc
  rcases zw_or hc with h | h
  · obtain ⟨rfl, rfl, e1, rfl⟩ := of_decide_eq_true h
    exact zy_w k (fun l Q k => zs_iload_n (by omega) (zy_look hv) hd k)
  · obtain ⟨rfl, rfl, rfl⟩ := of_decide_eq_true h
    exact zy_w k (fun l Q k => zs_iload (zy_look hv) hd k)
theorem zy_37 {i : Int} {x : Int64} (h : zy_g m pc = some (37, nx, [i])) (hv : lv[i.toNat]? = some (some (.long x))) (k : zyR X d m nx lv (.long x :: st) s P) : zyR X d m pc lv st s P := by
  obtain ⟨hm, ins, len, hd, hc⟩ := zy_ck h
  have hc : ck37 (zm m) pc nx [i] ins len = true := hc
  unfold ck37 at hc
  rcases zw_or hc with h | h
  · obtain ⟨rfl, rfl, e1, rfl⟩ := of_decide_eq_true h
    exact zy_w k (fun l Q k => zs_lload_n (by omega) (zy_look hv) hd k)
  · obtain ⟨rfl, rfl, rfl⟩ := of_decide_eq_true h
    exact zy_w k (fun l Q k => zs_lload (zy_look hv) hd k)
theorem zy_23 {i : Int} {x : Int32} (h : zy_g m pc = some (23, nx, [i])) (hl : zy_c1 lv i.toNat = true) (k : zyR X d m nx (lv.set i.toNat (some (.int x))) st s P) : zyR X d m pc lv (.int x :: st) s P := by
  obtain ⟨hm, ins, len, hd, hc⟩ := zy_ck h
  have hc : ck23 (zm m) pc nx [i] ins len = true := hc
  unfold ck23 at hc
  obtain ⟨hb, hc⟩ := zw_and hc
  have hb := of_decide_eq_true hb
  rcases zw_or hc with h | h
  · obtain ⟨rfl, rfl, e1, rfl⟩ := of_decide_eq_true h
    exact zy_w k (fun l Q k => zs_istore_n (by omega) hb hd (ZW.lsub (zy_st1 hl) k))
  · obtain ⟨rfl, rfl, rfl⟩ := of_decide_eq_true h
    exact zy_w k (fun l Q k => zs_istore hb hd (ZW.lsub (zy_st1 hl) k))
theorem zy_39 {i : Int} {x : Nat} (h : zy_g m pc = some (39, nx, [i])) (hl : zy_c1 lv i.toNat = true) (k : zyR X d m nx (lv.set i.toNat (some (.ref x))) st s P) : zyR X d m pc lv (.ref x :: st) s P := by
  obtain ⟨hm, ins, len, hd, hc⟩ := zy_ck h
  have hc : ck39 (zm m) pc nx [i] ins len = true := hc
  unfold ck39 at hc
  obtain ⟨hb, hc⟩ := zw_and hc
  have hb := of_decide_eq_true hb
  rcases zw_or hc with h | h
  · obtain ⟨rfl, rfl, e1, rfl⟩ := of_decide_eq_true h
    exact zy_w k (fun l Q k => zs_astore_n (by omega) hb hd (ZW.lsub (zy_st1 hl) k))
  · obtain ⟨rfl, rfl, rfl⟩ := of_decide_eq_true h
    exact zy_w k (fun l Q k => zs_astore hb hd (ZW.lsub (zy_st1 hl) k))
theorem zy_38 {i : Int} {x : Int64} (h : zy_g m pc = some (38, nx, [i])) (hl : zy_c1 lv i.toNat = true) (k : zyR X d m nx ((lv.set i.toNat (some (.long x))).set (i.toNat + 1) none) st s P) : zyR X d m pc lv (.long x :: st) s P := by
  obtain ⟨hm, ins, len, hd, hc⟩ := zy_ck h
  have hc : ck38 (zm m) pc nx [i] ins len = true := hc
  unfold ck38 at hc
  obtain ⟨hb, hc⟩ := zw_and hc
  have hb := of_decide_eq_true hb
  rcases zw_or hc with h | h
  · obtain ⟨rfl, rfl, e1, rfl⟩ := of_decide_eq_true h
    exact zy_w k (fun l Q k => zs_lstore_n (by omega) hb hd (ZW.lsub (zy_st2 hl) k))
  · obtain ⟨rfl, rfl, rfl⟩ := of_decide_eq_true h
    exact zy_w k (fun l Q k => zs_lstore hb hd (ZW.lsub (zy_st2 hl) k))
theorem zy_3 {c : Int} {x : Int32} (h : zy_g m pc = some (3, nx, [c])) (hx : Int32.ofInt c = x) (k : zyR X d m nx lv (.int x :: st) s P) : zyR X d m pc lv st s P := by
  obtain ⟨hm, ins, len, hd, hc⟩ := zy_ck h
  have hc : ck3 (zm m) pc nx [c] ins len = true := hc
  unfold ck3 at hc
  have e : ∀ z : Int32, z.toInt = c → z = x := by
    intro z hz
    rw [← hx, ← hz, Int32.ofInt_toInt]
  rcases zw_or hc with h | h
  · obtain ⟨rfl, rfl, rfl, e2⟩ := of_decide_eq_true h
    exact zy_w k (fun l Q k => zs_iconst (e _ e2) hd k)
  · rcases zw_or h with h | h
    · obtain ⟨rfl, rfl, rfl, e2⟩ := of_decide_eq_true h
      exact zy_w k (fun l Q k => zs_bipush (e _ e2) hd k)
    · obtain ⟨rfl, rfl, rfl, e2⟩ := of_decide_eq_true h
      exact zy_w k (fun l Q k => zs_sipush (e _ e2) hd k)
theorem zy_3c {c w j : Int} {x : Int32} (h : zy_g m pc = some (3, nx, [c, w, j])) (hx : Int32.ofInt c = x) (k : zyR X d m nx lv (.int x :: st) s P) : zyR X d m pc lv st s P := by
  obtain ⟨hm, ins, len, hd, hc⟩ := zy_ck h
  have hc : ck3 (zm m) pc nx [c, w, j] ins len = true := hc
  unfold ck3 at hc
  subst hx
  obtain ⟨h1, h2⟩ := zw_and hc
  rcases zw_or h1 with h | h
  · obtain ⟨rfl, rfl, rfl, e2⟩ := of_decide_eq_true h
    exact zy_w k (fun l Q k => zs_ldc (zx_of h2) hd k)
  · obtain ⟨rfl, rfl, rfl, e2⟩ := of_decide_eq_true h
    exact zy_w k (fun l Q k => zs_ldcw (zx_of h2) hd k)
theorem zy_36 {c : Int} {x : Int64} (h : zy_g m pc = some (36, nx, [c])) (hx : Int64.ofInt c = x) (k : zyR X d m nx lv (.long x :: st) s P) : zyR X d m pc lv st s P := by
  obtain ⟨hm, ins, len, hd, hc⟩ := zy_ck h
  have hc : ck36 (zm m) pc nx [c] ins len = true := hc
  unfold ck36 at hc
  obtain ⟨rfl, rfl, rfl, e2⟩ := of_decide_eq_true hc
  exact zy_w k (fun l Q k => zs_lconst (by
    rw [← hx]
    have := congrArg Int64.ofInt e2
    rwa [Int64.ofInt_toInt] at this) hd k)
theorem zy_36c {c w j : Int} {x : Int64} (h : zy_g m pc = some (36, nx, [c, w, j])) (hx : Int64.ofInt c = x) (k : zyR X d m nx lv (.long x :: st) s P) : zyR X d m pc lv st s P := by
  obtain ⟨hm, ins, len, hd, hc⟩ := zy_ck h
  have hc : ck36 (zm m) pc nx [c, w, j] ins len = true := hc
  unfold ck36 at hc
  subst hx
  obtain ⟨h1, h2⟩ := zw_and hc
  obtain ⟨rfl, rfl, rfl, e2⟩ := of_decide_eq_true h1
  exact zy_w k (fun l Q k => zs_ldc2 (zx_of h2) hd k)
theorem zy_1g {k ci w j : Int} {f : Option Nat} {y : Value} (h : zy_g m pc = some (1, nx, [k, ci, w, j])) (hT : zy_tm[c]? = some (0, ci.toNat, fs)) (hf : fs[k.toNat]? = some f) (hy : zy_fv s c k.toNat f = y) (kk : zyR X d m nx lv (y :: st) s P) : zyR X d m pc lv (.ref (c + 3) :: st) s P := by
  obtain ⟨hm, ins, len, hd, hc⟩ := zy_ck h
  have hc : ck1 (zm m) pc nx [k, ci, w, j] ins len = true := hc
  unfold ck1 at hc
  dsimp only at hc
  split at hc
  · next q hq =>
    obtain ⟨h1, h2⟩ := zw_and hc
    obtain ⟨rfl, rfl, rfl, e2⟩ := of_decide_eq_true h1
    exact zy_w kk (fun l Q kk => zs_getfield (C := q.1) (T := q.2.1) (N := q.2.2) hd (zx_of h2) hq e2 (zy_at hT) (by rw [← hy]; exact zy_fs_get hf) kk)
  · cases hc
theorem zy_1 {k ci w j : Int} (h : zy_g m pc = some (1, nx, [k, ci, w, j])) (hT : zy_tm[c]? = some (0, ci.toNat, fs)) (hf : fs[k.toNat]? = some none) (kk : zyR X d m nx lv (.int (s.1 c k.toNat) :: st) s P) : zyR X d m pc lv (.ref (c + 3) :: st) s P := zy_1g h hT hf rfl kk
theorem zy_1r {k ci w j : Int} {r : Nat} (h : zy_g m pc = some (1, nx, [k, ci, w, j])) (hT : zy_tm[c]? = some (0, ci.toNat, fs)) (hf : fs[k.toNat]? = some (some r)) (kk : zyR X d m nx lv (.ref r :: st) s P) : zyR X d m pc lv (.ref (c + 3) :: st) s P := zy_1g h hT hf rfl kk
theorem zy_52g {k ci tc w j : Int} {x : Int32} (h : zy_g m pc = some (52, nx, [k, ci, tc, w, j])) (hT : zy_tm[c]? = some (0, ci.toNat, fs)) (hf : fs[k.toNat]? = some none) (ht : tc.toNat = 0 ∨ tc.toNat = 1 ∧ (x = 0 ∨ x = 1)) (kk : zyR X d m nx lv st (zy_up s c k.toNat x) P) : zyR X d m pc lv (.int x :: .ref (c + 3) :: st) s P := by
  obtain ⟨hm, ins, len, hd, hc⟩ := zy_ck h
  have hc : ck52 (zm m) pc nx [k, ci, tc, w, j] ins len = true := hc
  unfold ck52 at hc
  dsimp only at hc
  split at hc
  · next q hq =>
    obtain ⟨h1, h2⟩ := zw_and hc
    obtain ⟨h3, h4⟩ := zw_and h2
    obtain ⟨rfl, rfl, rfl, e2, e3⟩ := of_decide_eq_true h1
    refine zy_w kk (fun l Q kk => zs_putfield (C := q.1) (T := q.2.1) (N := q.2.2) hd (zx_of h4) hq e2 (zy_at hT) (by rw [zy_fs_len]; exact (List.getElem?_eq_some_iff.mp hf).1) e3 (zx_tc_g h3 (fun _ => ⟨_, rfl⟩) (fun e => ?_) (fun e1 e2 => ?_)) (by rw [zy_setF hT hf]; exact kk))
    · rcases ht with ht | ⟨-, rfl | rfl⟩
      · omega
      · exact Or.inl rfl
      · exact Or.inr rfl
    · omega
  · cases hc
theorem zy_52 {k ci w j : Int} {x : Int32} (h : zy_g m pc = some (52, nx, [k, ci, .ofNat 0, w, j])) (hT : zy_tm[c]? = some (0, ci.toNat, fs)) (hf : fs[k.toNat]? = some none) (kk : zyR X d m nx lv st (zy_up s c k.toNat x) P) : zyR X d m pc lv (.int x :: .ref (c + 3) :: st) s P := zy_52g h hT hf (Or.inl rfl) kk
theorem zy_52b {k ci w j : Int} {x : Int32} (h : zy_g m pc = some (52, nx, [k, ci, .ofNat 1, w, j])) (hT : zy_tm[c]? = some (0, ci.toNat, fs)) (hf : fs[k.toNat]? = some none) (hx : x = 0 ∨ x = 1) (kk : zyR X d m nx lv st (zy_up s c k.toNat x) P) : zyR X d m pc lv (.int x :: .ref (c + 3) :: st) s P := zy_52g h hT hf (Or.inr ⟨rfl, hx⟩) kk
theorem zy_10 {a b : Int32} (h : zy_g m pc = some (10, nx, [])) (k : zyR X d m nx lv (.int (a + b) :: st) s P) : zyR X d m pc lv (.int b :: .int a :: st) s P := by
  obtain ⟨hm, ins, len, hd, hc⟩ := zy_ck h
  have hc : ck10 (zm m) pc nx [] ins len = true := hc
  obtain ⟨rfl, rfl, rfl⟩ := of_decide_eq_true hc
  exact zy_w k (fun l Q k => zs_iadd hd k)
theorem zy_11 {a b : Int32} (h : zy_g m pc = some (11, nx, [])) (k : zyR X d m nx lv (.int (a - b) :: st) s P) : zyR X d m pc lv (.int b :: .int a :: st) s P := by
  obtain ⟨hm, ins, len, hd, hc⟩ := zy_ck h
  have hc : ck11 (zm m) pc nx [] ins len = true := hc
  obtain ⟨rfl, rfl, rfl⟩ := of_decide_eq_true hc
  exact zy_w k (fun l Q k => zs_isub hd k)
theorem zy_12 {a b : Int32} (h : zy_g m pc = some (12, nx, [])) (k : zyR X d m nx lv (.int (a * b) :: st) s P) : zyR X d m pc lv (.int b :: .int a :: st) s P := by
  obtain ⟨hm, ins, len, hd, hc⟩ := zy_ck h
  have hc : ck12 (zm m) pc nx [] ins len = true := hc
  obtain ⟨rfl, rfl, rfl⟩ := of_decide_eq_true hc
  exact zy_w k (fun l Q k => zs_imul hd k)
theorem zy_13 {a b : Int32} (h : zy_g m pc = some (13, nx, [])) (k : zyR X d m nx lv (.int (a &&& b) :: st) s P) : zyR X d m pc lv (.int b :: .int a :: st) s P := by
  obtain ⟨hm, ins, len, hd, hc⟩ := zy_ck h
  have hc : ck13 (zm m) pc nx [] ins len = true := hc
  obtain ⟨rfl, rfl, rfl⟩ := of_decide_eq_true hc
  exact zy_w k (fun l Q k => zs_iand hd k)
theorem zy_14 {a b : Int32} (h : zy_g m pc = some (14, nx, [])) (k : zyR X d m nx lv (.int (a ||| b) :: st) s P) : zyR X d m pc lv (.int b :: .int a :: st) s P := by
  obtain ⟨hm, ins, len, hd, hc⟩ := zy_ck h
  have hc : ck14 (zm m) pc nx [] ins len = true := hc
  obtain ⟨rfl, rfl, rfl⟩ := of_decide_eq_true hc
  exact zy_w k (fun l Q k => zs_ior hd k)
theorem zy_15 {a b : Int32} (h : zy_g m pc = some (15, nx, [])) (k : zyR X d m nx lv (.int (a ^^^ b) :: st) s P) : zyR X d m pc lv (.int b :: .int a :: st) s P := by
  obtain ⟨hm, ins, len, hd, hc⟩ := zy_ck h
  have hc : ck15 (zm m) pc nx [] ins len = true := hc
  obtain ⟨rfl, rfl, rfl⟩ := of_decide_eq_true hc
  exact zy_w k (fun l Q k => zs_ixor hd k)
theorem zy_16 {a b : Int32} (h : zy_g m pc = some (16, nx, [])) (k : zyR X d m nx lv (.int (a <<< (b &&& 31)) :: st) s P) : zyR X d m pc lv (.int b :: .int a :: st) s P := by
  obtain ⟨hm, ins, len, hd, hc⟩ := zy_ck h
  have hc : ck16 (zm m) pc nx [] ins len = true := hc
  obtain ⟨rfl, rfl, rfl⟩ := of_decide_eq_true hc
  exact zy_w k (fun l Q k => zs_ishl hd k)
theorem zy_17 {a b : Int32} (h : zy_g m pc = some (17, nx, [])) (k : zyR X d m nx lv (.int (a >>> (b &&& 31)) :: st) s P) : zyR X d m pc lv (.int b :: .int a :: st) s P := by
  obtain ⟨hm, ins, len, hd, hc⟩ := zy_ck h
  have hc : ck17 (zm m) pc nx [] ins len = true := hc
  obtain ⟨rfl, rfl, rfl⟩ := of_decide_eq_true hc
  exact zy_w k (fun l Q k => zs_ishr hd k)
theorem zy_18 {a b : Int32} (h : zy_g m pc = some (18, nx, [])) (k : zyR X d m nx lv (.int ((a.toUInt32 >>> (b.toUInt32 &&& Int32.toUInt32 31)).toInt32) :: st) s P) : zyR X d m pc lv (.int b :: .int a :: st) s P := by
  obtain ⟨hm, ins, len, hd, hc⟩ := zy_ck h
  have hc : ck18 (zm m) pc nx [] ins len = true := hc
  obtain ⟨rfl, rfl, rfl⟩ := of_decide_eq_true hc
  exact zy_w k (fun l Q k => zs_iushr hd k)
theorem zy_19 {a b : Int32} (h : zy_g m pc = some (19, nx, [])) (hne : ¬ b = 0) (k : zyR X d m nx lv (.int (a / b) :: st) s P) : zyR X d m pc lv (.int b :: .int a :: st) s P := by
  obtain ⟨hm, ins, len, hd, hc⟩ := zy_ck h
  have hc : ck19 (zm m) pc nx [] ins len = true := hc
  obtain ⟨rfl, rfl, rfl⟩ := of_decide_eq_true hc
  exact zy_w k (fun l Q k => zs_idiv hne hd k)
theorem zy_20 {a b : Int32} (h : zy_g m pc = some (20, nx, [])) (hne : ¬ b = 0) (k : zyR X d m nx lv (.int (a - a / b * b) :: st) s P) : zyR X d m pc lv (.int b :: .int a :: st) s P := by
  obtain ⟨hm, ins, len, hd, hc⟩ := zy_ck h
  have hc : ck20 (zm m) pc nx [] ins len = true := hc
  obtain ⟨rfl, rfl, rfl⟩ := of_decide_eq_true hc
  exact zy_w k (fun l Q k => zs_irem hne hd k)
theorem zy_21 {a : Int32} (h : zy_g m pc = some (21, nx, [])) (k : zyR X d m nx lv (.int (-a) :: st) s P) : zyR X d m pc lv (.int a :: st) s P := by
  obtain ⟨hm, ins, len, hd, hc⟩ := zy_ck h
  have hc : ck21 (zm m) pc nx [] ins len = true := hc
  obtain ⟨rfl, rfl, rfl⟩ := of_decide_eq_true hc
  exact zy_w k (fun l Q k => zs_ineg hd k)
theorem zy_45 {a b : Int64} (h : zy_g m pc = some (45, nx, [])) (k : zyR X d m nx lv (.long (a &&& b) :: st) s P) : zyR X d m pc lv (.long b :: .long a :: st) s P := by
  obtain ⟨hm, ins, len, hd, hc⟩ := zy_ck h
  have hc : ck45 (zm m) pc nx [] ins len = true := hc
  obtain ⟨rfl, rfl, rfl⟩ := of_decide_eq_true hc
  exact zy_w k (fun l Q k => zs_land hd k)
theorem zy_46 {a b : Int64} (h : zy_g m pc = some (46, nx, [])) (k : zyR X d m nx lv (.long (a ||| b) :: st) s P) : zyR X d m pc lv (.long b :: .long a :: st) s P := by
  obtain ⟨hm, ins, len, hd, hc⟩ := zy_ck h
  have hc : ck46 (zm m) pc nx [] ins len = true := hc
  obtain ⟨rfl, rfl, rfl⟩ := of_decide_eq_true hc
  exact zy_w k (fun l Q k => zs_lor hd k)
theorem zy_48 {a b : Int64} (h : zy_g m pc = some (48, nx, [])) (hne : ¬ b = 0) (k : zyR X d m nx lv (.long (a / b) :: st) s P) : zyR X d m pc lv (.long b :: .long a :: st) s P := by
  obtain ⟨hm, ins, len, hd, hc⟩ := zy_ck h
  have hc : ck48 (zm m) pc nx [] ins len = true := hc
  obtain ⟨rfl, rfl, rfl⟩ := of_decide_eq_true hc
  exact zy_w k (fun l Q k => zs_ldiv hne hd k)
theorem zy_49 {a b : Int64} (h : zy_g m pc = some (49, nx, [])) (hne : ¬ b = 0) (k : zyR X d m nx lv (.long (a - a / b * b) :: st) s P) : zyR X d m pc lv (.long b :: .long a :: st) s P := by
  obtain ⟨hm, ins, len, hd, hc⟩ := zy_ck h
  have hc : ck49 (zm m) pc nx [] ins len = true := hc
  obtain ⟨rfl, rfl, rfl⟩ := of_decide_eq_true hc
  exact zy_w k (fun l Q k => zs_lrem hne rfl hd k)
theorem zy_47 {a : Int64} {b : Int32} (h : zy_g m pc = some (47, nx, [])) (k : zyR X d m nx lv (.long (a <<< (b.toInt64 &&& 63)) :: st) s P) : zyR X d m pc lv (.int b :: .long a :: st) s P := by
  obtain ⟨hm, ins, len, hd, hc⟩ := zy_ck h
  have hc : ck47 (zm m) pc nx [] ins len = true := hc
  obtain ⟨rfl, rfl, rfl⟩ := of_decide_eq_true hc
  exact zy_w k (fun l Q k => zs_lshl hd k)
theorem zy_44 {a b : Int64} (h : zy_g m pc = some (44, nx, [])) (k : zyR X d m nx lv (.int (lg_cmp a b) :: st) s P) : zyR X d m pc lv (.long b :: .long a :: st) s P := by
  obtain ⟨hm, ins, len, hd, hc⟩ := zy_ck h
  have hc : ck44 (zm m) pc nx [] ins len = true := hc
  obtain ⟨rfl, rfl, rfl⟩ := of_decide_eq_true hc
  exact zy_w k (fun l Q k => zs_lcmp hd k)
theorem zy_40 {a : Int32} (h : zy_g m pc = some (40, nx, [])) (k : zyR X d m nx lv (.long a.toInt64 :: st) s P) : zyR X d m pc lv (.int a :: st) s P := by
  obtain ⟨hm, ins, len, hd, hc⟩ := zy_ck h
  have hc : ck40 (zm m) pc nx [] ins len = true := hc
  obtain ⟨rfl, rfl, rfl⟩ := of_decide_eq_true hc
  exact zy_w k (fun l Q k => zs_i2l hd k)
theorem zy_41 {a : Int64} (h : zy_g m pc = some (41, nx, [])) (k : zyR X d m nx lv (.int a.toInt32 :: st) s P) : zyR X d m pc lv (.long a :: st) s P := by
  obtain ⟨hm, ins, len, hd, hc⟩ := zy_ck h
  have hc : ck41 (zm m) pc nx [] ins len = true := hc
  obtain ⟨rfl, rfl, rfl⟩ := of_decide_eq_true hc
  exact zy_w k (fun l Q k => zs_l2i hd k)
theorem zy_42 {a : Int32} (h : zy_g m pc = some (42, nx, [])) (k : zyR X d m nx lv (.int a.toInt8.toInt32 :: st) s P) : zyR X d m pc lv (.int a :: st) s P := by
  obtain ⟨hm, ins, len, hd, hc⟩ := zy_ck h
  have hc : ck42 (zm m) pc nx [] ins len = true := hc
  obtain ⟨rfl, rfl, rfl⟩ := of_decide_eq_true hc
  exact zy_w k (fun l Q k => zs_i2b hd k)
theorem zy_43 {a : Int32} (h : zy_g m pc = some (43, nx, [])) (k : zyR X d m nx lv (.int a.toInt16.toInt32 :: st) s P) : zyR X d m pc lv (.int a :: st) s P := by
  obtain ⟨hm, ins, len, hd, hc⟩ := zy_ck h
  have hc : ck43 (zm m) pc nx [] ins len = true := hc
  obtain ⟨rfl, rfl, rfl⟩ := of_decide_eq_true hc
  exact zy_w k (fun l Q k => zs_i2s hd k)
theorem zy_33 {y : Value} (h : zy_g m pc = some (33, nx, [])) (hc1 : y.category = 1) (k : zyR X d m nx lv (y :: y :: st) s P) : zyR X d m pc lv (y :: st) s P := by
  obtain ⟨hm, ins, len, hd, hc⟩ := zy_ck h
  have hc : ck33 (zm m) pc nx [] ins len = true := hc
  obtain ⟨rfl, rfl, rfl⟩ := of_decide_eq_true hc
  exact zy_w k (fun l Q k => zs_dup hc1 hd k)
theorem zy_34 {y : Value} (h : zy_g m pc = some (34, nx, [])) (hc1 : y.category = 1) (k : zyR X d m nx lv (st) s P) : zyR X d m pc lv (y :: st) s P := by
  obtain ⟨hm, ins, len, hd, hc⟩ := zy_ck h
  have hc : ck34 (zm m) pc nx [] ins len = true := hc
  obtain ⟨rfl, rfl, rfl⟩ := of_decide_eq_true hc
  exact zy_w k (fun l Q k => zs_pop hc1 hd k)
theorem zy_70 {y : Value} (h : zy_g m pc = some (70, nx, [])) (hc1 : y.category = 2) (k : zyR X d m nx lv (st) s P) : zyR X d m pc lv (y :: st) s P := by
  obtain ⟨hm, ins, len, hd, hc⟩ := zy_ck h
  have hc : ck70 (zm m) pc nx [] ins len = true := hc
  obtain ⟨rfl, rfl, rfl⟩ := of_decide_eq_true hc
  exact zy_w k (fun l Q k => zs_pop2 hc1 hd k)
theorem zy_35 {y z : Value} (h : zy_g m pc = some (35, nx, [])) (hc1 : y.category = 1) (hc2 : z.category = 1) (k : zyR X d m nx lv (y :: z :: y :: z :: st) s P) : zyR X d m pc lv (y :: z :: st) s P := by
  obtain ⟨hm, ins, len, hd, hc⟩ := zy_ck h
  have hc : ck35 (zm m) pc nx [] ins len = true := hc
  obtain ⟨rfl, rfl, rfl⟩ := of_decide_eq_true hc
  exact zy_w k (fun l Q k => zs_dup2 hc1 hc2 hd k)
theorem zy_6 {off : Int} (h : zy_g m pc = some (6, nx, [off])) (k : zyR X d m nx lv st s P) : zyR X d m pc lv st s P := by
  obtain ⟨hm, ins, len, hd, hc⟩ := zy_ck h
  have hc : ck6 (zm m) pc nx [off] ins len = true := hc
  unfold ck6 at hc
  obtain ⟨rfl, rfl, e⟩ := of_decide_eq_true hc
  exact zy_w k (fun l Q k => zs_goto hd e k)
theorem zy_22 {i e : Int} {x y : Int32} (h : zy_g m pc = some (22, nx, [i, e])) (hv : lv[i.toNat]? = some (some (.int x))) (hl : zy_c1 lv i.toNat = true) (hy : x + Int32.ofInt e = y) (k : zyR X d m nx (lv.set i.toNat (some (.int y))) st s P) : zyR X d m pc lv st s P := by
  obtain ⟨hm, ins, len, hd, hc⟩ := zy_ck h
  have hc : ck22 (zm m) pc nx [i, e] ins len = true := hc
  unfold ck22 at hc
  obtain ⟨rfl, rfl, rfl, e4, e5⟩ := of_decide_eq_true hc
  exact zy_w k (fun l Q k => zs_iinc hy e4 (zy_look hv) hd (ZW.lsub (zy_st1 hl) k))
theorem zy_24_0 {a : Int32} {tg : Nat} (h : zy_g m pc = some (24, nx, [.ofNat 0, .ofNat tg])) (kt : a = 0 → zyR X d m tg lv st s P) (kf : ¬ (a = 0) → zyR X d m nx lv st s P) : zyR X d m pc lv (.int a :: st) s P := by
  obtain ⟨hm, ins, len, hd, hc⟩ := zy_ck h
  have hc : ck24 (zm m) pc nx [.ofNat 0, .ofNat tg] ins len = true := hc
  unfold ck24 at hc
  obtain ⟨rfl, rfl, e3, rfl, e5, e6⟩ := of_decide_eq_true hc
  intro l Q hQ
  exact zs_if_eq hd (show (pc : Int) + ((tg : Int) - pc) = (tg : Int) by omega) (fun h => kt h l Q hQ) (fun h => kf h l Q hQ)
theorem zy_25_0 {a b : Int32} {tg : Nat} (h : zy_g m pc = some (25, nx, [.ofNat 0, .ofNat tg])) (kt : a = b → zyR X d m tg lv st s P) (kf : ¬ (a = b) → zyR X d m nx lv st s P) : zyR X d m pc lv (.int b :: .int a :: st) s P := by
  obtain ⟨hm, ins, len, hd, hc⟩ := zy_ck h
  have hc : ck25 (zm m) pc nx [.ofNat 0, .ofNat tg] ins len = true := hc
  unfold ck25 at hc
  obtain ⟨rfl, rfl, e3, rfl, e5, e6⟩ := of_decide_eq_true hc
  intro l Q hQ
  exact zs_icmp_eq hd (show (pc : Int) + ((tg : Int) - pc) = (tg : Int) by omega) (fun h => kt h l Q hQ) (fun h => kf h l Q hQ)
theorem zy_24_1 {a : Int32} {tg : Nat} (h : zy_g m pc = some (24, nx, [.ofNat 1, .ofNat tg])) (kt : a ≠ 0 → zyR X d m tg lv st s P) (kf : ¬ (a ≠ 0) → zyR X d m nx lv st s P) : zyR X d m pc lv (.int a :: st) s P := by
  obtain ⟨hm, ins, len, hd, hc⟩ := zy_ck h
  have hc : ck24 (zm m) pc nx [.ofNat 1, .ofNat tg] ins len = true := hc
  unfold ck24 at hc
  obtain ⟨rfl, rfl, e3, rfl, e5, e6⟩ := of_decide_eq_true hc
  intro l Q hQ
  exact zs_if_ne hd (show (pc : Int) + ((tg : Int) - pc) = (tg : Int) by omega) (fun h => kt h l Q hQ) (fun h => kf h l Q hQ)
theorem zy_25_1 {a b : Int32} {tg : Nat} (h : zy_g m pc = some (25, nx, [.ofNat 1, .ofNat tg])) (kt : a ≠ b → zyR X d m tg lv st s P) (kf : ¬ (a ≠ b) → zyR X d m nx lv st s P) : zyR X d m pc lv (.int b :: .int a :: st) s P := by
  obtain ⟨hm, ins, len, hd, hc⟩ := zy_ck h
  have hc : ck25 (zm m) pc nx [.ofNat 1, .ofNat tg] ins len = true := hc
  unfold ck25 at hc
  obtain ⟨rfl, rfl, e3, rfl, e5, e6⟩ := of_decide_eq_true hc
  intro l Q hQ
  exact zs_icmp_ne hd (show (pc : Int) + ((tg : Int) - pc) = (tg : Int) by omega) (fun h => kt h l Q hQ) (fun h => kf h l Q hQ)
theorem zy_24_2 {a : Int32} {tg : Nat} (h : zy_g m pc = some (24, nx, [.ofNat 2, .ofNat tg])) (kt : a < 0 → zyR X d m tg lv st s P) (kf : ¬ (a < 0) → zyR X d m nx lv st s P) : zyR X d m pc lv (.int a :: st) s P := by
  obtain ⟨hm, ins, len, hd, hc⟩ := zy_ck h
  have hc : ck24 (zm m) pc nx [.ofNat 2, .ofNat tg] ins len = true := hc
  unfold ck24 at hc
  obtain ⟨rfl, rfl, e3, rfl, e5, e6⟩ := of_decide_eq_true hc
  intro l Q hQ
  exact zs_if_lt hd (show (pc : Int) + ((tg : Int) - pc) = (tg : Int) by omega) (fun h => kt h l Q hQ) (fun h => kf h l Q hQ)
theorem zy_25_2 {a b : Int32} {tg : Nat} (h : zy_g m pc = some (25, nx, [.ofNat 2, .ofNat tg])) (kt : a < b → zyR X d m tg lv st s P) (kf : ¬ (a < b) → zyR X d m nx lv st s P) : zyR X d m pc lv (.int b :: .int a :: st) s P := by
  obtain ⟨hm, ins, len, hd, hc⟩ := zy_ck h
  have hc : ck25 (zm m) pc nx [.ofNat 2, .ofNat tg] ins len = true := hc
  unfold ck25 at hc
  obtain ⟨rfl, rfl, e3, rfl, e5, e6⟩ := of_decide_eq_true hc
  intro l Q hQ
  exact zs_icmp_lt hd (show (pc : Int) + ((tg : Int) - pc) = (tg : Int) by omega) (fun h => kt h l Q hQ) (fun h => kf h l Q hQ)
theorem zy_24_3 {a : Int32} {tg : Nat} (h : zy_g m pc = some (24, nx, [.ofNat 3, .ofNat tg])) (kt : 0 ≤ a → zyR X d m tg lv st s P) (kf : ¬ (0 ≤ a) → zyR X d m nx lv st s P) : zyR X d m pc lv (.int a :: st) s P := by
  obtain ⟨hm, ins, len, hd, hc⟩ := zy_ck h
  have hc : ck24 (zm m) pc nx [.ofNat 3, .ofNat tg] ins len = true := hc
  unfold ck24 at hc
  obtain ⟨rfl, rfl, e3, rfl, e5, e6⟩ := of_decide_eq_true hc
  intro l Q hQ
  exact zs_if_ge hd (show (pc : Int) + ((tg : Int) - pc) = (tg : Int) by omega) (fun h => kt h l Q hQ) (fun h => kf h l Q hQ)
theorem zy_25_3 {a b : Int32} {tg : Nat} (h : zy_g m pc = some (25, nx, [.ofNat 3, .ofNat tg])) (kt : b ≤ a → zyR X d m tg lv st s P) (kf : ¬ (b ≤ a) → zyR X d m nx lv st s P) : zyR X d m pc lv (.int b :: .int a :: st) s P := by
  obtain ⟨hm, ins, len, hd, hc⟩ := zy_ck h
  have hc : ck25 (zm m) pc nx [.ofNat 3, .ofNat tg] ins len = true := hc
  unfold ck25 at hc
  obtain ⟨rfl, rfl, e3, rfl, e5, e6⟩ := of_decide_eq_true hc
  intro l Q hQ
  exact zs_icmp_ge hd (show (pc : Int) + ((tg : Int) - pc) = (tg : Int) by omega) (fun h => kt h l Q hQ) (fun h => kf h l Q hQ)
theorem zy_24_4 {a : Int32} {tg : Nat} (h : zy_g m pc = some (24, nx, [.ofNat 4, .ofNat tg])) (kt : 0 < a → zyR X d m tg lv st s P) (kf : ¬ (0 < a) → zyR X d m nx lv st s P) : zyR X d m pc lv (.int a :: st) s P := by
  obtain ⟨hm, ins, len, hd, hc⟩ := zy_ck h
  have hc : ck24 (zm m) pc nx [.ofNat 4, .ofNat tg] ins len = true := hc
  unfold ck24 at hc
  obtain ⟨rfl, rfl, e3, rfl, e5, e6⟩ := of_decide_eq_true hc
  intro l Q hQ
  exact zs_if_gt hd (show (pc : Int) + ((tg : Int) - pc) = (tg : Int) by omega) (fun h => kt h l Q hQ) (fun h => kf h l Q hQ)
theorem zy_25_4 {a b : Int32} {tg : Nat} (h : zy_g m pc = some (25, nx, [.ofNat 4, .ofNat tg])) (kt : b < a → zyR X d m tg lv st s P) (kf : ¬ (b < a) → zyR X d m nx lv st s P) : zyR X d m pc lv (.int b :: .int a :: st) s P := by
  obtain ⟨hm, ins, len, hd, hc⟩ := zy_ck h
  have hc : ck25 (zm m) pc nx [.ofNat 4, .ofNat tg] ins len = true := hc
  unfold ck25 at hc
  obtain ⟨rfl, rfl, e3, rfl, e5, e6⟩ := of_decide_eq_true hc
  intro l Q hQ
  exact zs_icmp_gt hd (show (pc : Int) + ((tg : Int) - pc) = (tg : Int) by omega) (fun h => kt h l Q hQ) (fun h => kf h l Q hQ)
theorem zy_24_5 {a : Int32} {tg : Nat} (h : zy_g m pc = some (24, nx, [.ofNat 5, .ofNat tg])) (kt : a ≤ 0 → zyR X d m tg lv st s P) (kf : ¬ (a ≤ 0) → zyR X d m nx lv st s P) : zyR X d m pc lv (.int a :: st) s P := by
  obtain ⟨hm, ins, len, hd, hc⟩ := zy_ck h
  have hc : ck24 (zm m) pc nx [.ofNat 5, .ofNat tg] ins len = true := hc
  unfold ck24 at hc
  obtain ⟨rfl, rfl, e3, rfl, e5, e6⟩ := of_decide_eq_true hc
  intro l Q hQ
  exact zs_if_le hd (show (pc : Int) + ((tg : Int) - pc) = (tg : Int) by omega) (fun h => kt h l Q hQ) (fun h => kf h l Q hQ)
theorem zy_25_5 {a b : Int32} {tg : Nat} (h : zy_g m pc = some (25, nx, [.ofNat 5, .ofNat tg])) (kt : a ≤ b → zyR X d m tg lv st s P) (kf : ¬ (a ≤ b) → zyR X d m nx lv st s P) : zyR X d m pc lv (.int b :: .int a :: st) s P := by
  obtain ⟨hm, ins, len, hd, hc⟩ := zy_ck h
  have hc : ck25 (zm m) pc nx [.ofNat 5, .ofNat tg] ins len = true := hc
  unfold ck25 at hc
  obtain ⟨rfl, rfl, e3, rfl, e5, e6⟩ := of_decide_eq_true hc
  intro l Q hQ
  exact zs_icmp_le hd (show (pc : Int) + ((tg : Int) - pc) = (tg : Int) by omega) (fun h => kt h l Q hQ) (fun h => kf h l Q hQ)
theorem zy_26 {j : Int32} (h : zy_g m pc = some (26, nx, [])) (hT : zy_tm[c]? = some (1, n, fs)) (hj : zy_in j n = true) (k : zyR X d m nx lv (.int (s.1 c j.toNatClampNeg) :: st) s P) : zyR X d m pc lv (.int j :: .ref (c + 3) :: st) s P := by
  obtain ⟨hm, ins, len, hd, hc⟩ := zy_ck h
  have hc : ck26 (zm m) pc nx [] ins len = true := hc
  obtain ⟨rfl, rfl, rfl⟩ := of_decide_eq_true hc
  exact zy_w k (fun l Q k => zs_iaload hd (zy_at hT) (zy_in_vp hj) k)
theorem zy_26o {j : Int32} (h : zy_g m pc = some (26, nx, [])) (hj : zy_in j 32 = true) (k : zyR X d m nx lv (.int (zs_own.getD j.toNatClampNeg 0) :: st) s P) : zyR X d m pc lv (.int j :: .ref 0 :: st) s P := by
  obtain ⟨hm, ins, len, hd, hc⟩ := zy_ck h
  have hc : ck26 (zm m) pc nx [] ins len = true := hc
  obtain ⟨rfl, rfl, rfl⟩ := of_decide_eq_true hc
  exact zy_w k (fun l Q k => zs_tabload (Or.inl ⟨rfl, rfl, rfl⟩) hd (zy_in_vp hj) k)
theorem zy_26a {j : Int32} (h : zy_g m pc = some (26, nx, [])) (hj : zy_in j 8 = true) (k : zyR X d m nx lv (.int (zs_abv.getD j.toNatClampNeg 0) :: st) s P) : zyR X d m pc lv (.int j :: .ref 1 :: st) s P := by
  obtain ⟨hm, ins, len, hd, hc⟩ := zy_ck h
  have hc : ck26 (zm m) pc nx [] ins len = true := hc
  obtain ⟨rfl, rfl, rfl⟩ := of_decide_eq_true hc
  exact zy_w k (fun l Q k => zs_tabload (Or.inr ⟨rfl, rfl, rfl⟩) hd (zy_in_vp hj) k)
theorem zy_26s {j : Int32} (h : zy_g m pc = some (26, nx, [])) (hj : zy_in j X.1 = true) (k : zyR X d m nx lv (.int (X.2 j.toNatClampNeg) :: st) s P) : zyR X d m pc lv (.int j :: .ref 2 :: st) s P := by
  obtain ⟨hm, ins, len, hd, hc⟩ := zy_ck h
  have hc : ck26 (zm m) pc nx [] ins len = true := hc
  obtain ⟨rfl, rfl, rfl⟩ := of_decide_eq_true hc
  exact zy_w k (fun l Q k => zs_scrload hd (zy_in_vp hj) k)
theorem zy_32s (h : zy_g m pc = some (32, nx, [])) (k : zyR X d m nx lv (.int (Int32.ofNat X.1) :: st) s P) : zyR X d m pc lv (.ref 2 :: st) s P := by
  obtain ⟨hm, ins, len, hd, hc⟩ := zy_ck h
  have hc : ck32 (zm m) pc nx [] ins len = true := hc
  obtain ⟨rfl, rfl, rfl⟩ := of_decide_eq_true hc
  exact zy_w k (fun l Q k => zs_scrlen hd k)
theorem zy_30 {j : Int32} (h : zy_g m pc = some (30, nx, [])) (hT : zy_tm[c]? = some (2, n, fs)) (hj : zy_in j n = true) (k : zyR X d m nx lv (.long (s.2.1 c j.toNatClampNeg) :: st) s P) : zyR X d m pc lv (.int j :: .ref (c + 3) :: st) s P := by
  obtain ⟨hm, ins, len, hd, hc⟩ := zy_ck h
  have hc : ck30 (zm m) pc nx [] ins len = true := hc
  obtain ⟨rfl, rfl, rfl⟩ := of_decide_eq_true hc
  exact zy_w k (fun l Q k => zs_laload hd (zy_at hT) (zy_in_vp hj) k)
/-- the shelf k's cell -/
def zy_sh (k : Nat) : Nat := 31 + 2 * k
/-- the shelves' row, as it was made -/
def zy_W (s : zy_S) : Prop := ∀ k, k < 6 → s.2.2 k = some (zy_sh k + 3)
theorem zy_28 {j : Int32} (h : zy_g m pc = some (28, nx, [])) (hW : zy_W s) (hj : zy_in j 6 = true) (k : zyR X d m nx lv (.ref (zy_sh j.toNatClampNeg + 3) :: st) s P) : zyR X d m pc lv (.int j :: .ref (30 + 3) :: st) s P := by
  obtain ⟨hm, ins, len, hd, hc⟩ := zy_ck h
  have hc : ck28 (zm m) pc nx [] ins len = true := hc
  obtain ⟨rfl, rfl, rfl⟩ := of_decide_eq_true hc
  refine zy_w k (fun l Q k => zs_aaload hd (zy_at (s := s) (c := 30) (t := (3, 6, [])) rfl) (zy_in_vp hj) ?_)
  rw [hW _ (z_in_lt (zy_in_vp hj))]
  exact k
theorem zy_27 {j x : Int32} (h : zy_g m pc = some (27, nx, [])) (hT : zy_tm[c]? = some (1, n, fs)) (hj : zy_in j n = true) (k : zyR X d m nx lv st (zy_up s c j.toNatClampNeg x) P) : zyR X d m pc lv (.int x :: .int j :: .ref (c + 3) :: st) s P := by
  obtain ⟨hm, ins, len, hd, hc⟩ := zy_ck h
  have hc : ck27 (zm m) pc nx [] ins len = true := hc
  obtain ⟨rfl, rfl, rfl⟩ := of_decide_eq_true hc
  exact zy_w k (fun l Q k => zs_iastore hd (zy_at hT) (zy_in_vp hj) (by rw [zy_setA hT]; exact k))
theorem zy_31 {j : Int32} {x : Int64} (h : zy_g m pc = some (31, nx, [])) (hT : zy_tm[c]? = some (2, n, fs)) (hj : zy_in j n = true) (k : zyR X d m nx lv st (zy_uj s c j.toNatClampNeg x) P) : zyR X d m pc lv (.long x :: .int j :: .ref (c + 3) :: st) s P := by
  obtain ⟨hm, ins, len, hd, hc⟩ := zy_ck h
  have hc : ck31 (zm m) pc nx [] ins len = true := hc
  obtain ⟨rfl, rfl, rfl⟩ := of_decide_eq_true hc
  exact zy_w k (fun l Q k => zs_lastore hd (zy_at hT) (zy_in_vp hj) (by rw [zy_setJ hT]; exact k))
theorem zy_54 {i w j : Int} {r : Nat} (h : zy_g m pc = some (54, nx, [i, w, j])) (hr : i.toNat = r) (k : zyR X d m nx lv (.ref r :: st) s P) : zyR X d m pc lv st s P := by
  obtain ⟨hm, ins, len, hd, hc⟩ := zy_ck h
  have hc : ck54 (zm m) pc nx [i, w, j] ins len = true := hc
  unfold ck54 at hc
  obtain ⟨h1, h2⟩ := zw_and hc
  obtain ⟨rfl, rfl, rfl⟩ := of_decide_eq_true h1
  subst hr
  rcases zw_or h2 with h | h
  · obtain ⟨h3, h4⟩ := zw_and h
    have h3 := of_decide_eq_true h3
    subst h3
    exact zy_w k (fun l Q k => zs_getstatic (Or.inl ⟨rfl, rfl⟩) (zx_of h4) hd k)
  · obtain ⟨h3, h4⟩ := zw_and h
    have h3 := of_decide_eq_true h3
    subst h3
    exact zy_w k (fun l Q k => zs_getstatic (Or.inr ⟨rfl, rfl⟩) (zx_of h4) hd k)
/-- where a switch goes on -/
def zy_sw (P : Nat → Prop) (a : Int32) (df : Int) : List (Int × Int) → Prop
  | [] => P df.toNat
  | q :: qs => if a = Int32.ofInt q.1 then P q.2.toNat else zy_sw P a df qs
theorem zy_sw_lk {P : Nat → Prop} {a : Int32} {df : Int} : ∀ {qs : List (Int × Int)}, qs.all (fun q => decide ((Int32.ofInt q.1).toInt = q.1)) = true → zy_sw P a df qs → P (zx_lk0 a.toInt df qs).toNat
  | [], _, h => h
  | q :: qs, hb, h => by
    obtain ⟨h1, h2⟩ := zw_and hb
    have h1 := of_decide_eq_true h1
    unfold zy_sw at h
    unfold zx_lk0
    by_cases e : a = Int32.ofInt q.1
    · rw [if_pos e] at h
      rw [if_pos (by rw [e]; exact h1)]
      exact h
    · rw [if_neg e] at h
      rw [if_neg (fun w => e (Int32.toInt_inj.mp (by rw [w, h1])))]
      exact zy_sw_lk h2 h
theorem zy_51 {a : Int32} {df : Int} {qs : List Int} (h : zy_g m pc = some (51, nx, df :: qs)) (hq : (zpair qs).all (fun q => decide ((Int32.ofInt q.1).toInt = q.1)) = true) (k : zy_sw (fun t => zyR X d m t lv st s P) a df (zpair qs)) : zyR X d m pc lv (.int a :: st) s P := by
  obtain ⟨hm, ins, len, hd, hc⟩ := zy_ck h
  have k := zy_sw_lk hq k
  have hc : ck51 (zm m) pc nx (df :: qs) ins len = true := hc
  unfold ck51 at hc
  dsimp only at hc
  obtain ⟨h1, h2⟩ := zw_and hc
  obtain ⟨rfl, h4⟩ := of_decide_eq_true h1
  obtain ⟨h5, h6⟩ := zw_and h2
  refine zy_w k (fun l Q k => zs_lookup hd h6 rfl ?_ k)
  have e0 : ∀ w : List (Int × Int), w.toArray.toList = w := fun _ => rfl
  rw [e0]
  have e := zlk_off (pc := pc) (df := df) (n := a.toInt) (zpair qs)
  have e2 := zlk_pos (n := a.toInt) h4 (zpair qs) h5
  omega
def zy_tp : Int → List Int → List (Int × Int)
  | _, [] => []
  | i, g :: gs => (i, g) :: zy_tp (i + 1) gs
theorem zy_tp_out {df n : Int} : ∀ {gs : List Int} {i : Int}, n < i ∨ i + gs.length ≤ n → zx_lk0 n df (zy_tp i gs) = df
  | [], _, _ => rfl
  | g :: gs, i, h => by
    unfold zy_tp zx_lk0
    rw [List.length_cons] at h
    rw [if_neg (by dsimp only; omega)]
    exact zy_tp_out (by omega)
theorem zy_tp_in {df n : Int} : ∀ {gs : List Int} {i : Int} {k : Nat}, k < gs.length → n = i + k → zx_lk0 n df (zy_tp i gs) = gs.getD k 0
  | [], _, _, h, _ => by cases h
  | g :: gs, i, 0, _, h => by
    unfold zy_tp zx_lk0
    rw [if_pos (by dsimp only; omega)]
    rfl
  | g :: gs, i, k + 1, hk, h => by
    unfold zy_tp zx_lk0
    rw [if_neg (by dsimp only; omega)]
    rw [List.getD_cons_succ]
    exact zy_tp_in (Nat.lt_of_succ_lt_succ hk) (by omega)
theorem zy_50 {a : Int32} {lo df : Int} {gs : List Int} (h : zy_g m pc = some (50, nx, lo :: df :: gs)) (hq : (zy_tp lo gs).all (fun q => decide ((Int32.ofInt q.1).toInt = q.1)) = true) (k : zy_sw (fun t => zyR X d m t lv st s P) a df (zy_tp lo gs)) : zyR X d m pc lv (.int a :: st) s P := by
  obtain ⟨hm, ins, len, hd, hc⟩ := zy_ck h
  have k := zy_sw_lk hq k
  have hc : ck50 (zm m) pc nx (lo :: df :: gs) ins len = true := hc
  unfold ck50 at hc
  dsimp only at hc
  obtain ⟨h1, h2⟩ := zw_and hc
  obtain ⟨rfl, h4⟩ := of_decide_eq_true h1
  by_cases ho : a.toInt < lo ∨ lo + gs.length ≤ a.toInt
  · rw [zy_tp_out ho] at k
    exact zy_w k (fun l Q k => zs_tabOut hd (by omega) (by omega) k)
  · have hk : (a.toInt - lo).toNat < gs.length := by omega
    rw [zy_tp_in hk (by omega)] at k
    have hmem : gs.getD (a.toInt - lo).toNat 0 ∈ gs := by
      rw [List.getD_eq_getElem?_getD, List.getElem?_eq_getElem hk]
      exact List.getElem_mem hk
    have h5 := of_decide_eq_true (List.all_eq_true.mp h2 _ hmem)
    refine zy_w k (fun l Q k => zs_tabIn (off := gs.getD (a.toInt - lo).toNat 0 - pc) hd (by omega) (by omega) ?_ (by omega) k)
    rw [List.getElem?_toArray, List.getElem?_map, List.getElem?_eq_getElem hk, List.getD_eq_getElem?_getD, List.getElem?_eq_getElem hk]
    rfl
/-- a method from its start -/
theorem zy_M {m : Nat} {as : List Value} (hB : zm_B m = true) (hsl : (lg_sl as).length ≤ (zm m).2.2.1) (hz : zmc m = (0, 0)) (hL : zy_lf 0 L = lv_args 0 as) (k : zyR X d m 0 L [] s P) (l : Launch) : ZM l d (zm m) X as (zy_hp s) 0 0 (fun u ph => ∃ t, P u t ∧ ph = zy_hp t) := by
  have h := k l (fun u ph => ∃ t, P u t ∧ ph = zy_hp t) (fun v t hp => ⟨t, hp, rfl⟩)
  rw [hL, hz] at h
  exact ZM.of (zm_cal hB).2 hsl h
theorem zy_60P {t na ml w sp ini j : Int} {as : List Value} (h : zy_g m pc = some (60, nx, [t, na, ml, w, sp, ini, j])) (hst : st = as.reverse ++ rest) (hcat : (rest.map (fun v => v.category)).sum ≤ 8) (hdd : d' + 1 ≤ d) (hn : as.length = na.toNat) (hsl : (lg_sl as).length ≤ ml.toNat) (hz : zmc t.toNat = (0, 0)) (hL : zy_lf 0 L = lv_args 0 as) (hM : zyR X d' t.toNat 0 L [] s P') (k : ∀ u s1, P' u s1 → zyR X d m nx lv (u.toList ++ rest) s1 P) : zyR X d m pc lv st s P := by
  obtain ⟨hm, ins, len, hd, hc⟩ := zy_ck h
  have hc : zcc 60 (zm m) pc nx [t, na, ml, w, sp, ini, j] ins len = true := hc
  unfold zcc at hc
  dsimp only at hc
  obtain ⟨h1, hc2⟩ := zw_and hc
  obtain ⟨h2, hc3⟩ := zw_and hc2
  obtain ⟨hlt, hna, hml, rfl, rfl⟩ := of_decide_eq_true h1
  have h2 := zm_Kg hlt h2
  rw [if_pos rfl] at hc3
  obtain ⟨h5, h6⟩ := zw_and hc3
  obtain ⟨h7, h8⟩ := zw_and h6
  have h9 := of_decide_eq_true h5
  subst h9
  subst hst
  intro l Q hQ
  exact zs_callS (zx_of h7) (zx_of h8) (zm_cal h2).1 (by rw [hn, hna]) hcat hdd (Nat.le_refl _) (Nat.le_refl _) hd (zy_M h2 (by rw [← hml]; exact hsl) hz hL hM l) (fun u' ph' hq => by obtain ⟨s2, hp, e⟩ := hq; rw [e]; exact k u' s2 hp l Q hQ)
theorem zy_60 {t na ml w sp ini j : Int} {as : List Value} (h : zy_g m pc = some (60, nx, [t, na, ml, w, sp, ini, j])) (hst : st = as.reverse ++ rest) (hcat : (rest.map (fun v => v.category)).sum ≤ 8) (hdd : d' + 1 ≤ d) (hn : as.length = na.toNat) (hsl : (lg_sl as).length ≤ ml.toNat) (hz : zmc t.toNat = (0, 0)) (hL : zy_lf 0 L = lv_args 0 as) (hM : zyR X d' t.toNat 0 L [] s (zyE u s1)) (k : zyR X d m nx lv (u.toList ++ rest) s1 P) : zyR X d m pc lv st s P := zy_60P h hst hcat hdd hn hsl hz hL hM (fun u' s' hq => by obtain ⟨rfl, rfl⟩ := hq; exact k)
theorem zy_61P {t na ml w sp ini j : Int} {as : List Value} (h : zy_g m pc = some (61, nx, [t, na, ml, w, sp, ini, j])) (hst : st = as.reverse ++ rest) (hcat : (rest.map (fun v => v.category)).sum ≤ 8) (hdd : d' + 1 ≤ d) (hn : as.length = na.toNat) (hsl : (lg_sl as).length ≤ ml.toNat) (hz : zmc t.toNat = (0, 0)) (hL : zy_lf 0 L = lv_args 0 as) (hM : zyR X d' t.toNat 0 L [] s P') (k : ∀ u s1, P' u s1 → zyR X d m nx lv (u.toList ++ rest) s1 P) : zyR X d m pc lv st s P := by
  obtain ⟨hm, ins, len, hd, hc⟩ := zy_ck h
  have hc : zcc 61 (zm m) pc nx [t, na, ml, w, sp, ini, j] ins len = true := hc
  unfold zcc at hc
  dsimp only at hc
  obtain ⟨h1, hc2⟩ := zw_and hc
  obtain ⟨h2, hc3⟩ := zw_and hc2
  obtain ⟨hlt, hna, hml, rfl, rfl⟩ := of_decide_eq_true h1
  have h2 := zm_Kg hlt h2
  rw [if_neg (by decide), if_pos rfl] at hc3
  obtain ⟨h5, h6⟩ := zw_and hc3
  obtain ⟨h7, h8⟩ := zw_and h6
  have h9 := of_decide_eq_true h5
  subst h9
  subst hst
  intro l Q hQ
  exact zs_callSN (of_decide_eq_true h7) (zx_of h8) (zm_cal h2).1 (by rw [hn, hna]) hcat hdd (Nat.le_refl _) (Nat.le_refl _) hd (zy_M h2 (by rw [← hml]; exact hsl) hz hL hM l) (fun u' ph' hq => by obtain ⟨s2, hp, e⟩ := hq; rw [e]; exact k u' s2 hp l Q hQ)
theorem zy_61 {t na ml w sp ini j : Int} {as : List Value} (h : zy_g m pc = some (61, nx, [t, na, ml, w, sp, ini, j])) (hst : st = as.reverse ++ rest) (hcat : (rest.map (fun v => v.category)).sum ≤ 8) (hdd : d' + 1 ≤ d) (hn : as.length = na.toNat) (hsl : (lg_sl as).length ≤ ml.toNat) (hz : zmc t.toNat = (0, 0)) (hL : zy_lf 0 L = lv_args 0 as) (hM : zyR X d' t.toNat 0 L [] s (zyE u s1)) (k : zyR X d m nx lv (u.toList ++ rest) s1 P) : zyR X d m pc lv st s P := zy_61P h hst hcat hdd hn hsl hz hL hM (fun u' s' hq => by obtain ⟨rfl, rfl⟩ := hq; exact k)
theorem zy_5P {t na ml w im se ini ci j : Int} {as : List Value} (h : zy_g m pc = some (5, nx, [t, na, ml, w, im, se, ini, ci, j])) (hst : st = as.reverse ++ .ref (c + 3) :: rest) (hT : zy_tm[c]? = some (0, ci.toNat, fs)) (hcat : (rest.map (fun v => v.category)).sum ≤ 8) (hdd : d' + 1 ≤ d) (hn : as.length = na.toNat) (hsl : (lg_sl (.ref (c + 3) :: as)).length ≤ ml.toNat) (hz : zmc t.toNat = (0, 0)) (hL : zy_lf 0 L = lv_args 0 (.ref (c + 3) :: as)) (hM : zyR X d' t.toNat 0 L [] s P') (k : ∀ u s1, P' u s1 → zyR X d m nx lv (u.toList ++ rest) s1 P) : zyR X d m pc lv st s P := by
  obtain ⟨hm, ins, len, hd, hc⟩ := zy_ck h
  have hc : zcc 5 (zm m) pc nx [t, na, ml, w, im, se, ini, ci, j] ins len = true := hc
  unfold zcc at hc
  dsimp only at hc
  obtain ⟨h1, hc2⟩ := zw_and hc
  obtain ⟨h2, hc3⟩ := zw_and hc2
  obtain ⟨hlt, hna, hml, rfl, rfl⟩ := of_decide_eq_true h1
  have h2 := zm_Kg hlt h2
  rw [if_pos rfl] at hc3
  obtain ⟨h5, h6⟩ := zw_and hc3
  obtain ⟨h7, h8⟩ := zw_and h6
  obtain ⟨h9, h10⟩ := zw_and h8
  obtain ⟨h11, h12⟩ := zw_and h10
  have h13 := of_decide_eq_true h5
  subst h13
  subst hst
  split at h12
  · next q hq =>
    have e := of_decide_eq_true h12
    intro l Q hQ
    exact zs_callV (T := q.2.1) (N := q.2.2) (zx_of h7) (zx_of h9) (zx_of h11) (zy_at hT) (by rw [hq, ← e]) (zm_cal h2).1 (by rw [hn, hna]) hcat hdd (Nat.le_refl _) (Nat.le_refl _) hd (zy_M h2 (by rw [← hml]; exact hsl) hz hL hM l) (fun u' ph' hq => by obtain ⟨s2, hp, e⟩ := hq; rw [e]; exact k u' s2 hp l Q hQ)
  · cases h12
theorem zy_5 {t na ml w im se ini ci j : Int} {as : List Value} (h : zy_g m pc = some (5, nx, [t, na, ml, w, im, se, ini, ci, j])) (hst : st = as.reverse ++ .ref (c + 3) :: rest) (hT : zy_tm[c]? = some (0, ci.toNat, fs)) (hcat : (rest.map (fun v => v.category)).sum ≤ 8) (hdd : d' + 1 ≤ d) (hn : as.length = na.toNat) (hsl : (lg_sl (.ref (c + 3) :: as)).length ≤ ml.toNat) (hz : zmc t.toNat = (0, 0)) (hL : zy_lf 0 L = lv_args 0 (.ref (c + 3) :: as)) (hM : zyR X d' t.toNat 0 L [] s (zyE u s1)) (k : zyR X d m nx lv (u.toList ++ rest) s1 P) : zyR X d m pc lv st s P := zy_5P h hst hT hcat hdd hn hsl hz hL hM (fun u' s' hq => by obtain ⟨rfl, rfl⟩ := hq; exact k)
/-- ends -/
theorem zy_4 {x : Int32} (h : zy_g m pc = some (4, nx, [.ofNat 0])) (hP : P (some (.int x)) s) : zyR X d m pc lv [.int x] s P := by
  obtain ⟨hm, ins, len, hd, hc⟩ := zy_ck h
  have hc : zcr 4 (zm m) [.ofNat 0] ins len = true := hc
  unfold zcr at hc
  rw [if_neg (by decide), if_neg (by decide), if_pos rfl] at hc
  obtain ⟨rfl, rfl, h3⟩ := of_decide_eq_true hc
  intro l Q hQ
  rcases h3 with ⟨-, h3⟩ | ⟨h4, -⟩
  · exact zs_ret (v := some (.int x)) rfl (Or.inl ⟨x, .int, rfl, hd, h3, rfl⟩) rfl (Nat.le_refl _) (hQ _ _ hP)
  · exact absurd rfl h4
theorem zy_4b {x : Int32} (h : zy_g m pc = some (4, nx, [.ofNat 1])) (hP : P (some (.int x)) s) (hx : x = 0 ∨ x = 1) : zyR X d m pc lv [.int x] s P := by
  obtain ⟨hm, ins, len, hd, hc⟩ := zy_ck h
  have hc : zcr 4 (zm m) [.ofNat 1] ins len = true := hc
  unfold zcr at hc
  rw [if_neg (by decide), if_neg (by decide), if_pos rfl] at hc
  obtain ⟨rfl, rfl, h3⟩ := of_decide_eq_true hc
  intro l Q hQ
  rcases h3 with ⟨h4, -⟩ | ⟨-, h3⟩
  · exact absurd h4 (by decide)
  · exact zs_ret (v := some (.int x)) rfl (Or.inl ⟨x, .boolean, rfl, hd, h3, by rcases hx with rfl | rfl <;> rfl⟩) rfl (Nat.le_refl _) (hQ _ _ hP)
theorem zy_65 {x : Int64} (h : zy_g m pc = some (65, nx, [])) (hP : P (some (.long x)) s) : zyR X d m pc lv [.long x] s P := by
  obtain ⟨hm, ins, len, hd, hc⟩ := zy_ck h
  have hc : zcr 65 (zm m) [] ins len = true := hc
  unfold zcr at hc
  rw [if_neg (by decide), if_pos rfl] at hc
  obtain ⟨rfl, rfl, h3⟩ := of_decide_eq_true hc
  intro l Q hQ
  exact zs_ret (v := some (.long x)) rfl (Or.inr (Or.inl ⟨x, rfl, hd, h3⟩)) rfl (Nat.le_refl _) (hQ _ _ hP)
theorem zy_66 (h : zy_g m pc = some (66, nx, [])) (hP : P none s) : zyR X d m pc lv [] s P := by
  obtain ⟨hm, ins, len, hd, hc⟩ := zy_ck h
  have hc : zcr 66 (zm m) [] ins len = true := hc
  unfold zcr at hc
  rw [if_pos rfl] at hc
  obtain ⟨rfl, rfl, h3⟩ := of_decide_eq_true hc
  intro l Q hQ
  exact zs_ret (v := none) rfl (Or.inr (Or.inr ⟨rfl, hd, h3⟩)) rfl (Nat.le_refl _) (hQ _ _ hP)
/-- copies -/
def zy_cpB (sp dp k : Int32) (n0 n1 : Nat) : Bool := decide (0 ≤ sp.toInt ∧ 0 ≤ dp.toInt ∧ 0 ≤ k.toInt ∧ sp.toInt + k.toInt ≤ n0 ∧ dp.toInt + k.toInt ≤ n1)
theorem zy_cp_nn {a : Int32} (h : 0 ≤ a.toInt) : ¬ a < 0 := by
  rw [Int32.lt_iff_toInt_lt]
  have : (0 : Int32).toInt = 0 := by decide
  omega
theorem zy_64 {w j : Int} {c0 c1 n0 n1 : Nat} {f0 f1 : List (Option Nat)} {sp dp k : Int32} (h : zy_g m pc = some (64, nx, [w, j])) (hT0 : zy_tm[c0]? = some (1, n0, f0)) (hT1 : zy_tm[c1]? = some (1, n1, f1)) (hB : zy_cpB sp dp k n0 n1 = true) (hcat : (st.map (fun v => v.category)).sum ≤ 8) (hdd : 1 ≤ d)
    (kk : zyR X d m nx lv st (zy_ua s c1 (va_cpy (s.1 c0) (s.1 c1) sp.toNatClampNeg dp.toNatClampNeg k.toNatClampNeg)) P) : zyR X d m pc lv (.int k :: .int dp :: .ref (c1 + 3) :: .int sp :: .ref (c0 + 3) :: st) s P := by
  obtain ⟨hm, ins, len, hd, hc⟩ := zy_ck h
  have hc : ck64 (zm m) pc nx [w, j] ins len = true := hc
  unfold ck64 at hc
  obtain ⟨h1, h2⟩ := zw_and hc
  obtain ⟨rfl, rfl, rfl⟩ := of_decide_eq_true h1
  obtain ⟨b1, b2, b3, b4, b5⟩ := of_decide_eq_true hB
  have e1 : sp.toNatClampNeg = sp.toInt.toNat := rfl
  have e2 : dp.toNatClampNeg = dp.toInt.toNat := rfl
  have e3 : k.toNatClampNeg = k.toInt.toNat := rfl
  exact zy_w kk (fun l Q kk => zs_copyI (n0 := n0) (n1 := n1) (zx_of h2) zw_nat1 zw_nat2 zw_nat3 (zy_at hT0) (zy_at hT1) (zy_cp_nn b1) (zy_cp_nn b2) (zy_cp_nn b3) (by omega) (by omega) hdd hcat hd (by rw [zy_setR hT1]; exact kk))
theorem zy_64j {w j : Int} {c0 c1 n0 n1 : Nat} {f0 f1 : List (Option Nat)} {sp dp k : Int32} (h : zy_g m pc = some (64, nx, [w, j])) (hT0 : zy_tm[c0]? = some (2, n0, f0)) (hT1 : zy_tm[c1]? = some (2, n1, f1)) (hB : zy_cpB sp dp k n0 n1 = true) (hcat : (st.map (fun v => v.category)).sum ≤ 8) (hdd : 1 ≤ d)
    (kk : zyR X d m nx lv st (zy_ub s c1 (va_cpy (s.2.1 c0) (s.2.1 c1) sp.toNatClampNeg dp.toNatClampNeg k.toNatClampNeg)) P) : zyR X d m pc lv (.int k :: .int dp :: .ref (c1 + 3) :: .int sp :: .ref (c0 + 3) :: st) s P := by
  obtain ⟨hm, ins, len, hd, hc⟩ := zy_ck h
  have hc : ck64 (zm m) pc nx [w, j] ins len = true := hc
  unfold ck64 at hc
  obtain ⟨h1, h2⟩ := zw_and hc
  obtain ⟨rfl, rfl, rfl⟩ := of_decide_eq_true h1
  obtain ⟨b1, b2, b3, b4, b5⟩ := of_decide_eq_true hB
  have e1 : sp.toNatClampNeg = sp.toInt.toNat := rfl
  have e2 : dp.toNatClampNeg = dp.toInt.toNat := rfl
  have e3 : k.toNatClampNeg = k.toInt.toNat := rfl
  exact zy_w kk (fun l Q kk => zs_copyJ (n0 := n0) (n1 := n1) (zx_of h2) zw_nat1 zw_nat2 zw_nat3 (zy_at hT0) (zy_at hT1) (zy_cp_nn b1) (zy_cp_nn b2) (zy_cp_nn b3) (by omega) (by omega) hdd hcat hd (by rw [zy_setQ hT1]; exact kk))
end ZY
end
section
/-! PART 18v.1: fills, exactly; shelves; calls that fill. Made by wip/v4/gen_v1.py out of part 16. -/
section ZK
variable {l : Launch} {d : Nat} {y : zx_Y} {X : zx_X} {mc ms : Nat} {Q : Option Value → List z_C → Prop}
theorem zyfill_I_loop {i n : Nat} {x : Int32} {f0 : Nat → Int32} {phi : List z_C} (hn : n < 2147483648) (hlen : i < phi.length) : ∀ (c k : Nat) (f : Nat → Int32) (lv : List (Nat × Value)), k + c = n → (∀ j, f j = if j < k then x else f0 j) → lv.lookup 0 = some (.ref (i + 3)) → lv.lookup 1 = some (.int x) → lv.lookup 2 = some (.int (nI k)) → lv.lookup 3 = some (.int (nI n)) →
    ZW l d y_fillI X 0 0 (fun r ph' => r = none ∧ ph' = phi.set i (.inl (0, n, z_I (fun j => if j < n then x else f0 j)))) 5 lv [] (phi.set i (.inl (0, n, z_I f))) 0 0 := by
  intro c
  induction c with
  | zero =>
    intro k f lv hk hf h0 h1 h2 h3
    have hkn : k = n := by omega
    subst hkn
    refine zs_iload_n rfl h2 dfI_5 ?_
    refine zs_iload_n rfl h3 dfI_6 ?_
    refine zs_icmp_ge (tgt := 20) dfI_7 (by decide) (fun _ => ?_) (fun q => absurd (Int32.le_refl _) q)
    exact zs_ret (v := none) rfl (Or.inr (Or.inr ⟨rfl, dfI_20, rfl⟩)) rfl (Nat.le_refl _) ⟨rfl, congrArg (fun g => phi.set i (.inl (0, _, z_I g))) (funext hf)⟩
  | succ c ih =>
    intro k f lv hk hf h0 h1 h2 h3
    have hi : (phi.set i (.inl (0, n, z_I f)))[i]? = some (.inl (0, n, z_I f)) := by rw [List.getElem?_set_self hlen]
    have hkin : vp_in (nI k) n := vp_in_nI (by omega) (by omega)
    have hkc : (nI k).toNatClampNeg = k := Int32.toNatClampNeg_ofNat_of_lt (by omega)
    refine zs_iload_n rfl h2 dfI_5 ?_
    refine zs_iload_n rfl h3 dfI_6 ?_
    refine zs_icmp_ge (tgt := 20) dfI_7 (by decide) (fun q => ?_) (fun _ => ?_)
    · exfalso
      rw [Int32.le_iff_toInt_le] at q
      have e1 : (nI k).toInt = k := zN_toInt (by omega)
      have e2 : (nI n).toInt = n := zN_toInt hn
      omega
    refine zs_aload_n rfl h0 dfI_10 ?_
    refine zs_iload_n rfl h2 dfI_11 ?_
    refine zs_iload_n rfl h1 dfI_12 ?_
    refine zs_iastore dfI_13 hi hkin ?_
    rw [List.set_set, hkc]
    refine zs_iinc (v := nI (k + 1)) (nI_1 k) (by decide) h2 dfI_14 ?_
    refine zs_goto (tgt := 5) dfI_17 (by decide) ?_
    refine ih (k + 1) _ _ (by omega) (fun j => ?_) (z_st1_look h0 (fun q => absurd (show (1 : Nat) = 2 from q.2) (by decide)) (by decide)) (z_st1_look h1 (fun q => absurd (show (1 : Nat) = 2 from q.2) (by decide)) (by decide)) (z_st1_self _ _ _) (z_st1_look h3 (fun q => absurd (show (1 : Nat) = 2 from q.2) (by decide)) (by decide))
    by_cases hjk : j = k
    · simp [upd, hjk]
    · simp only [upd, if_neg hjk]
      rw [hf j]
      by_cases h4 : j < k
      · rw [if_pos h4, if_pos (by omega)]
      · rw [if_neg h4, if_neg (by omega)]
theorem zyfill_I {i n : Nat} {f : Nat → Int32} (x : Int32) {phi : List z_C} (hn : n < 2147483648) (hi : phi[i]? = some (.inl (0, n, z_I f))) :
    ZM l d y_fillI X [.ref (i + 3), .int x] phi 0 0 (fun r ph' => r = none ∧ ph' = phi.set i (.inl (0, n, z_I (fun j => if j < n then x else f j)))) := by
  have hlen := (List.getElem?_eq_some_iff.mp hi).1
  have hset : phi.set i (.inl (0, n, z_I f)) = phi := by
    apply List.ext_getElem?
    intro j
    by_cases hij : i = j
    · subst hij; rw [List.getElem?_set_self hlen, hi]
    · rw [List.getElem?_set_ne hij]
  refine ZM.of (by decide +kernel) (by simp [lg_sl, Value.category, y_fillI]) ?_
  refine zs_iconst (v := 0) (by decide) dfI_0 ?_
  refine zs_istore_n (i := 2) rfl (by decide) dfI_1 ?_
  refine zs_aload_n (i := 0) (x := i + 3) rfl rfl dfI_2 ?_
  refine zs_alen (v := nI n) (by decide) rfl dfI_3 hi ?_
  refine zs_istore_n (i := 3) rfl (by decide) dfI_4 ?_
  have h := zyfill_I_loop (l := l) (d := d) (X := X) (x := x) (f0 := f) hn hlen n 0 f [(3, .int (nI n)), (2, .int (nI 0)), (0, .ref (i + 3)), (1, .int x)] (by omega) (fun j => by rw [if_neg (Nat.not_lt_zero j)]) rfl rfl rfl rfl
  rw [hset] at h
  exact h

theorem zyfill_J_loop {i n : Nat} {x : Int64} {f0 : Nat → Int64} {phi : List z_C} (hn : n < 2147483648) (hlen : i < phi.length) : ∀ (c k : Nat) (f : Nat → Int64) (lv : List (Nat × Value)), k + c = n → (∀ j, f j = if j < k then x else f0 j) → lv.lookup 0 = some (.ref (i + 3)) → lv.lookup 1 = some (.long x) → lv.lookup 3 = some (.int (nI k)) → lv.lookup 4 = some (.int (nI n)) →
    ZW l d y_fillJ X 0 0 (fun r ph' => r = none ∧ ph' = phi.set i (.inl (1, n, z_J (fun j => if j < n then x else f0 j)))) 6 lv [] (phi.set i (.inl (1, n, z_J f))) 0 0 := by
  intro c
  induction c with
  | zero =>
    intro k f lv hk hf h0 h1 h2 h3
    have hkn : k = n := by omega
    subst hkn
    refine zs_iload_n rfl h2 dfJ_6 ?_
    refine zs_iload h3 dfJ_7 ?_
    refine zs_icmp_ge (tgt := 22) dfJ_9 (by decide) (fun _ => ?_) (fun q => absurd (Int32.le_refl _) q)
    exact zs_ret (v := none) rfl (Or.inr (Or.inr ⟨rfl, dfJ_22, rfl⟩)) rfl (Nat.le_refl _) ⟨rfl, congrArg (fun g => phi.set i (.inl (1, _, z_J g))) (funext hf)⟩
  | succ c ih =>
    intro k f lv hk hf h0 h1 h2 h3
    have hi : (phi.set i (.inl (1, n, z_J f)))[i]? = some (.inl (1, n, z_J f)) := by rw [List.getElem?_set_self hlen]
    have hkin : vp_in (nI k) n := vp_in_nI (by omega) (by omega)
    have hkc : (nI k).toNatClampNeg = k := Int32.toNatClampNeg_ofNat_of_lt (by omega)
    refine zs_iload_n rfl h2 dfJ_6 ?_
    refine zs_iload h3 dfJ_7 ?_
    refine zs_icmp_ge (tgt := 22) dfJ_9 (by decide) (fun q => ?_) (fun _ => ?_)
    · exfalso
      rw [Int32.le_iff_toInt_le] at q
      have e1 : (nI k).toInt = k := zN_toInt (by omega)
      have e2 : (nI n).toInt = n := zN_toInt hn
      omega
    refine zs_aload_n rfl h0 dfJ_12 ?_
    refine zs_iload_n rfl h2 dfJ_13 ?_
    refine zs_lload_n rfl h1 dfJ_14 ?_
    refine zs_lastore dfJ_15 hi hkin ?_
    rw [List.set_set, hkc]
    refine zs_iinc (v := nI (k + 1)) (nI_1 k) (by decide) h2 dfJ_16 ?_
    refine zs_goto (tgt := 6) dfJ_19 (by decide) ?_
    refine ih (k + 1) _ _ (by omega) (fun j => ?_) (z_st1_look h0 (fun q => absurd (show (1 : Nat) = 2 from q.2) (by decide)) (by decide)) (z_st1_look h1 (fun q => absurd q.1 (by decide)) (by decide)) (z_st1_self _ _ _) (z_st1_look h3 (fun q => absurd (show (1 : Nat) = 2 from q.2) (by decide)) (by decide))
    by_cases hjk : j = k
    · simp [vp_updL, hjk]
    · simp only [vp_updL, if_neg hjk]
      rw [hf j]
      by_cases h4 : j < k
      · rw [if_pos h4, if_pos (by omega)]
      · rw [if_neg h4, if_neg (by omega)]
theorem zyfill_J {i n : Nat} {f : Nat → Int64} (x : Int64) {phi : List z_C} (hn : n < 2147483648) (hi : phi[i]? = some (.inl (1, n, z_J f))) :
    ZM l d y_fillJ X [.ref (i + 3), .long x] phi 0 0 (fun r ph' => r = none ∧ ph' = phi.set i (.inl (1, n, z_J (fun j => if j < n then x else f j)))) := by
  have hlen := (List.getElem?_eq_some_iff.mp hi).1
  have hset : phi.set i (.inl (1, n, z_J f)) = phi := by
    apply List.ext_getElem?
    intro j
    by_cases hij : i = j
    · subst hij; rw [List.getElem?_set_self hlen, hi]
    · rw [List.getElem?_set_ne hij]
  refine ZM.of (by decide +kernel) (by simp [lg_sl, Value.category, y_fillJ]) ?_
  refine zs_iconst (v := 0) (by decide) dfJ_0 ?_
  refine zs_istore_n (i := 3) rfl (by decide) dfJ_1 ?_
  refine zs_aload_n (i := 0) (x := i + 3) rfl rfl dfJ_2 ?_
  refine zs_alen (v := nI n) (by decide) rfl dfJ_3 hi ?_
  refine zs_istore (by decide) dfJ_4 ?_
  have h := zyfill_J_loop (l := l) (d := d) (X := X) (x := x) (f0 := f) hn hlen n 0 f [(4, .int (nI n)), (3, .int (nI 0)), (0, .ref (i + 3)), (1, .long x)] (by omega) (fun j => by rw [if_neg (Nat.not_lt_zero j)]) rfl rfl rfl rfl
  rw [hset] at h
  exact h

end ZK
section ZY
variable {X : zx_X} {d d' m pc nx c n : Nat} {lv L : List (Option Value)} {st rest : List Value} {s s1 : zy_S} {u : Option Value} {P P' : Option Value → zy_S → Prop} {fs : List (Option Nat)}
theorem zy_67 {x : Int32} {t na ml w sp ini j : Int} (h : zy_g m pc = some (67, nx, [t, na, ml, w, sp, ini, j])) (hT : zy_tm[c]? = some (1, n, fs)) (hn : n < 2147483648) (hcat : (st.map (fun v => v.category)).sum ≤ 8) (hdd : 1 ≤ d)
    (kk : zyR X d m nx lv st (zy_ua s c (fun j => if j < n then x else s.1 c j)) P) : zyR X d m pc lv (.int x :: .ref (c + 3) :: st) s P := by
  obtain ⟨hm, ins, len, hd, hc⟩ := zy_ck h
  have hc : ck67 (zm m) pc nx [t, na, ml, w, sp, ini, j] ins len = true := hc
  unfold ck67 at hc
  obtain ⟨h1, h2⟩ := zw_and hc
  obtain ⟨rfl, rfl, rfl⟩ := of_decide_eq_true h1
  intro l Q hQ
  exact zs_callS (zx_of h2) zw_fI zcal_fI (as := [.ref (c + 3), .int x]) rfl hcat (d' := 0) hdd (Nat.le_refl _) (Nat.le_refl _) hd (zyfill_I x hn (zy_at hT)) (fun v ph' hq => by obtain ⟨e1, e2⟩ := hq; rw [e1, e2, zy_setR hT]; exact kk l Q hQ)
theorem zy_68 {x : Int64} {t na ml w sp ini j : Int} (h : zy_g m pc = some (68, nx, [t, na, ml, w, sp, ini, j])) (hT : zy_tm[c]? = some (2, n, fs)) (hn : n < 2147483648) (hcat : (st.map (fun v => v.category)).sum ≤ 8) (hdd : 1 ≤ d)
    (kk : zyR X d m nx lv st (zy_ub s c (fun j => if j < n then x else s.2.1 c j)) P) : zyR X d m pc lv (.long x :: .ref (c + 3) :: st) s P := by
  obtain ⟨hm, ins, len, hd, hc⟩ := zy_ck h
  have hc : ck68 (zm m) pc nx [t, na, ml, w, sp, ini, j] ins len = true := hc
  unfold ck68 at hc
  obtain ⟨h1, h2⟩ := zw_and hc
  obtain ⟨rfl, rfl, rfl⟩ := of_decide_eq_true h1
  intro l Q hQ
  exact zs_callS (zx_of h2) zw_fJ zcal_fJ (as := [.ref (c + 3), .long x]) rfl hcat (d' := 0) hdd (Nat.le_refl _) (Nat.le_refl _) hd (zyfill_J x hn (zy_at hT)) (fun v ph' hq => by obtain ⟨e1, e2⟩ := hq; rw [e1, e2, zy_setQ hT]; exact kk l Q hQ)
end ZY
/-- a shelf's two cells -/
def zy_isSh (c : Nat) : Prop := zy_tm[c]? = some (0, 10, [some (c + 1 + 3), none, none, none]) ∧ zy_tm[c + 1]? = some (2, 60, [])
theorem zy_isSh_of {k : Nat} (h : k < 6) : zy_isSh (zy_sh k) := by
  rcases (by omega : k = 0 ∨ k = 1 ∨ k = 2 ∨ k = 3 ∨ k = 4 ∨ k = 5) with rfl | rfl | rfl | rfl | rfl | rfl <;> exact ⟨rfl, rfl⟩
theorem zy_in_lt {j : Int32} {n : Nat} (h : zy_in j n = true) : j.toNatClampNeg < n := by
  have h := of_decide_eq_true h
  have e : j.toNatClampNeg = j.toInt.toNat := rfl
  omega
def zy_Wb (s : zy_S) : Bool := (List.range 6).all (fun k => decide (s.2.2 k = some (zy_sh k + 3)))
theorem zy_Wb_g {s : zy_S} (h : zy_Wb s = true) : zy_W s := fun k hk => of_decide_eq_true (List.all_eq_true.mp h k (List.mem_range.mpr hk))
theorem zy_ifp {α : Type} {c : Prop} {hc : Decidable c} {a b : Option α} {x : α} (h : @ite _ c hc a b = some x) (g : c) : a = some x := by rwa [if_pos g] at h
theorem zy_ifn {α : Type} {c : Prop} {hc : Decidable c} {a b : Option α} {x : α} (h : @ite _ c hc a b = some x) (g : ¬ c) : b = some x := by rwa [if_neg g] at h
theorem zy_swp {P : Nat → Prop} {a : Int32} {df : Int} {q : Int × Int} {qs : List (Int × Int)} (h1 : a = Int32.ofInt q.1 → P q.2.toNat) (h2 : ¬ a = Int32.ofInt q.1 → zy_sw P a df qs) : zy_sw P a df (q :: qs) := by
  unfold zy_sw
  by_cases e : a = Int32.ofInt q.1
  · rw [if_pos e]; exact h1 e
  · rw [if_neg e]; exact h2 e
/-- how often a loop may go round -/
def zy_fu : Nat := 10000
end
