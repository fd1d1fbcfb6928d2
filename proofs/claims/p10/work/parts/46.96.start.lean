/-! PART 46.96: the heap as the constructors leave it. Made by wip/v4/gen_start.py. -/
def zH0 : zA_H := [(0, 0, 0, [(2, (.ofNat 4)), (2, (.ofNat 8)), (2, (.ofNat 12)), (2, (.ofNat 15)), (2, (.ofNat 18)), (2, (.ofNat 19)), (2, (.ofNat 20)), (2, (.ofNat 25)), (2, (.ofNat 30)), (2, (.ofNat 33))], []),
  (0, 1, 0, [(2, (.ofNat 5)), (2, (.ofNat 6)), (2, (.ofNat 7)), (0, (.ofNat 0)), (0, (.ofNat 9)), (0, (.ofNat 0))], []),
  (1, 0, 24, [(0, (.ofNat 0))], []),
  (1, 0, 8, [(0, (.ofNat 0))], []),
  (1, 0, 8, [(0, (.ofNat 0))], []),
  (0, 2, 0, [(2, (.ofNat 9)), (2, (.ofNat 10)), (2, (.ofNat 11)), (0, (.ofNat 0)), (0, (.ofNat 0))], []),
  (1, 0, 128, [(0, (.ofNat 0))], []),
  (1, 0, 128, [(0, (.ofNat 0))], []),
  (1, 0, 6, [(0, (.ofNat 0))], []),
  (0, 3, 0, [(2, (.ofNat 13)), (2, (.ofNat 14)), (0, (.ofNat 0)), (0, (.ofNat 0)), (0, (.ofNat 0)), (0, (.ofNat 0))], []),
  (1, 0, 120, [(0, (.ofNat 0))], []),
  (1, 0, 128, [(0, (.ofNat 0))], []),
  (0, 4, 0, [(2, (.ofNat 4)), (2, (.ofNat 8)), (2, (.ofNat 16)), (2, (.ofNat 17)), (0, (.ofNat 0)), (0, (.ofNat 0))], []),
  (1, 0, 1536, [(0, (.ofNat 0))], []),
  (1, 0, 70, [(0, (.ofNat 0))], []),
  (0, 5, 0, [(2, (.ofNat 4)), (2, (.ofNat 15)), (0, (.ofNat 0)), (0, (.ofNat 24))], []),
  (0, 6, 0, [(2, (.ofNat 4))], []),
  (0, 7, 0, [(2, (.ofNat 4)), (2, (.ofNat 21)), (0, (.ofNat 0)), (0, (.ofNat 0)), (0, (.ofNat 0)), (2, (.ofNat 22)), (2, (.ofNat 23)), (2, (.ofNat 24))], []),
  (1, 0, 5, [(0, (.ofNat 0))], []),
  (1, 0, 24, [(0, (.ofNat 0))], []),
  (1, 0, 8, [(0, (.ofNat 0))], []),
  (1, 0, 5, [(0, (.ofNat 0))], []),
  (0, 8, 0, [(2, (.ofNat 4)), (2, (.ofNat 26)), (2, (.ofNat 27)), (2, (.ofNat 28)), (2, (.ofNat 29)), (0, (.ofNat 0)), (0, (.ofNat 0))], []),
  (1, 0, 40, [(0, (.ofNat 0))], []),
  (1, 0, 40, [(0, (.ofNat 0))], []),
  (1, 0, 40, [(0, (.ofNat 0))], []),
  (1, 0, 40, [(0, (.ofNat 0))], []),
  (0, 9, 0, [(2, (.ofNat 31)), (2, (.ofNat 32)), (0, (.ofNat 0)), (0, (.ofNat 0))], []),
  (1, 0, 50, [(0, (.ofNat 0))], []),
  (1, 0, 24, [(0, (.ofNat 0))], []),
  (1, 2, 6, [(3, (.ofNat 0))], [(5, (2, (.ofNat 44))), (4, (2, (.ofNat 42))), (3, (2, (.ofNat 40))), (2, (2, (.ofNat 38))), (1, (2, (.ofNat 36))), (0, (2, (.ofNat 34)))]),
  (0, 10, 0, [(2, (.ofNat 35)), (0, (.negSucc 0)), (0, (.negSucc 0)), (0, (.ofNat 0))], []),
  (1, 1, 60, [(4, (.ofNat 0))], []),
  (0, 10, 0, [(2, (.ofNat 37)), (0, (.negSucc 0)), (0, (.negSucc 0)), (0, (.ofNat 0))], []),
  (1, 1, 60, [(4, (.ofNat 0))], []),
  (0, 10, 0, [(2, (.ofNat 39)), (0, (.negSucc 0)), (0, (.negSucc 0)), (0, (.ofNat 0))], []),
  (1, 1, 60, [(4, (.ofNat 0))], []),
  (0, 10, 0, [(2, (.ofNat 41)), (0, (.negSucc 0)), (0, (.negSucc 0)), (0, (.ofNat 0))], []),
  (1, 1, 60, [(4, (.ofNat 0))], []),
  (0, 10, 0, [(2, (.ofNat 43)), (0, (.negSucc 0)), (0, (.negSucc 0)), (0, (.ofNat 0))], []),
  (1, 1, 60, [(4, (.ofNat 0))], []),
  (0, 10, 0, [(2, (.ofNat 45)), (0, (.negSucc 0)), (0, (.negSucc 0)), (0, (.ofNat 0))], []),
  (1, 1, 60, [(4, (.ofNat 0))], []),
  (0, 11, 0, [(2, (.ofNat 47)), (2, (.ofNat 48)), (2, (.ofNat 49)), (2, (.ofNat 50)), (0, (.ofNat 0)), (0, (.ofNat 0)), (0, (.ofNat 0)), (0, (.ofNat 0)), (2, (.ofNat 51)), (0, (.ofNat 0)), (2, (.ofNat 52)), (0, (.negSucc 0)), (0, (.ofNat 0)), (0, (.ofNat 0)), (0, (.ofNat 0)), (0, (.ofNat 0)), (0, (.ofNat 0)), (2, (.ofNat 53)), (2, (.ofNat 54)), (2, (.ofNat 55)), (2, (.ofNat 56)), (2, (.ofNat 57)), (0, (.ofNat 0)), (0, (.ofNat 0)), (0, (.ofNat 0)), (2, (.ofNat 58)), (2, (.ofNat 59)), (2, (.ofNat 60)), (0, (.ofNat 0)), (2, (.ofNat 61)), (2, (.ofNat 62)), (0, (.ofNat 0)), (0, (.ofNat 0)), (0, (.ofNat 0)), (2, (.ofNat 63)), (2, (.ofNat 64)), (2, (.ofNat 65)), (2, (.ofNat 66))], []),
  (1, 0, 41, [(0, (.ofNat 0))], [(40, (0, (.ofNat 9)))]),
  (1, 0, 40, [(0, (.ofNat 0))], []),
  (1, 0, 40, [(0, (.ofNat 0))], []),
  (1, 0, 40, [(0, (.ofNat 0))], []),
  (1, 0, 120, [(0, (.ofNat 0))], []),
  (1, 0, 120, [(0, (.ofNat 0))], []),
  (1, 0, 6, [(0, (.ofNat 0))], []),
  (1, 0, 24, [(0, (.ofNat 0))], []),
  (1, 0, 70, [(0, (.ofNat 0))], []),
  (1, 0, 96, [(0, (.ofNat 0))], []),
  (1, 0, 5, [(0, (.ofNat 0))], []),
  (1, 0, 8, [(0, (.ofNat 0))], []),
  (1, 0, 24, [(0, (.ofNat 0))], []),
  (1, 0, 5, [(0, (.ofNat 0))], []),
  (1, 0, 50, [(0, (.ofNat 0))], []),
  (1, 0, 24, [(0, (.ofNat 0))], []),
  (1, 0, 6, [(0, (.ofNat 0))], [(5, (0, (.negSucc 0))), (4, (0, (.negSucc 0))), (3, (0, (.negSucc 0))), (2, (0, (.negSucc 0))), (1, (0, (.negSucc 0))), (0, (0, (.negSucc 0)))]),
  (1, 0, 6, [(0, (.ofNat 0))], []),
  (1, 1, 360, [(4, (.ofNat 0))], []),
  (1, 1, 60, [(4, (.ofNat 0))], [])]
/-- a cell of the start: all is exact -/
def zsC (i : Nat) (a : zA_C) (t : zy_T) : Bool :=
  if t.1 = 1 then decide (a.1 = 1 ∧ a.2.1 = 0 ∧ a.2.2.1 = t.2.1)
  else if t.1 = 2 then decide (a.1 = 1 ∧ a.2.1 = 1 ∧ a.2.2.1 = t.2.1)
  else zbC true i a t
def zsA : Nat → zA_H → List zy_T → Bool
  | _, [], [] => true
  | i, a :: as, t :: ts => zsC i a t && zsA (i + 1) as ts
  | _, _, _ => false
theorem zsA_at : ∀ {i : Nat} {H : zA_H} {ts : List zy_T}, zsA i H ts = true → H.length = ts.length ∧ ∀ (j : Nat) (a : zA_C) (t : zy_T), H[j]? = some a → ts[j]? = some t → zsC (i + j) a t = true
  | _, [], [], _ => ⟨rfl, fun j a t h => by cases h⟩
  | i, a :: as, t :: ts, h => by
    obtain ⟨h1, h4⟩ := zw_and h
    obtain ⟨k1, k2⟩ := zsA_at h4
    refine ⟨congrArg (· + 1) k1, fun j b u hj hu => ?_⟩
    cases j with
    | zero =>
      cases hj
      cases hu
      exact h1
    | succ j =>
      have := k2 j b u hj hu
      rw [show i + 1 + j = i + (j + 1) by omega] at this
      exact this
  | _, [], _ :: _, h => by cases h
  | _, _ :: _, [], h => by cases h
theorem zsA_all : zsA 0 zH0 zy_tm = true := by decide +kernel
/-- what the cell i of the start says of the functions -/
def zsK (s' : zy_S) (ρ : List Int) (i : Nat) (a : zA_C) : Prop :=
  (a.1 = 0 → ∀ k v, a.2.2.2.1[k]? = some v → v.1 = 6 ∨ v.1 = 0 → zg_V ρ v (.int (s'.1 i k))) ∧
  (a.1 = 1 → a.2.1 = 0 → ∀ j, j < a.2.2.1 → zg_V ρ (zx_el a j) (.int (s'.1 i j))) ∧
  (∀ t, zy_tm[i]? = some t → t.1 = 2 → ∀ j, j < a.2.2.1 → zg_V ρ (zx_el a j) (.long (s'.2.1 i j)))
theorem zs_cell {s : zy_S} {ρ : List Int} {ph : List z_C} {i : Nat} {a : zA_C} {c : z_C} {t : zy_T} (ht : zy_tm[i]? = some t) (hc : zsC i a t = true) (hx : ph[i]? = some c) (g : zg_C (zy_hp s) ρ a c) (h30 : t.1 = 3 → i = 30) : c = zy_cl (zrdS ph) i t ∧ zsK (zrdS ph) ρ i a := by
  unfold zsC at hc
  split at hc
  · next t1 =>
    obtain ⟨a0, a1, a2⟩ := of_decide_eq_true hc
    obtain ⟨f, e, gf, -⟩ := zg_CI a0 a1 g
    rw [a2] at e
    have k : (zrdS ph).1 i = f := by
      funext k
      show (match ph[i]? with | some (.inr (_, fs)) => (match fs[k]? with | some (.int x) => x | _ => 0) | some (.inl (_, _, .inl f)) => f k | _ => 0) = _
      rw [hx, e]
      rfl
    refine ⟨by unfold zy_cl; rw [if_neg (by omega), if_pos t1, k]; exact e, fun h => by omega, fun _ _ j hj => ?_, fun t' ht' h2 => ?_⟩
    · rw [k]
      exact gf j hj
    · rw [ht] at ht'
      cases ht'
      omega
  · next t1 =>
    split at hc
    · next t2 =>
      obtain ⟨a0, a1, a2⟩ := of_decide_eq_true hc
      obtain ⟨f, e, gf, -⟩ := zg_CJ a0 a1 g
      rw [a2] at e
      have k : (zrdS ph).2.1 i = f := by
        funext k
        show (match ph[i]? with | some (.inl (_, _, .inr (.inl f))) => f k | _ => 0) = _
        rw [hx, e]
        rfl
      refine ⟨by unfold zy_cl; rw [if_neg (by omega), if_neg t1, if_pos t2, k]; exact e, fun h => by omega, fun _ h => by omega, fun _ _ _ j hj => ?_⟩
      rw [k]
      exact gf j hj
    · next t2 =>
      obtain ⟨k1, k2⟩ := zb_cell ht hc hx g h30
      refine ⟨k1, fun h => (k2.1 h).1, k2.2.2, fun t' ht' h2 => ?_⟩
      rw [ht] at ht'
      cases ht'
      exact absurd h2 t2
theorem zs_back {s : zy_S} {H : zA_H} (hA : zsA 0 H zy_tm = true) {ρ : List Int} {ph : List z_C} (g : zL2 (zg_C (zy_hp s) ρ) H ph) : ph = zy_hp (zrdS ph) ∧ ∀ (i : Nat) (a : zA_C), H[i]? = some a → zsK (zrdS ph) ρ i a := by
  have hl := (zsA_at hA).1
  have hlen := zL2.len g
  have tmof : ∀ (i : Nat) (a : zA_C), H[i]? = some a → ∃ t, zy_tm[i]? = some t ∧ zsC i a t = true := fun i a ha => by
    have hi : i < H.length := (List.getElem?_eq_some_iff.mp ha).1
    have ht : zy_tm[i]? = some (zy_tm[i]'(by omega)) := List.getElem?_eq_getElem (by omega)
    have := (zsA_at hA).2 i a _ ha ht
    rw [Nat.zero_add] at this
    exact ⟨_, ht, this⟩
  constructor
  · apply List.ext_getElem?
    intro i
    cases hx : ph[i]? with
    | none =>
      have := List.getElem?_eq_none_iff.mp hx
      rw [List.getElem?_eq_none (by simp [zy_hp_eq]; omega)]
    | some c =>
      obtain ⟨a, ha, gc⟩ := zL2.getR g hx
      obtain ⟨t, ht, hc⟩ := tmof i a ha
      rw [zy_at ht]
      rw [← (zs_cell ht hc hx gc (z30_of ht)).1]
  · intro i a ha
    obtain ⟨c, hx, gc⟩ := zL2.get g ha
    obtain ⟨t, ht, hc⟩ := tmof i a ha
    exact (zs_cell ht hc hx gc (z30_of ht)).2
theorem zV0 {ρ : List Int} {v : zA_V} {x : Int32} (h : v.1 = 0) (g : zg_V ρ v (.int x)) : x.toInt = v.2 := by
  rcases g with ⟨-, y, e, en⟩ | ⟨q, -⟩ | ⟨q, -⟩ | ⟨q, -⟩ | ⟨q, -⟩ | ⟨q, -⟩ | ⟨q, -⟩
  · cases e
    exact en
  all_goals omega
theorem zV4 {ρ : List Int} {v : zA_V} {x : Int64} (h : v.1 = 4) (g : zg_V ρ v (.long x)) : x.toInt = v.2 := by
  rcases g with ⟨q, -⟩ | ⟨q, -⟩ | ⟨q, -⟩ | ⟨q, -⟩ | ⟨-, y, e, en⟩ | ⟨q, -⟩ | ⟨q, -⟩
  all_goals first
    | omega
    | (cases e; exact en)
/-- an int of the start -/
def zsv (c k : Nat) : Option Int := match zH0[c]? with
  | some a => if a.1 = 0 then (match a.2.2.2.1[k]? with
    | some v => if v.1 = 0 then some v.2 else none
    | none => none) else if a.1 = 1 ∧ a.2.1 = 0 ∧ k < a.2.2.1 ∧ (zx_el a k).1 = 0 then some (zx_el a k).2 else none
  | none => none
def zsR (c k : Nat) : Bool := match zsv c k with
  | some n => decide ((zrg c k).1 ≤ n ∧ n ≤ (zrg c k).2)
  | none => decide ((zrg c k).1 = -2147483648 ∧ (zrg c k).2 = 2147483647)
theorem zsR_all : (List.range 64).all (fun c => (List.range (zrn c)).all (fun k => zsR c k)) = true := by decide +kernel
theorem zs_one : zsv 1 5 = some 0 ∧ zsv 43 6 = some 0 ∧ zsv 1 4 = some 9 ∧ zsv 44 40 = some 9 ∧ zsv 1 3 = some 0 ∧ zsv 43 7 = some 0 ∧ zsv 17 2 = some 0 ∧ zsv 43 22 = some 0 ∧ zsv 17 3 = some 0 ∧ zsv 43 24 = some 0 ∧ zsv 17 4 = some 0 ∧ zsv 43 23 = some 0 ∧ zsv 22 5 = some 0 ∧ zsv 43 5 = some 0 ∧ zsv 22 6 = some 0 ∧ zsv 43 4 = some 0 ∧ zsv 27 2 = some 0 ∧ zsv 43 28 = some 0 ∧ zsv 27 3 = some 0 ∧ zsv 43 31 = some 0 ∧ zsv 9 2 = some 0 ∧ zsv 43 9 = some 0 ∧ zsv 5 3 = some 0 ∧ zsv 43 11 = some (-1) := by decide +kernel
theorem zs_r2 : ∀ p, p < 8 → zsv 3 p = some 0 ∧ zsv 44 (p) = some 0 := by decide +kernel
theorem zs_r3 : ∀ p, p < 8 → zsv 4 p = some 0 ∧ zsv 44 (8 + p) = some 0 := by decide +kernel
theorem zs_r4 : ∀ p, p < 24 → zsv 2 p = some 0 ∧ zsv 44 (16 + p) = some 0 := by decide +kernel
theorem zs_r7 : ∀ p, p < 5 → zsv 18 p = some 0 ∧ zsv 54 (p) = some 0 := by decide +kernel
theorem zs_r10 : ∀ p, p < 24 → zsv 19 p = some 0 ∧ zsv 56 (p) = some 0 := by decide +kernel
theorem zs_r11 : ∀ p, p < 5 → zsv 21 p = some 0 ∧ zsv 57 (p) = some 0 := by decide +kernel
theorem zs_r15 : ∀ p, p < 50 → zsv 28 p = some 0 ∧ zsv 58 (p) = some 0 := by decide +kernel
theorem zs_r17 : ∀ p, p < 24 → zsv 29 p = some 0 ∧ zsv 59 (p) = some 0 := by decide +kernel
theorem zs_r19 : ∀ p, p < 120 → zsv 10 p = some 0 ∧ zsv 48 (p) = some 0 := by decide +kernel
theorem zs_sh : ∀ d, d < 6 → zsv (zy_sh d) 1 = some (-1) ∧ zsv (zy_sh d) 2 = some (-1) ∧ zsv (zy_sh d) 3 = some 0 ∧ zsv 60 d = some (-1) ∧ zsv 61 d = some 0 := by decide +kernel
theorem zs_J : ∀ d, d < 6 → zH0[zy_sh d + 1]? = some (1, 1, 60, [(4, 0)], []) ∧ (zy_tm[zy_sh d + 1]?).map (fun t => t.1) = some 2 := by
  intro d hd
  rcases (by omega : d = 0 ∨ d = 1 ∨ d = 2 ∨ d = 3 ∨ d = 4 ∨ d = 5) with rfl | rfl | rfl | rfl | rfl | rfl <;> exact ⟨rfl, rfl⟩
section ZS
variable {s : zy_S} {ρ : List Int}
theorem zsv_at (hK : ∀ (i : Nat) (a : zA_C), zH0[i]? = some a → zsK s ρ i a) {c k : Nat} {n : Int} (h : zsv c k = some n) : (s.1 c k).toInt = n := by
  unfold zsv at h
  split at h
  · next a ha =>
    obtain ⟨k0, k1, -⟩ := hK c a ha
    split at h
    · next h0 =>
      split at h
      · next v hv =>
        split at h
        · next v0 =>
          cases h
          exact zV0 v0 (k0 h0 k v hv (Or.inr v0))
        · cases h
      · cases h
    · split at h
      · next h1 =>
        cases h
        obtain ⟨a1, a2, a3, a4⟩ := h1
        exact zV0 a4 (k1 a1 a2 k a3)
      · cases h
  · cases h
theorem zsJ_at (hK : ∀ (i : Nat) (a : zA_C), zH0[i]? = some a → zsK s ρ i a) {c n : Nat} (hc : zH0[c]? = some (1, 1, n, [(4, 0)], [])) (ht : (zy_tm[c]?).map (fun t => t.1) = some 2) {j : Nat} (hj : j < n) : s.2.1 c j = 0 := by
  obtain ⟨t, ht', h2⟩ := Option.map_eq_some_iff.mp ht
  have := (hK c _ hc).2.2 t ht' h2 j hj
  exact zq_eqJ.mpr (zV4 rfl this)
theorem zI_start (hK : ∀ (i : Nat) (a : zA_C), zH0[i]? = some a → zsK s ρ i a) (hW : zy_W s) : zI s := by
  have v : ∀ {c k : Nat} {n : Int}, zsv c k = some n → (s.1 c k).toInt = n := fun h => zsv_at hK h
  have eq : ∀ {c k c' k' : Nat} {n : Int}, zsv c k = some n → zsv c' k' = some n → s.1 c k = s.1 c' k' := fun h1 h2 => zq_ext (by rw [v h1, v h2])
  have vin : ∀ {c k : Nat} {n lo hi : Int}, zsv c k = some n → lo ≤ n → n ≤ hi → zin (s.1 c k) lo hi := fun h h1 h2 => by
    unfold zin
    rw [v h]
    exact ⟨h1, h2⟩
  have hg : zRg s := by
    intro c k hk
    have hc : c < 64 := by
      rcases Nat.lt_or_ge c 64 with q | q
      · exact q
      · unfold zrn at hk
        rw [List.getElem?_eq_none (show zy_tm.length ≤ c from q)] at hk
        cases hk
    have := List.all_eq_true.mp (List.all_eq_true.mp zsR_all c (List.mem_range.mpr hc)) k (List.mem_range.mpr hk)
    unfold zsR at this
    split at this
    · next n hn =>
      obtain ⟨a, b⟩ := of_decide_eq_true this
      exact vin hn a b
    · obtain ⟨a, b⟩ := of_decide_eq_true this
      unfold zin
      rw [a, b]
      exact ⟨zq_lo _, zq_hi _⟩
  obtain ⟨o1_5, o43_6, o1_4, o44_40, o1_3, o43_7, o17_2, o43_22, o17_3, o43_24, o17_4, o43_23, o22_5, o43_5, o22_6, o43_4, o27_2, o43_28, o27_3, o43_31, o9_2, o43_9, o5_3, o43_11⟩ := zs_one
  refine ⟨zy_Wb_of hW, hg, ⟨(eq o1_5 o43_6), (vin o1_5 (by decide) (by decide))⟩, (fun p hp => ⟨eq (zs_r2 p hp).1 (zs_r2 p hp).2, vin (zs_r2 p hp).1 (by decide) (by decide)⟩), (fun p hp => ⟨eq (zs_r3 p hp).1 (zs_r3 p hp).2, vin (zs_r3 p hp).1 (by decide) (by decide)⟩), (fun p hp => ⟨eq (zs_r4 p hp).1 (zs_r4 p hp).2, vin (zs_r4 p hp).1 (by decide) (by decide)⟩), ⟨(eq o1_4 o44_40), (vin o1_4 (by decide) (by decide))⟩, ⟨(eq o1_3 o43_7), (vin o1_3 (by decide) (by decide))⟩, (fun p hp => eq (zs_r7 p hp).1 (zs_r7 p hp).2), ⟨⟨(eq o17_2 o43_22), (vin o17_2 (by decide) (by decide))⟩, ⟨(eq o17_3 o43_24), (vin o17_3 (by decide) (by decide))⟩, (eq o17_4 o43_23), (vin o17_4 (by decide) (by rw [v o1_5]; decide))⟩, (fun p hp => by rw [v o17_4] at hp; omega), (fun p hp => ⟨eq (zs_r10 p hp).1 (zs_r10 p hp).2, vin (zs_r10 p hp).1 (by decide) (by decide)⟩), (fun p hp => eq (zs_r11 p hp).1 (zs_r11 p hp).2), ⟨(eq o22_5 o43_5), (eq o22_6 o43_4), (by rw [v o22_5]; decide), (by rw [v o22_5, v o22_6]; decide), (by rw [v o22_6]; decide)⟩, (fun p hp => by rw [v o22_6] at hp; omega), ⟨(eq o27_2 o43_28), (vin o27_2 (by decide) (by decide))⟩, (fun p hp => ⟨eq (zs_r15 p hp).1 (zs_r15 p hp).2, vin (zs_r15 p hp).1 (by decide) (by decide)⟩), ⟨(eq o27_3 o43_31), (vin o27_3 (by decide) (by decide))⟩, (fun p hp => eq (zs_r17 p hp).1 (zs_r17 p hp).2), ⟨(eq o9_2 o43_9), (vin o9_2 (by decide) (by decide))⟩, ⟨(fun p hp => ⟨eq (zs_r19 p hp).1 (zs_r19 p hp).2, vin (zs_r19 p hp).1 (by decide) (by decide)⟩), Or.inl ⟨zq_ext (v o5_3), zq_ext (v o43_11)⟩⟩, (fun d hd => by
    obtain ⟨u1, u2, u3, u4, u5⟩ := zs_sh d hd
    exact ⟨eq u3 u5, vin u3 (by decide) (by decide), Or.inl ⟨v u2, eq u1 u4, (by rw [v u1]; decide), (by rw [v u1, v o27_2]; decide), v u3⟩⟩), (fun d hd j hj => by
    obtain ⟨j1, j2⟩ := zs_J d hd
    have e1 := zsJ_at hK j1 j2 hj
    have e2 := zsJ_at hK (c := 62) (n := 360) rfl rfl (show 60 * d + j < 360 by omega)
    rw [e1, e2]
    exact ⟨rfl, fun _ => by decide, fun _ => by decide⟩)⟩
end ZS
