/-! PART 25.4: the search for the nearest board ends. -/
/-- x is what a choice of lines of the matter m gives, with room for c -/
def zbAt (φ : List z_C) (m c : Nat) (x : Int) (s : Nat) : Prop := ∃ k, k < s ∧ zbpc k ≤ c ∧ x = zrd φ 53 (16 * (m - 1) + k) + zrd φ 52 (10 * (m - 1) + (c - zbpc k))
theorem zbAt.mono {φ : List z_C} {m c : Nat} {x : Int} {s s' : Nat} (h : s ≤ s') (g : zbAt φ m c x s) : zbAt φ m c x s' := by
  obtain ⟨k, h1, h2⟩ := g
  exact ⟨k, by omega, h2⟩
/-- the table, up to (m, c) -/
def zbT (φ : List z_C) (m c : Nat) : Prop := ∀ m' c' : Nat, m' ≤ 6 → c' ≤ 9 → 10 * m' + c' < 10 * m + c → zrd φ 52 (10 * m' + c') ≤ 792 * (m' : Int) ∧ (1 ≤ m' → zbAt φ m' c' (zrd φ 52 (10 * m' + c')) 16)
def zbI2 (φ : List z_C) (N : Nat) (ns : List Int) : Prop := ∃ (m c s : Nat) (w e : Int), ns = [w, (m : Int), (c : Int), e, (s : Int)] ∧ m ≤ 6 ∧ c ≤ 9 ∧ s ≤ 16 ∧ zbT φ m c ∧ (m = 0 → e = 0) ∧ (1 ≤ m → (s = 0 ∧ e = 1000000) ∨ (1 ≤ s ∧ zbAt φ m c e s ∧ e ≤ 792 * (m : Int))) ∧ 1000 * (7 - m) + 50 * (10 - c) + (20 - s) < N
def zbI3 (φ : List z_C) (N : Nat) (ns : List Int) : Prop := ∃ (m c : Nat) (w e : Int), ns = [w, (m : Int), (c : Int), e] ∧ m ≤ 6 ∧ c ≤ 9 ∧ zbT φ m c ∧ (m = 0 → e = 0) ∧ (1 ≤ m → zbAt φ m c e 16 ∧ e ≤ 792 * (m : Int)) ∧ 1000 * (7 - m) + 50 * (10 - c) ≤ N
def zbI1 (φ : List z_C) (N : Nat) (ns : List Int) : Prop := ∃ (m c : Nat) (w : Int), ns = [w, (m : Int), (c : Int)] ∧ m ≤ 6 ∧ c ≤ 9 ∧ zbT φ m (c + 1) ∧ 1000 * (7 - m) + 50 * (10 - c) ≤ N
def zbW (φ : List z_C) (c m k : Nat) : Prop := zbpc k ≤ c ∧ zrd φ 53 (16 * (m - 1) + k) + zrd φ 52 (10 * (m - 1) + (c - zbpc k)) = zrd φ 52 (10 * m + c)
def zbIW (φ : List z_C) (M : Nat) (ns : List Int) : Prop := ∃ (c m s : Nat) (b : Int), ns = [(c : Int), b, (m : Int), (s : Int)] ∧ c ≤ 9 ∧ 1 ≤ m ∧ m ≤ 6 ∧ (∃ k, s ≤ k ∧ k < 16 ∧ zbW φ c m k) ∧ 20 * m + (16 - s) < M
theorem zbA_53 {φ : List z_C} (hA : zArOk φ zbA) (k : Nat) (hk : k < 96) : 0 ≤ zrd φ 53 k ∧ zrd φ 53 k ≤ 792 := (hA 53 (96, 0, 792) rfl).2 k hk
theorem zbA_52 {φ : List z_C} (hA : zArOk φ zbA) (k : Nat) (hk : k < 70) : 0 ≤ zrd φ 52 k ∧ zrd φ 52 k ≤ 1000000 := (hA 52 (70, 0, 1000000) rfl).2 k hk
theorem zbpc_16 (k : Nat) : zbpc k ≤ 4 := by unfold zbpc; omega
theorem zcI {a b c d : Int} {i j k n : Nat} (h : 16 = i) : i = 16 := h.symm
/-- five names -/
theorem zns5 {ρ : List Int} {a b c d e : Int} (hle : zLE [a, b, c, d, e] ρ) : ρ[0]? = some a ∧ ρ[1]? = some b ∧ ρ[2]? = some c ∧ ρ[3]? = some d ∧ ρ[4]? = some e := ⟨hle 0 _ rfl, hle 1 _ rfl, hle 2 _ rfl, hle 3 _ rfl, hle 4 _ rfl⟩
theorem zns4 {ρ : List Int} {a b c d : Int} (hle : zLE [a, b, c, d] ρ) : ρ[0]? = some a ∧ ρ[1]? = some b ∧ ρ[2]? = some c ∧ ρ[3]? = some d := ⟨hle 0 _ rfl, hle 1 _ rfl, hle 2 _ rfl, hle 3 _ rfl⟩
theorem zns3 {ρ : List Int} {a b c : Int} (hle : zLE [a, b, c] ρ) : ρ[0]? = some a ∧ ρ[1]? = some b ∧ ρ[2]? = some c := ⟨hle 0 _ rfl, hle 1 _ rfl, hle 2 _ rfl⟩
/-- what was read, by its place -/
theorem zFa_v {φ : List z_C} {ρ : List Int} {S : zA_S} {fa : zFa} {l : List (Int × zA_V)} {i c : Int} {cell : Nat} (hS : zg_S ρ S) (hf : zFaOk φ ρ fa) (hc : Nat.beq fa.2.2 cell = true) (h : zleq0 S ((i, fa.2.1) :: l) c = true) : zval ρ (1, (fa.1 : Int)) = zrd φ cell (zval ρ fa.2.1).toNat ∧ 0 ≤ zval ρ fa.2.1 := by
  obtain ⟨x, h1, h2, h3⟩ := hf
  have e := Nat.eq_of_beq_eq_true hc
  have ev := zleq0_v (a := (i, fa.2.1)) hS h h1
  have ev : zval ρ fa.2.1 = x := ev
  rw [ev, ← e]
  exact ⟨zv_name h3, h2⟩
theorem zb2s_g {φ : List z_C} {N k : Nat} {Fs : List zFa} {t : zA_T} {ρ : List Int} (hk : k < 16) (hA : zArOk φ zbA) (h : zb2s k Fs t = true) (hp : zPF φ (zbI2 φ (N + 1)) Fs ρ) (hS : zg_S ρ t.1) : zPf (zbI2 φ N) ([zlv t 1, zlv t 3, zlv t 4, zlv t 5, zlv t 6].map (zval ρ)) := by
  obtain ⟨⟨ns, hle, m, c, s, w, e, rfl, i1, i2, i3, iT, i4, i5, i6⟩, hF⟩ := hp
  obtain ⟨b0, b1, b2, b3, b4⟩ := zns5 hle
  unfold zb2s at h
  obtain ⟨-, z0⟩ := zw_and h
  obtain ⟨h1, z1⟩ := zw_and z0
  obtain ⟨h2, z2⟩ := zw_and z1
  obtain ⟨h3, z3⟩ := zw_and z2
  obtain ⟨h4, z4⟩ := zw_and z3
  clear h z0 z1 z2 z3
  have v1 := zl_2 (zleq0_g hS h1)
  have v2 := zl_2 (zleq0_g hS h2)
  have v3 := zl_1 (zleq0_g hS h3)
  have v4 := zl_1 (zleq0_g hS h4)
  have n1 : zval ρ (1, 1) = (m : Int) := zv_name (k := 1) b1
  have n2 : zval ρ (1, 2) = (c : Int) := zv_name (k := 2) b2
  have n3 : zval ρ (1, 3) = e := zv_name (k := 3) b3
  have n4 : zval ρ (1, 4) = (s : Int) := zv_name (k := 4) b4
  rw [n1] at v1
  rw [n2] at v2
  rw [n4] at v3
  have es : s = k := by omega
  subst es
  have em : zval ρ (zlv t 3) = (m : Int) := by omega
  have ec : zval ρ (zlv t 4) = (c : Int) := by omega
  have e6 : zval ρ (zlv t 6) = ((s + 1 : Nat) : Int) := by omega
  have fin : ∀ e' : Int, zval ρ (zlv t 5) = e' → (m = 0 → e' = 0) → (1 ≤ m → zbAt φ m c e' (s + 1) ∧ e' ≤ 792 * (m : Int)) → zPf (zbI2 φ N) ([zlv t 1, zlv t 3, zlv t 4, zlv t 5, zlv t 6].map (zval ρ)) := fun e' h5 k1 k2 => by
    refine zPf_self ⟨m, c, s + 1, zval ρ (zlv t 1), e', ?_, i1, i2, by omega, iT, k1, fun hm => Or.inr ⟨by omega, k2 hm⟩, by omega⟩
    show [zval ρ (zlv t 1), zval ρ (zlv t 3), zval ρ (zlv t 4), zval ρ (zlv t 5), zval ρ (zlv t 6)] = _
    rw [em, ec, h5, e6]
  split at z4
  · obtain ⟨h5, h6⟩ := zw_and z4
    have h5 := Nat.le_of_ble_eq_true h5
    have v5 := zl_2 (zleq0_g hS h6)
    rw [n3] at v5
    refine fin e (by omega) i4 (fun hm => ?_)
    rcases i5 hm with ⟨r, -⟩ | ⟨-, r1, r2⟩
    · omega
    · exact ⟨r1.mono (by omega), r2⟩
  · next f2 f1 =>
    obtain ⟨q1, h⟩ := zw_and z4
    obtain ⟨q2, h⟩ := zw_and h
    obtain ⟨q3, h⟩ := zw_and h
    obtain ⟨q4, h⟩ := zw_and h
    obtain ⟨q5, h⟩ := zw_and h
    obtain ⟨q6, h⟩ := zw_and h
    obtain ⟨u1, p1⟩ := zFa_v hS (hF f1 (by simp)) q2 q3
    obtain ⟨u2, p2⟩ := zFa_v hS (hF f2 (by simp)) q1 q4
    have w3 := zl_2 (zleq0_g hS q3)
    have w4 := zl_3 (zleq0_g hS q4)
    have w5 := zm_1 (zlle_g hS q5)
    have w6 := zm_1 (zlle_g hS q6)
    rw [n1] at w3 w4 w5
    rw [n2] at w4 w6
    have hm : 1 ≤ m := by omega
    have hpc : zbpc s ≤ c := by omega
    have x1 : (zval ρ f1.2.1).toNat = 16 * (m - 1) + s := by omega
    have x2 : (zval ρ f2.2.1).toNat = 10 * (m - 1) + (c - zbpc s) := by omega
    rw [x1] at u1
    rw [x2] at u2
    have B1 := zbA_53 hA (16 * (m - 1) + s) (by omega)
    have B2 := zbA_52 hA (10 * (m - 1) + (c - zbpc s)) (by omega)
    have B3 := (iT (m - 1) (c - zbpc s) (by omega) (by omega) (by omega)).1
    have new : zbAt φ m c (zrd φ 53 (16 * (m - 1) + s) + zrd φ 52 (10 * (m - 1) + (c - zbpc s))) (s + 1) := ⟨s, by omega, hpc, rfl⟩
    generalize zrd φ 53 (16 * (m - 1) + s) = F1 at *
    generalize zrd φ 52 (10 * (m - 1) + (c - zbpc s)) = G1 at *
    have B4 : F1 + G1 ≤ 792 * (m : Int) := by omega
    rcases zw_or h with h | h
    · have v5 := zl_3 (zleq0_g hS h)
      rw [u1, u2] at v5
      exact fin (F1 + G1) (by omega) (fun h0 => by omega) (fun _ => ⟨new, B4⟩)
    · obtain ⟨r1, h⟩ := zw_and h
      obtain ⟨r2, r3⟩ := zw_and h
      have v5 := zl_2 (zleq0_g hS r1)
      have v6 := zm_2 (zlle_g hS r2)
      have v7 := zl_3 (zleq0_g hS r3)
      rw [n3] at v5 v6
      rw [u1, u2] at v7
      refine fin e (by omega) i4 (fun hm => ?_)
      rcases i5 hm with ⟨r, re⟩ | ⟨-, g1, g2⟩
      · omega
      · exact ⟨g1.mono (by omega), g2⟩
  · cases z4
theorem zb23_g {φ : List z_C} {N : Nat} {Fs : List zFa} {t : zA_T} {ρ : List Int} (h1 : zleq0 t.1 [(1, zlv t 3), (-1, (1, 1))] 0 = true) (h2 : zleq0 t.1 [(1, zlv t 4), (-1, (1, 2))] 0 = true) (h3 : zleq0 t.1 [(1, zlv t 5), (-1, (1, 3))] 0 = true) (h4 : (zleq0 t.1 [(1, (1, 4))] (-16) || zleq0 t.1 [(1, (1, 1))] 0) = true) (hp : zPF φ (zbI2 φ (N + 1)) Fs ρ) (hS : zg_S ρ t.1) : zPf (zbI3 φ N) ([zlv t 1, zlv t 3, zlv t 4, zlv t 5].map (zval ρ)) := by
  obtain ⟨⟨ns, hle, m, c, s, w, e, rfl, i1, i2, i3, iT, i4, i5, i6⟩, hF⟩ := hp
  obtain ⟨b0, b1, b2, b3, b4⟩ := zns5 hle
  have v1 := zl_2 (zleq0_g hS h1)
  have v2 := zl_2 (zleq0_g hS h2)
  have v3 := zl_2 (zleq0_g hS h3)
  have n1 : zval ρ (1, 1) = (m : Int) := zv_name (k := 1) b1
  have n2 : zval ρ (1, 2) = (c : Int) := zv_name (k := 2) b2
  have n3 : zval ρ (1, 3) = e := zv_name (k := 3) b3
  have n4 : zval ρ (1, 4) = (s : Int) := zv_name (k := 4) b4
  rw [n1] at v1
  rw [n2] at v2
  rw [n3] at v3
  have h5 : 1 ≤ m → s = 16 := by
    intro hm
    rcases zw_or h4 with h | h
    · have := zl_1 (zleq0_g hS h)
      rw [n4] at this
      omega
    · have := zl_1 (zleq0_g hS h)
      rw [n1] at this
      omega
  refine zPf_self ⟨m, c, zval ρ (zlv t 1), e, ?_, i1, i2, iT, i4, fun hm => ?_, by omega⟩
  · show [zval ρ (zlv t 1), zval ρ (zlv t 3), zval ρ (zlv t 4), zval ρ (zlv t 5)] = _
    have em : zval ρ (zlv t 3) = (m : Int) := by omega
    have ec : zval ρ (zlv t 4) = (c : Int) := by omega
    have ee : zval ρ (zlv t 5) = e := by omega
    rw [em, ec, ee]
  · rcases i5 hm with ⟨r, re⟩ | ⟨-, g1, g2⟩
    · have := h5 hm
      omega
    · rw [h5 hm] at g1
      exact ⟨g1, g2⟩
theorem zat0_g {D p0 m d pc : Nat} {stk : List zA_F} (h : zat0 D p0 m d pc stk = true) : pc = p0 ∧ m = 215 ∧ d = D ∧ stk = [] := by
  unfold zat0 at h
  obtain ⟨h1, h⟩ := zw_and h
  obtain ⟨h2, h⟩ := zw_and h
  obtain ⟨h3, h⟩ := zw_and h
  refine ⟨Nat.eq_of_beq_eq_true h1, Nat.eq_of_beq_eq_true h2, Nat.eq_of_beq_eq_true h3, ?_⟩
  cases stk with
  | nil => rfl
  | cons a b => cases h
section ZB
variable {l : Launch} {X : zx_X} {Q : Option Value → List z_C → Prop}
/-- from number to number -/
theorem zb_2 {N : Nat} {φ : List z_C} (hA : zArOk φ zbA) (h2 : zGd l X 2000000 φ (zPf (zbI2 φ N)) Q 215 200 113 zK2 []) (h3 : zGd l X 2000000 φ (zPf (zbI3 φ N)) Q 215 200 198 zK3 []) : zGd l X 2000000 φ (zPf (zbI2 φ (N + 1))) Q 215 200 113 zK2 [] := by
  have hcf : ∀ Fs m d pc t stk, zcf2 200 Fs m d pc t stk = true → zGd l X 2000000 φ (zPF φ (zbI2 φ (N + 1)) Fs) Q m d pc t stk := by
    intro Fs m d pc t stk h
    unfold zcf2 at h
    rcases zw_or h with h | h
    · obtain ⟨ha, h⟩ := zw_and h
      obtain ⟨rfl, rfl, rfl, rfl⟩ := zat0_g ha
      obtain ⟨k, hk, hb⟩ := List.any_eq_true.mp h
      exact zGd_m (XL' := 2000000) (by decide) (zw_and hb).1 (fun ρ hp hS _ => zb2s_g (List.mem_range.mp hk) hA hb hp hS) h2
    · obtain ⟨ha, z1⟩ := zw_and h
      obtain ⟨k1, z2⟩ := zw_and z1
      obtain ⟨k2, z3⟩ := zw_and z2
      obtain ⟨k3, z4⟩ := zw_and z3
      obtain ⟨k4, k5⟩ := zw_and z4
      obtain ⟨rfl, rfl, rfl, rfl⟩ := zat0_g ha
      exact zGd_m (XL' := 2000000) (by decide) k1 (fun ρ hp hS _ => zb23_g k2 k3 k4 k5 hp hS) h3
  have hd : ∀ pc ∈ [156, 172], decode (zm 215).2.1 pc = .ok (.iaload, 1) := by
    intro pc hpc
    rcases List.mem_cons.mp hpc with rfl | hpc
    · decide +kernel
    · rw [List.mem_singleton] at hpc
      subst hpc
      decide +kernel
  have r := zGd_run (P := zPF φ (zbI2 φ (N + 1)) []) (l := l) (X := X) (Q0 := Q) (zPF_up _ _ _) (znf_ok _) (zbO_ok l X 2000000 φ _) (zrX_g hA (by decide) hd (fun Fs => znf_ok _) (fun Fs => zbO_ok l X 2000000 φ _) hcf 2 []) (by decide) zbr_2
  exact zGd_P (fun ρ _ hp => ⟨hp, fun fa h => by cases h⟩) r
/-! the number is written -/
theorem zHB_8 : zh8 0 zHB = true := by decide +kernel
theorem zHB_52 : zHB[52]? = some (8, 52, 0, [], []) := rfl
theorem zHB_53 : zHB[53]? = some (8, 53, 0, [], []) := rfl
theorem zset_g {H0 : zA_H} (h80 : zh8 0 H0 = true) {φ : List z_C} {ρ : List Int} {ph : List z_C} {i : Nat} {x : z_C} (h8 : ∃ b, H0[i]? = some b ∧ b.1 = 8) (hl : i < φ.length) (g : zL2 (zg_C φ ρ) H0 ph) : zL2 (zg_C (φ.set i x) ρ) H0 (ph.set i x) := by
  refine zL2.ofGet (by rw [List.length_set]; exact zL2.len g) (fun j b y hb hy => ?_)
  obtain ⟨k1, k2⟩ := zh8_at h80 j b hb
  by_cases hij : i = j
  · subst hij
    obtain ⟨b', hb', b8⟩ := h8
    rw [hb] at hb'
    cases hb'
    have hlp : i < ph.length := by rw [← zL2.len g]; exact (List.getElem?_eq_some_iff.mp hb).1
    rw [List.getElem?_set_self hlp] at hy
    cases hy
    refine Or.inl ⟨b8, ?_⟩
    rw [k1 b8, Nat.zero_add]
    exact List.getElem?_set_self hl
  · rw [List.getElem?_set_ne hij] at hy
    obtain ⟨y', ey, gy⟩ := zL2.get g hb
    rw [hy] at ey
    cases ey
    rcases gy with ⟨g1, g2⟩ | ⟨g1, fs, e, gf, gz⟩ | gy
    · refine Or.inl ⟨g1, ?_⟩
      have e := k1 g1
      rw [Nat.zero_add] at e
      rw [e] at g2 ⊢
      rw [List.getElem?_set_ne hij]
      exact g2
    · refine Or.inr (Or.inl ⟨g1, fs, e, gf, fun q hq => ?_⟩)
      obtain ⟨z1, n, gs, z2, z3⟩ := gz q hq
      have e := k2 g1 q hq
      rw [Nat.zero_add] at e
      refine ⟨z1, n, gs, ?_, z3⟩
      rw [e] at z2 ⊢
      have z2 : φ[((j : Int)).toNat]? = some (.inr (n, gs)) := z2
      show (φ.set i x)[((j : Int)).toNat]? = _
      rw [Int.toNat_natCast] at z2 ⊢
      rw [List.getElem?_set_ne hij]
      exact z2
    · exact Or.inr (Or.inr gy)
theorem zrd_set_ne {φ : List z_C} {i c k : Nat} {x : z_C} (h : i ≠ c) : zrd (φ.set i x) c k = zrd φ c k := by
  unfold zrd
  rw [List.getElem?_set_ne h]
theorem zJ_set {φ : List z_C} {x : z_C} (hJ : zJ φ) : zJ (φ.set 52 x) := by
  have e : ∀ c, c ≠ 52 → (φ.set 52 x)[c]? = φ[c]? := fun c hc => List.getElem?_set_ne (fun h => hc h.symm)
  have k : ∀ {fc ff fk : Nat}, fc ≠ 52 → zjK fc ff fk φ → zjK fc ff fk (φ.set 52 x) := fun hc ⟨n, gs, a, b, h1, h2⟩ => ⟨n, gs, a, b, by rw [e _ hc]; exact h1, h2⟩
  have np : ∀ p ∈ zPs, p.1 ≠ 52 ∧ p.2.2.1 ≠ 52 := by decide
  refine ⟨⟨zjR_same (fun c hc => e c ?_) hJ.1.1, k (by decide) hJ.1.2⟩, ⟨zjR_same (fun c hc => e c ?_) hJ.2.1.1, k (by decide) hJ.2.1.2⟩, fun p hp => ?_⟩
  · intro h
    subst h
    exact absurd hc (by decide)
  · intro h
    subst h
    exact absurd hc (by decide)
  · obtain ⟨n, m, gs, hs, v, e1, e2, e3, e4⟩ := hJ.2.2 p hp
    exact ⟨n, m, gs, hs, v, by rw [e _ (np p hp).1]; exact e1, e2, by rw [e _ (np p hp).2]; exact e3, e4⟩
/-- the table with one more number -/
theorem zbT_set {φ : List z_C} {f : Nat → Int32} {m c : Nat} {y : Int32} {e : Int} (hA : zArOk φ zbA) (hf : φ[52]? = some (.inl (0, 70, z_I f))) (hm : m ≤ 6) (hc : c ≤ 9) (hy : y.toInt = e) (he0 : 0 ≤ e) (he1 : e ≤ 792 * (m : Int)) (hat : 1 ≤ m → zbAt φ m c e 16) (hT : zbT φ m c) :
    zArOk (φ.set 52 (.inl (0, 70, z_I (upd f (10 * m + c) y)))) zbA ∧ zbT (φ.set 52 (.inl (0, 70, z_I (upd f (10 * m + c) y)))) m (c + 1) := by
  have hl : 52 < φ.length := (List.getElem?_eq_some_iff.mp hf).1
  have hnew : (φ.set 52 (.inl (0, 70, z_I (upd f (10 * m + c) y))))[52]? = some (.inl (0, 70, z_I (upd f (10 * m + c) y))) := List.getElem?_set_self hl
  generalize hφ : φ.set 52 (.inl (0, 70, z_I (upd f (10 * m + c) y))) = φ' at hnew
  have r53 : ∀ k, zrd φ' 53 k = zrd φ 53 k := fun k => by rw [← hφ]; exact zrd_set_ne (by decide)
  have r52 : ∀ k, k ≠ 10 * m + c → zrd φ' 52 k = zrd φ 52 k := fun k hk => by
    rw [zrd_eqn hnew, zrd_eqn hf]
    unfold upd
    rw [if_neg hk]
  have r52s : zrd φ' 52 (10 * m + c) = e := by
    rw [zrd_eqn hnew]
    unfold upd
    rw [if_pos rfl, hy]
  have hatt : ∀ m' c' x s, c' ≤ 9 → 1 ≤ m' → 10 * m' + c' ≤ 10 * m + c → zbAt φ m' c' x s → zbAt φ' m' c' x s := by
    intro m' c' x s h1 h0 h2 ⟨k, q1, q2, q3⟩
    refine ⟨k, q1, q2, ?_⟩
    rw [r53, r52 _ (by omega)]
    exact q3
  refine ⟨?_, ?_⟩
  · intro i q hq
    have hq : zbA.lookup i = some q := hq
    unfold zbA at hq
    rw [List.lookup_cons] at hq
    cases h52 : i == 52 with
    | true =>
      rw [h52] at hq
      cases hq
      have e52 : i = 52 := by simpa using h52
      subst e52
      refine ⟨⟨_, hnew⟩, fun k hk => ?_⟩
      by_cases hkk : k = 10 * m + c
      · subst hkk
        rw [r52s]
        exact ⟨he0, by show e ≤ 1000000; omega⟩
      · rw [r52 k hkk]
        exact zbA_52 hA k hk
    | false =>
      rw [h52] at hq
      rw [List.lookup_cons] at hq
      cases h53 : i == 53 with
      | true =>
        rw [h53] at hq
        cases hq
        have e53 : i = 53 := by simpa using h53
        subst e53
        refine ⟨?_, fun k hk => ?_⟩
        · obtain ⟨f', hf'⟩ := (hA 53 (96, 0, 792) rfl).1
          exact ⟨f', by rw [← hφ, List.getElem?_set_ne (by decide)]; exact hf'⟩
        · rw [r53]
          exact zbA_53 hA k hk
      | false =>
        rw [h53] at hq
        cases hq
  · intro m' c' h1 h2 h3
    by_cases hlt : 10 * m' + c' < 10 * m + c
    · obtain ⟨t1, t2⟩ := hT m' c' h1 h2 hlt
      rw [r52 _ (by omega)]
      exact ⟨t1, fun h => hatt m' c' _ 16 h2 h (by omega) (t2 h)⟩
    · have em : m' = m := by omega
      have ec : c' = c := by omega
      subst em ec
      rw [r52s]
      exact ⟨he1, fun h => hatt m' c' _ 16 h2 h (Nat.le_refl _) (hat h)⟩
theorem zb_d210 : decode (zm 215).2.1 210 = .ok (.iastore, 1) := by decide +kernel
theorem zb_3 {N : Nat} {φ : List z_C} (hJ : zJ φ) (hA : zArOk φ zbA) (h1 : ∀ φ', zJ φ' → zArOk φ' zbA → zGd l X 2000000 φ' (zPf (zbI1 φ' N)) Q 215 200 211 zK1 []) : zGd l X 2000000 φ (zPf (zbI3 φ N)) Q 215 200 198 zK3 [] := by
  refine zGd_run (zPf_up _) (znf_ok _) (zbO_ok l X 2000000 φ _) ?_ (by decide) zbr_3
  intro m d pc t stk h
  unfold zc3 at h
  obtain ⟨ha, hst⟩ := zw_and h
  obtain ⟨rfl, rfl, rfl, rfl⟩ := zat0_g ha
  clear h ha
  obtain ⟨S, H, L, s0, cc, ns0⟩ := t
  intro ρ ph lv st cst hp g gs
  cases cst with
  | cons a b => exact gs.elim
  | nil =>
    obtain ⟨g1, g2, g3, g4, g5⟩ := g
    split at hst
    · next v j a hs0 =>
      have hs0 : s0 = [v, j, a] := hs0
      subst hs0
      obtain ⟨p1, z1⟩ := zw_and hst
      obtain ⟨p2, z2⟩ := zw_and z1
      obtain ⟨p3, z3⟩ := zw_and z2
      obtain ⟨p4, z4⟩ := zw_and z3
      obtain ⟨p5, z5⟩ := zw_and z4
      obtain ⟨p6, z6⟩ := zw_and z5
      obtain ⟨p7, z7⟩ := zw_and z6
      obtain ⟨p8, p9⟩ := zw_and z7
      clear hst z1 z2 z3 z4 z5 z6 z7
      obtain ⟨vv, st1, rfl, gv, gr1⟩ := zL2.cons1 g4
      obtain ⟨vj, st2, rfl, gj, gr2⟩ := zL2.cons1 gr1
      obtain ⟨va, st3, rfl, ga, gr3⟩ := zL2.cons1 gr2
      have hs3 := zL2.nil1 gr3
      subst hs3
      have ea := zVeq_eq _ _ p1
      subst ea
      have er := zg_ref (a := (2, 55)) rfl ga
      subst er
      obtain ⟨y, rfl, ey⟩ := zg_int p2 gv
      obtain ⟨x, rfl, ex⟩ := zg_int p3 gj
      obtain ⟨ns, hle, m, c, w, e, rfl, i1, i2, iT, i4, i5, i6⟩ := hp
      obtain ⟨b0, b1, b2, b3⟩ := zns4 hle
      have v5 := zl_2 (zleq0_g g1 p5)
      have v6 := zl_2 (zleq0_g g1 p6)
      have v7 := zl_2 (zleq0_g g1 p7)
      have v8 := zl_3 (zleq0_g g1 p8)
      have n1 : zval ρ (1, 1) = (m : Int) := zv_name (k := 1) b1
      have n2 : zval ρ (1, 2) = (c : Int) := zv_name (k := 2) b2
      have n3 : zval ρ (1, 3) = e := zv_name (k := 3) b3
      rw [n1] at v5 v8
      rw [n2] at v6 v8
      rw [n3, zval_E p2 ey] at v7
      rw [zval_E p3 ex] at v8
      have em : zval ρ (zlv (S, H, L, [v, j, (2, 55)], cc, ns0) 3) = (m : Int) := by omega
      have ec : zval ρ (zlv (S, H, L, [v, j, (2, 55)], cc, ns0) 4) = (c : Int) := by omega
      have hy : y.toInt = e := by omega
      have hx : x.toInt = 10 * (m : Int) + c := by omega
      have hxn : x.toNatClampNeg = 10 * m + c := by show x.toInt.toNat = _; omega
      obtain ⟨f, hf⟩ := (hA 52 (70, 0, 1000000) rfl).1
      have he : 0 ≤ e ∧ e ≤ 792 * (m : Int) := by
        by_cases h0 : m = 0
        · have := i4 h0
          omega
        · obtain ⟨⟨k, q1, q2, q3⟩, q4⟩ := i5 (by omega)
          have B1 := zbA_53 hA (16 * (m - 1) + k) (by omega)
          have B2 := zbA_52 hA (10 * (m - 1) + (c - zbpc k)) (by omega)
          omega
      obtain ⟨hA', hT'⟩ := zbT_set hA hf i1 i2 hy he.1 he.2 (fun hm => (i5 hm).1) iT
      obtain ⟨-, eq, lv0, m0, g0⟩ := zmT_g (X := X) (XL := 2000000) (XL' := 2000000) (φ := φ) (ρ := ρ) (ph := ph) (lv := lv) (st := []) (by decide) p4 ⟨g1, g2, g3, trivial, g5⟩
      have h52 : ph[52]? = some (.inl (0, 70, z_I f)) := by
        obtain ⟨c', e1, gc⟩ := zL2.get g0.2.1 zHB_52
        rcases gc with ⟨-, gc⟩ | ⟨g1, -⟩ | ⟨g1, -⟩ | ⟨g1, -⟩ | ⟨g1, -⟩
        · have gc : φ[52]? = some c' := gc
          rw [e1, ← gc, hf]
        · exact absurd g1 (by decide)
        · exact absurd g1 (by decide)
        · exact absurd g1 (by decide)
        · exact absurd g1 (by decide)
      refine zs_iastore (i := 52) zb_d210 h52 (vp_in_iff.mpr ⟨by omega, by omega⟩) ?_
      rw [hxn]
      have hlen : 52 < φ.length := (List.getElem?_eq_some_iff.mp hf).1
      have k := h1 _ (zJ_set (x := .inl (0, 70, z_I (upd f (10 * m + c) y))) hJ) hA' _ (ph.set 52 (.inl (0, 70, z_I (upd f (10 * m + c) y)))) lv0 [] [] (zPf_self ⟨m, c, zval ρ (zlv (S, H, L, [v, j, (2, 55)], cc, ns0) 1), ?_, i1, i2, hT', i6⟩) ⟨g0.1, zset_g zHB_8 ⟨_, zHB_52, rfl⟩ hlen g0.2.1, g0.2.2.1, trivial, zg_Xno _ _ _ (by decide) (by decide)⟩ trivial
      · have k := k.lsub m0
        rw [← eq] at k
        exact k
      · show [zval ρ (zlv (S, H, L, [v, j, (2, 55)], cc, ns0) 1), zval ρ (zlv (S, H, L, [v, j, (2, 55)], cc, ns0) 3), zval ρ (zlv (S, H, L, [v, j, (2, 55)], cc, ns0) 4)] = _
        rw [em, ec]
    · cases hst
end ZB
