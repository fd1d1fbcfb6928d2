/-! PART 46.91: acts as lists of what ran. Made by wip/v6/gen_act.py. -/
/-- the counter at c, f and the row t say that just the bodies L have run -/
def zaN (c f t : Nat) (L : List Int32) (s : zy_S) : zy_S := zy_up (zy_ua s t (fun j => (L[j]?).getD (s.1 t j))) c f (Int32.ofNat L.length)
theorem zaN_at {c f t a b : Nat} {L : List Int32} {s : zy_S} : (zaN c f t L s).1 a b = if a = c ∧ b = f then Int32.ofNat L.length else if a = t then (L[b]?).getD (s.1 t b) else s.1 a b := by
  unfold zaN
  rw [zy_up_at, zy_ua_at]
theorem zaN_nil (c f t : Nat) (s : zy_S) : zaN c f t [] s = zy_up s c f 0 := by
  refine Prod.ext (funext fun a => funext fun b => ?_) rfl
  rw [zaN_at, zy_up_at]
  by_cases h1 : a = c ∧ b = f
  · rw [if_pos h1, if_pos h1]
    rfl
  · rw [if_neg h1, if_neg h1]
    by_cases h2 : a = t
    · rw [if_pos h2, h2]
      rfl
    · rw [if_neg h2]
theorem zaN_up {c f t : Nat} {L : List Int32} {s : zy_S} (v : Int32) (hL : L.length < 24) : zy_up (zy_up (zaN c f t L s) t (Int32.ofNat L.length).toNatClampNeg v) c f (Int32.ofNat L.length + 1) = zaN c f t (L ++ [v]) s := by
  refine Prod.ext (funext fun a => funext fun b => ?_) rfl
  have nl : (Int32.ofNat L.length).toNatClampNeg = L.length := by
    rw [zq_ix, zN_toInt (by omega)]
    omega
  rw [zy_up_at, zy_up_at, zaN_at, zaN_at, nl]
  by_cases h1 : a = c ∧ b = f
  · rw [if_pos h1, if_pos h1]
    refine zq_ext ?_
    rw [zq_add (by rw [zN_toInt (by omega), zq_l1]; omega) (by rw [zN_toInt (by omega), zq_l1]; omega), zN_toInt (by omega), zq_l1, zN_toInt (by rw [List.length_append, List.length_singleton]; omega), List.length_append, List.length_singleton]
    omega
  · rw [if_neg h1, if_neg h1, if_neg h1]
    by_cases h2 : a = t ∧ b = L.length
    · rw [if_pos h2, if_pos h2.1, h2.2, List.getElem?_append_right (Nat.le_refl _), Nat.sub_self]
      rfl
    · rw [if_neg h2]
      by_cases h3 : a = t
      · rw [if_pos h3, if_pos h3]
        have hb : b ≠ L.length := fun e => h2 ⟨h3, e⟩
        rcases Nat.lt_or_ge b L.length with g | g
        · rw [List.getElem?_append_left g]
        · rw [List.getElem?_eq_none g, List.getElem?_eq_none (by rw [List.length_append, List.length_singleton]; omega)]
      · rw [if_neg h3, if_neg h3]
theorem zaN_sh {c f t : Nat} {L : List Int32} {s : zy_S} {d j : Nat} (hc : c < 31 ∨ 43 ≤ c) (ht : t < 31 ∨ 43 ≤ t) (hd : d < 6) : (zaN c f t L s).1 (zy_sh d) j = s.1 (zy_sh d) j := by
  unfold zaN
  rw [zf_sh hc hd, zf_sha ht hd]
theorem zaN_28 {L : List Int32} {s : zy_S} (j : Nat) : (zaN 27 3 29 L s).1 28 j = s.1 28 j := rfl
theorem zaN_32 {L : List Int32} {s : zy_S} : (zaN 43 31 59 L s).1 43 32 = s.1 43 32 := rfl
theorem zaN_33 {L : List Int32} {s : zy_S} : (zaN 43 31 59 L s).1 43 33 = s.1 43 33 := rfl
theorem zaN_156 {L : List Int32} {s : zy_S} (v : Int32) (hL : L.length < 24) : zyF156 v (zaN 27 3 29 L s) = some (0, zaN 27 3 29 (L ++ [v]) s) := by
  have e : (zaN 27 3 29 L s).1 27 3 = Int32.ofNat L.length := rfl
  have n : (Int32.ofNat L.length).toInt = L.length := zN_toInt (by omega)
  unfold zyF156 zyF156_19
  rw [e, if_neg (by rw [Int32.le_iff_toInt_le, n, zq_l24]; omega), if_pos (zq_in.mpr (by rw [n]; omega)), zf_up (by decide), e, zaN_up v hL]
theorem zaN_251 {L : List Int32} {s : zy_S} (v : Int32) (hL : L.length < 24) : zyF251 v (zaN 43 31 59 L s) = some (0, zaN 43 31 59 (L ++ [v]) s) := by
  have e : (zaN 43 31 59 L s).1 43 31 = Int32.ofNat L.length := rfl
  have n : (Int32.ofNat L.length).toInt = L.length := zN_toInt (by omega)
  unfold zyF251 zyF251_19
  rw [e, if_neg (by rw [Int32.le_iff_toInt_le, n, zq_l24]; omega), if_pos (zq_in.mpr (by rw [n]; omega)), zf_up (by decide), e, zaN_up v hL]
theorem zaD {d : Int32} {h : Int} (g : 0 ≤ d.toInt ∧ d.toInt + h ≤ 40) : h ≤ 0 ∨ (d < (40 : Int32) ∧ (d + (1 : Int32)).toInt = d.toInt + 1) := by
  by_cases q : h ≤ 0
  · exact Or.inl q
  · refine Or.inr ⟨?_, ?_⟩
    · rw [Int32.lt_iff_toInt_lt, zq_l40]
      omega
    · rw [zq_add (by rw [zq_l1]; omega) (by rw [zq_l1]; omega), zq_l1]
theorem zaD' {d : Int32} {h : Int} (q : 0 < h) (g : 0 ≤ d.toInt ∧ d.toInt + h ≤ 40) : d < (40 : Int32) ∧ (d + (1 : Int32)).toInt = d.toInt + 1 := (zaD g).resolve_left (by omega)
section ZA
variable {g1 : Int32 → Int32 → Int32 → Int32 → Int32 → zy_S → Option (Int32 × zy_S)} {g2 : Int32 → Int32 → Int32 → Int32 → zy_S → Option (Int32 × zy_S)} {g3 : Int32 → Int32 → Int32 → Int32 → Int32 → zy_S → Option (Int32 × zy_S)} {x1 x2 x3 x4 x5 x6 x7 : Int32} {s : zy_S} {L : List Int32}
theorem zaq (n : Nat) : zyF155_6 g1 g2 g3 (n + 1) x1 x3 x4 x5 x6 x7 s = zyF155_6b g1 g2 g3 (zyF155_6 g1 g2 g3 n) x1 x3 x4 x5 x6 x7 s := rfl
theorem zak {k : Int32} (h0 : ¬ k < 0) (h8 : ¬ (8 : Int32) ≤ k) : zyF149 k s = some (1, s) := by
  unfold zyF149
  rw [if_neg h0, if_neg h8]
theorem zab {f : Option (Int32 × zy_S)} : (f.bind fun p => some (p.1, p.2)) = f := by
  cases f <;> rfl
theorem zav_0 : zs_abv.getD ((0 : Int32)).toNatClampNeg 0 = (-1 : Int32) := by decide +kernel
theorem zav_1 : zs_abv.getD ((1 : Int32)).toNatClampNeg 0 = (0 : Int32) := by decide +kernel
theorem zav_2 : zs_abv.getD ((2 : Int32)).toNatClampNeg 0 = (0 : Int32) := by decide +kernel
theorem zav_3 : zs_abv.getD ((3 : Int32)).toNatClampNeg 0 = (2 : Int32) := by decide +kernel
theorem zav_4 : zs_abv.getD ((4 : Int32)).toNatClampNeg 0 = (1 : Int32) := by decide +kernel
theorem zav_5 : zs_abv.getD ((5 : Int32)).toNatClampNeg 0 = (3 : Int32) := by decide +kernel
theorem zav_6 : zs_abv.getD ((6 : Int32)).toNatClampNeg 0 = (0 : Int32) := by decide +kernel
theorem zav_7 : zs_abv.getD ((7 : Int32)).toNatClampNeg 0 = (4 : Int32) := by decide +kernel
theorem zao_0_0 : zs_own.getD (((4 : Int32) * (0 : Int32)) + (0 : Int32)).toNatClampNeg 0 = (1 : Int32) ∧ zy_in (((4 : Int32) * (0 : Int32)) + (0 : Int32)) 32 = true := by decide +kernel
theorem zao_0_1 : zs_own.getD (((4 : Int32) * (0 : Int32)) + (1 : Int32)).toNatClampNeg 0 = (10 : Int32) ∧ zy_in (((4 : Int32) * (0 : Int32)) + (1 : Int32)) 32 = true := by decide +kernel
theorem zao_0_2 : zs_own.getD (((4 : Int32) * (0 : Int32)) + (2 : Int32)).toNatClampNeg 0 = (11 : Int32) ∧ zy_in (((4 : Int32) * (0 : Int32)) + (2 : Int32)) 32 = true := by decide +kernel
theorem zao_0_3 : zs_own.getD (((4 : Int32) * (0 : Int32)) + (3 : Int32)).toNatClampNeg 0 = (2 : Int32) ∧ zy_in (((4 : Int32) * (0 : Int32)) + (3 : Int32)) 32 = true := by decide +kernel
theorem zao_1_0 : zs_own.getD (((4 : Int32) * (1 : Int32)) + (0 : Int32)).toNatClampNeg 0 = (20 : Int32) ∧ zy_in (((4 : Int32) * (1 : Int32)) + (0 : Int32)) 32 = true := by decide +kernel
theorem zao_1_1 : zs_own.getD (((4 : Int32) * (1 : Int32)) + (1 : Int32)).toNatClampNeg 0 = (0 : Int32) ∧ zy_in (((4 : Int32) * (1 : Int32)) + (1 : Int32)) 32 = true := by decide +kernel
theorem zao_1_2 : zs_own.getD (((4 : Int32) * (1 : Int32)) + (2 : Int32)).toNatClampNeg 0 = (0 : Int32) ∧ zy_in (((4 : Int32) * (1 : Int32)) + (2 : Int32)) 32 = true := by decide +kernel
theorem zao_1_3 : zs_own.getD (((4 : Int32) * (1 : Int32)) + (3 : Int32)).toNatClampNeg 0 = (0 : Int32) ∧ zy_in (((4 : Int32) * (1 : Int32)) + (3 : Int32)) 32 = true := by decide +kernel
theorem zao_2_0 : zs_own.getD (((4 : Int32) * (2 : Int32)) + (0 : Int32)).toNatClampNeg 0 = (0 : Int32) ∧ zy_in (((4 : Int32) * (2 : Int32)) + (0 : Int32)) 32 = true := by decide +kernel
theorem zao_2_1 : zs_own.getD (((4 : Int32) * (2 : Int32)) + (1 : Int32)).toNatClampNeg 0 = (30 : Int32) ∧ zy_in (((4 : Int32) * (2 : Int32)) + (1 : Int32)) 32 = true := by decide +kernel
theorem zao_2_2 : zs_own.getD (((4 : Int32) * (2 : Int32)) + (2 : Int32)).toNatClampNeg 0 = (0 : Int32) ∧ zy_in (((4 : Int32) * (2 : Int32)) + (2 : Int32)) 32 = true := by decide +kernel
theorem zao_2_3 : zs_own.getD (((4 : Int32) * (2 : Int32)) + (3 : Int32)).toNatClampNeg 0 = (0 : Int32) ∧ zy_in (((4 : Int32) * (2 : Int32)) + (3 : Int32)) 32 = true := by decide +kernel
theorem zao_3_0 : zs_own.getD (((4 : Int32) * (3 : Int32)) + (0 : Int32)).toNatClampNeg 0 = (0 : Int32) ∧ zy_in (((4 : Int32) * (3 : Int32)) + (0 : Int32)) 32 = true := by decide +kernel
theorem zao_3_1 : zs_own.getD (((4 : Int32) * (3 : Int32)) + (1 : Int32)).toNatClampNeg 0 = (41 : Int32) ∧ zy_in (((4 : Int32) * (3 : Int32)) + (1 : Int32)) 32 = true := by decide +kernel
theorem zao_3_2 : zs_own.getD (((4 : Int32) * (3 : Int32)) + (2 : Int32)).toNatClampNeg 0 = (40 : Int32) ∧ zy_in (((4 : Int32) * (3 : Int32)) + (2 : Int32)) 32 = true := by decide +kernel
theorem zao_3_3 : zs_own.getD (((4 : Int32) * (3 : Int32)) + (3 : Int32)).toNatClampNeg 0 = (0 : Int32) ∧ zy_in (((4 : Int32) * (3 : Int32)) + (3 : Int32)) 32 = true := by decide +kernel
theorem zao_4_0 : zs_own.getD (((4 : Int32) * (4 : Int32)) + (0 : Int32)).toNatClampNeg 0 = (0 : Int32) ∧ zy_in (((4 : Int32) * (4 : Int32)) + (0 : Int32)) 32 = true := by decide +kernel
theorem zao_4_1 : zs_own.getD (((4 : Int32) * (4 : Int32)) + (1 : Int32)).toNatClampNeg 0 = (0 : Int32) ∧ zy_in (((4 : Int32) * (4 : Int32)) + (1 : Int32)) 32 = true := by decide +kernel
theorem zao_4_2 : zs_own.getD (((4 : Int32) * (4 : Int32)) + (2 : Int32)).toNatClampNeg 0 = (50 : Int32) ∧ zy_in (((4 : Int32) * (4 : Int32)) + (2 : Int32)) 32 = true := by decide +kernel
theorem zao_4_3 : zs_own.getD (((4 : Int32) * (4 : Int32)) + (3 : Int32)).toNatClampNeg 0 = (0 : Int32) ∧ zy_in (((4 : Int32) * (4 : Int32)) + (3 : Int32)) 32 = true := by decide +kernel
theorem zao_5_0 : zs_own.getD (((4 : Int32) * (5 : Int32)) + (0 : Int32)).toNatClampNeg 0 = (0 : Int32) ∧ zy_in (((4 : Int32) * (5 : Int32)) + (0 : Int32)) 32 = true := by decide +kernel
theorem zao_5_1 : zs_own.getD (((4 : Int32) * (5 : Int32)) + (1 : Int32)).toNatClampNeg 0 = (0 : Int32) ∧ zy_in (((4 : Int32) * (5 : Int32)) + (1 : Int32)) 32 = true := by decide +kernel
theorem zao_5_2 : zs_own.getD (((4 : Int32) * (5 : Int32)) + (2 : Int32)).toNatClampNeg 0 = (0 : Int32) ∧ zy_in (((4 : Int32) * (5 : Int32)) + (2 : Int32)) 32 = true := by decide +kernel
theorem zao_5_3 : zs_own.getD (((4 : Int32) * (5 : Int32)) + (3 : Int32)).toNatClampNeg 0 = (60 : Int32) ∧ zy_in (((4 : Int32) * (5 : Int32)) + (3 : Int32)) 32 = true := by decide +kernel
theorem zao_6_0 : zs_own.getD (((4 : Int32) * (6 : Int32)) + (0 : Int32)).toNatClampNeg 0 = (70 : Int32) ∧ zy_in (((4 : Int32) * (6 : Int32)) + (0 : Int32)) 32 = true := by decide +kernel
theorem zao_6_1 : zs_own.getD (((4 : Int32) * (6 : Int32)) + (1 : Int32)).toNatClampNeg 0 = (0 : Int32) ∧ zy_in (((4 : Int32) * (6 : Int32)) + (1 : Int32)) 32 = true := by decide +kernel
theorem zao_6_2 : zs_own.getD (((4 : Int32) * (6 : Int32)) + (2 : Int32)).toNatClampNeg 0 = (0 : Int32) ∧ zy_in (((4 : Int32) * (6 : Int32)) + (2 : Int32)) 32 = true := by decide +kernel
theorem zao_6_3 : zs_own.getD (((4 : Int32) * (6 : Int32)) + (3 : Int32)).toNatClampNeg 0 = (0 : Int32) ∧ zy_in (((4 : Int32) * (6 : Int32)) + (3 : Int32)) 32 = true := by decide +kernel
theorem zao_7_0 : zs_own.getD (((4 : Int32) * (7 : Int32)) + (0 : Int32)).toNatClampNeg 0 = (0 : Int32) ∧ zy_in (((4 : Int32) * (7 : Int32)) + (0 : Int32)) 32 = true := by decide +kernel
theorem zao_7_1 : zs_own.getD (((4 : Int32) * (7 : Int32)) + (1 : Int32)).toNatClampNeg 0 = (80 : Int32) ∧ zy_in (((4 : Int32) * (7 : Int32)) + (1 : Int32)) 32 = true := by decide +kernel
theorem zao_7_2 : zs_own.getD (((4 : Int32) * (7 : Int32)) + (2 : Int32)).toNatClampNeg 0 = (0 : Int32) ∧ zy_in (((4 : Int32) * (7 : Int32)) + (2 : Int32)) 32 = true := by decide +kernel
theorem zao_7_3 : zs_own.getD (((4 : Int32) * (7 : Int32)) + (3 : Int32)).toNatClampNeg 0 = (81 : Int32) ∧ zy_in (((4 : Int32) * (7 : Int32)) + (3 : Int32)) 32 = true := by decide +kernel
theorem zas_0_0 (hd : x5 < (40 : Int32)) (hL : L.length < 24) : zyF155_0 g1 g2 g3 x1 (0 : Int32) (0 : Int32) x4 x5 (zaN 27 3 29 L s) = g2 x1 (1 : Int32) x4 (x5 + (1 : Int32)) (zaN 27 3 29 (L ++ [(1 : Int32)]) s) := by
  show zyF155_6 g1 g2 g3 (9990 + 10) x1 (0 : Int32) x4 x5 (0 : Int32) (0 : Int32) (zaN 27 3 29 L s) = _
  rw [zaq]
  unfold zyF155_6b
  rw [if_neg (by decide), zak (by decide) (by decide), zq_bind]
  dsimp only
  rw [if_neg (by decide), if_pos zao_0_0.2, zao_0_0.1]
  rw [if_pos (by decide)]
  unfold zyF155_48
  rw [zak (by decide) (by decide), zq_bind]
  dsimp only
  rw [if_neg (by decide), if_pos hd, if_pos zao_0_0.2, zao_0_0.1, zaN_156 _ hL, zq_bind]
  dsimp only
  rw [if_pos (by decide), zav_0, if_neg (by decide), zab]
theorem zas_0_1 (hd : x5 < (40 : Int32)) (hL : L.length < 24) : zyF155_0 g1 g2 g3 x1 (0 : Int32) (1 : Int32) x4 x5 (zaN 27 3 29 L s) = g2 x1 (10 : Int32) x4 (x5 + (1 : Int32)) (zaN 27 3 29 (L ++ [(10 : Int32)]) s) := by
  show zyF155_6 g1 g2 g3 (9990 + 10) x1 (1 : Int32) x4 x5 (0 : Int32) (0 : Int32) (zaN 27 3 29 L s) = _
  rw [zaq]
  unfold zyF155_6b
  rw [if_neg (by decide), zak (by decide) (by decide), zq_bind]
  dsimp only
  rw [if_neg (by decide), if_pos zao_0_1.2, zao_0_1.1]
  rw [if_pos (by decide)]
  unfold zyF155_48
  rw [zak (by decide) (by decide), zq_bind]
  dsimp only
  rw [if_neg (by decide), if_pos hd, if_pos zao_0_1.2, zao_0_1.1, zaN_156 _ hL, zq_bind]
  dsimp only
  rw [if_pos (by decide), zav_0, if_neg (by decide), zab]
theorem zas_0_2 (hd : x5 < (40 : Int32)) (hL : L.length < 24) : zyF155_0 g1 g2 g3 x1 (0 : Int32) (2 : Int32) x4 x5 (zaN 27 3 29 L s) = g2 x1 (11 : Int32) x4 (x5 + (1 : Int32)) (zaN 27 3 29 (L ++ [(11 : Int32)]) s) := by
  show zyF155_6 g1 g2 g3 (9990 + 10) x1 (2 : Int32) x4 x5 (0 : Int32) (0 : Int32) (zaN 27 3 29 L s) = _
  rw [zaq]
  unfold zyF155_6b
  rw [if_neg (by decide), zak (by decide) (by decide), zq_bind]
  dsimp only
  rw [if_neg (by decide), if_pos zao_0_2.2, zao_0_2.1]
  rw [if_pos (by decide)]
  unfold zyF155_48
  rw [zak (by decide) (by decide), zq_bind]
  dsimp only
  rw [if_neg (by decide), if_pos hd, if_pos zao_0_2.2, zao_0_2.1, zaN_156 _ hL, zq_bind]
  dsimp only
  rw [if_pos (by decide), zav_0, if_neg (by decide), zab]
theorem zas_0_3 (hd : x5 < (40 : Int32)) (hL : L.length < 24) : zyF155_0 g1 g2 g3 x1 (0 : Int32) (3 : Int32) x4 x5 (zaN 27 3 29 L s) = g2 x1 (2 : Int32) x4 (x5 + (1 : Int32)) (zaN 27 3 29 (L ++ [(2 : Int32)]) s) := by
  show zyF155_6 g1 g2 g3 (9990 + 10) x1 (3 : Int32) x4 x5 (0 : Int32) (0 : Int32) (zaN 27 3 29 L s) = _
  rw [zaq]
  unfold zyF155_6b
  rw [if_neg (by decide), zak (by decide) (by decide), zq_bind]
  dsimp only
  rw [if_neg (by decide), if_pos zao_0_3.2, zao_0_3.1]
  rw [if_pos (by decide)]
  unfold zyF155_48
  rw [zak (by decide) (by decide), zq_bind]
  dsimp only
  rw [if_neg (by decide), if_pos hd, if_pos zao_0_3.2, zao_0_3.1, zaN_156 _ hL, zq_bind]
  dsimp only
  rw [if_pos (by decide), zav_0, if_neg (by decide), zab]
theorem zas_1_0 (hd : x5 < (40 : Int32)) (hL : L.length < 24) : zyF155_0 g1 g2 g3 x1 (1 : Int32) (0 : Int32) x4 x5 (zaN 27 3 29 L s) = g3 x1 (20 : Int32) (0 : Int32) x4 (x5 + (1 : Int32)) (zaN 27 3 29 (L ++ [(20 : Int32)]) s) := by
  show zyF155_6 g1 g2 g3 (9990 + 10) x1 (0 : Int32) x4 x5 (1 : Int32) (0 : Int32) (zaN 27 3 29 L s) = _
  rw [zaq]
  unfold zyF155_6b
  rw [if_neg (by decide), zak (by decide) (by decide), zq_bind]
  dsimp only
  rw [if_neg (by decide), if_pos zao_1_0.2, zao_1_0.1]
  rw [if_pos (by decide)]
  unfold zyF155_48
  rw [zak (by decide) (by decide), zq_bind]
  dsimp only
  rw [if_neg (by decide), if_pos hd, if_pos zao_1_0.2, zao_1_0.1, zaN_156 _ hL, zq_bind]
  dsimp only
  rw [if_pos (by decide), zav_1, if_pos (by decide), if_pos (by decide), zab]
theorem zas_1_1 (hd : x5 < (40 : Int32)) (hL : L.length < 24) : zyF155_0 g1 g2 g3 x1 (1 : Int32) (1 : Int32) x4 x5 (zaN 27 3 29 L s) = g2 x1 (10 : Int32) x4 (x5 + (1 : Int32)) (zaN 27 3 29 (L ++ [(10 : Int32)]) s) := by
  show zyF155_6 g1 g2 g3 (9990 + 10) x1 (1 : Int32) x4 x5 (1 : Int32) (0 : Int32) (zaN 27 3 29 L s) = _
  rw [zaq]
  unfold zyF155_6b
  rw [if_neg (by decide), zak (by decide) (by decide), zq_bind]
  dsimp only
  rw [if_neg (by decide), if_pos zao_1_1.2, zao_1_1.1]
  rw [if_neg (by decide), if_pos (by decide), zav_1]
  rw [zaq]
  unfold zyF155_6b
  rw [if_neg (by decide), zak (by decide) (by decide), zq_bind]
  dsimp only
  rw [if_neg (by decide), if_pos zao_0_1.2, zao_0_1.1]
  rw [if_pos (by decide)]
  unfold zyF155_48
  rw [zak (by decide) (by decide), zq_bind]
  dsimp only
  rw [if_neg (by decide), if_pos hd, if_pos zao_0_1.2, zao_0_1.1, zaN_156 _ hL, zq_bind]
  dsimp only
  rw [if_pos (by decide), zav_0, if_neg (by decide), zab]
theorem zas_1_2 (hd : x5 < (40 : Int32)) (hL : L.length < 24) : zyF155_0 g1 g2 g3 x1 (1 : Int32) (2 : Int32) x4 x5 (zaN 27 3 29 L s) = g2 x1 (11 : Int32) x4 (x5 + (1 : Int32)) (zaN 27 3 29 (L ++ [(11 : Int32)]) s) := by
  show zyF155_6 g1 g2 g3 (9990 + 10) x1 (2 : Int32) x4 x5 (1 : Int32) (0 : Int32) (zaN 27 3 29 L s) = _
  rw [zaq]
  unfold zyF155_6b
  rw [if_neg (by decide), zak (by decide) (by decide), zq_bind]
  dsimp only
  rw [if_neg (by decide), if_pos zao_1_2.2, zao_1_2.1]
  rw [if_neg (by decide), if_pos (by decide), zav_1]
  rw [zaq]
  unfold zyF155_6b
  rw [if_neg (by decide), zak (by decide) (by decide), zq_bind]
  dsimp only
  rw [if_neg (by decide), if_pos zao_0_2.2, zao_0_2.1]
  rw [if_pos (by decide)]
  unfold zyF155_48
  rw [zak (by decide) (by decide), zq_bind]
  dsimp only
  rw [if_neg (by decide), if_pos hd, if_pos zao_0_2.2, zao_0_2.1, zaN_156 _ hL, zq_bind]
  dsimp only
  rw [if_pos (by decide), zav_0, if_neg (by decide), zab]
theorem zas_1_3 (hd : x5 < (40 : Int32)) (hL : L.length < 24) : zyF155_0 g1 g2 g3 x1 (1 : Int32) (3 : Int32) x4 x5 (zaN 27 3 29 L s) = g2 x1 (2 : Int32) x4 (x5 + (1 : Int32)) (zaN 27 3 29 (L ++ [(2 : Int32)]) s) := by
  show zyF155_6 g1 g2 g3 (9990 + 10) x1 (3 : Int32) x4 x5 (1 : Int32) (0 : Int32) (zaN 27 3 29 L s) = _
  rw [zaq]
  unfold zyF155_6b
  rw [if_neg (by decide), zak (by decide) (by decide), zq_bind]
  dsimp only
  rw [if_neg (by decide), if_pos zao_1_3.2, zao_1_3.1]
  rw [if_neg (by decide), if_pos (by decide), zav_1]
  rw [zaq]
  unfold zyF155_6b
  rw [if_neg (by decide), zak (by decide) (by decide), zq_bind]
  dsimp only
  rw [if_neg (by decide), if_pos zao_0_3.2, zao_0_3.1]
  rw [if_pos (by decide)]
  unfold zyF155_48
  rw [zak (by decide) (by decide), zq_bind]
  dsimp only
  rw [if_neg (by decide), if_pos hd, if_pos zao_0_3.2, zao_0_3.1, zaN_156 _ hL, zq_bind]
  dsimp only
  rw [if_pos (by decide), zav_0, if_neg (by decide), zab]
theorem zas_2_0 (hd : x5 < (40 : Int32)) (hL : L.length < 24) : zyF155_0 g1 g2 g3 x1 (2 : Int32) (0 : Int32) x4 x5 (zaN 27 3 29 L s) = g2 x1 (1 : Int32) x4 (x5 + (1 : Int32)) (zaN 27 3 29 (L ++ [(1 : Int32)]) s) := by
  show zyF155_6 g1 g2 g3 (9990 + 10) x1 (0 : Int32) x4 x5 (2 : Int32) (0 : Int32) (zaN 27 3 29 L s) = _
  rw [zaq]
  unfold zyF155_6b
  rw [if_neg (by decide), zak (by decide) (by decide), zq_bind]
  dsimp only
  rw [if_neg (by decide), if_pos zao_2_0.2, zao_2_0.1]
  rw [if_neg (by decide), if_pos (by decide), zav_2]
  rw [zaq]
  unfold zyF155_6b
  rw [if_neg (by decide), zak (by decide) (by decide), zq_bind]
  dsimp only
  rw [if_neg (by decide), if_pos zao_0_0.2, zao_0_0.1]
  rw [if_pos (by decide)]
  unfold zyF155_48
  rw [zak (by decide) (by decide), zq_bind]
  dsimp only
  rw [if_neg (by decide), if_pos hd, if_pos zao_0_0.2, zao_0_0.1, zaN_156 _ hL, zq_bind]
  dsimp only
  rw [if_pos (by decide), zav_0, if_neg (by decide), zab]
theorem zas_2_1 (hd : x5 < (40 : Int32)) (hL : L.length < 24) : zyF155_0 g1 g2 g3 x1 (2 : Int32) (1 : Int32) x4 x5 (zaN 27 3 29 L s) = g3 x1 (30 : Int32) (0 : Int32) x4 (x5 + (1 : Int32)) (zaN 27 3 29 (L ++ [(30 : Int32)]) s) := by
  show zyF155_6 g1 g2 g3 (9990 + 10) x1 (1 : Int32) x4 x5 (2 : Int32) (0 : Int32) (zaN 27 3 29 L s) = _
  rw [zaq]
  unfold zyF155_6b
  rw [if_neg (by decide), zak (by decide) (by decide), zq_bind]
  dsimp only
  rw [if_neg (by decide), if_pos zao_2_1.2, zao_2_1.1]
  rw [if_pos (by decide)]
  unfold zyF155_48
  rw [zak (by decide) (by decide), zq_bind]
  dsimp only
  rw [if_neg (by decide), if_pos hd, if_pos zao_2_1.2, zao_2_1.1, zaN_156 _ hL, zq_bind]
  dsimp only
  rw [if_pos (by decide), zav_2, if_pos (by decide), if_pos (by decide), zab]
theorem zas_2_2 (hd : x5 < (40 : Int32)) (hL : L.length < 24) : zyF155_0 g1 g2 g3 x1 (2 : Int32) (2 : Int32) x4 x5 (zaN 27 3 29 L s) = g2 x1 (11 : Int32) x4 (x5 + (1 : Int32)) (zaN 27 3 29 (L ++ [(11 : Int32)]) s) := by
  show zyF155_6 g1 g2 g3 (9990 + 10) x1 (2 : Int32) x4 x5 (2 : Int32) (0 : Int32) (zaN 27 3 29 L s) = _
  rw [zaq]
  unfold zyF155_6b
  rw [if_neg (by decide), zak (by decide) (by decide), zq_bind]
  dsimp only
  rw [if_neg (by decide), if_pos zao_2_2.2, zao_2_2.1]
  rw [if_neg (by decide), if_pos (by decide), zav_2]
  rw [zaq]
  unfold zyF155_6b
  rw [if_neg (by decide), zak (by decide) (by decide), zq_bind]
  dsimp only
  rw [if_neg (by decide), if_pos zao_0_2.2, zao_0_2.1]
  rw [if_pos (by decide)]
  unfold zyF155_48
  rw [zak (by decide) (by decide), zq_bind]
  dsimp only
  rw [if_neg (by decide), if_pos hd, if_pos zao_0_2.2, zao_0_2.1, zaN_156 _ hL, zq_bind]
  dsimp only
  rw [if_pos (by decide), zav_0, if_neg (by decide), zab]
theorem zas_2_3 (hd : x5 < (40 : Int32)) (hL : L.length < 24) : zyF155_0 g1 g2 g3 x1 (2 : Int32) (3 : Int32) x4 x5 (zaN 27 3 29 L s) = g2 x1 (2 : Int32) x4 (x5 + (1 : Int32)) (zaN 27 3 29 (L ++ [(2 : Int32)]) s) := by
  show zyF155_6 g1 g2 g3 (9990 + 10) x1 (3 : Int32) x4 x5 (2 : Int32) (0 : Int32) (zaN 27 3 29 L s) = _
  rw [zaq]
  unfold zyF155_6b
  rw [if_neg (by decide), zak (by decide) (by decide), zq_bind]
  dsimp only
  rw [if_neg (by decide), if_pos zao_2_3.2, zao_2_3.1]
  rw [if_neg (by decide), if_pos (by decide), zav_2]
  rw [zaq]
  unfold zyF155_6b
  rw [if_neg (by decide), zak (by decide) (by decide), zq_bind]
  dsimp only
  rw [if_neg (by decide), if_pos zao_0_3.2, zao_0_3.1]
  rw [if_pos (by decide)]
  unfold zyF155_48
  rw [zak (by decide) (by decide), zq_bind]
  dsimp only
  rw [if_neg (by decide), if_pos hd, if_pos zao_0_3.2, zao_0_3.1, zaN_156 _ hL, zq_bind]
  dsimp only
  rw [if_pos (by decide), zav_0, if_neg (by decide), zab]
theorem zas_3_0 (hd : x5 < (40 : Int32)) (hL : L.length < 24) : zyF155_0 g1 g2 g3 x1 (3 : Int32) (0 : Int32) x4 x5 (zaN 27 3 29 L s) = g2 x1 (1 : Int32) x4 (x5 + (1 : Int32)) (zaN 27 3 29 (L ++ [(1 : Int32)]) s) := by
  show zyF155_6 g1 g2 g3 (9990 + 10) x1 (0 : Int32) x4 x5 (3 : Int32) (0 : Int32) (zaN 27 3 29 L s) = _
  rw [zaq]
  unfold zyF155_6b
  rw [if_neg (by decide), zak (by decide) (by decide), zq_bind]
  dsimp only
  rw [if_neg (by decide), if_pos zao_3_0.2, zao_3_0.1]
  rw [if_neg (by decide), if_pos (by decide), zav_3]
  rw [zaq]
  unfold zyF155_6b
  rw [if_neg (by decide), zak (by decide) (by decide), zq_bind]
  dsimp only
  rw [if_neg (by decide), if_pos zao_2_0.2, zao_2_0.1]
  rw [if_neg (by decide), if_pos (by decide), zav_2]
  rw [zaq]
  unfold zyF155_6b
  rw [if_neg (by decide), zak (by decide) (by decide), zq_bind]
  dsimp only
  rw [if_neg (by decide), if_pos zao_0_0.2, zao_0_0.1]
  rw [if_pos (by decide)]
  unfold zyF155_48
  rw [zak (by decide) (by decide), zq_bind]
  dsimp only
  rw [if_neg (by decide), if_pos hd, if_pos zao_0_0.2, zao_0_0.1, zaN_156 _ hL, zq_bind]
  dsimp only
  rw [if_pos (by decide), zav_0, if_neg (by decide), zab]
theorem zas_3_1 (hd : x5 < (40 : Int32)) (hL : L.length < 24) : zyF155_0 g1 g2 g3 x1 (3 : Int32) (1 : Int32) x4 x5 (zaN 27 3 29 L s) = g3 x1 (41 : Int32) (2 : Int32) x4 (x5 + (1 : Int32)) (zaN 27 3 29 (L ++ [(41 : Int32)]) s) := by
  show zyF155_6 g1 g2 g3 (9990 + 10) x1 (1 : Int32) x4 x5 (3 : Int32) (0 : Int32) (zaN 27 3 29 L s) = _
  rw [zaq]
  unfold zyF155_6b
  rw [if_neg (by decide), zak (by decide) (by decide), zq_bind]
  dsimp only
  rw [if_neg (by decide), if_pos zao_3_1.2, zao_3_1.1]
  rw [if_pos (by decide)]
  unfold zyF155_48
  rw [zak (by decide) (by decide), zq_bind]
  dsimp only
  rw [if_neg (by decide), if_pos hd, if_pos zao_3_1.2, zao_3_1.1, zaN_156 _ hL, zq_bind]
  dsimp only
  rw [if_pos (by decide), zav_3, if_pos (by decide), if_pos (by decide), zab]
theorem zas_3_2 (hd : x5 < (40 : Int32)) (hL : L.length < 24) : zyF155_0 g1 g2 g3 x1 (3 : Int32) (2 : Int32) x4 x5 (zaN 27 3 29 L s) = g3 x1 (40 : Int32) (2 : Int32) x4 (x5 + (1 : Int32)) (zaN 27 3 29 (L ++ [(40 : Int32)]) s) := by
  show zyF155_6 g1 g2 g3 (9990 + 10) x1 (2 : Int32) x4 x5 (3 : Int32) (0 : Int32) (zaN 27 3 29 L s) = _
  rw [zaq]
  unfold zyF155_6b
  rw [if_neg (by decide), zak (by decide) (by decide), zq_bind]
  dsimp only
  rw [if_neg (by decide), if_pos zao_3_2.2, zao_3_2.1]
  rw [if_pos (by decide)]
  unfold zyF155_48
  rw [zak (by decide) (by decide), zq_bind]
  dsimp only
  rw [if_neg (by decide), if_pos hd, if_pos zao_3_2.2, zao_3_2.1, zaN_156 _ hL, zq_bind]
  dsimp only
  rw [if_pos (by decide), zav_3, if_pos (by decide), if_pos (by decide), zab]
theorem zas_3_3 (hd : x5 < (40 : Int32)) (hL : L.length < 24) : zyF155_0 g1 g2 g3 x1 (3 : Int32) (3 : Int32) x4 x5 (zaN 27 3 29 L s) = g2 x1 (2 : Int32) x4 (x5 + (1 : Int32)) (zaN 27 3 29 (L ++ [(2 : Int32)]) s) := by
  show zyF155_6 g1 g2 g3 (9990 + 10) x1 (3 : Int32) x4 x5 (3 : Int32) (0 : Int32) (zaN 27 3 29 L s) = _
  rw [zaq]
  unfold zyF155_6b
  rw [if_neg (by decide), zak (by decide) (by decide), zq_bind]
  dsimp only
  rw [if_neg (by decide), if_pos zao_3_3.2, zao_3_3.1]
  rw [if_neg (by decide), if_pos (by decide), zav_3]
  rw [zaq]
  unfold zyF155_6b
  rw [if_neg (by decide), zak (by decide) (by decide), zq_bind]
  dsimp only
  rw [if_neg (by decide), if_pos zao_2_3.2, zao_2_3.1]
  rw [if_neg (by decide), if_pos (by decide), zav_2]
  rw [zaq]
  unfold zyF155_6b
  rw [if_neg (by decide), zak (by decide) (by decide), zq_bind]
  dsimp only
  rw [if_neg (by decide), if_pos zao_0_3.2, zao_0_3.1]
  rw [if_pos (by decide)]
  unfold zyF155_48
  rw [zak (by decide) (by decide), zq_bind]
  dsimp only
  rw [if_neg (by decide), if_pos hd, if_pos zao_0_3.2, zao_0_3.1, zaN_156 _ hL, zq_bind]
  dsimp only
  rw [if_pos (by decide), zav_0, if_neg (by decide), zab]
theorem zas_4_0 (hd : x5 < (40 : Int32)) (hL : L.length < 24) : zyF155_0 g1 g2 g3 x1 (4 : Int32) (0 : Int32) x4 x5 (zaN 27 3 29 L s) = g3 x1 (20 : Int32) (0 : Int32) x4 (x5 + (1 : Int32)) (zaN 27 3 29 (L ++ [(20 : Int32)]) s) := by
  show zyF155_6 g1 g2 g3 (9990 + 10) x1 (0 : Int32) x4 x5 (4 : Int32) (0 : Int32) (zaN 27 3 29 L s) = _
  rw [zaq]
  unfold zyF155_6b
  rw [if_neg (by decide), zak (by decide) (by decide), zq_bind]
  dsimp only
  rw [if_neg (by decide), if_pos zao_4_0.2, zao_4_0.1]
  rw [if_neg (by decide), if_pos (by decide), zav_4]
  rw [zaq]
  unfold zyF155_6b
  rw [if_neg (by decide), zak (by decide) (by decide), zq_bind]
  dsimp only
  rw [if_neg (by decide), if_pos zao_1_0.2, zao_1_0.1]
  rw [if_pos (by decide)]
  unfold zyF155_48
  rw [zak (by decide) (by decide), zq_bind]
  dsimp only
  rw [if_neg (by decide), if_pos hd, if_pos zao_1_0.2, zao_1_0.1, zaN_156 _ hL, zq_bind]
  dsimp only
  rw [if_pos (by decide), zav_1, if_pos (by decide), if_pos (by decide), zab]
theorem zas_4_1 (hd : x5 < (40 : Int32)) (hL : L.length < 24) : zyF155_0 g1 g2 g3 x1 (4 : Int32) (1 : Int32) x4 x5 (zaN 27 3 29 L s) = g2 x1 (10 : Int32) x4 (x5 + (1 : Int32)) (zaN 27 3 29 (L ++ [(10 : Int32)]) s) := by
  show zyF155_6 g1 g2 g3 (9990 + 10) x1 (1 : Int32) x4 x5 (4 : Int32) (0 : Int32) (zaN 27 3 29 L s) = _
  rw [zaq]
  unfold zyF155_6b
  rw [if_neg (by decide), zak (by decide) (by decide), zq_bind]
  dsimp only
  rw [if_neg (by decide), if_pos zao_4_1.2, zao_4_1.1]
  rw [if_neg (by decide), if_pos (by decide), zav_4]
  rw [zaq]
  unfold zyF155_6b
  rw [if_neg (by decide), zak (by decide) (by decide), zq_bind]
  dsimp only
  rw [if_neg (by decide), if_pos zao_1_1.2, zao_1_1.1]
  rw [if_neg (by decide), if_pos (by decide), zav_1]
  rw [zaq]
  unfold zyF155_6b
  rw [if_neg (by decide), zak (by decide) (by decide), zq_bind]
  dsimp only
  rw [if_neg (by decide), if_pos zao_0_1.2, zao_0_1.1]
  rw [if_pos (by decide)]
  unfold zyF155_48
  rw [zak (by decide) (by decide), zq_bind]
  dsimp only
  rw [if_neg (by decide), if_pos hd, if_pos zao_0_1.2, zao_0_1.1, zaN_156 _ hL, zq_bind]
  dsimp only
  rw [if_pos (by decide), zav_0, if_neg (by decide), zab]
theorem zas_4_2 (hd : x5 < (40 : Int32)) (hL : L.length < 24) : zyF155_0 g1 g2 g3 x1 (4 : Int32) (2 : Int32) x4 x5 (zaN 27 3 29 L s) = g3 x1 (50 : Int32) (1 : Int32) x4 (x5 + (1 : Int32)) (zaN 27 3 29 (L ++ [(50 : Int32)]) s) := by
  show zyF155_6 g1 g2 g3 (9990 + 10) x1 (2 : Int32) x4 x5 (4 : Int32) (0 : Int32) (zaN 27 3 29 L s) = _
  rw [zaq]
  unfold zyF155_6b
  rw [if_neg (by decide), zak (by decide) (by decide), zq_bind]
  dsimp only
  rw [if_neg (by decide), if_pos zao_4_2.2, zao_4_2.1]
  rw [if_pos (by decide)]
  unfold zyF155_48
  rw [zak (by decide) (by decide), zq_bind]
  dsimp only
  rw [if_neg (by decide), if_pos hd, if_pos zao_4_2.2, zao_4_2.1, zaN_156 _ hL, zq_bind]
  dsimp only
  rw [if_pos (by decide), zav_4, if_pos (by decide), if_pos (by decide), zab]
theorem zas_4_3 (hd : x5 < (40 : Int32)) (hL : L.length < 24) : zyF155_0 g1 g2 g3 x1 (4 : Int32) (3 : Int32) x4 x5 (zaN 27 3 29 L s) = g2 x1 (2 : Int32) x4 (x5 + (1 : Int32)) (zaN 27 3 29 (L ++ [(2 : Int32)]) s) := by
  show zyF155_6 g1 g2 g3 (9990 + 10) x1 (3 : Int32) x4 x5 (4 : Int32) (0 : Int32) (zaN 27 3 29 L s) = _
  rw [zaq]
  unfold zyF155_6b
  rw [if_neg (by decide), zak (by decide) (by decide), zq_bind]
  dsimp only
  rw [if_neg (by decide), if_pos zao_4_3.2, zao_4_3.1]
  rw [if_neg (by decide), if_pos (by decide), zav_4]
  rw [zaq]
  unfold zyF155_6b
  rw [if_neg (by decide), zak (by decide) (by decide), zq_bind]
  dsimp only
  rw [if_neg (by decide), if_pos zao_1_3.2, zao_1_3.1]
  rw [if_neg (by decide), if_pos (by decide), zav_1]
  rw [zaq]
  unfold zyF155_6b
  rw [if_neg (by decide), zak (by decide) (by decide), zq_bind]
  dsimp only
  rw [if_neg (by decide), if_pos zao_0_3.2, zao_0_3.1]
  rw [if_pos (by decide)]
  unfold zyF155_48
  rw [zak (by decide) (by decide), zq_bind]
  dsimp only
  rw [if_neg (by decide), if_pos hd, if_pos zao_0_3.2, zao_0_3.1, zaN_156 _ hL, zq_bind]
  dsimp only
  rw [if_pos (by decide), zav_0, if_neg (by decide), zab]
theorem zas_5_0 (hd : x5 < (40 : Int32)) (hL : L.length < 24) : zyF155_0 g1 g2 g3 x1 (5 : Int32) (0 : Int32) x4 x5 (zaN 27 3 29 L s) = g2 x1 (1 : Int32) x4 (x5 + (1 : Int32)) (zaN 27 3 29 (L ++ [(1 : Int32)]) s) := by
  show zyF155_6 g1 g2 g3 (9990 + 10) x1 (0 : Int32) x4 x5 (5 : Int32) (0 : Int32) (zaN 27 3 29 L s) = _
  rw [zaq]
  unfold zyF155_6b
  rw [if_neg (by decide), zak (by decide) (by decide), zq_bind]
  dsimp only
  rw [if_neg (by decide), if_pos zao_5_0.2, zao_5_0.1]
  rw [if_neg (by decide), if_pos (by decide), zav_5]
  rw [zaq]
  unfold zyF155_6b
  rw [if_neg (by decide), zak (by decide) (by decide), zq_bind]
  dsimp only
  rw [if_neg (by decide), if_pos zao_3_0.2, zao_3_0.1]
  rw [if_neg (by decide), if_pos (by decide), zav_3]
  rw [zaq]
  unfold zyF155_6b
  rw [if_neg (by decide), zak (by decide) (by decide), zq_bind]
  dsimp only
  rw [if_neg (by decide), if_pos zao_2_0.2, zao_2_0.1]
  rw [if_neg (by decide), if_pos (by decide), zav_2]
  rw [zaq]
  unfold zyF155_6b
  rw [if_neg (by decide), zak (by decide) (by decide), zq_bind]
  dsimp only
  rw [if_neg (by decide), if_pos zao_0_0.2, zao_0_0.1]
  rw [if_pos (by decide)]
  unfold zyF155_48
  rw [zak (by decide) (by decide), zq_bind]
  dsimp only
  rw [if_neg (by decide), if_pos hd, if_pos zao_0_0.2, zao_0_0.1, zaN_156 _ hL, zq_bind]
  dsimp only
  rw [if_pos (by decide), zav_0, if_neg (by decide), zab]
theorem zas_5_1 (hd : x5 < (40 : Int32)) (hL : L.length < 24) : zyF155_0 g1 g2 g3 x1 (5 : Int32) (1 : Int32) x4 x5 (zaN 27 3 29 L s) = g3 x1 (41 : Int32) (2 : Int32) x4 (x5 + (1 : Int32)) (zaN 27 3 29 (L ++ [(41 : Int32)]) s) := by
  show zyF155_6 g1 g2 g3 (9990 + 10) x1 (1 : Int32) x4 x5 (5 : Int32) (0 : Int32) (zaN 27 3 29 L s) = _
  rw [zaq]
  unfold zyF155_6b
  rw [if_neg (by decide), zak (by decide) (by decide), zq_bind]
  dsimp only
  rw [if_neg (by decide), if_pos zao_5_1.2, zao_5_1.1]
  rw [if_neg (by decide), if_pos (by decide), zav_5]
  rw [zaq]
  unfold zyF155_6b
  rw [if_neg (by decide), zak (by decide) (by decide), zq_bind]
  dsimp only
  rw [if_neg (by decide), if_pos zao_3_1.2, zao_3_1.1]
  rw [if_pos (by decide)]
  unfold zyF155_48
  rw [zak (by decide) (by decide), zq_bind]
  dsimp only
  rw [if_neg (by decide), if_pos hd, if_pos zao_3_1.2, zao_3_1.1, zaN_156 _ hL, zq_bind]
  dsimp only
  rw [if_pos (by decide), zav_3, if_pos (by decide), if_pos (by decide), zab]
theorem zas_5_2 (hd : x5 < (40 : Int32)) (hL : L.length < 24) : zyF155_0 g1 g2 g3 x1 (5 : Int32) (2 : Int32) x4 x5 (zaN 27 3 29 L s) = g3 x1 (40 : Int32) (2 : Int32) x4 (x5 + (1 : Int32)) (zaN 27 3 29 (L ++ [(40 : Int32)]) s) := by
  show zyF155_6 g1 g2 g3 (9990 + 10) x1 (2 : Int32) x4 x5 (5 : Int32) (0 : Int32) (zaN 27 3 29 L s) = _
  rw [zaq]
  unfold zyF155_6b
  rw [if_neg (by decide), zak (by decide) (by decide), zq_bind]
  dsimp only
  rw [if_neg (by decide), if_pos zao_5_2.2, zao_5_2.1]
  rw [if_neg (by decide), if_pos (by decide), zav_5]
  rw [zaq]
  unfold zyF155_6b
  rw [if_neg (by decide), zak (by decide) (by decide), zq_bind]
  dsimp only
  rw [if_neg (by decide), if_pos zao_3_2.2, zao_3_2.1]
  rw [if_pos (by decide)]
  unfold zyF155_48
  rw [zak (by decide) (by decide), zq_bind]
  dsimp only
  rw [if_neg (by decide), if_pos hd, if_pos zao_3_2.2, zao_3_2.1, zaN_156 _ hL, zq_bind]
  dsimp only
  rw [if_pos (by decide), zav_3, if_pos (by decide), if_pos (by decide), zab]
theorem zas_5_3 (hd : x5 < (40 : Int32)) (hL : L.length < 24) : zyF155_0 g1 g2 g3 x1 (5 : Int32) (3 : Int32) x4 x5 (zaN 27 3 29 L s) = g3 x1 (60 : Int32) (3 : Int32) x4 (x5 + (1 : Int32)) (zaN 27 3 29 (L ++ [(60 : Int32)]) s) := by
  show zyF155_6 g1 g2 g3 (9990 + 10) x1 (3 : Int32) x4 x5 (5 : Int32) (0 : Int32) (zaN 27 3 29 L s) = _
  rw [zaq]
  unfold zyF155_6b
  rw [if_neg (by decide), zak (by decide) (by decide), zq_bind]
  dsimp only
  rw [if_neg (by decide), if_pos zao_5_3.2, zao_5_3.1]
  rw [if_pos (by decide)]
  unfold zyF155_48
  rw [zak (by decide) (by decide), zq_bind]
  dsimp only
  rw [if_neg (by decide), if_pos hd, if_pos zao_5_3.2, zao_5_3.1, zaN_156 _ hL, zq_bind]
  dsimp only
  rw [if_pos (by decide), zav_5, if_pos (by decide), if_pos (by decide), zab]
theorem zas_6_0 (hd : x5 < (40 : Int32)) (hL : L.length < 24) : zyF155_0 g1 g2 g3 x1 (6 : Int32) (0 : Int32) x4 x5 (zaN 27 3 29 L s) = g3 x1 (70 : Int32) (0 : Int32) x4 (x5 + (1 : Int32)) (zaN 27 3 29 (L ++ [(70 : Int32)]) s) := by
  show zyF155_6 g1 g2 g3 (9990 + 10) x1 (0 : Int32) x4 x5 (6 : Int32) (0 : Int32) (zaN 27 3 29 L s) = _
  rw [zaq]
  unfold zyF155_6b
  rw [if_neg (by decide), zak (by decide) (by decide), zq_bind]
  dsimp only
  rw [if_neg (by decide), if_pos zao_6_0.2, zao_6_0.1]
  rw [if_pos (by decide)]
  unfold zyF155_48
  rw [zak (by decide) (by decide), zq_bind]
  dsimp only
  rw [if_neg (by decide), if_pos hd, if_pos zao_6_0.2, zao_6_0.1, zaN_156 _ hL, zq_bind]
  dsimp only
  rw [if_pos (by decide), zav_6, if_pos (by decide), if_pos (by decide), zab]
theorem zas_6_1 (hd : x5 < (40 : Int32)) (hL : L.length < 24) : zyF155_0 g1 g2 g3 x1 (6 : Int32) (1 : Int32) x4 x5 (zaN 27 3 29 L s) = g2 x1 (10 : Int32) x4 (x5 + (1 : Int32)) (zaN 27 3 29 (L ++ [(10 : Int32)]) s) := by
  show zyF155_6 g1 g2 g3 (9990 + 10) x1 (1 : Int32) x4 x5 (6 : Int32) (0 : Int32) (zaN 27 3 29 L s) = _
  rw [zaq]
  unfold zyF155_6b
  rw [if_neg (by decide), zak (by decide) (by decide), zq_bind]
  dsimp only
  rw [if_neg (by decide), if_pos zao_6_1.2, zao_6_1.1]
  rw [if_neg (by decide), if_pos (by decide), zav_6]
  rw [zaq]
  unfold zyF155_6b
  rw [if_neg (by decide), zak (by decide) (by decide), zq_bind]
  dsimp only
  rw [if_neg (by decide), if_pos zao_0_1.2, zao_0_1.1]
  rw [if_pos (by decide)]
  unfold zyF155_48
  rw [zak (by decide) (by decide), zq_bind]
  dsimp only
  rw [if_neg (by decide), if_pos hd, if_pos zao_0_1.2, zao_0_1.1, zaN_156 _ hL, zq_bind]
  dsimp only
  rw [if_pos (by decide), zav_0, if_neg (by decide), zab]
theorem zas_6_2 (hd : x5 < (40 : Int32)) (hL : L.length < 24) : zyF155_0 g1 g2 g3 x1 (6 : Int32) (2 : Int32) x4 x5 (zaN 27 3 29 L s) = g2 x1 (11 : Int32) x4 (x5 + (1 : Int32)) (zaN 27 3 29 (L ++ [(11 : Int32)]) s) := by
  show zyF155_6 g1 g2 g3 (9990 + 10) x1 (2 : Int32) x4 x5 (6 : Int32) (0 : Int32) (zaN 27 3 29 L s) = _
  rw [zaq]
  unfold zyF155_6b
  rw [if_neg (by decide), zak (by decide) (by decide), zq_bind]
  dsimp only
  rw [if_neg (by decide), if_pos zao_6_2.2, zao_6_2.1]
  rw [if_neg (by decide), if_pos (by decide), zav_6]
  rw [zaq]
  unfold zyF155_6b
  rw [if_neg (by decide), zak (by decide) (by decide), zq_bind]
  dsimp only
  rw [if_neg (by decide), if_pos zao_0_2.2, zao_0_2.1]
  rw [if_pos (by decide)]
  unfold zyF155_48
  rw [zak (by decide) (by decide), zq_bind]
  dsimp only
  rw [if_neg (by decide), if_pos hd, if_pos zao_0_2.2, zao_0_2.1, zaN_156 _ hL, zq_bind]
  dsimp only
  rw [if_pos (by decide), zav_0, if_neg (by decide), zab]
theorem zas_6_3 (hd : x5 < (40 : Int32)) (hL : L.length < 24) : zyF155_0 g1 g2 g3 x1 (6 : Int32) (3 : Int32) x4 x5 (zaN 27 3 29 L s) = g2 x1 (2 : Int32) x4 (x5 + (1 : Int32)) (zaN 27 3 29 (L ++ [(2 : Int32)]) s) := by
  show zyF155_6 g1 g2 g3 (9990 + 10) x1 (3 : Int32) x4 x5 (6 : Int32) (0 : Int32) (zaN 27 3 29 L s) = _
  rw [zaq]
  unfold zyF155_6b
  rw [if_neg (by decide), zak (by decide) (by decide), zq_bind]
  dsimp only
  rw [if_neg (by decide), if_pos zao_6_3.2, zao_6_3.1]
  rw [if_neg (by decide), if_pos (by decide), zav_6]
  rw [zaq]
  unfold zyF155_6b
  rw [if_neg (by decide), zak (by decide) (by decide), zq_bind]
  dsimp only
  rw [if_neg (by decide), if_pos zao_0_3.2, zao_0_3.1]
  rw [if_pos (by decide)]
  unfold zyF155_48
  rw [zak (by decide) (by decide), zq_bind]
  dsimp only
  rw [if_neg (by decide), if_pos hd, if_pos zao_0_3.2, zao_0_3.1, zaN_156 _ hL, zq_bind]
  dsimp only
  rw [if_pos (by decide), zav_0, if_neg (by decide), zab]
theorem zas_7_0 (hd : x5 < (40 : Int32)) (hL : L.length < 24) : zyF155_0 g1 g2 g3 x1 (7 : Int32) (0 : Int32) x4 x5 (zaN 27 3 29 L s) = g3 x1 (20 : Int32) (0 : Int32) x4 (x5 + (1 : Int32)) (zaN 27 3 29 (L ++ [(20 : Int32)]) s) := by
  show zyF155_6 g1 g2 g3 (9990 + 10) x1 (0 : Int32) x4 x5 (7 : Int32) (0 : Int32) (zaN 27 3 29 L s) = _
  rw [zaq]
  unfold zyF155_6b
  rw [if_neg (by decide), zak (by decide) (by decide), zq_bind]
  dsimp only
  rw [if_neg (by decide), if_pos zao_7_0.2, zao_7_0.1]
  rw [if_neg (by decide), if_pos (by decide), zav_7]
  rw [zaq]
  unfold zyF155_6b
  rw [if_neg (by decide), zak (by decide) (by decide), zq_bind]
  dsimp only
  rw [if_neg (by decide), if_pos zao_4_0.2, zao_4_0.1]
  rw [if_neg (by decide), if_pos (by decide), zav_4]
  rw [zaq]
  unfold zyF155_6b
  rw [if_neg (by decide), zak (by decide) (by decide), zq_bind]
  dsimp only
  rw [if_neg (by decide), if_pos zao_1_0.2, zao_1_0.1]
  rw [if_pos (by decide)]
  unfold zyF155_48
  rw [zak (by decide) (by decide), zq_bind]
  dsimp only
  rw [if_neg (by decide), if_pos hd, if_pos zao_1_0.2, zao_1_0.1, zaN_156 _ hL, zq_bind]
  dsimp only
  rw [if_pos (by decide), zav_1, if_pos (by decide), if_pos (by decide), zab]
theorem zas_7_1 (hd : x5 < (40 : Int32)) (hL : L.length < 24) : zyF155_0 g1 g2 g3 x1 (7 : Int32) (1 : Int32) x4 x5 (zaN 27 3 29 L s) = g3 x1 (80 : Int32) (4 : Int32) x4 (x5 + (1 : Int32)) (zaN 27 3 29 (L ++ [(80 : Int32)]) s) := by
  show zyF155_6 g1 g2 g3 (9990 + 10) x1 (1 : Int32) x4 x5 (7 : Int32) (0 : Int32) (zaN 27 3 29 L s) = _
  rw [zaq]
  unfold zyF155_6b
  rw [if_neg (by decide), zak (by decide) (by decide), zq_bind]
  dsimp only
  rw [if_neg (by decide), if_pos zao_7_1.2, zao_7_1.1]
  rw [if_pos (by decide)]
  unfold zyF155_48
  rw [zak (by decide) (by decide), zq_bind]
  dsimp only
  rw [if_neg (by decide), if_pos hd, if_pos zao_7_1.2, zao_7_1.1, zaN_156 _ hL, zq_bind]
  dsimp only
  rw [if_pos (by decide), zav_7, if_pos (by decide), if_pos (by decide), zab]
theorem zas_7_2 (hd : x5 < (40 : Int32)) (hL : L.length < 24) : zyF155_0 g1 g2 g3 x1 (7 : Int32) (2 : Int32) x4 x5 (zaN 27 3 29 L s) = g3 x1 (50 : Int32) (1 : Int32) x4 (x5 + (1 : Int32)) (zaN 27 3 29 (L ++ [(50 : Int32)]) s) := by
  show zyF155_6 g1 g2 g3 (9990 + 10) x1 (2 : Int32) x4 x5 (7 : Int32) (0 : Int32) (zaN 27 3 29 L s) = _
  rw [zaq]
  unfold zyF155_6b
  rw [if_neg (by decide), zak (by decide) (by decide), zq_bind]
  dsimp only
  rw [if_neg (by decide), if_pos zao_7_2.2, zao_7_2.1]
  rw [if_neg (by decide), if_pos (by decide), zav_7]
  rw [zaq]
  unfold zyF155_6b
  rw [if_neg (by decide), zak (by decide) (by decide), zq_bind]
  dsimp only
  rw [if_neg (by decide), if_pos zao_4_2.2, zao_4_2.1]
  rw [if_pos (by decide)]
  unfold zyF155_48
  rw [zak (by decide) (by decide), zq_bind]
  dsimp only
  rw [if_neg (by decide), if_pos hd, if_pos zao_4_2.2, zao_4_2.1, zaN_156 _ hL, zq_bind]
  dsimp only
  rw [if_pos (by decide), zav_4, if_pos (by decide), if_pos (by decide), zab]
theorem zas_7_3 (hd : x5 < (40 : Int32)) (hL : L.length < 24) : zyF155_0 g1 g2 g3 x1 (7 : Int32) (3 : Int32) x4 x5 (zaN 27 3 29 L s) = g3 x1 (81 : Int32) (4 : Int32) x4 (x5 + (1 : Int32)) (zaN 27 3 29 (L ++ [(81 : Int32)]) s) := by
  show zyF155_6 g1 g2 g3 (9990 + 10) x1 (3 : Int32) x4 x5 (7 : Int32) (0 : Int32) (zaN 27 3 29 L s) = _
  rw [zaq]
  unfold zyF155_6b
  rw [if_neg (by decide), zak (by decide) (by decide), zq_bind]
  dsimp only
  rw [if_neg (by decide), if_pos zao_7_3.2, zao_7_3.1]
  rw [if_pos (by decide)]
  unfold zyF155_48
  rw [zak (by decide) (by decide), zq_bind]
  dsimp only
  rw [if_neg (by decide), if_pos hd, if_pos zao_7_3.2, zao_7_3.1, zaN_156 _ hL, zq_bind]
  dsimp only
  rw [if_pos (by decide), zav_7, if_pos (by decide), if_pos (by decide), zab]
theorem zau_20 (hb : zy_in x1 50 = true) : zyF158_0 g1 g2 g3 x1 (20 : Int32) x3 x4 x5 s = (g1 x1 x3 (0 : Int32) x4 x5 s).bind fun p => some (p.1 + (3 : Int32), p.2) := by
  unfold zyF158_0
  rw [if_pos hb, if_pos rfl]
theorem zau_30 (hb : zy_in x1 50 = true) : zyF158_0 g1 g2 g3 x1 (30 : Int32) x3 x4 x5 s = (g1 x1 x3 (1 : Int32) x4 x5 s).bind fun p => some (-p.1, p.2) := by
  unfold zyF158_0
  rw [if_pos hb, if_neg (by decide), if_pos rfl]
theorem zau_40 (hb : zy_in x1 50 = true) : zyF158_0 g1 g2 g3 x1 (40 : Int32) x3 x4 x5 s = (g1 x1 x3 (2 : Int32) x4 x5 s).bind fun p => some (p.1 * (3 : Int32), p.2) := by
  unfold zyF158_0
  rw [if_pos hb, if_neg (by decide), if_neg (by decide), if_pos rfl]
theorem zau_41 (hb : zy_in x1 50 = true) : zyF158_0 g1 g2 g3 x1 (41 : Int32) x3 x4 x5 s = g1 x1 x3 (1 : Int32) (x4 + (1 : Int32)) x5 s := by
  unfold zyF158_0
  rw [if_pos hb, if_neg (by decide), if_neg (by decide), if_neg (by decide), if_pos rfl, zab]
theorem zau_50 (hb : zy_in x1 50 = true) : zyF158_0 g1 g2 g3 x1 (50 : Int32) x3 x4 x5 s = (g1 x1 x3 (2 : Int32) x4 x5 s).bind fun p => (g1 x1 (s.1 28 x1.toNatClampNeg) (0 : Int32) (2 : Int32) x5 p.2).bind fun q => some (p.1 - q.1, q.2) := by
  unfold zyF158_0
  rw [if_pos hb, if_neg (by decide), if_neg (by decide), if_neg (by decide), if_neg (by decide), if_pos rfl]
theorem zau_60 (hb : zy_in x1 50 = true) : zyF158_0 g1 g2 g3 x1 (60 : Int32) x3 x4 x5 s = (g1 x1 x3 (3 : Int32) x4 x5 s).bind fun p => some (p.1 ^^^ (5 : Int32), p.2) := by
  unfold zyF158_0
  rw [if_pos hb, if_neg (by decide), if_neg (by decide), if_neg (by decide), if_neg (by decide), if_neg (by decide), if_pos rfl]
theorem zau_70 (hb : zy_in x1 50 = true) : zyF158_0 g1 g2 g3 x1 (70 : Int32) x3 x4 x5 s = (g1 x1 x3 (0 : Int32) x4 x5 s).bind fun p => some (p.1 * (2 : Int32), p.2) := by
  unfold zyF158_0
  rw [if_pos hb, if_neg (by decide), if_neg (by decide), if_neg (by decide), if_neg (by decide), if_neg (by decide), if_neg (by decide), if_pos rfl]
theorem zau_80 (hb : zy_in x1 50 = true) : zyF158_0 g1 g2 g3 x1 (80 : Int32) x3 x4 x5 s = (g1 x1 x3 (1 : Int32) x4 x5 s).bind fun p => (g1 x1 (s.1 28 x1.toNatClampNeg) (2 : Int32) (2 : Int32) x5 p.2).bind fun q => some (p.1 + q.1, q.2) := by
  unfold zyF158_0
  rw [if_pos hb, if_neg (by decide), if_neg (by decide), if_neg (by decide), if_neg (by decide), if_neg (by decide), if_neg (by decide), if_neg (by decide), if_pos rfl]
theorem zau_81 (hb : zy_in x1 50 = true) : zyF158_0 g1 g2 g3 x1 (81 : Int32) x3 x4 x5 s = (g1 x1 x3 (3 : Int32) x4 x5 s).bind fun p => some (p.1 - (1 : Int32), p.2) := by
  unfold zyF158_0
  rw [if_pos hb, if_neg (by decide), if_neg (by decide), if_neg (by decide), if_neg (by decide), if_neg (by decide), if_neg (by decide), if_neg (by decide), if_neg (by decide)]
theorem zau_1 (hb : zy_in x1 50 = true) : zyF157_0 g1 g2 g3 x1 (1 : Int32) x3 x4 s = some (x3 + x1, s) := by
  unfold zyF157_0
  rw [if_pos hb, if_pos rfl]
theorem zau_10 (hb : zy_in x1 50 = true) : zyF157_0 g1 g2 g3 x1 (10 : Int32) x3 x4 s = (g1 x1 (s.1 28 x1.toNatClampNeg) (0 : Int32) x3 x4 s).bind fun p => some (p.1 * (2 : Int32), p.2) := by
  unfold zyF157_0
  rw [if_pos hb, if_neg (by decide), if_pos rfl]
theorem zau_11 (hb : zy_in x1 50 = true) : zyF157_0 g1 g2 g3 x1 (11 : Int32) x3 x4 s = some (x3 ^^^ x1, s) := by
  unfold zyF157_0
  rw [if_pos hb, if_neg (by decide), if_neg (by decide), if_pos rfl]
theorem zau_2 (hb : zy_in x1 50 = true) : zyF157_0 g1 g2 g3 x1 (2 : Int32) x3 x4 s = (g1 x1 (s.1 28 x1.toNatClampNeg) (1 : Int32) x3 x4 s).bind fun p => (g1 x1 (s.1 28 x1.toNatClampNeg) (2 : Int32) (1 : Int32) x4 p.2).bind fun q => some (p.1 - q.1, q.2) := by
  unfold zyF157_0
  rw [if_pos hb, if_neg (by decide), if_neg (by decide), if_neg (by decide)]
end ZA
