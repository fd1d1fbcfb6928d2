/-! PART 46.91: shift. Made by wip/v4/gen_shift.py. -/
theorem zl_150 (x3 x4 x5 : Int32) {d a m : Nat} (hx3 : x3.toInt = (d : Int)) (hd : d < 6) (hx4 : x4.toInt = (a : Int)) (hx5 : x5.toInt = (m : Int)) (hm : a + m ≤ 60) : ∀ (n k : Nat) (i : Int32) (s : zy_S), k ≤ m → m - k < n → i.toInt = (k : Int) →
    ∃ t, zyF262_150 n x3 x4 x5 i s = some (x5, t) ∧ t.1 = s.1 ∧ t.2.2 = s.2.2 ∧ (∀ c, c ≠ 62 → t.2.1 c = s.2.1 c) ∧ ∀ j, t.2.1 62 j = if 60 * d + a + k ≤ j ∧ j < 60 * d + a + m then s.2.1 63 (j - (60 * d + a)) else s.2.1 62 j
  | 0, k, i, s, hk, hn, hi => by omega
  | n + 1, k, i, s, hk, hn, hi => by
    have em : ((60 : Int32) * x3).toInt = 60 * (d : Int) := by rw [zq_mul (by rw [zq_l60, hx3]; omega) (by rw [zq_l60, hx3]; omega), zq_l60, hx3]
    have ea : ((60 : Int32) * x3 + x4).toInt = 60 * (d : Int) + a := by rw [zq_add (by rw [em]; omega) (by rw [em]; omega), em, hx4]
    have eb : ((60 : Int32) * x3 + x4 + i).toInt = 60 * (d : Int) + a + k := by rw [zq_add (by rw [ea]; omega) (by rw [ea]; omega), ea, hi]
    show ∃ t, zyF262_150b (zyF262_150 n) x3 x4 x5 i s = some (x5, t) ∧ _
    unfold zyF262_150b
    by_cases h : k = m
    · rw [if_pos (by rw [Int32.le_iff_toInt_le]; omega)]
      refine ⟨s, rfl, rfl, rfl, fun _ _ => rfl, fun j => ?_⟩
      rw [if_neg (by omega)]
    · have ei : i.toNatClampNeg = k := by rw [zq_ix]; omega
      have eib : ((60 : Int32) * x3 + x4 + i).toNatClampNeg = 60 * d + a + k := by rw [zq_ix]; omega
      rw [if_neg (by rw [Int32.le_iff_toInt_le]; omega), if_pos (zq_in.mpr ⟨by omega, by omega⟩), if_pos (zq_in.mpr ⟨by omega, by omega⟩), ei, eib]
      obtain ⟨t, q1, q2, q3, q4, q5⟩ := zl_150 x3 x4 x5 hx3 hd hx4 hx5 hm n (k + 1) (i + 1) (zy_uj s 62 (60 * d + a + k) (s.2.1 63 k)) (by omega) (by omega) (by rw [zq_add (by rw [zq_l1]; omega) (by rw [zq_l1]; omega), zq_l1, hi]; omega)
      refine ⟨t, q1, q2, q3, fun c hc => by rw [q4 c hc]; funext b; rw [zy_uj_at, if_neg (fun w => hc w.1)], fun j => ?_⟩
      have z1 : ∀ b', (zy_uj s 62 (60 * d + a + k) (s.2.1 63 k)).2.1 63 b' = s.2.1 63 b' := fun b' => by rw [zy_uj_at, if_neg (fun w => absurd w.1 (by decide))]
      rw [q5 j, z1, zy_uj_at]
      by_cases h1 : 60 * d + a + k ≤ j ∧ j < 60 * d + a + m
      · rw [if_pos h1]
        by_cases h2 : j = 60 * d + a + k
        · rw [if_neg (by omega), if_pos ⟨rfl, h2⟩, show j - (60 * d + a) = k by omega]
        · rw [if_pos (by omega)]
      · rw [if_neg h1, if_neg (by omega), if_neg (by omega)]
theorem zl_113 (x1 x2 x3 x4 x5 : Int32) {e b m : Nat} (hx1 : x1.toInt = (e : Int)) (he : e < 6) (hx2 : x2.toInt = (b : Int)) (hx5 : x5.toInt = (m : Int)) (hm : b + m ≤ 60) : ∀ (n k : Nat) (i : Int32) (s : zy_S), k ≤ m → m - k < n → i.toInt = (k : Int) →
    ∃ t, zyF262_113 n x1 x2 x3 x4 x5 i s = zyF262_150 zy_fu x3 x4 x5 0 t ∧ t.1 = s.1 ∧ t.2.2 = s.2.2 ∧ (∀ c, c ≠ 63 → t.2.1 c = s.2.1 c) ∧ ∀ j, t.2.1 63 j = if k ≤ j ∧ j < m then s.2.1 62 (60 * e + b + j) else s.2.1 63 j
  | 0, k, i, s, hk, hn, hi => by omega
  | n + 1, k, i, s, hk, hn, hi => by
    have em : ((60 : Int32) * x1).toInt = 60 * (e : Int) := by rw [zq_mul (by rw [zq_l60, hx1]; omega) (by rw [zq_l60, hx1]; omega), zq_l60, hx1]
    have ea : ((60 : Int32) * x1 + x2).toInt = 60 * (e : Int) + b := by rw [zq_add (by rw [em]; omega) (by rw [em]; omega), em, hx2]
    have eb : ((60 : Int32) * x1 + x2 + i).toInt = 60 * (e : Int) + b + k := by rw [zq_add (by rw [ea]; omega) (by rw [ea]; omega), ea, hi]
    show ∃ t, zyF262_113b (zyF262_113 n) x1 x2 x3 x4 x5 i s = zyF262_150 zy_fu x3 x4 x5 0 t ∧ _
    unfold zyF262_113b
    by_cases h : k = m
    · rw [if_pos (by rw [Int32.le_iff_toInt_le]; omega)]
      refine ⟨s, rfl, rfl, rfl, fun _ _ => rfl, fun j => ?_⟩
      rw [if_neg (by omega)]
    · have ei : i.toNatClampNeg = k := by rw [zq_ix]; omega
      have eib : ((60 : Int32) * x1 + x2 + i).toNatClampNeg = 60 * e + b + k := by rw [zq_ix]; omega
      rw [if_neg (by rw [Int32.le_iff_toInt_le]; omega), if_pos (zq_in.mpr ⟨by omega, by omega⟩), if_pos (zq_in.mpr ⟨by omega, by omega⟩), ei, eib]
      obtain ⟨t, q1, q2, q3, q4, q5⟩ := zl_113 x1 x2 x3 x4 x5 hx1 he hx2 hx5 hm n (k + 1) (i + 1) (zy_uj s 63 k (s.2.1 62 (60 * e + b + k))) (by omega) (by omega) (by rw [zq_add (by rw [zq_l1]; omega) (by rw [zq_l1]; omega), zq_l1, hi]; omega)
      refine ⟨t, q1, q2, q3, fun c hc => by rw [q4 c hc]; funext b'; rw [zy_uj_at, if_neg (fun w => hc w.1)], fun j => ?_⟩
      have z1 : ∀ b', (zy_uj s 63 k (s.2.1 62 (60 * e + b + k))).2.1 62 b' = s.2.1 62 b' := fun b' => by rw [zy_uj_at, if_neg (fun w => absurd w.1 (by decide))]
      rw [q5 j, z1, zy_uj_at]
      by_cases h1 : k ≤ j ∧ j < m
      · rw [if_pos h1]
        by_cases h2 : j = k
        · rw [if_neg (by omega), if_pos ⟨rfl, h2⟩, h2]
        · rw [if_pos (by omega)]
      · rw [if_neg h1, if_neg (by omega), if_neg (by omega)]

