/-! PART 46.1: what a shelf answers; put. Made by wip/v4/gen_put.py. -/
/-- a value, as a row of a sort holds it -/
def zyvs (t : Int32) (v : Int64) : Int64 := if t = 0 then (v.toInt32.toInt8.toInt32).toInt64 else if t = 1 then (v.toInt32.toInt16.toInt32).toInt64 else if t = 2 then (v.toInt32).toInt64 else if t = 3 then v else if lg_cmp v 0 = 0 then 0 else 1
theorem zyvs_fit (t : Int32) (v : Int64) : zfit t (zyvs t v) := by
  constructor
  · intro h
    have e : t = 0 := zq_ext h
    subst e
    unfold zyvs
    rw [if_pos rfl, Int32.toInt_toInt64, Int8.toInt_toInt32]
    exact ⟨Int8.le_toInt _, by have := Int8.toInt_lt (v.toInt32.toInt8); omega⟩
  · intro h
    have e : t = 1 := zq_ext h
    subst e
    unfold zyvs
    rw [if_neg (by decide), if_pos rfl, Int32.toInt_toInt64, Int16.toInt_toInt32]
    exact ⟨Int16.le_toInt _, by have := Int16.toInt_lt (v.toInt32.toInt16); omega⟩
theorem zys169 (c : Nat) (v : Int64) (s : zy_S) : zyF169 c v s = some (zyvs (s.1 c 2) v, s) := by
  unfold zyF169 zyvs
  repeat' split
  all_goals rfl
theorem zys260 {t : Int32} (v : Int64) (s : zy_S) (h : zin t 0 4) : zyF260 t v s = some (zyvs t v, s) := by
  obtain ⟨h0, h1⟩ := h
  unfold zyF260 zyvs
  by_cases a0 : t = 0
  · rw [if_neg (show ¬ (t ≠ 0) from fun q => q a0), if_pos a0]
  rw [if_pos a0, if_neg a0]
  by_cases a1 : t = 1
  · rw [if_neg (show ¬ (t ≠ 1) from fun q => q a1), if_pos a1]
  rw [if_pos a1, if_neg a1]
  by_cases a2 : t = 2
  · rw [if_neg (show ¬ (t ≠ 2) from fun q => q a2), if_pos a2]
  rw [if_pos a2, if_neg a2]
  by_cases a4 : t = 4
  · have a3 : ¬ t = 3 := by rw [a4]; decide
    rw [if_neg (show ¬ (t ≠ 4) from fun q => q a4), if_neg a3]
    split <;> rfl
  · have a3 : t = 3 := by
      rw [zq_eq, zq_l0] at a0
      rw [zq_eq, zq_l1] at a1
      rw [zq_eq, zq_l2] at a2
      rw [zq_eq, zq_l4] at a4
      rw [zq_eq, zq_l3]
      omega
    rw [if_pos a4, if_pos a3]
/-- why a place of a shelf is refused -/
def zyrf (b t n : Int) (y : Int) : Int32 := if t = -1 then (if b = -1 then -11 else -12) else if 0 ≤ y ∧ y < n then 0 else -13
theorem zys167 {c : Nat} (y : Int32) {s : zy_S} (hl : zin (s.1 c 3) 0 60) : zyF167 c y s = some (zyrf (s.1 c 1).toInt (s.1 c 2).toInt (s.1 c 3).toInt y.toInt, s) := by
  obtain ⟨l0, l1⟩ := id hl
  unfold zyF167 zyrf
  simp only [zys19, zys20, zys23 c y 1 s hl, true_and, and_true, zqb_t0, Classical.not_not, Bool.not_eq_false, zq_bind, zqb_n0, zqb_e0, decide_eq_true_eq, decide_eq_false_iff_not, ne_eq, zq_eq, Int32.toInt_toInt64, Int32.lt_iff_toInt_lt, Int32.le_iff_toInt_le, zq_l0, zq_lm1, zq_l1, zq_l2, zq_l3, zq_l4, zq_l5, zq_l6, zq_l7, zq_l8, zq_l9, zq_l12, zq_l16, zq_l23, zq_l24, zq_l40, zq_l39, zq_l50, zq_l51, zq_l60, zq_l120, zq_l128, zq_l255, zq_l4095, zq_l4096, zq_j0, zq_j1, zq_j4, zq_j5, zq_j7, zq_j8, zq_j9, zq_j23, zq_j255, zq_j4095]
  by_cases ht : (s.1 c 2).toInt = -1
  · rw [if_pos ht]
    by_cases hb : (s.1 c 1).toInt = -1
    · rw [if_pos hb, if_neg (by omega)]
    · rw [if_neg hb, if_pos (by omega), if_neg (by omega)]
  · rw [if_neg ht, if_pos (by omega), if_pos (by omega)]
    by_cases hy : 0 ≤ y.toInt ∧ y.toInt < (s.1 c 3).toInt
    · rw [if_pos hy, if_neg (by omega)]
    · rw [if_neg hy, if_pos (by omega)]
theorem zys259 {x : Int32} (y : Int32) {s : zy_S} (h : zR20 s) (hn : (s.1 27 2).toInt ≤ 50) (hx : 0 ≤ x.toInt ∧ x.toInt ≤ 5) : zyF259 x y s = some (zyrf (s.1 (zy_sh x.toNatClampNeg) 1).toInt (s.1 (zy_sh x.toNatClampNeg) 2).toInt (s.1 (zy_sh x.toNatClampNeg) 3).toInt y.toInt, s) := by
  obtain ⟨hin, hd, hxd⟩ := zx6 hx
  obtain ⟨e1, ⟨n0, n1⟩, e2⟩ := h _ hd
  unfold zyF259 zyrf
  simp only [zys182, true_and, and_true, zqb_t0, Classical.not_not, Bool.not_eq_false, zq_bind, zqb_n0, zqb_e0, decide_eq_true_eq, decide_eq_false_iff_not, ne_eq, zq_eq, Int32.toInt_toInt64, Int32.lt_iff_toInt_lt, Int32.le_iff_toInt_le, zq_l0, zq_lm1, zq_l1, zq_l2, zq_l3, zq_l4, zq_l5, zq_l6, zq_l7, zq_l8, zq_l9, zq_l12, zq_l16, zq_l23, zq_l24, zq_l40, zq_l39, zq_l50, zq_l51, zq_l60, zq_l120, zq_l128, zq_l255, zq_l4095, zq_l4096, zq_j0, zq_j1, zq_j4, zq_j5, zq_j7, zq_j8, zq_j9, zq_j23, zq_j255, zq_j4095]
  rw [if_pos hx, if_pos hin]
  rw [← e1]
  rcases e2 with ⟨t, hb, b0, b1, hn0⟩ | ⟨⟨t0, t1⟩, b, hh⟩
  · rw [if_pos t, ← hb]
    by_cases hb' : (s.1 (zy_sh x.toNatClampNeg) 1).toInt = -1
    · rw [if_pos hb', if_neg (by omega)]
    · rw [if_neg hb', if_pos (by omega), if_pos hin, if_neg (by omega)]
  · rw [if_pos (by omega), if_pos hin, if_pos (by omega), if_neg (show ¬ (s.1 (zy_sh x.toNatClampNeg) 2).toInt = -1 by omega)]
    by_cases hy : 0 ≤ y.toInt ∧ y.toInt < (s.1 (zy_sh x.toNatClampNeg) 3).toInt
    · rw [if_pos hy, if_neg (by omega), if_pos hin, if_neg (by omega)]
    · rw [if_neg hy]
      by_cases hy0 : y.toInt < 0
      · rw [if_pos hy0]
      · rw [if_neg hy0, if_pos hin, if_pos (by omega)]
theorem zyrf_r {b t n y : Int} (h : zyrf b t n y = 0) : t ≠ -1 ∧ 0 ≤ y ∧ y < n := by
  unfold zyrf at h
  split at h
  · split at h <;> exact absurd h (by decide)
  · split at h
    · next q1 q2 => exact ⟨q1, q2⟩
    · exact absurd h (by decide)
theorem zop_put (x y : Int32) (v : Int64) {s : zy_S} (h : zI s) : ∃ r s1 s2, zyF166 x y v s = some (r, s1) ∧ zyF258 x y v s1 = some (r, s2) ∧ zI s2 := by
  obtain ⟨hw, hg, h1, h2, h3, h4, h5, h6, h7, h8, h9, h10, h11, h12, h13, h14, h15, h16, h17, h18, h19, h20, h21⟩ := id h
  obtain ⟨e14, b0, b1⟩ := id h14
  by_cases hx : 0 ≤ x.toInt ∧ x.toInt ≤ 5
  · obtain ⟨hin, hd, hxd⟩ := zx6 hx
    obtain ⟨d, hdd⟩ : ∃ d, d = x.toNatClampNeg := ⟨_, rfl⟩
    rw [← hdd] at hd hxd
    obtain ⟨q1, ⟨n0, n1⟩, q3⟩ := h20 d hd
    obtain ⟨r, hr⟩ : ∃ r, r = zyrf (s.1 (zy_sh d) 1).toInt (s.1 (zy_sh d) 2).toInt (s.1 (zy_sh d) 3).toInt y.toInt := ⟨_, rfl⟩
    have k1 : ∀ s' : zy_S, s'.1 = s.1 → zyF167 (zy_sh d) y s' = some (r, s') := by
      intro s' e
      have := zys167 (c := zy_sh d) y (s := s') (by rw [e]; exact ⟨n0, n1⟩)
      rw [e, ← hr] at this
      exact this
    have k2 : ∀ s' : zy_S, s'.1 = s.1 → zyF259 x y s' = some (r, s') := by
      intro s' e
      have := zys259 (x := x) y (s := s') (by unfold zR20; rw [e]; exact h20) (by rw [e]; exact b1) hx
      rw [e, ← hdd, ← hr] at this
      exact this
    by_cases hr0 : r = 0
    · obtain ⟨t1, y0, y1⟩ := zyrf_r (hr.symm.trans hr0)
      have ht : zin (s.1 (zy_sh d) 2) 0 4 ∧ (s.1 60 d).toInt = 50 + (s.1 (zy_sh d) 2).toInt := by
        rcases q3 with ⟨t, -⟩ | ⟨t, -, hh⟩
        · exact absurd t t1
        · exact ⟨t, hh⟩
      obtain ⟨⟨t2, t3⟩, t4⟩ := ht
      have et : s.1 60 d - 50 = s.1 (zy_sh d) 2 := zq_ext (by rw [zq_sub (by rw [zq_l50]; omega) (by rw [zq_l50]; omega), zq_l50]; omega)
      have hyin : zy_in y 60 = true := zq_in.mpr ⟨y0, by omega⟩
      have em : ((60 : Int32) * x).toInt = 60 * (d : Int) := by rw [zq_mul (by rw [zq_l60, hxd]; omega) (by rw [zq_l60, hxd]; omega), zq_l60, hxd]
      have ea : ((60 : Int32) * x + y).toInt = 60 * (d : Int) + y.toInt := by rw [zq_add (by rw [em]; omega) (by rw [em]; omega), em]
      have hain : zy_in ((60 : Int32) * x + y) 360 = true := zq_in.mpr ⟨by omega, by omega⟩
      have ey : (y.toNatClampNeg : Int) = y.toInt := by rw [zq_ix]; omega
      have eai : ((60 : Int32) * x + y).toNatClampNeg = 60 * d + y.toNatClampNeg := by rw [zq_ix, ea]; omega
      obtain ⟨w, hw'⟩ : ∃ w, w = zyvs (s.1 (zy_sh d) 2) v := ⟨_, rfl⟩
      have n62 : ∀ d', d' < 6 → zy_sh d' + 1 ≠ 62 := fun d' g => by unfold zy_sh; omega
      refine ⟨1, zy_uj s (zy_sh d + 1) y.toNatClampNeg w, zy_uj (zy_uj s (zy_sh d + 1) y.toNatClampNeg w) 62 (60 * d + y.toNatClampNeg) w, ?_, ?_, ?_⟩
      · unfold zyF166
        simp only [zys18, zq_bind, zqb_n0, decide_eq_true_eq]
        rw [if_pos hx, if_pos hin, if_pos hw, ← hdd, k1 s rfl]
        simp only [zq_bind]
        rw [if_neg (show ¬ (r ≠ 0) from fun q => q hr0), if_pos hin, if_pos hw]
        unfold zyF168
        simp only [zys169, zq_bind]
        rw [if_pos hyin]
        simp only [zq_bind]
        unfold zyF166_37
        rw [if_neg (show ¬ (r ≠ 0) from fun q => q hr0), hw']
      · unfold zyF258
        rw [k2 (zy_uj s (zy_sh d + 1) y.toNatClampNeg w) rfl]
        simp only [zq_bind]
        rw [if_neg (show ¬ (r ≠ 0) from fun q => q hr0), if_pos hin, ← hdd]
        show (zyF260 (s.1 60 d - 50) v _).bind _ = _
        rw [et, zys260 v _ ⟨t2, t3⟩]
        simp only [zq_bind]
        rw [if_pos hain, eai]
        unfold zyF258_37
        rw [if_neg (show ¬ (r ≠ 0) from fun q => q hr0), hw']
      · refine zI_sh1 h hd (zRg_uj (zRg_uj hg)) rfl (fun c k _ _ _ => rfl) (h20 d hd) ?_ ?_ ?_
        · intro d' j hd' q
          rw [zy_uj_at, if_neg (fun u => n62 d' hd' u.1), zy_uj_at, if_neg (fun u => q (zsh_inj (by omega)))]
        · intro d' j hd' q hj
          rw [zy_uj_at, if_neg (fun u => by omega), zy_uj_at, if_neg (fun u => n62 d hd u.1.symm)]
        · intro j hj
          obtain ⟨g1, g2⟩ := h21 d hd j hj
          have a1 : (zy_uj (zy_uj s (zy_sh d + 1) y.toNatClampNeg w) 62 (60 * d + y.toNatClampNeg) w).2.1 (zy_sh d + 1) j = if j = y.toNatClampNeg then w else s.2.1 (zy_sh d + 1) j := by
            rw [zy_uj_at, if_neg (fun u => n62 d hd u.1), zy_uj_at]
            by_cases e : j = y.toNatClampNeg
            · rw [if_pos ⟨rfl, e⟩, if_pos e]
            · rw [if_neg (fun u => e u.2), if_neg e]
          have a2 : (zy_uj (zy_uj s (zy_sh d + 1) y.toNatClampNeg w) 62 (60 * d + y.toNatClampNeg) w).2.1 62 (60 * d + j) = if j = y.toNatClampNeg then w else s.2.1 62 (60 * d + j) := by
            rw [zy_uj_at]
            by_cases e : j = y.toNatClampNeg
            · rw [if_pos ⟨rfl, by omega⟩, if_pos e]
            · rw [if_neg (fun u => e (by omega)), if_neg e, zy_uj_at, if_neg (fun u => n62 d hd u.1.symm)]
          rw [a1, a2]
          by_cases e : j = y.toNatClampNeg
          · rw [if_pos e, if_pos e]
            exact ⟨rfl, by rw [hw']; exact zyvs_fit _ _⟩
          · rw [if_neg e, if_neg e]
            exact ⟨g1, g2⟩
    · refine ⟨r, s, s, ?_, ?_, h⟩
      · unfold zyF166
        simp only [zys18, zq_bind, zqb_n0, decide_eq_true_eq]
        rw [if_pos hx, if_pos hin, if_pos hw, ← hdd, k1 s rfl]
        simp only [zq_bind]
        rw [if_pos hr0]
        unfold zyF166_37
        rw [if_pos hr0]
      · unfold zyF258
        rw [k2 _ rfl]
        simp only [zq_bind]
        rw [if_pos hr0]
        unfold zyF258_37
        rw [if_pos hr0]
  · refine ⟨-1, s, s, ?_, ?_, h⟩
    · unfold zyF166
      simp only [zys18, zq_bind, zqb_n0, decide_eq_true_eq]
      rw [if_neg hx]
    · have k3 : zyF259 x y s = some (-1, s) := by
        unfold zyF259
        simp only [zys182, zq_bind, zqb_n0, decide_eq_true_eq]
        rw [if_neg hx]
      unfold zyF258
      rw [k3]
      simp only [zq_bind]
      rw [if_pos (by decide)]
      unfold zyF258_37
      rw [if_pos (by decide)]
