/-! PART 46.94: element. Made by wip/v4/gen_rest.py. -/
theorem zop_element (x y : Int32) {s : zy_S} (h : zI s) : ∃ (r : Int64) (s1 s2 : zy_S), zyF170 x y s = some (r, s1) ∧ zyF261 x y s1 = some (r, s2) ∧ zI s2 := by
  obtain ⟨hw, hg, h1, h2, h3, h4, h5, h6, h7, h8, h9, h10, h11, h12, h13, h14, h15, h16, h17, h18, h19, h20, h21⟩ := id h
  obtain ⟨e14, b0, b1⟩ := id h14
  by_cases hx : 0 ≤ x.toInt ∧ x.toInt ≤ 5
  · obtain ⟨hin, hd, hxd⟩ := zx6 hx
    obtain ⟨d, hdd⟩ : ∃ d, d = x.toNatClampNeg := ⟨_, rfl⟩
    rw [← hdd] at hd hxd
    obtain ⟨q1, ⟨n0, n1⟩, q3⟩ := h20 d hd
    obtain ⟨r, hr⟩ : ∃ r, r = zyrf (s.1 (zy_sh d) 1).toInt (s.1 (zy_sh d) 2).toInt (s.1 (zy_sh d) 3).toInt y.toInt := ⟨_, rfl⟩
    have k1 : zyF167 (zy_sh d) y s = some (r, s) := by
      rw [hr]
      exact zys167 (c := zy_sh d) y (s := s) ⟨n0, n1⟩
    have k2 : zyF259 x y s = some (r, s) := by
      have := zys259 (x := x) y (s := s) h20 b1 hx
      rw [← hdd, ← hr] at this
      exact this
    by_cases hr0 : r = 0
    · obtain ⟨t1, y0, y1⟩ := zyrf_r (hr.symm.trans hr0)
      have hyin : zy_in y 60 = true := zq_in.mpr ⟨y0, by omega⟩
      have em : ((60 : Int32) * x).toInt = 60 * (d : Int) := by rw [zq_mul (by rw [zq_l60, hxd]; omega) (by rw [zq_l60, hxd]; omega), zq_l60, hxd]
      have ea : ((60 : Int32) * x + y).toInt = 60 * (d : Int) + y.toInt := by rw [zq_add (by rw [em]; omega) (by rw [em]; omega), em]
      have hain : zy_in ((60 : Int32) * x + y) 360 = true := zq_in.mpr ⟨by omega, by omega⟩
      have ey : (y.toNatClampNeg : Int) = y.toInt := by rw [zq_ix]; omega
      have eai : ((60 : Int32) * x + y).toNatClampNeg = 60 * d + y.toNatClampNeg := by rw [zq_ix, ea]; omega
      have hj := (h21 d hd y.toNatClampNeg (by omega)).1
      refine ⟨s.2.1 (zy_sh d + 1) y.toNatClampNeg, s, s, ?_, ?_, h⟩
      · unfold zyF170
        simp only [zys18, zq_bind, zqb_e0, decide_eq_false_iff_not]
        rw [if_neg (not_not_intro hx), if_pos hin, if_pos hw, ← hdd, k1]
        simp only [zq_bind]
        rw [if_neg (show ¬ (r ≠ 0) from fun q => q hr0), if_pos hin, if_pos hw, if_pos hyin]
      · unfold zyF261
        rw [k2]
        simp only [zq_bind]
        rw [if_pos hr0, if_pos hain, eai, ← hj]
    · refine ⟨(-9223372036854775808 : Int64), s, s, ?_, ?_, h⟩
      · unfold zyF170
        simp only [zys18, zq_bind, zqb_e0, decide_eq_false_iff_not]
        rw [if_neg (not_not_intro hx), if_pos hin, if_pos hw, ← hdd, k1]
        simp only [zq_bind]
        rw [if_pos hr0]
      · unfold zyF261
        rw [k2]
        simp only [zq_bind]
        rw [if_neg hr0]
  · refine ⟨(-9223372036854775808 : Int64), s, s, ?_, ?_, h⟩
    · unfold zyF170
      simp only [zys18, zq_bind, zqb_e0, decide_eq_false_iff_not]
      rw [if_pos hx]
    · have k3 : zyF259 x y s = some (-1, s) := by
        unfold zyF259
        simp only [zys182, zq_bind, zqb_n0, decide_eq_true_eq]
        rw [if_neg hx]
      unfold zyF261
      rw [k3]
      simp only [zq_bind]
      rw [if_neg (by decide)]
