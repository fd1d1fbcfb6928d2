/-! PART 46.92: people. Made by wip/v4/gen_people.py. -/
/-- the class's cells of one state, the model's of another -/
def zwmx (a b : zy_S) : zy_S := (fun c k => if c < 43 then a.1 c k else b.1 c k, a.2)
theorem zwmx_lo {a b : zy_S} {c : Nat} (h : c < 43) (k : Nat) : (zwmx a b).1 c k = a.1 c k := by
  show (if c < 43 then a.1 c k else b.1 c k) = _
  exact if_pos h
theorem zwmx_hi {a b : zy_S} {c : Nat} (h : ¬ c < 43) (k : Nat) : (zwmx a b).1 c k = b.1 c k := by
  show (if c < 43 then a.1 c k else b.1 c k) = _
  exact if_neg h
theorem zwmx_self (a : zy_S) : zwmx a a = a := Prod.ext (funext fun c => funext fun k => by
  by_cases h : c < 43
  · exact zwmx_lo h k
  · exact zwmx_hi h k) rfl
theorem zwmx_upC {a b : zy_S} {c k : Nat} {x : Int32} (h : c < 43) : zy_up (zwmx a b) c k x = zwmx (zy_up a c k x) b := Prod.ext (funext fun p => funext fun q => by
  show (zy_up (zwmx a b) c k x).1 p q = (zwmx (zy_up a c k x) b).1 p q
  rw [zy_up_at]
  by_cases hp : p < 43
  · rw [zwmx_lo hp, zwmx_lo hp, zy_up_at]
  · rw [zwmx_hi hp, zwmx_hi hp, if_neg (fun w => hp (by omega))]) rfl
theorem zwmx_upM {a b : zy_S} {c k : Nat} {x : Int32} (h : ¬ c < 43) : zy_up (zwmx a b) c k x = zwmx a (zy_up b c k x) := Prod.ext (funext fun p => funext fun q => by
  show (zy_up (zwmx a b) c k x).1 p q = (zwmx a (zy_up b c k x)).1 p q
  rw [zy_up_at]
  by_cases hp : p < 43
  · rw [zwmx_lo hp, zwmx_lo hp, if_neg (fun w => h (by omega))]
  · rw [zwmx_hi hp, zwmx_hi hp, zy_up_at]) rfl
theorem zq_j32 {v : Int64} (h : -32768 ≤ v.toInt ∧ v.toInt ≤ 32767) : v.toInt32.toInt = v.toInt := by
  rw [Int64.toInt_toInt32]
  exact Int.bmod_eq_of_le (by omega) (by omega)
theorem zys16 (x y : Int32) {u : zy_S} (h : zin (u.1 1 5) 0 8) (h8 : ¬ 8 ≤ (u.1 1 5).toInt) : zyF16 x y u = some (u.1 1 5, zy_up (zy_up (zy_up u 3 (u.1 1 5).toNatClampNeg x) 4 (u.1 1 5).toNatClampNeg y) 1 5 (u.1 1 5 + 1)) := by
  obtain ⟨h0, h1⟩ := h
  have hin : zy_in (u.1 1 5) 8 = true := zq_in.mpr ⟨h0, by omega⟩
  unfold zyF16
  rw [if_pos hin, if_pos hin]
theorem zys180 (x y : Int32) {u : zy_S} (h : zin (u.1 43 6) 0 8) : zyF180 x y u = some (0, zy_up (zy_up (zy_up u 44 (u.1 43 6).toNatClampNeg x) 44 (8 + (u.1 43 6).toNatClampNeg) y) 43 6 (u.1 43 6 + 1)) := by
  obtain ⟨h0, h1⟩ := h
  have e8 : ((8 : Int32) + u.1 43 6).toInt = 8 + (u.1 43 6).toInt := by rw [zq_add (by rw [zq_l8]; omega) (by rw [zq_l8]; omega), zq_l8]
  have e8n : ((8 : Int32) + u.1 43 6).toNatClampNeg = 8 + (u.1 43 6).toNatClampNeg := by rw [zq_ix, zq_ix, e8]; omega
  unfold zyF180
  rw [if_pos (zq_in.mpr ⟨h0, by omega⟩), if_pos (zq_in.mpr ⟨by omega, by omega⟩), e8n]
/-- nobody comes: the model's loop -/
theorem zl_no (n : Nat) (x1 x2 x3 x4 : Int32) (u : zy_S) : zyF181_110 (zyF181_69 (n + 1)) x1 x2 x3 x4 u = some (x4, u) := by
  unfold zyF181_110 zyF181_111
  rw [if_pos rfl]
  unfold zyF181_171 zyF181_172
  rw [if_pos rfl]
  unfold zyF181_204
  show zyF181_69b (zyF181_69 n) x1 x2 x3 x4 0 u = _
  unfold zyF181_69b
  rw [if_pos rfl]
/-- whether one comes -/
def zcm (s : zy_S) (d : Nat) (x2 x4 : Int32) : Prop := ¬ 8 ≤ (s.1 1 5).toInt ∧ x2.toInt + 2 * x4.toInt + 2 ≤ (s.1 (zy_sh d) 3).toInt ∧
  (0 ≤ (s.2.1 62 (60 * d + (x2.toInt + 2 * x4.toInt).toNat)).toInt ∧ (s.2.1 62 (60 * d + (x2.toInt + 2 * x4.toInt).toNat)).toInt ≤ 4095) ∧
  (0 ≤ (s.2.1 62 (60 * d + (x2.toInt + 2 * x4.toInt).toNat + 1)).toInt ∧ (s.2.1 62 (60 * d + (x2.toInt + 2 * x4.toInt).toNat + 1)).toInt ≤ 9)
/-- the state behind it -/
def zca (s : zy_S) (x y : Int32) : zy_S := zy_up (zy_up (zy_up s 3 (s.1 1 5).toNatClampNeg x) 4 (s.1 1 5).toNatClampNeg y) 1 5 (s.1 1 5 + 1)
def zma (s : zy_S) (x y : Int32) : zy_S := zy_up (zy_up (zy_up s 44 (s.1 43 6).toNatClampNeg x) 44 (8 + (s.1 43 6).toNatClampNeg) y) 43 6 (s.1 43 6 + 1)
theorem zca_mx (s b : zy_S) (x y : Int32) : zca (zwmx s b) x y = zwmx (zca s x y) b := by
  unfold zca
  rw [zwmx_lo (by decide), zwmx_upC (by decide), zwmx_upC (by decide), zwmx_upC (by decide)]
theorem zma_mx (a s : zy_S) (x y : Int32) : zma (zwmx a s) x y = zwmx a (zma s x y) := by
  unfold zma
  rw [zwmx_hi (by decide), zwmx_upM (by decide), zwmx_upM (by decide), zwmx_upM (by decide)]
theorem zca_I {s : zy_S} (h : zI s) {x y : Int32} (hx : 0 ≤ x.toInt ∧ x.toInt ≤ 4095) (hy : zin y 0 9) (hp : ¬ 8 ≤ (s.1 1 5).toInt) : zI (zma (zca s x y) x y) := by
  have h1 : zR1 s := h.2.2.1
  have e : (zca s x y).1 43 6 = s.1 1 5 := h1.1.symm
  unfold zma
  rw [e]
  exact zI_adds h hx hy rfl hp
section ZP
variable {s : zy_S} {d : Nat} {x1 x2 x3 : Int32}
theorem zcm_C (h : zI s) (hd : d < 6) (ht : (s.1 (zy_sh d) 2).toInt = 1) {x4 : Int32} (h2 : 0 ≤ x2.toInt) (h4 : 0 ≤ x4.toInt) (h4' : x4.toInt ≤ 8) (hm : zcm s d x2 x4) (b : zy_S) :
    zyF22 (zy_sh d) (x2 + (2 : Int32) * x4) (zwmx s b) = some (1, zwmx (zca s (s.2.1 62 (60 * d + (x2.toInt + 2 * x4.toInt).toNat)).toInt32 (s.2.1 62 (60 * d + (x2.toInt + 2 * x4.toInt).toNat + 1)).toInt32) b) := by
  obtain ⟨hw, hg, h1, h2, h3, h4, h5, h6, h7, h8, h9, h10, h11, h12, h13, h14, h15, h16, h17, h18, h19, h20, h21⟩ := id h
  obtain ⟨m1, m2, m3, m4⟩ := hm
  obtain ⟨-, ⟨l0, l1⟩, -⟩ := h20 d hd
  have sd : zy_sh d < 43 := by unfold zy_sh; omega
  have e2 : ((2 : Int32) * x4).toInt = 2 * x4.toInt := by rw [zq_mul (by rw [zq_l2]; omega) (by rw [zq_l2]; omega), zq_l2]
  have ea : (x2 + (2 : Int32) * x4).toInt = x2.toInt + 2 * x4.toInt := by rw [zq_add (by rw [e2]; omega) (by rw [e2]; omega), e2]
  have eb : (x2 + (2 : Int32) * x4 + 1).toInt = x2.toInt + 2 * x4.toInt + 1 := by rw [zq_add (by rw [ea, zq_l1]; omega) (by rw [ea, zq_l1]; omega), ea, zq_l1]
  obtain ⟨q, hq⟩ : ∃ q, q = (x2.toInt + 2 * x4.toInt).toNat := ⟨_, rfl⟩
  have ean : (x2 + (2 : Int32) * x4).toNatClampNeg = q := by rw [zq_ix, ea, hq]
  have ebn : (x2 + (2 : Int32) * x4 + 1).toNatClampNeg = q + 1 := by rw [zq_ix, eb, hq]; omega
  rw [← hq] at m3 m4 ⊢
  have hq58 : q + 1 < 60 := by omega
  have w3 := (h21 d hd q (by omega)).1
  have w4 := (h21 d hd (q + 1) (by omega)).1
  have j3 := zq_j32 (v := s.2.1 62 (60 * d + q)) ⟨by omega, by omega⟩
  have j4 := zq_j32 (v := s.2.1 62 (60 * d + q + 1)) ⟨by omega, by omega⟩
  have o15 : (zwmx s b).1 1 5 = s.1 1 5 := zwmx_lo (by decide) 5
  have o3 : (zwmx s b).1 (zy_sh d) 3 = s.1 (zy_sh d) 3 := zwmx_lo sd 3
  have ow : ∀ c k, (zwmx s b).2.1 c k = s.2.1 c k := fun c k => rfl
  have hl : zin ((zwmx s b).1 (zy_sh d) 3) 0 60 := by rw [o3]; exact ⟨l0, l1⟩
  unfold zyF22
  simp only [zys15, zys23 _ _ _ (zwmx s b) hl, zys14_0, zys14_1, o15, o3, ow, ea, eb, ean, ebn, w3, w4, ← Nat.add_assoc, j3, j4, zq_bind, zqb_n0, zqb_e0, decide_eq_true_eq, decide_eq_false_iff_not, zq_l2]
  rw [if_neg m1, if_pos ⟨by omega, by omega, by omega, by omega⟩, if_pos (zq_in.mpr ⟨by omega, by omega⟩), if_pos (zq_in.mpr ⟨by omega, by omega⟩), if_neg (not_not_intro m3), if_pos m4, zys16 _ _ (by rw [o15]; exact h1.2) (by rw [o15]; exact m1), zq_bind]
  exact congrArg (fun w => some ((1 : Int32), w)) (zca_mx s b _ _)
theorem zcm_Cn (h : zI s) (hd : d < 6) (ht : (s.1 (zy_sh d) 2).toInt = 1) {x4 : Int32} (h2 : 0 ≤ x2.toInt ∨ x4.toInt = 0) (h4 : 0 ≤ x4.toInt) (h4' : x4.toInt ≤ 8) (hm : ¬ (0 ≤ x2.toInt ∧ zcm s d x2 x4)) (b : zy_S) :
    zyF22 (zy_sh d) (x2 + (2 : Int32) * x4) (zwmx s b) = some (0, zwmx s b) := by
  obtain ⟨hw, hg, h1, h2, h3, h4, h5, h6, h7, h8, h9, h10, h11, h12, h13, h14, h15, h16, h17, h18, h19, h20, h21⟩ := id h
  obtain ⟨-, ⟨l0, l1⟩, -⟩ := h20 d hd
  have sd : zy_sh d < 43 := by unfold zy_sh; omega
  have e2 : ((2 : Int32) * x4).toInt = 2 * x4.toInt := by rw [zq_mul (by rw [zq_l2]; omega) (by rw [zq_l2]; omega), zq_l2]
  have o15 : (zwmx s b).1 1 5 = s.1 1 5 := zwmx_lo (by decide) 5
  have o3 : (zwmx s b).1 (zy_sh d) 3 = s.1 (zy_sh d) 3 := zwmx_lo sd 3
  have ow : ∀ c k, (zwmx s b).2.1 c k = s.2.1 c k := fun c k => rfl
  have hl : zin ((zwmx s b).1 (zy_sh d) 3) 0 60 := by rw [o3]; exact ⟨l0, l1⟩
  unfold zyF22
  simp only [zys15, zys23 _ _ _ (zwmx s b) hl, zys14_0, zys14_1, o15, o3, ow, zq_bind, zqb_n0, zqb_e0, decide_eq_true_eq, decide_eq_false_iff_not, zq_l2]
  by_cases m1 : 8 ≤ (s.1 1 5).toInt
  · rw [if_pos m1]
  rw [if_neg m1]
  by_cases hx : 0 ≤ (x2 + (2 : Int32) * x4).toInt ∧ 0 ≤ (2 : Int) ∧ (x2 + (2 : Int32) * x4).toInt ≤ (s.1 (zy_sh d) 3).toInt ∧ 2 ≤ (s.1 (zy_sh d) 3).toInt - (x2 + (2 : Int32) * x4).toInt
  · rw [if_pos hx]
    obtain ⟨g0, -, g1, g2⟩ := hx
    by_cases hp2 : 0 ≤ x2.toInt
    · by_cases hov : x2.toInt + 2 * x4.toInt ≤ 2147483647
      · have ea : (x2 + (2 : Int32) * x4).toInt = x2.toInt + 2 * x4.toInt := by rw [zq_add (by rw [e2]; omega) (by rw [e2]; omega), e2]
        have eb : (x2 + (2 : Int32) * x4 + 1).toInt = x2.toInt + 2 * x4.toInt + 1 := by rw [zq_add (by rw [ea, zq_l1]; omega) (by rw [ea, zq_l1]; omega), ea, zq_l1]
        obtain ⟨q, hq⟩ : ∃ q, q = (x2.toInt + 2 * x4.toInt).toNat := ⟨_, rfl⟩
        have ean : (x2 + (2 : Int32) * x4).toNatClampNeg = q := by rw [zq_ix, ea, hq]
        have ebn : (x2 + (2 : Int32) * x4 + 1).toNatClampNeg = q + 1 := by rw [zq_ix, eb, hq]; omega
        have w3 := h21 d hd q (by omega)
        have w4 := h21 d hd (q + 1) (by omega)
        have f3 := w3.2.2 ht
        have f4 := w4.2.2 ht
        rw [w3.1] at f3
        rw [w4.1] at f4
        have j3 := zq_j32 f3
        have j4 := zq_j32 f4
        rw [if_pos (zq_in.mpr ⟨by omega, by omega⟩), if_pos (zq_in.mpr ⟨by omega, by omega⟩), ean, ebn, w3.1, w4.1, j3, j4]
        by_cases m3 : 0 ≤ (s.2.1 62 (60 * d + q)).toInt ∧ (s.2.1 62 (60 * d + q)).toInt ≤ 4095
        · rw [if_neg (not_not_intro m3)]
          by_cases m4 : 0 ≤ (s.2.1 62 (60 * d + (q + 1))).toInt ∧ (s.2.1 62 (60 * d + (q + 1))).toInt ≤ 9
          · exfalso
            refine hm ⟨hp2, m1, by omega, ?_, ?_⟩
            · rw [← hq]; exact m3
            · rw [← hq, Nat.add_assoc]; exact m4
          · rw [if_neg m4]
        · rw [if_pos m3]
      · exfalso
        have hx2 := zq_hi x2
        have this : (x2 + (2 : Int32) * x4).toInt = (x2.toInt + 2 * x4.toInt - ((2 ^ 32 : Nat) : Int)).bmod (2 ^ 32) := by rw [Int.sub_bmod_right, Int32.toInt_add, e2]
        rw [Int.bmod_eq_of_le (by omega) (by omega)] at this
        omega
    · exfalso
      have e0 : x4.toInt = 0 := by omega
      have ea : (x2 + (2 : Int32) * x4).toInt = x2.toInt + 2 * x4.toInt := by rw [zq_add (by rw [e2, e0]; have := zq_lo x2; omega) (by rw [e2, e0]; have := zq_hi x2; omega), e2]
      omega
  · rw [if_neg hx]
/-- the model's step -/
theorem zcm_M (h : zI s) (hd : d < 6) (hxd : x1.toInt = (d : Int)) (ht : (s.1 (zy_sh d) 2).toInt = 1) {x4 : Int32} (h2 : 0 ≤ x2.toInt) (h4 : 0 ≤ x4.toInt) (h43 : x4.toInt < x3.toInt) (h3 : x3.toInt ≤ 8) (hm : zcm s d x2 x4) (a : zy_S) (ha : a.2 = s.2) (n : Nat) :
    zyF181_69 (n + 1) x1 x2 x3 x4 1 (zwmx a s) = zyF181_69 n x1 x2 x3 (x4 + 1) 1 (zwmx a (zma s (s.2.1 62 (60 * d + (x2.toInt + 2 * x4.toInt).toNat)).toInt32 (s.2.1 62 (60 * d + (x2.toInt + 2 * x4.toInt).toNat + 1)).toInt32)) := by
  obtain ⟨hw, hg, h1, h2, h3, h4, h5, h6, h7, h8, h9, h10, h11, h12, h13, h14, h15, h16, h17, h18, h19, h20, h21⟩ := id h
  obtain ⟨m1, m2, m3, m4⟩ := hm
  obtain ⟨el, ⟨l0, l1⟩, -⟩ := h20 d hd
  have e2 : ((2 : Int32) * x4).toInt = 2 * x4.toInt := by rw [zq_mul (by rw [zq_l2]; omega) (by rw [zq_l2]; omega), zq_l2]
  have em : ((60 : Int32) * x1).toInt = 60 * (d : Int) := by rw [zq_mul (by rw [zq_l60, hxd]; omega) (by rw [zq_l60, hxd]; omega), zq_l60, hxd]
  have eu : ((60 : Int32) * x1 + x2).toInt = 60 * (d : Int) + x2.toInt := by rw [zq_add (by rw [em]; omega) (by rw [em]; omega), em]
  obtain ⟨q, hq⟩ : ∃ q, q = (x2.toInt + 2 * x4.toInt).toNat := ⟨_, rfl⟩
  have ea : ((60 : Int32) * x1 + x2 + (2 : Int32) * x4).toInt = 60 * (d : Int) + q := by rw [zq_add (by rw [eu, e2]; omega) (by rw [eu, e2]; omega), eu, e2]; omega
  have eb : ((60 : Int32) * x1 + x2 + (2 : Int32) * x4 + 1).toInt = 60 * (d : Int) + q + 1 := by rw [zq_add (by rw [ea, zq_l1]; omega) (by rw [ea, zq_l1]; omega), ea, zq_l1]
  have ean : ((60 : Int32) * x1 + x2 + (2 : Int32) * x4).toNatClampNeg = 60 * d + q := by rw [zq_ix, ea]; omega
  have ebn : ((60 : Int32) * x1 + x2 + (2 : Int32) * x4 + 1).toNatClampNeg = 60 * d + q + 1 := by rw [zq_ix, eb]; omega
  rw [← hq] at m3 m4 ⊢
  have edn : x1.toNatClampNeg = d := by rw [zq_ix]; omega
  have o61 : (zwmx a s).1 61 x1.toNatClampNeg = s.1 (zy_sh d) 3 := by rw [edn, zwmx_hi (by decide)]; exact el.symm
  have o6 : (zwmx a s).1 43 6 = s.1 1 5 := by rw [zwmx_hi (by decide)]; exact h1.1.symm
  have ow : ∀ k, (zwmx a s).2.1 62 k = s.2.1 62 k := fun k => by show a.2.1 62 k = _; rw [ha]
  have eL : (s.1 (zy_sh d) 3 - 2 - (2 : Int32) * x4).toInt = (s.1 (zy_sh d) 3).toInt - 2 - 2 * x4.toInt := by
    have k1 : (s.1 (zy_sh d) 3 - 2).toInt = (s.1 (zy_sh d) 3).toInt - 2 := by rw [zq_sub (by rw [zq_l2]; omega) (by rw [zq_l2]; omega), zq_l2]
    rw [zq_sub (by rw [k1, e2]; omega) (by rw [k1, e2]; omega), k1, e2]
  show zyF181_69b (zyF181_69 n) x1 x2 x3 x4 1 (zwmx a s) = _
  unfold zyF181_69b
  rw [if_neg (by decide), if_neg (by rw [Int32.le_iff_toInt_le]; omega), if_pos (zq_in.mpr ⟨by omega, by omega⟩), o61, o6, if_neg (by rw [Int32.lt_iff_toInt_lt, eL]; omega), if_neg (by rw [Int32.le_iff_toInt_le, zq_l8]; exact m1)]
  unfold zyF181_111
  rw [if_neg (by decide), if_pos (zq_in.mpr ⟨by omega, by omega⟩)]
  simp only [zys179, ean, ebn, ow, zq_bind, zqb_e0, decide_eq_false_iff_not, zq_j0, zq_j9, zq_j4095]
  rw [if_neg (not_not_intro m3), if_pos (zq_in.mpr ⟨by omega, by omega⟩), if_neg (not_not_intro m4)]
  unfold zyF181_172 zyF181_204
  rw [if_neg (by decide), if_pos (zq_in.mpr ⟨by omega, by omega⟩), if_pos (zq_in.mpr ⟨by omega, by omega⟩)]
  simp only [ean, ebn, ow]
  rw [zys180 _ _ (by rw [o6]; exact h1.2), zq_bind]
  exact congrArg (fun w => zyF181_69 n x1 x2 x3 (x4 + 1) 1 w) (zma_mx a s _ _)
theorem zcm_Mn (h : zI s) (hd : d < 6) (hxd : x1.toInt = (d : Int)) (ht : (s.1 (zy_sh d) 2).toInt = 1) {x4 : Int32} (h2 : 0 ≤ x2.toInt) (h4 : 0 ≤ x4.toInt) (h3 : x3.toInt ≤ 8) (hm : ¬ zcm s d x2 x4) (a : zy_S) (ha : a.2 = s.2) (n : Nat) :
    zyF181_69 (n + 2) x1 x2 x3 x4 1 (zwmx a s) = some (x4, zwmx a s) := by
  obtain ⟨hw, hg, h1, h2, h3, h4, h5, h6, h7, h8, h9, h10, h11, h12, h13, h14, h15, h16, h17, h18, h19, h20, h21⟩ := id h
  obtain ⟨el, ⟨l0, l1⟩, -⟩ := h20 d hd
  show zyF181_69b (zyF181_69 (n + 1)) x1 x2 x3 x4 1 (zwmx a s) = _
  unfold zyF181_69b
  rw [if_neg (by decide)]
  by_cases h43 : x3.toInt ≤ x4.toInt
  · rw [if_pos (by rw [Int32.le_iff_toInt_le]; omega)]
  rw [if_neg (by rw [Int32.le_iff_toInt_le]; omega), if_pos (zq_in.mpr ⟨by omega, by omega⟩)]
  have e2 : ((2 : Int32) * x4).toInt = 2 * x4.toInt := by rw [zq_mul (by rw [zq_l2]; omega) (by rw [zq_l2]; omega), zq_l2]
  have edn : x1.toNatClampNeg = d := by rw [zq_ix]; omega
  have o61 : (zwmx a s).1 61 x1.toNatClampNeg = s.1 (zy_sh d) 3 := by rw [edn, zwmx_hi (by decide)]; exact el.symm
  have o6 : (zwmx a s).1 43 6 = s.1 1 5 := by rw [zwmx_hi (by decide)]; exact h1.1.symm
  have ow : ∀ k, (zwmx a s).2.1 62 k = s.2.1 62 k := fun k => by show a.2.1 62 k = _; rw [ha]
  have eL : (s.1 (zy_sh d) 3 - 2 - (2 : Int32) * x4).toInt = (s.1 (zy_sh d) 3).toInt - 2 - 2 * x4.toInt := by
    have k1 : (s.1 (zy_sh d) 3 - 2).toInt = (s.1 (zy_sh d) 3).toInt - 2 := by rw [zq_sub (by rw [zq_l2]; omega) (by rw [zq_l2]; omega), zq_l2]
    rw [zq_sub (by rw [k1, e2]; omega) (by rw [k1, e2]; omega), k1, e2]
  rw [o61, o6]
  by_cases r1 : (s.1 (zy_sh d) 3).toInt - 2 - 2 * x4.toInt < x2.toInt
  · rw [if_pos (by rw [Int32.lt_iff_toInt_lt, eL]; exact r1)]
    exact zl_no n x1 x2 x3 x4 _
  rw [if_neg (by rw [Int32.lt_iff_toInt_lt, eL]; exact r1)]
  by_cases m1 : 8 ≤ (s.1 1 5).toInt
  · rw [if_pos (by rw [Int32.le_iff_toInt_le, zq_l8]; exact m1)]
    exact zl_no n x1 x2 x3 x4 _
  rw [if_neg (by rw [Int32.le_iff_toInt_le, zq_l8]; exact m1)]
  have em : ((60 : Int32) * x1).toInt = 60 * (d : Int) := by rw [zq_mul (by rw [zq_l60, hxd]; omega) (by rw [zq_l60, hxd]; omega), zq_l60, hxd]
  have eu : ((60 : Int32) * x1 + x2).toInt = 60 * (d : Int) + x2.toInt := by rw [zq_add (by rw [em]; omega) (by rw [em]; omega), em]
  obtain ⟨q, hq⟩ : ∃ q, q = (x2.toInt + 2 * x4.toInt).toNat := ⟨_, rfl⟩
  have ea : ((60 : Int32) * x1 + x2 + (2 : Int32) * x4).toInt = 60 * (d : Int) + q := by rw [zq_add (by rw [eu, e2]; omega) (by rw [eu, e2]; omega), eu, e2]; omega
  have eb : ((60 : Int32) * x1 + x2 + (2 : Int32) * x4 + 1).toInt = 60 * (d : Int) + q + 1 := by rw [zq_add (by rw [ea, zq_l1]; omega) (by rw [ea, zq_l1]; omega), ea, zq_l1]
  have ean : ((60 : Int32) * x1 + x2 + (2 : Int32) * x4).toNatClampNeg = 60 * d + q := by rw [zq_ix, ea]; omega
  have ebn : ((60 : Int32) * x1 + x2 + (2 : Int32) * x4 + 1).toNatClampNeg = 60 * d + q + 1 := by rw [zq_ix, eb]; omega
  have no : ∀ y, zyF181_171 (zyF181_69 (n + 1)) x1 x2 x3 x4 y (zwmx a s) = some (x4, zwmx a s) := by
    intro y
    unfold zyF181_171 zyF181_172
    rw [if_pos rfl]
    unfold zyF181_204
    show zyF181_69b (zyF181_69 n) x1 x2 x3 x4 0 _ = _
    unfold zyF181_69b
    rw [if_pos rfl]
  unfold zyF181_111
  rw [if_neg (by decide), if_pos (zq_in.mpr ⟨by omega, by omega⟩)]
  simp only [zys179, ean, ebn, ow, no, zq_bind, zqb_e0, decide_eq_false_iff_not, zq_j0, zq_j9, zq_j4095]
  by_cases m3 : 0 ≤ (s.2.1 62 (60 * d + q)).toInt ∧ (s.2.1 62 (60 * d + q)).toInt ≤ 4095
  · rw [if_neg (not_not_intro m3), if_pos (zq_in.mpr ⟨by omega, by omega⟩)]
    by_cases m4 : 0 ≤ (s.2.1 62 (60 * d + q + 1)).toInt ∧ (s.2.1 62 (60 * d + q + 1)).toInt ≤ 9
    · exfalso
      refine hm ⟨m1, by omega, ?_, ?_⟩
      · rw [← hq]; exact m3
      · rw [← hq]; exact m4
    · rw [if_pos m4]
  · rw [if_pos m3]
end ZP
/-- the two loops -/
theorem zl_people {d : Nat} {x1 x2 x3 : Int32} (hd : d < 6) (hxd : x1.toInt = (d : Int)) (h2 : 0 ≤ x2.toInt) (h3 : x3.toInt ≤ 8) : ∀ (n k : Nat) (x4 : Int32) (s : zy_S), zI s → (s.1 (zy_sh d) 2).toInt = 1 → k + n = 9 → x4.toInt = (k : Int) → x4.toInt ≤ x3.toInt →
    ∃ r t, zI t ∧ t.2 = s.2 ∧ (∀ b : zy_S, zyF17_53 (zy_fu - k) x2 x3 (zy_sh d) x4 (zwmx s b) = some (r, zwmx t b)) ∧ (∀ a : zy_S, a.2 = s.2 → zyF181_69 (zy_fu - k) x1 x2 x3 x4 1 (zwmx a s) = some (r, zwmx a t))
  | 0, k, x4, s, h, ht, hk, e4, h43 => by omega
  | n + 1, k, x4, s, h, ht, hk, e4, h43 => by
    obtain ⟨m, hm⟩ : ∃ m, zy_fu - k = m + 2 := ⟨zy_fu - k - 2, by unfold zy_fu; omega⟩
    have hm' : zy_fu - (k + 1) = m + 1 := by omega
    have no : (∀ b : zy_S, zyF22 (zy_sh d) (x2 + (2 : Int32) * x4) (zwmx s b) = some (0, zwmx s b)) ∨ x3.toInt ≤ x4.toInt → ∀ b : zy_S, zyF17_53 (zy_fu - k) x2 x3 (zy_sh d) x4 (zwmx s b) = some (x4, zwmx s b) := by
      intro hh b
      rw [hm]
      show zyF17_53b (zyF17_53 (m + 1)) x2 x3 (zy_sh d) x4 (zwmx s b) = _
      unfold zyF17_53b
      by_cases g : x3.toInt ≤ x4.toInt
      · rw [if_pos (by rw [Int32.le_iff_toInt_le]; exact g)]
      · rcases hh with hh | hh
        · rw [if_neg (by rw [Int32.le_iff_toInt_le]; exact g), hh b, zq_bind, if_pos rfl]
        · exact absurd hh g
    by_cases hc : zcm s d x2 x4
    · by_cases g : x3.toInt ≤ x4.toInt
      · refine ⟨x4, s, h, rfl, no (Or.inr g), fun a ha => ?_⟩
        rw [hm]
        show zyF181_69b (zyF181_69 (m + 1)) x1 x2 x3 x4 1 (zwmx a s) = _
        unfold zyF181_69b
        rw [if_neg (by decide), if_pos (by rw [Int32.le_iff_toInt_le]; exact g)]
      · have h1 : zR1 s := h.2.2.1
        obtain ⟨m1, m2, m3, m4⟩ := id hc
        have e4' : (x4 + 1).toInt = ((k + 1 : Nat) : Int) := by rw [zq_add (by rw [zq_l1]; omega) (by rw [zq_l1]; omega), zq_l1]; omega
        obtain ⟨x, hx⟩ : ∃ x, x = (s.2.1 62 (60 * d + (x2.toInt + 2 * x4.toInt).toNat)).toInt32 := ⟨_, rfl⟩
        obtain ⟨y, hy⟩ : ∃ y, y = (s.2.1 62 (60 * d + (x2.toInt + 2 * x4.toInt).toNat + 1)).toInt32 := ⟨_, rfl⟩
        have hI := zca_I h (x := x) (y := y) (by rw [hx, zq_j32 (by omega)]; exact m3) (show zin y 0 9 by rw [hy]; unfold zin; rw [zq_j32 (by omega)]; exact m4) m1
        have sd : zy_sh d < 43 := by unfold zy_sh; omega
        have oT : ∀ j, (zma (zca s x y) x y).1 (zy_sh d) j = s.1 (zy_sh d) j := fun j => by
          unfold zma zca
          rw [zf_sh (by decide) hd, zf_sh (by decide) hd, zf_sh (by decide) hd, zf_sh (by decide) hd, zf_sh (by decide) hd, zf_sh (by decide) hd]
        obtain ⟨r, t, q1, q2, q3, q4⟩ := zl_people hd hxd h2 h3 n (k + 1) (x4 + 1) (zma (zca s x y) x y) hI (by rw [oT]; exact ht) (by omega) e4' (by omega)
        refine ⟨r, t, q1, q2, fun b => ?_, fun a ha => ?_⟩
        · rw [hm]
          show zyF17_53b (zyF17_53 (m + 1)) x2 x3 (zy_sh d) x4 (zwmx s b) = _
          unfold zyF17_53b
          rw [if_neg (by rw [Int32.le_iff_toInt_le]; exact g), zcm_C h hd ht h2 (by omega) (by omega) hc b, zq_bind, if_neg (show ¬ ((1 : Int32) = 0) by decide), ← hx, ← hy, ← hm']
          have := q3 b
          have e : zwmx (zma (zca s x y) x y) b = zwmx (zca s x y) b := Prod.ext (funext fun p => funext fun q => by
            show (zwmx (zma (zca s x y) x y) b).1 p q = (zwmx (zca s x y) b).1 p q
            by_cases hp : p < 43
            · rw [zwmx_lo hp, zwmx_lo hp]
              unfold zma
              rw [zf_up (by omega), zf_up (by omega), zf_up (by omega)]
            · rw [zwmx_hi hp, zwmx_hi hp]) rfl
          rw [e] at this
          exact this
        · rw [hm, zcm_M h hd hxd ht h2 (by omega) (by omega) h3 hc a ha, ← hx, ← hy, ← hm']
          have := q4 a ha
          have e : zwmx a (zma (zca s x y) x y) = zwmx a (zma s x y) := Prod.ext (funext fun p => funext fun q => by
            show (zwmx a (zma (zca s x y) x y)).1 p q = (zwmx a (zma s x y)).1 p q
            by_cases hp : p < 43
            · rw [zwmx_lo hp, zwmx_lo hp]
            · rw [zwmx_hi hp, zwmx_hi hp]
              have o : (zca s x y).1 43 6 = s.1 43 6 := rfl
              unfold zma
              rw [o, zy_up_at, zy_up_at, zy_up_at, zy_up_at, zy_up_at, zy_up_at]
              have o2 : (zca s x y).1 p q = s.1 p q := by
                unfold zca
                rw [zf_up (by omega), zf_up (by omega), zf_up (by omega)]
              rw [o2]) rfl
          rw [e] at this
          exact this
    · refine ⟨x4, s, h, rfl, no (Or.inl (fun b => zcm_Cn h hd ht (Or.inl h2) (by omega) (by omega) (fun w => hc w.2) b)), fun a ha => ?_⟩
      rw [hm]
      exact zcm_Mn h hd hxd ht h2 (by omega) h3 hc a ha m
theorem zop_people (x1 x2 x3 : Int32) {s : zy_S} (h : zI s) : ∃ r s1 s2, zyF17 x1 x2 x3 s = some (r, s1) ∧ zyF181 x1 x2 x3 s1 = some (r, s2) ∧ zI s2 := by
  obtain ⟨hw, hg, h1, h2, h3, h4, h5, h6, h7, h8, h9, h10, h11, h12, h13, h14, h15, h16, h17, h18, h19, h20, h21⟩ := id h
  by_cases hx : 0 ≤ x1.toInt ∧ x1.toInt ≤ 5
  · obtain ⟨hin, hdl, hxd⟩ := zx6 hx
    obtain ⟨d, hd⟩ : ∃ d, d = x1.toNatClampNeg := ⟨_, rfl⟩
    rw [← hd] at hdl hxd
    by_cases hn : 1 ≤ x3.toInt ∧ x3.toInt ≤ 8
    · obtain ⟨el, hl, a2⟩ := h20 d hdl
      have q1 : ((s.1 (zy_sh d) 1).toInt = -1 ∧ (s.1 (zy_sh d) 2).toInt = -1 ∧ (s.1 60 d).toInt = -1) ∨ (0 ≤ (s.1 (zy_sh d) 1).toInt ∧ (s.1 (zy_sh d) 2).toInt = -1 ∧ 0 ≤ (s.1 60 d).toInt ∧ (s.1 60 d).toInt < 50) ∨ (0 ≤ (s.1 (zy_sh d) 2).toInt ∧ (s.1 60 d).toInt = 50 + (s.1 (zy_sh d) 2).toInt) := by
        obtain ⟨-, nb0, nb1⟩ := h14
        rcases a2 with ⟨t, hb, b0, b1, hn0⟩ | ⟨⟨t0, t1⟩, b, hh⟩
        · rw [← hb]; omega
        · omega
      have n0 : ∀ t : zy_S, zyF181_66 x1 x2 x3 0 t = some (0, t) := by
        intro t
        unfold zyF181_66 zyF181_67
        show zyF181_69b (zyF181_69 (zy_fu - 1)) x1 x2 x3 0 0 t = _
        unfold zyF181_69b
        rw [if_pos rfl]
      by_cases hb : (s.1 60 d).toInt < 0
      · refine ⟨0, s, s, ?_, ?_, h⟩
        · unfold zyF17
          simp only [zys18, zys19, zys21, ← hd, true_and, and_true, zqb_t0, Classical.not_not, Bool.not_eq_false, zq_bind, zqb_n0, zqb_e0, decide_eq_true_eq, decide_eq_false_iff_not, ne_eq, zq_eq, Int32.toInt_toInt64, Int32.lt_iff_toInt_lt, Int32.le_iff_toInt_le, zq_l0, zq_lm1, zq_l1, zq_l2, zq_l3, zq_l4, zq_l5, zq_l6, zq_l7, zq_l8, zq_l9, zq_l12, zq_l16, zq_l23, zq_l24, zq_l40, zq_l39, zq_l50, zq_l51, zq_l60, zq_l120, zq_l128, zq_l255, zq_l4095, zq_l4096, zq_j0, zq_j1, zq_j4, zq_j5, zq_j7, zq_j8, zq_j9, zq_j23, zq_j255, zq_j4095]
          rw [if_neg (not_not_intro hx), if_neg (by omega), if_pos hn.2, if_pos hin, if_pos hw, if_neg (by omega)]
        · unfold zyF181
          simp only [zys182, zys179, ← hd, n0, true_and, and_true, zqb_t0, Classical.not_not, Bool.not_eq_false, zq_bind, zqb_n0, zqb_e0, decide_eq_true_eq, decide_eq_false_iff_not, ne_eq, zq_eq, Int32.toInt_toInt64, Int32.lt_iff_toInt_lt, Int32.le_iff_toInt_le, zq_l0, zq_lm1, zq_l1, zq_l2, zq_l3, zq_l4, zq_l5, zq_l6, zq_l7, zq_l8, zq_l9, zq_l12, zq_l16, zq_l23, zq_l24, zq_l40, zq_l39, zq_l50, zq_l51, zq_l60, zq_l120, zq_l128, zq_l255, zq_l4095, zq_l4096, zq_j0, zq_j1, zq_j4, zq_j5, zq_j7, zq_j8, zq_j9, zq_j23, zq_j255, zq_j4095]
          rw [if_neg (not_not_intro hx), if_pos hn, if_pos hin, if_pos hb]
          unfold zyF181_44
          rw [if_pos hin, ← hd, if_pos (fun w => absurd (congrArg Int32.toInt w) (by rw [zq_l51]; omega)), n0]
      by_cases ht : (s.1 (zy_sh d) 2).toInt = 1
      · by_cases h2 : 0 ≤ x2.toInt
        · obtain ⟨r, t, c1, c2, c3, c4⟩ := zl_people hdl hxd h2 hn.2 9 0 0 s h ht rfl rfl (by rw [zq_l0]; omega)
          have c3 := c3 s
          have c4 := c4 t c2
          rw [zwmx_self] at c3 c4
          refine ⟨r, zwmx t s, t, ?_, ?_, c1⟩
          · unfold zyF17
            simp only [zys18, zys19, zys21, ← hd, true_and, and_true, zqb_t0, Classical.not_not, Bool.not_eq_false, zq_bind, zqb_n0, zqb_e0, decide_eq_true_eq, decide_eq_false_iff_not, ne_eq, zq_eq, Int32.toInt_toInt64, Int32.lt_iff_toInt_lt, Int32.le_iff_toInt_le, zq_l0, zq_lm1, zq_l1, zq_l2, zq_l3, zq_l4, zq_l5, zq_l6, zq_l7, zq_l8, zq_l9, zq_l12, zq_l16, zq_l23, zq_l24, zq_l40, zq_l39, zq_l50, zq_l51, zq_l60, zq_l120, zq_l128, zq_l255, zq_l4095, zq_l4096, zq_j0, zq_j1, zq_j4, zq_j5, zq_j7, zq_j8, zq_j9, zq_j23, zq_j255, zq_j4095]
            rw [if_neg (not_not_intro hx), if_neg (by omega), if_pos hn.2, if_pos hin, if_pos hw, if_pos (by omega), if_pos (by omega)]
            exact c3
          · have o60 : (zwmx t s).1 60 d = s.1 60 d := zwmx_hi (by decide) d
            unfold zyF181
            simp only [zys182, zys179, ← hd, o60, true_and, and_true, zqb_t0, Classical.not_not, Bool.not_eq_false, zq_bind, zqb_n0, zqb_e0, decide_eq_true_eq, decide_eq_false_iff_not, ne_eq, zq_eq, Int32.toInt_toInt64, Int32.lt_iff_toInt_lt, Int32.le_iff_toInt_le, zq_l0, zq_lm1, zq_l1, zq_l2, zq_l3, zq_l4, zq_l5, zq_l6, zq_l7, zq_l8, zq_l9, zq_l12, zq_l16, zq_l23, zq_l24, zq_l40, zq_l39, zq_l50, zq_l51, zq_l60, zq_l120, zq_l128, zq_l255, zq_l4095, zq_l4096, zq_j0, zq_j1, zq_j4, zq_j5, zq_j7, zq_j8, zq_j9, zq_j23, zq_j255, zq_j4095]
            rw [if_neg (not_not_intro hx), if_pos hn, if_pos hin, if_neg hb, if_pos hin, if_pos (by omega)]
            unfold zyF181_44
            rw [if_pos hin, ← hd, o60, if_neg (fun w => w (zq_ext (by rw [zq_l51]; omega))), if_neg (by rw [Int32.lt_iff_toInt_lt, zq_l0]; omega)]
            exact c4
        · have k : zyF22 (zy_sh d) (x2 + (2 : Int32) * 0) s = some (0, s) := by
            have := zcm_Cn h hdl ht (x2 := x2) (x4 := 0) (Or.inr rfl) (by decide) (by decide) (fun w => h2 w.1) s
            rw [zwmx_self] at this
            exact this
          refine ⟨0, s, s, ?_, ?_, h⟩
          · unfold zyF17
            simp only [zys18, zys19, zys21, ← hd, true_and, and_true, zqb_t0, Classical.not_not, Bool.not_eq_false, zq_bind, zqb_n0, zqb_e0, decide_eq_true_eq, decide_eq_false_iff_not, ne_eq, zq_eq, Int32.toInt_toInt64, Int32.lt_iff_toInt_lt, Int32.le_iff_toInt_le, zq_l0, zq_lm1, zq_l1, zq_l2, zq_l3, zq_l4, zq_l5, zq_l6, zq_l7, zq_l8, zq_l9, zq_l12, zq_l16, zq_l23, zq_l24, zq_l40, zq_l39, zq_l50, zq_l51, zq_l60, zq_l120, zq_l128, zq_l255, zq_l4095, zq_l4096, zq_j0, zq_j1, zq_j4, zq_j5, zq_j7, zq_j8, zq_j9, zq_j23, zq_j255, zq_j4095]
            rw [if_neg (not_not_intro hx), if_neg (by omega), if_pos hn.2, if_pos hin, if_pos hw, if_pos (by omega), if_pos (by omega)]
            show zyF17_53b (zyF17_53 (zy_fu - 1)) x2 x3 (zy_sh d) 0 s = _
            unfold zyF17_53b
            rw [if_neg (by rw [Int32.le_iff_toInt_le, zq_l0]; omega), k, zq_bind, if_pos rfl]
          · unfold zyF181
            simp only [zys182, zys179, ← hd, n0, true_and, and_true, zqb_t0, Classical.not_not, Bool.not_eq_false, zq_bind, zqb_n0, zqb_e0, decide_eq_true_eq, decide_eq_false_iff_not, ne_eq, zq_eq, Int32.toInt_toInt64, Int32.lt_iff_toInt_lt, Int32.le_iff_toInt_le, zq_l0, zq_lm1, zq_l1, zq_l2, zq_l3, zq_l4, zq_l5, zq_l6, zq_l7, zq_l8, zq_l9, zq_l12, zq_l16, zq_l23, zq_l24, zq_l40, zq_l39, zq_l50, zq_l51, zq_l60, zq_l120, zq_l128, zq_l255, zq_l4095, zq_l4096, zq_j0, zq_j1, zq_j4, zq_j5, zq_j7, zq_j8, zq_j9, zq_j23, zq_j255, zq_j4095]
            rw [if_neg (not_not_intro hx), if_pos hn, if_pos hin, if_neg hb, if_pos hin, if_pos (by omega)]
            unfold zyF181_44
            rw [if_pos hin, ← hd, if_neg (fun w => w (zq_ext (by rw [zq_l51]; omega))), if_pos (by rw [Int32.lt_iff_toInt_lt, zq_l0]; omega), n0]
      · refine ⟨-12, s, s, ?_, ?_, h⟩
        · unfold zyF17
          simp only [zys18, zys19, zys21, ← hd, true_and, and_true, zqb_t0, Classical.not_not, Bool.not_eq_false, zq_bind, zqb_n0, zqb_e0, decide_eq_true_eq, decide_eq_false_iff_not, ne_eq, zq_eq, Int32.toInt_toInt64, Int32.lt_iff_toInt_lt, Int32.le_iff_toInt_le, zq_l0, zq_lm1, zq_l1, zq_l2, zq_l3, zq_l4, zq_l5, zq_l6, zq_l7, zq_l8, zq_l9, zq_l12, zq_l16, zq_l23, zq_l24, zq_l40, zq_l39, zq_l50, zq_l51, zq_l60, zq_l120, zq_l128, zq_l255, zq_l4095, zq_l4096, zq_j0, zq_j1, zq_j4, zq_j5, zq_j7, zq_j8, zq_j9, zq_j23, zq_j255, zq_j4095]
          rw [if_neg (not_not_intro hx), if_neg (by omega), if_pos hn.2, if_pos hin, if_pos hw, if_pos (by omega), if_neg (by omega)]
        · unfold zyF181
          simp only [zys182, zys179, ← hd, true_and, and_true, zqb_t0, Classical.not_not, Bool.not_eq_false, zq_bind, zqb_n0, zqb_e0, decide_eq_true_eq, decide_eq_false_iff_not, ne_eq, zq_eq, Int32.toInt_toInt64, Int32.lt_iff_toInt_lt, Int32.le_iff_toInt_le, zq_l0, zq_lm1, zq_l1, zq_l2, zq_l3, zq_l4, zq_l5, zq_l6, zq_l7, zq_l8, zq_l9, zq_l12, zq_l16, zq_l23, zq_l24, zq_l40, zq_l39, zq_l50, zq_l51, zq_l60, zq_l120, zq_l128, zq_l255, zq_l4095, zq_l4096, zq_j0, zq_j1, zq_j4, zq_j5, zq_j7, zq_j8, zq_j9, zq_j23, zq_j255, zq_j4095]
          rw [if_neg (not_not_intro hx), if_pos hn, if_pos hin, if_neg hb, if_pos hin, if_neg (by omega)]
    · refine ⟨-1, s, s, ?_, ?_, h⟩
      · unfold zyF17
        simp only [zys18, true_and, and_true, zqb_t0, Classical.not_not, Bool.not_eq_false, zq_bind, zqb_n0, zqb_e0, decide_eq_true_eq, decide_eq_false_iff_not, ne_eq, zq_eq, Int32.toInt_toInt64, Int32.lt_iff_toInt_lt, Int32.le_iff_toInt_le, zq_l0, zq_lm1, zq_l1, zq_l2, zq_l3, zq_l4, zq_l5, zq_l6, zq_l7, zq_l8, zq_l9, zq_l12, zq_l16, zq_l23, zq_l24, zq_l40, zq_l39, zq_l50, zq_l51, zq_l60, zq_l120, zq_l128, zq_l255, zq_l4095, zq_l4096, zq_j0, zq_j1, zq_j4, zq_j5, zq_j7, zq_j8, zq_j9, zq_j23, zq_j255, zq_j4095]
        rw [if_neg (not_not_intro hx)]
        by_cases g : x3.toInt < 1
        · rw [if_pos g]
        · rw [if_neg g, if_neg (by omega)]
      · unfold zyF181
        simp only [zys182, zys179, true_and, and_true, zqb_t0, Classical.not_not, Bool.not_eq_false, zq_bind, zqb_n0, zqb_e0, decide_eq_true_eq, decide_eq_false_iff_not, ne_eq, zq_eq, Int32.toInt_toInt64, Int32.lt_iff_toInt_lt, Int32.le_iff_toInt_le, zq_l0, zq_lm1, zq_l1, zq_l2, zq_l3, zq_l4, zq_l5, zq_l6, zq_l7, zq_l8, zq_l9, zq_l12, zq_l16, zq_l23, zq_l24, zq_l40, zq_l39, zq_l50, zq_l51, zq_l60, zq_l120, zq_l128, zq_l255, zq_l4095, zq_l4096, zq_j0, zq_j1, zq_j4, zq_j5, zq_j7, zq_j8, zq_j9, zq_j23, zq_j255, zq_j4095]
        rw [if_neg (not_not_intro hx), if_neg hn]
  · refine ⟨-1, s, s, ?_, ?_, h⟩
    · unfold zyF17
      simp only [zys18, true_and, and_true, zqb_t0, Classical.not_not, Bool.not_eq_false, zq_bind, zqb_n0, zqb_e0, decide_eq_true_eq, decide_eq_false_iff_not, ne_eq, zq_eq, Int32.toInt_toInt64, Int32.lt_iff_toInt_lt, Int32.le_iff_toInt_le, zq_l0, zq_lm1, zq_l1, zq_l2, zq_l3, zq_l4, zq_l5, zq_l6, zq_l7, zq_l8, zq_l9, zq_l12, zq_l16, zq_l23, zq_l24, zq_l40, zq_l39, zq_l50, zq_l51, zq_l60, zq_l120, zq_l128, zq_l255, zq_l4095, zq_l4096, zq_j0, zq_j1, zq_j4, zq_j5, zq_j7, zq_j8, zq_j9, zq_j23, zq_j255, zq_j4095]
      rw [if_pos hx]
    · unfold zyF181
      simp only [zys182, true_and, and_true, zqb_t0, Classical.not_not, Bool.not_eq_false, zq_bind, zqb_n0, zqb_e0, decide_eq_true_eq, decide_eq_false_iff_not, ne_eq, zq_eq, Int32.toInt_toInt64, Int32.lt_iff_toInt_lt, Int32.le_iff_toInt_le, zq_l0, zq_lm1, zq_l1, zq_l2, zq_l3, zq_l4, zq_l5, zq_l6, zq_l7, zq_l8, zq_l9, zq_l12, zq_l16, zq_l23, zq_l24, zq_l40, zq_l39, zq_l50, zq_l51, zq_l60, zq_l120, zq_l128, zq_l255, zq_l4095, zq_l4096, zq_j0, zq_j1, zq_j4, zq_j5, zq_j7, zq_j8, zq_j9, zq_j23, zq_j255, zq_j4095]
      rw [if_pos hx]
