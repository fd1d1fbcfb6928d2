/-! PARTS 48.0.queries to 48.3.law -/
section
/-! PART 48.0: the law: its places, its calls of queries. Made by wip/v4/gen_law.py. -/
theorem zl_in {X : zx_X} {i c : Int32} (hX : X.1 ≤ 3072) (i0 : 0 ≤ i.toInt) (i6 : i.toInt + 6 ≤ X.1) (h0 : 0 ≤ c.toInt) (h5 : c.toInt ≤ 5) : zy_in (i + c) X.1 = true := zq_in.mpr (by rw [zq_add (by omega) (by omega)]; omega)
def zlP : Option Value → zy_S → Prop := fun u _ => u = some (.int 1)
end
section
/-! PART 48.20: cases of the law. Made by wip/v4/gen_law.py. -/
theorem zlc_0 {X : zx_X} {i : Int32} {s : zy_S} {P : Option Value → zy_S → Prop} (hX : X.1 ≤ 3072) (i0 : 0 ≤ i.toInt) (i6 : i.toInt + 6 ≤ X.1) (h : zI s) (k : ∀ t, zI t → zyR X 2000 0 1435 [some (.ref 2), some (.ref (0 + 3)), some (.ref (43 + 3)), some (.int i)] [] t P) : zyR X 2000 0 212 [some (.ref 2), some (.ref (0 + 3)), some (.ref (43 + 3)), some (.int i)] [] s P := by
  obtain ⟨r, s1, s2, f1, f2, hI⟩ := zop_person ((X.2 (i + (1 : Int32)).toNatClampNeg)) h
  refine zy_0 rfl rfl (show zyR _ _ _ _ [some (.ref 2), some (.ref (0 + 3)), some (.ref (43 + 3)), some (.int i)] [.ref (0 + 3)] _ _ from ?_)
  refine zy_0 rfl rfl (show zyR _ _ _ _ [some (.ref 2), some (.ref (0 + 3)), some (.ref (43 + 3)), some (.int i)] [.ref 2, .ref (0 + 3)] _ _ from ?_)
  refine zy_2 rfl rfl (show zyR _ _ _ _ [some (.ref 2), some (.ref (0 + 3)), some (.ref (43 + 3)), some (.int i)] [.int i, .ref 2, .ref (0 + 3)] _ _ from ?_)
  refine zy_3 rfl rfl (show zyR _ _ _ _ [some (.ref 2), some (.ref (0 + 3)), some (.ref (43 + 3)), some (.int i)] [.int (1 : Int32), .int i, .ref 2, .ref (0 + 3)] _ _ from ?_)
  refine zy_10 rfl (show zyR _ _ _ _ [some (.ref 2), some (.ref (0 + 3)), some (.ref (43 + 3)), some (.int i)] [.int (i + (1 : Int32)), .ref 2, .ref (0 + 3)] _ _ from ?_)
  refine zy_26s rfl (zl_in hX i0 i6 (by decide) (by decide)) (show zyR _ _ _ _ [some (.ref 2), some (.ref (0 + 3)), some (.ref (43 + 3)), some (.int i)] [.int (X.2 (i + (1 : Int32)).toNatClampNeg), .ref (0 + 3)] _ _ from ?_)
  refine zy_5 (c := 0) (as := [.int (X.2 (i + (1 : Int32)).toNatClampNeg)]) (rest := []) (L := [some (.ref (0 + 3)), some (.int (X.2 (i + (1 : Int32)).toNatClampNeg))]) (d' := 2) rfl rfl rfl (Nat.le_of_ble_eq_true rfl) (Nat.le_of_ble_eq_true rfl) rfl (Nat.le_of_ble_eq_true rfl) rfl rfl (zyC13 f1) ?_
  show zyR _ _ _ _ [some (.ref 2), some (.ref (0 + 3)), some (.ref (43 + 3)), some (.int i)] [.int r] _ _
  refine zy_34 rfl rfl (show zyR _ _ _ _ [some (.ref 2), some (.ref (0 + 3)), some (.ref (43 + 3)), some (.int i)] [] _ _ from ?_)
  refine zy_0 rfl rfl (show zyR _ _ _ _ [some (.ref 2), some (.ref (0 + 3)), some (.ref (43 + 3)), some (.int i)] [.ref (43 + 3)] _ _ from ?_)
  refine zy_0 rfl rfl (show zyR _ _ _ _ [some (.ref 2), some (.ref (0 + 3)), some (.ref (43 + 3)), some (.int i)] [.ref 2, .ref (43 + 3)] _ _ from ?_)
  refine zy_2 rfl rfl (show zyR _ _ _ _ [some (.ref 2), some (.ref (0 + 3)), some (.ref (43 + 3)), some (.int i)] [.int i, .ref 2, .ref (43 + 3)] _ _ from ?_)
  refine zy_3 rfl rfl (show zyR _ _ _ _ [some (.ref 2), some (.ref (0 + 3)), some (.ref (43 + 3)), some (.int i)] [.int (1 : Int32), .int i, .ref 2, .ref (43 + 3)] _ _ from ?_)
  refine zy_10 rfl (show zyR _ _ _ _ [some (.ref 2), some (.ref (0 + 3)), some (.ref (43 + 3)), some (.int i)] [.int (i + (1 : Int32)), .ref 2, .ref (43 + 3)] _ _ from ?_)
  refine zy_26s rfl (zl_in hX i0 i6 (by decide) (by decide)) (show zyR _ _ _ _ [some (.ref 2), some (.ref (0 + 3)), some (.ref (43 + 3)), some (.int i)] [.int (X.2 (i + (1 : Int32)).toNatClampNeg), .ref (43 + 3)] _ _ from ?_)
  refine zy_5 (c := 43) (as := [.int (X.2 (i + (1 : Int32)).toNatClampNeg)]) (rest := []) (L := [some (.ref (43 + 3)), some (.int (X.2 (i + (1 : Int32)).toNatClampNeg))]) (d' := 2) rfl rfl rfl (Nat.le_of_ble_eq_true rfl) (Nat.le_of_ble_eq_true rfl) rfl (Nat.le_of_ble_eq_true rfl) rfl rfl (zyC178 f2) ?_
  show zyR _ _ _ _ [some (.ref 2), some (.ref (0 + 3)), some (.ref (43 + 3)), some (.int i)] [.int r] _ _
  refine zy_34 rfl rfl (show zyR _ _ _ _ [some (.ref 2), some (.ref (0 + 3)), some (.ref (43 + 3)), some (.int i)] [] _ _ from ?_)
  exact zy_6 rfl (k _ hI)
theorem zlc_1 {X : zx_X} {i : Int32} {s : zy_S} {P : Option Value → zy_S → Prop} (hX : X.1 ≤ 3072) (i0 : 0 ≤ i.toInt) (i6 : i.toInt + 6 ≤ X.1) (h : zI s) (k : ∀ t, zI t → zyR X 2000 0 1435 [some (.ref 2), some (.ref (0 + 3)), some (.ref (43 + 3)), some (.int i)] [] t P) : zyR X 2000 0 235 [some (.ref 2), some (.ref (0 + 3)), some (.ref (43 + 3)), some (.int i)] [] s P := by
  obtain ⟨r, s1, s2, f1, f2, hI⟩ := zop_people ((X.2 (i + (1 : Int32)).toNatClampNeg)) ((X.2 (i + (2 : Int32)).toNatClampNeg)) ((X.2 (i + (3 : Int32)).toNatClampNeg)) h
  refine zy_0 rfl rfl (show zyR _ _ _ _ [some (.ref 2), some (.ref (0 + 3)), some (.ref (43 + 3)), some (.int i)] [.ref (0 + 3)] _ _ from ?_)
  refine zy_0 rfl rfl (show zyR _ _ _ _ [some (.ref 2), some (.ref (0 + 3)), some (.ref (43 + 3)), some (.int i)] [.ref 2, .ref (0 + 3)] _ _ from ?_)
  refine zy_2 rfl rfl (show zyR _ _ _ _ [some (.ref 2), some (.ref (0 + 3)), some (.ref (43 + 3)), some (.int i)] [.int i, .ref 2, .ref (0 + 3)] _ _ from ?_)
  refine zy_3 rfl rfl (show zyR _ _ _ _ [some (.ref 2), some (.ref (0 + 3)), some (.ref (43 + 3)), some (.int i)] [.int (1 : Int32), .int i, .ref 2, .ref (0 + 3)] _ _ from ?_)
  refine zy_10 rfl (show zyR _ _ _ _ [some (.ref 2), some (.ref (0 + 3)), some (.ref (43 + 3)), some (.int i)] [.int (i + (1 : Int32)), .ref 2, .ref (0 + 3)] _ _ from ?_)
  refine zy_26s rfl (zl_in hX i0 i6 (by decide) (by decide)) (show zyR _ _ _ _ [some (.ref 2), some (.ref (0 + 3)), some (.ref (43 + 3)), some (.int i)] [.int (X.2 (i + (1 : Int32)).toNatClampNeg), .ref (0 + 3)] _ _ from ?_)
  refine zy_0 rfl rfl (show zyR _ _ _ _ [some (.ref 2), some (.ref (0 + 3)), some (.ref (43 + 3)), some (.int i)] [.ref 2, .int (X.2 (i + (1 : Int32)).toNatClampNeg), .ref (0 + 3)] _ _ from ?_)
  refine zy_2 rfl rfl (show zyR _ _ _ _ [some (.ref 2), some (.ref (0 + 3)), some (.ref (43 + 3)), some (.int i)] [.int i, .ref 2, .int (X.2 (i + (1 : Int32)).toNatClampNeg), .ref (0 + 3)] _ _ from ?_)
  refine zy_3 rfl rfl (show zyR _ _ _ _ [some (.ref 2), some (.ref (0 + 3)), some (.ref (43 + 3)), some (.int i)] [.int (2 : Int32), .int i, .ref 2, .int (X.2 (i + (1 : Int32)).toNatClampNeg), .ref (0 + 3)] _ _ from ?_)
  refine zy_10 rfl (show zyR _ _ _ _ [some (.ref 2), some (.ref (0 + 3)), some (.ref (43 + 3)), some (.int i)] [.int (i + (2 : Int32)), .ref 2, .int (X.2 (i + (1 : Int32)).toNatClampNeg), .ref (0 + 3)] _ _ from ?_)
  refine zy_26s rfl (zl_in hX i0 i6 (by decide) (by decide)) (show zyR _ _ _ _ [some (.ref 2), some (.ref (0 + 3)), some (.ref (43 + 3)), some (.int i)] [.int (X.2 (i + (2 : Int32)).toNatClampNeg), .int (X.2 (i + (1 : Int32)).toNatClampNeg), .ref (0 + 3)] _ _ from ?_)
  refine zy_0 rfl rfl (show zyR _ _ _ _ [some (.ref 2), some (.ref (0 + 3)), some (.ref (43 + 3)), some (.int i)] [.ref 2, .int (X.2 (i + (2 : Int32)).toNatClampNeg), .int (X.2 (i + (1 : Int32)).toNatClampNeg), .ref (0 + 3)] _ _ from ?_)
  refine zy_2 rfl rfl (show zyR _ _ _ _ [some (.ref 2), some (.ref (0 + 3)), some (.ref (43 + 3)), some (.int i)] [.int i, .ref 2, .int (X.2 (i + (2 : Int32)).toNatClampNeg), .int (X.2 (i + (1 : Int32)).toNatClampNeg), .ref (0 + 3)] _ _ from ?_)
  refine zy_3 rfl rfl (show zyR _ _ _ _ [some (.ref 2), some (.ref (0 + 3)), some (.ref (43 + 3)), some (.int i)] [.int (3 : Int32), .int i, .ref 2, .int (X.2 (i + (2 : Int32)).toNatClampNeg), .int (X.2 (i + (1 : Int32)).toNatClampNeg), .ref (0 + 3)] _ _ from ?_)
  refine zy_10 rfl (show zyR _ _ _ _ [some (.ref 2), some (.ref (0 + 3)), some (.ref (43 + 3)), some (.int i)] [.int (i + (3 : Int32)), .ref 2, .int (X.2 (i + (2 : Int32)).toNatClampNeg), .int (X.2 (i + (1 : Int32)).toNatClampNeg), .ref (0 + 3)] _ _ from ?_)
  refine zy_26s rfl (zl_in hX i0 i6 (by decide) (by decide)) (show zyR _ _ _ _ [some (.ref 2), some (.ref (0 + 3)), some (.ref (43 + 3)), some (.int i)] [.int (X.2 (i + (3 : Int32)).toNatClampNeg), .int (X.2 (i + (2 : Int32)).toNatClampNeg), .int (X.2 (i + (1 : Int32)).toNatClampNeg), .ref (0 + 3)] _ _ from ?_)
  refine zy_5 (c := 0) (as := [.int (X.2 (i + (1 : Int32)).toNatClampNeg), .int (X.2 (i + (2 : Int32)).toNatClampNeg), .int (X.2 (i + (3 : Int32)).toNatClampNeg)]) (rest := []) (L := [some (.ref (0 + 3)), some (.int (X.2 (i + (1 : Int32)).toNatClampNeg)), some (.int (X.2 (i + (2 : Int32)).toNatClampNeg)), some (.int (X.2 (i + (3 : Int32)).toNatClampNeg)), none, none]) (d' := 3) rfl rfl rfl (Nat.le_of_ble_eq_true rfl) (Nat.le_of_ble_eq_true rfl) rfl (Nat.le_of_ble_eq_true rfl) rfl rfl (zyC17 f1) ?_
  show zyR _ _ _ _ [some (.ref 2), some (.ref (0 + 3)), some (.ref (43 + 3)), some (.int i)] [.int r] _ _
  refine zy_34 rfl rfl (show zyR _ _ _ _ [some (.ref 2), some (.ref (0 + 3)), some (.ref (43 + 3)), some (.int i)] [] _ _ from ?_)
  refine zy_0 rfl rfl (show zyR _ _ _ _ [some (.ref 2), some (.ref (0 + 3)), some (.ref (43 + 3)), some (.int i)] [.ref (43 + 3)] _ _ from ?_)
  refine zy_0 rfl rfl (show zyR _ _ _ _ [some (.ref 2), some (.ref (0 + 3)), some (.ref (43 + 3)), some (.int i)] [.ref 2, .ref (43 + 3)] _ _ from ?_)
  refine zy_2 rfl rfl (show zyR _ _ _ _ [some (.ref 2), some (.ref (0 + 3)), some (.ref (43 + 3)), some (.int i)] [.int i, .ref 2, .ref (43 + 3)] _ _ from ?_)
  refine zy_3 rfl rfl (show zyR _ _ _ _ [some (.ref 2), some (.ref (0 + 3)), some (.ref (43 + 3)), some (.int i)] [.int (1 : Int32), .int i, .ref 2, .ref (43 + 3)] _ _ from ?_)
  refine zy_10 rfl (show zyR _ _ _ _ [some (.ref 2), some (.ref (0 + 3)), some (.ref (43 + 3)), some (.int i)] [.int (i + (1 : Int32)), .ref 2, .ref (43 + 3)] _ _ from ?_)
  refine zy_26s rfl (zl_in hX i0 i6 (by decide) (by decide)) (show zyR _ _ _ _ [some (.ref 2), some (.ref (0 + 3)), some (.ref (43 + 3)), some (.int i)] [.int (X.2 (i + (1 : Int32)).toNatClampNeg), .ref (43 + 3)] _ _ from ?_)
  refine zy_0 rfl rfl (show zyR _ _ _ _ [some (.ref 2), some (.ref (0 + 3)), some (.ref (43 + 3)), some (.int i)] [.ref 2, .int (X.2 (i + (1 : Int32)).toNatClampNeg), .ref (43 + 3)] _ _ from ?_)
  refine zy_2 rfl rfl (show zyR _ _ _ _ [some (.ref 2), some (.ref (0 + 3)), some (.ref (43 + 3)), some (.int i)] [.int i, .ref 2, .int (X.2 (i + (1 : Int32)).toNatClampNeg), .ref (43 + 3)] _ _ from ?_)
  refine zy_3 rfl rfl (show zyR _ _ _ _ [some (.ref 2), some (.ref (0 + 3)), some (.ref (43 + 3)), some (.int i)] [.int (2 : Int32), .int i, .ref 2, .int (X.2 (i + (1 : Int32)).toNatClampNeg), .ref (43 + 3)] _ _ from ?_)
  refine zy_10 rfl (show zyR _ _ _ _ [some (.ref 2), some (.ref (0 + 3)), some (.ref (43 + 3)), some (.int i)] [.int (i + (2 : Int32)), .ref 2, .int (X.2 (i + (1 : Int32)).toNatClampNeg), .ref (43 + 3)] _ _ from ?_)
  refine zy_26s rfl (zl_in hX i0 i6 (by decide) (by decide)) (show zyR _ _ _ _ [some (.ref 2), some (.ref (0 + 3)), some (.ref (43 + 3)), some (.int i)] [.int (X.2 (i + (2 : Int32)).toNatClampNeg), .int (X.2 (i + (1 : Int32)).toNatClampNeg), .ref (43 + 3)] _ _ from ?_)
  refine zy_0 rfl rfl (show zyR _ _ _ _ [some (.ref 2), some (.ref (0 + 3)), some (.ref (43 + 3)), some (.int i)] [.ref 2, .int (X.2 (i + (2 : Int32)).toNatClampNeg), .int (X.2 (i + (1 : Int32)).toNatClampNeg), .ref (43 + 3)] _ _ from ?_)
  refine zy_2 rfl rfl (show zyR _ _ _ _ [some (.ref 2), some (.ref (0 + 3)), some (.ref (43 + 3)), some (.int i)] [.int i, .ref 2, .int (X.2 (i + (2 : Int32)).toNatClampNeg), .int (X.2 (i + (1 : Int32)).toNatClampNeg), .ref (43 + 3)] _ _ from ?_)
  refine zy_3 rfl rfl (show zyR _ _ _ _ [some (.ref 2), some (.ref (0 + 3)), some (.ref (43 + 3)), some (.int i)] [.int (3 : Int32), .int i, .ref 2, .int (X.2 (i + (2 : Int32)).toNatClampNeg), .int (X.2 (i + (1 : Int32)).toNatClampNeg), .ref (43 + 3)] _ _ from ?_)
  refine zy_10 rfl (show zyR _ _ _ _ [some (.ref 2), some (.ref (0 + 3)), some (.ref (43 + 3)), some (.int i)] [.int (i + (3 : Int32)), .ref 2, .int (X.2 (i + (2 : Int32)).toNatClampNeg), .int (X.2 (i + (1 : Int32)).toNatClampNeg), .ref (43 + 3)] _ _ from ?_)
  refine zy_26s rfl (zl_in hX i0 i6 (by decide) (by decide)) (show zyR _ _ _ _ [some (.ref 2), some (.ref (0 + 3)), some (.ref (43 + 3)), some (.int i)] [.int (X.2 (i + (3 : Int32)).toNatClampNeg), .int (X.2 (i + (2 : Int32)).toNatClampNeg), .int (X.2 (i + (1 : Int32)).toNatClampNeg), .ref (43 + 3)] _ _ from ?_)
  refine zy_5 (c := 43) (as := [.int (X.2 (i + (1 : Int32)).toNatClampNeg), .int (X.2 (i + (2 : Int32)).toNatClampNeg), .int (X.2 (i + (3 : Int32)).toNatClampNeg)]) (rest := []) (L := [some (.ref (43 + 3)), some (.int (X.2 (i + (1 : Int32)).toNatClampNeg)), some (.int (X.2 (i + (2 : Int32)).toNatClampNeg)), some (.int (X.2 (i + (3 : Int32)).toNatClampNeg)), none, none, none]) (d' := 3) rfl rfl rfl (Nat.le_of_ble_eq_true rfl) (Nat.le_of_ble_eq_true rfl) rfl (Nat.le_of_ble_eq_true rfl) rfl rfl (zyC181 f2) ?_
  show zyR _ _ _ _ [some (.ref 2), some (.ref (0 + 3)), some (.ref (43 + 3)), some (.int i)] [.int r] _ _
  refine zy_34 rfl rfl (show zyR _ _ _ _ [some (.ref 2), some (.ref (0 + 3)), some (.ref (43 + 3)), some (.int i)] [] _ _ from ?_)
  exact zy_6 rfl (k _ hI)
theorem zlc_2 {X : zx_X} {i : Int32} {s : zy_S} {P : Option Value → zy_S → Prop} (hX : X.1 ≤ 3072) (i0 : 0 ≤ i.toInt) (i6 : i.toInt + 6 ≤ X.1) (h : zI s) (k : ∀ t, zI t → zyR X 2000 0 1435 [some (.ref 2), some (.ref (0 + 3)), some (.ref (43 + 3)), some (.int i)] [] t P) : zyR X 2000 0 278 [some (.ref 2), some (.ref (0 + 3)), some (.ref (43 + 3)), some (.int i)] [] s P := by
  obtain ⟨r, s1, s2, f1, f2, hI⟩ := zop_mend ((X.2 (i + (1 : Int32)).toNatClampNeg)) ((X.2 (i + (2 : Int32)).toNatClampNeg)) ((X.2 (i + (3 : Int32)).toNatClampNeg)) h
  refine zy_0 rfl rfl (show zyR _ _ _ _ [some (.ref 2), some (.ref (0 + 3)), some (.ref (43 + 3)), some (.int i)] [.ref (0 + 3)] _ _ from ?_)
  refine zy_0 rfl rfl (show zyR _ _ _ _ [some (.ref 2), some (.ref (0 + 3)), some (.ref (43 + 3)), some (.int i)] [.ref 2, .ref (0 + 3)] _ _ from ?_)
  refine zy_2 rfl rfl (show zyR _ _ _ _ [some (.ref 2), some (.ref (0 + 3)), some (.ref (43 + 3)), some (.int i)] [.int i, .ref 2, .ref (0 + 3)] _ _ from ?_)
  refine zy_3 rfl rfl (show zyR _ _ _ _ [some (.ref 2), some (.ref (0 + 3)), some (.ref (43 + 3)), some (.int i)] [.int (1 : Int32), .int i, .ref 2, .ref (0 + 3)] _ _ from ?_)
  refine zy_10 rfl (show zyR _ _ _ _ [some (.ref 2), some (.ref (0 + 3)), some (.ref (43 + 3)), some (.int i)] [.int (i + (1 : Int32)), .ref 2, .ref (0 + 3)] _ _ from ?_)
  refine zy_26s rfl (zl_in hX i0 i6 (by decide) (by decide)) (show zyR _ _ _ _ [some (.ref 2), some (.ref (0 + 3)), some (.ref (43 + 3)), some (.int i)] [.int (X.2 (i + (1 : Int32)).toNatClampNeg), .ref (0 + 3)] _ _ from ?_)
  refine zy_0 rfl rfl (show zyR _ _ _ _ [some (.ref 2), some (.ref (0 + 3)), some (.ref (43 + 3)), some (.int i)] [.ref 2, .int (X.2 (i + (1 : Int32)).toNatClampNeg), .ref (0 + 3)] _ _ from ?_)
  refine zy_2 rfl rfl (show zyR _ _ _ _ [some (.ref 2), some (.ref (0 + 3)), some (.ref (43 + 3)), some (.int i)] [.int i, .ref 2, .int (X.2 (i + (1 : Int32)).toNatClampNeg), .ref (0 + 3)] _ _ from ?_)
  refine zy_3 rfl rfl (show zyR _ _ _ _ [some (.ref 2), some (.ref (0 + 3)), some (.ref (43 + 3)), some (.int i)] [.int (2 : Int32), .int i, .ref 2, .int (X.2 (i + (1 : Int32)).toNatClampNeg), .ref (0 + 3)] _ _ from ?_)
  refine zy_10 rfl (show zyR _ _ _ _ [some (.ref 2), some (.ref (0 + 3)), some (.ref (43 + 3)), some (.int i)] [.int (i + (2 : Int32)), .ref 2, .int (X.2 (i + (1 : Int32)).toNatClampNeg), .ref (0 + 3)] _ _ from ?_)
  refine zy_26s rfl (zl_in hX i0 i6 (by decide) (by decide)) (show zyR _ _ _ _ [some (.ref 2), some (.ref (0 + 3)), some (.ref (43 + 3)), some (.int i)] [.int (X.2 (i + (2 : Int32)).toNatClampNeg), .int (X.2 (i + (1 : Int32)).toNatClampNeg), .ref (0 + 3)] _ _ from ?_)
  refine zy_0 rfl rfl (show zyR _ _ _ _ [some (.ref 2), some (.ref (0 + 3)), some (.ref (43 + 3)), some (.int i)] [.ref 2, .int (X.2 (i + (2 : Int32)).toNatClampNeg), .int (X.2 (i + (1 : Int32)).toNatClampNeg), .ref (0 + 3)] _ _ from ?_)
  refine zy_2 rfl rfl (show zyR _ _ _ _ [some (.ref 2), some (.ref (0 + 3)), some (.ref (43 + 3)), some (.int i)] [.int i, .ref 2, .int (X.2 (i + (2 : Int32)).toNatClampNeg), .int (X.2 (i + (1 : Int32)).toNatClampNeg), .ref (0 + 3)] _ _ from ?_)
  refine zy_3 rfl rfl (show zyR _ _ _ _ [some (.ref 2), some (.ref (0 + 3)), some (.ref (43 + 3)), some (.int i)] [.int (3 : Int32), .int i, .ref 2, .int (X.2 (i + (2 : Int32)).toNatClampNeg), .int (X.2 (i + (1 : Int32)).toNatClampNeg), .ref (0 + 3)] _ _ from ?_)
  refine zy_10 rfl (show zyR _ _ _ _ [some (.ref 2), some (.ref (0 + 3)), some (.ref (43 + 3)), some (.int i)] [.int (i + (3 : Int32)), .ref 2, .int (X.2 (i + (2 : Int32)).toNatClampNeg), .int (X.2 (i + (1 : Int32)).toNatClampNeg), .ref (0 + 3)] _ _ from ?_)
  refine zy_26s rfl (zl_in hX i0 i6 (by decide) (by decide)) (show zyR _ _ _ _ [some (.ref 2), some (.ref (0 + 3)), some (.ref (43 + 3)), some (.int i)] [.int (X.2 (i + (3 : Int32)).toNatClampNeg), .int (X.2 (i + (2 : Int32)).toNatClampNeg), .int (X.2 (i + (1 : Int32)).toNatClampNeg), .ref (0 + 3)] _ _ from ?_)
  refine zy_5 (c := 0) (as := [.int (X.2 (i + (1 : Int32)).toNatClampNeg), .int (X.2 (i + (2 : Int32)).toNatClampNeg), .int (X.2 (i + (3 : Int32)).toNatClampNeg)]) (rest := []) (L := [some (.ref (0 + 3)), some (.int (X.2 (i + (1 : Int32)).toNatClampNeg)), some (.int (X.2 (i + (2 : Int32)).toNatClampNeg)), some (.int (X.2 (i + (3 : Int32)).toNatClampNeg)), none]) (d' := 3) rfl rfl rfl (Nat.le_of_ble_eq_true rfl) (Nat.le_of_ble_eq_true rfl) rfl (Nat.le_of_ble_eq_true rfl) rfl rfl (zyC24 f1) ?_
  show zyR _ _ _ _ [some (.ref 2), some (.ref (0 + 3)), some (.ref (43 + 3)), some (.int i)] [.int r] _ _
  refine zy_34 rfl rfl (show zyR _ _ _ _ [some (.ref 2), some (.ref (0 + 3)), some (.ref (43 + 3)), some (.int i)] [] _ _ from ?_)
  refine zy_0 rfl rfl (show zyR _ _ _ _ [some (.ref 2), some (.ref (0 + 3)), some (.ref (43 + 3)), some (.int i)] [.ref (43 + 3)] _ _ from ?_)
  refine zy_0 rfl rfl (show zyR _ _ _ _ [some (.ref 2), some (.ref (0 + 3)), some (.ref (43 + 3)), some (.int i)] [.ref 2, .ref (43 + 3)] _ _ from ?_)
  refine zy_2 rfl rfl (show zyR _ _ _ _ [some (.ref 2), some (.ref (0 + 3)), some (.ref (43 + 3)), some (.int i)] [.int i, .ref 2, .ref (43 + 3)] _ _ from ?_)
  refine zy_3 rfl rfl (show zyR _ _ _ _ [some (.ref 2), some (.ref (0 + 3)), some (.ref (43 + 3)), some (.int i)] [.int (1 : Int32), .int i, .ref 2, .ref (43 + 3)] _ _ from ?_)
  refine zy_10 rfl (show zyR _ _ _ _ [some (.ref 2), some (.ref (0 + 3)), some (.ref (43 + 3)), some (.int i)] [.int (i + (1 : Int32)), .ref 2, .ref (43 + 3)] _ _ from ?_)
  refine zy_26s rfl (zl_in hX i0 i6 (by decide) (by decide)) (show zyR _ _ _ _ [some (.ref 2), some (.ref (0 + 3)), some (.ref (43 + 3)), some (.int i)] [.int (X.2 (i + (1 : Int32)).toNatClampNeg), .ref (43 + 3)] _ _ from ?_)
  refine zy_0 rfl rfl (show zyR _ _ _ _ [some (.ref 2), some (.ref (0 + 3)), some (.ref (43 + 3)), some (.int i)] [.ref 2, .int (X.2 (i + (1 : Int32)).toNatClampNeg), .ref (43 + 3)] _ _ from ?_)
  refine zy_2 rfl rfl (show zyR _ _ _ _ [some (.ref 2), some (.ref (0 + 3)), some (.ref (43 + 3)), some (.int i)] [.int i, .ref 2, .int (X.2 (i + (1 : Int32)).toNatClampNeg), .ref (43 + 3)] _ _ from ?_)
  refine zy_3 rfl rfl (show zyR _ _ _ _ [some (.ref 2), some (.ref (0 + 3)), some (.ref (43 + 3)), some (.int i)] [.int (2 : Int32), .int i, .ref 2, .int (X.2 (i + (1 : Int32)).toNatClampNeg), .ref (43 + 3)] _ _ from ?_)
  refine zy_10 rfl (show zyR _ _ _ _ [some (.ref 2), some (.ref (0 + 3)), some (.ref (43 + 3)), some (.int i)] [.int (i + (2 : Int32)), .ref 2, .int (X.2 (i + (1 : Int32)).toNatClampNeg), .ref (43 + 3)] _ _ from ?_)
  refine zy_26s rfl (zl_in hX i0 i6 (by decide) (by decide)) (show zyR _ _ _ _ [some (.ref 2), some (.ref (0 + 3)), some (.ref (43 + 3)), some (.int i)] [.int (X.2 (i + (2 : Int32)).toNatClampNeg), .int (X.2 (i + (1 : Int32)).toNatClampNeg), .ref (43 + 3)] _ _ from ?_)
  refine zy_0 rfl rfl (show zyR _ _ _ _ [some (.ref 2), some (.ref (0 + 3)), some (.ref (43 + 3)), some (.int i)] [.ref 2, .int (X.2 (i + (2 : Int32)).toNatClampNeg), .int (X.2 (i + (1 : Int32)).toNatClampNeg), .ref (43 + 3)] _ _ from ?_)
  refine zy_2 rfl rfl (show zyR _ _ _ _ [some (.ref 2), some (.ref (0 + 3)), some (.ref (43 + 3)), some (.int i)] [.int i, .ref 2, .int (X.2 (i + (2 : Int32)).toNatClampNeg), .int (X.2 (i + (1 : Int32)).toNatClampNeg), .ref (43 + 3)] _ _ from ?_)
  refine zy_3 rfl rfl (show zyR _ _ _ _ [some (.ref 2), some (.ref (0 + 3)), some (.ref (43 + 3)), some (.int i)] [.int (3 : Int32), .int i, .ref 2, .int (X.2 (i + (2 : Int32)).toNatClampNeg), .int (X.2 (i + (1 : Int32)).toNatClampNeg), .ref (43 + 3)] _ _ from ?_)
  refine zy_10 rfl (show zyR _ _ _ _ [some (.ref 2), some (.ref (0 + 3)), some (.ref (43 + 3)), some (.int i)] [.int (i + (3 : Int32)), .ref 2, .int (X.2 (i + (2 : Int32)).toNatClampNeg), .int (X.2 (i + (1 : Int32)).toNatClampNeg), .ref (43 + 3)] _ _ from ?_)
  refine zy_26s rfl (zl_in hX i0 i6 (by decide) (by decide)) (show zyR _ _ _ _ [some (.ref 2), some (.ref (0 + 3)), some (.ref (43 + 3)), some (.int i)] [.int (X.2 (i + (3 : Int32)).toNatClampNeg), .int (X.2 (i + (2 : Int32)).toNatClampNeg), .int (X.2 (i + (1 : Int32)).toNatClampNeg), .ref (43 + 3)] _ _ from ?_)
  refine zy_5 (c := 43) (as := [.int (X.2 (i + (1 : Int32)).toNatClampNeg), .int (X.2 (i + (2 : Int32)).toNatClampNeg), .int (X.2 (i + (3 : Int32)).toNatClampNeg)]) (rest := []) (L := [some (.ref (43 + 3)), some (.int (X.2 (i + (1 : Int32)).toNatClampNeg)), some (.int (X.2 (i + (2 : Int32)).toNatClampNeg)), some (.int (X.2 (i + (3 : Int32)).toNatClampNeg)), none]) (d' := 4) rfl rfl rfl (Nat.le_of_ble_eq_true rfl) (Nat.le_of_ble_eq_true rfl) rfl (Nat.le_of_ble_eq_true rfl) rfl rfl (zyC183 f2) ?_
  show zyR _ _ _ _ [some (.ref 2), some (.ref (0 + 3)), some (.ref (43 + 3)), some (.int i)] [.int r] _ _
  refine zy_34 rfl rfl (show zyR _ _ _ _ [some (.ref 2), some (.ref (0 + 3)), some (.ref (43 + 3)), some (.int i)] [] _ _ from ?_)
  exact zy_6 rfl (k _ hI)
theorem zlc_3 {X : zx_X} {i : Int32} {s : zy_S} {P : Option Value → zy_S → Prop} (hX : X.1 ≤ 3072) (i0 : 0 ≤ i.toInt) (i6 : i.toInt + 6 ≤ X.1) (h : zI s) (k : ∀ t, zI t → zyR X 2000 0 1435 [some (.ref 2), some (.ref (0 + 3)), some (.ref (43 + 3)), some (.int i)] [] t P) : zyR X 2000 0 321 [some (.ref 2), some (.ref (0 + 3)), some (.ref (43 + 3)), some (.int i)] [] s P := by
  obtain ⟨r, s1, s2, f1, f2, hI⟩ := zop_of ((X.2 (i + (1 : Int32)).toNatClampNeg)) ((X.2 (i + (2 : Int32)).toNatClampNeg)) h
  refine zy_0 rfl rfl (show zyR _ _ _ _ [some (.ref 2), some (.ref (0 + 3)), some (.ref (43 + 3)), some (.int i)] [.ref (0 + 3)] _ _ from ?_)
  refine zy_0 rfl rfl (show zyR _ _ _ _ [some (.ref 2), some (.ref (0 + 3)), some (.ref (43 + 3)), some (.int i)] [.ref 2, .ref (0 + 3)] _ _ from ?_)
  refine zy_2 rfl rfl (show zyR _ _ _ _ [some (.ref 2), some (.ref (0 + 3)), some (.ref (43 + 3)), some (.int i)] [.int i, .ref 2, .ref (0 + 3)] _ _ from ?_)
  refine zy_3 rfl rfl (show zyR _ _ _ _ [some (.ref 2), some (.ref (0 + 3)), some (.ref (43 + 3)), some (.int i)] [.int (1 : Int32), .int i, .ref 2, .ref (0 + 3)] _ _ from ?_)
  refine zy_10 rfl (show zyR _ _ _ _ [some (.ref 2), some (.ref (0 + 3)), some (.ref (43 + 3)), some (.int i)] [.int (i + (1 : Int32)), .ref 2, .ref (0 + 3)] _ _ from ?_)
  refine zy_26s rfl (zl_in hX i0 i6 (by decide) (by decide)) (show zyR _ _ _ _ [some (.ref 2), some (.ref (0 + 3)), some (.ref (43 + 3)), some (.int i)] [.int (X.2 (i + (1 : Int32)).toNatClampNeg), .ref (0 + 3)] _ _ from ?_)
  refine zy_0 rfl rfl (show zyR _ _ _ _ [some (.ref 2), some (.ref (0 + 3)), some (.ref (43 + 3)), some (.int i)] [.ref 2, .int (X.2 (i + (1 : Int32)).toNatClampNeg), .ref (0 + 3)] _ _ from ?_)
  refine zy_2 rfl rfl (show zyR _ _ _ _ [some (.ref 2), some (.ref (0 + 3)), some (.ref (43 + 3)), some (.int i)] [.int i, .ref 2, .int (X.2 (i + (1 : Int32)).toNatClampNeg), .ref (0 + 3)] _ _ from ?_)
  refine zy_3 rfl rfl (show zyR _ _ _ _ [some (.ref 2), some (.ref (0 + 3)), some (.ref (43 + 3)), some (.int i)] [.int (2 : Int32), .int i, .ref 2, .int (X.2 (i + (1 : Int32)).toNatClampNeg), .ref (0 + 3)] _ _ from ?_)
  refine zy_10 rfl (show zyR _ _ _ _ [some (.ref 2), some (.ref (0 + 3)), some (.ref (43 + 3)), some (.int i)] [.int (i + (2 : Int32)), .ref 2, .int (X.2 (i + (1 : Int32)).toNatClampNeg), .ref (0 + 3)] _ _ from ?_)
  refine zy_26s rfl (zl_in hX i0 i6 (by decide) (by decide)) (show zyR _ _ _ _ [some (.ref 2), some (.ref (0 + 3)), some (.ref (43 + 3)), some (.int i)] [.int (X.2 (i + (2 : Int32)).toNatClampNeg), .int (X.2 (i + (1 : Int32)).toNatClampNeg), .ref (0 + 3)] _ _ from ?_)
  refine zy_5 (c := 0) (as := [.int (X.2 (i + (1 : Int32)).toNatClampNeg), .int (X.2 (i + (2 : Int32)).toNatClampNeg)]) (rest := []) (L := [some (.ref (0 + 3)), some (.int (X.2 (i + (1 : Int32)).toNatClampNeg)), some (.int (X.2 (i + (2 : Int32)).toNatClampNeg))]) (d' := 3) rfl rfl rfl (Nat.le_of_ble_eq_true rfl) (Nat.le_of_ble_eq_true rfl) rfl (Nat.le_of_ble_eq_true rfl) rfl rfl (zyC31 f1) ?_
  show zyR _ _ _ _ [some (.ref 2), some (.ref (0 + 3)), some (.ref (43 + 3)), some (.int i)] [.int r] _ _
  refine zy_34 rfl rfl (show zyR _ _ _ _ [some (.ref 2), some (.ref (0 + 3)), some (.ref (43 + 3)), some (.int i)] [] _ _ from ?_)
  refine zy_0 rfl rfl (show zyR _ _ _ _ [some (.ref 2), some (.ref (0 + 3)), some (.ref (43 + 3)), some (.int i)] [.ref (43 + 3)] _ _ from ?_)
  refine zy_0 rfl rfl (show zyR _ _ _ _ [some (.ref 2), some (.ref (0 + 3)), some (.ref (43 + 3)), some (.int i)] [.ref 2, .ref (43 + 3)] _ _ from ?_)
  refine zy_2 rfl rfl (show zyR _ _ _ _ [some (.ref 2), some (.ref (0 + 3)), some (.ref (43 + 3)), some (.int i)] [.int i, .ref 2, .ref (43 + 3)] _ _ from ?_)
  refine zy_3 rfl rfl (show zyR _ _ _ _ [some (.ref 2), some (.ref (0 + 3)), some (.ref (43 + 3)), some (.int i)] [.int (1 : Int32), .int i, .ref 2, .ref (43 + 3)] _ _ from ?_)
  refine zy_10 rfl (show zyR _ _ _ _ [some (.ref 2), some (.ref (0 + 3)), some (.ref (43 + 3)), some (.int i)] [.int (i + (1 : Int32)), .ref 2, .ref (43 + 3)] _ _ from ?_)
  refine zy_26s rfl (zl_in hX i0 i6 (by decide) (by decide)) (show zyR _ _ _ _ [some (.ref 2), some (.ref (0 + 3)), some (.ref (43 + 3)), some (.int i)] [.int (X.2 (i + (1 : Int32)).toNatClampNeg), .ref (43 + 3)] _ _ from ?_)
  refine zy_0 rfl rfl (show zyR _ _ _ _ [some (.ref 2), some (.ref (0 + 3)), some (.ref (43 + 3)), some (.int i)] [.ref 2, .int (X.2 (i + (1 : Int32)).toNatClampNeg), .ref (43 + 3)] _ _ from ?_)
  refine zy_2 rfl rfl (show zyR _ _ _ _ [some (.ref 2), some (.ref (0 + 3)), some (.ref (43 + 3)), some (.int i)] [.int i, .ref 2, .int (X.2 (i + (1 : Int32)).toNatClampNeg), .ref (43 + 3)] _ _ from ?_)
  refine zy_3 rfl rfl (show zyR _ _ _ _ [some (.ref 2), some (.ref (0 + 3)), some (.ref (43 + 3)), some (.int i)] [.int (2 : Int32), .int i, .ref 2, .int (X.2 (i + (1 : Int32)).toNatClampNeg), .ref (43 + 3)] _ _ from ?_)
  refine zy_10 rfl (show zyR _ _ _ _ [some (.ref 2), some (.ref (0 + 3)), some (.ref (43 + 3)), some (.int i)] [.int (i + (2 : Int32)), .ref 2, .int (X.2 (i + (1 : Int32)).toNatClampNeg), .ref (43 + 3)] _ _ from ?_)
  refine zy_26s rfl (zl_in hX i0 i6 (by decide) (by decide)) (show zyR _ _ _ _ [some (.ref 2), some (.ref (0 + 3)), some (.ref (43 + 3)), some (.int i)] [.int (X.2 (i + (2 : Int32)).toNatClampNeg), .int (X.2 (i + (1 : Int32)).toNatClampNeg), .ref (43 + 3)] _ _ from ?_)
  refine zy_5 (c := 43) (as := [.int (X.2 (i + (1 : Int32)).toNatClampNeg), .int (X.2 (i + (2 : Int32)).toNatClampNeg)]) (rest := []) (L := [some (.ref (43 + 3)), some (.int (X.2 (i + (1 : Int32)).toNatClampNeg)), some (.int (X.2 (i + (2 : Int32)).toNatClampNeg)), none]) (d' := 4) rfl rfl rfl (Nat.le_of_ble_eq_true rfl) (Nat.le_of_ble_eq_true rfl) rfl (Nat.le_of_ble_eq_true rfl) rfl rfl (zyC188 f2) ?_
  show zyR _ _ _ _ [some (.ref 2), some (.ref (0 + 3)), some (.ref (43 + 3)), some (.int i)] [.int r] _ _
  refine zy_34 rfl rfl (show zyR _ _ _ _ [some (.ref 2), some (.ref (0 + 3)), some (.ref (43 + 3)), some (.int i)] [] _ _ from ?_)
  exact zy_6 rfl (k _ hI)
theorem zlc_4 {X : zx_X} {i : Int32} {s : zy_S} {P : Option Value → zy_S → Prop} (hX : X.1 ≤ 3072) (i0 : 0 ≤ i.toInt) (i6 : i.toInt + 6 ≤ X.1) (h : zI s) (k : ∀ t, zI t → zyR X 2000 0 1435 [some (.ref 2), some (.ref (0 + 3)), some (.ref (43 + 3)), some (.int i)] [] t P) : zyR X 2000 0 354 [some (.ref 2), some (.ref (0 + 3)), some (.ref (43 + 3)), some (.int i)] [] s P := by
  obtain ⟨r, s1, s2, f1, f2, hI⟩ := zop_feed ((X.2 (i + (1 : Int32)).toNatClampNeg)) h
  refine zy_0 rfl rfl (show zyR _ _ _ _ [some (.ref 2), some (.ref (0 + 3)), some (.ref (43 + 3)), some (.int i)] [.ref (0 + 3)] _ _ from ?_)
  refine zy_0 rfl rfl (show zyR _ _ _ _ [some (.ref 2), some (.ref (0 + 3)), some (.ref (43 + 3)), some (.int i)] [.ref 2, .ref (0 + 3)] _ _ from ?_)
  refine zy_2 rfl rfl (show zyR _ _ _ _ [some (.ref 2), some (.ref (0 + 3)), some (.ref (43 + 3)), some (.int i)] [.int i, .ref 2, .ref (0 + 3)] _ _ from ?_)
  refine zy_3 rfl rfl (show zyR _ _ _ _ [some (.ref 2), some (.ref (0 + 3)), some (.ref (43 + 3)), some (.int i)] [.int (1 : Int32), .int i, .ref 2, .ref (0 + 3)] _ _ from ?_)
  refine zy_10 rfl (show zyR _ _ _ _ [some (.ref 2), some (.ref (0 + 3)), some (.ref (43 + 3)), some (.int i)] [.int (i + (1 : Int32)), .ref 2, .ref (0 + 3)] _ _ from ?_)
  refine zy_26s rfl (zl_in hX i0 i6 (by decide) (by decide)) (show zyR _ _ _ _ [some (.ref 2), some (.ref (0 + 3)), some (.ref (43 + 3)), some (.int i)] [.int (X.2 (i + (1 : Int32)).toNatClampNeg), .ref (0 + 3)] _ _ from ?_)
  refine zy_5 (c := 0) (as := [.int (X.2 (i + (1 : Int32)).toNatClampNeg)]) (rest := []) (L := [some (.ref (0 + 3)), some (.int (X.2 (i + (1 : Int32)).toNatClampNeg))]) (d' := 2) rfl rfl rfl (Nat.le_of_ble_eq_true rfl) (Nat.le_of_ble_eq_true rfl) rfl (Nat.le_of_ble_eq_true rfl) rfl rfl (zyC33 f1) ?_
  show zyR _ _ _ _ [some (.ref 2), some (.ref (0 + 3)), some (.ref (43 + 3)), some (.int i)] [.int r] _ _
  refine zy_34 rfl rfl (show zyR _ _ _ _ [some (.ref 2), some (.ref (0 + 3)), some (.ref (43 + 3)), some (.int i)] [] _ _ from ?_)
  refine zy_0 rfl rfl (show zyR _ _ _ _ [some (.ref 2), some (.ref (0 + 3)), some (.ref (43 + 3)), some (.int i)] [.ref (43 + 3)] _ _ from ?_)
  refine zy_0 rfl rfl (show zyR _ _ _ _ [some (.ref 2), some (.ref (0 + 3)), some (.ref (43 + 3)), some (.int i)] [.ref 2, .ref (43 + 3)] _ _ from ?_)
  refine zy_2 rfl rfl (show zyR _ _ _ _ [some (.ref 2), some (.ref (0 + 3)), some (.ref (43 + 3)), some (.int i)] [.int i, .ref 2, .ref (43 + 3)] _ _ from ?_)
  refine zy_3 rfl rfl (show zyR _ _ _ _ [some (.ref 2), some (.ref (0 + 3)), some (.ref (43 + 3)), some (.int i)] [.int (1 : Int32), .int i, .ref 2, .ref (43 + 3)] _ _ from ?_)
  refine zy_10 rfl (show zyR _ _ _ _ [some (.ref 2), some (.ref (0 + 3)), some (.ref (43 + 3)), some (.int i)] [.int (i + (1 : Int32)), .ref 2, .ref (43 + 3)] _ _ from ?_)
  refine zy_26s rfl (zl_in hX i0 i6 (by decide) (by decide)) (show zyR _ _ _ _ [some (.ref 2), some (.ref (0 + 3)), some (.ref (43 + 3)), some (.int i)] [.int (X.2 (i + (1 : Int32)).toNatClampNeg), .ref (43 + 3)] _ _ from ?_)
  refine zy_5 (c := 43) (as := [.int (X.2 (i + (1 : Int32)).toNatClampNeg)]) (rest := []) (L := [some (.ref (43 + 3)), some (.int (X.2 (i + (1 : Int32)).toNatClampNeg))]) (d' := 2) rfl rfl rfl (Nat.le_of_ble_eq_true rfl) (Nat.le_of_ble_eq_true rfl) rfl (Nat.le_of_ble_eq_true rfl) rfl rfl (zyC189 f2) ?_
  show zyR _ _ _ _ [some (.ref 2), some (.ref (0 + 3)), some (.ref (43 + 3)), some (.int i)] [.int r] _ _
  refine zy_34 rfl rfl (show zyR _ _ _ _ [some (.ref 2), some (.ref (0 + 3)), some (.ref (43 + 3)), some (.int i)] [] _ _ from ?_)
  exact zy_6 rfl (k _ hI)
theorem zlc_5 {X : zx_X} {i : Int32} {s : zy_S} {P : Option Value → zy_S → Prop} (hX : X.1 ≤ 3072) (i0 : 0 ≤ i.toInt) (i6 : i.toInt + 6 ≤ X.1) (h : zI s) (k : ∀ t, zI t → zyR X 2000 0 1435 [some (.ref 2), some (.ref (0 + 3)), some (.ref (43 + 3)), some (.int i)] [] t P) : zyR X 2000 0 377 [some (.ref 2), some (.ref (0 + 3)), some (.ref (43 + 3)), some (.int i)] [] s P := by
  obtain ⟨r, s1, s2, f1, f2, hI⟩ := zop_law  h
  refine zy_0 rfl rfl (show zyR _ _ _ _ [some (.ref 2), some (.ref (0 + 3)), some (.ref (43 + 3)), some (.int i)] [.ref (0 + 3)] _ _ from ?_)
  refine zy_5 (c := 0) (as := []) (rest := []) (L := [some (.ref (0 + 3)), none]) (d' := 105) rfl rfl rfl (Nat.le_of_ble_eq_true rfl) (Nat.le_of_ble_eq_true rfl) rfl (Nat.le_of_ble_eq_true rfl) rfl rfl (zyC36 f1) ?_
  show zyR _ _ _ _ [some (.ref 2), some (.ref (0 + 3)), some (.ref (43 + 3)), some (.int i)] [.int r] _ _
  refine zy_34 rfl rfl (show zyR _ _ _ _ [some (.ref 2), some (.ref (0 + 3)), some (.ref (43 + 3)), some (.int i)] [] _ _ from ?_)
  refine zy_0 rfl rfl (show zyR _ _ _ _ [some (.ref 2), some (.ref (0 + 3)), some (.ref (43 + 3)), some (.int i)] [.ref (43 + 3)] _ _ from ?_)
  refine zy_5 (c := 43) (as := []) (rest := []) (L := [some (.ref (43 + 3)), none, none, none]) (d' := 104) rfl rfl rfl (Nat.le_of_ble_eq_true rfl) (Nat.le_of_ble_eq_true rfl) rfl (Nat.le_of_ble_eq_true rfl) rfl rfl (zyC190 f2) ?_
  show zyR _ _ _ _ [some (.ref 2), some (.ref (0 + 3)), some (.ref (43 + 3)), some (.int i)] [.int r] _ _
  refine zy_34 rfl rfl (show zyR _ _ _ _ [some (.ref 2), some (.ref (0 + 3)), some (.ref (43 + 3)), some (.int i)] [] _ _ from ?_)
  exact zy_6 rfl (k _ hI)
theorem zlc_6 {X : zx_X} {i : Int32} {s : zy_S} {P : Option Value → zy_S → Prop} (hX : X.1 ≤ 3072) (i0 : 0 ≤ i.toInt) (i6 : i.toInt + 6 ≤ X.1) (h : zI s) (k : ∀ t, zI t → zyR X 2000 0 1435 [some (.ref 2), some (.ref (0 + 3)), some (.ref (43 + 3)), some (.int i)] [] t P) : zyR X 2000 0 390 [some (.ref 2), some (.ref (0 + 3)), some (.ref (43 + 3)), some (.int i)] [] s P := by
  obtain ⟨r, s1, s2, f1, f2, hI⟩ := zop_minds ((X.2 (i + (1 : Int32)).toNatClampNeg)) ((X.2 (i + (2 : Int32)).toNatClampNeg)) h
  refine zy_0 rfl rfl (show zyR _ _ _ _ [some (.ref 2), some (.ref (0 + 3)), some (.ref (43 + 3)), some (.int i)] [.ref (0 + 3)] _ _ from ?_)
  refine zy_0 rfl rfl (show zyR _ _ _ _ [some (.ref 2), some (.ref (0 + 3)), some (.ref (43 + 3)), some (.int i)] [.ref 2, .ref (0 + 3)] _ _ from ?_)
  refine zy_2 rfl rfl (show zyR _ _ _ _ [some (.ref 2), some (.ref (0 + 3)), some (.ref (43 + 3)), some (.int i)] [.int i, .ref 2, .ref (0 + 3)] _ _ from ?_)
  refine zy_3 rfl rfl (show zyR _ _ _ _ [some (.ref 2), some (.ref (0 + 3)), some (.ref (43 + 3)), some (.int i)] [.int (1 : Int32), .int i, .ref 2, .ref (0 + 3)] _ _ from ?_)
  refine zy_10 rfl (show zyR _ _ _ _ [some (.ref 2), some (.ref (0 + 3)), some (.ref (43 + 3)), some (.int i)] [.int (i + (1 : Int32)), .ref 2, .ref (0 + 3)] _ _ from ?_)
  refine zy_26s rfl (zl_in hX i0 i6 (by decide) (by decide)) (show zyR _ _ _ _ [some (.ref 2), some (.ref (0 + 3)), some (.ref (43 + 3)), some (.int i)] [.int (X.2 (i + (1 : Int32)).toNatClampNeg), .ref (0 + 3)] _ _ from ?_)
  refine zy_0 rfl rfl (show zyR _ _ _ _ [some (.ref 2), some (.ref (0 + 3)), some (.ref (43 + 3)), some (.int i)] [.ref 2, .int (X.2 (i + (1 : Int32)).toNatClampNeg), .ref (0 + 3)] _ _ from ?_)
  refine zy_2 rfl rfl (show zyR _ _ _ _ [some (.ref 2), some (.ref (0 + 3)), some (.ref (43 + 3)), some (.int i)] [.int i, .ref 2, .int (X.2 (i + (1 : Int32)).toNatClampNeg), .ref (0 + 3)] _ _ from ?_)
  refine zy_3 rfl rfl (show zyR _ _ _ _ [some (.ref 2), some (.ref (0 + 3)), some (.ref (43 + 3)), some (.int i)] [.int (2 : Int32), .int i, .ref 2, .int (X.2 (i + (1 : Int32)).toNatClampNeg), .ref (0 + 3)] _ _ from ?_)
  refine zy_10 rfl (show zyR _ _ _ _ [some (.ref 2), some (.ref (0 + 3)), some (.ref (43 + 3)), some (.int i)] [.int (i + (2 : Int32)), .ref 2, .int (X.2 (i + (1 : Int32)).toNatClampNeg), .ref (0 + 3)] _ _ from ?_)
  refine zy_26s rfl (zl_in hX i0 i6 (by decide) (by decide)) (show zyR _ _ _ _ [some (.ref 2), some (.ref (0 + 3)), some (.ref (43 + 3)), some (.int i)] [.int (X.2 (i + (2 : Int32)).toNatClampNeg), .int (X.2 (i + (1 : Int32)).toNatClampNeg), .ref (0 + 3)] _ _ from ?_)
  refine zy_5 (c := 0) (as := [.int (X.2 (i + (1 : Int32)).toNatClampNeg), .int (X.2 (i + (2 : Int32)).toNatClampNeg)]) (rest := []) (L := [some (.ref (0 + 3)), some (.int (X.2 (i + (1 : Int32)).toNatClampNeg)), some (.int (X.2 (i + (2 : Int32)).toNatClampNeg)), none]) (d' := 7) rfl rfl rfl (Nat.le_of_ble_eq_true rfl) (Nat.le_of_ble_eq_true rfl) rfl (Nat.le_of_ble_eq_true rfl) rfl rfl (zyC50 f1) ?_
  show zyR _ _ _ _ [some (.ref 2), some (.ref (0 + 3)), some (.ref (43 + 3)), some (.int i)] [.int r] _ _
  refine zy_34 rfl rfl (show zyR _ _ _ _ [some (.ref 2), some (.ref (0 + 3)), some (.ref (43 + 3)), some (.int i)] [] _ _ from ?_)
  refine zy_0 rfl rfl (show zyR _ _ _ _ [some (.ref 2), some (.ref (0 + 3)), some (.ref (43 + 3)), some (.int i)] [.ref (43 + 3)] _ _ from ?_)
  refine zy_0 rfl rfl (show zyR _ _ _ _ [some (.ref 2), some (.ref (0 + 3)), some (.ref (43 + 3)), some (.int i)] [.ref 2, .ref (43 + 3)] _ _ from ?_)
  refine zy_2 rfl rfl (show zyR _ _ _ _ [some (.ref 2), some (.ref (0 + 3)), some (.ref (43 + 3)), some (.int i)] [.int i, .ref 2, .ref (43 + 3)] _ _ from ?_)
  refine zy_3 rfl rfl (show zyR _ _ _ _ [some (.ref 2), some (.ref (0 + 3)), some (.ref (43 + 3)), some (.int i)] [.int (1 : Int32), .int i, .ref 2, .ref (43 + 3)] _ _ from ?_)
  refine zy_10 rfl (show zyR _ _ _ _ [some (.ref 2), some (.ref (0 + 3)), some (.ref (43 + 3)), some (.int i)] [.int (i + (1 : Int32)), .ref 2, .ref (43 + 3)] _ _ from ?_)
  refine zy_26s rfl (zl_in hX i0 i6 (by decide) (by decide)) (show zyR _ _ _ _ [some (.ref 2), some (.ref (0 + 3)), some (.ref (43 + 3)), some (.int i)] [.int (X.2 (i + (1 : Int32)).toNatClampNeg), .ref (43 + 3)] _ _ from ?_)
  refine zy_0 rfl rfl (show zyR _ _ _ _ [some (.ref 2), some (.ref (0 + 3)), some (.ref (43 + 3)), some (.int i)] [.ref 2, .int (X.2 (i + (1 : Int32)).toNatClampNeg), .ref (43 + 3)] _ _ from ?_)
  refine zy_2 rfl rfl (show zyR _ _ _ _ [some (.ref 2), some (.ref (0 + 3)), some (.ref (43 + 3)), some (.int i)] [.int i, .ref 2, .int (X.2 (i + (1 : Int32)).toNatClampNeg), .ref (43 + 3)] _ _ from ?_)
  refine zy_3 rfl rfl (show zyR _ _ _ _ [some (.ref 2), some (.ref (0 + 3)), some (.ref (43 + 3)), some (.int i)] [.int (2 : Int32), .int i, .ref 2, .int (X.2 (i + (1 : Int32)).toNatClampNeg), .ref (43 + 3)] _ _ from ?_)
  refine zy_10 rfl (show zyR _ _ _ _ [some (.ref 2), some (.ref (0 + 3)), some (.ref (43 + 3)), some (.int i)] [.int (i + (2 : Int32)), .ref 2, .int (X.2 (i + (1 : Int32)).toNatClampNeg), .ref (43 + 3)] _ _ from ?_)
  refine zy_26s rfl (zl_in hX i0 i6 (by decide) (by decide)) (show zyR _ _ _ _ [some (.ref 2), some (.ref (0 + 3)), some (.ref (43 + 3)), some (.int i)] [.int (X.2 (i + (2 : Int32)).toNatClampNeg), .int (X.2 (i + (1 : Int32)).toNatClampNeg), .ref (43 + 3)] _ _ from ?_)
  refine zy_5 (c := 43) (as := [.int (X.2 (i + (1 : Int32)).toNatClampNeg), .int (X.2 (i + (2 : Int32)).toNatClampNeg)]) (rest := []) (L := [some (.ref (43 + 3)), some (.int (X.2 (i + (1 : Int32)).toNatClampNeg)), some (.int (X.2 (i + (2 : Int32)).toNatClampNeg)), none, none, none]) (d' := 105) rfl rfl rfl (Nat.le_of_ble_eq_true rfl) (Nat.le_of_ble_eq_true rfl) rfl (Nat.le_of_ble_eq_true rfl) rfl rfl (zyC202 f2) ?_
  show zyR _ _ _ _ [some (.ref 2), some (.ref (0 + 3)), some (.ref (43 + 3)), some (.int i)] [.int r] _ _
  refine zy_34 rfl rfl (show zyR _ _ _ _ [some (.ref 2), some (.ref (0 + 3)), some (.ref (43 + 3)), some (.int i)] [] _ _ from ?_)
  exact zy_6 rfl (k _ hI)
theorem zlc_7 {X : zx_X} {i : Int32} {s : zy_S} {P : Option Value → zy_S → Prop} (hX : X.1 ≤ 3072) (i0 : 0 ≤ i.toInt) (i6 : i.toInt + 6 ≤ X.1) (h : zI s) (k : ∀ t, zI t → zyR X 2000 0 1435 [some (.ref 2), some (.ref (0 + 3)), some (.ref (43 + 3)), some (.int i)] [] t P) : zyR X 2000 0 423 [some (.ref 2), some (.ref (0 + 3)), some (.ref (43 + 3)), some (.int i)] [] s P := by
  obtain ⟨r, s1, s2, f1, f2, hI⟩ := zop_ifLine ((X.2 (i + (1 : Int32)).toNatClampNeg)) h
  refine zy_0 rfl rfl (show zyR _ _ _ _ [some (.ref 2), some (.ref (0 + 3)), some (.ref (43 + 3)), some (.int i)] [.ref (0 + 3)] _ _ from ?_)
  refine zy_0 rfl rfl (show zyR _ _ _ _ [some (.ref 2), some (.ref (0 + 3)), some (.ref (43 + 3)), some (.int i)] [.ref 2, .ref (0 + 3)] _ _ from ?_)
  refine zy_2 rfl rfl (show zyR _ _ _ _ [some (.ref 2), some (.ref (0 + 3)), some (.ref (43 + 3)), some (.int i)] [.int i, .ref 2, .ref (0 + 3)] _ _ from ?_)
  refine zy_3 rfl rfl (show zyR _ _ _ _ [some (.ref 2), some (.ref (0 + 3)), some (.ref (43 + 3)), some (.int i)] [.int (1 : Int32), .int i, .ref 2, .ref (0 + 3)] _ _ from ?_)
  refine zy_10 rfl (show zyR _ _ _ _ [some (.ref 2), some (.ref (0 + 3)), some (.ref (43 + 3)), some (.int i)] [.int (i + (1 : Int32)), .ref 2, .ref (0 + 3)] _ _ from ?_)
  refine zy_26s rfl (zl_in hX i0 i6 (by decide) (by decide)) (show zyR _ _ _ _ [some (.ref 2), some (.ref (0 + 3)), some (.ref (43 + 3)), some (.int i)] [.int (X.2 (i + (1 : Int32)).toNatClampNeg), .ref (0 + 3)] _ _ from ?_)
  refine zy_5 (c := 0) (as := [.int (X.2 (i + (1 : Int32)).toNatClampNeg)]) (rest := []) (L := [some (.ref (0 + 3)), some (.int (X.2 (i + (1 : Int32)).toNatClampNeg))]) (d' := 8) rfl rfl rfl (Nat.le_of_ble_eq_true rfl) (Nat.le_of_ble_eq_true rfl) rfl (Nat.le_of_ble_eq_true rfl) rfl rfl (zyC72 f1) ?_
  show zyR _ _ _ _ [some (.ref 2), some (.ref (0 + 3)), some (.ref (43 + 3)), some (.int i)] [.int r] _ _
  refine zy_34 rfl rfl (show zyR _ _ _ _ [some (.ref 2), some (.ref (0 + 3)), some (.ref (43 + 3)), some (.int i)] [] _ _ from ?_)
  refine zy_0 rfl rfl (show zyR _ _ _ _ [some (.ref 2), some (.ref (0 + 3)), some (.ref (43 + 3)), some (.int i)] [.ref (43 + 3)] _ _ from ?_)
  refine zy_0 rfl rfl (show zyR _ _ _ _ [some (.ref 2), some (.ref (0 + 3)), some (.ref (43 + 3)), some (.int i)] [.ref 2, .ref (43 + 3)] _ _ from ?_)
  refine zy_2 rfl rfl (show zyR _ _ _ _ [some (.ref 2), some (.ref (0 + 3)), some (.ref (43 + 3)), some (.int i)] [.int i, .ref 2, .ref (43 + 3)] _ _ from ?_)
  refine zy_3 rfl rfl (show zyR _ _ _ _ [some (.ref 2), some (.ref (0 + 3)), some (.ref (43 + 3)), some (.int i)] [.int (1 : Int32), .int i, .ref 2, .ref (43 + 3)] _ _ from ?_)
  refine zy_10 rfl (show zyR _ _ _ _ [some (.ref 2), some (.ref (0 + 3)), some (.ref (43 + 3)), some (.int i)] [.int (i + (1 : Int32)), .ref 2, .ref (43 + 3)] _ _ from ?_)
  refine zy_26s rfl (zl_in hX i0 i6 (by decide) (by decide)) (show zyR _ _ _ _ [some (.ref 2), some (.ref (0 + 3)), some (.ref (43 + 3)), some (.int i)] [.int (X.2 (i + (1 : Int32)).toNatClampNeg), .ref (43 + 3)] _ _ from ?_)
  refine zy_5 (c := 43) (as := [.int (X.2 (i + (1 : Int32)).toNatClampNeg)]) (rest := []) (L := [some (.ref (43 + 3)), some (.int (X.2 (i + (1 : Int32)).toNatClampNeg))]) (d' := 108) rfl rfl rfl (Nat.le_of_ble_eq_true rfl) (Nat.le_of_ble_eq_true rfl) rfl (Nat.le_of_ble_eq_true rfl) rfl rfl (zyC210 f2) ?_
  show zyR _ _ _ _ [some (.ref 2), some (.ref (0 + 3)), some (.ref (43 + 3)), some (.int i)] [.int r] _ _
  refine zy_34 rfl rfl (show zyR _ _ _ _ [some (.ref 2), some (.ref (0 + 3)), some (.ref (43 + 3)), some (.int i)] [] _ _ from ?_)
  exact zy_6 rfl (k _ hI)
theorem zlc_8 {X : zx_X} {i : Int32} {s : zy_S} {P : Option Value → zy_S → Prop} (hX : X.1 ≤ 3072) (i0 : 0 ≤ i.toInt) (i6 : i.toInt + 6 ≤ X.1) (h : zI s) (k : ∀ t, zI t → zyR X 2000 0 1435 [some (.ref 2), some (.ref (0 + 3)), some (.ref (43 + 3)), some (.int i)] [] t P) : zyR X 2000 0 446 [some (.ref 2), some (.ref (0 + 3)), some (.ref (43 + 3)), some (.int i)] [] s P := by
  obtain ⟨r, s1, s2, f1, f2, hI⟩ := zop_board ((X.2 (i + (1 : Int32)).toNatClampNeg)) h
  refine zy_0 rfl rfl (show zyR _ _ _ _ [some (.ref 2), some (.ref (0 + 3)), some (.ref (43 + 3)), some (.int i)] [.ref (0 + 3)] _ _ from ?_)
  refine zy_0 rfl rfl (show zyR _ _ _ _ [some (.ref 2), some (.ref (0 + 3)), some (.ref (43 + 3)), some (.int i)] [.ref 2, .ref (0 + 3)] _ _ from ?_)
  refine zy_2 rfl rfl (show zyR _ _ _ _ [some (.ref 2), some (.ref (0 + 3)), some (.ref (43 + 3)), some (.int i)] [.int i, .ref 2, .ref (0 + 3)] _ _ from ?_)
  refine zy_3 rfl rfl (show zyR _ _ _ _ [some (.ref 2), some (.ref (0 + 3)), some (.ref (43 + 3)), some (.int i)] [.int (1 : Int32), .int i, .ref 2, .ref (0 + 3)] _ _ from ?_)
  refine zy_10 rfl (show zyR _ _ _ _ [some (.ref 2), some (.ref (0 + 3)), some (.ref (43 + 3)), some (.int i)] [.int (i + (1 : Int32)), .ref 2, .ref (0 + 3)] _ _ from ?_)
  refine zy_26s rfl (zl_in hX i0 i6 (by decide) (by decide)) (show zyR _ _ _ _ [some (.ref 2), some (.ref (0 + 3)), some (.ref (43 + 3)), some (.int i)] [.int (X.2 (i + (1 : Int32)).toNatClampNeg), .ref (0 + 3)] _ _ from ?_)
  refine zy_5 (c := 0) (as := [.int (X.2 (i + (1 : Int32)).toNatClampNeg)]) (rest := []) (L := [some (.ref (0 + 3)), some (.int (X.2 (i + (1 : Int32)).toNatClampNeg))]) (d' := 8) rfl rfl rfl (Nat.le_of_ble_eq_true rfl) (Nat.le_of_ble_eq_true rfl) rfl (Nat.le_of_ble_eq_true rfl) rfl rfl (zyC75 f1) ?_
  show zyR _ _ _ _ [some (.ref 2), some (.ref (0 + 3)), some (.ref (43 + 3)), some (.int i)] [.int r] _ _
  refine zy_34 rfl rfl (show zyR _ _ _ _ [some (.ref 2), some (.ref (0 + 3)), some (.ref (43 + 3)), some (.int i)] [] _ _ from ?_)
  refine zy_0 rfl rfl (show zyR _ _ _ _ [some (.ref 2), some (.ref (0 + 3)), some (.ref (43 + 3)), some (.int i)] [.ref (43 + 3)] _ _ from ?_)
  refine zy_0 rfl rfl (show zyR _ _ _ _ [some (.ref 2), some (.ref (0 + 3)), some (.ref (43 + 3)), some (.int i)] [.ref 2, .ref (43 + 3)] _ _ from ?_)
  refine zy_2 rfl rfl (show zyR _ _ _ _ [some (.ref 2), some (.ref (0 + 3)), some (.ref (43 + 3)), some (.int i)] [.int i, .ref 2, .ref (43 + 3)] _ _ from ?_)
  refine zy_3 rfl rfl (show zyR _ _ _ _ [some (.ref 2), some (.ref (0 + 3)), some (.ref (43 + 3)), some (.int i)] [.int (1 : Int32), .int i, .ref 2, .ref (43 + 3)] _ _ from ?_)
  refine zy_10 rfl (show zyR _ _ _ _ [some (.ref 2), some (.ref (0 + 3)), some (.ref (43 + 3)), some (.int i)] [.int (i + (1 : Int32)), .ref 2, .ref (43 + 3)] _ _ from ?_)
  refine zy_26s rfl (zl_in hX i0 i6 (by decide) (by decide)) (show zyR _ _ _ _ [some (.ref 2), some (.ref (0 + 3)), some (.ref (43 + 3)), some (.int i)] [.int (X.2 (i + (1 : Int32)).toNatClampNeg), .ref (43 + 3)] _ _ from ?_)
  refine zy_5 (c := 43) (as := [.int (X.2 (i + (1 : Int32)).toNatClampNeg)]) (rest := []) (L := [some (.ref (43 + 3)), some (.int (X.2 (i + (1 : Int32)).toNatClampNeg))]) (d' := 107) rfl rfl rfl (Nat.le_of_ble_eq_true rfl) (Nat.le_of_ble_eq_true rfl) rfl (Nat.le_of_ble_eq_true rfl) rfl rfl (zyC214 f2) ?_
  show zyR _ _ _ _ [some (.ref 2), some (.ref (0 + 3)), some (.ref (43 + 3)), some (.int i)] [.int r] _ _
  refine zy_34 rfl rfl (show zyR _ _ _ _ [some (.ref 2), some (.ref (0 + 3)), some (.ref (43 + 3)), some (.int i)] [] _ _ from ?_)
  exact zy_6 rfl (k _ hI)
theorem zlc_9 {X : zx_X} {i : Int32} {s : zy_S} {P : Option Value → zy_S → Prop} (hX : X.1 ≤ 3072) (i0 : 0 ≤ i.toInt) (i6 : i.toInt + 6 ≤ X.1) (h : zI s) (k : ∀ t, zI t → zyR X 2000 0 1435 [some (.ref 2), some (.ref (0 + 3)), some (.ref (43 + 3)), some (.int i)] [] t P) : zyR X 2000 0 469 [some (.ref 2), some (.ref (0 + 3)), some (.ref (43 + 3)), some (.int i)] [] s P := by
  obtain ⟨r, s1, s2, f1, f2, hI⟩ := zop_cost ((X.2 (i + (1 : Int32)).toNatClampNeg)) ((X.2 (i + (2 : Int32)).toNatClampNeg)) h
  refine zy_0 rfl rfl (show zyR _ _ _ _ [some (.ref 2), some (.ref (0 + 3)), some (.ref (43 + 3)), some (.int i)] [.ref (0 + 3)] _ _ from ?_)
  refine zy_0 rfl rfl (show zyR _ _ _ _ [some (.ref 2), some (.ref (0 + 3)), some (.ref (43 + 3)), some (.int i)] [.ref 2, .ref (0 + 3)] _ _ from ?_)
  refine zy_2 rfl rfl (show zyR _ _ _ _ [some (.ref 2), some (.ref (0 + 3)), some (.ref (43 + 3)), some (.int i)] [.int i, .ref 2, .ref (0 + 3)] _ _ from ?_)
  refine zy_3 rfl rfl (show zyR _ _ _ _ [some (.ref 2), some (.ref (0 + 3)), some (.ref (43 + 3)), some (.int i)] [.int (1 : Int32), .int i, .ref 2, .ref (0 + 3)] _ _ from ?_)
  refine zy_10 rfl (show zyR _ _ _ _ [some (.ref 2), some (.ref (0 + 3)), some (.ref (43 + 3)), some (.int i)] [.int (i + (1 : Int32)), .ref 2, .ref (0 + 3)] _ _ from ?_)
  refine zy_26s rfl (zl_in hX i0 i6 (by decide) (by decide)) (show zyR _ _ _ _ [some (.ref 2), some (.ref (0 + 3)), some (.ref (43 + 3)), some (.int i)] [.int (X.2 (i + (1 : Int32)).toNatClampNeg), .ref (0 + 3)] _ _ from ?_)
  refine zy_0 rfl rfl (show zyR _ _ _ _ [some (.ref 2), some (.ref (0 + 3)), some (.ref (43 + 3)), some (.int i)] [.ref 2, .int (X.2 (i + (1 : Int32)).toNatClampNeg), .ref (0 + 3)] _ _ from ?_)
  refine zy_2 rfl rfl (show zyR _ _ _ _ [some (.ref 2), some (.ref (0 + 3)), some (.ref (43 + 3)), some (.int i)] [.int i, .ref 2, .int (X.2 (i + (1 : Int32)).toNatClampNeg), .ref (0 + 3)] _ _ from ?_)
  refine zy_3 rfl rfl (show zyR _ _ _ _ [some (.ref 2), some (.ref (0 + 3)), some (.ref (43 + 3)), some (.int i)] [.int (2 : Int32), .int i, .ref 2, .int (X.2 (i + (1 : Int32)).toNatClampNeg), .ref (0 + 3)] _ _ from ?_)
  refine zy_10 rfl (show zyR _ _ _ _ [some (.ref 2), some (.ref (0 + 3)), some (.ref (43 + 3)), some (.int i)] [.int (i + (2 : Int32)), .ref 2, .int (X.2 (i + (1 : Int32)).toNatClampNeg), .ref (0 + 3)] _ _ from ?_)
  refine zy_26s rfl (zl_in hX i0 i6 (by decide) (by decide)) (show zyR _ _ _ _ [some (.ref 2), some (.ref (0 + 3)), some (.ref (43 + 3)), some (.int i)] [.int (X.2 (i + (2 : Int32)).toNatClampNeg), .int (X.2 (i + (1 : Int32)).toNatClampNeg), .ref (0 + 3)] _ _ from ?_)
  refine zy_5 (c := 0) (as := [.int (X.2 (i + (1 : Int32)).toNatClampNeg), .int (X.2 (i + (2 : Int32)).toNatClampNeg)]) (rest := []) (L := [some (.ref (0 + 3)), some (.int (X.2 (i + (1 : Int32)).toNatClampNeg)), some (.int (X.2 (i + (2 : Int32)).toNatClampNeg)), none]) (d' := 8) rfl rfl rfl (Nat.le_of_ble_eq_true rfl) (Nat.le_of_ble_eq_true rfl) rfl (Nat.le_of_ble_eq_true rfl) rfl rfl (zyC83 f1) ?_
  show zyR _ _ _ _ [some (.ref 2), some (.ref (0 + 3)), some (.ref (43 + 3)), some (.int i)] [.int r] _ _
  refine zy_34 rfl rfl (show zyR _ _ _ _ [some (.ref 2), some (.ref (0 + 3)), some (.ref (43 + 3)), some (.int i)] [] _ _ from ?_)
  refine zy_0 rfl rfl (show zyR _ _ _ _ [some (.ref 2), some (.ref (0 + 3)), some (.ref (43 + 3)), some (.int i)] [.ref (43 + 3)] _ _ from ?_)
  refine zy_0 rfl rfl (show zyR _ _ _ _ [some (.ref 2), some (.ref (0 + 3)), some (.ref (43 + 3)), some (.int i)] [.ref 2, .ref (43 + 3)] _ _ from ?_)
  refine zy_2 rfl rfl (show zyR _ _ _ _ [some (.ref 2), some (.ref (0 + 3)), some (.ref (43 + 3)), some (.int i)] [.int i, .ref 2, .ref (43 + 3)] _ _ from ?_)
  refine zy_3 rfl rfl (show zyR _ _ _ _ [some (.ref 2), some (.ref (0 + 3)), some (.ref (43 + 3)), some (.int i)] [.int (1 : Int32), .int i, .ref 2, .ref (43 + 3)] _ _ from ?_)
  refine zy_10 rfl (show zyR _ _ _ _ [some (.ref 2), some (.ref (0 + 3)), some (.ref (43 + 3)), some (.int i)] [.int (i + (1 : Int32)), .ref 2, .ref (43 + 3)] _ _ from ?_)
  refine zy_26s rfl (zl_in hX i0 i6 (by decide) (by decide)) (show zyR _ _ _ _ [some (.ref 2), some (.ref (0 + 3)), some (.ref (43 + 3)), some (.int i)] [.int (X.2 (i + (1 : Int32)).toNatClampNeg), .ref (43 + 3)] _ _ from ?_)
  refine zy_0 rfl rfl (show zyR _ _ _ _ [some (.ref 2), some (.ref (0 + 3)), some (.ref (43 + 3)), some (.int i)] [.ref 2, .int (X.2 (i + (1 : Int32)).toNatClampNeg), .ref (43 + 3)] _ _ from ?_)
  refine zy_2 rfl rfl (show zyR _ _ _ _ [some (.ref 2), some (.ref (0 + 3)), some (.ref (43 + 3)), some (.int i)] [.int i, .ref 2, .int (X.2 (i + (1 : Int32)).toNatClampNeg), .ref (43 + 3)] _ _ from ?_)
  refine zy_3 rfl rfl (show zyR _ _ _ _ [some (.ref 2), some (.ref (0 + 3)), some (.ref (43 + 3)), some (.int i)] [.int (2 : Int32), .int i, .ref 2, .int (X.2 (i + (1 : Int32)).toNatClampNeg), .ref (43 + 3)] _ _ from ?_)
  refine zy_10 rfl (show zyR _ _ _ _ [some (.ref 2), some (.ref (0 + 3)), some (.ref (43 + 3)), some (.int i)] [.int (i + (2 : Int32)), .ref 2, .int (X.2 (i + (1 : Int32)).toNatClampNeg), .ref (43 + 3)] _ _ from ?_)
  refine zy_26s rfl (zl_in hX i0 i6 (by decide) (by decide)) (show zyR _ _ _ _ [some (.ref 2), some (.ref (0 + 3)), some (.ref (43 + 3)), some (.int i)] [.int (X.2 (i + (2 : Int32)).toNatClampNeg), .int (X.2 (i + (1 : Int32)).toNatClampNeg), .ref (43 + 3)] _ _ from ?_)
  refine zy_5 (c := 43) (as := [.int (X.2 (i + (1 : Int32)).toNatClampNeg), .int (X.2 (i + (2 : Int32)).toNatClampNeg)]) (rest := []) (L := [some (.ref (43 + 3)), some (.int (X.2 (i + (1 : Int32)).toNatClampNeg)), some (.int (X.2 (i + (2 : Int32)).toNatClampNeg)), none, none, none, none]) (d' := 108) rfl rfl rfl (Nat.le_of_ble_eq_true rfl) (Nat.le_of_ble_eq_true rfl) rfl (Nat.le_of_ble_eq_true rfl) rfl rfl (zyC217 f2) ?_
  show zyR _ _ _ _ [some (.ref 2), some (.ref (0 + 3)), some (.ref (43 + 3)), some (.int i)] [.int r] _ _
  refine zy_34 rfl rfl (show zyR _ _ _ _ [some (.ref 2), some (.ref (0 + 3)), some (.ref (43 + 3)), some (.int i)] [] _ _ from ?_)
  exact zy_6 rfl (k _ hI)
theorem zlc_10 {X : zx_X} {i : Int32} {s : zy_S} {P : Option Value → zy_S → Prop} (hX : X.1 ≤ 3072) (i0 : 0 ≤ i.toInt) (i6 : i.toInt + 6 ≤ X.1) (h : zI s) (k : ∀ t, zI t → zyR X 2000 0 1435 [some (.ref 2), some (.ref (0 + 3)), some (.ref (43 + 3)), some (.int i)] [] t P) : zyR X 2000 0 502 [some (.ref 2), some (.ref (0 + 3)), some (.ref (43 + 3)), some (.int i)] [] s P := by
  obtain ⟨r, s1, s2, f1, f2, hI⟩ := zop_helps ((X.2 (i + (1 : Int32)).toNatClampNeg)) h
  refine zy_0 rfl rfl (show zyR _ _ _ _ [some (.ref 2), some (.ref (0 + 3)), some (.ref (43 + 3)), some (.int i)] [.ref (0 + 3)] _ _ from ?_)
  refine zy_0 rfl rfl (show zyR _ _ _ _ [some (.ref 2), some (.ref (0 + 3)), some (.ref (43 + 3)), some (.int i)] [.ref 2, .ref (0 + 3)] _ _ from ?_)
  refine zy_2 rfl rfl (show zyR _ _ _ _ [some (.ref 2), some (.ref (0 + 3)), some (.ref (43 + 3)), some (.int i)] [.int i, .ref 2, .ref (0 + 3)] _ _ from ?_)
  refine zy_3 rfl rfl (show zyR _ _ _ _ [some (.ref 2), some (.ref (0 + 3)), some (.ref (43 + 3)), some (.int i)] [.int (1 : Int32), .int i, .ref 2, .ref (0 + 3)] _ _ from ?_)
  refine zy_10 rfl (show zyR _ _ _ _ [some (.ref 2), some (.ref (0 + 3)), some (.ref (43 + 3)), some (.int i)] [.int (i + (1 : Int32)), .ref 2, .ref (0 + 3)] _ _ from ?_)
  refine zy_26s rfl (zl_in hX i0 i6 (by decide) (by decide)) (show zyR _ _ _ _ [some (.ref 2), some (.ref (0 + 3)), some (.ref (43 + 3)), some (.int i)] [.int (X.2 (i + (1 : Int32)).toNatClampNeg), .ref (0 + 3)] _ _ from ?_)
  refine zy_5 (c := 0) (as := [.int (X.2 (i + (1 : Int32)).toNatClampNeg)]) (rest := []) (L := [some (.ref (0 + 3)), some (.int (X.2 (i + (1 : Int32)).toNatClampNeg)), none]) (d' := 8) rfl rfl rfl (Nat.le_of_ble_eq_true rfl) (Nat.le_of_ble_eq_true rfl) rfl (Nat.le_of_ble_eq_true rfl) rfl rfl (zyC89 f1) ?_
  show zyR _ _ _ _ [some (.ref 2), some (.ref (0 + 3)), some (.ref (43 + 3)), some (.int i)] [.int r] _ _
  refine zy_34 rfl rfl (show zyR _ _ _ _ [some (.ref 2), some (.ref (0 + 3)), some (.ref (43 + 3)), some (.int i)] [] _ _ from ?_)
  refine zy_0 rfl rfl (show zyR _ _ _ _ [some (.ref 2), some (.ref (0 + 3)), some (.ref (43 + 3)), some (.int i)] [.ref (43 + 3)] _ _ from ?_)
  refine zy_0 rfl rfl (show zyR _ _ _ _ [some (.ref 2), some (.ref (0 + 3)), some (.ref (43 + 3)), some (.int i)] [.ref 2, .ref (43 + 3)] _ _ from ?_)
  refine zy_2 rfl rfl (show zyR _ _ _ _ [some (.ref 2), some (.ref (0 + 3)), some (.ref (43 + 3)), some (.int i)] [.int i, .ref 2, .ref (43 + 3)] _ _ from ?_)
  refine zy_3 rfl rfl (show zyR _ _ _ _ [some (.ref 2), some (.ref (0 + 3)), some (.ref (43 + 3)), some (.int i)] [.int (1 : Int32), .int i, .ref 2, .ref (43 + 3)] _ _ from ?_)
  refine zy_10 rfl (show zyR _ _ _ _ [some (.ref 2), some (.ref (0 + 3)), some (.ref (43 + 3)), some (.int i)] [.int (i + (1 : Int32)), .ref 2, .ref (43 + 3)] _ _ from ?_)
  refine zy_26s rfl (zl_in hX i0 i6 (by decide) (by decide)) (show zyR _ _ _ _ [some (.ref 2), some (.ref (0 + 3)), some (.ref (43 + 3)), some (.int i)] [.int (X.2 (i + (1 : Int32)).toNatClampNeg), .ref (43 + 3)] _ _ from ?_)
  refine zy_5 (c := 43) (as := [.int (X.2 (i + (1 : Int32)).toNatClampNeg)]) (rest := []) (L := [some (.ref (43 + 3)), some (.int (X.2 (i + (1 : Int32)).toNatClampNeg)), none, none, none, none]) (d' := 108) rfl rfl rfl (Nat.le_of_ble_eq_true rfl) (Nat.le_of_ble_eq_true rfl) rfl (Nat.le_of_ble_eq_true rfl) rfl rfl (zyC218 f2) ?_
  show zyR _ _ _ _ [some (.ref 2), some (.ref (0 + 3)), some (.ref (43 + 3)), some (.int i)] [.int r] _ _
  refine zy_34 rfl rfl (show zyR _ _ _ _ [some (.ref 2), some (.ref (0 + 3)), some (.ref (43 + 3)), some (.int i)] [] _ _ from ?_)
  exact zy_6 rfl (k _ hI)
theorem zlc_11 {X : zx_X} {i : Int32} {s : zy_S} {P : Option Value → zy_S → Prop} (hX : X.1 ≤ 3072) (i0 : 0 ≤ i.toInt) (i6 : i.toInt + 6 ≤ X.1) (h : zI s) (k : ∀ t, zI t → zyR X 2000 0 1435 [some (.ref 2), some (.ref (0 + 3)), some (.ref (43 + 3)), some (.int i)] [] t P) : zyR X 2000 0 525 [some (.ref 2), some (.ref (0 + 3)), some (.ref (43 + 3)), some (.int i)] [] s P := by
  obtain ⟨r, s1, s2, f1, f2, hI⟩ := zop_lines ((X.2 (i + (1 : Int32)).toNatClampNeg)) h
  refine zy_0 rfl rfl (show zyR _ _ _ _ [some (.ref 2), some (.ref (0 + 3)), some (.ref (43 + 3)), some (.int i)] [.ref (0 + 3)] _ _ from ?_)
  refine zy_0 rfl rfl (show zyR _ _ _ _ [some (.ref 2), some (.ref (0 + 3)), some (.ref (43 + 3)), some (.int i)] [.ref 2, .ref (0 + 3)] _ _ from ?_)
  refine zy_2 rfl rfl (show zyR _ _ _ _ [some (.ref 2), some (.ref (0 + 3)), some (.ref (43 + 3)), some (.int i)] [.int i, .ref 2, .ref (0 + 3)] _ _ from ?_)
  refine zy_3 rfl rfl (show zyR _ _ _ _ [some (.ref 2), some (.ref (0 + 3)), some (.ref (43 + 3)), some (.int i)] [.int (1 : Int32), .int i, .ref 2, .ref (0 + 3)] _ _ from ?_)
  refine zy_10 rfl (show zyR _ _ _ _ [some (.ref 2), some (.ref (0 + 3)), some (.ref (43 + 3)), some (.int i)] [.int (i + (1 : Int32)), .ref 2, .ref (0 + 3)] _ _ from ?_)
  refine zy_26s rfl (zl_in hX i0 i6 (by decide) (by decide)) (show zyR _ _ _ _ [some (.ref 2), some (.ref (0 + 3)), some (.ref (43 + 3)), some (.int i)] [.int (X.2 (i + (1 : Int32)).toNatClampNeg), .ref (0 + 3)] _ _ from ?_)
  refine zy_5 (c := 0) (as := [.int (X.2 (i + (1 : Int32)).toNatClampNeg)]) (rest := []) (L := [some (.ref (0 + 3)), some (.int (X.2 (i + (1 : Int32)).toNatClampNeg))]) (d' := 5) rfl rfl rfl (Nat.le_of_ble_eq_true rfl) (Nat.le_of_ble_eq_true rfl) rfl (Nat.le_of_ble_eq_true rfl) rfl rfl (zyC93 f1) ?_
  show zyR _ _ _ _ [some (.ref 2), some (.ref (0 + 3)), some (.ref (43 + 3)), some (.int i)] [.int r] _ _
  refine zy_34 rfl rfl (show zyR _ _ _ _ [some (.ref 2), some (.ref (0 + 3)), some (.ref (43 + 3)), some (.int i)] [] _ _ from ?_)
  refine zy_0 rfl rfl (show zyR _ _ _ _ [some (.ref 2), some (.ref (0 + 3)), some (.ref (43 + 3)), some (.int i)] [.ref (43 + 3)] _ _ from ?_)
  refine zy_0 rfl rfl (show zyR _ _ _ _ [some (.ref 2), some (.ref (0 + 3)), some (.ref (43 + 3)), some (.int i)] [.ref 2, .ref (43 + 3)] _ _ from ?_)
  refine zy_2 rfl rfl (show zyR _ _ _ _ [some (.ref 2), some (.ref (0 + 3)), some (.ref (43 + 3)), some (.int i)] [.int i, .ref 2, .ref (43 + 3)] _ _ from ?_)
  refine zy_3 rfl rfl (show zyR _ _ _ _ [some (.ref 2), some (.ref (0 + 3)), some (.ref (43 + 3)), some (.int i)] [.int (1 : Int32), .int i, .ref 2, .ref (43 + 3)] _ _ from ?_)
  refine zy_10 rfl (show zyR _ _ _ _ [some (.ref 2), some (.ref (0 + 3)), some (.ref (43 + 3)), some (.int i)] [.int (i + (1 : Int32)), .ref 2, .ref (43 + 3)] _ _ from ?_)
  refine zy_26s rfl (zl_in hX i0 i6 (by decide) (by decide)) (show zyR _ _ _ _ [some (.ref 2), some (.ref (0 + 3)), some (.ref (43 + 3)), some (.int i)] [.int (X.2 (i + (1 : Int32)).toNatClampNeg), .ref (43 + 3)] _ _ from ?_)
  refine zy_5 (c := 43) (as := [.int (X.2 (i + (1 : Int32)).toNatClampNeg)]) (rest := []) (L := [some (.ref (43 + 3)), some (.int (X.2 (i + (1 : Int32)).toNatClampNeg)), none, none, none]) (d' := 5) rfl rfl rfl (Nat.le_of_ble_eq_true rfl) (Nat.le_of_ble_eq_true rfl) rfl (Nat.le_of_ble_eq_true rfl) rfl rfl (zyC220 f2) ?_
  show zyR _ _ _ _ [some (.ref 2), some (.ref (0 + 3)), some (.ref (43 + 3)), some (.int i)] [.int r] _ _
  refine zy_34 rfl rfl (show zyR _ _ _ _ [some (.ref 2), some (.ref (0 + 3)), some (.ref (43 + 3)), some (.int i)] [] _ _ from ?_)
  exact zy_6 rfl (k _ hI)
theorem zlc_12 {X : zx_X} {i : Int32} {s : zy_S} {P : Option Value → zy_S → Prop} (hX : X.1 ≤ 3072) (i0 : 0 ≤ i.toInt) (i6 : i.toInt + 6 ≤ X.1) (h : zI s) (k : ∀ t, zI t → zyR X 2000 0 1435 [some (.ref 2), some (.ref (0 + 3)), some (.ref (43 + 3)), some (.int i)] [] t P) : zyR X 2000 0 548 [some (.ref 2), some (.ref (0 + 3)), some (.ref (43 + 3)), some (.int i)] [] s P := by
  obtain ⟨r, s1, s2, f1, f2, hI⟩ := zop_win ((X.2 (i + (1 : Int32)).toNatClampNeg)) ((X.2 (i + (2 : Int32)).toNatClampNeg)) h
  refine zy_0 rfl rfl (show zyR _ _ _ _ [some (.ref 2), some (.ref (0 + 3)), some (.ref (43 + 3)), some (.int i)] [.ref (0 + 3)] _ _ from ?_)
  refine zy_0 rfl rfl (show zyR _ _ _ _ [some (.ref 2), some (.ref (0 + 3)), some (.ref (43 + 3)), some (.int i)] [.ref 2, .ref (0 + 3)] _ _ from ?_)
  refine zy_2 rfl rfl (show zyR _ _ _ _ [some (.ref 2), some (.ref (0 + 3)), some (.ref (43 + 3)), some (.int i)] [.int i, .ref 2, .ref (0 + 3)] _ _ from ?_)
  refine zy_3 rfl rfl (show zyR _ _ _ _ [some (.ref 2), some (.ref (0 + 3)), some (.ref (43 + 3)), some (.int i)] [.int (1 : Int32), .int i, .ref 2, .ref (0 + 3)] _ _ from ?_)
  refine zy_10 rfl (show zyR _ _ _ _ [some (.ref 2), some (.ref (0 + 3)), some (.ref (43 + 3)), some (.int i)] [.int (i + (1 : Int32)), .ref 2, .ref (0 + 3)] _ _ from ?_)
  refine zy_26s rfl (zl_in hX i0 i6 (by decide) (by decide)) (show zyR _ _ _ _ [some (.ref 2), some (.ref (0 + 3)), some (.ref (43 + 3)), some (.int i)] [.int (X.2 (i + (1 : Int32)).toNatClampNeg), .ref (0 + 3)] _ _ from ?_)
  refine zy_0 rfl rfl (show zyR _ _ _ _ [some (.ref 2), some (.ref (0 + 3)), some (.ref (43 + 3)), some (.int i)] [.ref 2, .int (X.2 (i + (1 : Int32)).toNatClampNeg), .ref (0 + 3)] _ _ from ?_)
  refine zy_2 rfl rfl (show zyR _ _ _ _ [some (.ref 2), some (.ref (0 + 3)), some (.ref (43 + 3)), some (.int i)] [.int i, .ref 2, .int (X.2 (i + (1 : Int32)).toNatClampNeg), .ref (0 + 3)] _ _ from ?_)
  refine zy_3 rfl rfl (show zyR _ _ _ _ [some (.ref 2), some (.ref (0 + 3)), some (.ref (43 + 3)), some (.int i)] [.int (2 : Int32), .int i, .ref 2, .int (X.2 (i + (1 : Int32)).toNatClampNeg), .ref (0 + 3)] _ _ from ?_)
  refine zy_10 rfl (show zyR _ _ _ _ [some (.ref 2), some (.ref (0 + 3)), some (.ref (43 + 3)), some (.int i)] [.int (i + (2 : Int32)), .ref 2, .int (X.2 (i + (1 : Int32)).toNatClampNeg), .ref (0 + 3)] _ _ from ?_)
  refine zy_26s rfl (zl_in hX i0 i6 (by decide) (by decide)) (show zyR _ _ _ _ [some (.ref 2), some (.ref (0 + 3)), some (.ref (43 + 3)), some (.int i)] [.int (X.2 (i + (2 : Int32)).toNatClampNeg), .int (X.2 (i + (1 : Int32)).toNatClampNeg), .ref (0 + 3)] _ _ from ?_)
  refine zy_5 (c := 0) (as := [.int (X.2 (i + (1 : Int32)).toNatClampNeg), .int (X.2 (i + (2 : Int32)).toNatClampNeg)]) (rest := []) (L := [some (.ref (0 + 3)), some (.int (X.2 (i + (1 : Int32)).toNatClampNeg)), some (.int (X.2 (i + (2 : Int32)).toNatClampNeg)), none]) (d' := 5) rfl rfl rfl (Nat.le_of_ble_eq_true rfl) (Nat.le_of_ble_eq_true rfl) rfl (Nat.le_of_ble_eq_true rfl) rfl rfl (zyC100 f1) ?_
  show zyR _ _ _ _ [some (.ref 2), some (.ref (0 + 3)), some (.ref (43 + 3)), some (.int i)] [.int r] _ _
  refine zy_34 rfl rfl (show zyR _ _ _ _ [some (.ref 2), some (.ref (0 + 3)), some (.ref (43 + 3)), some (.int i)] [] _ _ from ?_)
  refine zy_0 rfl rfl (show zyR _ _ _ _ [some (.ref 2), some (.ref (0 + 3)), some (.ref (43 + 3)), some (.int i)] [.ref (43 + 3)] _ _ from ?_)
  refine zy_0 rfl rfl (show zyR _ _ _ _ [some (.ref 2), some (.ref (0 + 3)), some (.ref (43 + 3)), some (.int i)] [.ref 2, .ref (43 + 3)] _ _ from ?_)
  refine zy_2 rfl rfl (show zyR _ _ _ _ [some (.ref 2), some (.ref (0 + 3)), some (.ref (43 + 3)), some (.int i)] [.int i, .ref 2, .ref (43 + 3)] _ _ from ?_)
  refine zy_3 rfl rfl (show zyR _ _ _ _ [some (.ref 2), some (.ref (0 + 3)), some (.ref (43 + 3)), some (.int i)] [.int (1 : Int32), .int i, .ref 2, .ref (43 + 3)] _ _ from ?_)
  refine zy_10 rfl (show zyR _ _ _ _ [some (.ref 2), some (.ref (0 + 3)), some (.ref (43 + 3)), some (.int i)] [.int (i + (1 : Int32)), .ref 2, .ref (43 + 3)] _ _ from ?_)
  refine zy_26s rfl (zl_in hX i0 i6 (by decide) (by decide)) (show zyR _ _ _ _ [some (.ref 2), some (.ref (0 + 3)), some (.ref (43 + 3)), some (.int i)] [.int (X.2 (i + (1 : Int32)).toNatClampNeg), .ref (43 + 3)] _ _ from ?_)
  refine zy_0 rfl rfl (show zyR _ _ _ _ [some (.ref 2), some (.ref (0 + 3)), some (.ref (43 + 3)), some (.int i)] [.ref 2, .int (X.2 (i + (1 : Int32)).toNatClampNeg), .ref (43 + 3)] _ _ from ?_)
  refine zy_2 rfl rfl (show zyR _ _ _ _ [some (.ref 2), some (.ref (0 + 3)), some (.ref (43 + 3)), some (.int i)] [.int i, .ref 2, .int (X.2 (i + (1 : Int32)).toNatClampNeg), .ref (43 + 3)] _ _ from ?_)
  refine zy_3 rfl rfl (show zyR _ _ _ _ [some (.ref 2), some (.ref (0 + 3)), some (.ref (43 + 3)), some (.int i)] [.int (2 : Int32), .int i, .ref 2, .int (X.2 (i + (1 : Int32)).toNatClampNeg), .ref (43 + 3)] _ _ from ?_)
  refine zy_10 rfl (show zyR _ _ _ _ [some (.ref 2), some (.ref (0 + 3)), some (.ref (43 + 3)), some (.int i)] [.int (i + (2 : Int32)), .ref 2, .int (X.2 (i + (1 : Int32)).toNatClampNeg), .ref (43 + 3)] _ _ from ?_)
  refine zy_26s rfl (zl_in hX i0 i6 (by decide) (by decide)) (show zyR _ _ _ _ [some (.ref 2), some (.ref (0 + 3)), some (.ref (43 + 3)), some (.int i)] [.int (X.2 (i + (2 : Int32)).toNatClampNeg), .int (X.2 (i + (1 : Int32)).toNatClampNeg), .ref (43 + 3)] _ _ from ?_)
  refine zy_5 (c := 43) (as := [.int (X.2 (i + (1 : Int32)).toNatClampNeg), .int (X.2 (i + (2 : Int32)).toNatClampNeg)]) (rest := []) (L := [some (.ref (43 + 3)), some (.int (X.2 (i + (1 : Int32)).toNatClampNeg)), some (.int (X.2 (i + (2 : Int32)).toNatClampNeg)), none, none]) (d' := 5) rfl rfl rfl (Nat.le_of_ble_eq_true rfl) (Nat.le_of_ble_eq_true rfl) rfl (Nat.le_of_ble_eq_true rfl) rfl rfl (zyC224 f2) ?_
  show zyR _ _ _ _ [some (.ref 2), some (.ref (0 + 3)), some (.ref (43 + 3)), some (.int i)] [.int r] _ _
  refine zy_34 rfl rfl (show zyR _ _ _ _ [some (.ref 2), some (.ref (0 + 3)), some (.ref (43 + 3)), some (.int i)] [] _ _ from ?_)
  exact zy_6 rfl (k _ hI)
theorem zlc_13 {X : zx_X} {i : Int32} {s : zy_S} {P : Option Value → zy_S → Prop} (hX : X.1 ≤ 3072) (i0 : 0 ≤ i.toInt) (i6 : i.toInt + 6 ≤ X.1) (h : zI s) (k : ∀ t, zI t → zyR X 2000 0 1435 [some (.ref 2), some (.ref (0 + 3)), some (.ref (43 + 3)), some (.int i)] [] t P) : zyR X 2000 0 581 [some (.ref 2), some (.ref (0 + 3)), some (.ref (43 + 3)), some (.int i)] [] s P := by
  obtain ⟨r, s1, s2, f1, f2, hI⟩ := zop_matters ((X.2 (i + (1 : Int32)).toNatClampNeg)) h
  refine zy_0 rfl rfl (show zyR _ _ _ _ [some (.ref 2), some (.ref (0 + 3)), some (.ref (43 + 3)), some (.int i)] [.ref (0 + 3)] _ _ from ?_)
  refine zy_0 rfl rfl (show zyR _ _ _ _ [some (.ref 2), some (.ref (0 + 3)), some (.ref (43 + 3)), some (.int i)] [.ref 2, .ref (0 + 3)] _ _ from ?_)
  refine zy_2 rfl rfl (show zyR _ _ _ _ [some (.ref 2), some (.ref (0 + 3)), some (.ref (43 + 3)), some (.int i)] [.int i, .ref 2, .ref (0 + 3)] _ _ from ?_)
  refine zy_3 rfl rfl (show zyR _ _ _ _ [some (.ref 2), some (.ref (0 + 3)), some (.ref (43 + 3)), some (.int i)] [.int (1 : Int32), .int i, .ref 2, .ref (0 + 3)] _ _ from ?_)
  refine zy_10 rfl (show zyR _ _ _ _ [some (.ref 2), some (.ref (0 + 3)), some (.ref (43 + 3)), some (.int i)] [.int (i + (1 : Int32)), .ref 2, .ref (0 + 3)] _ _ from ?_)
  refine zy_26s rfl (zl_in hX i0 i6 (by decide) (by decide)) (show zyR _ _ _ _ [some (.ref 2), some (.ref (0 + 3)), some (.ref (43 + 3)), some (.int i)] [.int (X.2 (i + (1 : Int32)).toNatClampNeg), .ref (0 + 3)] _ _ from ?_)
  refine zy_5 (c := 0) (as := [.int (X.2 (i + (1 : Int32)).toNatClampNeg)]) (rest := []) (L := [some (.ref (0 + 3)), some (.int (X.2 (i + (1 : Int32)).toNatClampNeg)), none, none, none, none]) (d' := 2) rfl rfl rfl (Nat.le_of_ble_eq_true rfl) (Nat.le_of_ble_eq_true rfl) rfl (Nat.le_of_ble_eq_true rfl) rfl rfl (zyC102 f1) ?_
  show zyR _ _ _ _ [some (.ref 2), some (.ref (0 + 3)), some (.ref (43 + 3)), some (.int i)] [.int r] _ _
  refine zy_34 rfl rfl (show zyR _ _ _ _ [some (.ref 2), some (.ref (0 + 3)), some (.ref (43 + 3)), some (.int i)] [] _ _ from ?_)
  refine zy_0 rfl rfl (show zyR _ _ _ _ [some (.ref 2), some (.ref (0 + 3)), some (.ref (43 + 3)), some (.int i)] [.ref (43 + 3)] _ _ from ?_)
  refine zy_0 rfl rfl (show zyR _ _ _ _ [some (.ref 2), some (.ref (0 + 3)), some (.ref (43 + 3)), some (.int i)] [.ref 2, .ref (43 + 3)] _ _ from ?_)
  refine zy_2 rfl rfl (show zyR _ _ _ _ [some (.ref 2), some (.ref (0 + 3)), some (.ref (43 + 3)), some (.int i)] [.int i, .ref 2, .ref (43 + 3)] _ _ from ?_)
  refine zy_3 rfl rfl (show zyR _ _ _ _ [some (.ref 2), some (.ref (0 + 3)), some (.ref (43 + 3)), some (.int i)] [.int (1 : Int32), .int i, .ref 2, .ref (43 + 3)] _ _ from ?_)
  refine zy_10 rfl (show zyR _ _ _ _ [some (.ref 2), some (.ref (0 + 3)), some (.ref (43 + 3)), some (.int i)] [.int (i + (1 : Int32)), .ref 2, .ref (43 + 3)] _ _ from ?_)
  refine zy_26s rfl (zl_in hX i0 i6 (by decide) (by decide)) (show zyR _ _ _ _ [some (.ref 2), some (.ref (0 + 3)), some (.ref (43 + 3)), some (.int i)] [.int (X.2 (i + (1 : Int32)).toNatClampNeg), .ref (43 + 3)] _ _ from ?_)
  refine zy_5 (c := 43) (as := [.int (X.2 (i + (1 : Int32)).toNatClampNeg)]) (rest := []) (L := [some (.ref (43 + 3)), some (.int (X.2 (i + (1 : Int32)).toNatClampNeg)), none, none, none, none]) (d' := 2) rfl rfl rfl (Nat.le_of_ble_eq_true rfl) (Nat.le_of_ble_eq_true rfl) rfl (Nat.le_of_ble_eq_true rfl) rfl rfl (zyC225 f2) ?_
  show zyR _ _ _ _ [some (.ref 2), some (.ref (0 + 3)), some (.ref (43 + 3)), some (.int i)] [.int r] _ _
  refine zy_34 rfl rfl (show zyR _ _ _ _ [some (.ref 2), some (.ref (0 + 3)), some (.ref (43 + 3)), some (.int i)] [] _ _ from ?_)
  exact zy_6 rfl (k _ hI)
end
section
/-! PART 48.21: cases of the law. Made by wip/v4/gen_law.py. -/
theorem zlc_14 {X : zx_X} {i : Int32} {s : zy_S} {P : Option Value → zy_S → Prop} (hX : X.1 ≤ 3072) (i0 : 0 ≤ i.toInt) (i6 : i.toInt + 6 ≤ X.1) (h : zI s) (k : ∀ t, zI t → zyR X 2000 0 1435 [some (.ref 2), some (.ref (0 + 3)), some (.ref (43 + 3)), some (.int i)] [] t P) : zyR X 2000 0 604 [some (.ref 2), some (.ref (0 + 3)), some (.ref (43 + 3)), some (.int i)] [] s P := by
  obtain ⟨r, s1, s2, f1, f2, hI⟩ := zop_byTurns ((X.2 (i + (1 : Int32)).toNatClampNeg)) ((X.2 (i + (2 : Int32)).toNatClampNeg)) h
  refine zy_0 rfl rfl (show zyR _ _ _ _ [some (.ref 2), some (.ref (0 + 3)), some (.ref (43 + 3)), some (.int i)] [.ref (0 + 3)] _ _ from ?_)
  refine zy_0 rfl rfl (show zyR _ _ _ _ [some (.ref 2), some (.ref (0 + 3)), some (.ref (43 + 3)), some (.int i)] [.ref 2, .ref (0 + 3)] _ _ from ?_)
  refine zy_2 rfl rfl (show zyR _ _ _ _ [some (.ref 2), some (.ref (0 + 3)), some (.ref (43 + 3)), some (.int i)] [.int i, .ref 2, .ref (0 + 3)] _ _ from ?_)
  refine zy_3 rfl rfl (show zyR _ _ _ _ [some (.ref 2), some (.ref (0 + 3)), some (.ref (43 + 3)), some (.int i)] [.int (1 : Int32), .int i, .ref 2, .ref (0 + 3)] _ _ from ?_)
  refine zy_10 rfl (show zyR _ _ _ _ [some (.ref 2), some (.ref (0 + 3)), some (.ref (43 + 3)), some (.int i)] [.int (i + (1 : Int32)), .ref 2, .ref (0 + 3)] _ _ from ?_)
  refine zy_26s rfl (zl_in hX i0 i6 (by decide) (by decide)) (show zyR _ _ _ _ [some (.ref 2), some (.ref (0 + 3)), some (.ref (43 + 3)), some (.int i)] [.int (X.2 (i + (1 : Int32)).toNatClampNeg), .ref (0 + 3)] _ _ from ?_)
  refine zy_0 rfl rfl (show zyR _ _ _ _ [some (.ref 2), some (.ref (0 + 3)), some (.ref (43 + 3)), some (.int i)] [.ref 2, .int (X.2 (i + (1 : Int32)).toNatClampNeg), .ref (0 + 3)] _ _ from ?_)
  refine zy_2 rfl rfl (show zyR _ _ _ _ [some (.ref 2), some (.ref (0 + 3)), some (.ref (43 + 3)), some (.int i)] [.int i, .ref 2, .int (X.2 (i + (1 : Int32)).toNatClampNeg), .ref (0 + 3)] _ _ from ?_)
  refine zy_3 rfl rfl (show zyR _ _ _ _ [some (.ref 2), some (.ref (0 + 3)), some (.ref (43 + 3)), some (.int i)] [.int (2 : Int32), .int i, .ref 2, .int (X.2 (i + (1 : Int32)).toNatClampNeg), .ref (0 + 3)] _ _ from ?_)
  refine zy_10 rfl (show zyR _ _ _ _ [some (.ref 2), some (.ref (0 + 3)), some (.ref (43 + 3)), some (.int i)] [.int (i + (2 : Int32)), .ref 2, .int (X.2 (i + (1 : Int32)).toNatClampNeg), .ref (0 + 3)] _ _ from ?_)
  refine zy_26s rfl (zl_in hX i0 i6 (by decide) (by decide)) (show zyR _ _ _ _ [some (.ref 2), some (.ref (0 + 3)), some (.ref (43 + 3)), some (.int i)] [.int (X.2 (i + (2 : Int32)).toNatClampNeg), .int (X.2 (i + (1 : Int32)).toNatClampNeg), .ref (0 + 3)] _ _ from ?_)
  refine zy_5 (c := 0) (as := [.int (X.2 (i + (1 : Int32)).toNatClampNeg), .int (X.2 (i + (2 : Int32)).toNatClampNeg)]) (rest := []) (L := [some (.ref (0 + 3)), some (.int (X.2 (i + (1 : Int32)).toNatClampNeg)), some (.int (X.2 (i + (2 : Int32)).toNatClampNeg)), none, none, none, none]) (d' := 107) rfl rfl rfl (Nat.le_of_ble_eq_true rfl) (Nat.le_of_ble_eq_true rfl) rfl (Nat.le_of_ble_eq_true rfl) rfl rfl (zyC103 f1) ?_
  show zyR _ _ _ _ [some (.ref 2), some (.ref (0 + 3)), some (.ref (43 + 3)), some (.int i)] [.int r] _ _
  refine zy_34 rfl rfl (show zyR _ _ _ _ [some (.ref 2), some (.ref (0 + 3)), some (.ref (43 + 3)), some (.int i)] [] _ _ from ?_)
  refine zy_0 rfl rfl (show zyR _ _ _ _ [some (.ref 2), some (.ref (0 + 3)), some (.ref (43 + 3)), some (.int i)] [.ref (43 + 3)] _ _ from ?_)
  refine zy_0 rfl rfl (show zyR _ _ _ _ [some (.ref 2), some (.ref (0 + 3)), some (.ref (43 + 3)), some (.int i)] [.ref 2, .ref (43 + 3)] _ _ from ?_)
  refine zy_2 rfl rfl (show zyR _ _ _ _ [some (.ref 2), some (.ref (0 + 3)), some (.ref (43 + 3)), some (.int i)] [.int i, .ref 2, .ref (43 + 3)] _ _ from ?_)
  refine zy_3 rfl rfl (show zyR _ _ _ _ [some (.ref 2), some (.ref (0 + 3)), some (.ref (43 + 3)), some (.int i)] [.int (1 : Int32), .int i, .ref 2, .ref (43 + 3)] _ _ from ?_)
  refine zy_10 rfl (show zyR _ _ _ _ [some (.ref 2), some (.ref (0 + 3)), some (.ref (43 + 3)), some (.int i)] [.int (i + (1 : Int32)), .ref 2, .ref (43 + 3)] _ _ from ?_)
  refine zy_26s rfl (zl_in hX i0 i6 (by decide) (by decide)) (show zyR _ _ _ _ [some (.ref 2), some (.ref (0 + 3)), some (.ref (43 + 3)), some (.int i)] [.int (X.2 (i + (1 : Int32)).toNatClampNeg), .ref (43 + 3)] _ _ from ?_)
  refine zy_0 rfl rfl (show zyR _ _ _ _ [some (.ref 2), some (.ref (0 + 3)), some (.ref (43 + 3)), some (.int i)] [.ref 2, .int (X.2 (i + (1 : Int32)).toNatClampNeg), .ref (43 + 3)] _ _ from ?_)
  refine zy_2 rfl rfl (show zyR _ _ _ _ [some (.ref 2), some (.ref (0 + 3)), some (.ref (43 + 3)), some (.int i)] [.int i, .ref 2, .int (X.2 (i + (1 : Int32)).toNatClampNeg), .ref (43 + 3)] _ _ from ?_)
  refine zy_3 rfl rfl (show zyR _ _ _ _ [some (.ref 2), some (.ref (0 + 3)), some (.ref (43 + 3)), some (.int i)] [.int (2 : Int32), .int i, .ref 2, .int (X.2 (i + (1 : Int32)).toNatClampNeg), .ref (43 + 3)] _ _ from ?_)
  refine zy_10 rfl (show zyR _ _ _ _ [some (.ref 2), some (.ref (0 + 3)), some (.ref (43 + 3)), some (.int i)] [.int (i + (2 : Int32)), .ref 2, .int (X.2 (i + (1 : Int32)).toNatClampNeg), .ref (43 + 3)] _ _ from ?_)
  refine zy_26s rfl (zl_in hX i0 i6 (by decide) (by decide)) (show zyR _ _ _ _ [some (.ref 2), some (.ref (0 + 3)), some (.ref (43 + 3)), some (.int i)] [.int (X.2 (i + (2 : Int32)).toNatClampNeg), .int (X.2 (i + (1 : Int32)).toNatClampNeg), .ref (43 + 3)] _ _ from ?_)
  refine zy_5 (c := 43) (as := [.int (X.2 (i + (1 : Int32)).toNatClampNeg), .int (X.2 (i + (2 : Int32)).toNatClampNeg)]) (rest := []) (L := [some (.ref (43 + 3)), some (.int (X.2 (i + (1 : Int32)).toNatClampNeg)), some (.int (X.2 (i + (2 : Int32)).toNatClampNeg)), none, none, none, none, none, none, none]) (d' := 206) rfl rfl rfl (Nat.le_of_ble_eq_true rfl) (Nat.le_of_ble_eq_true rfl) rfl (Nat.le_of_ble_eq_true rfl) rfl rfl (zyC226 f2) ?_
  show zyR _ _ _ _ [some (.ref 2), some (.ref (0 + 3)), some (.ref (43 + 3)), some (.int i)] [.int r] _ _
  refine zy_34 rfl rfl (show zyR _ _ _ _ [some (.ref 2), some (.ref (0 + 3)), some (.ref (43 + 3)), some (.int i)] [] _ _ from ?_)
  exact zy_6 rfl (k _ hI)
theorem zlc_15 {X : zx_X} {i : Int32} {s : zy_S} {P : Option Value → zy_S → Prop} (hX : X.1 ≤ 3072) (i0 : 0 ≤ i.toInt) (i6 : i.toInt + 6 ≤ X.1) (h : zI s) (k : ∀ t, zI t → zyR X 2000 0 1435 [some (.ref 2), some (.ref (0 + 3)), some (.ref (43 + 3)), some (.int i)] [] t P) : zyR X 2000 0 637 [some (.ref 2), some (.ref (0 + 3)), some (.ref (43 + 3)), some (.int i)] [] s P := by
  obtain ⟨r, s1, s2, f1, f2, hI⟩ := zop_judge ((X.2 (i + (1 : Int32)).toNatClampNeg)) ((X.2 (i + (2 : Int32)).toNatClampNeg)) h
  refine zy_0 rfl rfl (show zyR _ _ _ _ [some (.ref 2), some (.ref (0 + 3)), some (.ref (43 + 3)), some (.int i)] [.ref (0 + 3)] _ _ from ?_)
  refine zy_0 rfl rfl (show zyR _ _ _ _ [some (.ref 2), some (.ref (0 + 3)), some (.ref (43 + 3)), some (.int i)] [.ref 2, .ref (0 + 3)] _ _ from ?_)
  refine zy_2 rfl rfl (show zyR _ _ _ _ [some (.ref 2), some (.ref (0 + 3)), some (.ref (43 + 3)), some (.int i)] [.int i, .ref 2, .ref (0 + 3)] _ _ from ?_)
  refine zy_3 rfl rfl (show zyR _ _ _ _ [some (.ref 2), some (.ref (0 + 3)), some (.ref (43 + 3)), some (.int i)] [.int (1 : Int32), .int i, .ref 2, .ref (0 + 3)] _ _ from ?_)
  refine zy_10 rfl (show zyR _ _ _ _ [some (.ref 2), some (.ref (0 + 3)), some (.ref (43 + 3)), some (.int i)] [.int (i + (1 : Int32)), .ref 2, .ref (0 + 3)] _ _ from ?_)
  refine zy_26s rfl (zl_in hX i0 i6 (by decide) (by decide)) (show zyR _ _ _ _ [some (.ref 2), some (.ref (0 + 3)), some (.ref (43 + 3)), some (.int i)] [.int (X.2 (i + (1 : Int32)).toNatClampNeg), .ref (0 + 3)] _ _ from ?_)
  refine zy_0 rfl rfl (show zyR _ _ _ _ [some (.ref 2), some (.ref (0 + 3)), some (.ref (43 + 3)), some (.int i)] [.ref 2, .int (X.2 (i + (1 : Int32)).toNatClampNeg), .ref (0 + 3)] _ _ from ?_)
  refine zy_2 rfl rfl (show zyR _ _ _ _ [some (.ref 2), some (.ref (0 + 3)), some (.ref (43 + 3)), some (.int i)] [.int i, .ref 2, .int (X.2 (i + (1 : Int32)).toNatClampNeg), .ref (0 + 3)] _ _ from ?_)
  refine zy_3 rfl rfl (show zyR _ _ _ _ [some (.ref 2), some (.ref (0 + 3)), some (.ref (43 + 3)), some (.int i)] [.int (2 : Int32), .int i, .ref 2, .int (X.2 (i + (1 : Int32)).toNatClampNeg), .ref (0 + 3)] _ _ from ?_)
  refine zy_10 rfl (show zyR _ _ _ _ [some (.ref 2), some (.ref (0 + 3)), some (.ref (43 + 3)), some (.int i)] [.int (i + (2 : Int32)), .ref 2, .int (X.2 (i + (1 : Int32)).toNatClampNeg), .ref (0 + 3)] _ _ from ?_)
  refine zy_26s rfl (zl_in hX i0 i6 (by decide) (by decide)) (show zyR _ _ _ _ [some (.ref 2), some (.ref (0 + 3)), some (.ref (43 + 3)), some (.int i)] [.int (X.2 (i + (2 : Int32)).toNatClampNeg), .int (X.2 (i + (1 : Int32)).toNatClampNeg), .ref (0 + 3)] _ _ from ?_)
  refine zy_5 (c := 0) (as := [.int (X.2 (i + (1 : Int32)).toNatClampNeg), .int (X.2 (i + (2 : Int32)).toNatClampNeg)]) (rest := []) (L := [some (.ref (0 + 3)), some (.int (X.2 (i + (1 : Int32)).toNatClampNeg)), some (.int (X.2 (i + (2 : Int32)).toNatClampNeg)), none]) (d' := 5) rfl rfl rfl (Nat.le_of_ble_eq_true rfl) (Nat.le_of_ble_eq_true rfl) rfl (Nat.le_of_ble_eq_true rfl) rfl rfl (zyC106 f1) ?_
  show zyR _ _ _ _ [some (.ref 2), some (.ref (0 + 3)), some (.ref (43 + 3)), some (.int i)] [.int r] _ _
  refine zy_34 rfl rfl (show zyR _ _ _ _ [some (.ref 2), some (.ref (0 + 3)), some (.ref (43 + 3)), some (.int i)] [] _ _ from ?_)
  refine zy_0 rfl rfl (show zyR _ _ _ _ [some (.ref 2), some (.ref (0 + 3)), some (.ref (43 + 3)), some (.int i)] [.ref (43 + 3)] _ _ from ?_)
  refine zy_0 rfl rfl (show zyR _ _ _ _ [some (.ref 2), some (.ref (0 + 3)), some (.ref (43 + 3)), some (.int i)] [.ref 2, .ref (43 + 3)] _ _ from ?_)
  refine zy_2 rfl rfl (show zyR _ _ _ _ [some (.ref 2), some (.ref (0 + 3)), some (.ref (43 + 3)), some (.int i)] [.int i, .ref 2, .ref (43 + 3)] _ _ from ?_)
  refine zy_3 rfl rfl (show zyR _ _ _ _ [some (.ref 2), some (.ref (0 + 3)), some (.ref (43 + 3)), some (.int i)] [.int (1 : Int32), .int i, .ref 2, .ref (43 + 3)] _ _ from ?_)
  refine zy_10 rfl (show zyR _ _ _ _ [some (.ref 2), some (.ref (0 + 3)), some (.ref (43 + 3)), some (.int i)] [.int (i + (1 : Int32)), .ref 2, .ref (43 + 3)] _ _ from ?_)
  refine zy_26s rfl (zl_in hX i0 i6 (by decide) (by decide)) (show zyR _ _ _ _ [some (.ref 2), some (.ref (0 + 3)), some (.ref (43 + 3)), some (.int i)] [.int (X.2 (i + (1 : Int32)).toNatClampNeg), .ref (43 + 3)] _ _ from ?_)
  refine zy_0 rfl rfl (show zyR _ _ _ _ [some (.ref 2), some (.ref (0 + 3)), some (.ref (43 + 3)), some (.int i)] [.ref 2, .int (X.2 (i + (1 : Int32)).toNatClampNeg), .ref (43 + 3)] _ _ from ?_)
  refine zy_2 rfl rfl (show zyR _ _ _ _ [some (.ref 2), some (.ref (0 + 3)), some (.ref (43 + 3)), some (.int i)] [.int i, .ref 2, .int (X.2 (i + (1 : Int32)).toNatClampNeg), .ref (43 + 3)] _ _ from ?_)
  refine zy_3 rfl rfl (show zyR _ _ _ _ [some (.ref 2), some (.ref (0 + 3)), some (.ref (43 + 3)), some (.int i)] [.int (2 : Int32), .int i, .ref 2, .int (X.2 (i + (1 : Int32)).toNatClampNeg), .ref (43 + 3)] _ _ from ?_)
  refine zy_10 rfl (show zyR _ _ _ _ [some (.ref 2), some (.ref (0 + 3)), some (.ref (43 + 3)), some (.int i)] [.int (i + (2 : Int32)), .ref 2, .int (X.2 (i + (1 : Int32)).toNatClampNeg), .ref (43 + 3)] _ _ from ?_)
  refine zy_26s rfl (zl_in hX i0 i6 (by decide) (by decide)) (show zyR _ _ _ _ [some (.ref 2), some (.ref (0 + 3)), some (.ref (43 + 3)), some (.int i)] [.int (X.2 (i + (2 : Int32)).toNatClampNeg), .int (X.2 (i + (1 : Int32)).toNatClampNeg), .ref (43 + 3)] _ _ from ?_)
  refine zy_5 (c := 43) (as := [.int (X.2 (i + (1 : Int32)).toNatClampNeg), .int (X.2 (i + (2 : Int32)).toNatClampNeg)]) (rest := []) (L := [some (.ref (43 + 3)), some (.int (X.2 (i + (1 : Int32)).toNatClampNeg)), some (.int (X.2 (i + (2 : Int32)).toNatClampNeg))]) (d' := 4) rfl rfl rfl (Nat.le_of_ble_eq_true rfl) (Nat.le_of_ble_eq_true rfl) rfl (Nat.le_of_ble_eq_true rfl) rfl rfl (zyC228 f2) ?_
  show zyR _ _ _ _ [some (.ref 2), some (.ref (0 + 3)), some (.ref (43 + 3)), some (.int i)] [.int r] _ _
  refine zy_34 rfl rfl (show zyR _ _ _ _ [some (.ref 2), some (.ref (0 + 3)), some (.ref (43 + 3)), some (.int i)] [] _ _ from ?_)
  exact zy_6 rfl (k _ hI)
theorem zlc_16 {X : zx_X} {i : Int32} {s : zy_S} {P : Option Value → zy_S → Prop} (hX : X.1 ≤ 3072) (i0 : 0 ≤ i.toInt) (i6 : i.toInt + 6 ≤ X.1) (h : zI s) (k : ∀ t, zI t → zyR X 2000 0 1435 [some (.ref 2), some (.ref (0 + 3)), some (.ref (43 + 3)), some (.int i)] [] t P) : zyR X 2000 0 670 [some (.ref 2), some (.ref (0 + 3)), some (.ref (43 + 3)), some (.int i)] [] s P := by
  obtain ⟨r, r', s1, s2, f1, f2, hI⟩ := zfn_believes ((X.2 (i + (1 : Int32)).toNatClampNeg)) ((X.2 (i + (2 : Int32)).toNatClampNeg)) ((X.2 (i + (3 : Int32)).toNatClampNeg)) h
  refine zy_0 rfl rfl (show zyR _ _ _ _ [some (.ref 2), some (.ref (0 + 3)), some (.ref (43 + 3)), some (.int i)] [.ref (0 + 3)] _ _ from ?_)
  refine zy_0 rfl rfl (show zyR _ _ _ _ [some (.ref 2), some (.ref (0 + 3)), some (.ref (43 + 3)), some (.int i)] [.ref 2, .ref (0 + 3)] _ _ from ?_)
  refine zy_2 rfl rfl (show zyR _ _ _ _ [some (.ref 2), some (.ref (0 + 3)), some (.ref (43 + 3)), some (.int i)] [.int i, .ref 2, .ref (0 + 3)] _ _ from ?_)
  refine zy_3 rfl rfl (show zyR _ _ _ _ [some (.ref 2), some (.ref (0 + 3)), some (.ref (43 + 3)), some (.int i)] [.int (1 : Int32), .int i, .ref 2, .ref (0 + 3)] _ _ from ?_)
  refine zy_10 rfl (show zyR _ _ _ _ [some (.ref 2), some (.ref (0 + 3)), some (.ref (43 + 3)), some (.int i)] [.int (i + (1 : Int32)), .ref 2, .ref (0 + 3)] _ _ from ?_)
  refine zy_26s rfl (zl_in hX i0 i6 (by decide) (by decide)) (show zyR _ _ _ _ [some (.ref 2), some (.ref (0 + 3)), some (.ref (43 + 3)), some (.int i)] [.int (X.2 (i + (1 : Int32)).toNatClampNeg), .ref (0 + 3)] _ _ from ?_)
  refine zy_0 rfl rfl (show zyR _ _ _ _ [some (.ref 2), some (.ref (0 + 3)), some (.ref (43 + 3)), some (.int i)] [.ref 2, .int (X.2 (i + (1 : Int32)).toNatClampNeg), .ref (0 + 3)] _ _ from ?_)
  refine zy_2 rfl rfl (show zyR _ _ _ _ [some (.ref 2), some (.ref (0 + 3)), some (.ref (43 + 3)), some (.int i)] [.int i, .ref 2, .int (X.2 (i + (1 : Int32)).toNatClampNeg), .ref (0 + 3)] _ _ from ?_)
  refine zy_3 rfl rfl (show zyR _ _ _ _ [some (.ref 2), some (.ref (0 + 3)), some (.ref (43 + 3)), some (.int i)] [.int (2 : Int32), .int i, .ref 2, .int (X.2 (i + (1 : Int32)).toNatClampNeg), .ref (0 + 3)] _ _ from ?_)
  refine zy_10 rfl (show zyR _ _ _ _ [some (.ref 2), some (.ref (0 + 3)), some (.ref (43 + 3)), some (.int i)] [.int (i + (2 : Int32)), .ref 2, .int (X.2 (i + (1 : Int32)).toNatClampNeg), .ref (0 + 3)] _ _ from ?_)
  refine zy_26s rfl (zl_in hX i0 i6 (by decide) (by decide)) (show zyR _ _ _ _ [some (.ref 2), some (.ref (0 + 3)), some (.ref (43 + 3)), some (.int i)] [.int (X.2 (i + (2 : Int32)).toNatClampNeg), .int (X.2 (i + (1 : Int32)).toNatClampNeg), .ref (0 + 3)] _ _ from ?_)
  refine zy_0 rfl rfl (show zyR _ _ _ _ [some (.ref 2), some (.ref (0 + 3)), some (.ref (43 + 3)), some (.int i)] [.ref 2, .int (X.2 (i + (2 : Int32)).toNatClampNeg), .int (X.2 (i + (1 : Int32)).toNatClampNeg), .ref (0 + 3)] _ _ from ?_)
  refine zy_2 rfl rfl (show zyR _ _ _ _ [some (.ref 2), some (.ref (0 + 3)), some (.ref (43 + 3)), some (.int i)] [.int i, .ref 2, .int (X.2 (i + (2 : Int32)).toNatClampNeg), .int (X.2 (i + (1 : Int32)).toNatClampNeg), .ref (0 + 3)] _ _ from ?_)
  refine zy_3 rfl rfl (show zyR _ _ _ _ [some (.ref 2), some (.ref (0 + 3)), some (.ref (43 + 3)), some (.int i)] [.int (3 : Int32), .int i, .ref 2, .int (X.2 (i + (2 : Int32)).toNatClampNeg), .int (X.2 (i + (1 : Int32)).toNatClampNeg), .ref (0 + 3)] _ _ from ?_)
  refine zy_10 rfl (show zyR _ _ _ _ [some (.ref 2), some (.ref (0 + 3)), some (.ref (43 + 3)), some (.int i)] [.int (i + (3 : Int32)), .ref 2, .int (X.2 (i + (2 : Int32)).toNatClampNeg), .int (X.2 (i + (1 : Int32)).toNatClampNeg), .ref (0 + 3)] _ _ from ?_)
  refine zy_26s rfl (zl_in hX i0 i6 (by decide) (by decide)) (show zyR _ _ _ _ [some (.ref 2), some (.ref (0 + 3)), some (.ref (43 + 3)), some (.int i)] [.int (X.2 (i + (3 : Int32)).toNatClampNeg), .int (X.2 (i + (2 : Int32)).toNatClampNeg), .int (X.2 (i + (1 : Int32)).toNatClampNeg), .ref (0 + 3)] _ _ from ?_)
  refine zy_5 (c := 0) (as := [.int (X.2 (i + (1 : Int32)).toNatClampNeg), .int (X.2 (i + (2 : Int32)).toNatClampNeg), .int (X.2 (i + (3 : Int32)).toNatClampNeg)]) (rest := []) (L := [some (.ref (0 + 3)), some (.int (X.2 (i + (1 : Int32)).toNatClampNeg)), some (.int (X.2 (i + (2 : Int32)).toNatClampNeg)), some (.int (X.2 (i + (3 : Int32)).toNatClampNeg)), none, none]) (d' := 6) rfl rfl rfl (Nat.le_of_ble_eq_true rfl) (Nat.le_of_ble_eq_true rfl) rfl (Nat.le_of_ble_eq_true rfl) rfl rfl (zyC112 f1) ?_
  show zyR _ _ _ _ [some (.ref 2), some (.ref (0 + 3)), some (.ref (43 + 3)), some (.int i)] [.int r] _ _
  refine zy_34 rfl rfl (show zyR _ _ _ _ [some (.ref 2), some (.ref (0 + 3)), some (.ref (43 + 3)), some (.int i)] [] _ _ from ?_)
  refine zy_0 rfl rfl (show zyR _ _ _ _ [some (.ref 2), some (.ref (0 + 3)), some (.ref (43 + 3)), some (.int i)] [.ref (43 + 3)] _ _ from ?_)
  refine zy_0 rfl rfl (show zyR _ _ _ _ [some (.ref 2), some (.ref (0 + 3)), some (.ref (43 + 3)), some (.int i)] [.ref 2, .ref (43 + 3)] _ _ from ?_)
  refine zy_2 rfl rfl (show zyR _ _ _ _ [some (.ref 2), some (.ref (0 + 3)), some (.ref (43 + 3)), some (.int i)] [.int i, .ref 2, .ref (43 + 3)] _ _ from ?_)
  refine zy_3 rfl rfl (show zyR _ _ _ _ [some (.ref 2), some (.ref (0 + 3)), some (.ref (43 + 3)), some (.int i)] [.int (1 : Int32), .int i, .ref 2, .ref (43 + 3)] _ _ from ?_)
  refine zy_10 rfl (show zyR _ _ _ _ [some (.ref 2), some (.ref (0 + 3)), some (.ref (43 + 3)), some (.int i)] [.int (i + (1 : Int32)), .ref 2, .ref (43 + 3)] _ _ from ?_)
  refine zy_26s rfl (zl_in hX i0 i6 (by decide) (by decide)) (show zyR _ _ _ _ [some (.ref 2), some (.ref (0 + 3)), some (.ref (43 + 3)), some (.int i)] [.int (X.2 (i + (1 : Int32)).toNatClampNeg), .ref (43 + 3)] _ _ from ?_)
  refine zy_0 rfl rfl (show zyR _ _ _ _ [some (.ref 2), some (.ref (0 + 3)), some (.ref (43 + 3)), some (.int i)] [.ref 2, .int (X.2 (i + (1 : Int32)).toNatClampNeg), .ref (43 + 3)] _ _ from ?_)
  refine zy_2 rfl rfl (show zyR _ _ _ _ [some (.ref 2), some (.ref (0 + 3)), some (.ref (43 + 3)), some (.int i)] [.int i, .ref 2, .int (X.2 (i + (1 : Int32)).toNatClampNeg), .ref (43 + 3)] _ _ from ?_)
  refine zy_3 rfl rfl (show zyR _ _ _ _ [some (.ref 2), some (.ref (0 + 3)), some (.ref (43 + 3)), some (.int i)] [.int (2 : Int32), .int i, .ref 2, .int (X.2 (i + (1 : Int32)).toNatClampNeg), .ref (43 + 3)] _ _ from ?_)
  refine zy_10 rfl (show zyR _ _ _ _ [some (.ref 2), some (.ref (0 + 3)), some (.ref (43 + 3)), some (.int i)] [.int (i + (2 : Int32)), .ref 2, .int (X.2 (i + (1 : Int32)).toNatClampNeg), .ref (43 + 3)] _ _ from ?_)
  refine zy_26s rfl (zl_in hX i0 i6 (by decide) (by decide)) (show zyR _ _ _ _ [some (.ref 2), some (.ref (0 + 3)), some (.ref (43 + 3)), some (.int i)] [.int (X.2 (i + (2 : Int32)).toNatClampNeg), .int (X.2 (i + (1 : Int32)).toNatClampNeg), .ref (43 + 3)] _ _ from ?_)
  refine zy_0 rfl rfl (show zyR _ _ _ _ [some (.ref 2), some (.ref (0 + 3)), some (.ref (43 + 3)), some (.int i)] [.ref 2, .int (X.2 (i + (2 : Int32)).toNatClampNeg), .int (X.2 (i + (1 : Int32)).toNatClampNeg), .ref (43 + 3)] _ _ from ?_)
  refine zy_2 rfl rfl (show zyR _ _ _ _ [some (.ref 2), some (.ref (0 + 3)), some (.ref (43 + 3)), some (.int i)] [.int i, .ref 2, .int (X.2 (i + (2 : Int32)).toNatClampNeg), .int (X.2 (i + (1 : Int32)).toNatClampNeg), .ref (43 + 3)] _ _ from ?_)
  refine zy_3 rfl rfl (show zyR _ _ _ _ [some (.ref 2), some (.ref (0 + 3)), some (.ref (43 + 3)), some (.int i)] [.int (3 : Int32), .int i, .ref 2, .int (X.2 (i + (2 : Int32)).toNatClampNeg), .int (X.2 (i + (1 : Int32)).toNatClampNeg), .ref (43 + 3)] _ _ from ?_)
  refine zy_10 rfl (show zyR _ _ _ _ [some (.ref 2), some (.ref (0 + 3)), some (.ref (43 + 3)), some (.int i)] [.int (i + (3 : Int32)), .ref 2, .int (X.2 (i + (2 : Int32)).toNatClampNeg), .int (X.2 (i + (1 : Int32)).toNatClampNeg), .ref (43 + 3)] _ _ from ?_)
  refine zy_26s rfl (zl_in hX i0 i6 (by decide) (by decide)) (show zyR _ _ _ _ [some (.ref 2), some (.ref (0 + 3)), some (.ref (43 + 3)), some (.int i)] [.int (X.2 (i + (3 : Int32)).toNatClampNeg), .int (X.2 (i + (2 : Int32)).toNatClampNeg), .int (X.2 (i + (1 : Int32)).toNatClampNeg), .ref (43 + 3)] _ _ from ?_)
  refine zy_5 (c := 43) (as := [.int (X.2 (i + (1 : Int32)).toNatClampNeg), .int (X.2 (i + (2 : Int32)).toNatClampNeg), .int (X.2 (i + (3 : Int32)).toNatClampNeg)]) (rest := []) (L := [some (.ref (43 + 3)), some (.int (X.2 (i + (1 : Int32)).toNatClampNeg)), some (.int (X.2 (i + (2 : Int32)).toNatClampNeg)), some (.int (X.2 (i + (3 : Int32)).toNatClampNeg)), none, none, none]) (d' := 4) rfl rfl rfl (Nat.le_of_ble_eq_true rfl) (Nat.le_of_ble_eq_true rfl) rfl (Nat.le_of_ble_eq_true rfl) rfl rfl (zyC231 f2) ?_
  show zyR _ _ _ _ [some (.ref 2), some (.ref (0 + 3)), some (.ref (43 + 3)), some (.int i)] [.int r'] _ _
  refine zy_34 rfl rfl (show zyR _ _ _ _ [some (.ref 2), some (.ref (0 + 3)), some (.ref (43 + 3)), some (.int i)] [] _ _ from ?_)
  exact zy_6 rfl (k _ hI)
theorem zlc_17 {X : zx_X} {i : Int32} {s : zy_S} {P : Option Value → zy_S → Prop} (hX : X.1 ≤ 3072) (i0 : 0 ≤ i.toInt) (i6 : i.toInt + 6 ≤ X.1) (h : zI s) (k : ∀ t, zI t → zyR X 2000 0 1435 [some (.ref 2), some (.ref (0 + 3)), some (.ref (43 + 3)), some (.int i)] [] t P) : zyR X 2000 0 713 [some (.ref 2), some (.ref (0 + 3)), some (.ref (43 + 3)), some (.int i)] [] s P := by
  obtain ⟨r, s1, s2, f1, f2, hI⟩ := zop_whose ((X.2 (i + (1 : Int32)).toNatClampNeg)) ((X.2 (i + (2 : Int32)).toNatClampNeg)) h
  refine zy_0 rfl rfl (show zyR _ _ _ _ [some (.ref 2), some (.ref (0 + 3)), some (.ref (43 + 3)), some (.int i)] [.ref (0 + 3)] _ _ from ?_)
  refine zy_0 rfl rfl (show zyR _ _ _ _ [some (.ref 2), some (.ref (0 + 3)), some (.ref (43 + 3)), some (.int i)] [.ref 2, .ref (0 + 3)] _ _ from ?_)
  refine zy_2 rfl rfl (show zyR _ _ _ _ [some (.ref 2), some (.ref (0 + 3)), some (.ref (43 + 3)), some (.int i)] [.int i, .ref 2, .ref (0 + 3)] _ _ from ?_)
  refine zy_3 rfl rfl (show zyR _ _ _ _ [some (.ref 2), some (.ref (0 + 3)), some (.ref (43 + 3)), some (.int i)] [.int (1 : Int32), .int i, .ref 2, .ref (0 + 3)] _ _ from ?_)
  refine zy_10 rfl (show zyR _ _ _ _ [some (.ref 2), some (.ref (0 + 3)), some (.ref (43 + 3)), some (.int i)] [.int (i + (1 : Int32)), .ref 2, .ref (0 + 3)] _ _ from ?_)
  refine zy_26s rfl (zl_in hX i0 i6 (by decide) (by decide)) (show zyR _ _ _ _ [some (.ref 2), some (.ref (0 + 3)), some (.ref (43 + 3)), some (.int i)] [.int (X.2 (i + (1 : Int32)).toNatClampNeg), .ref (0 + 3)] _ _ from ?_)
  refine zy_0 rfl rfl (show zyR _ _ _ _ [some (.ref 2), some (.ref (0 + 3)), some (.ref (43 + 3)), some (.int i)] [.ref 2, .int (X.2 (i + (1 : Int32)).toNatClampNeg), .ref (0 + 3)] _ _ from ?_)
  refine zy_2 rfl rfl (show zyR _ _ _ _ [some (.ref 2), some (.ref (0 + 3)), some (.ref (43 + 3)), some (.int i)] [.int i, .ref 2, .int (X.2 (i + (1 : Int32)).toNatClampNeg), .ref (0 + 3)] _ _ from ?_)
  refine zy_3 rfl rfl (show zyR _ _ _ _ [some (.ref 2), some (.ref (0 + 3)), some (.ref (43 + 3)), some (.int i)] [.int (2 : Int32), .int i, .ref 2, .int (X.2 (i + (1 : Int32)).toNatClampNeg), .ref (0 + 3)] _ _ from ?_)
  refine zy_10 rfl (show zyR _ _ _ _ [some (.ref 2), some (.ref (0 + 3)), some (.ref (43 + 3)), some (.int i)] [.int (i + (2 : Int32)), .ref 2, .int (X.2 (i + (1 : Int32)).toNatClampNeg), .ref (0 + 3)] _ _ from ?_)
  refine zy_26s rfl (zl_in hX i0 i6 (by decide) (by decide)) (show zyR _ _ _ _ [some (.ref 2), some (.ref (0 + 3)), some (.ref (43 + 3)), some (.int i)] [.int (X.2 (i + (2 : Int32)).toNatClampNeg), .int (X.2 (i + (1 : Int32)).toNatClampNeg), .ref (0 + 3)] _ _ from ?_)
  refine zy_5 (c := 0) (as := [.int (X.2 (i + (1 : Int32)).toNatClampNeg), .int (X.2 (i + (2 : Int32)).toNatClampNeg)]) (rest := []) (L := [some (.ref (0 + 3)), some (.int (X.2 (i + (1 : Int32)).toNatClampNeg)), some (.int (X.2 (i + (2 : Int32)).toNatClampNeg)), none]) (d' := 7) rfl rfl rfl (Nat.le_of_ble_eq_true rfl) (Nat.le_of_ble_eq_true rfl) rfl (Nat.le_of_ble_eq_true rfl) rfl rfl (zyC116 f1) ?_
  show zyR _ _ _ _ [some (.ref 2), some (.ref (0 + 3)), some (.ref (43 + 3)), some (.int i)] [.int r] _ _
  refine zy_0 rfl rfl (show zyR _ _ _ _ [some (.ref 2), some (.ref (0 + 3)), some (.ref (43 + 3)), some (.int i)] [.ref (43 + 3), .int r] _ _ from ?_)
  refine zy_0 rfl rfl (show zyR _ _ _ _ [some (.ref 2), some (.ref (0 + 3)), some (.ref (43 + 3)), some (.int i)] [.ref 2, .ref (43 + 3), .int r] _ _ from ?_)
  refine zy_2 rfl rfl (show zyR _ _ _ _ [some (.ref 2), some (.ref (0 + 3)), some (.ref (43 + 3)), some (.int i)] [.int i, .ref 2, .ref (43 + 3), .int r] _ _ from ?_)
  refine zy_3 rfl rfl (show zyR _ _ _ _ [some (.ref 2), some (.ref (0 + 3)), some (.ref (43 + 3)), some (.int i)] [.int (1 : Int32), .int i, .ref 2, .ref (43 + 3), .int r] _ _ from ?_)
  refine zy_10 rfl (show zyR _ _ _ _ [some (.ref 2), some (.ref (0 + 3)), some (.ref (43 + 3)), some (.int i)] [.int (i + (1 : Int32)), .ref 2, .ref (43 + 3), .int r] _ _ from ?_)
  refine zy_26s rfl (zl_in hX i0 i6 (by decide) (by decide)) (show zyR _ _ _ _ [some (.ref 2), some (.ref (0 + 3)), some (.ref (43 + 3)), some (.int i)] [.int (X.2 (i + (1 : Int32)).toNatClampNeg), .ref (43 + 3), .int r] _ _ from ?_)
  refine zy_0 rfl rfl (show zyR _ _ _ _ [some (.ref 2), some (.ref (0 + 3)), some (.ref (43 + 3)), some (.int i)] [.ref 2, .int (X.2 (i + (1 : Int32)).toNatClampNeg), .ref (43 + 3), .int r] _ _ from ?_)
  refine zy_2 rfl rfl (show zyR _ _ _ _ [some (.ref 2), some (.ref (0 + 3)), some (.ref (43 + 3)), some (.int i)] [.int i, .ref 2, .int (X.2 (i + (1 : Int32)).toNatClampNeg), .ref (43 + 3), .int r] _ _ from ?_)
  refine zy_3 rfl rfl (show zyR _ _ _ _ [some (.ref 2), some (.ref (0 + 3)), some (.ref (43 + 3)), some (.int i)] [.int (2 : Int32), .int i, .ref 2, .int (X.2 (i + (1 : Int32)).toNatClampNeg), .ref (43 + 3), .int r] _ _ from ?_)
  refine zy_10 rfl (show zyR _ _ _ _ [some (.ref 2), some (.ref (0 + 3)), some (.ref (43 + 3)), some (.int i)] [.int (i + (2 : Int32)), .ref 2, .int (X.2 (i + (1 : Int32)).toNatClampNeg), .ref (43 + 3), .int r] _ _ from ?_)
  refine zy_26s rfl (zl_in hX i0 i6 (by decide) (by decide)) (show zyR _ _ _ _ [some (.ref 2), some (.ref (0 + 3)), some (.ref (43 + 3)), some (.int i)] [.int (X.2 (i + (2 : Int32)).toNatClampNeg), .int (X.2 (i + (1 : Int32)).toNatClampNeg), .ref (43 + 3), .int r] _ _ from ?_)
  refine zy_5 (c := 43) (as := [.int (X.2 (i + (1 : Int32)).toNatClampNeg), .int (X.2 (i + (2 : Int32)).toNatClampNeg)]) (rest := [.int r]) (L := [some (.ref (43 + 3)), some (.int (X.2 (i + (1 : Int32)).toNatClampNeg)), some (.int (X.2 (i + (2 : Int32)).toNatClampNeg)), none, none, none]) (d' := 4) rfl rfl rfl (Nat.le_of_ble_eq_true rfl) (Nat.le_of_ble_eq_true rfl) rfl (Nat.le_of_ble_eq_true rfl) rfl rfl (zyC233 f2) ?_
  show zyR _ _ _ _ [some (.ref 2), some (.ref (0 + 3)), some (.ref (43 + 3)), some (.int i)] [.int r, .int r] _ _
  exact zy_25_0 rfl (fun _ => k _ hI) (fun g => absurd rfl g)
theorem zlc_18 {X : zx_X} {i : Int32} {s : zy_S} {P : Option Value → zy_S → Prop} (hX : X.1 ≤ 3072) (i0 : 0 ≤ i.toInt) (i6 : i.toInt + 6 ≤ X.1) (h : zI s) (k : ∀ t, zI t → zyR X 2000 0 1435 [some (.ref 2), some (.ref (0 + 3)), some (.ref (43 + 3)), some (.int i)] [] t P) : zyR X 2000 0 746 [some (.ref 2), some (.ref (0 + 3)), some (.ref (43 + 3)), some (.int i)] [] s P := by
  obtain ⟨r, s1, s2, f1, f2, hI⟩ := zop_agree ((X.2 (i + (1 : Int32)).toNatClampNeg)) ((X.2 (i + (2 : Int32)).toNatClampNeg)) h
  refine zy_0 rfl rfl (show zyR _ _ _ _ [some (.ref 2), some (.ref (0 + 3)), some (.ref (43 + 3)), some (.int i)] [.ref (0 + 3)] _ _ from ?_)
  refine zy_0 rfl rfl (show zyR _ _ _ _ [some (.ref 2), some (.ref (0 + 3)), some (.ref (43 + 3)), some (.int i)] [.ref 2, .ref (0 + 3)] _ _ from ?_)
  refine zy_2 rfl rfl (show zyR _ _ _ _ [some (.ref 2), some (.ref (0 + 3)), some (.ref (43 + 3)), some (.int i)] [.int i, .ref 2, .ref (0 + 3)] _ _ from ?_)
  refine zy_3 rfl rfl (show zyR _ _ _ _ [some (.ref 2), some (.ref (0 + 3)), some (.ref (43 + 3)), some (.int i)] [.int (1 : Int32), .int i, .ref 2, .ref (0 + 3)] _ _ from ?_)
  refine zy_10 rfl (show zyR _ _ _ _ [some (.ref 2), some (.ref (0 + 3)), some (.ref (43 + 3)), some (.int i)] [.int (i + (1 : Int32)), .ref 2, .ref (0 + 3)] _ _ from ?_)
  refine zy_26s rfl (zl_in hX i0 i6 (by decide) (by decide)) (show zyR _ _ _ _ [some (.ref 2), some (.ref (0 + 3)), some (.ref (43 + 3)), some (.int i)] [.int (X.2 (i + (1 : Int32)).toNatClampNeg), .ref (0 + 3)] _ _ from ?_)
  refine zy_0 rfl rfl (show zyR _ _ _ _ [some (.ref 2), some (.ref (0 + 3)), some (.ref (43 + 3)), some (.int i)] [.ref 2, .int (X.2 (i + (1 : Int32)).toNatClampNeg), .ref (0 + 3)] _ _ from ?_)
  refine zy_2 rfl rfl (show zyR _ _ _ _ [some (.ref 2), some (.ref (0 + 3)), some (.ref (43 + 3)), some (.int i)] [.int i, .ref 2, .int (X.2 (i + (1 : Int32)).toNatClampNeg), .ref (0 + 3)] _ _ from ?_)
  refine zy_3 rfl rfl (show zyR _ _ _ _ [some (.ref 2), some (.ref (0 + 3)), some (.ref (43 + 3)), some (.int i)] [.int (2 : Int32), .int i, .ref 2, .int (X.2 (i + (1 : Int32)).toNatClampNeg), .ref (0 + 3)] _ _ from ?_)
  refine zy_10 rfl (show zyR _ _ _ _ [some (.ref 2), some (.ref (0 + 3)), some (.ref (43 + 3)), some (.int i)] [.int (i + (2 : Int32)), .ref 2, .int (X.2 (i + (1 : Int32)).toNatClampNeg), .ref (0 + 3)] _ _ from ?_)
  refine zy_26s rfl (zl_in hX i0 i6 (by decide) (by decide)) (show zyR _ _ _ _ [some (.ref 2), some (.ref (0 + 3)), some (.ref (43 + 3)), some (.int i)] [.int (X.2 (i + (2 : Int32)).toNatClampNeg), .int (X.2 (i + (1 : Int32)).toNatClampNeg), .ref (0 + 3)] _ _ from ?_)
  refine zy_5 (c := 0) (as := [.int (X.2 (i + (1 : Int32)).toNatClampNeg), .int (X.2 (i + (2 : Int32)).toNatClampNeg)]) (rest := []) (L := [some (.ref (0 + 3)), some (.int (X.2 (i + (1 : Int32)).toNatClampNeg)), some (.int (X.2 (i + (2 : Int32)).toNatClampNeg))]) (d' := 4) rfl rfl rfl (Nat.le_of_ble_eq_true rfl) (Nat.le_of_ble_eq_true rfl) rfl (Nat.le_of_ble_eq_true rfl) rfl rfl (zyC119 f1) ?_
  show zyR _ _ _ _ [some (.ref 2), some (.ref (0 + 3)), some (.ref (43 + 3)), some (.int i)] [.int r] _ _
  refine zy_34 rfl rfl (show zyR _ _ _ _ [some (.ref 2), some (.ref (0 + 3)), some (.ref (43 + 3)), some (.int i)] [] _ _ from ?_)
  refine zy_0 rfl rfl (show zyR _ _ _ _ [some (.ref 2), some (.ref (0 + 3)), some (.ref (43 + 3)), some (.int i)] [.ref (43 + 3)] _ _ from ?_)
  refine zy_0 rfl rfl (show zyR _ _ _ _ [some (.ref 2), some (.ref (0 + 3)), some (.ref (43 + 3)), some (.int i)] [.ref 2, .ref (43 + 3)] _ _ from ?_)
  refine zy_2 rfl rfl (show zyR _ _ _ _ [some (.ref 2), some (.ref (0 + 3)), some (.ref (43 + 3)), some (.int i)] [.int i, .ref 2, .ref (43 + 3)] _ _ from ?_)
  refine zy_3 rfl rfl (show zyR _ _ _ _ [some (.ref 2), some (.ref (0 + 3)), some (.ref (43 + 3)), some (.int i)] [.int (1 : Int32), .int i, .ref 2, .ref (43 + 3)] _ _ from ?_)
  refine zy_10 rfl (show zyR _ _ _ _ [some (.ref 2), some (.ref (0 + 3)), some (.ref (43 + 3)), some (.int i)] [.int (i + (1 : Int32)), .ref 2, .ref (43 + 3)] _ _ from ?_)
  refine zy_26s rfl (zl_in hX i0 i6 (by decide) (by decide)) (show zyR _ _ _ _ [some (.ref 2), some (.ref (0 + 3)), some (.ref (43 + 3)), some (.int i)] [.int (X.2 (i + (1 : Int32)).toNatClampNeg), .ref (43 + 3)] _ _ from ?_)
  refine zy_0 rfl rfl (show zyR _ _ _ _ [some (.ref 2), some (.ref (0 + 3)), some (.ref (43 + 3)), some (.int i)] [.ref 2, .int (X.2 (i + (1 : Int32)).toNatClampNeg), .ref (43 + 3)] _ _ from ?_)
  refine zy_2 rfl rfl (show zyR _ _ _ _ [some (.ref 2), some (.ref (0 + 3)), some (.ref (43 + 3)), some (.int i)] [.int i, .ref 2, .int (X.2 (i + (1 : Int32)).toNatClampNeg), .ref (43 + 3)] _ _ from ?_)
  refine zy_3 rfl rfl (show zyR _ _ _ _ [some (.ref 2), some (.ref (0 + 3)), some (.ref (43 + 3)), some (.int i)] [.int (2 : Int32), .int i, .ref 2, .int (X.2 (i + (1 : Int32)).toNatClampNeg), .ref (43 + 3)] _ _ from ?_)
  refine zy_10 rfl (show zyR _ _ _ _ [some (.ref 2), some (.ref (0 + 3)), some (.ref (43 + 3)), some (.int i)] [.int (i + (2 : Int32)), .ref 2, .int (X.2 (i + (1 : Int32)).toNatClampNeg), .ref (43 + 3)] _ _ from ?_)
  refine zy_26s rfl (zl_in hX i0 i6 (by decide) (by decide)) (show zyR _ _ _ _ [some (.ref 2), some (.ref (0 + 3)), some (.ref (43 + 3)), some (.int i)] [.int (X.2 (i + (2 : Int32)).toNatClampNeg), .int (X.2 (i + (1 : Int32)).toNatClampNeg), .ref (43 + 3)] _ _ from ?_)
  refine zy_5 (c := 43) (as := [.int (X.2 (i + (1 : Int32)).toNatClampNeg), .int (X.2 (i + (2 : Int32)).toNatClampNeg)]) (rest := []) (L := [some (.ref (43 + 3)), some (.int (X.2 (i + (1 : Int32)).toNatClampNeg)), some (.int (X.2 (i + (2 : Int32)).toNatClampNeg)), none, none]) (d' := 4) rfl rfl rfl (Nat.le_of_ble_eq_true rfl) (Nat.le_of_ble_eq_true rfl) rfl (Nat.le_of_ble_eq_true rfl) rfl rfl (zyC234 f2) ?_
  show zyR _ _ _ _ [some (.ref 2), some (.ref (0 + 3)), some (.ref (43 + 3)), some (.int i)] [.int r] _ _
  refine zy_34 rfl rfl (show zyR _ _ _ _ [some (.ref 2), some (.ref (0 + 3)), some (.ref (43 + 3)), some (.int i)] [] _ _ from ?_)
  exact zy_6 rfl (k _ hI)
theorem zlc_19 {X : zx_X} {i : Int32} {s : zy_S} {P : Option Value → zy_S → Prop} (hX : X.1 ≤ 3072) (i0 : 0 ≤ i.toInt) (i6 : i.toInt + 6 ≤ X.1) (h : zI s) (k : ∀ t, zI t → zyR X 2000 0 1435 [some (.ref 2), some (.ref (0 + 3)), some (.ref (43 + 3)), some (.int i)] [] t P) : zyR X 2000 0 779 [some (.ref 2), some (.ref (0 + 3)), some (.ref (43 + 3)), some (.int i)] [] s P := by
  obtain ⟨r, s1, s2, f1, f2, hI⟩ := zop_like ((X.2 (i + (1 : Int32)).toNatClampNeg)) h
  refine zy_0 rfl rfl (show zyR _ _ _ _ [some (.ref 2), some (.ref (0 + 3)), some (.ref (43 + 3)), some (.int i)] [.ref (0 + 3)] _ _ from ?_)
  refine zy_0 rfl rfl (show zyR _ _ _ _ [some (.ref 2), some (.ref (0 + 3)), some (.ref (43 + 3)), some (.int i)] [.ref 2, .ref (0 + 3)] _ _ from ?_)
  refine zy_2 rfl rfl (show zyR _ _ _ _ [some (.ref 2), some (.ref (0 + 3)), some (.ref (43 + 3)), some (.int i)] [.int i, .ref 2, .ref (0 + 3)] _ _ from ?_)
  refine zy_3 rfl rfl (show zyR _ _ _ _ [some (.ref 2), some (.ref (0 + 3)), some (.ref (43 + 3)), some (.int i)] [.int (1 : Int32), .int i, .ref 2, .ref (0 + 3)] _ _ from ?_)
  refine zy_10 rfl (show zyR _ _ _ _ [some (.ref 2), some (.ref (0 + 3)), some (.ref (43 + 3)), some (.int i)] [.int (i + (1 : Int32)), .ref 2, .ref (0 + 3)] _ _ from ?_)
  refine zy_26s rfl (zl_in hX i0 i6 (by decide) (by decide)) (show zyR _ _ _ _ [some (.ref 2), some (.ref (0 + 3)), some (.ref (43 + 3)), some (.int i)] [.int (X.2 (i + (1 : Int32)).toNatClampNeg), .ref (0 + 3)] _ _ from ?_)
  refine zy_5 (c := 0) (as := [.int (X.2 (i + (1 : Int32)).toNatClampNeg)]) (rest := []) (L := [some (.ref (0 + 3)), some (.int (X.2 (i + (1 : Int32)).toNatClampNeg))]) (d' := 5) rfl rfl rfl (Nat.le_of_ble_eq_true rfl) (Nat.le_of_ble_eq_true rfl) rfl (Nat.le_of_ble_eq_true rfl) rfl rfl (zyC123 f1) ?_
  show zyR _ _ _ _ [some (.ref 2), some (.ref (0 + 3)), some (.ref (43 + 3)), some (.int i)] [.int r] _ _
  refine zy_34 rfl rfl (show zyR _ _ _ _ [some (.ref 2), some (.ref (0 + 3)), some (.ref (43 + 3)), some (.int i)] [] _ _ from ?_)
  refine zy_0 rfl rfl (show zyR _ _ _ _ [some (.ref 2), some (.ref (0 + 3)), some (.ref (43 + 3)), some (.int i)] [.ref (43 + 3)] _ _ from ?_)
  refine zy_0 rfl rfl (show zyR _ _ _ _ [some (.ref 2), some (.ref (0 + 3)), some (.ref (43 + 3)), some (.int i)] [.ref 2, .ref (43 + 3)] _ _ from ?_)
  refine zy_2 rfl rfl (show zyR _ _ _ _ [some (.ref 2), some (.ref (0 + 3)), some (.ref (43 + 3)), some (.int i)] [.int i, .ref 2, .ref (43 + 3)] _ _ from ?_)
  refine zy_3 rfl rfl (show zyR _ _ _ _ [some (.ref 2), some (.ref (0 + 3)), some (.ref (43 + 3)), some (.int i)] [.int (1 : Int32), .int i, .ref 2, .ref (43 + 3)] _ _ from ?_)
  refine zy_10 rfl (show zyR _ _ _ _ [some (.ref 2), some (.ref (0 + 3)), some (.ref (43 + 3)), some (.int i)] [.int (i + (1 : Int32)), .ref 2, .ref (43 + 3)] _ _ from ?_)
  refine zy_26s rfl (zl_in hX i0 i6 (by decide) (by decide)) (show zyR _ _ _ _ [some (.ref 2), some (.ref (0 + 3)), some (.ref (43 + 3)), some (.int i)] [.int (X.2 (i + (1 : Int32)).toNatClampNeg), .ref (43 + 3)] _ _ from ?_)
  refine zy_5 (c := 43) (as := [.int (X.2 (i + (1 : Int32)).toNatClampNeg)]) (rest := []) (L := [some (.ref (43 + 3)), some (.int (X.2 (i + (1 : Int32)).toNatClampNeg)), none, none]) (d' := 4) rfl rfl rfl (Nat.le_of_ble_eq_true rfl) (Nat.le_of_ble_eq_true rfl) rfl (Nat.le_of_ble_eq_true rfl) rfl rfl (zyC236 f2) ?_
  show zyR _ _ _ _ [some (.ref 2), some (.ref (0 + 3)), some (.ref (43 + 3)), some (.int i)] [.int r] _ _
  refine zy_34 rfl rfl (show zyR _ _ _ _ [some (.ref 2), some (.ref (0 + 3)), some (.ref (43 + 3)), some (.int i)] [] _ _ from ?_)
  exact zy_6 rfl (k _ hI)
theorem zlc_20 {X : zx_X} {i : Int32} {s : zy_S} {P : Option Value → zy_S → Prop} (hX : X.1 ≤ 3072) (i0 : 0 ≤ i.toInt) (i6 : i.toInt + 6 ≤ X.1) (h : zI s) (k : ∀ t, zI t → zyR X 2000 0 1435 [some (.ref 2), some (.ref (0 + 3)), some (.ref (43 + 3)), some (.int i)] [] t P) : zyR X 2000 0 802 [some (.ref 2), some (.ref (0 + 3)), some (.ref (43 + 3)), some (.int i)] [] s P := by
  obtain ⟨r, s1, s2, f1, f2, hI⟩ := zop_split ((X.2 (i + (1 : Int32)).toNatClampNeg)) h
  refine zy_0 rfl rfl (show zyR _ _ _ _ [some (.ref 2), some (.ref (0 + 3)), some (.ref (43 + 3)), some (.int i)] [.ref (0 + 3)] _ _ from ?_)
  refine zy_0 rfl rfl (show zyR _ _ _ _ [some (.ref 2), some (.ref (0 + 3)), some (.ref (43 + 3)), some (.int i)] [.ref 2, .ref (0 + 3)] _ _ from ?_)
  refine zy_2 rfl rfl (show zyR _ _ _ _ [some (.ref 2), some (.ref (0 + 3)), some (.ref (43 + 3)), some (.int i)] [.int i, .ref 2, .ref (0 + 3)] _ _ from ?_)
  refine zy_3 rfl rfl (show zyR _ _ _ _ [some (.ref 2), some (.ref (0 + 3)), some (.ref (43 + 3)), some (.int i)] [.int (1 : Int32), .int i, .ref 2, .ref (0 + 3)] _ _ from ?_)
  refine zy_10 rfl (show zyR _ _ _ _ [some (.ref 2), some (.ref (0 + 3)), some (.ref (43 + 3)), some (.int i)] [.int (i + (1 : Int32)), .ref 2, .ref (0 + 3)] _ _ from ?_)
  refine zy_26s rfl (zl_in hX i0 i6 (by decide) (by decide)) (show zyR _ _ _ _ [some (.ref 2), some (.ref (0 + 3)), some (.ref (43 + 3)), some (.int i)] [.int (X.2 (i + (1 : Int32)).toNatClampNeg), .ref (0 + 3)] _ _ from ?_)
  refine zy_5 (c := 0) (as := [.int (X.2 (i + (1 : Int32)).toNatClampNeg)]) (rest := []) (L := [some (.ref (0 + 3)), some (.int (X.2 (i + (1 : Int32)).toNatClampNeg)), none]) (d' := 7) rfl rfl rfl (Nat.le_of_ble_eq_true rfl) (Nat.le_of_ble_eq_true rfl) rfl (Nat.le_of_ble_eq_true rfl) rfl rfl (zyC125 f1) ?_
  show zyR _ _ _ _ [some (.ref 2), some (.ref (0 + 3)), some (.ref (43 + 3)), some (.int i)] [.int r] _ _
  refine zy_34 rfl rfl (show zyR _ _ _ _ [some (.ref 2), some (.ref (0 + 3)), some (.ref (43 + 3)), some (.int i)] [] _ _ from ?_)
  refine zy_0 rfl rfl (show zyR _ _ _ _ [some (.ref 2), some (.ref (0 + 3)), some (.ref (43 + 3)), some (.int i)] [.ref (43 + 3)] _ _ from ?_)
  refine zy_0 rfl rfl (show zyR _ _ _ _ [some (.ref 2), some (.ref (0 + 3)), some (.ref (43 + 3)), some (.int i)] [.ref 2, .ref (43 + 3)] _ _ from ?_)
  refine zy_2 rfl rfl (show zyR _ _ _ _ [some (.ref 2), some (.ref (0 + 3)), some (.ref (43 + 3)), some (.int i)] [.int i, .ref 2, .ref (43 + 3)] _ _ from ?_)
  refine zy_3 rfl rfl (show zyR _ _ _ _ [some (.ref 2), some (.ref (0 + 3)), some (.ref (43 + 3)), some (.int i)] [.int (1 : Int32), .int i, .ref 2, .ref (43 + 3)] _ _ from ?_)
  refine zy_10 rfl (show zyR _ _ _ _ [some (.ref 2), some (.ref (0 + 3)), some (.ref (43 + 3)), some (.int i)] [.int (i + (1 : Int32)), .ref 2, .ref (43 + 3)] _ _ from ?_)
  refine zy_26s rfl (zl_in hX i0 i6 (by decide) (by decide)) (show zyR _ _ _ _ [some (.ref 2), some (.ref (0 + 3)), some (.ref (43 + 3)), some (.int i)] [.int (X.2 (i + (1 : Int32)).toNatClampNeg), .ref (43 + 3)] _ _ from ?_)
  refine zy_5 (c := 43) (as := [.int (X.2 (i + (1 : Int32)).toNatClampNeg)]) (rest := []) (L := [some (.ref (43 + 3)), some (.int (X.2 (i + (1 : Int32)).toNatClampNeg)), none, none, none, none, none, none]) (d' := 5) rfl rfl rfl (Nat.le_of_ble_eq_true rfl) (Nat.le_of_ble_eq_true rfl) rfl (Nat.le_of_ble_eq_true rfl) rfl rfl (zyC237 f2) ?_
  show zyR _ _ _ _ [some (.ref 2), some (.ref (0 + 3)), some (.ref (43 + 3)), some (.int i)] [.int r] _ _
  refine zy_34 rfl rfl (show zyR _ _ _ _ [some (.ref 2), some (.ref (0 + 3)), some (.ref (43 + 3)), some (.int i)] [] _ _ from ?_)
  exact zy_6 rfl (k _ hI)
theorem zlc_21 {X : zx_X} {i : Int32} {s : zy_S} {P : Option Value → zy_S → Prop} (hX : X.1 ≤ 3072) (i0 : 0 ≤ i.toInt) (i6 : i.toInt + 6 ≤ X.1) (h : zI s) (k : ∀ t, zI t → zyR X 2000 0 1435 [some (.ref 2), some (.ref (0 + 3)), some (.ref (43 + 3)), some (.int i)] [] t P) : zyR X 2000 0 825 [some (.ref 2), some (.ref (0 + 3)), some (.ref (43 + 3)), some (.int i)] [] s P := by
  obtain ⟨r, s1, s2, f1, f2, hI⟩ := zop_drawn ((X.2 (i + (1 : Int32)).toNatClampNeg)) ((X.2 (i + (2 : Int32)).toNatClampNeg)) ((X.2 (i + (3 : Int32)).toNatClampNeg)) h
  refine zy_0 rfl rfl (show zyR _ _ _ _ [some (.ref 2), some (.ref (0 + 3)), some (.ref (43 + 3)), some (.int i)] [.ref (0 + 3)] _ _ from ?_)
  refine zy_0 rfl rfl (show zyR _ _ _ _ [some (.ref 2), some (.ref (0 + 3)), some (.ref (43 + 3)), some (.int i)] [.ref 2, .ref (0 + 3)] _ _ from ?_)
  refine zy_2 rfl rfl (show zyR _ _ _ _ [some (.ref 2), some (.ref (0 + 3)), some (.ref (43 + 3)), some (.int i)] [.int i, .ref 2, .ref (0 + 3)] _ _ from ?_)
  refine zy_3 rfl rfl (show zyR _ _ _ _ [some (.ref 2), some (.ref (0 + 3)), some (.ref (43 + 3)), some (.int i)] [.int (1 : Int32), .int i, .ref 2, .ref (0 + 3)] _ _ from ?_)
  refine zy_10 rfl (show zyR _ _ _ _ [some (.ref 2), some (.ref (0 + 3)), some (.ref (43 + 3)), some (.int i)] [.int (i + (1 : Int32)), .ref 2, .ref (0 + 3)] _ _ from ?_)
  refine zy_26s rfl (zl_in hX i0 i6 (by decide) (by decide)) (show zyR _ _ _ _ [some (.ref 2), some (.ref (0 + 3)), some (.ref (43 + 3)), some (.int i)] [.int (X.2 (i + (1 : Int32)).toNatClampNeg), .ref (0 + 3)] _ _ from ?_)
  refine zy_0 rfl rfl (show zyR _ _ _ _ [some (.ref 2), some (.ref (0 + 3)), some (.ref (43 + 3)), some (.int i)] [.ref 2, .int (X.2 (i + (1 : Int32)).toNatClampNeg), .ref (0 + 3)] _ _ from ?_)
  refine zy_2 rfl rfl (show zyR _ _ _ _ [some (.ref 2), some (.ref (0 + 3)), some (.ref (43 + 3)), some (.int i)] [.int i, .ref 2, .int (X.2 (i + (1 : Int32)).toNatClampNeg), .ref (0 + 3)] _ _ from ?_)
  refine zy_3 rfl rfl (show zyR _ _ _ _ [some (.ref 2), some (.ref (0 + 3)), some (.ref (43 + 3)), some (.int i)] [.int (2 : Int32), .int i, .ref 2, .int (X.2 (i + (1 : Int32)).toNatClampNeg), .ref (0 + 3)] _ _ from ?_)
  refine zy_10 rfl (show zyR _ _ _ _ [some (.ref 2), some (.ref (0 + 3)), some (.ref (43 + 3)), some (.int i)] [.int (i + (2 : Int32)), .ref 2, .int (X.2 (i + (1 : Int32)).toNatClampNeg), .ref (0 + 3)] _ _ from ?_)
  refine zy_26s rfl (zl_in hX i0 i6 (by decide) (by decide)) (show zyR _ _ _ _ [some (.ref 2), some (.ref (0 + 3)), some (.ref (43 + 3)), some (.int i)] [.int (X.2 (i + (2 : Int32)).toNatClampNeg), .int (X.2 (i + (1 : Int32)).toNatClampNeg), .ref (0 + 3)] _ _ from ?_)
  refine zy_0 rfl rfl (show zyR _ _ _ _ [some (.ref 2), some (.ref (0 + 3)), some (.ref (43 + 3)), some (.int i)] [.ref 2, .int (X.2 (i + (2 : Int32)).toNatClampNeg), .int (X.2 (i + (1 : Int32)).toNatClampNeg), .ref (0 + 3)] _ _ from ?_)
  refine zy_2 rfl rfl (show zyR _ _ _ _ [some (.ref 2), some (.ref (0 + 3)), some (.ref (43 + 3)), some (.int i)] [.int i, .ref 2, .int (X.2 (i + (2 : Int32)).toNatClampNeg), .int (X.2 (i + (1 : Int32)).toNatClampNeg), .ref (0 + 3)] _ _ from ?_)
  refine zy_3 rfl rfl (show zyR _ _ _ _ [some (.ref 2), some (.ref (0 + 3)), some (.ref (43 + 3)), some (.int i)] [.int (3 : Int32), .int i, .ref 2, .int (X.2 (i + (2 : Int32)).toNatClampNeg), .int (X.2 (i + (1 : Int32)).toNatClampNeg), .ref (0 + 3)] _ _ from ?_)
  refine zy_10 rfl (show zyR _ _ _ _ [some (.ref 2), some (.ref (0 + 3)), some (.ref (43 + 3)), some (.int i)] [.int (i + (3 : Int32)), .ref 2, .int (X.2 (i + (2 : Int32)).toNatClampNeg), .int (X.2 (i + (1 : Int32)).toNatClampNeg), .ref (0 + 3)] _ _ from ?_)
  refine zy_26s rfl (zl_in hX i0 i6 (by decide) (by decide)) (show zyR _ _ _ _ [some (.ref 2), some (.ref (0 + 3)), some (.ref (43 + 3)), some (.int i)] [.int (X.2 (i + (3 : Int32)).toNatClampNeg), .int (X.2 (i + (2 : Int32)).toNatClampNeg), .int (X.2 (i + (1 : Int32)).toNatClampNeg), .ref (0 + 3)] _ _ from ?_)
  refine zy_5 (c := 0) (as := [.int (X.2 (i + (1 : Int32)).toNatClampNeg), .int (X.2 (i + (2 : Int32)).toNatClampNeg), .int (X.2 (i + (3 : Int32)).toNatClampNeg)]) (rest := []) (L := [some (.ref (0 + 3)), some (.int (X.2 (i + (1 : Int32)).toNatClampNeg)), some (.int (X.2 (i + (2 : Int32)).toNatClampNeg)), some (.int (X.2 (i + (3 : Int32)).toNatClampNeg)), none, none]) (d' := 8) rfl rfl rfl (Nat.le_of_ble_eq_true rfl) (Nat.le_of_ble_eq_true rfl) rfl (Nat.le_of_ble_eq_true rfl) rfl rfl (zyC129 f1) ?_
  show zyR _ _ _ _ [some (.ref 2), some (.ref (0 + 3)), some (.ref (43 + 3)), some (.int i)] [.int r] _ _
  refine zy_34 rfl rfl (show zyR _ _ _ _ [some (.ref 2), some (.ref (0 + 3)), some (.ref (43 + 3)), some (.int i)] [] _ _ from ?_)
  refine zy_0 rfl rfl (show zyR _ _ _ _ [some (.ref 2), some (.ref (0 + 3)), some (.ref (43 + 3)), some (.int i)] [.ref (43 + 3)] _ _ from ?_)
  refine zy_0 rfl rfl (show zyR _ _ _ _ [some (.ref 2), some (.ref (0 + 3)), some (.ref (43 + 3)), some (.int i)] [.ref 2, .ref (43 + 3)] _ _ from ?_)
  refine zy_2 rfl rfl (show zyR _ _ _ _ [some (.ref 2), some (.ref (0 + 3)), some (.ref (43 + 3)), some (.int i)] [.int i, .ref 2, .ref (43 + 3)] _ _ from ?_)
  refine zy_3 rfl rfl (show zyR _ _ _ _ [some (.ref 2), some (.ref (0 + 3)), some (.ref (43 + 3)), some (.int i)] [.int (1 : Int32), .int i, .ref 2, .ref (43 + 3)] _ _ from ?_)
  refine zy_10 rfl (show zyR _ _ _ _ [some (.ref 2), some (.ref (0 + 3)), some (.ref (43 + 3)), some (.int i)] [.int (i + (1 : Int32)), .ref 2, .ref (43 + 3)] _ _ from ?_)
  refine zy_26s rfl (zl_in hX i0 i6 (by decide) (by decide)) (show zyR _ _ _ _ [some (.ref 2), some (.ref (0 + 3)), some (.ref (43 + 3)), some (.int i)] [.int (X.2 (i + (1 : Int32)).toNatClampNeg), .ref (43 + 3)] _ _ from ?_)
  refine zy_0 rfl rfl (show zyR _ _ _ _ [some (.ref 2), some (.ref (0 + 3)), some (.ref (43 + 3)), some (.int i)] [.ref 2, .int (X.2 (i + (1 : Int32)).toNatClampNeg), .ref (43 + 3)] _ _ from ?_)
  refine zy_2 rfl rfl (show zyR _ _ _ _ [some (.ref 2), some (.ref (0 + 3)), some (.ref (43 + 3)), some (.int i)] [.int i, .ref 2, .int (X.2 (i + (1 : Int32)).toNatClampNeg), .ref (43 + 3)] _ _ from ?_)
  refine zy_3 rfl rfl (show zyR _ _ _ _ [some (.ref 2), some (.ref (0 + 3)), some (.ref (43 + 3)), some (.int i)] [.int (2 : Int32), .int i, .ref 2, .int (X.2 (i + (1 : Int32)).toNatClampNeg), .ref (43 + 3)] _ _ from ?_)
  refine zy_10 rfl (show zyR _ _ _ _ [some (.ref 2), some (.ref (0 + 3)), some (.ref (43 + 3)), some (.int i)] [.int (i + (2 : Int32)), .ref 2, .int (X.2 (i + (1 : Int32)).toNatClampNeg), .ref (43 + 3)] _ _ from ?_)
  refine zy_26s rfl (zl_in hX i0 i6 (by decide) (by decide)) (show zyR _ _ _ _ [some (.ref 2), some (.ref (0 + 3)), some (.ref (43 + 3)), some (.int i)] [.int (X.2 (i + (2 : Int32)).toNatClampNeg), .int (X.2 (i + (1 : Int32)).toNatClampNeg), .ref (43 + 3)] _ _ from ?_)
  refine zy_0 rfl rfl (show zyR _ _ _ _ [some (.ref 2), some (.ref (0 + 3)), some (.ref (43 + 3)), some (.int i)] [.ref 2, .int (X.2 (i + (2 : Int32)).toNatClampNeg), .int (X.2 (i + (1 : Int32)).toNatClampNeg), .ref (43 + 3)] _ _ from ?_)
  refine zy_2 rfl rfl (show zyR _ _ _ _ [some (.ref 2), some (.ref (0 + 3)), some (.ref (43 + 3)), some (.int i)] [.int i, .ref 2, .int (X.2 (i + (2 : Int32)).toNatClampNeg), .int (X.2 (i + (1 : Int32)).toNatClampNeg), .ref (43 + 3)] _ _ from ?_)
  refine zy_3 rfl rfl (show zyR _ _ _ _ [some (.ref 2), some (.ref (0 + 3)), some (.ref (43 + 3)), some (.int i)] [.int (3 : Int32), .int i, .ref 2, .int (X.2 (i + (2 : Int32)).toNatClampNeg), .int (X.2 (i + (1 : Int32)).toNatClampNeg), .ref (43 + 3)] _ _ from ?_)
  refine zy_10 rfl (show zyR _ _ _ _ [some (.ref 2), some (.ref (0 + 3)), some (.ref (43 + 3)), some (.int i)] [.int (i + (3 : Int32)), .ref 2, .int (X.2 (i + (2 : Int32)).toNatClampNeg), .int (X.2 (i + (1 : Int32)).toNatClampNeg), .ref (43 + 3)] _ _ from ?_)
  refine zy_26s rfl (zl_in hX i0 i6 (by decide) (by decide)) (show zyR _ _ _ _ [some (.ref 2), some (.ref (0 + 3)), some (.ref (43 + 3)), some (.int i)] [.int (X.2 (i + (3 : Int32)).toNatClampNeg), .int (X.2 (i + (2 : Int32)).toNatClampNeg), .int (X.2 (i + (1 : Int32)).toNatClampNeg), .ref (43 + 3)] _ _ from ?_)
  refine zy_5 (c := 43) (as := [.int (X.2 (i + (1 : Int32)).toNatClampNeg), .int (X.2 (i + (2 : Int32)).toNatClampNeg), .int (X.2 (i + (3 : Int32)).toNatClampNeg)]) (rest := []) (L := [some (.ref (43 + 3)), some (.int (X.2 (i + (1 : Int32)).toNatClampNeg)), some (.int (X.2 (i + (2 : Int32)).toNatClampNeg)), some (.int (X.2 (i + (3 : Int32)).toNatClampNeg)), none, none, none, none, none, none, none]) (d' := 107) rfl rfl rfl (Nat.le_of_ble_eq_true rfl) (Nat.le_of_ble_eq_true rfl) rfl (Nat.le_of_ble_eq_true rfl) rfl rfl (zyC239 f2) ?_
  show zyR _ _ _ _ [some (.ref 2), some (.ref (0 + 3)), some (.ref (43 + 3)), some (.int i)] [.int r] _ _
  refine zy_34 rfl rfl (show zyR _ _ _ _ [some (.ref 2), some (.ref (0 + 3)), some (.ref (43 + 3)), some (.int i)] [] _ _ from ?_)
  exact zy_6 rfl (k _ hI)
theorem zlc_22 {X : zx_X} {i : Int32} {s : zy_S} {P : Option Value → zy_S → Prop} (hX : X.1 ≤ 3072) (i0 : 0 ≤ i.toInt) (i6 : i.toInt + 6 ≤ X.1) (h : zI s) (k : ∀ t, zI t → zyR X 2000 0 1435 [some (.ref 2), some (.ref (0 + 3)), some (.ref (43 + 3)), some (.int i)] [] t P) : zyR X 2000 0 868 [some (.ref 2), some (.ref (0 + 3)), some (.ref (43 + 3)), some (.int i)] [] s P := by
  obtain ⟨r, s1, s2, f1, f2, hI⟩ := zop_write ((X.2 (i + (1 : Int32)).toNatClampNeg)) h
  refine zy_0 rfl rfl (show zyR _ _ _ _ [some (.ref 2), some (.ref (0 + 3)), some (.ref (43 + 3)), some (.int i)] [.ref (0 + 3)] _ _ from ?_)
  refine zy_0 rfl rfl (show zyR _ _ _ _ [some (.ref 2), some (.ref (0 + 3)), some (.ref (43 + 3)), some (.int i)] [.ref 2, .ref (0 + 3)] _ _ from ?_)
  refine zy_2 rfl rfl (show zyR _ _ _ _ [some (.ref 2), some (.ref (0 + 3)), some (.ref (43 + 3)), some (.int i)] [.int i, .ref 2, .ref (0 + 3)] _ _ from ?_)
  refine zy_3 rfl rfl (show zyR _ _ _ _ [some (.ref 2), some (.ref (0 + 3)), some (.ref (43 + 3)), some (.int i)] [.int (1 : Int32), .int i, .ref 2, .ref (0 + 3)] _ _ from ?_)
  refine zy_10 rfl (show zyR _ _ _ _ [some (.ref 2), some (.ref (0 + 3)), some (.ref (43 + 3)), some (.int i)] [.int (i + (1 : Int32)), .ref 2, .ref (0 + 3)] _ _ from ?_)
  refine zy_26s rfl (zl_in hX i0 i6 (by decide) (by decide)) (show zyR _ _ _ _ [some (.ref 2), some (.ref (0 + 3)), some (.ref (43 + 3)), some (.int i)] [.int (X.2 (i + (1 : Int32)).toNatClampNeg), .ref (0 + 3)] _ _ from ?_)
  refine zy_5 (c := 0) (as := [.int (X.2 (i + (1 : Int32)).toNatClampNeg)]) (rest := []) (L := [some (.ref (0 + 3)), some (.int (X.2 (i + (1 : Int32)).toNatClampNeg))]) (d' := 4) rfl rfl rfl (Nat.le_of_ble_eq_true rfl) (Nat.le_of_ble_eq_true rfl) rfl (Nat.le_of_ble_eq_true rfl) rfl rfl (zyC131 f1) ?_
  show zyR _ _ _ _ [some (.ref 2), some (.ref (0 + 3)), some (.ref (43 + 3)), some (.int i)] [.int r] _ _
  refine zy_34 rfl rfl (show zyR _ _ _ _ [some (.ref 2), some (.ref (0 + 3)), some (.ref (43 + 3)), some (.int i)] [] _ _ from ?_)
  refine zy_0 rfl rfl (show zyR _ _ _ _ [some (.ref 2), some (.ref (0 + 3)), some (.ref (43 + 3)), some (.int i)] [.ref (43 + 3)] _ _ from ?_)
  refine zy_0 rfl rfl (show zyR _ _ _ _ [some (.ref 2), some (.ref (0 + 3)), some (.ref (43 + 3)), some (.int i)] [.ref 2, .ref (43 + 3)] _ _ from ?_)
  refine zy_2 rfl rfl (show zyR _ _ _ _ [some (.ref 2), some (.ref (0 + 3)), some (.ref (43 + 3)), some (.int i)] [.int i, .ref 2, .ref (43 + 3)] _ _ from ?_)
  refine zy_3 rfl rfl (show zyR _ _ _ _ [some (.ref 2), some (.ref (0 + 3)), some (.ref (43 + 3)), some (.int i)] [.int (1 : Int32), .int i, .ref 2, .ref (43 + 3)] _ _ from ?_)
  refine zy_10 rfl (show zyR _ _ _ _ [some (.ref 2), some (.ref (0 + 3)), some (.ref (43 + 3)), some (.int i)] [.int (i + (1 : Int32)), .ref 2, .ref (43 + 3)] _ _ from ?_)
  refine zy_26s rfl (zl_in hX i0 i6 (by decide) (by decide)) (show zyR _ _ _ _ [some (.ref 2), some (.ref (0 + 3)), some (.ref (43 + 3)), some (.int i)] [.int (X.2 (i + (1 : Int32)).toNatClampNeg), .ref (43 + 3)] _ _ from ?_)
  refine zy_5 (c := 43) (as := [.int (X.2 (i + (1 : Int32)).toNatClampNeg)]) (rest := []) (L := [some (.ref (43 + 3)), some (.int (X.2 (i + (1 : Int32)).toNatClampNeg))]) (d' := 3) rfl rfl rfl (Nat.le_of_ble_eq_true rfl) (Nat.le_of_ble_eq_true rfl) rfl (Nat.le_of_ble_eq_true rfl) rfl rfl (zyC240 f2) ?_
  show zyR _ _ _ _ [some (.ref 2), some (.ref (0 + 3)), some (.ref (43 + 3)), some (.int i)] [.int r] _ _
  refine zy_34 rfl rfl (show zyR _ _ _ _ [some (.ref 2), some (.ref (0 + 3)), some (.ref (43 + 3)), some (.int i)] [] _ _ from ?_)
  exact zy_6 rfl (k _ hI)
theorem zlc_23 {X : zx_X} {i : Int32} {s : zy_S} {P : Option Value → zy_S → Prop} (hX : X.1 ≤ 3072) (i0 : 0 ≤ i.toInt) (i6 : i.toInt + 6 ≤ X.1) (h : zI s) (k : ∀ t, zI t → zyR X 2000 0 1435 [some (.ref 2), some (.ref (0 + 3)), some (.ref (43 + 3)), some (.int i)] [] t P) : zyR X 2000 0 891 [some (.ref 2), some (.ref (0 + 3)), some (.ref (43 + 3)), some (.int i)] [] s P := by
  obtain ⟨r, s1, s2, f1, f2, hI⟩ := zop_strike ((X.2 (i + (1 : Int32)).toNatClampNeg)) h
  refine zy_0 rfl rfl (show zyR _ _ _ _ [some (.ref 2), some (.ref (0 + 3)), some (.ref (43 + 3)), some (.int i)] [.ref (0 + 3)] _ _ from ?_)
  refine zy_0 rfl rfl (show zyR _ _ _ _ [some (.ref 2), some (.ref (0 + 3)), some (.ref (43 + 3)), some (.int i)] [.ref 2, .ref (0 + 3)] _ _ from ?_)
  refine zy_2 rfl rfl (show zyR _ _ _ _ [some (.ref 2), some (.ref (0 + 3)), some (.ref (43 + 3)), some (.int i)] [.int i, .ref 2, .ref (0 + 3)] _ _ from ?_)
  refine zy_3 rfl rfl (show zyR _ _ _ _ [some (.ref 2), some (.ref (0 + 3)), some (.ref (43 + 3)), some (.int i)] [.int (1 : Int32), .int i, .ref 2, .ref (0 + 3)] _ _ from ?_)
  refine zy_10 rfl (show zyR _ _ _ _ [some (.ref 2), some (.ref (0 + 3)), some (.ref (43 + 3)), some (.int i)] [.int (i + (1 : Int32)), .ref 2, .ref (0 + 3)] _ _ from ?_)
  refine zy_26s rfl (zl_in hX i0 i6 (by decide) (by decide)) (show zyR _ _ _ _ [some (.ref 2), some (.ref (0 + 3)), some (.ref (43 + 3)), some (.int i)] [.int (X.2 (i + (1 : Int32)).toNatClampNeg), .ref (0 + 3)] _ _ from ?_)
  refine zy_5 (c := 0) (as := [.int (X.2 (i + (1 : Int32)).toNatClampNeg)]) (rest := []) (L := [some (.ref (0 + 3)), some (.int (X.2 (i + (1 : Int32)).toNatClampNeg))]) (d' := 4) rfl rfl rfl (Nat.le_of_ble_eq_true rfl) (Nat.le_of_ble_eq_true rfl) rfl (Nat.le_of_ble_eq_true rfl) rfl rfl (zyC133 f1) ?_
  show zyR _ _ _ _ [some (.ref 2), some (.ref (0 + 3)), some (.ref (43 + 3)), some (.int i)] [.int r] _ _
  refine zy_34 rfl rfl (show zyR _ _ _ _ [some (.ref 2), some (.ref (0 + 3)), some (.ref (43 + 3)), some (.int i)] [] _ _ from ?_)
  refine zy_0 rfl rfl (show zyR _ _ _ _ [some (.ref 2), some (.ref (0 + 3)), some (.ref (43 + 3)), some (.int i)] [.ref (43 + 3)] _ _ from ?_)
  refine zy_0 rfl rfl (show zyR _ _ _ _ [some (.ref 2), some (.ref (0 + 3)), some (.ref (43 + 3)), some (.int i)] [.ref 2, .ref (43 + 3)] _ _ from ?_)
  refine zy_2 rfl rfl (show zyR _ _ _ _ [some (.ref 2), some (.ref (0 + 3)), some (.ref (43 + 3)), some (.int i)] [.int i, .ref 2, .ref (43 + 3)] _ _ from ?_)
  refine zy_3 rfl rfl (show zyR _ _ _ _ [some (.ref 2), some (.ref (0 + 3)), some (.ref (43 + 3)), some (.int i)] [.int (1 : Int32), .int i, .ref 2, .ref (43 + 3)] _ _ from ?_)
  refine zy_10 rfl (show zyR _ _ _ _ [some (.ref 2), some (.ref (0 + 3)), some (.ref (43 + 3)), some (.int i)] [.int (i + (1 : Int32)), .ref 2, .ref (43 + 3)] _ _ from ?_)
  refine zy_26s rfl (zl_in hX i0 i6 (by decide) (by decide)) (show zyR _ _ _ _ [some (.ref 2), some (.ref (0 + 3)), some (.ref (43 + 3)), some (.int i)] [.int (X.2 (i + (1 : Int32)).toNatClampNeg), .ref (43 + 3)] _ _ from ?_)
  refine zy_5 (c := 43) (as := [.int (X.2 (i + (1 : Int32)).toNatClampNeg)]) (rest := []) (L := [some (.ref (43 + 3)), some (.int (X.2 (i + (1 : Int32)).toNatClampNeg))]) (d' := 3) rfl rfl rfl (Nat.le_of_ble_eq_true rfl) (Nat.le_of_ble_eq_true rfl) rfl (Nat.le_of_ble_eq_true rfl) rfl rfl (zyC241 f2) ?_
  show zyR _ _ _ _ [some (.ref 2), some (.ref (0 + 3)), some (.ref (43 + 3)), some (.int i)] [.int r] _ _
  refine zy_34 rfl rfl (show zyR _ _ _ _ [some (.ref 2), some (.ref (0 + 3)), some (.ref (43 + 3)), some (.int i)] [] _ _ from ?_)
  exact zy_6 rfl (k _ hI)
theorem zlc_24 {X : zx_X} {i : Int32} {s : zy_S} {P : Option Value → zy_S → Prop} (hX : X.1 ≤ 3072) (i0 : 0 ≤ i.toInt) (i6 : i.toInt + 6 ≤ X.1) (h : zI s) (k : ∀ t, zI t → zyR X 2000 0 1435 [some (.ref 2), some (.ref (0 + 3)), some (.ref (43 + 3)), some (.int i)] [] t P) : zyR X 2000 0 914 [some (.ref 2), some (.ref (0 + 3)), some (.ref (43 + 3)), some (.int i)] [] s P := by
  obtain ⟨r, s1, s2, f1, f2, hI⟩ := zop_rub ((X.2 (i + (1 : Int32)).toNatClampNeg)) h
  refine zy_0 rfl rfl (show zyR _ _ _ _ [some (.ref 2), some (.ref (0 + 3)), some (.ref (43 + 3)), some (.int i)] [.ref (0 + 3)] _ _ from ?_)
  refine zy_0 rfl rfl (show zyR _ _ _ _ [some (.ref 2), some (.ref (0 + 3)), some (.ref (43 + 3)), some (.int i)] [.ref 2, .ref (0 + 3)] _ _ from ?_)
  refine zy_2 rfl rfl (show zyR _ _ _ _ [some (.ref 2), some (.ref (0 + 3)), some (.ref (43 + 3)), some (.int i)] [.int i, .ref 2, .ref (0 + 3)] _ _ from ?_)
  refine zy_3 rfl rfl (show zyR _ _ _ _ [some (.ref 2), some (.ref (0 + 3)), some (.ref (43 + 3)), some (.int i)] [.int (1 : Int32), .int i, .ref 2, .ref (0 + 3)] _ _ from ?_)
  refine zy_10 rfl (show zyR _ _ _ _ [some (.ref 2), some (.ref (0 + 3)), some (.ref (43 + 3)), some (.int i)] [.int (i + (1 : Int32)), .ref 2, .ref (0 + 3)] _ _ from ?_)
  refine zy_26s rfl (zl_in hX i0 i6 (by decide) (by decide)) (show zyR _ _ _ _ [some (.ref 2), some (.ref (0 + 3)), some (.ref (43 + 3)), some (.int i)] [.int (X.2 (i + (1 : Int32)).toNatClampNeg), .ref (0 + 3)] _ _ from ?_)
  refine zy_5 (c := 0) (as := [.int (X.2 (i + (1 : Int32)).toNatClampNeg)]) (rest := []) (L := [some (.ref (0 + 3)), some (.int (X.2 (i + (1 : Int32)).toNatClampNeg))]) (d' := 3) rfl rfl rfl (Nat.le_of_ble_eq_true rfl) (Nat.le_of_ble_eq_true rfl) rfl (Nat.le_of_ble_eq_true rfl) rfl rfl (zyC135 f1) ?_
  show zyR _ _ _ _ [some (.ref 2), some (.ref (0 + 3)), some (.ref (43 + 3)), some (.int i)] [.int r] _ _
  refine zy_34 rfl rfl (show zyR _ _ _ _ [some (.ref 2), some (.ref (0 + 3)), some (.ref (43 + 3)), some (.int i)] [] _ _ from ?_)
  refine zy_0 rfl rfl (show zyR _ _ _ _ [some (.ref 2), some (.ref (0 + 3)), some (.ref (43 + 3)), some (.int i)] [.ref (43 + 3)] _ _ from ?_)
  refine zy_0 rfl rfl (show zyR _ _ _ _ [some (.ref 2), some (.ref (0 + 3)), some (.ref (43 + 3)), some (.int i)] [.ref 2, .ref (43 + 3)] _ _ from ?_)
  refine zy_2 rfl rfl (show zyR _ _ _ _ [some (.ref 2), some (.ref (0 + 3)), some (.ref (43 + 3)), some (.int i)] [.int i, .ref 2, .ref (43 + 3)] _ _ from ?_)
  refine zy_3 rfl rfl (show zyR _ _ _ _ [some (.ref 2), some (.ref (0 + 3)), some (.ref (43 + 3)), some (.int i)] [.int (1 : Int32), .int i, .ref 2, .ref (43 + 3)] _ _ from ?_)
  refine zy_10 rfl (show zyR _ _ _ _ [some (.ref 2), some (.ref (0 + 3)), some (.ref (43 + 3)), some (.int i)] [.int (i + (1 : Int32)), .ref 2, .ref (43 + 3)] _ _ from ?_)
  refine zy_26s rfl (zl_in hX i0 i6 (by decide) (by decide)) (show zyR _ _ _ _ [some (.ref 2), some (.ref (0 + 3)), some (.ref (43 + 3)), some (.int i)] [.int (X.2 (i + (1 : Int32)).toNatClampNeg), .ref (43 + 3)] _ _ from ?_)
  refine zy_5 (c := 43) (as := [.int (X.2 (i + (1 : Int32)).toNatClampNeg)]) (rest := []) (L := [some (.ref (43 + 3)), some (.int (X.2 (i + (1 : Int32)).toNatClampNeg))]) (d' := 3) rfl rfl rfl (Nat.le_of_ble_eq_true rfl) (Nat.le_of_ble_eq_true rfl) rfl (Nat.le_of_ble_eq_true rfl) rfl rfl (zyC242 f2) ?_
  show zyR _ _ _ _ [some (.ref 2), some (.ref (0 + 3)), some (.ref (43 + 3)), some (.int i)] [.int r] _ _
  refine zy_34 rfl rfl (show zyR _ _ _ _ [some (.ref 2), some (.ref (0 + 3)), some (.ref (43 + 3)), some (.int i)] [] _ _ from ?_)
  exact zy_6 rfl (k _ hI)
theorem zlc_25 {X : zx_X} {i : Int32} {s : zy_S} {P : Option Value → zy_S → Prop} (hX : X.1 ≤ 3072) (i0 : 0 ≤ i.toInt) (i6 : i.toInt + 6 ≤ X.1) (h : zI s) (k : ∀ t, zI t → zyR X 2000 0 1435 [some (.ref 2), some (.ref (0 + 3)), some (.ref (43 + 3)), some (.int i)] [] t P) : zyR X 2000 0 937 [some (.ref 2), some (.ref (0 + 3)), some (.ref (43 + 3)), some (.int i)] [] s P := by
  obtain ⟨r, s1, s2, f1, f2, hI⟩ := zop_won ((X.2 (i + (1 : Int32)).toNatClampNeg)) ((X.2 (i + (2 : Int32)).toNatClampNeg)) h
  refine zy_0 rfl rfl (show zyR _ _ _ _ [some (.ref 2), some (.ref (0 + 3)), some (.ref (43 + 3)), some (.int i)] [.ref (0 + 3)] _ _ from ?_)
  refine zy_0 rfl rfl (show zyR _ _ _ _ [some (.ref 2), some (.ref (0 + 3)), some (.ref (43 + 3)), some (.int i)] [.ref 2, .ref (0 + 3)] _ _ from ?_)
  refine zy_2 rfl rfl (show zyR _ _ _ _ [some (.ref 2), some (.ref (0 + 3)), some (.ref (43 + 3)), some (.int i)] [.int i, .ref 2, .ref (0 + 3)] _ _ from ?_)
  refine zy_3 rfl rfl (show zyR _ _ _ _ [some (.ref 2), some (.ref (0 + 3)), some (.ref (43 + 3)), some (.int i)] [.int (1 : Int32), .int i, .ref 2, .ref (0 + 3)] _ _ from ?_)
  refine zy_10 rfl (show zyR _ _ _ _ [some (.ref 2), some (.ref (0 + 3)), some (.ref (43 + 3)), some (.int i)] [.int (i + (1 : Int32)), .ref 2, .ref (0 + 3)] _ _ from ?_)
  refine zy_26s rfl (zl_in hX i0 i6 (by decide) (by decide)) (show zyR _ _ _ _ [some (.ref 2), some (.ref (0 + 3)), some (.ref (43 + 3)), some (.int i)] [.int (X.2 (i + (1 : Int32)).toNatClampNeg), .ref (0 + 3)] _ _ from ?_)
  refine zy_0 rfl rfl (show zyR _ _ _ _ [some (.ref 2), some (.ref (0 + 3)), some (.ref (43 + 3)), some (.int i)] [.ref 2, .int (X.2 (i + (1 : Int32)).toNatClampNeg), .ref (0 + 3)] _ _ from ?_)
  refine zy_2 rfl rfl (show zyR _ _ _ _ [some (.ref 2), some (.ref (0 + 3)), some (.ref (43 + 3)), some (.int i)] [.int i, .ref 2, .int (X.2 (i + (1 : Int32)).toNatClampNeg), .ref (0 + 3)] _ _ from ?_)
  refine zy_3 rfl rfl (show zyR _ _ _ _ [some (.ref 2), some (.ref (0 + 3)), some (.ref (43 + 3)), some (.int i)] [.int (2 : Int32), .int i, .ref 2, .int (X.2 (i + (1 : Int32)).toNatClampNeg), .ref (0 + 3)] _ _ from ?_)
  refine zy_10 rfl (show zyR _ _ _ _ [some (.ref 2), some (.ref (0 + 3)), some (.ref (43 + 3)), some (.int i)] [.int (i + (2 : Int32)), .ref 2, .int (X.2 (i + (1 : Int32)).toNatClampNeg), .ref (0 + 3)] _ _ from ?_)
  refine zy_26s rfl (zl_in hX i0 i6 (by decide) (by decide)) (show zyR _ _ _ _ [some (.ref 2), some (.ref (0 + 3)), some (.ref (43 + 3)), some (.int i)] [.int (X.2 (i + (2 : Int32)).toNatClampNeg), .int (X.2 (i + (1 : Int32)).toNatClampNeg), .ref (0 + 3)] _ _ from ?_)
  refine zy_5 (c := 0) (as := [.int (X.2 (i + (1 : Int32)).toNatClampNeg), .int (X.2 (i + (2 : Int32)).toNatClampNeg)]) (rest := []) (L := [some (.ref (0 + 3)), some (.int (X.2 (i + (1 : Int32)).toNatClampNeg)), some (.int (X.2 (i + (2 : Int32)).toNatClampNeg))]) (d' := 3) rfl rfl rfl (Nat.le_of_ble_eq_true rfl) (Nat.le_of_ble_eq_true rfl) rfl (Nat.le_of_ble_eq_true rfl) rfl rfl (zyC137 f1) ?_
  show zyR _ _ _ _ [some (.ref 2), some (.ref (0 + 3)), some (.ref (43 + 3)), some (.int i)] [.int r] _ _
  refine zy_34 rfl rfl (show zyR _ _ _ _ [some (.ref 2), some (.ref (0 + 3)), some (.ref (43 + 3)), some (.int i)] [] _ _ from ?_)
  refine zy_0 rfl rfl (show zyR _ _ _ _ [some (.ref 2), some (.ref (0 + 3)), some (.ref (43 + 3)), some (.int i)] [.ref (43 + 3)] _ _ from ?_)
  refine zy_0 rfl rfl (show zyR _ _ _ _ [some (.ref 2), some (.ref (0 + 3)), some (.ref (43 + 3)), some (.int i)] [.ref 2, .ref (43 + 3)] _ _ from ?_)
  refine zy_2 rfl rfl (show zyR _ _ _ _ [some (.ref 2), some (.ref (0 + 3)), some (.ref (43 + 3)), some (.int i)] [.int i, .ref 2, .ref (43 + 3)] _ _ from ?_)
  refine zy_3 rfl rfl (show zyR _ _ _ _ [some (.ref 2), some (.ref (0 + 3)), some (.ref (43 + 3)), some (.int i)] [.int (1 : Int32), .int i, .ref 2, .ref (43 + 3)] _ _ from ?_)
  refine zy_10 rfl (show zyR _ _ _ _ [some (.ref 2), some (.ref (0 + 3)), some (.ref (43 + 3)), some (.int i)] [.int (i + (1 : Int32)), .ref 2, .ref (43 + 3)] _ _ from ?_)
  refine zy_26s rfl (zl_in hX i0 i6 (by decide) (by decide)) (show zyR _ _ _ _ [some (.ref 2), some (.ref (0 + 3)), some (.ref (43 + 3)), some (.int i)] [.int (X.2 (i + (1 : Int32)).toNatClampNeg), .ref (43 + 3)] _ _ from ?_)
  refine zy_0 rfl rfl (show zyR _ _ _ _ [some (.ref 2), some (.ref (0 + 3)), some (.ref (43 + 3)), some (.int i)] [.ref 2, .int (X.2 (i + (1 : Int32)).toNatClampNeg), .ref (43 + 3)] _ _ from ?_)
  refine zy_2 rfl rfl (show zyR _ _ _ _ [some (.ref 2), some (.ref (0 + 3)), some (.ref (43 + 3)), some (.int i)] [.int i, .ref 2, .int (X.2 (i + (1 : Int32)).toNatClampNeg), .ref (43 + 3)] _ _ from ?_)
  refine zy_3 rfl rfl (show zyR _ _ _ _ [some (.ref 2), some (.ref (0 + 3)), some (.ref (43 + 3)), some (.int i)] [.int (2 : Int32), .int i, .ref 2, .int (X.2 (i + (1 : Int32)).toNatClampNeg), .ref (43 + 3)] _ _ from ?_)
  refine zy_10 rfl (show zyR _ _ _ _ [some (.ref 2), some (.ref (0 + 3)), some (.ref (43 + 3)), some (.int i)] [.int (i + (2 : Int32)), .ref 2, .int (X.2 (i + (1 : Int32)).toNatClampNeg), .ref (43 + 3)] _ _ from ?_)
  refine zy_26s rfl (zl_in hX i0 i6 (by decide) (by decide)) (show zyR _ _ _ _ [some (.ref 2), some (.ref (0 + 3)), some (.ref (43 + 3)), some (.int i)] [.int (X.2 (i + (2 : Int32)).toNatClampNeg), .int (X.2 (i + (1 : Int32)).toNatClampNeg), .ref (43 + 3)] _ _ from ?_)
  refine zy_5 (c := 43) (as := [.int (X.2 (i + (1 : Int32)).toNatClampNeg), .int (X.2 (i + (2 : Int32)).toNatClampNeg)]) (rest := []) (L := [some (.ref (43 + 3)), some (.int (X.2 (i + (1 : Int32)).toNatClampNeg)), some (.int (X.2 (i + (2 : Int32)).toNatClampNeg)), none]) (d' := 4) rfl rfl rfl (Nat.le_of_ble_eq_true rfl) (Nat.le_of_ble_eq_true rfl) rfl (Nat.le_of_ble_eq_true rfl) rfl rfl (zyC243 f2) ?_
  show zyR _ _ _ _ [some (.ref 2), some (.ref (0 + 3)), some (.ref (43 + 3)), some (.int i)] [.int r] _ _
  refine zy_34 rfl rfl (show zyR _ _ _ _ [some (.ref 2), some (.ref (0 + 3)), some (.ref (43 + 3)), some (.int i)] [] _ _ from ?_)
  exact zy_6 rfl (k _ hI)
theorem zlc_26 {X : zx_X} {i : Int32} {s : zy_S} {P : Option Value → zy_S → Prop} (hX : X.1 ≤ 3072) (i0 : 0 ≤ i.toInt) (i6 : i.toInt + 6 ≤ X.1) (h : zI s) (k : ∀ t, zI t → zyR X 2000 0 1435 [some (.ref 2), some (.ref (0 + 3)), some (.ref (43 + 3)), some (.int i)] [] t P) : zyR X 2000 0 970 [some (.ref 2), some (.ref (0 + 3)), some (.ref (43 + 3)), some (.int i)] [] s P := by
  obtain ⟨r, s1, s2, f1, f2, hI⟩ := zop_led ((X.2 (i + (1 : Int32)).toNatClampNeg)) h
  refine zy_0 rfl rfl (show zyR _ _ _ _ [some (.ref 2), some (.ref (0 + 3)), some (.ref (43 + 3)), some (.int i)] [.ref (0 + 3)] _ _ from ?_)
  refine zy_0 rfl rfl (show zyR _ _ _ _ [some (.ref 2), some (.ref (0 + 3)), some (.ref (43 + 3)), some (.int i)] [.ref 2, .ref (0 + 3)] _ _ from ?_)
  refine zy_2 rfl rfl (show zyR _ _ _ _ [some (.ref 2), some (.ref (0 + 3)), some (.ref (43 + 3)), some (.int i)] [.int i, .ref 2, .ref (0 + 3)] _ _ from ?_)
  refine zy_3 rfl rfl (show zyR _ _ _ _ [some (.ref 2), some (.ref (0 + 3)), some (.ref (43 + 3)), some (.int i)] [.int (1 : Int32), .int i, .ref 2, .ref (0 + 3)] _ _ from ?_)
  refine zy_10 rfl (show zyR _ _ _ _ [some (.ref 2), some (.ref (0 + 3)), some (.ref (43 + 3)), some (.int i)] [.int (i + (1 : Int32)), .ref 2, .ref (0 + 3)] _ _ from ?_)
  refine zy_26s rfl (zl_in hX i0 i6 (by decide) (by decide)) (show zyR _ _ _ _ [some (.ref 2), some (.ref (0 + 3)), some (.ref (43 + 3)), some (.int i)] [.int (X.2 (i + (1 : Int32)).toNatClampNeg), .ref (0 + 3)] _ _ from ?_)
  refine zy_5 (c := 0) (as := [.int (X.2 (i + (1 : Int32)).toNatClampNeg)]) (rest := []) (L := [some (.ref (0 + 3)), some (.int (X.2 (i + (1 : Int32)).toNatClampNeg))]) (d' := 1) rfl rfl rfl (Nat.le_of_ble_eq_true rfl) (Nat.le_of_ble_eq_true rfl) rfl (Nat.le_of_ble_eq_true rfl) rfl rfl (zyC139 f1) ?_
  show zyR _ _ _ _ [some (.ref 2), some (.ref (0 + 3)), some (.ref (43 + 3)), some (.int i)] [.int r] _ _
  refine zy_34 rfl rfl (show zyR _ _ _ _ [some (.ref 2), some (.ref (0 + 3)), some (.ref (43 + 3)), some (.int i)] [] _ _ from ?_)
  refine zy_0 rfl rfl (show zyR _ _ _ _ [some (.ref 2), some (.ref (0 + 3)), some (.ref (43 + 3)), some (.int i)] [.ref (43 + 3)] _ _ from ?_)
  refine zy_0 rfl rfl (show zyR _ _ _ _ [some (.ref 2), some (.ref (0 + 3)), some (.ref (43 + 3)), some (.int i)] [.ref 2, .ref (43 + 3)] _ _ from ?_)
  refine zy_2 rfl rfl (show zyR _ _ _ _ [some (.ref 2), some (.ref (0 + 3)), some (.ref (43 + 3)), some (.int i)] [.int i, .ref 2, .ref (43 + 3)] _ _ from ?_)
  refine zy_3 rfl rfl (show zyR _ _ _ _ [some (.ref 2), some (.ref (0 + 3)), some (.ref (43 + 3)), some (.int i)] [.int (1 : Int32), .int i, .ref 2, .ref (43 + 3)] _ _ from ?_)
  refine zy_10 rfl (show zyR _ _ _ _ [some (.ref 2), some (.ref (0 + 3)), some (.ref (43 + 3)), some (.int i)] [.int (i + (1 : Int32)), .ref 2, .ref (43 + 3)] _ _ from ?_)
  refine zy_26s rfl (zl_in hX i0 i6 (by decide) (by decide)) (show zyR _ _ _ _ [some (.ref 2), some (.ref (0 + 3)), some (.ref (43 + 3)), some (.int i)] [.int (X.2 (i + (1 : Int32)).toNatClampNeg), .ref (43 + 3)] _ _ from ?_)
  refine zy_5 (c := 43) (as := [.int (X.2 (i + (1 : Int32)).toNatClampNeg)]) (rest := []) (L := [some (.ref (43 + 3)), some (.int (X.2 (i + (1 : Int32)).toNatClampNeg))]) (d' := 2) rfl rfl rfl (Nat.le_of_ble_eq_true rfl) (Nat.le_of_ble_eq_true rfl) rfl (Nat.le_of_ble_eq_true rfl) rfl rfl (zyC244 f2) ?_
  show zyR _ _ _ _ [some (.ref 2), some (.ref (0 + 3)), some (.ref (43 + 3)), some (.int i)] [.int r] _ _
  refine zy_34 rfl rfl (show zyR _ _ _ _ [some (.ref 2), some (.ref (0 + 3)), some (.ref (43 + 3)), some (.int i)] [] _ _ from ?_)
  exact zy_6 rfl (k _ hI)
theorem zlc_27 {X : zx_X} {i : Int32} {s : zy_S} {P : Option Value → zy_S → Prop} (hX : X.1 ≤ 3072) (i0 : 0 ≤ i.toInt) (i6 : i.toInt + 6 ≤ X.1) (h : zI s) (k : ∀ t, zI t → zyR X 2000 0 1435 [some (.ref 2), some (.ref (0 + 3)), some (.ref (43 + 3)), some (.int i)] [] t P) : zyR X 2000 0 993 [some (.ref 2), some (.ref (0 + 3)), some (.ref (43 + 3)), some (.int i)] [] s P := by
  obtain ⟨r, s1, s2, f1, f2, hI⟩ := zop_image  h
  refine zy_0 rfl rfl (show zyR _ _ _ _ [some (.ref 2), some (.ref (0 + 3)), some (.ref (43 + 3)), some (.int i)] [.ref (0 + 3)] _ _ from ?_)
  refine zy_5 (c := 0) (as := []) (rest := []) (L := [some (.ref (0 + 3))]) (d' := 3) rfl rfl rfl (Nat.le_of_ble_eq_true rfl) (Nat.le_of_ble_eq_true rfl) rfl (Nat.le_of_ble_eq_true rfl) rfl rfl (zyC140 f1) ?_
  show zyR _ _ _ _ [some (.ref 2), some (.ref (0 + 3)), some (.ref (43 + 3)), some (.int i)] [.int r] _ _
  refine zy_34 rfl rfl (show zyR _ _ _ _ [some (.ref 2), some (.ref (0 + 3)), some (.ref (43 + 3)), some (.int i)] [] _ _ from ?_)
  refine zy_0 rfl rfl (show zyR _ _ _ _ [some (.ref 2), some (.ref (0 + 3)), some (.ref (43 + 3)), some (.int i)] [.ref (43 + 3)] _ _ from ?_)
  refine zy_5 (c := 43) (as := []) (rest := []) (L := [some (.ref (43 + 3)), none]) (d' := 2) rfl rfl rfl (Nat.le_of_ble_eq_true rfl) (Nat.le_of_ble_eq_true rfl) rfl (Nat.le_of_ble_eq_true rfl) rfl rfl (zyC245 f2) ?_
  show zyR _ _ _ _ [some (.ref 2), some (.ref (0 + 3)), some (.ref (43 + 3)), some (.int i)] [.int r] _ _
  refine zy_34 rfl rfl (show zyR _ _ _ _ [some (.ref 2), some (.ref (0 + 3)), some (.ref (43 + 3)), some (.int i)] [] _ _ from ?_)
  exact zy_6 rfl (k _ hI)
end
section
/-! PART 48.22: cases of the law. Made by wip/v4/gen_law.py. -/
theorem zlc_28 {X : zx_X} {i : Int32} {s : zy_S} {P : Option Value → zy_S → Prop} (hX : X.1 ≤ 3072) (i0 : 0 ≤ i.toInt) (i6 : i.toInt + 6 ≤ X.1) (h : zI s) (k : ∀ t, zI t → zyR X 2000 0 1435 [some (.ref 2), some (.ref (0 + 3)), some (.ref (43 + 3)), some (.int i)] [] t P) : zyR X 2000 0 1006 [some (.ref 2), some (.ref (0 + 3)), some (.ref (43 + 3)), some (.int i)] [] s P := by
  obtain ⟨r, s1, s2, f1, f2, hI⟩ := zop_back  h
  refine zy_0 rfl rfl (show zyR _ _ _ _ [some (.ref 2), some (.ref (0 + 3)), some (.ref (43 + 3)), some (.int i)] [.ref (0 + 3)] _ _ from ?_)
  refine zy_5 (c := 0) (as := []) (rest := []) (L := [some (.ref (0 + 3))]) (d' := 3) rfl rfl rfl (Nat.le_of_ble_eq_true rfl) (Nat.le_of_ble_eq_true rfl) rfl (Nat.le_of_ble_eq_true rfl) rfl rfl (zyC142 f1) ?_
  show zyR _ _ _ _ [some (.ref 2), some (.ref (0 + 3)), some (.ref (43 + 3)), some (.int i)] [.int r] _ _
  refine zy_34 rfl rfl (show zyR _ _ _ _ [some (.ref 2), some (.ref (0 + 3)), some (.ref (43 + 3)), some (.int i)] [] _ _ from ?_)
  refine zy_0 rfl rfl (show zyR _ _ _ _ [some (.ref 2), some (.ref (0 + 3)), some (.ref (43 + 3)), some (.int i)] [.ref (43 + 3)] _ _ from ?_)
  refine zy_5 (c := 43) (as := []) (rest := []) (L := [some (.ref (43 + 3)), none]) (d' := 2) rfl rfl rfl (Nat.le_of_ble_eq_true rfl) (Nat.le_of_ble_eq_true rfl) rfl (Nat.le_of_ble_eq_true rfl) rfl rfl (zyC246 f2) ?_
  show zyR _ _ _ _ [some (.ref 2), some (.ref (0 + 3)), some (.ref (43 + 3)), some (.int i)] [.int r] _ _
  refine zy_34 rfl rfl (show zyR _ _ _ _ [some (.ref 2), some (.ref (0 + 3)), some (.ref (43 + 3)), some (.int i)] [] _ _ from ?_)
  exact zy_6 rfl (k _ hI)
theorem zlc_29 {X : zx_X} {i : Int32} {s : zy_S} {P : Option Value → zy_S → Prop} (hX : X.1 ≤ 3072) (i0 : 0 ≤ i.toInt) (i6 : i.toInt + 6 ≤ X.1) (h : zI s) (k : ∀ t, zI t → zyR X 2000 0 1435 [some (.ref 2), some (.ref (0 + 3)), some (.ref (43 + 3)), some (.int i)] [] t P) : zyR X 2000 0 1019 [some (.ref 2), some (.ref (0 + 3)), some (.ref (43 + 3)), some (.int i)] [] s P := by
  obtain ⟨r, s1, s2, f1, f2, hI⟩ := zop_undo  h
  refine zy_0 rfl rfl (show zyR _ _ _ _ [some (.ref 2), some (.ref (0 + 3)), some (.ref (43 + 3)), some (.int i)] [.ref (0 + 3)] _ _ from ?_)
  refine zy_5 (c := 0) (as := []) (rest := []) (L := [some (.ref (0 + 3))]) (d' := 3) rfl rfl rfl (Nat.le_of_ble_eq_true rfl) (Nat.le_of_ble_eq_true rfl) rfl (Nat.le_of_ble_eq_true rfl) rfl rfl (zyC144 f1) ?_
  show zyR _ _ _ _ [some (.ref 2), some (.ref (0 + 3)), some (.ref (43 + 3)), some (.int i)] [.int r] _ _
  refine zy_34 rfl rfl (show zyR _ _ _ _ [some (.ref 2), some (.ref (0 + 3)), some (.ref (43 + 3)), some (.int i)] [] _ _ from ?_)
  refine zy_0 rfl rfl (show zyR _ _ _ _ [some (.ref 2), some (.ref (0 + 3)), some (.ref (43 + 3)), some (.int i)] [.ref (43 + 3)] _ _ from ?_)
  refine zy_5 (c := 43) (as := []) (rest := []) (L := [some (.ref (43 + 3))]) (d' := 1) rfl rfl rfl (Nat.le_of_ble_eq_true rfl) (Nat.le_of_ble_eq_true rfl) rfl (Nat.le_of_ble_eq_true rfl) rfl rfl (zyC176 f2) ?_
  show zyR _ _ _ _ [some (.ref 2), some (.ref (0 + 3)), some (.ref (43 + 3)), some (.int i)] [.int r] _ _
  refine zy_34 rfl rfl (show zyR _ _ _ _ [some (.ref 2), some (.ref (0 + 3)), some (.ref (43 + 3)), some (.int i)] [] _ _ from ?_)
  exact zy_6 rfl (k _ hI)
theorem zlc_30 {X : zx_X} {i : Int32} {s : zy_S} {P : Option Value → zy_S → Prop} (hX : X.1 ≤ 3072) (i0 : 0 ≤ i.toInt) (i6 : i.toInt + 6 ≤ X.1) (h : zI s) (k : ∀ t, zI t → zyR X 2000 0 1435 [some (.ref 2), some (.ref (0 + 3)), some (.ref (43 + 3)), some (.int i)] [] t P) : zyR X 2000 0 1032 [some (.ref 2), some (.ref (0 + 3)), some (.ref (43 + 3)), some (.int i)] [] s P := by
  obtain ⟨r, s1, s2, f1, f2, hI⟩ := zop_redo  h
  refine zy_0 rfl rfl (show zyR _ _ _ _ [some (.ref 2), some (.ref (0 + 3)), some (.ref (43 + 3)), some (.int i)] [.ref (0 + 3)] _ _ from ?_)
  refine zy_5 (c := 0) (as := []) (rest := []) (L := [some (.ref (0 + 3))]) (d' := 3) rfl rfl rfl (Nat.le_of_ble_eq_true rfl) (Nat.le_of_ble_eq_true rfl) rfl (Nat.le_of_ble_eq_true rfl) rfl rfl (zyC146 f1) ?_
  show zyR _ _ _ _ [some (.ref 2), some (.ref (0 + 3)), some (.ref (43 + 3)), some (.int i)] [.int r] _ _
  refine zy_34 rfl rfl (show zyR _ _ _ _ [some (.ref 2), some (.ref (0 + 3)), some (.ref (43 + 3)), some (.int i)] [] _ _ from ?_)
  refine zy_0 rfl rfl (show zyR _ _ _ _ [some (.ref 2), some (.ref (0 + 3)), some (.ref (43 + 3)), some (.int i)] [.ref (43 + 3)] _ _ from ?_)
  refine zy_5 (c := 43) (as := []) (rest := []) (L := [some (.ref (43 + 3))]) (d' := 1) rfl rfl rfl (Nat.le_of_ble_eq_true rfl) (Nat.le_of_ble_eq_true rfl) rfl (Nat.le_of_ble_eq_true rfl) rfl rfl (zyC177 f2) ?_
  show zyR _ _ _ _ [some (.ref 2), some (.ref (0 + 3)), some (.ref (43 + 3)), some (.int i)] [.int r] _ _
  refine zy_34 rfl rfl (show zyR _ _ _ _ [some (.ref 2), some (.ref (0 + 3)), some (.ref (43 + 3)), some (.int i)] [] _ _ from ?_)
  exact zy_6 rfl (k _ hI)
theorem zlc_31 {X : zx_X} {i : Int32} {s : zy_S} {P : Option Value → zy_S → Prop} (hX : X.1 ≤ 3072) (i0 : 0 ≤ i.toInt) (i6 : i.toInt + 6 ≤ X.1) (h : zI s) (k : ∀ t, zI t → zyR X 2000 0 1435 [some (.ref 2), some (.ref (0 + 3)), some (.ref (43 + 3)), some (.int i)] [] t P) : zyR X 2000 0 1045 [some (.ref 2), some (.ref (0 + 3)), some (.ref (43 + 3)), some (.int i)] [] s P := by
  obtain ⟨r, s1, s2, f1, f2, hI⟩ := zop_body ((X.2 (i + (1 : Int32)).toNatClampNeg)) h
  refine zy_0 rfl rfl (show zyR _ _ _ _ [some (.ref 2), some (.ref (0 + 3)), some (.ref (43 + 3)), some (.int i)] [.ref (0 + 3)] _ _ from ?_)
  refine zy_0 rfl rfl (show zyR _ _ _ _ [some (.ref 2), some (.ref (0 + 3)), some (.ref (43 + 3)), some (.int i)] [.ref 2, .ref (0 + 3)] _ _ from ?_)
  refine zy_2 rfl rfl (show zyR _ _ _ _ [some (.ref 2), some (.ref (0 + 3)), some (.ref (43 + 3)), some (.int i)] [.int i, .ref 2, .ref (0 + 3)] _ _ from ?_)
  refine zy_3 rfl rfl (show zyR _ _ _ _ [some (.ref 2), some (.ref (0 + 3)), some (.ref (43 + 3)), some (.int i)] [.int (1 : Int32), .int i, .ref 2, .ref (0 + 3)] _ _ from ?_)
  refine zy_10 rfl (show zyR _ _ _ _ [some (.ref 2), some (.ref (0 + 3)), some (.ref (43 + 3)), some (.int i)] [.int (i + (1 : Int32)), .ref 2, .ref (0 + 3)] _ _ from ?_)
  refine zy_26s rfl (zl_in hX i0 i6 (by decide) (by decide)) (show zyR _ _ _ _ [some (.ref 2), some (.ref (0 + 3)), some (.ref (43 + 3)), some (.int i)] [.int (X.2 (i + (1 : Int32)).toNatClampNeg), .ref (0 + 3)] _ _ from ?_)
  refine zy_5 (c := 0) (as := [.int (X.2 (i + (1 : Int32)).toNatClampNeg)]) (rest := []) (L := [some (.ref (0 + 3)), some (.int (X.2 (i + (1 : Int32)).toNatClampNeg))]) (d' := 2) rfl rfl rfl (Nat.le_of_ble_eq_true rfl) (Nat.le_of_ble_eq_true rfl) rfl (Nat.le_of_ble_eq_true rfl) rfl rfl (zyC148 f1) ?_
  show zyR _ _ _ _ [some (.ref 2), some (.ref (0 + 3)), some (.ref (43 + 3)), some (.int i)] [.int r] _ _
  refine zy_34 rfl rfl (show zyR _ _ _ _ [some (.ref 2), some (.ref (0 + 3)), some (.ref (43 + 3)), some (.int i)] [] _ _ from ?_)
  refine zy_0 rfl rfl (show zyR _ _ _ _ [some (.ref 2), some (.ref (0 + 3)), some (.ref (43 + 3)), some (.int i)] [.ref (43 + 3)] _ _ from ?_)
  refine zy_0 rfl rfl (show zyR _ _ _ _ [some (.ref 2), some (.ref (0 + 3)), some (.ref (43 + 3)), some (.int i)] [.ref 2, .ref (43 + 3)] _ _ from ?_)
  refine zy_2 rfl rfl (show zyR _ _ _ _ [some (.ref 2), some (.ref (0 + 3)), some (.ref (43 + 3)), some (.int i)] [.int i, .ref 2, .ref (43 + 3)] _ _ from ?_)
  refine zy_3 rfl rfl (show zyR _ _ _ _ [some (.ref 2), some (.ref (0 + 3)), some (.ref (43 + 3)), some (.int i)] [.int (1 : Int32), .int i, .ref 2, .ref (43 + 3)] _ _ from ?_)
  refine zy_10 rfl (show zyR _ _ _ _ [some (.ref 2), some (.ref (0 + 3)), some (.ref (43 + 3)), some (.int i)] [.int (i + (1 : Int32)), .ref 2, .ref (43 + 3)] _ _ from ?_)
  refine zy_26s rfl (zl_in hX i0 i6 (by decide) (by decide)) (show zyR _ _ _ _ [some (.ref 2), some (.ref (0 + 3)), some (.ref (43 + 3)), some (.int i)] [.int (X.2 (i + (1 : Int32)).toNatClampNeg), .ref (43 + 3)] _ _ from ?_)
  refine zy_5 (c := 43) (as := [.int (X.2 (i + (1 : Int32)).toNatClampNeg)]) (rest := []) (L := [some (.ref (43 + 3)), some (.int (X.2 (i + (1 : Int32)).toNatClampNeg))]) (d' := 2) rfl rfl rfl (Nat.le_of_ble_eq_true rfl) (Nat.le_of_ble_eq_true rfl) rfl (Nat.le_of_ble_eq_true rfl) rfl rfl (zyC247 f2) ?_
  show zyR _ _ _ _ [some (.ref 2), some (.ref (0 + 3)), some (.ref (43 + 3)), some (.int i)] [.int r] _ _
  refine zy_34 rfl rfl (show zyR _ _ _ _ [some (.ref 2), some (.ref (0 + 3)), some (.ref (43 + 3)), some (.int i)] [] _ _ from ?_)
  exact zy_6 rfl (k _ hI)
theorem zlc_32 {X : zx_X} {i : Int32} {s : zy_S} {P : Option Value → zy_S → Prop} (hX : X.1 ≤ 3072) (i0 : 0 ≤ i.toInt) (i6 : i.toInt + 6 ≤ X.1) (h : zI s) (k : ∀ t, zI t → zyR X 2000 0 1435 [some (.ref 2), some (.ref (0 + 3)), some (.ref (43 + 3)), some (.int i)] [] t P) : zyR X 2000 0 1068 [some (.ref 2), some (.ref (0 + 3)), some (.ref (43 + 3)), some (.int i)] [] s P := by
  obtain ⟨r, s1, s2, f1, f2, hI⟩ := zop_act ((X.2 (i + (1 : Int32)).toNatClampNeg)) ((X.2 (i + (2 : Int32)).toNatClampNeg)) ((X.2 (i + (3 : Int32)).toNatClampNeg)) h
  refine zy_0 rfl rfl (show zyR _ _ _ _ [some (.ref 2), some (.ref (0 + 3)), some (.ref (43 + 3)), some (.int i)] [.ref (0 + 3)] _ _ from ?_)
  refine zy_0 rfl rfl (show zyR _ _ _ _ [some (.ref 2), some (.ref (0 + 3)), some (.ref (43 + 3)), some (.int i)] [.ref 2, .ref (0 + 3)] _ _ from ?_)
  refine zy_2 rfl rfl (show zyR _ _ _ _ [some (.ref 2), some (.ref (0 + 3)), some (.ref (43 + 3)), some (.int i)] [.int i, .ref 2, .ref (0 + 3)] _ _ from ?_)
  refine zy_3 rfl rfl (show zyR _ _ _ _ [some (.ref 2), some (.ref (0 + 3)), some (.ref (43 + 3)), some (.int i)] [.int (1 : Int32), .int i, .ref 2, .ref (0 + 3)] _ _ from ?_)
  refine zy_10 rfl (show zyR _ _ _ _ [some (.ref 2), some (.ref (0 + 3)), some (.ref (43 + 3)), some (.int i)] [.int (i + (1 : Int32)), .ref 2, .ref (0 + 3)] _ _ from ?_)
  refine zy_26s rfl (zl_in hX i0 i6 (by decide) (by decide)) (show zyR _ _ _ _ [some (.ref 2), some (.ref (0 + 3)), some (.ref (43 + 3)), some (.int i)] [.int (X.2 (i + (1 : Int32)).toNatClampNeg), .ref (0 + 3)] _ _ from ?_)
  refine zy_0 rfl rfl (show zyR _ _ _ _ [some (.ref 2), some (.ref (0 + 3)), some (.ref (43 + 3)), some (.int i)] [.ref 2, .int (X.2 (i + (1 : Int32)).toNatClampNeg), .ref (0 + 3)] _ _ from ?_)
  refine zy_2 rfl rfl (show zyR _ _ _ _ [some (.ref 2), some (.ref (0 + 3)), some (.ref (43 + 3)), some (.int i)] [.int i, .ref 2, .int (X.2 (i + (1 : Int32)).toNatClampNeg), .ref (0 + 3)] _ _ from ?_)
  refine zy_3 rfl rfl (show zyR _ _ _ _ [some (.ref 2), some (.ref (0 + 3)), some (.ref (43 + 3)), some (.int i)] [.int (2 : Int32), .int i, .ref 2, .int (X.2 (i + (1 : Int32)).toNatClampNeg), .ref (0 + 3)] _ _ from ?_)
  refine zy_10 rfl (show zyR _ _ _ _ [some (.ref 2), some (.ref (0 + 3)), some (.ref (43 + 3)), some (.int i)] [.int (i + (2 : Int32)), .ref 2, .int (X.2 (i + (1 : Int32)).toNatClampNeg), .ref (0 + 3)] _ _ from ?_)
  refine zy_26s rfl (zl_in hX i0 i6 (by decide) (by decide)) (show zyR _ _ _ _ [some (.ref 2), some (.ref (0 + 3)), some (.ref (43 + 3)), some (.int i)] [.int (X.2 (i + (2 : Int32)).toNatClampNeg), .int (X.2 (i + (1 : Int32)).toNatClampNeg), .ref (0 + 3)] _ _ from ?_)
  refine zy_0 rfl rfl (show zyR _ _ _ _ [some (.ref 2), some (.ref (0 + 3)), some (.ref (43 + 3)), some (.int i)] [.ref 2, .int (X.2 (i + (2 : Int32)).toNatClampNeg), .int (X.2 (i + (1 : Int32)).toNatClampNeg), .ref (0 + 3)] _ _ from ?_)
  refine zy_2 rfl rfl (show zyR _ _ _ _ [some (.ref 2), some (.ref (0 + 3)), some (.ref (43 + 3)), some (.int i)] [.int i, .ref 2, .int (X.2 (i + (2 : Int32)).toNatClampNeg), .int (X.2 (i + (1 : Int32)).toNatClampNeg), .ref (0 + 3)] _ _ from ?_)
  refine zy_3 rfl rfl (show zyR _ _ _ _ [some (.ref 2), some (.ref (0 + 3)), some (.ref (43 + 3)), some (.int i)] [.int (3 : Int32), .int i, .ref 2, .int (X.2 (i + (2 : Int32)).toNatClampNeg), .int (X.2 (i + (1 : Int32)).toNatClampNeg), .ref (0 + 3)] _ _ from ?_)
  refine zy_10 rfl (show zyR _ _ _ _ [some (.ref 2), some (.ref (0 + 3)), some (.ref (43 + 3)), some (.int i)] [.int (i + (3 : Int32)), .ref 2, .int (X.2 (i + (2 : Int32)).toNatClampNeg), .int (X.2 (i + (1 : Int32)).toNatClampNeg), .ref (0 + 3)] _ _ from ?_)
  refine zy_26s rfl (zl_in hX i0 i6 (by decide) (by decide)) (show zyR _ _ _ _ [some (.ref 2), some (.ref (0 + 3)), some (.ref (43 + 3)), some (.int i)] [.int (X.2 (i + (3 : Int32)).toNatClampNeg), .int (X.2 (i + (2 : Int32)).toNatClampNeg), .int (X.2 (i + (1 : Int32)).toNatClampNeg), .ref (0 + 3)] _ _ from ?_)
  refine zy_5 (c := 0) (as := [.int (X.2 (i + (1 : Int32)).toNatClampNeg), .int (X.2 (i + (2 : Int32)).toNatClampNeg), .int (X.2 (i + (3 : Int32)).toNatClampNeg)]) (rest := []) (L := [some (.ref (0 + 3)), some (.int (X.2 (i + (1 : Int32)).toNatClampNeg)), some (.int (X.2 (i + (2 : Int32)).toNatClampNeg)), some (.int (X.2 (i + (3 : Int32)).toNatClampNeg))]) (d' := 103) rfl rfl rfl (Nat.le_of_ble_eq_true rfl) (Nat.le_of_ble_eq_true rfl) rfl (Nat.le_of_ble_eq_true rfl) rfl rfl (zyC152 f1) ?_
  show zyR _ _ _ _ [some (.ref 2), some (.ref (0 + 3)), some (.ref (43 + 3)), some (.int i)] [.int r] _ _
  refine zy_34 rfl rfl (show zyR _ _ _ _ [some (.ref 2), some (.ref (0 + 3)), some (.ref (43 + 3)), some (.int i)] [] _ _ from ?_)
  refine zy_0 rfl rfl (show zyR _ _ _ _ [some (.ref 2), some (.ref (0 + 3)), some (.ref (43 + 3)), some (.int i)] [.ref (43 + 3)] _ _ from ?_)
  refine zy_0 rfl rfl (show zyR _ _ _ _ [some (.ref 2), some (.ref (0 + 3)), some (.ref (43 + 3)), some (.int i)] [.ref 2, .ref (43 + 3)] _ _ from ?_)
  refine zy_2 rfl rfl (show zyR _ _ _ _ [some (.ref 2), some (.ref (0 + 3)), some (.ref (43 + 3)), some (.int i)] [.int i, .ref 2, .ref (43 + 3)] _ _ from ?_)
  refine zy_3 rfl rfl (show zyR _ _ _ _ [some (.ref 2), some (.ref (0 + 3)), some (.ref (43 + 3)), some (.int i)] [.int (1 : Int32), .int i, .ref 2, .ref (43 + 3)] _ _ from ?_)
  refine zy_10 rfl (show zyR _ _ _ _ [some (.ref 2), some (.ref (0 + 3)), some (.ref (43 + 3)), some (.int i)] [.int (i + (1 : Int32)), .ref 2, .ref (43 + 3)] _ _ from ?_)
  refine zy_26s rfl (zl_in hX i0 i6 (by decide) (by decide)) (show zyR _ _ _ _ [some (.ref 2), some (.ref (0 + 3)), some (.ref (43 + 3)), some (.int i)] [.int (X.2 (i + (1 : Int32)).toNatClampNeg), .ref (43 + 3)] _ _ from ?_)
  refine zy_0 rfl rfl (show zyR _ _ _ _ [some (.ref 2), some (.ref (0 + 3)), some (.ref (43 + 3)), some (.int i)] [.ref 2, .int (X.2 (i + (1 : Int32)).toNatClampNeg), .ref (43 + 3)] _ _ from ?_)
  refine zy_2 rfl rfl (show zyR _ _ _ _ [some (.ref 2), some (.ref (0 + 3)), some (.ref (43 + 3)), some (.int i)] [.int i, .ref 2, .int (X.2 (i + (1 : Int32)).toNatClampNeg), .ref (43 + 3)] _ _ from ?_)
  refine zy_3 rfl rfl (show zyR _ _ _ _ [some (.ref 2), some (.ref (0 + 3)), some (.ref (43 + 3)), some (.int i)] [.int (2 : Int32), .int i, .ref 2, .int (X.2 (i + (1 : Int32)).toNatClampNeg), .ref (43 + 3)] _ _ from ?_)
  refine zy_10 rfl (show zyR _ _ _ _ [some (.ref 2), some (.ref (0 + 3)), some (.ref (43 + 3)), some (.int i)] [.int (i + (2 : Int32)), .ref 2, .int (X.2 (i + (1 : Int32)).toNatClampNeg), .ref (43 + 3)] _ _ from ?_)
  refine zy_26s rfl (zl_in hX i0 i6 (by decide) (by decide)) (show zyR _ _ _ _ [some (.ref 2), some (.ref (0 + 3)), some (.ref (43 + 3)), some (.int i)] [.int (X.2 (i + (2 : Int32)).toNatClampNeg), .int (X.2 (i + (1 : Int32)).toNatClampNeg), .ref (43 + 3)] _ _ from ?_)
  refine zy_0 rfl rfl (show zyR _ _ _ _ [some (.ref 2), some (.ref (0 + 3)), some (.ref (43 + 3)), some (.int i)] [.ref 2, .int (X.2 (i + (2 : Int32)).toNatClampNeg), .int (X.2 (i + (1 : Int32)).toNatClampNeg), .ref (43 + 3)] _ _ from ?_)
  refine zy_2 rfl rfl (show zyR _ _ _ _ [some (.ref 2), some (.ref (0 + 3)), some (.ref (43 + 3)), some (.int i)] [.int i, .ref 2, .int (X.2 (i + (2 : Int32)).toNatClampNeg), .int (X.2 (i + (1 : Int32)).toNatClampNeg), .ref (43 + 3)] _ _ from ?_)
  refine zy_3 rfl rfl (show zyR _ _ _ _ [some (.ref 2), some (.ref (0 + 3)), some (.ref (43 + 3)), some (.int i)] [.int (3 : Int32), .int i, .ref 2, .int (X.2 (i + (2 : Int32)).toNatClampNeg), .int (X.2 (i + (1 : Int32)).toNatClampNeg), .ref (43 + 3)] _ _ from ?_)
  refine zy_10 rfl (show zyR _ _ _ _ [some (.ref 2), some (.ref (0 + 3)), some (.ref (43 + 3)), some (.int i)] [.int (i + (3 : Int32)), .ref 2, .int (X.2 (i + (2 : Int32)).toNatClampNeg), .int (X.2 (i + (1 : Int32)).toNatClampNeg), .ref (43 + 3)] _ _ from ?_)
  refine zy_26s rfl (zl_in hX i0 i6 (by decide) (by decide)) (show zyR _ _ _ _ [some (.ref 2), some (.ref (0 + 3)), some (.ref (43 + 3)), some (.int i)] [.int (X.2 (i + (3 : Int32)).toNatClampNeg), .int (X.2 (i + (2 : Int32)).toNatClampNeg), .int (X.2 (i + (1 : Int32)).toNatClampNeg), .ref (43 + 3)] _ _ from ?_)
  refine zy_5 (c := 43) (as := [.int (X.2 (i + (1 : Int32)).toNatClampNeg), .int (X.2 (i + (2 : Int32)).toNatClampNeg), .int (X.2 (i + (3 : Int32)).toNatClampNeg)]) (rest := []) (L := [some (.ref (43 + 3)), some (.int (X.2 (i + (1 : Int32)).toNatClampNeg)), some (.int (X.2 (i + (2 : Int32)).toNatClampNeg)), some (.int (X.2 (i + (3 : Int32)).toNatClampNeg))]) (d' := 402) rfl rfl rfl (Nat.le_of_ble_eq_true rfl) (Nat.le_of_ble_eq_true rfl) rfl (Nat.le_of_ble_eq_true rfl) rfl rfl (zyC248 f2) ?_
  show zyR _ _ _ _ [some (.ref 2), some (.ref (0 + 3)), some (.ref (43 + 3)), some (.int i)] [.int r] _ _
  refine zy_34 rfl rfl (show zyR _ _ _ _ [some (.ref 2), some (.ref (0 + 3)), some (.ref (43 + 3)), some (.int i)] [] _ _ from ?_)
  exact zy_6 rfl (k _ hI)
theorem zlc_33 {X : zx_X} {i : Int32} {s : zy_S} {P : Option Value → zy_S → Prop} (hX : X.1 ≤ 3072) (i0 : 0 ≤ i.toInt) (i6 : i.toInt + 6 ≤ X.1) (h : zI s) (k : ∀ t, zI t → zyR X 2000 0 1435 [some (.ref 2), some (.ref (0 + 3)), some (.ref (43 + 3)), some (.int i)] [] t P) : zyR X 2000 0 1111 [some (.ref 2), some (.ref (0 + 3)), some (.ref (43 + 3)), some (.int i)] [] s P := by
  obtain ⟨r, s1, s2, f1, f2, hI⟩ := zop_trace ((X.2 (i + (1 : Int32)).toNatClampNeg)) h
  refine zy_0 rfl rfl (show zyR _ _ _ _ [some (.ref 2), some (.ref (0 + 3)), some (.ref (43 + 3)), some (.int i)] [.ref (0 + 3)] _ _ from ?_)
  refine zy_0 rfl rfl (show zyR _ _ _ _ [some (.ref 2), some (.ref (0 + 3)), some (.ref (43 + 3)), some (.int i)] [.ref 2, .ref (0 + 3)] _ _ from ?_)
  refine zy_2 rfl rfl (show zyR _ _ _ _ [some (.ref 2), some (.ref (0 + 3)), some (.ref (43 + 3)), some (.int i)] [.int i, .ref 2, .ref (0 + 3)] _ _ from ?_)
  refine zy_3 rfl rfl (show zyR _ _ _ _ [some (.ref 2), some (.ref (0 + 3)), some (.ref (43 + 3)), some (.int i)] [.int (1 : Int32), .int i, .ref 2, .ref (0 + 3)] _ _ from ?_)
  refine zy_10 rfl (show zyR _ _ _ _ [some (.ref 2), some (.ref (0 + 3)), some (.ref (43 + 3)), some (.int i)] [.int (i + (1 : Int32)), .ref 2, .ref (0 + 3)] _ _ from ?_)
  refine zy_26s rfl (zl_in hX i0 i6 (by decide) (by decide)) (show zyR _ _ _ _ [some (.ref 2), some (.ref (0 + 3)), some (.ref (43 + 3)), some (.int i)] [.int (X.2 (i + (1 : Int32)).toNatClampNeg), .ref (0 + 3)] _ _ from ?_)
  refine zy_5 (c := 0) (as := [.int (X.2 (i + (1 : Int32)).toNatClampNeg)]) (rest := []) (L := [some (.ref (0 + 3)), some (.int (X.2 (i + (1 : Int32)).toNatClampNeg))]) (d' := 3) rfl rfl rfl (Nat.le_of_ble_eq_true rfl) (Nat.le_of_ble_eq_true rfl) rfl (Nat.le_of_ble_eq_true rfl) rfl rfl (zyC159 f1) ?_
  show zyR _ _ _ _ [some (.ref 2), some (.ref (0 + 3)), some (.ref (43 + 3)), some (.int i)] [.int r] _ _
  refine zy_34 rfl rfl (show zyR _ _ _ _ [some (.ref 2), some (.ref (0 + 3)), some (.ref (43 + 3)), some (.int i)] [] _ _ from ?_)
  refine zy_0 rfl rfl (show zyR _ _ _ _ [some (.ref 2), some (.ref (0 + 3)), some (.ref (43 + 3)), some (.int i)] [.ref (43 + 3)] _ _ from ?_)
  refine zy_0 rfl rfl (show zyR _ _ _ _ [some (.ref 2), some (.ref (0 + 3)), some (.ref (43 + 3)), some (.int i)] [.ref 2, .ref (43 + 3)] _ _ from ?_)
  refine zy_2 rfl rfl (show zyR _ _ _ _ [some (.ref 2), some (.ref (0 + 3)), some (.ref (43 + 3)), some (.int i)] [.int i, .ref 2, .ref (43 + 3)] _ _ from ?_)
  refine zy_3 rfl rfl (show zyR _ _ _ _ [some (.ref 2), some (.ref (0 + 3)), some (.ref (43 + 3)), some (.int i)] [.int (1 : Int32), .int i, .ref 2, .ref (43 + 3)] _ _ from ?_)
  refine zy_10 rfl (show zyR _ _ _ _ [some (.ref 2), some (.ref (0 + 3)), some (.ref (43 + 3)), some (.int i)] [.int (i + (1 : Int32)), .ref 2, .ref (43 + 3)] _ _ from ?_)
  refine zy_26s rfl (zl_in hX i0 i6 (by decide) (by decide)) (show zyR _ _ _ _ [some (.ref 2), some (.ref (0 + 3)), some (.ref (43 + 3)), some (.int i)] [.int (X.2 (i + (1 : Int32)).toNatClampNeg), .ref (43 + 3)] _ _ from ?_)
  refine zy_5 (c := 43) (as := [.int (X.2 (i + (1 : Int32)).toNatClampNeg)]) (rest := []) (L := [some (.ref (43 + 3)), some (.int (X.2 (i + (1 : Int32)).toNatClampNeg))]) (d' := 1) rfl rfl rfl (Nat.le_of_ble_eq_true rfl) (Nat.le_of_ble_eq_true rfl) rfl (Nat.le_of_ble_eq_true rfl) rfl rfl (zyC255 f2) ?_
  show zyR _ _ _ _ [some (.ref 2), some (.ref (0 + 3)), some (.ref (43 + 3)), some (.int i)] [.int r] _ _
  refine zy_34 rfl rfl (show zyR _ _ _ _ [some (.ref 2), some (.ref (0 + 3)), some (.ref (43 + 3)), some (.int i)] [] _ _ from ?_)
  exact zy_6 rfl (k _ hI)
theorem zlc_34 {X : zx_X} {i : Int32} {s : zy_S} {P : Option Value → zy_S → Prop} (hX : X.1 ≤ 3072) (i0 : 0 ≤ i.toInt) (i6 : i.toInt + 6 ≤ X.1) (h : zI s) (k : ∀ t, zI t → zyR X 2000 0 1435 [some (.ref 2), some (.ref (0 + 3)), some (.ref (43 + 3)), some (.int i)] [] t P) : zyR X 2000 0 1134 [some (.ref 2), some (.ref (0 + 3)), some (.ref (43 + 3)), some (.int i)] [] s P := by
  obtain ⟨r, s1, s2, f1, f2, hI⟩ := zop_keep ((X.2 (i + (1 : Int32)).toNatClampNeg)) ((X.2 (i + (2 : Int32)).toNatClampNeg)) h
  refine zy_0 rfl rfl (show zyR _ _ _ _ [some (.ref 2), some (.ref (0 + 3)), some (.ref (43 + 3)), some (.int i)] [.ref (0 + 3)] _ _ from ?_)
  refine zy_0 rfl rfl (show zyR _ _ _ _ [some (.ref 2), some (.ref (0 + 3)), some (.ref (43 + 3)), some (.int i)] [.ref 2, .ref (0 + 3)] _ _ from ?_)
  refine zy_2 rfl rfl (show zyR _ _ _ _ [some (.ref 2), some (.ref (0 + 3)), some (.ref (43 + 3)), some (.int i)] [.int i, .ref 2, .ref (0 + 3)] _ _ from ?_)
  refine zy_3 rfl rfl (show zyR _ _ _ _ [some (.ref 2), some (.ref (0 + 3)), some (.ref (43 + 3)), some (.int i)] [.int (1 : Int32), .int i, .ref 2, .ref (0 + 3)] _ _ from ?_)
  refine zy_10 rfl (show zyR _ _ _ _ [some (.ref 2), some (.ref (0 + 3)), some (.ref (43 + 3)), some (.int i)] [.int (i + (1 : Int32)), .ref 2, .ref (0 + 3)] _ _ from ?_)
  refine zy_26s rfl (zl_in hX i0 i6 (by decide) (by decide)) (show zyR _ _ _ _ [some (.ref 2), some (.ref (0 + 3)), some (.ref (43 + 3)), some (.int i)] [.int (X.2 (i + (1 : Int32)).toNatClampNeg), .ref (0 + 3)] _ _ from ?_)
  refine zy_0 rfl rfl (show zyR _ _ _ _ [some (.ref 2), some (.ref (0 + 3)), some (.ref (43 + 3)), some (.int i)] [.ref 2, .int (X.2 (i + (1 : Int32)).toNatClampNeg), .ref (0 + 3)] _ _ from ?_)
  refine zy_2 rfl rfl (show zyR _ _ _ _ [some (.ref 2), some (.ref (0 + 3)), some (.ref (43 + 3)), some (.int i)] [.int i, .ref 2, .int (X.2 (i + (1 : Int32)).toNatClampNeg), .ref (0 + 3)] _ _ from ?_)
  refine zy_3 rfl rfl (show zyR _ _ _ _ [some (.ref 2), some (.ref (0 + 3)), some (.ref (43 + 3)), some (.int i)] [.int (2 : Int32), .int i, .ref 2, .int (X.2 (i + (1 : Int32)).toNatClampNeg), .ref (0 + 3)] _ _ from ?_)
  refine zy_10 rfl (show zyR _ _ _ _ [some (.ref 2), some (.ref (0 + 3)), some (.ref (43 + 3)), some (.int i)] [.int (i + (2 : Int32)), .ref 2, .int (X.2 (i + (1 : Int32)).toNatClampNeg), .ref (0 + 3)] _ _ from ?_)
  refine zy_26s rfl (zl_in hX i0 i6 (by decide) (by decide)) (show zyR _ _ _ _ [some (.ref 2), some (.ref (0 + 3)), some (.ref (43 + 3)), some (.int i)] [.int (X.2 (i + (2 : Int32)).toNatClampNeg), .int (X.2 (i + (1 : Int32)).toNatClampNeg), .ref (0 + 3)] _ _ from ?_)
  refine zy_5 (c := 0) (as := [.int (X.2 (i + (1 : Int32)).toNatClampNeg), .int (X.2 (i + (2 : Int32)).toNatClampNeg)]) (rest := []) (L := [some (.ref (0 + 3)), some (.int (X.2 (i + (1 : Int32)).toNatClampNeg)), some (.int (X.2 (i + (2 : Int32)).toNatClampNeg))]) (d' := 2) rfl rfl rfl (Nat.le_of_ble_eq_true rfl) (Nat.le_of_ble_eq_true rfl) rfl (Nat.le_of_ble_eq_true rfl) rfl rfl (zyC161 f1) ?_
  show zyR _ _ _ _ [some (.ref 2), some (.ref (0 + 3)), some (.ref (43 + 3)), some (.int i)] [.int r] _ _
  refine zy_34 rfl rfl (show zyR _ _ _ _ [some (.ref 2), some (.ref (0 + 3)), some (.ref (43 + 3)), some (.int i)] [] _ _ from ?_)
  refine zy_0 rfl rfl (show zyR _ _ _ _ [some (.ref 2), some (.ref (0 + 3)), some (.ref (43 + 3)), some (.int i)] [.ref (43 + 3)] _ _ from ?_)
  refine zy_0 rfl rfl (show zyR _ _ _ _ [some (.ref 2), some (.ref (0 + 3)), some (.ref (43 + 3)), some (.int i)] [.ref 2, .ref (43 + 3)] _ _ from ?_)
  refine zy_2 rfl rfl (show zyR _ _ _ _ [some (.ref 2), some (.ref (0 + 3)), some (.ref (43 + 3)), some (.int i)] [.int i, .ref 2, .ref (43 + 3)] _ _ from ?_)
  refine zy_3 rfl rfl (show zyR _ _ _ _ [some (.ref 2), some (.ref (0 + 3)), some (.ref (43 + 3)), some (.int i)] [.int (1 : Int32), .int i, .ref 2, .ref (43 + 3)] _ _ from ?_)
  refine zy_10 rfl (show zyR _ _ _ _ [some (.ref 2), some (.ref (0 + 3)), some (.ref (43 + 3)), some (.int i)] [.int (i + (1 : Int32)), .ref 2, .ref (43 + 3)] _ _ from ?_)
  refine zy_26s rfl (zl_in hX i0 i6 (by decide) (by decide)) (show zyR _ _ _ _ [some (.ref 2), some (.ref (0 + 3)), some (.ref (43 + 3)), some (.int i)] [.int (X.2 (i + (1 : Int32)).toNatClampNeg), .ref (43 + 3)] _ _ from ?_)
  refine zy_0 rfl rfl (show zyR _ _ _ _ [some (.ref 2), some (.ref (0 + 3)), some (.ref (43 + 3)), some (.int i)] [.ref 2, .int (X.2 (i + (1 : Int32)).toNatClampNeg), .ref (43 + 3)] _ _ from ?_)
  refine zy_2 rfl rfl (show zyR _ _ _ _ [some (.ref 2), some (.ref (0 + 3)), some (.ref (43 + 3)), some (.int i)] [.int i, .ref 2, .int (X.2 (i + (1 : Int32)).toNatClampNeg), .ref (43 + 3)] _ _ from ?_)
  refine zy_3 rfl rfl (show zyR _ _ _ _ [some (.ref 2), some (.ref (0 + 3)), some (.ref (43 + 3)), some (.int i)] [.int (2 : Int32), .int i, .ref 2, .int (X.2 (i + (1 : Int32)).toNatClampNeg), .ref (43 + 3)] _ _ from ?_)
  refine zy_10 rfl (show zyR _ _ _ _ [some (.ref 2), some (.ref (0 + 3)), some (.ref (43 + 3)), some (.int i)] [.int (i + (2 : Int32)), .ref 2, .int (X.2 (i + (1 : Int32)).toNatClampNeg), .ref (43 + 3)] _ _ from ?_)
  refine zy_26s rfl (zl_in hX i0 i6 (by decide) (by decide)) (show zyR _ _ _ _ [some (.ref 2), some (.ref (0 + 3)), some (.ref (43 + 3)), some (.int i)] [.int (X.2 (i + (2 : Int32)).toNatClampNeg), .int (X.2 (i + (1 : Int32)).toNatClampNeg), .ref (43 + 3)] _ _ from ?_)
  refine zy_5 (c := 43) (as := [.int (X.2 (i + (1 : Int32)).toNatClampNeg), .int (X.2 (i + (2 : Int32)).toNatClampNeg)]) (rest := []) (L := [some (.ref (43 + 3)), some (.int (X.2 (i + (1 : Int32)).toNatClampNeg)), some (.int (X.2 (i + (2 : Int32)).toNatClampNeg))]) (d' := 3) rfl rfl rfl (Nat.le_of_ble_eq_true rfl) (Nat.le_of_ble_eq_true rfl) rfl (Nat.le_of_ble_eq_true rfl) rfl rfl (zyC256 f2) ?_
  show zyR _ _ _ _ [some (.ref 2), some (.ref (0 + 3)), some (.ref (43 + 3)), some (.int i)] [.int r] _ _
  refine zy_34 rfl rfl (show zyR _ _ _ _ [some (.ref 2), some (.ref (0 + 3)), some (.ref (43 + 3)), some (.int i)] [] _ _ from ?_)
  exact zy_6 rfl (k _ hI)
theorem zlc_35 {X : zx_X} {i : Int32} {s : zy_S} {P : Option Value → zy_S → Prop} (hX : X.1 ≤ 3072) (i0 : 0 ≤ i.toInt) (i6 : i.toInt + 6 ≤ X.1) (h : zI s) (k : ∀ t, zI t → zyR X 2000 0 1435 [some (.ref 2), some (.ref (0 + 3)), some (.ref (43 + 3)), some (.int i)] [] t P) : zyR X 2000 0 1167 [some (.ref 2), some (.ref (0 + 3)), some (.ref (43 + 3)), some (.int i)] [] s P := by
  obtain ⟨r, s1, s2, f1, f2, hI⟩ := zop_row ((X.2 (i + (1 : Int32)).toNatClampNeg)) ((X.2 (i + (2 : Int32)).toNatClampNeg)) ((X.2 (i + (3 : Int32)).toNatClampNeg)) h
  refine zy_0 rfl rfl (show zyR _ _ _ _ [some (.ref 2), some (.ref (0 + 3)), some (.ref (43 + 3)), some (.int i)] [.ref (0 + 3)] _ _ from ?_)
  refine zy_0 rfl rfl (show zyR _ _ _ _ [some (.ref 2), some (.ref (0 + 3)), some (.ref (43 + 3)), some (.int i)] [.ref 2, .ref (0 + 3)] _ _ from ?_)
  refine zy_2 rfl rfl (show zyR _ _ _ _ [some (.ref 2), some (.ref (0 + 3)), some (.ref (43 + 3)), some (.int i)] [.int i, .ref 2, .ref (0 + 3)] _ _ from ?_)
  refine zy_3 rfl rfl (show zyR _ _ _ _ [some (.ref 2), some (.ref (0 + 3)), some (.ref (43 + 3)), some (.int i)] [.int (1 : Int32), .int i, .ref 2, .ref (0 + 3)] _ _ from ?_)
  refine zy_10 rfl (show zyR _ _ _ _ [some (.ref 2), some (.ref (0 + 3)), some (.ref (43 + 3)), some (.int i)] [.int (i + (1 : Int32)), .ref 2, .ref (0 + 3)] _ _ from ?_)
  refine zy_26s rfl (zl_in hX i0 i6 (by decide) (by decide)) (show zyR _ _ _ _ [some (.ref 2), some (.ref (0 + 3)), some (.ref (43 + 3)), some (.int i)] [.int (X.2 (i + (1 : Int32)).toNatClampNeg), .ref (0 + 3)] _ _ from ?_)
  refine zy_0 rfl rfl (show zyR _ _ _ _ [some (.ref 2), some (.ref (0 + 3)), some (.ref (43 + 3)), some (.int i)] [.ref 2, .int (X.2 (i + (1 : Int32)).toNatClampNeg), .ref (0 + 3)] _ _ from ?_)
  refine zy_2 rfl rfl (show zyR _ _ _ _ [some (.ref 2), some (.ref (0 + 3)), some (.ref (43 + 3)), some (.int i)] [.int i, .ref 2, .int (X.2 (i + (1 : Int32)).toNatClampNeg), .ref (0 + 3)] _ _ from ?_)
  refine zy_3 rfl rfl (show zyR _ _ _ _ [some (.ref 2), some (.ref (0 + 3)), some (.ref (43 + 3)), some (.int i)] [.int (2 : Int32), .int i, .ref 2, .int (X.2 (i + (1 : Int32)).toNatClampNeg), .ref (0 + 3)] _ _ from ?_)
  refine zy_10 rfl (show zyR _ _ _ _ [some (.ref 2), some (.ref (0 + 3)), some (.ref (43 + 3)), some (.int i)] [.int (i + (2 : Int32)), .ref 2, .int (X.2 (i + (1 : Int32)).toNatClampNeg), .ref (0 + 3)] _ _ from ?_)
  refine zy_26s rfl (zl_in hX i0 i6 (by decide) (by decide)) (show zyR _ _ _ _ [some (.ref 2), some (.ref (0 + 3)), some (.ref (43 + 3)), some (.int i)] [.int (X.2 (i + (2 : Int32)).toNatClampNeg), .int (X.2 (i + (1 : Int32)).toNatClampNeg), .ref (0 + 3)] _ _ from ?_)
  refine zy_0 rfl rfl (show zyR _ _ _ _ [some (.ref 2), some (.ref (0 + 3)), some (.ref (43 + 3)), some (.int i)] [.ref 2, .int (X.2 (i + (2 : Int32)).toNatClampNeg), .int (X.2 (i + (1 : Int32)).toNatClampNeg), .ref (0 + 3)] _ _ from ?_)
  refine zy_2 rfl rfl (show zyR _ _ _ _ [some (.ref 2), some (.ref (0 + 3)), some (.ref (43 + 3)), some (.int i)] [.int i, .ref 2, .int (X.2 (i + (2 : Int32)).toNatClampNeg), .int (X.2 (i + (1 : Int32)).toNatClampNeg), .ref (0 + 3)] _ _ from ?_)
  refine zy_3 rfl rfl (show zyR _ _ _ _ [some (.ref 2), some (.ref (0 + 3)), some (.ref (43 + 3)), some (.int i)] [.int (3 : Int32), .int i, .ref 2, .int (X.2 (i + (2 : Int32)).toNatClampNeg), .int (X.2 (i + (1 : Int32)).toNatClampNeg), .ref (0 + 3)] _ _ from ?_)
  refine zy_10 rfl (show zyR _ _ _ _ [some (.ref 2), some (.ref (0 + 3)), some (.ref (43 + 3)), some (.int i)] [.int (i + (3 : Int32)), .ref 2, .int (X.2 (i + (2 : Int32)).toNatClampNeg), .int (X.2 (i + (1 : Int32)).toNatClampNeg), .ref (0 + 3)] _ _ from ?_)
  refine zy_26s rfl (zl_in hX i0 i6 (by decide) (by decide)) (show zyR _ _ _ _ [some (.ref 2), some (.ref (0 + 3)), some (.ref (43 + 3)), some (.int i)] [.int (X.2 (i + (3 : Int32)).toNatClampNeg), .int (X.2 (i + (2 : Int32)).toNatClampNeg), .int (X.2 (i + (1 : Int32)).toNatClampNeg), .ref (0 + 3)] _ _ from ?_)
  refine zy_5 (c := 0) (as := [.int (X.2 (i + (1 : Int32)).toNatClampNeg), .int (X.2 (i + (2 : Int32)).toNatClampNeg), .int (X.2 (i + (3 : Int32)).toNatClampNeg)]) (rest := []) (L := [some (.ref (0 + 3)), some (.int (X.2 (i + (1 : Int32)).toNatClampNeg)), some (.int (X.2 (i + (2 : Int32)).toNatClampNeg)), some (.int (X.2 (i + (3 : Int32)).toNatClampNeg))]) (d' := 2) rfl rfl rfl (Nat.le_of_ble_eq_true rfl) (Nat.le_of_ble_eq_true rfl) rfl (Nat.le_of_ble_eq_true rfl) rfl rfl (zyC163 f1) ?_
  show zyR _ _ _ _ [some (.ref 2), some (.ref (0 + 3)), some (.ref (43 + 3)), some (.int i)] [.int r] _ _
  refine zy_34 rfl rfl (show zyR _ _ _ _ [some (.ref 2), some (.ref (0 + 3)), some (.ref (43 + 3)), some (.int i)] [] _ _ from ?_)
  refine zy_0 rfl rfl (show zyR _ _ _ _ [some (.ref 2), some (.ref (0 + 3)), some (.ref (43 + 3)), some (.int i)] [.ref (43 + 3)] _ _ from ?_)
  refine zy_0 rfl rfl (show zyR _ _ _ _ [some (.ref 2), some (.ref (0 + 3)), some (.ref (43 + 3)), some (.int i)] [.ref 2, .ref (43 + 3)] _ _ from ?_)
  refine zy_2 rfl rfl (show zyR _ _ _ _ [some (.ref 2), some (.ref (0 + 3)), some (.ref (43 + 3)), some (.int i)] [.int i, .ref 2, .ref (43 + 3)] _ _ from ?_)
  refine zy_3 rfl rfl (show zyR _ _ _ _ [some (.ref 2), some (.ref (0 + 3)), some (.ref (43 + 3)), some (.int i)] [.int (1 : Int32), .int i, .ref 2, .ref (43 + 3)] _ _ from ?_)
  refine zy_10 rfl (show zyR _ _ _ _ [some (.ref 2), some (.ref (0 + 3)), some (.ref (43 + 3)), some (.int i)] [.int (i + (1 : Int32)), .ref 2, .ref (43 + 3)] _ _ from ?_)
  refine zy_26s rfl (zl_in hX i0 i6 (by decide) (by decide)) (show zyR _ _ _ _ [some (.ref 2), some (.ref (0 + 3)), some (.ref (43 + 3)), some (.int i)] [.int (X.2 (i + (1 : Int32)).toNatClampNeg), .ref (43 + 3)] _ _ from ?_)
  refine zy_0 rfl rfl (show zyR _ _ _ _ [some (.ref 2), some (.ref (0 + 3)), some (.ref (43 + 3)), some (.int i)] [.ref 2, .int (X.2 (i + (1 : Int32)).toNatClampNeg), .ref (43 + 3)] _ _ from ?_)
  refine zy_2 rfl rfl (show zyR _ _ _ _ [some (.ref 2), some (.ref (0 + 3)), some (.ref (43 + 3)), some (.int i)] [.int i, .ref 2, .int (X.2 (i + (1 : Int32)).toNatClampNeg), .ref (43 + 3)] _ _ from ?_)
  refine zy_3 rfl rfl (show zyR _ _ _ _ [some (.ref 2), some (.ref (0 + 3)), some (.ref (43 + 3)), some (.int i)] [.int (2 : Int32), .int i, .ref 2, .int (X.2 (i + (1 : Int32)).toNatClampNeg), .ref (43 + 3)] _ _ from ?_)
  refine zy_10 rfl (show zyR _ _ _ _ [some (.ref 2), some (.ref (0 + 3)), some (.ref (43 + 3)), some (.int i)] [.int (i + (2 : Int32)), .ref 2, .int (X.2 (i + (1 : Int32)).toNatClampNeg), .ref (43 + 3)] _ _ from ?_)
  refine zy_26s rfl (zl_in hX i0 i6 (by decide) (by decide)) (show zyR _ _ _ _ [some (.ref 2), some (.ref (0 + 3)), some (.ref (43 + 3)), some (.int i)] [.int (X.2 (i + (2 : Int32)).toNatClampNeg), .int (X.2 (i + (1 : Int32)).toNatClampNeg), .ref (43 + 3)] _ _ from ?_)
  refine zy_0 rfl rfl (show zyR _ _ _ _ [some (.ref 2), some (.ref (0 + 3)), some (.ref (43 + 3)), some (.int i)] [.ref 2, .int (X.2 (i + (2 : Int32)).toNatClampNeg), .int (X.2 (i + (1 : Int32)).toNatClampNeg), .ref (43 + 3)] _ _ from ?_)
  refine zy_2 rfl rfl (show zyR _ _ _ _ [some (.ref 2), some (.ref (0 + 3)), some (.ref (43 + 3)), some (.int i)] [.int i, .ref 2, .int (X.2 (i + (2 : Int32)).toNatClampNeg), .int (X.2 (i + (1 : Int32)).toNatClampNeg), .ref (43 + 3)] _ _ from ?_)
  refine zy_3 rfl rfl (show zyR _ _ _ _ [some (.ref 2), some (.ref (0 + 3)), some (.ref (43 + 3)), some (.int i)] [.int (3 : Int32), .int i, .ref 2, .int (X.2 (i + (2 : Int32)).toNatClampNeg), .int (X.2 (i + (1 : Int32)).toNatClampNeg), .ref (43 + 3)] _ _ from ?_)
  refine zy_10 rfl (show zyR _ _ _ _ [some (.ref 2), some (.ref (0 + 3)), some (.ref (43 + 3)), some (.int i)] [.int (i + (3 : Int32)), .ref 2, .int (X.2 (i + (2 : Int32)).toNatClampNeg), .int (X.2 (i + (1 : Int32)).toNatClampNeg), .ref (43 + 3)] _ _ from ?_)
  refine zy_26s rfl (zl_in hX i0 i6 (by decide) (by decide)) (show zyR _ _ _ _ [some (.ref 2), some (.ref (0 + 3)), some (.ref (43 + 3)), some (.int i)] [.int (X.2 (i + (3 : Int32)).toNatClampNeg), .int (X.2 (i + (2 : Int32)).toNatClampNeg), .int (X.2 (i + (1 : Int32)).toNatClampNeg), .ref (43 + 3)] _ _ from ?_)
  refine zy_5 (c := 43) (as := [.int (X.2 (i + (1 : Int32)).toNatClampNeg), .int (X.2 (i + (2 : Int32)).toNatClampNeg), .int (X.2 (i + (3 : Int32)).toNatClampNeg)]) (rest := []) (L := [some (.ref (43 + 3)), some (.int (X.2 (i + (1 : Int32)).toNatClampNeg)), some (.int (X.2 (i + (2 : Int32)).toNatClampNeg)), some (.int (X.2 (i + (3 : Int32)).toNatClampNeg)), none]) (d' := 3) rfl rfl rfl (Nat.le_of_ble_eq_true rfl) (Nat.le_of_ble_eq_true rfl) rfl (Nat.le_of_ble_eq_true rfl) rfl rfl (zyC257 f2) ?_
  show zyR _ _ _ _ [some (.ref 2), some (.ref (0 + 3)), some (.ref (43 + 3)), some (.int i)] [.int r] _ _
  refine zy_34 rfl rfl (show zyR _ _ _ _ [some (.ref 2), some (.ref (0 + 3)), some (.ref (43 + 3)), some (.int i)] [] _ _ from ?_)
  exact zy_6 rfl (k _ hI)
theorem zlc_36 {X : zx_X} {i : Int32} {s : zy_S} {P : Option Value → zy_S → Prop} (hX : X.1 ≤ 3072) (i0 : 0 ≤ i.toInt) (i6 : i.toInt + 6 ≤ X.1) (h : zI s) (k : ∀ t, zI t → zyR X 2000 0 1435 [some (.ref 2), some (.ref (0 + 3)), some (.ref (43 + 3)), some (.int i)] [] t P) : zyR X 2000 0 1210 [some (.ref 2), some (.ref (0 + 3)), some (.ref (43 + 3)), some (.int i)] [] s P := by
  obtain ⟨r, s1, s2, f1, f2, hI⟩ := zop_put ((X.2 (i + (1 : Int32)).toNatClampNeg)) ((X.2 (i + (2 : Int32)).toNatClampNeg)) (((((X.2 (i + (3 : Int32)).toNatClampNeg)).toInt64 <<< (((32 : Int32)).toInt64 &&& 63)) ||| (((X.2 (i + (4 : Int32)).toNatClampNeg)).toInt64 &&& (4294967295 : Int64)))) h
  refine zy_0 rfl rfl (show zyR _ _ _ _ [some (.ref 2), some (.ref (0 + 3)), some (.ref (43 + 3)), some (.int i)] [.ref (0 + 3)] _ _ from ?_)
  refine zy_0 rfl rfl (show zyR _ _ _ _ [some (.ref 2), some (.ref (0 + 3)), some (.ref (43 + 3)), some (.int i)] [.ref 2, .ref (0 + 3)] _ _ from ?_)
  refine zy_2 rfl rfl (show zyR _ _ _ _ [some (.ref 2), some (.ref (0 + 3)), some (.ref (43 + 3)), some (.int i)] [.int i, .ref 2, .ref (0 + 3)] _ _ from ?_)
  refine zy_3 rfl rfl (show zyR _ _ _ _ [some (.ref 2), some (.ref (0 + 3)), some (.ref (43 + 3)), some (.int i)] [.int (1 : Int32), .int i, .ref 2, .ref (0 + 3)] _ _ from ?_)
  refine zy_10 rfl (show zyR _ _ _ _ [some (.ref 2), some (.ref (0 + 3)), some (.ref (43 + 3)), some (.int i)] [.int (i + (1 : Int32)), .ref 2, .ref (0 + 3)] _ _ from ?_)
  refine zy_26s rfl (zl_in hX i0 i6 (by decide) (by decide)) (show zyR _ _ _ _ [some (.ref 2), some (.ref (0 + 3)), some (.ref (43 + 3)), some (.int i)] [.int (X.2 (i + (1 : Int32)).toNatClampNeg), .ref (0 + 3)] _ _ from ?_)
  refine zy_0 rfl rfl (show zyR _ _ _ _ [some (.ref 2), some (.ref (0 + 3)), some (.ref (43 + 3)), some (.int i)] [.ref 2, .int (X.2 (i + (1 : Int32)).toNatClampNeg), .ref (0 + 3)] _ _ from ?_)
  refine zy_2 rfl rfl (show zyR _ _ _ _ [some (.ref 2), some (.ref (0 + 3)), some (.ref (43 + 3)), some (.int i)] [.int i, .ref 2, .int (X.2 (i + (1 : Int32)).toNatClampNeg), .ref (0 + 3)] _ _ from ?_)
  refine zy_3 rfl rfl (show zyR _ _ _ _ [some (.ref 2), some (.ref (0 + 3)), some (.ref (43 + 3)), some (.int i)] [.int (2 : Int32), .int i, .ref 2, .int (X.2 (i + (1 : Int32)).toNatClampNeg), .ref (0 + 3)] _ _ from ?_)
  refine zy_10 rfl (show zyR _ _ _ _ [some (.ref 2), some (.ref (0 + 3)), some (.ref (43 + 3)), some (.int i)] [.int (i + (2 : Int32)), .ref 2, .int (X.2 (i + (1 : Int32)).toNatClampNeg), .ref (0 + 3)] _ _ from ?_)
  refine zy_26s rfl (zl_in hX i0 i6 (by decide) (by decide)) (show zyR _ _ _ _ [some (.ref 2), some (.ref (0 + 3)), some (.ref (43 + 3)), some (.int i)] [.int (X.2 (i + (2 : Int32)).toNatClampNeg), .int (X.2 (i + (1 : Int32)).toNatClampNeg), .ref (0 + 3)] _ _ from ?_)
  refine zy_0 rfl rfl (show zyR _ _ _ _ [some (.ref 2), some (.ref (0 + 3)), some (.ref (43 + 3)), some (.int i)] [.ref 2, .int (X.2 (i + (2 : Int32)).toNatClampNeg), .int (X.2 (i + (1 : Int32)).toNatClampNeg), .ref (0 + 3)] _ _ from ?_)
  refine zy_2 rfl rfl (show zyR _ _ _ _ [some (.ref 2), some (.ref (0 + 3)), some (.ref (43 + 3)), some (.int i)] [.int i, .ref 2, .int (X.2 (i + (2 : Int32)).toNatClampNeg), .int (X.2 (i + (1 : Int32)).toNatClampNeg), .ref (0 + 3)] _ _ from ?_)
  refine zy_3 rfl rfl (show zyR _ _ _ _ [some (.ref 2), some (.ref (0 + 3)), some (.ref (43 + 3)), some (.int i)] [.int (3 : Int32), .int i, .ref 2, .int (X.2 (i + (2 : Int32)).toNatClampNeg), .int (X.2 (i + (1 : Int32)).toNatClampNeg), .ref (0 + 3)] _ _ from ?_)
  refine zy_10 rfl (show zyR _ _ _ _ [some (.ref 2), some (.ref (0 + 3)), some (.ref (43 + 3)), some (.int i)] [.int (i + (3 : Int32)), .ref 2, .int (X.2 (i + (2 : Int32)).toNatClampNeg), .int (X.2 (i + (1 : Int32)).toNatClampNeg), .ref (0 + 3)] _ _ from ?_)
  refine zy_26s rfl (zl_in hX i0 i6 (by decide) (by decide)) (show zyR _ _ _ _ [some (.ref 2), some (.ref (0 + 3)), some (.ref (43 + 3)), some (.int i)] [.int (X.2 (i + (3 : Int32)).toNatClampNeg), .int (X.2 (i + (2 : Int32)).toNatClampNeg), .int (X.2 (i + (1 : Int32)).toNatClampNeg), .ref (0 + 3)] _ _ from ?_)
  refine zy_40 rfl (show zyR _ _ _ _ [some (.ref 2), some (.ref (0 + 3)), some (.ref (43 + 3)), some (.int i)] [.long ((X.2 (i + (3 : Int32)).toNatClampNeg)).toInt64, .int (X.2 (i + (2 : Int32)).toNatClampNeg), .int (X.2 (i + (1 : Int32)).toNatClampNeg), .ref (0 + 3)] _ _ from ?_)
  refine zy_3 rfl rfl (show zyR _ _ _ _ [some (.ref 2), some (.ref (0 + 3)), some (.ref (43 + 3)), some (.int i)] [.int (32 : Int32), .long ((X.2 (i + (3 : Int32)).toNatClampNeg)).toInt64, .int (X.2 (i + (2 : Int32)).toNatClampNeg), .int (X.2 (i + (1 : Int32)).toNatClampNeg), .ref (0 + 3)] _ _ from ?_)
  refine zy_47 rfl (show zyR _ _ _ _ [some (.ref 2), some (.ref (0 + 3)), some (.ref (43 + 3)), some (.int i)] [.long (((X.2 (i + (3 : Int32)).toNatClampNeg)).toInt64 <<< (((32 : Int32)).toInt64 &&& 63)), .int (X.2 (i + (2 : Int32)).toNatClampNeg), .int (X.2 (i + (1 : Int32)).toNatClampNeg), .ref (0 + 3)] _ _ from ?_)
  refine zy_0 rfl rfl (show zyR _ _ _ _ [some (.ref 2), some (.ref (0 + 3)), some (.ref (43 + 3)), some (.int i)] [.ref 2, .long (((X.2 (i + (3 : Int32)).toNatClampNeg)).toInt64 <<< (((32 : Int32)).toInt64 &&& 63)), .int (X.2 (i + (2 : Int32)).toNatClampNeg), .int (X.2 (i + (1 : Int32)).toNatClampNeg), .ref (0 + 3)] _ _ from ?_)
  refine zy_2 rfl rfl (show zyR _ _ _ _ [some (.ref 2), some (.ref (0 + 3)), some (.ref (43 + 3)), some (.int i)] [.int i, .ref 2, .long (((X.2 (i + (3 : Int32)).toNatClampNeg)).toInt64 <<< (((32 : Int32)).toInt64 &&& 63)), .int (X.2 (i + (2 : Int32)).toNatClampNeg), .int (X.2 (i + (1 : Int32)).toNatClampNeg), .ref (0 + 3)] _ _ from ?_)
  refine zy_3 rfl rfl (show zyR _ _ _ _ [some (.ref 2), some (.ref (0 + 3)), some (.ref (43 + 3)), some (.int i)] [.int (4 : Int32), .int i, .ref 2, .long (((X.2 (i + (3 : Int32)).toNatClampNeg)).toInt64 <<< (((32 : Int32)).toInt64 &&& 63)), .int (X.2 (i + (2 : Int32)).toNatClampNeg), .int (X.2 (i + (1 : Int32)).toNatClampNeg), .ref (0 + 3)] _ _ from ?_)
  refine zy_10 rfl (show zyR _ _ _ _ [some (.ref 2), some (.ref (0 + 3)), some (.ref (43 + 3)), some (.int i)] [.int (i + (4 : Int32)), .ref 2, .long (((X.2 (i + (3 : Int32)).toNatClampNeg)).toInt64 <<< (((32 : Int32)).toInt64 &&& 63)), .int (X.2 (i + (2 : Int32)).toNatClampNeg), .int (X.2 (i + (1 : Int32)).toNatClampNeg), .ref (0 + 3)] _ _ from ?_)
  refine zy_26s rfl (zl_in hX i0 i6 (by decide) (by decide)) (show zyR _ _ _ _ [some (.ref 2), some (.ref (0 + 3)), some (.ref (43 + 3)), some (.int i)] [.int (X.2 (i + (4 : Int32)).toNatClampNeg), .long (((X.2 (i + (3 : Int32)).toNatClampNeg)).toInt64 <<< (((32 : Int32)).toInt64 &&& 63)), .int (X.2 (i + (2 : Int32)).toNatClampNeg), .int (X.2 (i + (1 : Int32)).toNatClampNeg), .ref (0 + 3)] _ _ from ?_)
  refine zy_40 rfl (show zyR _ _ _ _ [some (.ref 2), some (.ref (0 + 3)), some (.ref (43 + 3)), some (.int i)] [.long ((X.2 (i + (4 : Int32)).toNatClampNeg)).toInt64, .long (((X.2 (i + (3 : Int32)).toNatClampNeg)).toInt64 <<< (((32 : Int32)).toInt64 &&& 63)), .int (X.2 (i + (2 : Int32)).toNatClampNeg), .int (X.2 (i + (1 : Int32)).toNatClampNeg), .ref (0 + 3)] _ _ from ?_)
  refine zy_36c rfl rfl (show zyR _ _ _ _ [some (.ref 2), some (.ref (0 + 3)), some (.ref (43 + 3)), some (.int i)] [.long (4294967295 : Int64), .long ((X.2 (i + (4 : Int32)).toNatClampNeg)).toInt64, .long (((X.2 (i + (3 : Int32)).toNatClampNeg)).toInt64 <<< (((32 : Int32)).toInt64 &&& 63)), .int (X.2 (i + (2 : Int32)).toNatClampNeg), .int (X.2 (i + (1 : Int32)).toNatClampNeg), .ref (0 + 3)] _ _ from ?_)
  refine zy_45 rfl (show zyR _ _ _ _ [some (.ref 2), some (.ref (0 + 3)), some (.ref (43 + 3)), some (.int i)] [.long (((X.2 (i + (4 : Int32)).toNatClampNeg)).toInt64 &&& (4294967295 : Int64)), .long (((X.2 (i + (3 : Int32)).toNatClampNeg)).toInt64 <<< (((32 : Int32)).toInt64 &&& 63)), .int (X.2 (i + (2 : Int32)).toNatClampNeg), .int (X.2 (i + (1 : Int32)).toNatClampNeg), .ref (0 + 3)] _ _ from ?_)
  refine zy_46 rfl (show zyR _ _ _ _ [some (.ref 2), some (.ref (0 + 3)), some (.ref (43 + 3)), some (.int i)] [.long ((((X.2 (i + (3 : Int32)).toNatClampNeg)).toInt64 <<< (((32 : Int32)).toInt64 &&& 63)) ||| (((X.2 (i + (4 : Int32)).toNatClampNeg)).toInt64 &&& (4294967295 : Int64))), .int (X.2 (i + (2 : Int32)).toNatClampNeg), .int (X.2 (i + (1 : Int32)).toNatClampNeg), .ref (0 + 3)] _ _ from ?_)
  refine zy_5 (c := 0) (as := [.int (X.2 (i + (1 : Int32)).toNatClampNeg), .int (X.2 (i + (2 : Int32)).toNatClampNeg), .long ((((X.2 (i + (3 : Int32)).toNatClampNeg)).toInt64 <<< (((32 : Int32)).toInt64 &&& 63)) ||| (((X.2 (i + (4 : Int32)).toNatClampNeg)).toInt64 &&& (4294967295 : Int64)))]) (rest := []) (L := [some (.ref (0 + 3)), some (.int (X.2 (i + (1 : Int32)).toNatClampNeg)), some (.int (X.2 (i + (2 : Int32)).toNatClampNeg)), some (.long ((((X.2 (i + (3 : Int32)).toNatClampNeg)).toInt64 <<< (((32 : Int32)).toInt64 &&& 63)) ||| (((X.2 (i + (4 : Int32)).toNatClampNeg)).toInt64 &&& (4294967295 : Int64)))), none, none]) (d' := 4) rfl rfl rfl (Nat.le_of_ble_eq_true rfl) (Nat.le_of_ble_eq_true rfl) rfl (Nat.le_of_ble_eq_true rfl) rfl rfl (zyC166 f1) ?_
  show zyR _ _ _ _ [some (.ref 2), some (.ref (0 + 3)), some (.ref (43 + 3)), some (.int i)] [.int r] _ _
  refine zy_34 rfl rfl (show zyR _ _ _ _ [some (.ref 2), some (.ref (0 + 3)), some (.ref (43 + 3)), some (.int i)] [] _ _ from ?_)
  refine zy_0 rfl rfl (show zyR _ _ _ _ [some (.ref 2), some (.ref (0 + 3)), some (.ref (43 + 3)), some (.int i)] [.ref (43 + 3)] _ _ from ?_)
  refine zy_0 rfl rfl (show zyR _ _ _ _ [some (.ref 2), some (.ref (0 + 3)), some (.ref (43 + 3)), some (.int i)] [.ref 2, .ref (43 + 3)] _ _ from ?_)
  refine zy_2 rfl rfl (show zyR _ _ _ _ [some (.ref 2), some (.ref (0 + 3)), some (.ref (43 + 3)), some (.int i)] [.int i, .ref 2, .ref (43 + 3)] _ _ from ?_)
  refine zy_3 rfl rfl (show zyR _ _ _ _ [some (.ref 2), some (.ref (0 + 3)), some (.ref (43 + 3)), some (.int i)] [.int (1 : Int32), .int i, .ref 2, .ref (43 + 3)] _ _ from ?_)
  refine zy_10 rfl (show zyR _ _ _ _ [some (.ref 2), some (.ref (0 + 3)), some (.ref (43 + 3)), some (.int i)] [.int (i + (1 : Int32)), .ref 2, .ref (43 + 3)] _ _ from ?_)
  refine zy_26s rfl (zl_in hX i0 i6 (by decide) (by decide)) (show zyR _ _ _ _ [some (.ref 2), some (.ref (0 + 3)), some (.ref (43 + 3)), some (.int i)] [.int (X.2 (i + (1 : Int32)).toNatClampNeg), .ref (43 + 3)] _ _ from ?_)
  refine zy_0 rfl rfl (show zyR _ _ _ _ [some (.ref 2), some (.ref (0 + 3)), some (.ref (43 + 3)), some (.int i)] [.ref 2, .int (X.2 (i + (1 : Int32)).toNatClampNeg), .ref (43 + 3)] _ _ from ?_)
  refine zy_2 rfl rfl (show zyR _ _ _ _ [some (.ref 2), some (.ref (0 + 3)), some (.ref (43 + 3)), some (.int i)] [.int i, .ref 2, .int (X.2 (i + (1 : Int32)).toNatClampNeg), .ref (43 + 3)] _ _ from ?_)
  refine zy_3 rfl rfl (show zyR _ _ _ _ [some (.ref 2), some (.ref (0 + 3)), some (.ref (43 + 3)), some (.int i)] [.int (2 : Int32), .int i, .ref 2, .int (X.2 (i + (1 : Int32)).toNatClampNeg), .ref (43 + 3)] _ _ from ?_)
  refine zy_10 rfl (show zyR _ _ _ _ [some (.ref 2), some (.ref (0 + 3)), some (.ref (43 + 3)), some (.int i)] [.int (i + (2 : Int32)), .ref 2, .int (X.2 (i + (1 : Int32)).toNatClampNeg), .ref (43 + 3)] _ _ from ?_)
  refine zy_26s rfl (zl_in hX i0 i6 (by decide) (by decide)) (show zyR _ _ _ _ [some (.ref 2), some (.ref (0 + 3)), some (.ref (43 + 3)), some (.int i)] [.int (X.2 (i + (2 : Int32)).toNatClampNeg), .int (X.2 (i + (1 : Int32)).toNatClampNeg), .ref (43 + 3)] _ _ from ?_)
  refine zy_0 rfl rfl (show zyR _ _ _ _ [some (.ref 2), some (.ref (0 + 3)), some (.ref (43 + 3)), some (.int i)] [.ref 2, .int (X.2 (i + (2 : Int32)).toNatClampNeg), .int (X.2 (i + (1 : Int32)).toNatClampNeg), .ref (43 + 3)] _ _ from ?_)
  refine zy_2 rfl rfl (show zyR _ _ _ _ [some (.ref 2), some (.ref (0 + 3)), some (.ref (43 + 3)), some (.int i)] [.int i, .ref 2, .int (X.2 (i + (2 : Int32)).toNatClampNeg), .int (X.2 (i + (1 : Int32)).toNatClampNeg), .ref (43 + 3)] _ _ from ?_)
  refine zy_3 rfl rfl (show zyR _ _ _ _ [some (.ref 2), some (.ref (0 + 3)), some (.ref (43 + 3)), some (.int i)] [.int (3 : Int32), .int i, .ref 2, .int (X.2 (i + (2 : Int32)).toNatClampNeg), .int (X.2 (i + (1 : Int32)).toNatClampNeg), .ref (43 + 3)] _ _ from ?_)
  refine zy_10 rfl (show zyR _ _ _ _ [some (.ref 2), some (.ref (0 + 3)), some (.ref (43 + 3)), some (.int i)] [.int (i + (3 : Int32)), .ref 2, .int (X.2 (i + (2 : Int32)).toNatClampNeg), .int (X.2 (i + (1 : Int32)).toNatClampNeg), .ref (43 + 3)] _ _ from ?_)
  refine zy_26s rfl (zl_in hX i0 i6 (by decide) (by decide)) (show zyR _ _ _ _ [some (.ref 2), some (.ref (0 + 3)), some (.ref (43 + 3)), some (.int i)] [.int (X.2 (i + (3 : Int32)).toNatClampNeg), .int (X.2 (i + (2 : Int32)).toNatClampNeg), .int (X.2 (i + (1 : Int32)).toNatClampNeg), .ref (43 + 3)] _ _ from ?_)
  refine zy_40 rfl (show zyR _ _ _ _ [some (.ref 2), some (.ref (0 + 3)), some (.ref (43 + 3)), some (.int i)] [.long ((X.2 (i + (3 : Int32)).toNatClampNeg)).toInt64, .int (X.2 (i + (2 : Int32)).toNatClampNeg), .int (X.2 (i + (1 : Int32)).toNatClampNeg), .ref (43 + 3)] _ _ from ?_)
  refine zy_3 rfl rfl (show zyR _ _ _ _ [some (.ref 2), some (.ref (0 + 3)), some (.ref (43 + 3)), some (.int i)] [.int (32 : Int32), .long ((X.2 (i + (3 : Int32)).toNatClampNeg)).toInt64, .int (X.2 (i + (2 : Int32)).toNatClampNeg), .int (X.2 (i + (1 : Int32)).toNatClampNeg), .ref (43 + 3)] _ _ from ?_)
  refine zy_47 rfl (show zyR _ _ _ _ [some (.ref 2), some (.ref (0 + 3)), some (.ref (43 + 3)), some (.int i)] [.long (((X.2 (i + (3 : Int32)).toNatClampNeg)).toInt64 <<< (((32 : Int32)).toInt64 &&& 63)), .int (X.2 (i + (2 : Int32)).toNatClampNeg), .int (X.2 (i + (1 : Int32)).toNatClampNeg), .ref (43 + 3)] _ _ from ?_)
  refine zy_0 rfl rfl (show zyR _ _ _ _ [some (.ref 2), some (.ref (0 + 3)), some (.ref (43 + 3)), some (.int i)] [.ref 2, .long (((X.2 (i + (3 : Int32)).toNatClampNeg)).toInt64 <<< (((32 : Int32)).toInt64 &&& 63)), .int (X.2 (i + (2 : Int32)).toNatClampNeg), .int (X.2 (i + (1 : Int32)).toNatClampNeg), .ref (43 + 3)] _ _ from ?_)
  refine zy_2 rfl rfl (show zyR _ _ _ _ [some (.ref 2), some (.ref (0 + 3)), some (.ref (43 + 3)), some (.int i)] [.int i, .ref 2, .long (((X.2 (i + (3 : Int32)).toNatClampNeg)).toInt64 <<< (((32 : Int32)).toInt64 &&& 63)), .int (X.2 (i + (2 : Int32)).toNatClampNeg), .int (X.2 (i + (1 : Int32)).toNatClampNeg), .ref (43 + 3)] _ _ from ?_)
  refine zy_3 rfl rfl (show zyR _ _ _ _ [some (.ref 2), some (.ref (0 + 3)), some (.ref (43 + 3)), some (.int i)] [.int (4 : Int32), .int i, .ref 2, .long (((X.2 (i + (3 : Int32)).toNatClampNeg)).toInt64 <<< (((32 : Int32)).toInt64 &&& 63)), .int (X.2 (i + (2 : Int32)).toNatClampNeg), .int (X.2 (i + (1 : Int32)).toNatClampNeg), .ref (43 + 3)] _ _ from ?_)
  refine zy_10 rfl (show zyR _ _ _ _ [some (.ref 2), some (.ref (0 + 3)), some (.ref (43 + 3)), some (.int i)] [.int (i + (4 : Int32)), .ref 2, .long (((X.2 (i + (3 : Int32)).toNatClampNeg)).toInt64 <<< (((32 : Int32)).toInt64 &&& 63)), .int (X.2 (i + (2 : Int32)).toNatClampNeg), .int (X.2 (i + (1 : Int32)).toNatClampNeg), .ref (43 + 3)] _ _ from ?_)
  refine zy_26s rfl (zl_in hX i0 i6 (by decide) (by decide)) (show zyR _ _ _ _ [some (.ref 2), some (.ref (0 + 3)), some (.ref (43 + 3)), some (.int i)] [.int (X.2 (i + (4 : Int32)).toNatClampNeg), .long (((X.2 (i + (3 : Int32)).toNatClampNeg)).toInt64 <<< (((32 : Int32)).toInt64 &&& 63)), .int (X.2 (i + (2 : Int32)).toNatClampNeg), .int (X.2 (i + (1 : Int32)).toNatClampNeg), .ref (43 + 3)] _ _ from ?_)
  refine zy_40 rfl (show zyR _ _ _ _ [some (.ref 2), some (.ref (0 + 3)), some (.ref (43 + 3)), some (.int i)] [.long ((X.2 (i + (4 : Int32)).toNatClampNeg)).toInt64, .long (((X.2 (i + (3 : Int32)).toNatClampNeg)).toInt64 <<< (((32 : Int32)).toInt64 &&& 63)), .int (X.2 (i + (2 : Int32)).toNatClampNeg), .int (X.2 (i + (1 : Int32)).toNatClampNeg), .ref (43 + 3)] _ _ from ?_)
  refine zy_36c rfl rfl (show zyR _ _ _ _ [some (.ref 2), some (.ref (0 + 3)), some (.ref (43 + 3)), some (.int i)] [.long (4294967295 : Int64), .long ((X.2 (i + (4 : Int32)).toNatClampNeg)).toInt64, .long (((X.2 (i + (3 : Int32)).toNatClampNeg)).toInt64 <<< (((32 : Int32)).toInt64 &&& 63)), .int (X.2 (i + (2 : Int32)).toNatClampNeg), .int (X.2 (i + (1 : Int32)).toNatClampNeg), .ref (43 + 3)] _ _ from ?_)
  refine zy_45 rfl (show zyR _ _ _ _ [some (.ref 2), some (.ref (0 + 3)), some (.ref (43 + 3)), some (.int i)] [.long (((X.2 (i + (4 : Int32)).toNatClampNeg)).toInt64 &&& (4294967295 : Int64)), .long (((X.2 (i + (3 : Int32)).toNatClampNeg)).toInt64 <<< (((32 : Int32)).toInt64 &&& 63)), .int (X.2 (i + (2 : Int32)).toNatClampNeg), .int (X.2 (i + (1 : Int32)).toNatClampNeg), .ref (43 + 3)] _ _ from ?_)
  refine zy_46 rfl (show zyR _ _ _ _ [some (.ref 2), some (.ref (0 + 3)), some (.ref (43 + 3)), some (.int i)] [.long ((((X.2 (i + (3 : Int32)).toNatClampNeg)).toInt64 <<< (((32 : Int32)).toInt64 &&& 63)) ||| (((X.2 (i + (4 : Int32)).toNatClampNeg)).toInt64 &&& (4294967295 : Int64))), .int (X.2 (i + (2 : Int32)).toNatClampNeg), .int (X.2 (i + (1 : Int32)).toNatClampNeg), .ref (43 + 3)] _ _ from ?_)
  refine zy_5 (c := 43) (as := [.int (X.2 (i + (1 : Int32)).toNatClampNeg), .int (X.2 (i + (2 : Int32)).toNatClampNeg), .long ((((X.2 (i + (3 : Int32)).toNatClampNeg)).toInt64 <<< (((32 : Int32)).toInt64 &&& 63)) ||| (((X.2 (i + (4 : Int32)).toNatClampNeg)).toInt64 &&& (4294967295 : Int64)))]) (rest := []) (L := [some (.ref (43 + 3)), some (.int (X.2 (i + (1 : Int32)).toNatClampNeg)), some (.int (X.2 (i + (2 : Int32)).toNatClampNeg)), some (.long ((((X.2 (i + (3 : Int32)).toNatClampNeg)).toInt64 <<< (((32 : Int32)).toInt64 &&& 63)) ||| (((X.2 (i + (4 : Int32)).toNatClampNeg)).toInt64 &&& (4294967295 : Int64)))), none, none]) (d' := 4) rfl rfl rfl (Nat.le_of_ble_eq_true rfl) (Nat.le_of_ble_eq_true rfl) rfl (Nat.le_of_ble_eq_true rfl) rfl rfl (zyC258 f2) ?_
  show zyR _ _ _ _ [some (.ref 2), some (.ref (0 + 3)), some (.ref (43 + 3)), some (.int i)] [.int r] _ _
  refine zy_34 rfl rfl (show zyR _ _ _ _ [some (.ref 2), some (.ref (0 + 3)), some (.ref (43 + 3)), some (.int i)] [] _ _ from ?_)
  exact zy_6 rfl (k _ hI)
theorem zlc_37 {X : zx_X} {i : Int32} {s : zy_S} {P : Option Value → zy_S → Prop} (hX : X.1 ≤ 3072) (i0 : 0 ≤ i.toInt) (i6 : i.toInt + 6 ≤ X.1) (h : zI s) (k : ∀ t, zI t → zyR X 2000 0 1435 [some (.ref 2), some (.ref (0 + 3)), some (.ref (43 + 3)), some (.int i)] [] t P) : zyR X 2000 0 1283 [some (.ref 2), some (.ref (0 + 3)), some (.ref (43 + 3)), some (.int i)] [] s P := by
  obtain ⟨r, s1, s2, f1, f2, hI⟩ := zop_element ((X.2 (i + (1 : Int32)).toNatClampNeg)) ((X.2 (i + (2 : Int32)).toNatClampNeg)) h
  refine zy_0 rfl rfl (show zyR _ _ _ _ [some (.ref 2), some (.ref (0 + 3)), some (.ref (43 + 3)), some (.int i)] [.ref (0 + 3)] _ _ from ?_)
  refine zy_0 rfl rfl (show zyR _ _ _ _ [some (.ref 2), some (.ref (0 + 3)), some (.ref (43 + 3)), some (.int i)] [.ref 2, .ref (0 + 3)] _ _ from ?_)
  refine zy_2 rfl rfl (show zyR _ _ _ _ [some (.ref 2), some (.ref (0 + 3)), some (.ref (43 + 3)), some (.int i)] [.int i, .ref 2, .ref (0 + 3)] _ _ from ?_)
  refine zy_3 rfl rfl (show zyR _ _ _ _ [some (.ref 2), some (.ref (0 + 3)), some (.ref (43 + 3)), some (.int i)] [.int (1 : Int32), .int i, .ref 2, .ref (0 + 3)] _ _ from ?_)
  refine zy_10 rfl (show zyR _ _ _ _ [some (.ref 2), some (.ref (0 + 3)), some (.ref (43 + 3)), some (.int i)] [.int (i + (1 : Int32)), .ref 2, .ref (0 + 3)] _ _ from ?_)
  refine zy_26s rfl (zl_in hX i0 i6 (by decide) (by decide)) (show zyR _ _ _ _ [some (.ref 2), some (.ref (0 + 3)), some (.ref (43 + 3)), some (.int i)] [.int (X.2 (i + (1 : Int32)).toNatClampNeg), .ref (0 + 3)] _ _ from ?_)
  refine zy_0 rfl rfl (show zyR _ _ _ _ [some (.ref 2), some (.ref (0 + 3)), some (.ref (43 + 3)), some (.int i)] [.ref 2, .int (X.2 (i + (1 : Int32)).toNatClampNeg), .ref (0 + 3)] _ _ from ?_)
  refine zy_2 rfl rfl (show zyR _ _ _ _ [some (.ref 2), some (.ref (0 + 3)), some (.ref (43 + 3)), some (.int i)] [.int i, .ref 2, .int (X.2 (i + (1 : Int32)).toNatClampNeg), .ref (0 + 3)] _ _ from ?_)
  refine zy_3 rfl rfl (show zyR _ _ _ _ [some (.ref 2), some (.ref (0 + 3)), some (.ref (43 + 3)), some (.int i)] [.int (2 : Int32), .int i, .ref 2, .int (X.2 (i + (1 : Int32)).toNatClampNeg), .ref (0 + 3)] _ _ from ?_)
  refine zy_10 rfl (show zyR _ _ _ _ [some (.ref 2), some (.ref (0 + 3)), some (.ref (43 + 3)), some (.int i)] [.int (i + (2 : Int32)), .ref 2, .int (X.2 (i + (1 : Int32)).toNatClampNeg), .ref (0 + 3)] _ _ from ?_)
  refine zy_26s rfl (zl_in hX i0 i6 (by decide) (by decide)) (show zyR _ _ _ _ [some (.ref 2), some (.ref (0 + 3)), some (.ref (43 + 3)), some (.int i)] [.int (X.2 (i + (2 : Int32)).toNatClampNeg), .int (X.2 (i + (1 : Int32)).toNatClampNeg), .ref (0 + 3)] _ _ from ?_)
  refine zy_5 (c := 0) (as := [.int (X.2 (i + (1 : Int32)).toNatClampNeg), .int (X.2 (i + (2 : Int32)).toNatClampNeg)]) (rest := []) (L := [some (.ref (0 + 3)), some (.int (X.2 (i + (1 : Int32)).toNatClampNeg)), some (.int (X.2 (i + (2 : Int32)).toNatClampNeg))]) (d' := 4) rfl rfl rfl (Nat.le_of_ble_eq_true rfl) (Nat.le_of_ble_eq_true rfl) rfl (Nat.le_of_ble_eq_true rfl) rfl rfl (zyC170 f1) ?_
  show zyR _ _ _ _ [some (.ref 2), some (.ref (0 + 3)), some (.ref (43 + 3)), some (.int i)] [.long r] _ _
  refine zy_70 rfl rfl (show zyR _ _ _ _ [some (.ref 2), some (.ref (0 + 3)), some (.ref (43 + 3)), some (.int i)] [] _ _ from ?_)
  refine zy_0 rfl rfl (show zyR _ _ _ _ [some (.ref 2), some (.ref (0 + 3)), some (.ref (43 + 3)), some (.int i)] [.ref (43 + 3)] _ _ from ?_)
  refine zy_0 rfl rfl (show zyR _ _ _ _ [some (.ref 2), some (.ref (0 + 3)), some (.ref (43 + 3)), some (.int i)] [.ref 2, .ref (43 + 3)] _ _ from ?_)
  refine zy_2 rfl rfl (show zyR _ _ _ _ [some (.ref 2), some (.ref (0 + 3)), some (.ref (43 + 3)), some (.int i)] [.int i, .ref 2, .ref (43 + 3)] _ _ from ?_)
  refine zy_3 rfl rfl (show zyR _ _ _ _ [some (.ref 2), some (.ref (0 + 3)), some (.ref (43 + 3)), some (.int i)] [.int (1 : Int32), .int i, .ref 2, .ref (43 + 3)] _ _ from ?_)
  refine zy_10 rfl (show zyR _ _ _ _ [some (.ref 2), some (.ref (0 + 3)), some (.ref (43 + 3)), some (.int i)] [.int (i + (1 : Int32)), .ref 2, .ref (43 + 3)] _ _ from ?_)
  refine zy_26s rfl (zl_in hX i0 i6 (by decide) (by decide)) (show zyR _ _ _ _ [some (.ref 2), some (.ref (0 + 3)), some (.ref (43 + 3)), some (.int i)] [.int (X.2 (i + (1 : Int32)).toNatClampNeg), .ref (43 + 3)] _ _ from ?_)
  refine zy_0 rfl rfl (show zyR _ _ _ _ [some (.ref 2), some (.ref (0 + 3)), some (.ref (43 + 3)), some (.int i)] [.ref 2, .int (X.2 (i + (1 : Int32)).toNatClampNeg), .ref (43 + 3)] _ _ from ?_)
  refine zy_2 rfl rfl (show zyR _ _ _ _ [some (.ref 2), some (.ref (0 + 3)), some (.ref (43 + 3)), some (.int i)] [.int i, .ref 2, .int (X.2 (i + (1 : Int32)).toNatClampNeg), .ref (43 + 3)] _ _ from ?_)
  refine zy_3 rfl rfl (show zyR _ _ _ _ [some (.ref 2), some (.ref (0 + 3)), some (.ref (43 + 3)), some (.int i)] [.int (2 : Int32), .int i, .ref 2, .int (X.2 (i + (1 : Int32)).toNatClampNeg), .ref (43 + 3)] _ _ from ?_)
  refine zy_10 rfl (show zyR _ _ _ _ [some (.ref 2), some (.ref (0 + 3)), some (.ref (43 + 3)), some (.int i)] [.int (i + (2 : Int32)), .ref 2, .int (X.2 (i + (1 : Int32)).toNatClampNeg), .ref (43 + 3)] _ _ from ?_)
  refine zy_26s rfl (zl_in hX i0 i6 (by decide) (by decide)) (show zyR _ _ _ _ [some (.ref 2), some (.ref (0 + 3)), some (.ref (43 + 3)), some (.int i)] [.int (X.2 (i + (2 : Int32)).toNatClampNeg), .int (X.2 (i + (1 : Int32)).toNatClampNeg), .ref (43 + 3)] _ _ from ?_)
  refine zy_5 (c := 43) (as := [.int (X.2 (i + (1 : Int32)).toNatClampNeg), .int (X.2 (i + (2 : Int32)).toNatClampNeg)]) (rest := []) (L := [some (.ref (43 + 3)), some (.int (X.2 (i + (1 : Int32)).toNatClampNeg)), some (.int (X.2 (i + (2 : Int32)).toNatClampNeg))]) (d' := 4) rfl rfl rfl (Nat.le_of_ble_eq_true rfl) (Nat.le_of_ble_eq_true rfl) rfl (Nat.le_of_ble_eq_true rfl) rfl rfl (zyC261 f2) ?_
  show zyR _ _ _ _ [some (.ref 2), some (.ref (0 + 3)), some (.ref (43 + 3)), some (.int i)] [.long r] _ _
  refine zy_70 rfl rfl (show zyR _ _ _ _ [some (.ref 2), some (.ref (0 + 3)), some (.ref (43 + 3)), some (.int i)] [] _ _ from ?_)
  exact zy_6 rfl (k _ hI)
theorem zlc_38 {X : zx_X} {i : Int32} {s : zy_S} {P : Option Value → zy_S → Prop} (hX : X.1 ≤ 3072) (i0 : 0 ≤ i.toInt) (i6 : i.toInt + 6 ≤ X.1) (h : zI s) (k : ∀ t, zI t → zyR X 2000 0 1435 [some (.ref 2), some (.ref (0 + 3)), some (.ref (43 + 3)), some (.int i)] [] t P) : zyR X 2000 0 1316 [some (.ref 2), some (.ref (0 + 3)), some (.ref (43 + 3)), some (.int i)] [] s P := by
  obtain ⟨r, s1, s2, f1, f2, hI⟩ := zop_shift ((X.2 (i + (1 : Int32)).toNatClampNeg)) ((X.2 (i + (2 : Int32)).toNatClampNeg)) ((X.2 (i + (3 : Int32)).toNatClampNeg)) ((X.2 (i + (4 : Int32)).toNatClampNeg)) ((X.2 (i + (5 : Int32)).toNatClampNeg)) h
  refine zy_0 rfl rfl (show zyR _ _ _ _ [some (.ref 2), some (.ref (0 + 3)), some (.ref (43 + 3)), some (.int i)] [.ref (0 + 3)] _ _ from ?_)
  refine zy_0 rfl rfl (show zyR _ _ _ _ [some (.ref 2), some (.ref (0 + 3)), some (.ref (43 + 3)), some (.int i)] [.ref 2, .ref (0 + 3)] _ _ from ?_)
  refine zy_2 rfl rfl (show zyR _ _ _ _ [some (.ref 2), some (.ref (0 + 3)), some (.ref (43 + 3)), some (.int i)] [.int i, .ref 2, .ref (0 + 3)] _ _ from ?_)
  refine zy_3 rfl rfl (show zyR _ _ _ _ [some (.ref 2), some (.ref (0 + 3)), some (.ref (43 + 3)), some (.int i)] [.int (1 : Int32), .int i, .ref 2, .ref (0 + 3)] _ _ from ?_)
  refine zy_10 rfl (show zyR _ _ _ _ [some (.ref 2), some (.ref (0 + 3)), some (.ref (43 + 3)), some (.int i)] [.int (i + (1 : Int32)), .ref 2, .ref (0 + 3)] _ _ from ?_)
  refine zy_26s rfl (zl_in hX i0 i6 (by decide) (by decide)) (show zyR _ _ _ _ [some (.ref 2), some (.ref (0 + 3)), some (.ref (43 + 3)), some (.int i)] [.int (X.2 (i + (1 : Int32)).toNatClampNeg), .ref (0 + 3)] _ _ from ?_)
  refine zy_0 rfl rfl (show zyR _ _ _ _ [some (.ref 2), some (.ref (0 + 3)), some (.ref (43 + 3)), some (.int i)] [.ref 2, .int (X.2 (i + (1 : Int32)).toNatClampNeg), .ref (0 + 3)] _ _ from ?_)
  refine zy_2 rfl rfl (show zyR _ _ _ _ [some (.ref 2), some (.ref (0 + 3)), some (.ref (43 + 3)), some (.int i)] [.int i, .ref 2, .int (X.2 (i + (1 : Int32)).toNatClampNeg), .ref (0 + 3)] _ _ from ?_)
  refine zy_3 rfl rfl (show zyR _ _ _ _ [some (.ref 2), some (.ref (0 + 3)), some (.ref (43 + 3)), some (.int i)] [.int (2 : Int32), .int i, .ref 2, .int (X.2 (i + (1 : Int32)).toNatClampNeg), .ref (0 + 3)] _ _ from ?_)
  refine zy_10 rfl (show zyR _ _ _ _ [some (.ref 2), some (.ref (0 + 3)), some (.ref (43 + 3)), some (.int i)] [.int (i + (2 : Int32)), .ref 2, .int (X.2 (i + (1 : Int32)).toNatClampNeg), .ref (0 + 3)] _ _ from ?_)
  refine zy_26s rfl (zl_in hX i0 i6 (by decide) (by decide)) (show zyR _ _ _ _ [some (.ref 2), some (.ref (0 + 3)), some (.ref (43 + 3)), some (.int i)] [.int (X.2 (i + (2 : Int32)).toNatClampNeg), .int (X.2 (i + (1 : Int32)).toNatClampNeg), .ref (0 + 3)] _ _ from ?_)
  refine zy_0 rfl rfl (show zyR _ _ _ _ [some (.ref 2), some (.ref (0 + 3)), some (.ref (43 + 3)), some (.int i)] [.ref 2, .int (X.2 (i + (2 : Int32)).toNatClampNeg), .int (X.2 (i + (1 : Int32)).toNatClampNeg), .ref (0 + 3)] _ _ from ?_)
  refine zy_2 rfl rfl (show zyR _ _ _ _ [some (.ref 2), some (.ref (0 + 3)), some (.ref (43 + 3)), some (.int i)] [.int i, .ref 2, .int (X.2 (i + (2 : Int32)).toNatClampNeg), .int (X.2 (i + (1 : Int32)).toNatClampNeg), .ref (0 + 3)] _ _ from ?_)
  refine zy_3 rfl rfl (show zyR _ _ _ _ [some (.ref 2), some (.ref (0 + 3)), some (.ref (43 + 3)), some (.int i)] [.int (3 : Int32), .int i, .ref 2, .int (X.2 (i + (2 : Int32)).toNatClampNeg), .int (X.2 (i + (1 : Int32)).toNatClampNeg), .ref (0 + 3)] _ _ from ?_)
  refine zy_10 rfl (show zyR _ _ _ _ [some (.ref 2), some (.ref (0 + 3)), some (.ref (43 + 3)), some (.int i)] [.int (i + (3 : Int32)), .ref 2, .int (X.2 (i + (2 : Int32)).toNatClampNeg), .int (X.2 (i + (1 : Int32)).toNatClampNeg), .ref (0 + 3)] _ _ from ?_)
  refine zy_26s rfl (zl_in hX i0 i6 (by decide) (by decide)) (show zyR _ _ _ _ [some (.ref 2), some (.ref (0 + 3)), some (.ref (43 + 3)), some (.int i)] [.int (X.2 (i + (3 : Int32)).toNatClampNeg), .int (X.2 (i + (2 : Int32)).toNatClampNeg), .int (X.2 (i + (1 : Int32)).toNatClampNeg), .ref (0 + 3)] _ _ from ?_)
  refine zy_0 rfl rfl (show zyR _ _ _ _ [some (.ref 2), some (.ref (0 + 3)), some (.ref (43 + 3)), some (.int i)] [.ref 2, .int (X.2 (i + (3 : Int32)).toNatClampNeg), .int (X.2 (i + (2 : Int32)).toNatClampNeg), .int (X.2 (i + (1 : Int32)).toNatClampNeg), .ref (0 + 3)] _ _ from ?_)
  refine zy_2 rfl rfl (show zyR _ _ _ _ [some (.ref 2), some (.ref (0 + 3)), some (.ref (43 + 3)), some (.int i)] [.int i, .ref 2, .int (X.2 (i + (3 : Int32)).toNatClampNeg), .int (X.2 (i + (2 : Int32)).toNatClampNeg), .int (X.2 (i + (1 : Int32)).toNatClampNeg), .ref (0 + 3)] _ _ from ?_)
  refine zy_3 rfl rfl (show zyR _ _ _ _ [some (.ref 2), some (.ref (0 + 3)), some (.ref (43 + 3)), some (.int i)] [.int (4 : Int32), .int i, .ref 2, .int (X.2 (i + (3 : Int32)).toNatClampNeg), .int (X.2 (i + (2 : Int32)).toNatClampNeg), .int (X.2 (i + (1 : Int32)).toNatClampNeg), .ref (0 + 3)] _ _ from ?_)
  refine zy_10 rfl (show zyR _ _ _ _ [some (.ref 2), some (.ref (0 + 3)), some (.ref (43 + 3)), some (.int i)] [.int (i + (4 : Int32)), .ref 2, .int (X.2 (i + (3 : Int32)).toNatClampNeg), .int (X.2 (i + (2 : Int32)).toNatClampNeg), .int (X.2 (i + (1 : Int32)).toNatClampNeg), .ref (0 + 3)] _ _ from ?_)
  refine zy_26s rfl (zl_in hX i0 i6 (by decide) (by decide)) (show zyR _ _ _ _ [some (.ref 2), some (.ref (0 + 3)), some (.ref (43 + 3)), some (.int i)] [.int (X.2 (i + (4 : Int32)).toNatClampNeg), .int (X.2 (i + (3 : Int32)).toNatClampNeg), .int (X.2 (i + (2 : Int32)).toNatClampNeg), .int (X.2 (i + (1 : Int32)).toNatClampNeg), .ref (0 + 3)] _ _ from ?_)
  refine zy_0 rfl rfl (show zyR _ _ _ _ [some (.ref 2), some (.ref (0 + 3)), some (.ref (43 + 3)), some (.int i)] [.ref 2, .int (X.2 (i + (4 : Int32)).toNatClampNeg), .int (X.2 (i + (3 : Int32)).toNatClampNeg), .int (X.2 (i + (2 : Int32)).toNatClampNeg), .int (X.2 (i + (1 : Int32)).toNatClampNeg), .ref (0 + 3)] _ _ from ?_)
  refine zy_2 rfl rfl (show zyR _ _ _ _ [some (.ref 2), some (.ref (0 + 3)), some (.ref (43 + 3)), some (.int i)] [.int i, .ref 2, .int (X.2 (i + (4 : Int32)).toNatClampNeg), .int (X.2 (i + (3 : Int32)).toNatClampNeg), .int (X.2 (i + (2 : Int32)).toNatClampNeg), .int (X.2 (i + (1 : Int32)).toNatClampNeg), .ref (0 + 3)] _ _ from ?_)
  refine zy_3 rfl rfl (show zyR _ _ _ _ [some (.ref 2), some (.ref (0 + 3)), some (.ref (43 + 3)), some (.int i)] [.int (5 : Int32), .int i, .ref 2, .int (X.2 (i + (4 : Int32)).toNatClampNeg), .int (X.2 (i + (3 : Int32)).toNatClampNeg), .int (X.2 (i + (2 : Int32)).toNatClampNeg), .int (X.2 (i + (1 : Int32)).toNatClampNeg), .ref (0 + 3)] _ _ from ?_)
  refine zy_10 rfl (show zyR _ _ _ _ [some (.ref 2), some (.ref (0 + 3)), some (.ref (43 + 3)), some (.int i)] [.int (i + (5 : Int32)), .ref 2, .int (X.2 (i + (4 : Int32)).toNatClampNeg), .int (X.2 (i + (3 : Int32)).toNatClampNeg), .int (X.2 (i + (2 : Int32)).toNatClampNeg), .int (X.2 (i + (1 : Int32)).toNatClampNeg), .ref (0 + 3)] _ _ from ?_)
  refine zy_26s rfl (zl_in hX i0 i6 (by decide) (by decide)) (show zyR _ _ _ _ [some (.ref 2), some (.ref (0 + 3)), some (.ref (43 + 3)), some (.int i)] [.int (X.2 (i + (5 : Int32)).toNatClampNeg), .int (X.2 (i + (4 : Int32)).toNatClampNeg), .int (X.2 (i + (3 : Int32)).toNatClampNeg), .int (X.2 (i + (2 : Int32)).toNatClampNeg), .int (X.2 (i + (1 : Int32)).toNatClampNeg), .ref (0 + 3)] _ _ from ?_)
  refine zy_5 (c := 0) (as := [.int (X.2 (i + (1 : Int32)).toNatClampNeg), .int (X.2 (i + (2 : Int32)).toNatClampNeg), .int (X.2 (i + (3 : Int32)).toNatClampNeg), .int (X.2 (i + (4 : Int32)).toNatClampNeg), .int (X.2 (i + (5 : Int32)).toNatClampNeg)]) (rest := []) (L := [some (.ref (0 + 3)), some (.int (X.2 (i + (1 : Int32)).toNatClampNeg)), some (.int (X.2 (i + (2 : Int32)).toNatClampNeg)), some (.int (X.2 (i + (3 : Int32)).toNatClampNeg)), some (.int (X.2 (i + (4 : Int32)).toNatClampNeg)), some (.int (X.2 (i + (5 : Int32)).toNatClampNeg)), none, none]) (d' := 3) rfl rfl rfl (Nat.le_of_ble_eq_true rfl) (Nat.le_of_ble_eq_true rfl) rfl (Nat.le_of_ble_eq_true rfl) rfl rfl (zyC171 f1) ?_
  show zyR _ _ _ _ [some (.ref 2), some (.ref (0 + 3)), some (.ref (43 + 3)), some (.int i)] [.int r] _ _
  refine zy_34 rfl rfl (show zyR _ _ _ _ [some (.ref 2), some (.ref (0 + 3)), some (.ref (43 + 3)), some (.int i)] [] _ _ from ?_)
  refine zy_0 rfl rfl (show zyR _ _ _ _ [some (.ref 2), some (.ref (0 + 3)), some (.ref (43 + 3)), some (.int i)] [.ref (43 + 3)] _ _ from ?_)
  refine zy_0 rfl rfl (show zyR _ _ _ _ [some (.ref 2), some (.ref (0 + 3)), some (.ref (43 + 3)), some (.int i)] [.ref 2, .ref (43 + 3)] _ _ from ?_)
  refine zy_2 rfl rfl (show zyR _ _ _ _ [some (.ref 2), some (.ref (0 + 3)), some (.ref (43 + 3)), some (.int i)] [.int i, .ref 2, .ref (43 + 3)] _ _ from ?_)
  refine zy_3 rfl rfl (show zyR _ _ _ _ [some (.ref 2), some (.ref (0 + 3)), some (.ref (43 + 3)), some (.int i)] [.int (1 : Int32), .int i, .ref 2, .ref (43 + 3)] _ _ from ?_)
  refine zy_10 rfl (show zyR _ _ _ _ [some (.ref 2), some (.ref (0 + 3)), some (.ref (43 + 3)), some (.int i)] [.int (i + (1 : Int32)), .ref 2, .ref (43 + 3)] _ _ from ?_)
  refine zy_26s rfl (zl_in hX i0 i6 (by decide) (by decide)) (show zyR _ _ _ _ [some (.ref 2), some (.ref (0 + 3)), some (.ref (43 + 3)), some (.int i)] [.int (X.2 (i + (1 : Int32)).toNatClampNeg), .ref (43 + 3)] _ _ from ?_)
  refine zy_0 rfl rfl (show zyR _ _ _ _ [some (.ref 2), some (.ref (0 + 3)), some (.ref (43 + 3)), some (.int i)] [.ref 2, .int (X.2 (i + (1 : Int32)).toNatClampNeg), .ref (43 + 3)] _ _ from ?_)
  refine zy_2 rfl rfl (show zyR _ _ _ _ [some (.ref 2), some (.ref (0 + 3)), some (.ref (43 + 3)), some (.int i)] [.int i, .ref 2, .int (X.2 (i + (1 : Int32)).toNatClampNeg), .ref (43 + 3)] _ _ from ?_)
  refine zy_3 rfl rfl (show zyR _ _ _ _ [some (.ref 2), some (.ref (0 + 3)), some (.ref (43 + 3)), some (.int i)] [.int (2 : Int32), .int i, .ref 2, .int (X.2 (i + (1 : Int32)).toNatClampNeg), .ref (43 + 3)] _ _ from ?_)
  refine zy_10 rfl (show zyR _ _ _ _ [some (.ref 2), some (.ref (0 + 3)), some (.ref (43 + 3)), some (.int i)] [.int (i + (2 : Int32)), .ref 2, .int (X.2 (i + (1 : Int32)).toNatClampNeg), .ref (43 + 3)] _ _ from ?_)
  refine zy_26s rfl (zl_in hX i0 i6 (by decide) (by decide)) (show zyR _ _ _ _ [some (.ref 2), some (.ref (0 + 3)), some (.ref (43 + 3)), some (.int i)] [.int (X.2 (i + (2 : Int32)).toNatClampNeg), .int (X.2 (i + (1 : Int32)).toNatClampNeg), .ref (43 + 3)] _ _ from ?_)
  refine zy_0 rfl rfl (show zyR _ _ _ _ [some (.ref 2), some (.ref (0 + 3)), some (.ref (43 + 3)), some (.int i)] [.ref 2, .int (X.2 (i + (2 : Int32)).toNatClampNeg), .int (X.2 (i + (1 : Int32)).toNatClampNeg), .ref (43 + 3)] _ _ from ?_)
  refine zy_2 rfl rfl (show zyR _ _ _ _ [some (.ref 2), some (.ref (0 + 3)), some (.ref (43 + 3)), some (.int i)] [.int i, .ref 2, .int (X.2 (i + (2 : Int32)).toNatClampNeg), .int (X.2 (i + (1 : Int32)).toNatClampNeg), .ref (43 + 3)] _ _ from ?_)
  refine zy_3 rfl rfl (show zyR _ _ _ _ [some (.ref 2), some (.ref (0 + 3)), some (.ref (43 + 3)), some (.int i)] [.int (3 : Int32), .int i, .ref 2, .int (X.2 (i + (2 : Int32)).toNatClampNeg), .int (X.2 (i + (1 : Int32)).toNatClampNeg), .ref (43 + 3)] _ _ from ?_)
  refine zy_10 rfl (show zyR _ _ _ _ [some (.ref 2), some (.ref (0 + 3)), some (.ref (43 + 3)), some (.int i)] [.int (i + (3 : Int32)), .ref 2, .int (X.2 (i + (2 : Int32)).toNatClampNeg), .int (X.2 (i + (1 : Int32)).toNatClampNeg), .ref (43 + 3)] _ _ from ?_)
  refine zy_26s rfl (zl_in hX i0 i6 (by decide) (by decide)) (show zyR _ _ _ _ [some (.ref 2), some (.ref (0 + 3)), some (.ref (43 + 3)), some (.int i)] [.int (X.2 (i + (3 : Int32)).toNatClampNeg), .int (X.2 (i + (2 : Int32)).toNatClampNeg), .int (X.2 (i + (1 : Int32)).toNatClampNeg), .ref (43 + 3)] _ _ from ?_)
  refine zy_0 rfl rfl (show zyR _ _ _ _ [some (.ref 2), some (.ref (0 + 3)), some (.ref (43 + 3)), some (.int i)] [.ref 2, .int (X.2 (i + (3 : Int32)).toNatClampNeg), .int (X.2 (i + (2 : Int32)).toNatClampNeg), .int (X.2 (i + (1 : Int32)).toNatClampNeg), .ref (43 + 3)] _ _ from ?_)
  refine zy_2 rfl rfl (show zyR _ _ _ _ [some (.ref 2), some (.ref (0 + 3)), some (.ref (43 + 3)), some (.int i)] [.int i, .ref 2, .int (X.2 (i + (3 : Int32)).toNatClampNeg), .int (X.2 (i + (2 : Int32)).toNatClampNeg), .int (X.2 (i + (1 : Int32)).toNatClampNeg), .ref (43 + 3)] _ _ from ?_)
  refine zy_3 rfl rfl (show zyR _ _ _ _ [some (.ref 2), some (.ref (0 + 3)), some (.ref (43 + 3)), some (.int i)] [.int (4 : Int32), .int i, .ref 2, .int (X.2 (i + (3 : Int32)).toNatClampNeg), .int (X.2 (i + (2 : Int32)).toNatClampNeg), .int (X.2 (i + (1 : Int32)).toNatClampNeg), .ref (43 + 3)] _ _ from ?_)
  refine zy_10 rfl (show zyR _ _ _ _ [some (.ref 2), some (.ref (0 + 3)), some (.ref (43 + 3)), some (.int i)] [.int (i + (4 : Int32)), .ref 2, .int (X.2 (i + (3 : Int32)).toNatClampNeg), .int (X.2 (i + (2 : Int32)).toNatClampNeg), .int (X.2 (i + (1 : Int32)).toNatClampNeg), .ref (43 + 3)] _ _ from ?_)
  refine zy_26s rfl (zl_in hX i0 i6 (by decide) (by decide)) (show zyR _ _ _ _ [some (.ref 2), some (.ref (0 + 3)), some (.ref (43 + 3)), some (.int i)] [.int (X.2 (i + (4 : Int32)).toNatClampNeg), .int (X.2 (i + (3 : Int32)).toNatClampNeg), .int (X.2 (i + (2 : Int32)).toNatClampNeg), .int (X.2 (i + (1 : Int32)).toNatClampNeg), .ref (43 + 3)] _ _ from ?_)
  refine zy_0 rfl rfl (show zyR _ _ _ _ [some (.ref 2), some (.ref (0 + 3)), some (.ref (43 + 3)), some (.int i)] [.ref 2, .int (X.2 (i + (4 : Int32)).toNatClampNeg), .int (X.2 (i + (3 : Int32)).toNatClampNeg), .int (X.2 (i + (2 : Int32)).toNatClampNeg), .int (X.2 (i + (1 : Int32)).toNatClampNeg), .ref (43 + 3)] _ _ from ?_)
  refine zy_2 rfl rfl (show zyR _ _ _ _ [some (.ref 2), some (.ref (0 + 3)), some (.ref (43 + 3)), some (.int i)] [.int i, .ref 2, .int (X.2 (i + (4 : Int32)).toNatClampNeg), .int (X.2 (i + (3 : Int32)).toNatClampNeg), .int (X.2 (i + (2 : Int32)).toNatClampNeg), .int (X.2 (i + (1 : Int32)).toNatClampNeg), .ref (43 + 3)] _ _ from ?_)
  refine zy_3 rfl rfl (show zyR _ _ _ _ [some (.ref 2), some (.ref (0 + 3)), some (.ref (43 + 3)), some (.int i)] [.int (5 : Int32), .int i, .ref 2, .int (X.2 (i + (4 : Int32)).toNatClampNeg), .int (X.2 (i + (3 : Int32)).toNatClampNeg), .int (X.2 (i + (2 : Int32)).toNatClampNeg), .int (X.2 (i + (1 : Int32)).toNatClampNeg), .ref (43 + 3)] _ _ from ?_)
  refine zy_10 rfl (show zyR _ _ _ _ [some (.ref 2), some (.ref (0 + 3)), some (.ref (43 + 3)), some (.int i)] [.int (i + (5 : Int32)), .ref 2, .int (X.2 (i + (4 : Int32)).toNatClampNeg), .int (X.2 (i + (3 : Int32)).toNatClampNeg), .int (X.2 (i + (2 : Int32)).toNatClampNeg), .int (X.2 (i + (1 : Int32)).toNatClampNeg), .ref (43 + 3)] _ _ from ?_)
  refine zy_26s rfl (zl_in hX i0 i6 (by decide) (by decide)) (show zyR _ _ _ _ [some (.ref 2), some (.ref (0 + 3)), some (.ref (43 + 3)), some (.int i)] [.int (X.2 (i + (5 : Int32)).toNatClampNeg), .int (X.2 (i + (4 : Int32)).toNatClampNeg), .int (X.2 (i + (3 : Int32)).toNatClampNeg), .int (X.2 (i + (2 : Int32)).toNatClampNeg), .int (X.2 (i + (1 : Int32)).toNatClampNeg), .ref (43 + 3)] _ _ from ?_)
  refine zy_5 (c := 43) (as := [.int (X.2 (i + (1 : Int32)).toNatClampNeg), .int (X.2 (i + (2 : Int32)).toNatClampNeg), .int (X.2 (i + (3 : Int32)).toNatClampNeg), .int (X.2 (i + (4 : Int32)).toNatClampNeg), .int (X.2 (i + (5 : Int32)).toNatClampNeg)]) (rest := []) (L := [some (.ref (43 + 3)), some (.int (X.2 (i + (1 : Int32)).toNatClampNeg)), some (.int (X.2 (i + (2 : Int32)).toNatClampNeg)), some (.int (X.2 (i + (3 : Int32)).toNatClampNeg)), some (.int (X.2 (i + (4 : Int32)).toNatClampNeg)), some (.int (X.2 (i + (5 : Int32)).toNatClampNeg)), none]) (d' := 3) rfl rfl rfl (Nat.le_of_ble_eq_true rfl) (Nat.le_of_ble_eq_true rfl) rfl (Nat.le_of_ble_eq_true rfl) rfl rfl (zyC262 f2) ?_
  show zyR _ _ _ _ [some (.ref 2), some (.ref (0 + 3)), some (.ref (43 + 3)), some (.int i)] [.int r] _ _
  refine zy_34 rfl rfl (show zyR _ _ _ _ [some (.ref 2), some (.ref (0 + 3)), some (.ref (43 + 3)), some (.int i)] [] _ _ from ?_)
  exact zy_6 rfl (k _ hI)
theorem zlc_39 {X : zx_X} {i : Int32} {s : zy_S} {P : Option Value → zy_S → Prop} (hX : X.1 ≤ 3072) (i0 : 0 ≤ i.toInt) (i6 : i.toInt + 6 ≤ X.1) (h : zI s) (k : ∀ t, zI t → zyR X 2000 0 1435 [some (.ref 2), some (.ref (0 + 3)), some (.ref (43 + 3)), some (.int i)] [] t P) : zyR X 2000 0 1379 [some (.ref 2), some (.ref (0 + 3)), some (.ref (43 + 3)), some (.int i)] [] s P := by
  obtain ⟨r, s1, s2, f1, f2, hI⟩ := zop_taken ((X.2 (i + (1 : Int32)).toNatClampNeg)) ((X.2 (i + (2 : Int32)).toNatClampNeg)) h
  refine zy_0 rfl rfl (show zyR _ _ _ _ [some (.ref 2), some (.ref (0 + 3)), some (.ref (43 + 3)), some (.int i)] [.ref (0 + 3)] _ _ from ?_)
  refine zy_0 rfl rfl (show zyR _ _ _ _ [some (.ref 2), some (.ref (0 + 3)), some (.ref (43 + 3)), some (.int i)] [.ref 2, .ref (0 + 3)] _ _ from ?_)
  refine zy_2 rfl rfl (show zyR _ _ _ _ [some (.ref 2), some (.ref (0 + 3)), some (.ref (43 + 3)), some (.int i)] [.int i, .ref 2, .ref (0 + 3)] _ _ from ?_)
  refine zy_3 rfl rfl (show zyR _ _ _ _ [some (.ref 2), some (.ref (0 + 3)), some (.ref (43 + 3)), some (.int i)] [.int (1 : Int32), .int i, .ref 2, .ref (0 + 3)] _ _ from ?_)
  refine zy_10 rfl (show zyR _ _ _ _ [some (.ref 2), some (.ref (0 + 3)), some (.ref (43 + 3)), some (.int i)] [.int (i + (1 : Int32)), .ref 2, .ref (0 + 3)] _ _ from ?_)
  refine zy_26s rfl (zl_in hX i0 i6 (by decide) (by decide)) (show zyR _ _ _ _ [some (.ref 2), some (.ref (0 + 3)), some (.ref (43 + 3)), some (.int i)] [.int (X.2 (i + (1 : Int32)).toNatClampNeg), .ref (0 + 3)] _ _ from ?_)
  refine zy_0 rfl rfl (show zyR _ _ _ _ [some (.ref 2), some (.ref (0 + 3)), some (.ref (43 + 3)), some (.int i)] [.ref 2, .int (X.2 (i + (1 : Int32)).toNatClampNeg), .ref (0 + 3)] _ _ from ?_)
  refine zy_2 rfl rfl (show zyR _ _ _ _ [some (.ref 2), some (.ref (0 + 3)), some (.ref (43 + 3)), some (.int i)] [.int i, .ref 2, .int (X.2 (i + (1 : Int32)).toNatClampNeg), .ref (0 + 3)] _ _ from ?_)
  refine zy_3 rfl rfl (show zyR _ _ _ _ [some (.ref 2), some (.ref (0 + 3)), some (.ref (43 + 3)), some (.int i)] [.int (2 : Int32), .int i, .ref 2, .int (X.2 (i + (1 : Int32)).toNatClampNeg), .ref (0 + 3)] _ _ from ?_)
  refine zy_10 rfl (show zyR _ _ _ _ [some (.ref 2), some (.ref (0 + 3)), some (.ref (43 + 3)), some (.int i)] [.int (i + (2 : Int32)), .ref 2, .int (X.2 (i + (1 : Int32)).toNatClampNeg), .ref (0 + 3)] _ _ from ?_)
  refine zy_26s rfl (zl_in hX i0 i6 (by decide) (by decide)) (show zyR _ _ _ _ [some (.ref 2), some (.ref (0 + 3)), some (.ref (43 + 3)), some (.int i)] [.int (X.2 (i + (2 : Int32)).toNatClampNeg), .int (X.2 (i + (1 : Int32)).toNatClampNeg), .ref (0 + 3)] _ _ from ?_)
  refine zy_5 (c := 0) (as := [.int (X.2 (i + (1 : Int32)).toNatClampNeg), .int (X.2 (i + (2 : Int32)).toNatClampNeg)]) (rest := []) (L := [some (.ref (0 + 3)), some (.int (X.2 (i + (1 : Int32)).toNatClampNeg)), some (.int (X.2 (i + (2 : Int32)).toNatClampNeg)), none]) (d' := 3) rfl rfl rfl (Nat.le_of_ble_eq_true rfl) (Nat.le_of_ble_eq_true rfl) rfl (Nat.le_of_ble_eq_true rfl) rfl rfl (zyC172 f1) ?_
  show zyR _ _ _ _ [some (.ref 2), some (.ref (0 + 3)), some (.ref (43 + 3)), some (.int i)] [.int r] _ _
  refine zy_34 rfl rfl (show zyR _ _ _ _ [some (.ref 2), some (.ref (0 + 3)), some (.ref (43 + 3)), some (.int i)] [] _ _ from ?_)
  refine zy_0 rfl rfl (show zyR _ _ _ _ [some (.ref 2), some (.ref (0 + 3)), some (.ref (43 + 3)), some (.int i)] [.ref (43 + 3)] _ _ from ?_)
  refine zy_0 rfl rfl (show zyR _ _ _ _ [some (.ref 2), some (.ref (0 + 3)), some (.ref (43 + 3)), some (.int i)] [.ref 2, .ref (43 + 3)] _ _ from ?_)
  refine zy_2 rfl rfl (show zyR _ _ _ _ [some (.ref 2), some (.ref (0 + 3)), some (.ref (43 + 3)), some (.int i)] [.int i, .ref 2, .ref (43 + 3)] _ _ from ?_)
  refine zy_3 rfl rfl (show zyR _ _ _ _ [some (.ref 2), some (.ref (0 + 3)), some (.ref (43 + 3)), some (.int i)] [.int (1 : Int32), .int i, .ref 2, .ref (43 + 3)] _ _ from ?_)
  refine zy_10 rfl (show zyR _ _ _ _ [some (.ref 2), some (.ref (0 + 3)), some (.ref (43 + 3)), some (.int i)] [.int (i + (1 : Int32)), .ref 2, .ref (43 + 3)] _ _ from ?_)
  refine zy_26s rfl (zl_in hX i0 i6 (by decide) (by decide)) (show zyR _ _ _ _ [some (.ref 2), some (.ref (0 + 3)), some (.ref (43 + 3)), some (.int i)] [.int (X.2 (i + (1 : Int32)).toNatClampNeg), .ref (43 + 3)] _ _ from ?_)
  refine zy_0 rfl rfl (show zyR _ _ _ _ [some (.ref 2), some (.ref (0 + 3)), some (.ref (43 + 3)), some (.int i)] [.ref 2, .int (X.2 (i + (1 : Int32)).toNatClampNeg), .ref (43 + 3)] _ _ from ?_)
  refine zy_2 rfl rfl (show zyR _ _ _ _ [some (.ref 2), some (.ref (0 + 3)), some (.ref (43 + 3)), some (.int i)] [.int i, .ref 2, .int (X.2 (i + (1 : Int32)).toNatClampNeg), .ref (43 + 3)] _ _ from ?_)
  refine zy_3 rfl rfl (show zyR _ _ _ _ [some (.ref 2), some (.ref (0 + 3)), some (.ref (43 + 3)), some (.int i)] [.int (2 : Int32), .int i, .ref 2, .int (X.2 (i + (1 : Int32)).toNatClampNeg), .ref (43 + 3)] _ _ from ?_)
  refine zy_10 rfl (show zyR _ _ _ _ [some (.ref 2), some (.ref (0 + 3)), some (.ref (43 + 3)), some (.int i)] [.int (i + (2 : Int32)), .ref 2, .int (X.2 (i + (1 : Int32)).toNatClampNeg), .ref (43 + 3)] _ _ from ?_)
  refine zy_26s rfl (zl_in hX i0 i6 (by decide) (by decide)) (show zyR _ _ _ _ [some (.ref 2), some (.ref (0 + 3)), some (.ref (43 + 3)), some (.int i)] [.int (X.2 (i + (2 : Int32)).toNatClampNeg), .int (X.2 (i + (1 : Int32)).toNatClampNeg), .ref (43 + 3)] _ _ from ?_)
  refine zy_5 (c := 43) (as := [.int (X.2 (i + (1 : Int32)).toNatClampNeg), .int (X.2 (i + (2 : Int32)).toNatClampNeg)]) (rest := []) (L := [some (.ref (43 + 3)), some (.int (X.2 (i + (1 : Int32)).toNatClampNeg)), some (.int (X.2 (i + (2 : Int32)).toNatClampNeg)), none]) (d' := 3) rfl rfl rfl (Nat.le_of_ble_eq_true rfl) (Nat.le_of_ble_eq_true rfl) rfl (Nat.le_of_ble_eq_true rfl) rfl rfl (zyC263 f2) ?_
  show zyR _ _ _ _ [some (.ref 2), some (.ref (0 + 3)), some (.ref (43 + 3)), some (.int i)] [.int r] _ _
  refine zy_34 rfl rfl (show zyR _ _ _ _ [some (.ref 2), some (.ref (0 + 3)), some (.ref (43 + 3)), some (.int i)] [] _ _ from ?_)
  exact zy_6 rfl (k _ hI)
theorem zlc_40 {X : zx_X} {i : Int32} {s : zy_S} {P : Option Value → zy_S → Prop} (hX : X.1 ≤ 3072) (i0 : 0 ≤ i.toInt) (i6 : i.toInt + 6 ≤ X.1) (h : zI s) (k : ∀ t, zI t → zyR X 2000 0 1435 [some (.ref 2), some (.ref (0 + 3)), some (.ref (43 + 3)), some (.int i)] [] t P) : zyR X 2000 0 1412 [some (.ref 2), some (.ref (0 + 3)), some (.ref (43 + 3)), some (.int i)] [] s P := by
  obtain ⟨r, s1, s2, f1, f2, hI⟩ := zop_count ((X.2 (i + (1 : Int32)).toNatClampNeg)) h
  refine zy_0 rfl rfl (show zyR _ _ _ _ [some (.ref 2), some (.ref (0 + 3)), some (.ref (43 + 3)), some (.int i)] [.ref (0 + 3)] _ _ from ?_)
  refine zy_0 rfl rfl (show zyR _ _ _ _ [some (.ref 2), some (.ref (0 + 3)), some (.ref (43 + 3)), some (.int i)] [.ref 2, .ref (0 + 3)] _ _ from ?_)
  refine zy_2 rfl rfl (show zyR _ _ _ _ [some (.ref 2), some (.ref (0 + 3)), some (.ref (43 + 3)), some (.int i)] [.int i, .ref 2, .ref (0 + 3)] _ _ from ?_)
  refine zy_3 rfl rfl (show zyR _ _ _ _ [some (.ref 2), some (.ref (0 + 3)), some (.ref (43 + 3)), some (.int i)] [.int (1 : Int32), .int i, .ref 2, .ref (0 + 3)] _ _ from ?_)
  refine zy_10 rfl (show zyR _ _ _ _ [some (.ref 2), some (.ref (0 + 3)), some (.ref (43 + 3)), some (.int i)] [.int (i + (1 : Int32)), .ref 2, .ref (0 + 3)] _ _ from ?_)
  refine zy_26s rfl (zl_in hX i0 i6 (by decide) (by decide)) (show zyR _ _ _ _ [some (.ref 2), some (.ref (0 + 3)), some (.ref (43 + 3)), some (.int i)] [.int (X.2 (i + (1 : Int32)).toNatClampNeg), .ref (0 + 3)] _ _ from ?_)
  refine zy_5 (c := 0) (as := [.int (X.2 (i + (1 : Int32)).toNatClampNeg)]) (rest := []) (L := [some (.ref (0 + 3)), some (.int (X.2 (i + (1 : Int32)).toNatClampNeg))]) (d' := 3) rfl rfl rfl (Nat.le_of_ble_eq_true rfl) (Nat.le_of_ble_eq_true rfl) rfl (Nat.le_of_ble_eq_true rfl) rfl rfl (zyC174 f1) ?_
  show zyR _ _ _ _ [some (.ref 2), some (.ref (0 + 3)), some (.ref (43 + 3)), some (.int i)] [.int r] _ _
  refine zy_34 rfl rfl (show zyR _ _ _ _ [some (.ref 2), some (.ref (0 + 3)), some (.ref (43 + 3)), some (.int i)] [] _ _ from ?_)
  refine zy_0 rfl rfl (show zyR _ _ _ _ [some (.ref 2), some (.ref (0 + 3)), some (.ref (43 + 3)), some (.int i)] [.ref (43 + 3)] _ _ from ?_)
  refine zy_0 rfl rfl (show zyR _ _ _ _ [some (.ref 2), some (.ref (0 + 3)), some (.ref (43 + 3)), some (.int i)] [.ref 2, .ref (43 + 3)] _ _ from ?_)
  refine zy_2 rfl rfl (show zyR _ _ _ _ [some (.ref 2), some (.ref (0 + 3)), some (.ref (43 + 3)), some (.int i)] [.int i, .ref 2, .ref (43 + 3)] _ _ from ?_)
  refine zy_3 rfl rfl (show zyR _ _ _ _ [some (.ref 2), some (.ref (0 + 3)), some (.ref (43 + 3)), some (.int i)] [.int (1 : Int32), .int i, .ref 2, .ref (43 + 3)] _ _ from ?_)
  refine zy_10 rfl (show zyR _ _ _ _ [some (.ref 2), some (.ref (0 + 3)), some (.ref (43 + 3)), some (.int i)] [.int (i + (1 : Int32)), .ref 2, .ref (43 + 3)] _ _ from ?_)
  refine zy_26s rfl (zl_in hX i0 i6 (by decide) (by decide)) (show zyR _ _ _ _ [some (.ref 2), some (.ref (0 + 3)), some (.ref (43 + 3)), some (.int i)] [.int (X.2 (i + (1 : Int32)).toNatClampNeg), .ref (43 + 3)] _ _ from ?_)
  refine zy_5 (c := 43) (as := [.int (X.2 (i + (1 : Int32)).toNatClampNeg)]) (rest := []) (L := [some (.ref (43 + 3)), some (.int (X.2 (i + (1 : Int32)).toNatClampNeg))]) (d' := 2) rfl rfl rfl (Nat.le_of_ble_eq_true rfl) (Nat.le_of_ble_eq_true rfl) rfl (Nat.le_of_ble_eq_true rfl) rfl rfl (zyC266 f2) ?_
  show zyR _ _ _ _ [some (.ref 2), some (.ref (0 + 3)), some (.ref (43 + 3)), some (.int i)] [.int r] _ _
  refine zy_34 rfl rfl (show zyR _ _ _ _ [some (.ref 2), some (.ref (0 + 3)), some (.ref (43 + 3)), some (.int i)] [] _ _ from ?_)
  exact zy_6 rfl (k _ hI)
end
section
/-! PART 48.3: the law from its start. Made by wip/v4/gen_law.py. -/
theorem zl_27 {X : zx_X} {i : Int32} {s : zy_S} {P : Option Value → zy_S → Prop} (hX : X.1 ≤ 3072) (i0 : 0 ≤ i.toInt) (i6 : i.toInt + 6 ≤ X.1) (h : zI s) (k : ∀ t, zI t → zyR X 2000 0 1435 [some (.ref 2), some (.ref (0 + 3)), some (.ref (43 + 3)), some (.int i)] [] t P) : zyR X 2000 0 27 [some (.ref 2), some (.ref (0 + 3)), some (.ref (43 + 3)), some (.int i)] [] s P := by
  refine zy_0 rfl rfl (show zyR _ _ _ _ [some (.ref 2), some (.ref (0 + 3)), some (.ref (43 + 3)), some (.int i)] [.ref 2] _ _ from ?_)
  refine zy_2 rfl rfl (show zyR _ _ _ _ [some (.ref 2), some (.ref (0 + 3)), some (.ref (43 + 3)), some (.int i)] [.int i, .ref 2] _ _ from ?_)
  refine zy_26s rfl (zq_in.mpr ⟨i0, by omega⟩) (show zyR _ _ _ _ [some (.ref 2), some (.ref (0 + 3)), some (.ref (43 + 3)), some (.int i)] [.int (X.2 i.toNatClampNeg)] _ _ from ?_)
  refine zy_3 rfl rfl (show zyR _ _ _ _ [some (.ref 2), some (.ref (0 + 3)), some (.ref (43 + 3)), some (.int i)] [.int (63 : Int32), .int (X.2 i.toNatClampNeg)] _ _ from ?_)
  refine zy_13 rfl (show zyR _ _ _ _ [some (.ref 2), some (.ref (0 + 3)), some (.ref (43 + 3)), some (.int i)] [.int ((X.2 i.toNatClampNeg) &&& (63 : Int32))] _ _ from ?_)
  refine zy_50 rfl (by decide) ?_
  refine zy_swp (fun _ => zlc_0 hX i0 i6 h k) (fun _ => ?_)
  refine zy_swp (fun _ => zlc_1 hX i0 i6 h k) (fun _ => ?_)
  refine zy_swp (fun _ => zlc_2 hX i0 i6 h k) (fun _ => ?_)
  refine zy_swp (fun _ => zlc_3 hX i0 i6 h k) (fun _ => ?_)
  refine zy_swp (fun _ => zlc_4 hX i0 i6 h k) (fun _ => ?_)
  refine zy_swp (fun _ => zlc_5 hX i0 i6 h k) (fun _ => ?_)
  refine zy_swp (fun _ => zlc_6 hX i0 i6 h k) (fun _ => ?_)
  refine zy_swp (fun _ => zlc_7 hX i0 i6 h k) (fun _ => ?_)
  refine zy_swp (fun _ => zlc_8 hX i0 i6 h k) (fun _ => ?_)
  refine zy_swp (fun _ => zlc_9 hX i0 i6 h k) (fun _ => ?_)
  refine zy_swp (fun _ => zlc_10 hX i0 i6 h k) (fun _ => ?_)
  refine zy_swp (fun _ => zlc_11 hX i0 i6 h k) (fun _ => ?_)
  refine zy_swp (fun _ => zlc_12 hX i0 i6 h k) (fun _ => ?_)
  refine zy_swp (fun _ => zlc_13 hX i0 i6 h k) (fun _ => ?_)
  refine zy_swp (fun _ => zlc_14 hX i0 i6 h k) (fun _ => ?_)
  refine zy_swp (fun _ => zlc_15 hX i0 i6 h k) (fun _ => ?_)
  refine zy_swp (fun _ => zlc_16 hX i0 i6 h k) (fun _ => ?_)
  refine zy_swp (fun _ => zlc_17 hX i0 i6 h k) (fun _ => ?_)
  refine zy_swp (fun _ => zlc_18 hX i0 i6 h k) (fun _ => ?_)
  refine zy_swp (fun _ => zlc_19 hX i0 i6 h k) (fun _ => ?_)
  refine zy_swp (fun _ => zlc_20 hX i0 i6 h k) (fun _ => ?_)
  refine zy_swp (fun _ => zlc_21 hX i0 i6 h k) (fun _ => ?_)
  refine zy_swp (fun _ => zlc_22 hX i0 i6 h k) (fun _ => ?_)
  refine zy_swp (fun _ => zlc_23 hX i0 i6 h k) (fun _ => ?_)
  refine zy_swp (fun _ => zlc_24 hX i0 i6 h k) (fun _ => ?_)
  refine zy_swp (fun _ => zlc_25 hX i0 i6 h k) (fun _ => ?_)
  refine zy_swp (fun _ => zlc_26 hX i0 i6 h k) (fun _ => ?_)
  refine zy_swp (fun _ => zlc_27 hX i0 i6 h k) (fun _ => ?_)
  refine zy_swp (fun _ => zlc_28 hX i0 i6 h k) (fun _ => ?_)
  refine zy_swp (fun _ => zlc_29 hX i0 i6 h k) (fun _ => ?_)
  refine zy_swp (fun _ => zlc_30 hX i0 i6 h k) (fun _ => ?_)
  refine zy_swp (fun _ => zlc_31 hX i0 i6 h k) (fun _ => ?_)
  refine zy_swp (fun _ => zlc_32 hX i0 i6 h k) (fun _ => ?_)
  refine zy_swp (fun _ => zlc_33 hX i0 i6 h k) (fun _ => ?_)
  refine zy_swp (fun _ => zlc_34 hX i0 i6 h k) (fun _ => ?_)
  refine zy_swp (fun _ => zlc_35 hX i0 i6 h k) (fun _ => ?_)
  refine zy_swp (fun _ => zlc_36 hX i0 i6 h k) (fun _ => ?_)
  refine zy_swp (fun _ => zlc_37 hX i0 i6 h k) (fun _ => ?_)
  refine zy_swp (fun _ => zlc_38 hX i0 i6 h k) (fun _ => ?_)
  refine zy_swp (fun _ => zlc_39 hX i0 i6 h k) (fun _ => ?_)
  refine zy_swp (fun _ => zlc_40 hX i0 i6 h k) (fun _ => ?_)
  exact k _ h
theorem zl_18 {X : zx_X} (hX : X.1 ≤ 3072) : ∀ (N : Nat) (i : Int32) (s : zy_S), zI s → 0 ≤ i.toInt → i.toInt ≤ X.1 → (X.1 : Int) - i.toInt < N → zyR X 2000 0 18 [some (.ref 2), some (.ref (0 + 3)), some (.ref (43 + 3)), some (.int i)] [] s zlP
  | 0, i, s, h, i0, i1, hN => by omega
  | N + 1, i, s, h, i0, i1, hN => by
    have hL : (Int32.ofNat X.1).toInt = (X.1 : Int) := zN_toInt (by omega)
    have h6 : (Int32.ofNat X.1 - (6 : Int32)).toInt = (X.1 : Int) - 6 := by rw [zq_sub (by rw [hL, zq_l6]; omega) (by rw [hL, zq_l6]; omega), hL, zq_l6]
    refine zy_2 rfl rfl (show zyR _ _ _ _ [some (.ref 2), some (.ref (0 + 3)), some (.ref (43 + 3)), some (.int i)] [.int i] _ _ from ?_)
    refine zy_0 rfl rfl (show zyR _ _ _ _ [some (.ref 2), some (.ref (0 + 3)), some (.ref (43 + 3)), some (.int i)] [.ref 2, .int i] _ _ from ?_)
    refine zy_32s rfl (show zyR _ _ _ _ [some (.ref 2), some (.ref (0 + 3)), some (.ref (43 + 3)), some (.int i)] [.int (Int32.ofNat X.1), .int i] _ _ from ?_)
    refine zy_3 rfl rfl (show zyR _ _ _ _ [some (.ref 2), some (.ref (0 + 3)), some (.ref (43 + 3)), some (.int i)] [.int (6 : Int32), .int (Int32.ofNat X.1), .int i] _ _ from ?_)
    refine zy_11 rfl (show zyR _ _ _ _ [some (.ref 2), some (.ref (0 + 3)), some (.ref (43 + 3)), some (.int i)] [.int ((Int32.ofNat X.1) - (6 : Int32)), .int i] _ _ from ?_)
    refine zy_25_4 rfl (fun c => (show zyR _ _ _ _ [some (.ref 2), some (.ref (0 + 3)), some (.ref (43 + 3)), some (.int i)] [] _ _ from ?_)) (fun c => (show zyR _ _ _ _ [some (.ref 2), some (.ref (0 + 3)), some (.ref (43 + 3)), some (.int i)] [] _ _ from ?_))
    · refine zy_3 rfl rfl (show zyR _ _ _ _ [some (.ref 2), some (.ref (0 + 3)), some (.ref (43 + 3)), some (.int i)] [.int (1 : Int32)] _ _ from ?_)
      exact zy_4b rfl rfl (Or.inr rfl)
    · have i6 : i.toInt + 6 ≤ X.1 := by
        rw [Int32.lt_iff_toInt_lt, h6] at c
        omega
      refine zl_27 hX i0 i6 h (fun t ht => ?_)
      refine zy_22 rfl rfl rfl rfl (show zyR _ _ _ _ [some (.ref 2), some (.ref (0 + 3)), some (.ref (43 + 3)), some (.int (i + (6 : Int32)))] [] _ _ from ?_)
      refine zy_6 rfl (show zyR _ _ _ _ [some (.ref 2), some (.ref (0 + 3)), some (.ref (43 + 3)), some (.int (i + (6 : Int32)))] [] _ _ from ?_)
      have e6 : (i + (6 : Int32)).toInt = i.toInt + 6 := by rw [zq_add (by rw [zq_l6]; omega) (by rw [zq_l6]; omega), zq_l6]
      exact zl_18 hX N (i + (6 : Int32)) t ht (by omega) (by omega) (by omega)
def zQ1 (v : Option Value) (_ : List z_C) : Prop := v = some (.int 1)
def zstL : zA_L := [(3, (1, 0)), (2, (2, 46)), (1, (2, 3)), (0, (2, 2))]
def zst0 (t : zA_T) : Bool := zHeq t.2.1 zH0 && (zmL t.1 [(0, 0)] t.2.2.1 zstL && (t.2.2.2.1.isEmpty && decide (t.2.2.2.2 = (64, 4062))))
def zcut0 (m d pc : Nat) (t : zA_T) (stk : List zA_F) : Bool := match stk with
  | _ :: _ => false
  | [] => Nat.beq pc 18 && (Nat.beq m 0 && (Nat.beq d 2000 && zst0 t))
theorem zst0_g {l : Launch} {X : zx_X} (hX : X.1 ≤ 3072) {s : zy_S} {t : zA_T} (h : zst0 t = true) : zGd l X 2000000 (zy_hp s) zPt zQ1 0 2000 18 t [] := by
  intro ρ ph lv st cst hp g gs
  cases cst with
  | cons a b => exact gs.elim
  | nil =>
    obtain ⟨g1, g2, g3, g4, g5⟩ := g
    unfold zst0 at h
    obtain ⟨h1, q1⟩ := zw_and h
    obtain ⟨h2, q2⟩ := zw_and q1
    obtain ⟨h3, h4⟩ := zw_and q2
    have h4 := of_decide_eq_true h4
    have e1 : t.2.2.2.1 = [] := List.isEmpty_iff.mp h3
    rw [e1] at g4
    have hst := zL2.nil1 g4
    subst hst
    rw [zHeq_eq h1] at g2
    obtain ⟨e, kk⟩ := zs_back zsA_all g2
    have hI := zI_start kk (zb_W (H := zH0) rfl g2)
    obtain ⟨lv0, gl, hm0⟩ := zmL_g (σ := [(0, 0)]) (ρ' := [0]) g1 rfl g3 h2
    have hsub : ∀ q ∈ zy_lf 0 [some (.ref 2), some (.ref (0 + 3)), some (.ref (43 + 3)), some (.int (0 : Int32))], q ∈ lv0 := by
      match lv0, gl with
      | [(_, w3), (_, w2), (_, w1), (_, w0)], ⟨⟨rfl, k3⟩, ⟨rfl, k2⟩, ⟨rfl, k1⟩, ⟨rfl, k0⟩, _⟩ =>
        obtain ⟨y, rfl, ey⟩ := zg_int (a := (1, 0)) rfl k3
        have e0 : y = 0 := by
          rcases ey with ⟨q, -⟩ | ⟨-, q⟩
          · exact absurd q (by decide)
          · exact zq_ext (Option.some.inj q).symm
        have r2 := zg_ref (a := (2, 46)) rfl k2
        have r1 := zg_ref (a := (2, 3)) rfl k1
        have r0 := zg_ref (a := (2, 2)) rfl k0
        subst e0 r2 r1 r0
        intro q hq
        have hq : q ∈ [((0 : Nat), (Value.ref 2)), (1, .ref 3), (2, .ref 46), (3, .int 0)] := hq
        rcases List.mem_cons.mp hq with rfl | hq
        · exact List.mem_cons_of_mem _ (List.mem_cons_of_mem _ (List.mem_cons_of_mem _ List.mem_cons_self))
        rcases List.mem_cons.mp hq with rfl | hq
        · exact List.mem_cons_of_mem _ (List.mem_cons_of_mem _ List.mem_cons_self)
        rcases List.mem_cons.mp hq with rfl | hq
        · exact List.mem_cons_of_mem _ List.mem_cons_self
        rcases List.mem_cons.mp hq with rfl | hq
        · exact List.mem_cons_self
        · cases hq
    have k := zl_18 hX (X.1 + 1) 0 (zrdS ph) hI (by decide) (by show (0 : Int) ≤ X.1; omega) (by show (X.1 : Int) - 0 < _; omega) l zQ1 (fun v s' hv => hv)
    have k := ZW.lsub (fun q hq => hm0 q (hsub q hq)) k
    rw [← e] at k
    have h4 : t.2.2.2.2 = zmc 0 := h4
    show ZW l 2000 (zm 0) X (zmc 0).1 (zmc 0).2 zQ1 18 lv [] ph t.2.2.2.2.1 t.2.2.2.2.2
    rw [h4]
    exact k
theorem zcut0_g {l : Launch} {X : zx_X} (hX : X.1 ≤ 3072) {s : zy_S} : ∀ (m d pc : Nat) (t : zA_T) (stk : List zA_F), zcut0 m d pc t stk = true → zGd l X 2000000 (zy_hp s) zPt zQ1 m d pc t stk := by
  intro m d pc t stk h
  unfold zcut0 at h
  split at h
  · cases h
  · obtain ⟨h1, q1⟩ := zw_and h
    obtain ⟨h2, q2⟩ := zw_and q1
    obtain ⟨h3, h4⟩ := zw_and q2
    rw [Nat.eq_of_beq_eq_true h1, Nat.eq_of_beq_eq_true h2, Nat.eq_of_beq_eq_true h3]
    exact zst0_g hX h4
def zstE : zA_T := ([], [], [(0, (2, 2))], [], 0, 0)
theorem zl_r0 : zx1 2000000 znf zcut0 zon 60000 0 2000 0 zstE [] = true := by decide +kernel
theorem y_law0 : zm 0 = y_law := rfl
def zsD : zy_S := (fun _ _ => 0, fun _ _ => 0, fun _ => none)
theorem zlaw (l : Launch) (X : zx_X) (hX : X.1 ≤ 3072) : ZW l 2000 y_law X 64 4062 (fun v _ => v = some (.int 1)) 0 [(0, .ref 2)] [] [] 0 0 := by
  have h := zGd_run (l := l) (X := X) (XL := 2000000) (φ := zy_hp zsD) (Q0 := zQ1) (P := zPt) (fun _ _ _ h => h) (znf_ok _) (zOk_no l _ _ _ _) (zcut0_g hX) (by decide) zl_r0 [] [] [(0, .ref 2)] [] [] trivial ⟨trivial, trivial, ⟨⟨rfl, zg_ofR (i := 2)⟩, trivial⟩, trivial, zg_Xno _ _ _ (by decide) (by decide)⟩ trivial
  rw [← y_law0]
  exact h
end
