/-! PART 48.20: cases of the law. Made by wip/v4/gen_law.py. -/
theorem zlc_0 {X : zx_X} {i : Int32} {s : zy_S} {P : Option Value → zy_S → Prop} (hX : X.1 ≤ 3072) (i0 : 0 ≤ i.toInt) (i6 : i.toInt + 6 ≤ X.1) (h : zI s) (k : ∀ t, zI t → zyR X 2000 0 1435 [some (.ref 2), some (.ref (0 + 3)), some (.ref (43 + 3)), some (.int i)] [] t P) : zyR X 2000 0 212 [some (.ref 2), some (.ref (0 + 3)), some (.ref (43 + 3)), some (.int i)] [] s P := by
  obtain ⟨r, s1, s2, f1, f2, hI⟩ := zop_person ((X.2 (i + (1 : Int32)).toNatClampNeg)) h
  refine zy_0 rfl rfl (show zyR _ _ _ _ [some (.ref 2), some (.ref (0 + 3)), some (.ref (43 + 3)), some (.int i)] [.ref (0 + 3)] _ _ from ?_)
  refine zy_0 rfl rfl (show zyR _ _ _ _ [some (.ref 2), some (.ref (0 + 3)), some (.ref (43 + 3)), some (.int i)] [.ref 2, .ref (0 + 3)] _ _ from ?_)
  refine zy_2 rfl rfl (show zyR _ _ _ _ [some (.ref 2), some (.ref (0 + 3)), some (.ref (43 + 3)), some (.int i)] [.int i, .ref 2, .ref (0 + 3)] _ _ from ?_)
  refine zy_3 rfl rfl (show zyR _ _ _ _ [some (.ref 2), some (.ref (0 + 3)), some (.ref (43 + 3)), some (.int i)] [.int (1 : Int32), .int i, .ref 2, .ref (0 + 3)] _ _ from ?_)
  refine zy_10 rfl (show zyR _ _ _ _ [some (.ref 2), some (.ref (0 + 3)), some (.ref (43 + 3)), some (.int i)] [.int (i + (1 : Int32)), .ref 2, .ref (0 + 3)] _ _ from ?_)
  refine zy_26s rfl (zl_in hX i0 i6 (by decide) (by decide)) (show zyR _ _ _ _ [some (.ref 2), some (.ref (0 + 3)), some (.ref (43 + 3)), some (.int i)] [.int (X.2 (i + (1 : Int32)).toNatClampNeg), .ref (0 + 3)] _ _ from ?_)
  refine zy_5 (c := 0) (as := [.int (X.2 (i + (1 : Int32)).toNatClampNeg)]) (rest := []) (L := [some (.ref (0 + 3)), some (.int (X.2 (i + (1 : Int32)).toNatClampNeg))]) (d' := 2) rfl rfl rfl (Nat.le_of_ble_eq_true rfl) (Nat.le_of_ble_eq_true rfl) rfl (Nat.le_of_ble_eq_true rfl) rfl rfl (zyC13 f1) ?_
  show zyR _ _ _ _ [some (.ref 2), some (.ref (0 + 3)), some (.ref (43 + 3)), some (.int i)] [.int r] _ _
  refine zy_34 rfl rfl (show zyR _ _ _ _ [some (.ref 2), some (.ref (0 + 3)), some (.ref (43 + 3)), some (.int i)] [] _ _ from ?_)
  refine zy_0 rfl rfl (show zyR _ _ _ _ [some (.ref 2), some (.ref (0 + 3)), some (.ref (43 + 3)), some (.int i)] [.ref (43 + 3)] _ _ from ?_)
  refine zy_0 rfl rfl (show zyR _ _ _ _ [some (.ref 2), some (.ref (0 + 3)), some (.ref (43 + 3)), some (.int i)] [.ref 2, .ref (43 + 3)] _ _ from ?_)
  refine zy_2 rfl rfl (show zyR _ _ _ _ [some (.ref 2), some (.ref (0 + 3)), some (.ref (43 + 3)), some (.int i)] [.int i, .ref 2, .ref (43 + 3)] _ _ from ?_)
  refine zy_3 rfl rfl (show zyR _ _ _ _ [some (.ref 2), some (.ref (0 + 3)), some (.ref (43 + 3)), some (.int i)] [.int (1 : Int32), .int i, .ref 2, .ref (43 + 3)] _ _ from ?_)
  refine zy_10 rfl (show zyR _ _ _ _ [some (.ref 2), some (.ref (0 + 3)), some (.ref (43 + 3)), some (.int i)] [.int (i + (1 : Int32)), .ref 2, .ref (43 + 3)] _ _ from ?_)
  refine zy_26s rfl (zl_in hX i0 i6 (by decide) (by decide)) (show zyR _ _ _ _ [some (.ref 2), some (.ref (0 + 3)), some (.ref (43 + 3)), some (.int i)] [.int (X.2 (i + (1 : Int32)).toNatClampNeg), .ref (43 + 3)] _ _ from ?_)
  refine zy_5 (c := 43) (as := [.int (X.2 (i + (1 : Int32)).toNatClampNeg)]) (rest := []) (L := [some (.ref (43 + 3)), some (.int (X.2 (i + (1 : Int32)).toNatClampNeg))]) (d' := 2) rfl rfl rfl (Nat.le_of_ble_eq_true rfl) (Nat.le_of_ble_eq_true rfl) rfl (Nat.le_of_ble_eq_true rfl) rfl rfl (zyC178 f2) ?_
  show zyR _ _ _ _ [some (.ref 2), some (.ref (0 + 3)), some (.ref (43 + 3)), some (.int i)] [.int r] _ _
  refine zy_34 rfl rfl (show zyR _ _ _ _ [some (.ref 2), some (.ref (0 + 3)), some (.ref (43 + 3)), some (.int i)] [] _ _ from ?_)
  exact zy_6 rfl (k _ hI)
theorem zlc_1 {X : zx_X} {i : Int32} {s : zy_S} {P : Option Value → zy_S → Prop} (hX : X.1 ≤ 3072) (i0 : 0 ≤ i.toInt) (i6 : i.toInt + 6 ≤ X.1) (h : zI s) (k : ∀ t, zI t → zyR X 2000 0 1435 [some (.ref 2), some (.ref (0 + 3)), some (.ref (43 + 3)), some (.int i)] [] t P) : zyR X 2000 0 235 [some (.ref 2), some (.ref (0 + 3)), some (.ref (43 + 3)), some (.int i)] [] s P := by
  obtain ⟨r, s1, s2, f1, f2, hI⟩ := zop_people ((X.2 (i + (1 : Int32)).toNatClampNeg)) ((X.2 (i + (2 : Int32)).toNatClampNeg)) ((X.2 (i + (3 : Int32)).toNatClampNeg)) h
  refine zy_0 rfl rfl (show zyR _ _ _ _ [some (.ref 2), some (.ref (0 + 3)), some (.ref (43 + 3)), some (.int i)] [.ref (0 + 3)] _ _ from ?_)
  refine zy_0 rfl rfl (show zyR _ _ _ _ [some (.ref 2), some (.ref (0 + 3)), some (.ref (43 + 3)), some (.int i)] [.ref 2, .ref (0 + 3)] _ _ from ?_)
  refine zy_2 rfl rfl (show zyR _ _ _ _ [some (.ref 2), some (.ref (0 + 3)), some (.ref (43 + 3)), some (.int i)] [.int i, .ref 2, .ref (0 + 3)] _ _ from ?_)
  refine zy_3 rfl rfl (show zyR _ _ _ _ [some (.ref 2), some (.ref (0 + 3)), some (.ref (43 + 3)), some (.int i)] [.int (1 : Int32), .int i, .ref 2, .ref (0 + 3)] _ _ from ?_)
  refine zy_10 rfl (show zyR _ _ _ _ [some (.ref 2), some (.ref (0 + 3)), some (.ref (43 + 3)), some (.int i)] [.int (i + (1 : Int32)), .ref 2, .ref (0 + 3)] _ _ from ?_)
  refine zy_26s rfl (zl_in hX i0 i6 (by decide) (by decide)) (show zyR _ _ _ _ [some (.ref 2), some (.ref (0 + 3)), some (.ref (43 + 3)), some (.int i)] [.int (X.2 (i + (1 : Int32)).toNatClampNeg), .ref (0 + 3)] _ _ from ?_)
  refine zy_0 rfl rfl (show zyR _ _ _ _ [some (.ref 2), some (.ref (0 + 3)), some (.ref (43 + 3)), some (.int i)] [.ref 2, .int (X.2 (i + (1 : Int32)).toNatClampNeg), .ref (0 + 3)] _ _ from ?_)
  refine zy_2 rfl rfl (show zyR _ _ _ _ [some (.ref 2), some (.ref (0 + 3)), some (.ref (43 + 3)), some (.int i)] [.int i, .ref 2, .int (X.2 (i + (1 : Int32)).toNatClampNeg), .ref (0 + 3)] _ _ from ?_)
  refine zy_3 rfl rfl (show zyR _ _ _ _ [some (.ref 2), some (.ref (0 + 3)), some (.ref (43 + 3)), some (.int i)] [.int (2 : Int32), .int i, .ref 2, .int (X.2 (i + (1 : Int32)).toNatClampNeg), .ref (0 + 3)] _ _ from ?_)
  refine zy_10 rfl (show zyR _ _ _ _ [some (.ref 2), some (.ref (0 + 3)), some (.ref (43 + 3)), some (.int i)] [.int (i + (2 : Int32)), .ref 2, .int (X.2 (i + (1 : Int32)).toNatClampNeg), .ref (0 + 3)] _ _ from ?_)
  refine zy_26s rfl (zl_in hX i0 i6 (by decide) (by decide)) (show zyR _ _ _ _ [some (.ref 2), some (.ref (0 + 3)), some (.ref (43 + 3)), some (.int i)] [.int (X.2 (i + (2 : Int32)).toNatClampNeg), .int (X.2 (i + (1 : Int32)).toNatClampNeg), .ref (0 + 3)] _ _ from ?_)
  refine zy_0 rfl rfl (show zyR _ _ _ _ [some (.ref 2), some (.ref (0 + 3)), some (.ref (43 + 3)), some (.int i)] [.ref 2, .int (X.2 (i + (2 : Int32)).toNatClampNeg), .int (X.2 (i + (1 : Int32)).toNatClampNeg), .ref (0 + 3)] _ _ from ?_)
  refine zy_2 rfl rfl (show zyR _ _ _ _ [some (.ref 2), some (.ref (0 + 3)), some (.ref (43 + 3)), some (.int i)] [.int i, .ref 2, .int (X.2 (i + (2 : Int32)).toNatClampNeg), .int (X.2 (i + (1 : Int32)).toNatClampNeg), .ref (0 + 3)] _ _ from ?_)
  refine zy_3 rfl rfl (show zyR _ _ _ _ [some (.ref 2), some (.ref (0 + 3)), some (.ref (43 + 3)), some (.int i)] [.int (3 : Int32), .int i, .ref 2, .int (X.2 (i + (2 : Int32)).toNatClampNeg), .int (X.2 (i + (1 : Int32)).toNatClampNeg), .ref (0 + 3)] _ _ from ?_)
  refine zy_10 rfl (show zyR _ _ _ _ [some (.ref 2), some (.ref (0 + 3)), some (.ref (43 + 3)), some (.int i)] [.int (i + (3 : Int32)), .ref 2, .int (X.2 (i + (2 : Int32)).toNatClampNeg), .int (X.2 (i + (1 : Int32)).toNatClampNeg), .ref (0 + 3)] _ _ from ?_)
  refine zy_26s rfl (zl_in hX i0 i6 (by decide) (by decide)) (show zyR _ _ _ _ [some (.ref 2), some (.ref (0 + 3)), some (.ref (43 + 3)), some (.int i)] [.int (X.2 (i + (3 : Int32)).toNatClampNeg), .int (X.2 (i + (2 : Int32)).toNatClampNeg), .int (X.2 (i + (1 : Int32)).toNatClampNeg), .ref (0 + 3)] _ _ from ?_)
  refine zy_5 (c := 0) (as := [.int (X.2 (i + (1 : Int32)).toNatClampNeg), .int (X.2 (i + (2 : Int32)).toNatClampNeg), .int (X.2 (i + (3 : Int32)).toNatClampNeg)]) (rest := []) (L := [some (.ref (0 + 3)), some (.int (X.2 (i + (1 : Int32)).toNatClampNeg)), some (.int (X.2 (i + (2 : Int32)).toNatClampNeg)), some (.int (X.2 (i + (3 : Int32)).toNatClampNeg)), none, none]) (d' := 3) rfl rfl rfl (Nat.le_of_ble_eq_true rfl) (Nat.le_of_ble_eq_true rfl) rfl (Nat.le_of_ble_eq_true rfl) rfl rfl (zyC17 f1) ?_
  show zyR _ _ _ _ [some (.ref 2), some (.ref (0 + 3)), some (.ref (43 + 3)), some (.int i)] [.int r] _ _
  refine zy_34 rfl rfl (show zyR _ _ _ _ [some (.ref 2), some (.ref (0 + 3)), some (.ref (43 + 3)), some (.int i)] [] _ _ from ?_)
  refine zy_0 rfl rfl (show zyR _ _ _ _ [some (.ref 2), some (.ref (0 + 3)), some (.ref (43 + 3)), some (.int i)] [.ref (43 + 3)] _ _ from ?_)
  refine zy_0 rfl rfl (show zyR _ _ _ _ [some (.ref 2), some (.ref (0 + 3)), some (.ref (43 + 3)), some (.int i)] [.ref 2, .ref (43 + 3)] _ _ from ?_)
  refine zy_2 rfl rfl (show zyR _ _ _ _ [some (.ref 2), some (.ref (0 + 3)), some (.ref (43 + 3)), some (.int i)] [.int i, .ref 2, .ref (43 + 3)] _ _ from ?_)
  refine zy_3 rfl rfl (show zyR _ _ _ _ [some (.ref 2), some (.ref (0 + 3)), some (.ref (43 + 3)), some (.int i)] [.int (1 : Int32), .int i, .ref 2, .ref (43 + 3)] _ _ from ?_)
  refine zy_10 rfl (show zyR _ _ _ _ [some (.ref 2), some (.ref (0 + 3)), some (.ref (43 + 3)), some (.int i)] [.int (i + (1 : Int32)), .ref 2, .ref (43 + 3)] _ _ from ?_)
  refine zy_26s rfl (zl_in hX i0 i6 (by decide) (by decide)) (show zyR _ _ _ _ [some (.ref 2), some (.ref (0 + 3)), some (.ref (43 + 3)), some (.int i)] [.int (X.2 (i + (1 : Int32)).toNatClampNeg), .ref (43 + 3)] _ _ from ?_)
  refine zy_0 rfl rfl (show zyR _ _ _ _ [some (.ref 2), some (.ref (0 + 3)), some (.ref (43 + 3)), some (.int i)] [.ref 2, .int (X.2 (i + (1 : Int32)).toNatClampNeg), .ref (43 + 3)] _ _ from ?_)
  refine zy_2 rfl rfl (show zyR _ _ _ _ [some (.ref 2), some (.ref (0 + 3)), some (.ref (43 + 3)), some (.int i)] [.int i, .ref 2, .int (X.2 (i + (1 : Int32)).toNatClampNeg), .ref (43 + 3)] _ _ from ?_)
  refine zy_3 rfl rfl (show zyR _ _ _ _ [some (.ref 2), some (.ref (0 + 3)), some (.ref (43 + 3)), some (.int i)] [.int (2 : Int32), .int i, .ref 2, .int (X.2 (i + (1 : Int32)).toNatClampNeg), .ref (43 + 3)] _ _ from ?_)
  refine zy_10 rfl (show zyR _ _ _ _ [some (.ref 2), some (.ref (0 + 3)), some (.ref (43 + 3)), some (.int i)] [.int (i + (2 : Int32)), .ref 2, .int (X.2 (i + (1 : Int32)).toNatClampNeg), .ref (43 + 3)] _ _ from ?_)
  refine zy_26s rfl (zl_in hX i0 i6 (by decide) (by decide)) (show zyR _ _ _ _ [some (.ref 2), some (.ref (0 + 3)), some (.ref (43 + 3)), some (.int i)] [.int (X.2 (i + (2 : Int32)).toNatClampNeg), .int (X.2 (i + (1 : Int32)).toNatClampNeg), .ref (43 + 3)] _ _ from ?_)
  refine zy_0 rfl rfl (show zyR _ _ _ _ [some (.ref 2), some (.ref (0 + 3)), some (.ref (43 + 3)), some (.int i)] [.ref 2, .int (X.2 (i + (2 : Int32)).toNatClampNeg), .int (X.2 (i + (1 : Int32)).toNatClampNeg), .ref (43 + 3)] _ _ from ?_)
  refine zy_2 rfl rfl (show zyR _ _ _ _ [some (.ref 2), some (.ref (0 + 3)), some (.ref (43 + 3)), some (.int i)] [.int i, .ref 2, .int (X.2 (i + (2 : Int32)).toNatClampNeg), .int (X.2 (i + (1 : Int32)).toNatClampNeg), .ref (43 + 3)] _ _ from ?_)
  refine zy_3 rfl rfl (show zyR _ _ _ _ [some (.ref 2), some (.ref (0 + 3)), some (.ref (43 + 3)), some (.int i)] [.int (3 : Int32), .int i, .ref 2, .int (X.2 (i + (2 : Int32)).toNatClampNeg), .int (X.2 (i + (1 : Int32)).toNatClampNeg), .ref (43 + 3)] _ _ from ?_)
  refine zy_10 rfl (show zyR _ _ _ _ [some (.ref 2), some (.ref (0 + 3)), some (.ref (43 + 3)), some (.int i)] [.int (i + (3 : Int32)), .ref 2, .int (X.2 (i + (2 : Int32)).toNatClampNeg), .int (X.2 (i + (1 : Int32)).toNatClampNeg), .ref (43 + 3)] _ _ from ?_)
  refine zy_26s rfl (zl_in hX i0 i6 (by decide) (by decide)) (show zyR _ _ _ _ [some (.ref 2), some (.ref (0 + 3)), some (.ref (43 + 3)), some (.int i)] [.int (X.2 (i + (3 : Int32)).toNatClampNeg), .int (X.2 (i + (2 : Int32)).toNatClampNeg), .int (X.2 (i + (1 : Int32)).toNatClampNeg), .ref (43 + 3)] _ _ from ?_)
  refine zy_5 (c := 43) (as := [.int (X.2 (i + (1 : Int32)).toNatClampNeg), .int (X.2 (i + (2 : Int32)).toNatClampNeg), .int (X.2 (i + (3 : Int32)).toNatClampNeg)]) (rest := []) (L := [some (.ref (43 + 3)), some (.int (X.2 (i + (1 : Int32)).toNatClampNeg)), some (.int (X.2 (i + (2 : Int32)).toNatClampNeg)), some (.int (X.2 (i + (3 : Int32)).toNatClampNeg)), none, none, none]) (d' := 3) rfl rfl rfl (Nat.le_of_ble_eq_true rfl) (Nat.le_of_ble_eq_true rfl) rfl (Nat.le_of_ble_eq_true rfl) rfl rfl (zyC181 f2) ?_
  show zyR _ _ _ _ [some (.ref 2), some (.ref (0 + 3)), some (.ref (43 + 3)), some (.int i)] [.int r] _ _
  refine zy_34 rfl rfl (show zyR _ _ _ _ [some (.ref 2), some (.ref (0 + 3)), some (.ref (43 + 3)), some (.int i)] [] _ _ from ?_)
  exact zy_6 rfl (k _ hI)
theorem zlc_2 {X : zx_X} {i : Int32} {s : zy_S} {P : Option Value → zy_S → Prop} (hX : X.1 ≤ 3072) (i0 : 0 ≤ i.toInt) (i6 : i.toInt + 6 ≤ X.1) (h : zI s) (k : ∀ t, zI t → zyR X 2000 0 1435 [some (.ref 2), some (.ref (0 + 3)), some (.ref (43 + 3)), some (.int i)] [] t P) : zyR X 2000 0 278 [some (.ref 2), some (.ref (0 + 3)), some (.ref (43 + 3)), some (.int i)] [] s P := by
  obtain ⟨r, s1, s2, f1, f2, hI⟩ := zop_mend ((X.2 (i + (1 : Int32)).toNatClampNeg)) ((X.2 (i + (2 : Int32)).toNatClampNeg)) ((X.2 (i + (3 : Int32)).toNatClampNeg)) h
  refine zy_0 rfl rfl (show zyR _ _ _ _ [some (.ref 2), some (.ref (0 + 3)), some (.ref (43 + 3)), some (.int i)] [.ref (0 + 3)] _ _ from ?_)
  refine zy_0 rfl rfl (show zyR _ _ _ _ [some (.ref 2), some (.ref (0 + 3)), some (.ref (43 + 3)), some (.int i)] [.ref 2, .ref (0 + 3)] _ _ from ?_)
  refine zy_2 rfl rfl (show zyR _ _ _ _ [some (.ref 2), some (.ref (0 + 3)), some (.ref (43 + 3)), some (.int i)] [.int i, .ref 2, .ref (0 + 3)] _ _ from ?_)
  refine zy_3 rfl rfl (show zyR _ _ _ _ [some (.ref 2), some (.ref (0 + 3)), some (.ref (43 + 3)), some (.int i)] [.int (1 : Int32), .int i, .ref 2, .ref (0 + 3)] _ _ from ?_)
  refine zy_10 rfl (show zyR _ _ _ _ [some (.ref 2), some (.ref (0 + 3)), some (.ref (43 + 3)), some (.int i)] [.int (i + (1 : Int32)), .ref 2, .ref (0 + 3)] _ _ from ?_)
  refine zy_26s rfl (zl_in hX i0 i6 (by decide) (by decide)) (show zyR _ _ _ _ [some (.ref 2), some (.ref (0 + 3)), some (.ref (43 + 3)), some (.int i)] [.int (X.2 (i + (1 : Int32)).toNatClampNeg), .ref (0 + 3)] _ _ from ?_)
  refine zy_0 rfl rfl (show zyR _ _ _ _ [some (.ref 2), some (.ref (0 + 3)), some (.ref (43 + 3)), some (.int i)] [.ref 2, .int (X.2 (i + (1 : Int32)).toNatClampNeg), .ref (0 + 3)] _ _ from ?_)
  refine zy_2 rfl rfl (show zyR _ _ _ _ [some (.ref 2), some (.ref (0 + 3)), some (.ref (43 + 3)), some (.int i)] [.int i, .ref 2, .int (X.2 (i + (1 : Int32)).toNatClampNeg), .ref (0 + 3)] _ _ from ?_)
  refine zy_3 rfl rfl (show zyR _ _ _ _ [some (.ref 2), some (.ref (0 + 3)), some (.ref (43 + 3)), some (.int i)] [.int (2 : Int32), .int i, .ref 2, .int (X.2 (i + (1 : Int32)).toNatClampNeg), .ref (0 + 3)] _ _ from ?_)
  refine zy_10 rfl (show zyR _ _ _ _ [some (.ref 2), some (.ref (0 + 3)), some (.ref (43 + 3)), some (.int i)] [.int (i + (2 : Int32)), .ref 2, .int (X.2 (i + (1 : Int32)).toNatClampNeg), .ref (0 + 3)] _ _ from ?_)
  refine zy_26s rfl (zl_in hX i0 i6 (by decide) (by decide)) (show zyR _ _ _ _ [some (.ref 2), some (.ref (0 + 3)), some (.ref (43 + 3)), some (.int i)] [.int (X.2 (i + (2 : Int32)).toNatClampNeg), .int (X.2 (i + (1 : Int32)).toNatClampNeg), .ref (0 + 3)] _ _ from ?_)
  refine zy_0 rfl rfl (show zyR _ _ _ _ [some (.ref 2), some (.ref (0 + 3)), some (.ref (43 + 3)), some (.int i)] [.ref 2, .int (X.2 (i + (2 : Int32)).toNatClampNeg), .int (X.2 (i + (1 : Int32)).toNatClampNeg), .ref (0 + 3)] _ _ from ?_)
  refine zy_2 rfl rfl (show zyR _ _ _ _ [some (.ref 2), some (.ref (0 + 3)), some (.ref (43 + 3)), some (.int i)] [.int i, .ref 2, .int (X.2 (i + (2 : Int32)).toNatClampNeg), .int (X.2 (i + (1 : Int32)).toNatClampNeg), .ref (0 + 3)] _ _ from ?_)
  refine zy_3 rfl rfl (show zyR _ _ _ _ [some (.ref 2), some (.ref (0 + 3)), some (.ref (43 + 3)), some (.int i)] [.int (3 : Int32), .int i, .ref 2, .int (X.2 (i + (2 : Int32)).toNatClampNeg), .int (X.2 (i + (1 : Int32)).toNatClampNeg), .ref (0 + 3)] _ _ from ?_)
  refine zy_10 rfl (show zyR _ _ _ _ [some (.ref 2), some (.ref (0 + 3)), some (.ref (43 + 3)), some (.int i)] [.int (i + (3 : Int32)), .ref 2, .int (X.2 (i + (2 : Int32)).toNatClampNeg), .int (X.2 (i + (1 : Int32)).toNatClampNeg), .ref (0 + 3)] _ _ from ?_)
  refine zy_26s rfl (zl_in hX i0 i6 (by decide) (by decide)) (show zyR _ _ _ _ [some (.ref 2), some (.ref (0 + 3)), some (.ref (43 + 3)), some (.int i)] [.int (X.2 (i + (3 : Int32)).toNatClampNeg), .int (X.2 (i + (2 : Int32)).toNatClampNeg), .int (X.2 (i + (1 : Int32)).toNatClampNeg), .ref (0 + 3)] _ _ from ?_)
  refine zy_5 (c := 0) (as := [.int (X.2 (i + (1 : Int32)).toNatClampNeg), .int (X.2 (i + (2 : Int32)).toNatClampNeg), .int (X.2 (i + (3 : Int32)).toNatClampNeg)]) (rest := []) (L := [some (.ref (0 + 3)), some (.int (X.2 (i + (1 : Int32)).toNatClampNeg)), some (.int (X.2 (i + (2 : Int32)).toNatClampNeg)), some (.int (X.2 (i + (3 : Int32)).toNatClampNeg)), none]) (d' := 3) rfl rfl rfl (Nat.le_of_ble_eq_true rfl) (Nat.le_of_ble_eq_true rfl) rfl (Nat.le_of_ble_eq_true rfl) rfl rfl (zyC24 f1) ?_
  show zyR _ _ _ _ [some (.ref 2), some (.ref (0 + 3)), some (.ref (43 + 3)), some (.int i)] [.int r] _ _
  refine zy_34 rfl rfl (show zyR _ _ _ _ [some (.ref 2), some (.ref (0 + 3)), some (.ref (43 + 3)), some (.int i)] [] _ _ from ?_)
  refine zy_0 rfl rfl (show zyR _ _ _ _ [some (.ref 2), some (.ref (0 + 3)), some (.ref (43 + 3)), some (.int i)] [.ref (43 + 3)] _ _ from ?_)
  refine zy_0 rfl rfl (show zyR _ _ _ _ [some (.ref 2), some (.ref (0 + 3)), some (.ref (43 + 3)), some (.int i)] [.ref 2, .ref (43 + 3)] _ _ from ?_)
  refine zy_2 rfl rfl (show zyR _ _ _ _ [some (.ref 2), some (.ref (0 + 3)), some (.ref (43 + 3)), some (.int i)] [.int i, .ref 2, .ref (43 + 3)] _ _ from ?_)
  refine zy_3 rfl rfl (show zyR _ _ _ _ [some (.ref 2), some (.ref (0 + 3)), some (.ref (43 + 3)), some (.int i)] [.int (1 : Int32), .int i, .ref 2, .ref (43 + 3)] _ _ from ?_)
  refine zy_10 rfl (show zyR _ _ _ _ [some (.ref 2), some (.ref (0 + 3)), some (.ref (43 + 3)), some (.int i)] [.int (i + (1 : Int32)), .ref 2, .ref (43 + 3)] _ _ from ?_)
  refine zy_26s rfl (zl_in hX i0 i6 (by decide) (by decide)) (show zyR _ _ _ _ [some (.ref 2), some (.ref (0 + 3)), some (.ref (43 + 3)), some (.int i)] [.int (X.2 (i + (1 : Int32)).toNatClampNeg), .ref (43 + 3)] _ _ from ?_)
  refine zy_0 rfl rfl (show zyR _ _ _ _ [some (.ref 2), some (.ref (0 + 3)), some (.ref (43 + 3)), some (.int i)] [.ref 2, .int (X.2 (i + (1 : Int32)).toNatClampNeg), .ref (43 + 3)] _ _ from ?_)
  refine zy_2 rfl rfl (show zyR _ _ _ _ [some (.ref 2), some (.ref (0 + 3)), some (.ref (43 + 3)), some (.int i)] [.int i, .ref 2, .int (X.2 (i + (1 : Int32)).toNatClampNeg), .ref (43 + 3)] _ _ from ?_)
  refine zy_3 rfl rfl (show zyR _ _ _ _ [some (.ref 2), some (.ref (0 + 3)), some (.ref (43 + 3)), some (.int i)] [.int (2 : Int32), .int i, .ref 2, .int (X.2 (i + (1 : Int32)).toNatClampNeg), .ref (43 + 3)] _ _ from ?_)
  refine zy_10 rfl (show zyR _ _ _ _ [some (.ref 2), some (.ref (0 + 3)), some (.ref (43 + 3)), some (.int i)] [.int (i + (2 : Int32)), .ref 2, .int (X.2 (i + (1 : Int32)).toNatClampNeg), .ref (43 + 3)] _ _ from ?_)
  refine zy_26s rfl (zl_in hX i0 i6 (by decide) (by decide)) (show zyR _ _ _ _ [some (.ref 2), some (.ref (0 + 3)), some (.ref (43 + 3)), some (.int i)] [.int (X.2 (i + (2 : Int32)).toNatClampNeg), .int (X.2 (i + (1 : Int32)).toNatClampNeg), .ref (43 + 3)] _ _ from ?_)
  refine zy_0 rfl rfl (show zyR _ _ _ _ [some (.ref 2), some (.ref (0 + 3)), some (.ref (43 + 3)), some (.int i)] [.ref 2, .int (X.2 (i + (2 : Int32)).toNatClampNeg), .int (X.2 (i + (1 : Int32)).toNatClampNeg), .ref (43 + 3)] _ _ from ?_)
  refine zy_2 rfl rfl (show zyR _ _ _ _ [some (.ref 2), some (.ref (0 + 3)), some (.ref (43 + 3)), some (.int i)] [.int i, .ref 2, .int (X.2 (i + (2 : Int32)).toNatClampNeg), .int (X.2 (i + (1 : Int32)).toNatClampNeg), .ref (43 + 3)] _ _ from ?_)
  refine zy_3 rfl rfl (show zyR _ _ _ _ [some (.ref 2), some (.ref (0 + 3)), some (.ref (43 + 3)), some (.int i)] [.int (3 : Int32), .int i, .ref 2, .int (X.2 (i + (2 : Int32)).toNatClampNeg), .int (X.2 (i + (1 : Int32)).toNatClampNeg), .ref (43 + 3)] _ _ from ?_)
  refine zy_10 rfl (show zyR _ _ _ _ [some (.ref 2), some (.ref (0 + 3)), some (.ref (43 + 3)), some (.int i)] [.int (i + (3 : Int32)), .ref 2, .int (X.2 (i + (2 : Int32)).toNatClampNeg), .int (X.2 (i + (1 : Int32)).toNatClampNeg), .ref (43 + 3)] _ _ from ?_)
  refine zy_26s rfl (zl_in hX i0 i6 (by decide) (by decide)) (show zyR _ _ _ _ [some (.ref 2), some (.ref (0 + 3)), some (.ref (43 + 3)), some (.int i)] [.int (X.2 (i + (3 : Int32)).toNatClampNeg), .int (X.2 (i + (2 : Int32)).toNatClampNeg), .int (X.2 (i + (1 : Int32)).toNatClampNeg), .ref (43 + 3)] _ _ from ?_)
  refine zy_5 (c := 43) (as := [.int (X.2 (i + (1 : Int32)).toNatClampNeg), .int (X.2 (i + (2 : Int32)).toNatClampNeg), .int (X.2 (i + (3 : Int32)).toNatClampNeg)]) (rest := []) (L := [some (.ref (43 + 3)), some (.int (X.2 (i + (1 : Int32)).toNatClampNeg)), some (.int (X.2 (i + (2 : Int32)).toNatClampNeg)), some (.int (X.2 (i + (3 : Int32)).toNatClampNeg)), none]) (d' := 4) rfl rfl rfl (Nat.le_of_ble_eq_true rfl) (Nat.le_of_ble_eq_true rfl) rfl (Nat.le_of_ble_eq_true rfl) rfl rfl (zyC183 f2) ?_
  show zyR _ _ _ _ [some (.ref 2), some (.ref (0 + 3)), some (.ref (43 + 3)), some (.int i)] [.int r] _ _
  refine zy_34 rfl rfl (show zyR _ _ _ _ [some (.ref 2), some (.ref (0 + 3)), some (.ref (43 + 3)), some (.int i)] [] _ _ from ?_)
  exact zy_6 rfl (k _ hI)
theorem zlc_3 {X : zx_X} {i : Int32} {s : zy_S} {P : Option Value → zy_S → Prop} (hX : X.1 ≤ 3072) (i0 : 0 ≤ i.toInt) (i6 : i.toInt + 6 ≤ X.1) (h : zI s) (k : ∀ t, zI t → zyR X 2000 0 1435 [some (.ref 2), some (.ref (0 + 3)), some (.ref (43 + 3)), some (.int i)] [] t P) : zyR X 2000 0 321 [some (.ref 2), some (.ref (0 + 3)), some (.ref (43 + 3)), some (.int i)] [] s P := by
  obtain ⟨r, s1, s2, f1, f2, hI⟩ := zop_of ((X.2 (i + (1 : Int32)).toNatClampNeg)) ((X.2 (i + (2 : Int32)).toNatClampNeg)) h
  refine zy_0 rfl rfl (show zyR _ _ _ _ [some (.ref 2), some (.ref (0 + 3)), some (.ref (43 + 3)), some (.int i)] [.ref (0 + 3)] _ _ from ?_)
  refine zy_0 rfl rfl (show zyR _ _ _ _ [some (.ref 2), some (.ref (0 + 3)), some (.ref (43 + 3)), some (.int i)] [.ref 2, .ref (0 + 3)] _ _ from ?_)
  refine zy_2 rfl rfl (show zyR _ _ _ _ [some (.ref 2), some (.ref (0 + 3)), some (.ref (43 + 3)), some (.int i)] [.int i, .ref 2, .ref (0 + 3)] _ _ from ?_)
  refine zy_3 rfl rfl (show zyR _ _ _ _ [some (.ref 2), some (.ref (0 + 3)), some (.ref (43 + 3)), some (.int i)] [.int (1 : Int32), .int i, .ref 2, .ref (0 + 3)] _ _ from ?_)
  refine zy_10 rfl (show zyR _ _ _ _ [some (.ref 2), some (.ref (0 + 3)), some (.ref (43 + 3)), some (.int i)] [.int (i + (1 : Int32)), .ref 2, .ref (0 + 3)] _ _ from ?_)
  refine zy_26s rfl (zl_in hX i0 i6 (by decide) (by decide)) (show zyR _ _ _ _ [some (.ref 2), some (.ref (0 + 3)), some (.ref (43 + 3)), some (.int i)] [.int (X.2 (i + (1 : Int32)).toNatClampNeg), .ref (0 + 3)] _ _ from ?_)
  refine zy_0 rfl rfl (show zyR _ _ _ _ [some (.ref 2), some (.ref (0 + 3)), some (.ref (43 + 3)), some (.int i)] [.ref 2, .int (X.2 (i + (1 : Int32)).toNatClampNeg), .ref (0 + 3)] _ _ from ?_)
  refine zy_2 rfl rfl (show zyR _ _ _ _ [some (.ref 2), some (.ref (0 + 3)), some (.ref (43 + 3)), some (.int i)] [.int i, .ref 2, .int (X.2 (i + (1 : Int32)).toNatClampNeg), .ref (0 + 3)] _ _ from ?_)
  refine zy_3 rfl rfl (show zyR _ _ _ _ [some (.ref 2), some (.ref (0 + 3)), some (.ref (43 + 3)), some (.int i)] [.int (2 : Int32), .int i, .ref 2, .int (X.2 (i + (1 : Int32)).toNatClampNeg), .ref (0 + 3)] _ _ from ?_)
  refine zy_10 rfl (show zyR _ _ _ _ [some (.ref 2), some (.ref (0 + 3)), some (.ref (43 + 3)), some (.int i)] [.int (i + (2 : Int32)), .ref 2, .int (X.2 (i + (1 : Int32)).toNatClampNeg), .ref (0 + 3)] _ _ from ?_)
  refine zy_26s rfl (zl_in hX i0 i6 (by decide) (by decide)) (show zyR _ _ _ _ [some (.ref 2), some (.ref (0 + 3)), some (.ref (43 + 3)), some (.int i)] [.int (X.2 (i + (2 : Int32)).toNatClampNeg), .int (X.2 (i + (1 : Int32)).toNatClampNeg), .ref (0 + 3)] _ _ from ?_)
  refine zy_5 (c := 0) (as := [.int (X.2 (i + (1 : Int32)).toNatClampNeg), .int (X.2 (i + (2 : Int32)).toNatClampNeg)]) (rest := []) (L := [some (.ref (0 + 3)), some (.int (X.2 (i + (1 : Int32)).toNatClampNeg)), some (.int (X.2 (i + (2 : Int32)).toNatClampNeg))]) (d' := 3) rfl rfl rfl (Nat.le_of_ble_eq_true rfl) (Nat.le_of_ble_eq_true rfl) rfl (Nat.le_of_ble_eq_true rfl) rfl rfl (zyC31 f1) ?_
  show zyR _ _ _ _ [some (.ref 2), some (.ref (0 + 3)), some (.ref (43 + 3)), some (.int i)] [.int r] _ _
  refine zy_34 rfl rfl (show zyR _ _ _ _ [some (.ref 2), some (.ref (0 + 3)), some (.ref (43 + 3)), some (.int i)] [] _ _ from ?_)
  refine zy_0 rfl rfl (show zyR _ _ _ _ [some (.ref 2), some (.ref (0 + 3)), some (.ref (43 + 3)), some (.int i)] [.ref (43 + 3)] _ _ from ?_)
  refine zy_0 rfl rfl (show zyR _ _ _ _ [some (.ref 2), some (.ref (0 + 3)), some (.ref (43 + 3)), some (.int i)] [.ref 2, .ref (43 + 3)] _ _ from ?_)
  refine zy_2 rfl rfl (show zyR _ _ _ _ [some (.ref 2), some (.ref (0 + 3)), some (.ref (43 + 3)), some (.int i)] [.int i, .ref 2, .ref (43 + 3)] _ _ from ?_)
  refine zy_3 rfl rfl (show zyR _ _ _ _ [some (.ref 2), some (.ref (0 + 3)), some (.ref (43 + 3)), some (.int i)] [.int (1 : Int32), .int i, .ref 2, .ref (43 + 3)] _ _ from ?_)
  refine zy_10 rfl (show zyR _ _ _ _ [some (.ref 2), some (.ref (0 + 3)), some (.ref (43 + 3)), some (.int i)] [.int (i + (1 : Int32)), .ref 2, .ref (43 + 3)] _ _ from ?_)
  refine zy_26s rfl (zl_in hX i0 i6 (by decide) (by decide)) (show zyR _ _ _ _ [some (.ref 2), some (.ref (0 + 3)), some (.ref (43 + 3)), some (.int i)] [.int (X.2 (i + (1 : Int32)).toNatClampNeg), .ref (43 + 3)] _ _ from ?_)
  refine zy_0 rfl rfl (show zyR _ _ _ _ [some (.ref 2), some (.ref (0 + 3)), some (.ref (43 + 3)), some (.int i)] [.ref 2, .int (X.2 (i + (1 : Int32)).toNatClampNeg), .ref (43 + 3)] _ _ from ?_)
  refine zy_2 rfl rfl (show zyR _ _ _ _ [some (.ref 2), some (.ref (0 + 3)), some (.ref (43 + 3)), some (.int i)] [.int i, .ref 2, .int (X.2 (i + (1 : Int32)).toNatClampNeg), .ref (43 + 3)] _ _ from ?_)
  refine zy_3 rfl rfl (show zyR _ _ _ _ [some (.ref 2), some (.ref (0 + 3)), some (.ref (43 + 3)), some (.int i)] [.int (2 : Int32), .int i, .ref 2, .int (X.2 (i + (1 : Int32)).toNatClampNeg), .ref (43 + 3)] _ _ from ?_)
  refine zy_10 rfl (show zyR _ _ _ _ [some (.ref 2), some (.ref (0 + 3)), some (.ref (43 + 3)), some (.int i)] [.int (i + (2 : Int32)), .ref 2, .int (X.2 (i + (1 : Int32)).toNatClampNeg), .ref (43 + 3)] _ _ from ?_)
  refine zy_26s rfl (zl_in hX i0 i6 (by decide) (by decide)) (show zyR _ _ _ _ [some (.ref 2), some (.ref (0 + 3)), some (.ref (43 + 3)), some (.int i)] [.int (X.2 (i + (2 : Int32)).toNatClampNeg), .int (X.2 (i + (1 : Int32)).toNatClampNeg), .ref (43 + 3)] _ _ from ?_)
  refine zy_5 (c := 43) (as := [.int (X.2 (i + (1 : Int32)).toNatClampNeg), .int (X.2 (i + (2 : Int32)).toNatClampNeg)]) (rest := []) (L := [some (.ref (43 + 3)), some (.int (X.2 (i + (1 : Int32)).toNatClampNeg)), some (.int (X.2 (i + (2 : Int32)).toNatClampNeg)), none]) (d' := 4) rfl rfl rfl (Nat.le_of_ble_eq_true rfl) (Nat.le_of_ble_eq_true rfl) rfl (Nat.le_of_ble_eq_true rfl) rfl rfl (zyC188 f2) ?_
  show zyR _ _ _ _ [some (.ref 2), some (.ref (0 + 3)), some (.ref (43 + 3)), some (.int i)] [.int r] _ _
  refine zy_34 rfl rfl (show zyR _ _ _ _ [some (.ref 2), some (.ref (0 + 3)), some (.ref (43 + 3)), some (.int i)] [] _ _ from ?_)
  exact zy_6 rfl (k _ hI)
theorem zlc_4 {X : zx_X} {i : Int32} {s : zy_S} {P : Option Value → zy_S → Prop} (hX : X.1 ≤ 3072) (i0 : 0 ≤ i.toInt) (i6 : i.toInt + 6 ≤ X.1) (h : zI s) (k : ∀ t, zI t → zyR X 2000 0 1435 [some (.ref 2), some (.ref (0 + 3)), some (.ref (43 + 3)), some (.int i)] [] t P) : zyR X 2000 0 354 [some (.ref 2), some (.ref (0 + 3)), some (.ref (43 + 3)), some (.int i)] [] s P := by
  obtain ⟨r, s1, s2, f1, f2, hI⟩ := zop_feed ((X.2 (i + (1 : Int32)).toNatClampNeg)) h
  refine zy_0 rfl rfl (show zyR _ _ _ _ [some (.ref 2), some (.ref (0 + 3)), some (.ref (43 + 3)), some (.int i)] [.ref (0 + 3)] _ _ from ?_)
  refine zy_0 rfl rfl (show zyR _ _ _ _ [some (.ref 2), some (.ref (0 + 3)), some (.ref (43 + 3)), some (.int i)] [.ref 2, .ref (0 + 3)] _ _ from ?_)
  refine zy_2 rfl rfl (show zyR _ _ _ _ [some (.ref 2), some (.ref (0 + 3)), some (.ref (43 + 3)), some (.int i)] [.int i, .ref 2, .ref (0 + 3)] _ _ from ?_)
  refine zy_3 rfl rfl (show zyR _ _ _ _ [some (.ref 2), some (.ref (0 + 3)), some (.ref (43 + 3)), some (.int i)] [.int (1 : Int32), .int i, .ref 2, .ref (0 + 3)] _ _ from ?_)
  refine zy_10 rfl (show zyR _ _ _ _ [some (.ref 2), some (.ref (0 + 3)), some (.ref (43 + 3)), some (.int i)] [.int (i + (1 : Int32)), .ref 2, .ref (0 + 3)] _ _ from ?_)
  refine zy_26s rfl (zl_in hX i0 i6 (by decide) (by decide)) (show zyR _ _ _ _ [some (.ref 2), some (.ref (0 + 3)), some (.ref (43 + 3)), some (.int i)] [.int (X.2 (i + (1 : Int32)).toNatClampNeg), .ref (0 + 3)] _ _ from ?_)
  refine zy_5 (c := 0) (as := [.int (X.2 (i + (1 : Int32)).toNatClampNeg)]) (rest := []) (L := [some (.ref (0 + 3)), some (.int (X.2 (i + (1 : Int32)).toNatClampNeg))]) (d' := 2) rfl rfl rfl (Nat.le_of_ble_eq_true rfl) (Nat.le_of_ble_eq_true rfl) rfl (Nat.le_of_ble_eq_true rfl) rfl rfl (zyC33 f1) ?_
  show zyR _ _ _ _ [some (.ref 2), some (.ref (0 + 3)), some (.ref (43 + 3)), some (.int i)] [.int r] _ _
  refine zy_34 rfl rfl (show zyR _ _ _ _ [some (.ref 2), some (.ref (0 + 3)), some (.ref (43 + 3)), some (.int i)] [] _ _ from ?_)
  refine zy_0 rfl rfl (show zyR _ _ _ _ [some (.ref 2), some (.ref (0 + 3)), some (.ref (43 + 3)), some (.int i)] [.ref (43 + 3)] _ _ from ?_)
  refine zy_0 rfl rfl (show zyR _ _ _ _ [some (.ref 2), some (.ref (0 + 3)), some (.ref (43 + 3)), some (.int i)] [.ref 2, .ref (43 + 3)] _ _ from ?_)
  refine zy_2 rfl rfl (show zyR _ _ _ _ [some (.ref 2), some (.ref (0 + 3)), some (.ref (43 + 3)), some (.int i)] [.int i, .ref 2, .ref (43 + 3)] _ _ from ?_)
  refine zy_3 rfl rfl (show zyR _ _ _ _ [some (.ref 2), some (.ref (0 + 3)), some (.ref (43 + 3)), some (.int i)] [.int (1 : Int32), .int i, .ref 2, .ref (43 + 3)] _ _ from ?_)
  refine zy_10 rfl (show zyR _ _ _ _ [some (.ref 2), some (.ref (0 + 3)), some (.ref (43 + 3)), some (.int i)] [.int (i + (1 : Int32)), .ref 2, .ref (43 + 3)] _ _ from ?_)
  refine zy_26s rfl (zl_in hX i0 i6 (by decide) (by decide)) (show zyR _ _ _ _ [some (.ref 2), some (.ref (0 + 3)), some (.ref (43 + 3)), some (.int i)] [.int (X.2 (i + (1 : Int32)).toNatClampNeg), .ref (43 + 3)] _ _ from ?_)
  refine zy_5 (c := 43) (as := [.int (X.2 (i + (1 : Int32)).toNatClampNeg)]) (rest := []) (L := [some (.ref (43 + 3)), some (.int (X.2 (i + (1 : Int32)).toNatClampNeg))]) (d' := 2) rfl rfl rfl (Nat.le_of_ble_eq_true rfl) (Nat.le_of_ble_eq_true rfl) rfl (Nat.le_of_ble_eq_true rfl) rfl rfl (zyC189 f2) ?_
  show zyR _ _ _ _ [some (.ref 2), some (.ref (0 + 3)), some (.ref (43 + 3)), some (.int i)] [.int r] _ _
  refine zy_34 rfl rfl (show zyR _ _ _ _ [some (.ref 2), some (.ref (0 + 3)), some (.ref (43 + 3)), some (.int i)] [] _ _ from ?_)
  exact zy_6 rfl (k _ hI)
theorem zlc_5 {X : zx_X} {i : Int32} {s : zy_S} {P : Option Value → zy_S → Prop} (hX : X.1 ≤ 3072) (i0 : 0 ≤ i.toInt) (i6 : i.toInt + 6 ≤ X.1) (h : zI s) (k : ∀ t, zI t → zyR X 2000 0 1435 [some (.ref 2), some (.ref (0 + 3)), some (.ref (43 + 3)), some (.int i)] [] t P) : zyR X 2000 0 377 [some (.ref 2), some (.ref (0 + 3)), some (.ref (43 + 3)), some (.int i)] [] s P := by
  obtain ⟨r, s1, s2, f1, f2, hI⟩ := zop_law  h
  refine zy_0 rfl rfl (show zyR _ _ _ _ [some (.ref 2), some (.ref (0 + 3)), some (.ref (43 + 3)), some (.int i)] [.ref (0 + 3)] _ _ from ?_)
  refine zy_5 (c := 0) (as := []) (rest := []) (L := [some (.ref (0 + 3)), none]) (d' := 105) rfl rfl rfl (Nat.le_of_ble_eq_true rfl) (Nat.le_of_ble_eq_true rfl) rfl (Nat.le_of_ble_eq_true rfl) rfl rfl (zyC36 f1) ?_
  show zyR _ _ _ _ [some (.ref 2), some (.ref (0 + 3)), some (.ref (43 + 3)), some (.int i)] [.int r] _ _
  refine zy_34 rfl rfl (show zyR _ _ _ _ [some (.ref 2), some (.ref (0 + 3)), some (.ref (43 + 3)), some (.int i)] [] _ _ from ?_)
  refine zy_0 rfl rfl (show zyR _ _ _ _ [some (.ref 2), some (.ref (0 + 3)), some (.ref (43 + 3)), some (.int i)] [.ref (43 + 3)] _ _ from ?_)
  refine zy_5 (c := 43) (as := []) (rest := []) (L := [some (.ref (43 + 3)), none, none, none]) (d' := 104) rfl rfl rfl (Nat.le_of_ble_eq_true rfl) (Nat.le_of_ble_eq_true rfl) rfl (Nat.le_of_ble_eq_true rfl) rfl rfl (zyC190 f2) ?_
  show zyR _ _ _ _ [some (.ref 2), some (.ref (0 + 3)), some (.ref (43 + 3)), some (.int i)] [.int r] _ _
  refine zy_34 rfl rfl (show zyR _ _ _ _ [some (.ref 2), some (.ref (0 + 3)), some (.ref (43 + 3)), some (.int i)] [] _ _ from ?_)
  exact zy_6 rfl (k _ hI)
theorem zlc_6 {X : zx_X} {i : Int32} {s : zy_S} {P : Option Value → zy_S → Prop} (hX : X.1 ≤ 3072) (i0 : 0 ≤ i.toInt) (i6 : i.toInt + 6 ≤ X.1) (h : zI s) (k : ∀ t, zI t → zyR X 2000 0 1435 [some (.ref 2), some (.ref (0 + 3)), some (.ref (43 + 3)), some (.int i)] [] t P) : zyR X 2000 0 390 [some (.ref 2), some (.ref (0 + 3)), some (.ref (43 + 3)), some (.int i)] [] s P := by
  obtain ⟨r, s1, s2, f1, f2, hI⟩ := zop_minds ((X.2 (i + (1 : Int32)).toNatClampNeg)) ((X.2 (i + (2 : Int32)).toNatClampNeg)) h
  refine zy_0 rfl rfl (show zyR _ _ _ _ [some (.ref 2), some (.ref (0 + 3)), some (.ref (43 + 3)), some (.int i)] [.ref (0 + 3)] _ _ from ?_)
  refine zy_0 rfl rfl (show zyR _ _ _ _ [some (.ref 2), some (.ref (0 + 3)), some (.ref (43 + 3)), some (.int i)] [.ref 2, .ref (0 + 3)] _ _ from ?_)
  refine zy_2 rfl rfl (show zyR _ _ _ _ [some (.ref 2), some (.ref (0 + 3)), some (.ref (43 + 3)), some (.int i)] [.int i, .ref 2, .ref (0 + 3)] _ _ from ?_)
  refine zy_3 rfl rfl (show zyR _ _ _ _ [some (.ref 2), some (.ref (0 + 3)), some (.ref (43 + 3)), some (.int i)] [.int (1 : Int32), .int i, .ref 2, .ref (0 + 3)] _ _ from ?_)
  refine zy_10 rfl (show zyR _ _ _ _ [some (.ref 2), some (.ref (0 + 3)), some (.ref (43 + 3)), some (.int i)] [.int (i + (1 : Int32)), .ref 2, .ref (0 + 3)] _ _ from ?_)
  refine zy_26s rfl (zl_in hX i0 i6 (by decide) (by decide)) (show zyR _ _ _ _ [some (.ref 2), some (.ref (0 + 3)), some (.ref (43 + 3)), some (.int i)] [.int (X.2 (i + (1 : Int32)).toNatClampNeg), .ref (0 + 3)] _ _ from ?_)
  refine zy_0 rfl rfl (show zyR _ _ _ _ [some (.ref 2), some (.ref (0 + 3)), some (.ref (43 + 3)), some (.int i)] [.ref 2, .int (X.2 (i + (1 : Int32)).toNatClampNeg), .ref (0 + 3)] _ _ from ?_)
  refine zy_2 rfl rfl (show zyR _ _ _ _ [some (.ref 2), some (.ref (0 + 3)), some (.ref (43 + 3)), some (.int i)] [.int i, .ref 2, .int (X.2 (i + (1 : Int32)).toNatClampNeg), .ref (0 + 3)] _ _ from ?_)
  refine zy_3 rfl rfl (show zyR _ _ _ _ [some (.ref 2), some (.ref (0 + 3)), some (.ref (43 + 3)), some (.int i)] [.int (2 : Int32), .int i, .ref 2, .int (X.2 (i + (1 : Int32)).toNatClampNeg), .ref (0 + 3)] _ _ from ?_)
  refine zy_10 rfl (show zyR _ _ _ _ [some (.ref 2), some (.ref (0 + 3)), some (.ref (43 + 3)), some (.int i)] [.int (i + (2 : Int32)), .ref 2, .int (X.2 (i + (1 : Int32)).toNatClampNeg), .ref (0 + 3)] _ _ from ?_)
  refine zy_26s rfl (zl_in hX i0 i6 (by decide) (by decide)) (show zyR _ _ _ _ [some (.ref 2), some (.ref (0 + 3)), some (.ref (43 + 3)), some (.int i)] [.int (X.2 (i + (2 : Int32)).toNatClampNeg), .int (X.2 (i + (1 : Int32)).toNatClampNeg), .ref (0 + 3)] _ _ from ?_)
  refine zy_5 (c := 0) (as := [.int (X.2 (i + (1 : Int32)).toNatClampNeg), .int (X.2 (i + (2 : Int32)).toNatClampNeg)]) (rest := []) (L := [some (.ref (0 + 3)), some (.int (X.2 (i + (1 : Int32)).toNatClampNeg)), some (.int (X.2 (i + (2 : Int32)).toNatClampNeg)), none]) (d' := 7) rfl rfl rfl (Nat.le_of_ble_eq_true rfl) (Nat.le_of_ble_eq_true rfl) rfl (Nat.le_of_ble_eq_true rfl) rfl rfl (zyC50 f1) ?_
  show zyR _ _ _ _ [some (.ref 2), some (.ref (0 + 3)), some (.ref (43 + 3)), some (.int i)] [.int r] _ _
  refine zy_34 rfl rfl (show zyR _ _ _ _ [some (.ref 2), some (.ref (0 + 3)), some (.ref (43 + 3)), some (.int i)] [] _ _ from ?_)
  refine zy_0 rfl rfl (show zyR _ _ _ _ [some (.ref 2), some (.ref (0 + 3)), some (.ref (43 + 3)), some (.int i)] [.ref (43 + 3)] _ _ from ?_)
  refine zy_0 rfl rfl (show zyR _ _ _ _ [some (.ref 2), some (.ref (0 + 3)), some (.ref (43 + 3)), some (.int i)] [.ref 2, .ref (43 + 3)] _ _ from ?_)
  refine zy_2 rfl rfl (show zyR _ _ _ _ [some (.ref 2), some (.ref (0 + 3)), some (.ref (43 + 3)), some (.int i)] [.int i, .ref 2, .ref (43 + 3)] _ _ from ?_)
  refine zy_3 rfl rfl (show zyR _ _ _ _ [some (.ref 2), some (.ref (0 + 3)), some (.ref (43 + 3)), some (.int i)] [.int (1 : Int32), .int i, .ref 2, .ref (43 + 3)] _ _ from ?_)
  refine zy_10 rfl (show zyR _ _ _ _ [some (.ref 2), some (.ref (0 + 3)), some (.ref (43 + 3)), some (.int i)] [.int (i + (1 : Int32)), .ref 2, .ref (43 + 3)] _ _ from ?_)
  refine zy_26s rfl (zl_in hX i0 i6 (by decide) (by decide)) (show zyR _ _ _ _ [some (.ref 2), some (.ref (0 + 3)), some (.ref (43 + 3)), some (.int i)] [.int (X.2 (i + (1 : Int32)).toNatClampNeg), .ref (43 + 3)] _ _ from ?_)
  refine zy_0 rfl rfl (show zyR _ _ _ _ [some (.ref 2), some (.ref (0 + 3)), some (.ref (43 + 3)), some (.int i)] [.ref 2, .int (X.2 (i + (1 : Int32)).toNatClampNeg), .ref (43 + 3)] _ _ from ?_)
  refine zy_2 rfl rfl (show zyR _ _ _ _ [some (.ref 2), some (.ref (0 + 3)), some (.ref (43 + 3)), some (.int i)] [.int i, .ref 2, .int (X.2 (i + (1 : Int32)).toNatClampNeg), .ref (43 + 3)] _ _ from ?_)
  refine zy_3 rfl rfl (show zyR _ _ _ _ [some (.ref 2), some (.ref (0 + 3)), some (.ref (43 + 3)), some (.int i)] [.int (2 : Int32), .int i, .ref 2, .int (X.2 (i + (1 : Int32)).toNatClampNeg), .ref (43 + 3)] _ _ from ?_)
  refine zy_10 rfl (show zyR _ _ _ _ [some (.ref 2), some (.ref (0 + 3)), some (.ref (43 + 3)), some (.int i)] [.int (i + (2 : Int32)), .ref 2, .int (X.2 (i + (1 : Int32)).toNatClampNeg), .ref (43 + 3)] _ _ from ?_)
  refine zy_26s rfl (zl_in hX i0 i6 (by decide) (by decide)) (show zyR _ _ _ _ [some (.ref 2), some (.ref (0 + 3)), some (.ref (43 + 3)), some (.int i)] [.int (X.2 (i + (2 : Int32)).toNatClampNeg), .int (X.2 (i + (1 : Int32)).toNatClampNeg), .ref (43 + 3)] _ _ from ?_)
  refine zy_5 (c := 43) (as := [.int (X.2 (i + (1 : Int32)).toNatClampNeg), .int (X.2 (i + (2 : Int32)).toNatClampNeg)]) (rest := []) (L := [some (.ref (43 + 3)), some (.int (X.2 (i + (1 : Int32)).toNatClampNeg)), some (.int (X.2 (i + (2 : Int32)).toNatClampNeg)), none, none, none]) (d' := 105) rfl rfl rfl (Nat.le_of_ble_eq_true rfl) (Nat.le_of_ble_eq_true rfl) rfl (Nat.le_of_ble_eq_true rfl) rfl rfl (zyC202 f2) ?_
  show zyR _ _ _ _ [some (.ref 2), some (.ref (0 + 3)), some (.ref (43 + 3)), some (.int i)] [.int r] _ _
  refine zy_34 rfl rfl (show zyR _ _ _ _ [some (.ref 2), some (.ref (0 + 3)), some (.ref (43 + 3)), some (.int i)] [] _ _ from ?_)
  exact zy_6 rfl (k _ hI)
theorem zlc_7 {X : zx_X} {i : Int32} {s : zy_S} {P : Option Value → zy_S → Prop} (hX : X.1 ≤ 3072) (i0 : 0 ≤ i.toInt) (i6 : i.toInt + 6 ≤ X.1) (h : zI s) (k : ∀ t, zI t → zyR X 2000 0 1435 [some (.ref 2), some (.ref (0 + 3)), some (.ref (43 + 3)), some (.int i)] [] t P) : zyR X 2000 0 423 [some (.ref 2), some (.ref (0 + 3)), some (.ref (43 + 3)), some (.int i)] [] s P := by
  obtain ⟨r, s1, s2, f1, f2, hI⟩ := zop_ifLine ((X.2 (i + (1 : Int32)).toNatClampNeg)) h
  refine zy_0 rfl rfl (show zyR _ _ _ _ [some (.ref 2), some (.ref (0 + 3)), some (.ref (43 + 3)), some (.int i)] [.ref (0 + 3)] _ _ from ?_)
  refine zy_0 rfl rfl (show zyR _ _ _ _ [some (.ref 2), some (.ref (0 + 3)), some (.ref (43 + 3)), some (.int i)] [.ref 2, .ref (0 + 3)] _ _ from ?_)
  refine zy_2 rfl rfl (show zyR _ _ _ _ [some (.ref 2), some (.ref (0 + 3)), some (.ref (43 + 3)), some (.int i)] [.int i, .ref 2, .ref (0 + 3)] _ _ from ?_)
  refine zy_3 rfl rfl (show zyR _ _ _ _ [some (.ref 2), some (.ref (0 + 3)), some (.ref (43 + 3)), some (.int i)] [.int (1 : Int32), .int i, .ref 2, .ref (0 + 3)] _ _ from ?_)
  refine zy_10 rfl (show zyR _ _ _ _ [some (.ref 2), some (.ref (0 + 3)), some (.ref (43 + 3)), some (.int i)] [.int (i + (1 : Int32)), .ref 2, .ref (0 + 3)] _ _ from ?_)
  refine zy_26s rfl (zl_in hX i0 i6 (by decide) (by decide)) (show zyR _ _ _ _ [some (.ref 2), some (.ref (0 + 3)), some (.ref (43 + 3)), some (.int i)] [.int (X.2 (i + (1 : Int32)).toNatClampNeg), .ref (0 + 3)] _ _ from ?_)
  refine zy_5 (c := 0) (as := [.int (X.2 (i + (1 : Int32)).toNatClampNeg)]) (rest := []) (L := [some (.ref (0 + 3)), some (.int (X.2 (i + (1 : Int32)).toNatClampNeg))]) (d' := 8) rfl rfl rfl (Nat.le_of_ble_eq_true rfl) (Nat.le_of_ble_eq_true rfl) rfl (Nat.le_of_ble_eq_true rfl) rfl rfl (zyC72 f1) ?_
  show zyR _ _ _ _ [some (.ref 2), some (.ref (0 + 3)), some (.ref (43 + 3)), some (.int i)] [.int r] _ _
  refine zy_34 rfl rfl (show zyR _ _ _ _ [some (.ref 2), some (.ref (0 + 3)), some (.ref (43 + 3)), some (.int i)] [] _ _ from ?_)
  refine zy_0 rfl rfl (show zyR _ _ _ _ [some (.ref 2), some (.ref (0 + 3)), some (.ref (43 + 3)), some (.int i)] [.ref (43 + 3)] _ _ from ?_)
  refine zy_0 rfl rfl (show zyR _ _ _ _ [some (.ref 2), some (.ref (0 + 3)), some (.ref (43 + 3)), some (.int i)] [.ref 2, .ref (43 + 3)] _ _ from ?_)
  refine zy_2 rfl rfl (show zyR _ _ _ _ [some (.ref 2), some (.ref (0 + 3)), some (.ref (43 + 3)), some (.int i)] [.int i, .ref 2, .ref (43 + 3)] _ _ from ?_)
  refine zy_3 rfl rfl (show zyR _ _ _ _ [some (.ref 2), some (.ref (0 + 3)), some (.ref (43 + 3)), some (.int i)] [.int (1 : Int32), .int i, .ref 2, .ref (43 + 3)] _ _ from ?_)
  refine zy_10 rfl (show zyR _ _ _ _ [some (.ref 2), some (.ref (0 + 3)), some (.ref (43 + 3)), some (.int i)] [.int (i + (1 : Int32)), .ref 2, .ref (43 + 3)] _ _ from ?_)
  refine zy_26s rfl (zl_in hX i0 i6 (by decide) (by decide)) (show zyR _ _ _ _ [some (.ref 2), some (.ref (0 + 3)), some (.ref (43 + 3)), some (.int i)] [.int (X.2 (i + (1 : Int32)).toNatClampNeg), .ref (43 + 3)] _ _ from ?_)
  refine zy_5 (c := 43) (as := [.int (X.2 (i + (1 : Int32)).toNatClampNeg)]) (rest := []) (L := [some (.ref (43 + 3)), some (.int (X.2 (i + (1 : Int32)).toNatClampNeg))]) (d' := 108) rfl rfl rfl (Nat.le_of_ble_eq_true rfl) (Nat.le_of_ble_eq_true rfl) rfl (Nat.le_of_ble_eq_true rfl) rfl rfl (zyC210 f2) ?_
  show zyR _ _ _ _ [some (.ref 2), some (.ref (0 + 3)), some (.ref (43 + 3)), some (.int i)] [.int r] _ _
  refine zy_34 rfl rfl (show zyR _ _ _ _ [some (.ref 2), some (.ref (0 + 3)), some (.ref (43 + 3)), some (.int i)] [] _ _ from ?_)
  exact zy_6 rfl (k _ hI)
theorem zlc_8 {X : zx_X} {i : Int32} {s : zy_S} {P : Option Value → zy_S → Prop} (hX : X.1 ≤ 3072) (i0 : 0 ≤ i.toInt) (i6 : i.toInt + 6 ≤ X.1) (h : zI s) (k : ∀ t, zI t → zyR X 2000 0 1435 [some (.ref 2), some (.ref (0 + 3)), some (.ref (43 + 3)), some (.int i)] [] t P) : zyR X 2000 0 446 [some (.ref 2), some (.ref (0 + 3)), some (.ref (43 + 3)), some (.int i)] [] s P := by
  obtain ⟨r, s1, s2, f1, f2, hI⟩ := zop_board ((X.2 (i + (1 : Int32)).toNatClampNeg)) h
  refine zy_0 rfl rfl (show zyR _ _ _ _ [some (.ref 2), some (.ref (0 + 3)), some (.ref (43 + 3)), some (.int i)] [.ref (0 + 3)] _ _ from ?_)
  refine zy_0 rfl rfl (show zyR _ _ _ _ [some (.ref 2), some (.ref (0 + 3)), some (.ref (43 + 3)), some (.int i)] [.ref 2, .ref (0 + 3)] _ _ from ?_)
  refine zy_2 rfl rfl (show zyR _ _ _ _ [some (.ref 2), some (.ref (0 + 3)), some (.ref (43 + 3)), some (.int i)] [.int i, .ref 2, .ref (0 + 3)] _ _ from ?_)
  refine zy_3 rfl rfl (show zyR _ _ _ _ [some (.ref 2), some (.ref (0 + 3)), some (.ref (43 + 3)), some (.int i)] [.int (1 : Int32), .int i, .ref 2, .ref (0 + 3)] _ _ from ?_)
  refine zy_10 rfl (show zyR _ _ _ _ [some (.ref 2), some (.ref (0 + 3)), some (.ref (43 + 3)), some (.int i)] [.int (i + (1 : Int32)), .ref 2, .ref (0 + 3)] _ _ from ?_)
  refine zy_26s rfl (zl_in hX i0 i6 (by decide) (by decide)) (show zyR _ _ _ _ [some (.ref 2), some (.ref (0 + 3)), some (.ref (43 + 3)), some (.int i)] [.int (X.2 (i + (1 : Int32)).toNatClampNeg), .ref (0 + 3)] _ _ from ?_)
  refine zy_5 (c := 0) (as := [.int (X.2 (i + (1 : Int32)).toNatClampNeg)]) (rest := []) (L := [some (.ref (0 + 3)), some (.int (X.2 (i + (1 : Int32)).toNatClampNeg))]) (d' := 8) rfl rfl rfl (Nat.le_of_ble_eq_true rfl) (Nat.le_of_ble_eq_true rfl) rfl (Nat.le_of_ble_eq_true rfl) rfl rfl (zyC75 f1) ?_
  show zyR _ _ _ _ [some (.ref 2), some (.ref (0 + 3)), some (.ref (43 + 3)), some (.int i)] [.int r] _ _
  refine zy_0 rfl rfl (show zyR _ _ _ _ [some (.ref 2), some (.ref (0 + 3)), some (.ref (43 + 3)), some (.int i)] [.ref (43 + 3), .int r] _ _ from ?_)
  refine zy_0 rfl rfl (show zyR _ _ _ _ [some (.ref 2), some (.ref (0 + 3)), some (.ref (43 + 3)), some (.int i)] [.ref 2, .ref (43 + 3), .int r] _ _ from ?_)
  refine zy_2 rfl rfl (show zyR _ _ _ _ [some (.ref 2), some (.ref (0 + 3)), some (.ref (43 + 3)), some (.int i)] [.int i, .ref 2, .ref (43 + 3), .int r] _ _ from ?_)
  refine zy_3 rfl rfl (show zyR _ _ _ _ [some (.ref 2), some (.ref (0 + 3)), some (.ref (43 + 3)), some (.int i)] [.int (1 : Int32), .int i, .ref 2, .ref (43 + 3), .int r] _ _ from ?_)
  refine zy_10 rfl (show zyR _ _ _ _ [some (.ref 2), some (.ref (0 + 3)), some (.ref (43 + 3)), some (.int i)] [.int (i + (1 : Int32)), .ref 2, .ref (43 + 3), .int r] _ _ from ?_)
  refine zy_26s rfl (zl_in hX i0 i6 (by decide) (by decide)) (show zyR _ _ _ _ [some (.ref 2), some (.ref (0 + 3)), some (.ref (43 + 3)), some (.int i)] [.int (X.2 (i + (1 : Int32)).toNatClampNeg), .ref (43 + 3), .int r] _ _ from ?_)
  refine zy_5 (c := 43) (as := [.int (X.2 (i + (1 : Int32)).toNatClampNeg)]) (rest := [.int r]) (L := [some (.ref (43 + 3)), some (.int (X.2 (i + (1 : Int32)).toNatClampNeg))]) (d' := 107) rfl rfl rfl (Nat.le_of_ble_eq_true rfl) (Nat.le_of_ble_eq_true rfl) rfl (Nat.le_of_ble_eq_true rfl) rfl rfl (zyC214 f2) ?_
  show zyR _ _ _ _ [some (.ref 2), some (.ref (0 + 3)), some (.ref (43 + 3)), some (.int i)] [.int r, .int r] _ _
  exact zy_25_0 rfl (fun _ => k _ hI) (fun g => absurd rfl g)
theorem zlc_9 {X : zx_X} {i : Int32} {s : zy_S} {P : Option Value → zy_S → Prop} (hX : X.1 ≤ 3072) (i0 : 0 ≤ i.toInt) (i6 : i.toInt + 6 ≤ X.1) (h : zI s) (k : ∀ t, zI t → zyR X 2000 0 1435 [some (.ref 2), some (.ref (0 + 3)), some (.ref (43 + 3)), some (.int i)] [] t P) : zyR X 2000 0 469 [some (.ref 2), some (.ref (0 + 3)), some (.ref (43 + 3)), some (.int i)] [] s P := by
  obtain ⟨r, s1, s2, f1, f2, hI⟩ := zop_cost ((X.2 (i + (1 : Int32)).toNatClampNeg)) ((X.2 (i + (2 : Int32)).toNatClampNeg)) h
  refine zy_0 rfl rfl (show zyR _ _ _ _ [some (.ref 2), some (.ref (0 + 3)), some (.ref (43 + 3)), some (.int i)] [.ref (0 + 3)] _ _ from ?_)
  refine zy_0 rfl rfl (show zyR _ _ _ _ [some (.ref 2), some (.ref (0 + 3)), some (.ref (43 + 3)), some (.int i)] [.ref 2, .ref (0 + 3)] _ _ from ?_)
  refine zy_2 rfl rfl (show zyR _ _ _ _ [some (.ref 2), some (.ref (0 + 3)), some (.ref (43 + 3)), some (.int i)] [.int i, .ref 2, .ref (0 + 3)] _ _ from ?_)
  refine zy_3 rfl rfl (show zyR _ _ _ _ [some (.ref 2), some (.ref (0 + 3)), some (.ref (43 + 3)), some (.int i)] [.int (1 : Int32), .int i, .ref 2, .ref (0 + 3)] _ _ from ?_)
  refine zy_10 rfl (show zyR _ _ _ _ [some (.ref 2), some (.ref (0 + 3)), some (.ref (43 + 3)), some (.int i)] [.int (i + (1 : Int32)), .ref 2, .ref (0 + 3)] _ _ from ?_)
  refine zy_26s rfl (zl_in hX i0 i6 (by decide) (by decide)) (show zyR _ _ _ _ [some (.ref 2), some (.ref (0 + 3)), some (.ref (43 + 3)), some (.int i)] [.int (X.2 (i + (1 : Int32)).toNatClampNeg), .ref (0 + 3)] _ _ from ?_)
  refine zy_0 rfl rfl (show zyR _ _ _ _ [some (.ref 2), some (.ref (0 + 3)), some (.ref (43 + 3)), some (.int i)] [.ref 2, .int (X.2 (i + (1 : Int32)).toNatClampNeg), .ref (0 + 3)] _ _ from ?_)
  refine zy_2 rfl rfl (show zyR _ _ _ _ [some (.ref 2), some (.ref (0 + 3)), some (.ref (43 + 3)), some (.int i)] [.int i, .ref 2, .int (X.2 (i + (1 : Int32)).toNatClampNeg), .ref (0 + 3)] _ _ from ?_)
  refine zy_3 rfl rfl (show zyR _ _ _ _ [some (.ref 2), some (.ref (0 + 3)), some (.ref (43 + 3)), some (.int i)] [.int (2 : Int32), .int i, .ref 2, .int (X.2 (i + (1 : Int32)).toNatClampNeg), .ref (0 + 3)] _ _ from ?_)
  refine zy_10 rfl (show zyR _ _ _ _ [some (.ref 2), some (.ref (0 + 3)), some (.ref (43 + 3)), some (.int i)] [.int (i + (2 : Int32)), .ref 2, .int (X.2 (i + (1 : Int32)).toNatClampNeg), .ref (0 + 3)] _ _ from ?_)
  refine zy_26s rfl (zl_in hX i0 i6 (by decide) (by decide)) (show zyR _ _ _ _ [some (.ref 2), some (.ref (0 + 3)), some (.ref (43 + 3)), some (.int i)] [.int (X.2 (i + (2 : Int32)).toNatClampNeg), .int (X.2 (i + (1 : Int32)).toNatClampNeg), .ref (0 + 3)] _ _ from ?_)
  refine zy_5 (c := 0) (as := [.int (X.2 (i + (1 : Int32)).toNatClampNeg), .int (X.2 (i + (2 : Int32)).toNatClampNeg)]) (rest := []) (L := [some (.ref (0 + 3)), some (.int (X.2 (i + (1 : Int32)).toNatClampNeg)), some (.int (X.2 (i + (2 : Int32)).toNatClampNeg)), none]) (d' := 8) rfl rfl rfl (Nat.le_of_ble_eq_true rfl) (Nat.le_of_ble_eq_true rfl) rfl (Nat.le_of_ble_eq_true rfl) rfl rfl (zyC83 f1) ?_
  show zyR _ _ _ _ [some (.ref 2), some (.ref (0 + 3)), some (.ref (43 + 3)), some (.int i)] [.int r] _ _
  refine zy_34 rfl rfl (show zyR _ _ _ _ [some (.ref 2), some (.ref (0 + 3)), some (.ref (43 + 3)), some (.int i)] [] _ _ from ?_)
  refine zy_0 rfl rfl (show zyR _ _ _ _ [some (.ref 2), some (.ref (0 + 3)), some (.ref (43 + 3)), some (.int i)] [.ref (43 + 3)] _ _ from ?_)
  refine zy_0 rfl rfl (show zyR _ _ _ _ [some (.ref 2), some (.ref (0 + 3)), some (.ref (43 + 3)), some (.int i)] [.ref 2, .ref (43 + 3)] _ _ from ?_)
  refine zy_2 rfl rfl (show zyR _ _ _ _ [some (.ref 2), some (.ref (0 + 3)), some (.ref (43 + 3)), some (.int i)] [.int i, .ref 2, .ref (43 + 3)] _ _ from ?_)
  refine zy_3 rfl rfl (show zyR _ _ _ _ [some (.ref 2), some (.ref (0 + 3)), some (.ref (43 + 3)), some (.int i)] [.int (1 : Int32), .int i, .ref 2, .ref (43 + 3)] _ _ from ?_)
  refine zy_10 rfl (show zyR _ _ _ _ [some (.ref 2), some (.ref (0 + 3)), some (.ref (43 + 3)), some (.int i)] [.int (i + (1 : Int32)), .ref 2, .ref (43 + 3)] _ _ from ?_)
  refine zy_26s rfl (zl_in hX i0 i6 (by decide) (by decide)) (show zyR _ _ _ _ [some (.ref 2), some (.ref (0 + 3)), some (.ref (43 + 3)), some (.int i)] [.int (X.2 (i + (1 : Int32)).toNatClampNeg), .ref (43 + 3)] _ _ from ?_)
  refine zy_0 rfl rfl (show zyR _ _ _ _ [some (.ref 2), some (.ref (0 + 3)), some (.ref (43 + 3)), some (.int i)] [.ref 2, .int (X.2 (i + (1 : Int32)).toNatClampNeg), .ref (43 + 3)] _ _ from ?_)
  refine zy_2 rfl rfl (show zyR _ _ _ _ [some (.ref 2), some (.ref (0 + 3)), some (.ref (43 + 3)), some (.int i)] [.int i, .ref 2, .int (X.2 (i + (1 : Int32)).toNatClampNeg), .ref (43 + 3)] _ _ from ?_)
  refine zy_3 rfl rfl (show zyR _ _ _ _ [some (.ref 2), some (.ref (0 + 3)), some (.ref (43 + 3)), some (.int i)] [.int (2 : Int32), .int i, .ref 2, .int (X.2 (i + (1 : Int32)).toNatClampNeg), .ref (43 + 3)] _ _ from ?_)
  refine zy_10 rfl (show zyR _ _ _ _ [some (.ref 2), some (.ref (0 + 3)), some (.ref (43 + 3)), some (.int i)] [.int (i + (2 : Int32)), .ref 2, .int (X.2 (i + (1 : Int32)).toNatClampNeg), .ref (43 + 3)] _ _ from ?_)
  refine zy_26s rfl (zl_in hX i0 i6 (by decide) (by decide)) (show zyR _ _ _ _ [some (.ref 2), some (.ref (0 + 3)), some (.ref (43 + 3)), some (.int i)] [.int (X.2 (i + (2 : Int32)).toNatClampNeg), .int (X.2 (i + (1 : Int32)).toNatClampNeg), .ref (43 + 3)] _ _ from ?_)
  refine zy_5 (c := 43) (as := [.int (X.2 (i + (1 : Int32)).toNatClampNeg), .int (X.2 (i + (2 : Int32)).toNatClampNeg)]) (rest := []) (L := [some (.ref (43 + 3)), some (.int (X.2 (i + (1 : Int32)).toNatClampNeg)), some (.int (X.2 (i + (2 : Int32)).toNatClampNeg)), none, none, none, none]) (d' := 108) rfl rfl rfl (Nat.le_of_ble_eq_true rfl) (Nat.le_of_ble_eq_true rfl) rfl (Nat.le_of_ble_eq_true rfl) rfl rfl (zyC217 f2) ?_
  show zyR _ _ _ _ [some (.ref 2), some (.ref (0 + 3)), some (.ref (43 + 3)), some (.int i)] [.int r] _ _
  refine zy_34 rfl rfl (show zyR _ _ _ _ [some (.ref 2), some (.ref (0 + 3)), some (.ref (43 + 3)), some (.int i)] [] _ _ from ?_)
  exact zy_6 rfl (k _ hI)
theorem zlc_10 {X : zx_X} {i : Int32} {s : zy_S} {P : Option Value → zy_S → Prop} (hX : X.1 ≤ 3072) (i0 : 0 ≤ i.toInt) (i6 : i.toInt + 6 ≤ X.1) (h : zI s) (k : ∀ t, zI t → zyR X 2000 0 1435 [some (.ref 2), some (.ref (0 + 3)), some (.ref (43 + 3)), some (.int i)] [] t P) : zyR X 2000 0 502 [some (.ref 2), some (.ref (0 + 3)), some (.ref (43 + 3)), some (.int i)] [] s P := by
  obtain ⟨r, s1, s2, f1, f2, hI⟩ := zop_helps ((X.2 (i + (1 : Int32)).toNatClampNeg)) h
  refine zy_0 rfl rfl (show zyR _ _ _ _ [some (.ref 2), some (.ref (0 + 3)), some (.ref (43 + 3)), some (.int i)] [.ref (0 + 3)] _ _ from ?_)
  refine zy_0 rfl rfl (show zyR _ _ _ _ [some (.ref 2), some (.ref (0 + 3)), some (.ref (43 + 3)), some (.int i)] [.ref 2, .ref (0 + 3)] _ _ from ?_)
  refine zy_2 rfl rfl (show zyR _ _ _ _ [some (.ref 2), some (.ref (0 + 3)), some (.ref (43 + 3)), some (.int i)] [.int i, .ref 2, .ref (0 + 3)] _ _ from ?_)
  refine zy_3 rfl rfl (show zyR _ _ _ _ [some (.ref 2), some (.ref (0 + 3)), some (.ref (43 + 3)), some (.int i)] [.int (1 : Int32), .int i, .ref 2, .ref (0 + 3)] _ _ from ?_)
  refine zy_10 rfl (show zyR _ _ _ _ [some (.ref 2), some (.ref (0 + 3)), some (.ref (43 + 3)), some (.int i)] [.int (i + (1 : Int32)), .ref 2, .ref (0 + 3)] _ _ from ?_)
  refine zy_26s rfl (zl_in hX i0 i6 (by decide) (by decide)) (show zyR _ _ _ _ [some (.ref 2), some (.ref (0 + 3)), some (.ref (43 + 3)), some (.int i)] [.int (X.2 (i + (1 : Int32)).toNatClampNeg), .ref (0 + 3)] _ _ from ?_)
  refine zy_5 (c := 0) (as := [.int (X.2 (i + (1 : Int32)).toNatClampNeg)]) (rest := []) (L := [some (.ref (0 + 3)), some (.int (X.2 (i + (1 : Int32)).toNatClampNeg)), none]) (d' := 8) rfl rfl rfl (Nat.le_of_ble_eq_true rfl) (Nat.le_of_ble_eq_true rfl) rfl (Nat.le_of_ble_eq_true rfl) rfl rfl (zyC89 f1) ?_
  show zyR _ _ _ _ [some (.ref 2), some (.ref (0 + 3)), some (.ref (43 + 3)), some (.int i)] [.int r] _ _
  refine zy_34 rfl rfl (show zyR _ _ _ _ [some (.ref 2), some (.ref (0 + 3)), some (.ref (43 + 3)), some (.int i)] [] _ _ from ?_)
  refine zy_0 rfl rfl (show zyR _ _ _ _ [some (.ref 2), some (.ref (0 + 3)), some (.ref (43 + 3)), some (.int i)] [.ref (43 + 3)] _ _ from ?_)
  refine zy_0 rfl rfl (show zyR _ _ _ _ [some (.ref 2), some (.ref (0 + 3)), some (.ref (43 + 3)), some (.int i)] [.ref 2, .ref (43 + 3)] _ _ from ?_)
  refine zy_2 rfl rfl (show zyR _ _ _ _ [some (.ref 2), some (.ref (0 + 3)), some (.ref (43 + 3)), some (.int i)] [.int i, .ref 2, .ref (43 + 3)] _ _ from ?_)
  refine zy_3 rfl rfl (show zyR _ _ _ _ [some (.ref 2), some (.ref (0 + 3)), some (.ref (43 + 3)), some (.int i)] [.int (1 : Int32), .int i, .ref 2, .ref (43 + 3)] _ _ from ?_)
  refine zy_10 rfl (show zyR _ _ _ _ [some (.ref 2), some (.ref (0 + 3)), some (.ref (43 + 3)), some (.int i)] [.int (i + (1 : Int32)), .ref 2, .ref (43 + 3)] _ _ from ?_)
  refine zy_26s rfl (zl_in hX i0 i6 (by decide) (by decide)) (show zyR _ _ _ _ [some (.ref 2), some (.ref (0 + 3)), some (.ref (43 + 3)), some (.int i)] [.int (X.2 (i + (1 : Int32)).toNatClampNeg), .ref (43 + 3)] _ _ from ?_)
  refine zy_5 (c := 43) (as := [.int (X.2 (i + (1 : Int32)).toNatClampNeg)]) (rest := []) (L := [some (.ref (43 + 3)), some (.int (X.2 (i + (1 : Int32)).toNatClampNeg)), none, none, none, none]) (d' := 108) rfl rfl rfl (Nat.le_of_ble_eq_true rfl) (Nat.le_of_ble_eq_true rfl) rfl (Nat.le_of_ble_eq_true rfl) rfl rfl (zyC218 f2) ?_
  show zyR _ _ _ _ [some (.ref 2), some (.ref (0 + 3)), some (.ref (43 + 3)), some (.int i)] [.int r] _ _
  refine zy_34 rfl rfl (show zyR _ _ _ _ [some (.ref 2), some (.ref (0 + 3)), some (.ref (43 + 3)), some (.int i)] [] _ _ from ?_)
  exact zy_6 rfl (k _ hI)
theorem zlc_11 {X : zx_X} {i : Int32} {s : zy_S} {P : Option Value → zy_S → Prop} (hX : X.1 ≤ 3072) (i0 : 0 ≤ i.toInt) (i6 : i.toInt + 6 ≤ X.1) (h : zI s) (k : ∀ t, zI t → zyR X 2000 0 1435 [some (.ref 2), some (.ref (0 + 3)), some (.ref (43 + 3)), some (.int i)] [] t P) : zyR X 2000 0 525 [some (.ref 2), some (.ref (0 + 3)), some (.ref (43 + 3)), some (.int i)] [] s P := by
  obtain ⟨r, s1, s2, f1, f2, hI⟩ := zop_lines ((X.2 (i + (1 : Int32)).toNatClampNeg)) h
  refine zy_0 rfl rfl (show zyR _ _ _ _ [some (.ref 2), some (.ref (0 + 3)), some (.ref (43 + 3)), some (.int i)] [.ref (0 + 3)] _ _ from ?_)
  refine zy_0 rfl rfl (show zyR _ _ _ _ [some (.ref 2), some (.ref (0 + 3)), some (.ref (43 + 3)), some (.int i)] [.ref 2, .ref (0 + 3)] _ _ from ?_)
  refine zy_2 rfl rfl (show zyR _ _ _ _ [some (.ref 2), some (.ref (0 + 3)), some (.ref (43 + 3)), some (.int i)] [.int i, .ref 2, .ref (0 + 3)] _ _ from ?_)
  refine zy_3 rfl rfl (show zyR _ _ _ _ [some (.ref 2), some (.ref (0 + 3)), some (.ref (43 + 3)), some (.int i)] [.int (1 : Int32), .int i, .ref 2, .ref (0 + 3)] _ _ from ?_)
  refine zy_10 rfl (show zyR _ _ _ _ [some (.ref 2), some (.ref (0 + 3)), some (.ref (43 + 3)), some (.int i)] [.int (i + (1 : Int32)), .ref 2, .ref (0 + 3)] _ _ from ?_)
  refine zy_26s rfl (zl_in hX i0 i6 (by decide) (by decide)) (show zyR _ _ _ _ [some (.ref 2), some (.ref (0 + 3)), some (.ref (43 + 3)), some (.int i)] [.int (X.2 (i + (1 : Int32)).toNatClampNeg), .ref (0 + 3)] _ _ from ?_)
  refine zy_5 (c := 0) (as := [.int (X.2 (i + (1 : Int32)).toNatClampNeg)]) (rest := []) (L := [some (.ref (0 + 3)), some (.int (X.2 (i + (1 : Int32)).toNatClampNeg))]) (d' := 5) rfl rfl rfl (Nat.le_of_ble_eq_true rfl) (Nat.le_of_ble_eq_true rfl) rfl (Nat.le_of_ble_eq_true rfl) rfl rfl (zyC93 f1) ?_
  show zyR _ _ _ _ [some (.ref 2), some (.ref (0 + 3)), some (.ref (43 + 3)), some (.int i)] [.int r] _ _
  refine zy_34 rfl rfl (show zyR _ _ _ _ [some (.ref 2), some (.ref (0 + 3)), some (.ref (43 + 3)), some (.int i)] [] _ _ from ?_)
  refine zy_0 rfl rfl (show zyR _ _ _ _ [some (.ref 2), some (.ref (0 + 3)), some (.ref (43 + 3)), some (.int i)] [.ref (43 + 3)] _ _ from ?_)
  refine zy_0 rfl rfl (show zyR _ _ _ _ [some (.ref 2), some (.ref (0 + 3)), some (.ref (43 + 3)), some (.int i)] [.ref 2, .ref (43 + 3)] _ _ from ?_)
  refine zy_2 rfl rfl (show zyR _ _ _ _ [some (.ref 2), some (.ref (0 + 3)), some (.ref (43 + 3)), some (.int i)] [.int i, .ref 2, .ref (43 + 3)] _ _ from ?_)
  refine zy_3 rfl rfl (show zyR _ _ _ _ [some (.ref 2), some (.ref (0 + 3)), some (.ref (43 + 3)), some (.int i)] [.int (1 : Int32), .int i, .ref 2, .ref (43 + 3)] _ _ from ?_)
  refine zy_10 rfl (show zyR _ _ _ _ [some (.ref 2), some (.ref (0 + 3)), some (.ref (43 + 3)), some (.int i)] [.int (i + (1 : Int32)), .ref 2, .ref (43 + 3)] _ _ from ?_)
  refine zy_26s rfl (zl_in hX i0 i6 (by decide) (by decide)) (show zyR _ _ _ _ [some (.ref 2), some (.ref (0 + 3)), some (.ref (43 + 3)), some (.int i)] [.int (X.2 (i + (1 : Int32)).toNatClampNeg), .ref (43 + 3)] _ _ from ?_)
  refine zy_5 (c := 43) (as := [.int (X.2 (i + (1 : Int32)).toNatClampNeg)]) (rest := []) (L := [some (.ref (43 + 3)), some (.int (X.2 (i + (1 : Int32)).toNatClampNeg)), none, none, none]) (d' := 5) rfl rfl rfl (Nat.le_of_ble_eq_true rfl) (Nat.le_of_ble_eq_true rfl) rfl (Nat.le_of_ble_eq_true rfl) rfl rfl (zyC220 f2) ?_
  show zyR _ _ _ _ [some (.ref 2), some (.ref (0 + 3)), some (.ref (43 + 3)), some (.int i)] [.int r] _ _
  refine zy_34 rfl rfl (show zyR _ _ _ _ [some (.ref 2), some (.ref (0 + 3)), some (.ref (43 + 3)), some (.int i)] [] _ _ from ?_)
  exact zy_6 rfl (k _ hI)
theorem zlc_12 {X : zx_X} {i : Int32} {s : zy_S} {P : Option Value → zy_S → Prop} (hX : X.1 ≤ 3072) (i0 : 0 ≤ i.toInt) (i6 : i.toInt + 6 ≤ X.1) (h : zI s) (k : ∀ t, zI t → zyR X 2000 0 1435 [some (.ref 2), some (.ref (0 + 3)), some (.ref (43 + 3)), some (.int i)] [] t P) : zyR X 2000 0 548 [some (.ref 2), some (.ref (0 + 3)), some (.ref (43 + 3)), some (.int i)] [] s P := by
  obtain ⟨r, s1, s2, f1, f2, hI⟩ := zop_win ((X.2 (i + (1 : Int32)).toNatClampNeg)) ((X.2 (i + (2 : Int32)).toNatClampNeg)) h
  refine zy_0 rfl rfl (show zyR _ _ _ _ [some (.ref 2), some (.ref (0 + 3)), some (.ref (43 + 3)), some (.int i)] [.ref (0 + 3)] _ _ from ?_)
  refine zy_0 rfl rfl (show zyR _ _ _ _ [some (.ref 2), some (.ref (0 + 3)), some (.ref (43 + 3)), some (.int i)] [.ref 2, .ref (0 + 3)] _ _ from ?_)
  refine zy_2 rfl rfl (show zyR _ _ _ _ [some (.ref 2), some (.ref (0 + 3)), some (.ref (43 + 3)), some (.int i)] [.int i, .ref 2, .ref (0 + 3)] _ _ from ?_)
  refine zy_3 rfl rfl (show zyR _ _ _ _ [some (.ref 2), some (.ref (0 + 3)), some (.ref (43 + 3)), some (.int i)] [.int (1 : Int32), .int i, .ref 2, .ref (0 + 3)] _ _ from ?_)
  refine zy_10 rfl (show zyR _ _ _ _ [some (.ref 2), some (.ref (0 + 3)), some (.ref (43 + 3)), some (.int i)] [.int (i + (1 : Int32)), .ref 2, .ref (0 + 3)] _ _ from ?_)
  refine zy_26s rfl (zl_in hX i0 i6 (by decide) (by decide)) (show zyR _ _ _ _ [some (.ref 2), some (.ref (0 + 3)), some (.ref (43 + 3)), some (.int i)] [.int (X.2 (i + (1 : Int32)).toNatClampNeg), .ref (0 + 3)] _ _ from ?_)
  refine zy_0 rfl rfl (show zyR _ _ _ _ [some (.ref 2), some (.ref (0 + 3)), some (.ref (43 + 3)), some (.int i)] [.ref 2, .int (X.2 (i + (1 : Int32)).toNatClampNeg), .ref (0 + 3)] _ _ from ?_)
  refine zy_2 rfl rfl (show zyR _ _ _ _ [some (.ref 2), some (.ref (0 + 3)), some (.ref (43 + 3)), some (.int i)] [.int i, .ref 2, .int (X.2 (i + (1 : Int32)).toNatClampNeg), .ref (0 + 3)] _ _ from ?_)
  refine zy_3 rfl rfl (show zyR _ _ _ _ [some (.ref 2), some (.ref (0 + 3)), some (.ref (43 + 3)), some (.int i)] [.int (2 : Int32), .int i, .ref 2, .int (X.2 (i + (1 : Int32)).toNatClampNeg), .ref (0 + 3)] _ _ from ?_)
  refine zy_10 rfl (show zyR _ _ _ _ [some (.ref 2), some (.ref (0 + 3)), some (.ref (43 + 3)), some (.int i)] [.int (i + (2 : Int32)), .ref 2, .int (X.2 (i + (1 : Int32)).toNatClampNeg), .ref (0 + 3)] _ _ from ?_)
  refine zy_26s rfl (zl_in hX i0 i6 (by decide) (by decide)) (show zyR _ _ _ _ [some (.ref 2), some (.ref (0 + 3)), some (.ref (43 + 3)), some (.int i)] [.int (X.2 (i + (2 : Int32)).toNatClampNeg), .int (X.2 (i + (1 : Int32)).toNatClampNeg), .ref (0 + 3)] _ _ from ?_)
  refine zy_5 (c := 0) (as := [.int (X.2 (i + (1 : Int32)).toNatClampNeg), .int (X.2 (i + (2 : Int32)).toNatClampNeg)]) (rest := []) (L := [some (.ref (0 + 3)), some (.int (X.2 (i + (1 : Int32)).toNatClampNeg)), some (.int (X.2 (i + (2 : Int32)).toNatClampNeg)), none]) (d' := 5) rfl rfl rfl (Nat.le_of_ble_eq_true rfl) (Nat.le_of_ble_eq_true rfl) rfl (Nat.le_of_ble_eq_true rfl) rfl rfl (zyC100 f1) ?_
  show zyR _ _ _ _ [some (.ref 2), some (.ref (0 + 3)), some (.ref (43 + 3)), some (.int i)] [.int r] _ _
  refine zy_34 rfl rfl (show zyR _ _ _ _ [some (.ref 2), some (.ref (0 + 3)), some (.ref (43 + 3)), some (.int i)] [] _ _ from ?_)
  refine zy_0 rfl rfl (show zyR _ _ _ _ [some (.ref 2), some (.ref (0 + 3)), some (.ref (43 + 3)), some (.int i)] [.ref (43 + 3)] _ _ from ?_)
  refine zy_0 rfl rfl (show zyR _ _ _ _ [some (.ref 2), some (.ref (0 + 3)), some (.ref (43 + 3)), some (.int i)] [.ref 2, .ref (43 + 3)] _ _ from ?_)
  refine zy_2 rfl rfl (show zyR _ _ _ _ [some (.ref 2), some (.ref (0 + 3)), some (.ref (43 + 3)), some (.int i)] [.int i, .ref 2, .ref (43 + 3)] _ _ from ?_)
  refine zy_3 rfl rfl (show zyR _ _ _ _ [some (.ref 2), some (.ref (0 + 3)), some (.ref (43 + 3)), some (.int i)] [.int (1 : Int32), .int i, .ref 2, .ref (43 + 3)] _ _ from ?_)
  refine zy_10 rfl (show zyR _ _ _ _ [some (.ref 2), some (.ref (0 + 3)), some (.ref (43 + 3)), some (.int i)] [.int (i + (1 : Int32)), .ref 2, .ref (43 + 3)] _ _ from ?_)
  refine zy_26s rfl (zl_in hX i0 i6 (by decide) (by decide)) (show zyR _ _ _ _ [some (.ref 2), some (.ref (0 + 3)), some (.ref (43 + 3)), some (.int i)] [.int (X.2 (i + (1 : Int32)).toNatClampNeg), .ref (43 + 3)] _ _ from ?_)
  refine zy_0 rfl rfl (show zyR _ _ _ _ [some (.ref 2), some (.ref (0 + 3)), some (.ref (43 + 3)), some (.int i)] [.ref 2, .int (X.2 (i + (1 : Int32)).toNatClampNeg), .ref (43 + 3)] _ _ from ?_)
  refine zy_2 rfl rfl (show zyR _ _ _ _ [some (.ref 2), some (.ref (0 + 3)), some (.ref (43 + 3)), some (.int i)] [.int i, .ref 2, .int (X.2 (i + (1 : Int32)).toNatClampNeg), .ref (43 + 3)] _ _ from ?_)
  refine zy_3 rfl rfl (show zyR _ _ _ _ [some (.ref 2), some (.ref (0 + 3)), some (.ref (43 + 3)), some (.int i)] [.int (2 : Int32), .int i, .ref 2, .int (X.2 (i + (1 : Int32)).toNatClampNeg), .ref (43 + 3)] _ _ from ?_)
  refine zy_10 rfl (show zyR _ _ _ _ [some (.ref 2), some (.ref (0 + 3)), some (.ref (43 + 3)), some (.int i)] [.int (i + (2 : Int32)), .ref 2, .int (X.2 (i + (1 : Int32)).toNatClampNeg), .ref (43 + 3)] _ _ from ?_)
  refine zy_26s rfl (zl_in hX i0 i6 (by decide) (by decide)) (show zyR _ _ _ _ [some (.ref 2), some (.ref (0 + 3)), some (.ref (43 + 3)), some (.int i)] [.int (X.2 (i + (2 : Int32)).toNatClampNeg), .int (X.2 (i + (1 : Int32)).toNatClampNeg), .ref (43 + 3)] _ _ from ?_)
  refine zy_5 (c := 43) (as := [.int (X.2 (i + (1 : Int32)).toNatClampNeg), .int (X.2 (i + (2 : Int32)).toNatClampNeg)]) (rest := []) (L := [some (.ref (43 + 3)), some (.int (X.2 (i + (1 : Int32)).toNatClampNeg)), some (.int (X.2 (i + (2 : Int32)).toNatClampNeg)), none, none]) (d' := 5) rfl rfl rfl (Nat.le_of_ble_eq_true rfl) (Nat.le_of_ble_eq_true rfl) rfl (Nat.le_of_ble_eq_true rfl) rfl rfl (zyC224 f2) ?_
  show zyR _ _ _ _ [some (.ref 2), some (.ref (0 + 3)), some (.ref (43 + 3)), some (.int i)] [.int r] _ _
  refine zy_34 rfl rfl (show zyR _ _ _ _ [some (.ref 2), some (.ref (0 + 3)), some (.ref (43 + 3)), some (.int i)] [] _ _ from ?_)
  exact zy_6 rfl (k _ hI)
theorem zlc_13 {X : zx_X} {i : Int32} {s : zy_S} {P : Option Value → zy_S → Prop} (hX : X.1 ≤ 3072) (i0 : 0 ≤ i.toInt) (i6 : i.toInt + 6 ≤ X.1) (h : zI s) (k : ∀ t, zI t → zyR X 2000 0 1435 [some (.ref 2), some (.ref (0 + 3)), some (.ref (43 + 3)), some (.int i)] [] t P) : zyR X 2000 0 581 [some (.ref 2), some (.ref (0 + 3)), some (.ref (43 + 3)), some (.int i)] [] s P := by
  obtain ⟨r, s1, s2, f1, f2, hI⟩ := zop_matters ((X.2 (i + (1 : Int32)).toNatClampNeg)) h
  refine zy_0 rfl rfl (show zyR _ _ _ _ [some (.ref 2), some (.ref (0 + 3)), some (.ref (43 + 3)), some (.int i)] [.ref (0 + 3)] _ _ from ?_)
  refine zy_0 rfl rfl (show zyR _ _ _ _ [some (.ref 2), some (.ref (0 + 3)), some (.ref (43 + 3)), some (.int i)] [.ref 2, .ref (0 + 3)] _ _ from ?_)
  refine zy_2 rfl rfl (show zyR _ _ _ _ [some (.ref 2), some (.ref (0 + 3)), some (.ref (43 + 3)), some (.int i)] [.int i, .ref 2, .ref (0 + 3)] _ _ from ?_)
  refine zy_3 rfl rfl (show zyR _ _ _ _ [some (.ref 2), some (.ref (0 + 3)), some (.ref (43 + 3)), some (.int i)] [.int (1 : Int32), .int i, .ref 2, .ref (0 + 3)] _ _ from ?_)
  refine zy_10 rfl (show zyR _ _ _ _ [some (.ref 2), some (.ref (0 + 3)), some (.ref (43 + 3)), some (.int i)] [.int (i + (1 : Int32)), .ref 2, .ref (0 + 3)] _ _ from ?_)
  refine zy_26s rfl (zl_in hX i0 i6 (by decide) (by decide)) (show zyR _ _ _ _ [some (.ref 2), some (.ref (0 + 3)), some (.ref (43 + 3)), some (.int i)] [.int (X.2 (i + (1 : Int32)).toNatClampNeg), .ref (0 + 3)] _ _ from ?_)
  refine zy_5 (c := 0) (as := [.int (X.2 (i + (1 : Int32)).toNatClampNeg)]) (rest := []) (L := [some (.ref (0 + 3)), some (.int (X.2 (i + (1 : Int32)).toNatClampNeg)), none, none, none, none]) (d' := 2) rfl rfl rfl (Nat.le_of_ble_eq_true rfl) (Nat.le_of_ble_eq_true rfl) rfl (Nat.le_of_ble_eq_true rfl) rfl rfl (zyC102 f1) ?_
  show zyR _ _ _ _ [some (.ref 2), some (.ref (0 + 3)), some (.ref (43 + 3)), some (.int i)] [.int r] _ _
  refine zy_34 rfl rfl (show zyR _ _ _ _ [some (.ref 2), some (.ref (0 + 3)), some (.ref (43 + 3)), some (.int i)] [] _ _ from ?_)
  refine zy_0 rfl rfl (show zyR _ _ _ _ [some (.ref 2), some (.ref (0 + 3)), some (.ref (43 + 3)), some (.int i)] [.ref (43 + 3)] _ _ from ?_)
  refine zy_0 rfl rfl (show zyR _ _ _ _ [some (.ref 2), some (.ref (0 + 3)), some (.ref (43 + 3)), some (.int i)] [.ref 2, .ref (43 + 3)] _ _ from ?_)
  refine zy_2 rfl rfl (show zyR _ _ _ _ [some (.ref 2), some (.ref (0 + 3)), some (.ref (43 + 3)), some (.int i)] [.int i, .ref 2, .ref (43 + 3)] _ _ from ?_)
  refine zy_3 rfl rfl (show zyR _ _ _ _ [some (.ref 2), some (.ref (0 + 3)), some (.ref (43 + 3)), some (.int i)] [.int (1 : Int32), .int i, .ref 2, .ref (43 + 3)] _ _ from ?_)
  refine zy_10 rfl (show zyR _ _ _ _ [some (.ref 2), some (.ref (0 + 3)), some (.ref (43 + 3)), some (.int i)] [.int (i + (1 : Int32)), .ref 2, .ref (43 + 3)] _ _ from ?_)
  refine zy_26s rfl (zl_in hX i0 i6 (by decide) (by decide)) (show zyR _ _ _ _ [some (.ref 2), some (.ref (0 + 3)), some (.ref (43 + 3)), some (.int i)] [.int (X.2 (i + (1 : Int32)).toNatClampNeg), .ref (43 + 3)] _ _ from ?_)
  refine zy_5 (c := 43) (as := [.int (X.2 (i + (1 : Int32)).toNatClampNeg)]) (rest := []) (L := [some (.ref (43 + 3)), some (.int (X.2 (i + (1 : Int32)).toNatClampNeg)), none, none, none, none]) (d' := 2) rfl rfl rfl (Nat.le_of_ble_eq_true rfl) (Nat.le_of_ble_eq_true rfl) rfl (Nat.le_of_ble_eq_true rfl) rfl rfl (zyC225 f2) ?_
  show zyR _ _ _ _ [some (.ref 2), some (.ref (0 + 3)), some (.ref (43 + 3)), some (.int i)] [.int r] _ _
  refine zy_34 rfl rfl (show zyR _ _ _ _ [some (.ref 2), some (.ref (0 + 3)), some (.ref (43 + 3)), some (.int i)] [] _ _ from ?_)
  exact zy_6 rfl (k _ hI)
