/-! PART 48.21: cases of the law. Made by wip/v4/gen_law.py. -/
theorem zlc_14 {X : zx_X} {i : Int32} {s : zy_S} {P : Option Value → zy_S → Prop} (hX : X.1 ≤ 3072) (i0 : 0 ≤ i.toInt) (i6 : i.toInt + 6 ≤ X.1) (h : zI s) (k : ∀ t, zI t → zyR X 2000 0 1435 [some (.ref 2), some (.ref (0 + 3)), some (.ref (43 + 3)), some (.int i)] [] t P) : zyR X 2000 0 604 [some (.ref 2), some (.ref (0 + 3)), some (.ref (43 + 3)), some (.int i)] [] s P := by
  obtain ⟨r, s1, s2, f1, f2, hI⟩ := zop_byTurns ((X.2 (i + (1 : Int32)).toNatClampNeg)) ((X.2 (i + (2 : Int32)).toNatClampNeg)) h
  refine zy_0 rfl rfl (show zyR _ _ _ _ [some (.ref 2), some (.ref (0 + 3)), some (.ref (43 + 3)), some (.int i)] [.ref (0 + 3)] _ _ from ?_)
  refine zy_0 rfl rfl (show zyR _ _ _ _ [some (.ref 2), some (.ref (0 + 3)), some (.ref (43 + 3)), some (.int i)] [.ref 2, .ref (0 + 3)] _ _ from ?_)
  refine zy_2 rfl rfl (show zyR _ _ _ _ [some (.ref 2), some (.ref (0 + 3)), some (.ref (43 + 3)), some (.int i)] [.int i, .ref 2, .ref (0 + 3)] _ _ from ?_)
  refine zy_3 rfl rfl (show zyR _ _ _ _ [some (.ref 2), some (.ref (0 + 3)), some (.ref (43 + 3)), some (.int i)] [.int (1 : Int32), .int i, .ref 2, .ref (0 + 3)] _ _ from ?_)
  refine zy_10 rfl (show zyR _ _ _ _ [some (.ref 2), some (.ref (0 + 3)), some (.ref (43 + 3)), some (.int i)] [.int (i + (1 : Int32)), .ref 2, .ref (0 + 3)] _ _ from ?_)
  refine zy_26s rfl (zl_in hX i0 i6 (by decide) (by decide)) (show zyR _ _ _ _ [some (.ref 2), some (.ref (0 + 3)), some (.ref (43 + 3)), some (.int i)] [.int (X.2 (i + (1 : Int32)).toNatClampNeg), .ref (0 + 3)] _ _ from ?_)
  refine zy_0 rfl rfl (show zyR _ _ _ _ [some (.ref 2), some (.ref (0 + 3)), some (.ref (43 + 3)), some (.int i)] [.ref 2, .int (X.2 (i + (1 : Int32)).toNatClampNeg), .ref (0 + 3)] _ _ from ?_)
  refine zy_2 rfl rfl (show zyR _ _ _ _ [some (.ref 2), some (.ref (0 + 3)), some (.ref (43 + 3)), some (.int i)] [.int i, .ref 2, .int (X.2 (i + (1 : Int32)).toNatClampNeg), .ref (0 + 3)] _ _ from ?_)
  refine zy_3 rfl rfl (show zyR _ _ _ _ [some (.ref 2), some (.ref (0 + 3)), some (.ref (43 + 3)), some (.int i)] [.int (2 : Int32), .int i, .ref 2, .int (X.2 (i + (1 : Int32)).toNatClampNeg), .ref (0 + 3)] _ _ from ?_)
  refine zy_10 rfl (show zyR _ _ _ _ [some (.ref 2), some (.ref (0 + 3)), some (.ref (43 + 3)), some (.int i)] [.int (i + (2 : Int32)), .ref 2, .int (X.2 (i + (1 : Int32)).toNatClampNeg), .ref (0 + 3)] _ _ from ?_)
  refine zy_26s rfl (zl_in hX i0 i6 (by decide) (by decide)) (show zyR _ _ _ _ [some (.ref 2), some (.ref (0 + 3)), some (.ref (43 + 3)), some (.int i)] [.int (X.2 (i + (2 : Int32)).toNatClampNeg), .int (X.2 (i + (1 : Int32)).toNatClampNeg), .ref (0 + 3)] _ _ from ?_)
  refine zy_5 (c := 0) (as := [.int (X.2 (i + (1 : Int32)).toNatClampNeg), .int (X.2 (i + (2 : Int32)).toNatClampNeg)]) (rest := []) (L := [some (.ref (0 + 3)), some (.int (X.2 (i + (1 : Int32)).toNatClampNeg)), some (.int (X.2 (i + (2 : Int32)).toNatClampNeg)), none, none, none, none]) (d' := 107) rfl rfl rfl (Nat.le_of_ble_eq_true rfl) (Nat.le_of_ble_eq_true rfl) rfl (Nat.le_of_ble_eq_true rfl) rfl rfl (zyC103 f1) ?_
  show zyR _ _ _ _ [some (.ref 2), some (.ref (0 + 3)), some (.ref (43 + 3)), some (.int i)] [.int r] _ _
  refine zy_34 rfl rfl (show zyR _ _ _ _ [some (.ref 2), some (.ref (0 + 3)), some (.ref (43 + 3)), some (.int i)] [] _ _ from ?_)
  refine zy_0 rfl rfl (show zyR _ _ _ _ [some (.ref 2), some (.ref (0 + 3)), some (.ref (43 + 3)), some (.int i)] [.ref (43 + 3)] _ _ from ?_)
  refine zy_0 rfl rfl (show zyR _ _ _ _ [some (.ref 2), some (.ref (0 + 3)), some (.ref (43 + 3)), some (.int i)] [.ref 2, .ref (43 + 3)] _ _ from ?_)
  refine zy_2 rfl rfl (show zyR _ _ _ _ [some (.ref 2), some (.ref (0 + 3)), some (.ref (43 + 3)), some (.int i)] [.int i, .ref 2, .ref (43 + 3)] _ _ from ?_)
  refine zy_3 rfl rfl (show zyR _ _ _ _ [some (.ref 2), some (.ref (0 + 3)), some (.ref (43 + 3)), some (.int i)] [.int (1 : Int32), .int i, .ref 2, .ref (43 + 3)] _ _ from ?_)
  refine zy_10 rfl (show zyR _ _ _ _ [some (.ref 2), some (.ref (0 + 3)), some (.ref (43 + 3)), some (.int i)] [.int (i + (1 : Int32)), .ref 2, .ref (43 + 3)] _ _ from ?_)
  refine zy_26s rfl (zl_in hX i0 i6 (by decide) (by decide)) (show zyR _ _ _ _ [some (.ref 2), some (.ref (0 + 3)), some (.ref (43 + 3)), some (.int i)] [.int (X.2 (i + (1 : Int32)).toNatClampNeg), .ref (43 + 3)] _ _ from ?_)
  refine zy_0 rfl rfl (show zyR _ _ _ _ [some (.ref 2), some (.ref (0 + 3)), some (.ref (43 + 3)), some (.int i)] [.ref 2, .int (X.2 (i + (1 : Int32)).toNatClampNeg), .ref (43 + 3)] _ _ from ?_)
  refine zy_2 rfl rfl (show zyR _ _ _ _ [some (.ref 2), some (.ref (0 + 3)), some (.ref (43 + 3)), some (.int i)] [.int i, .ref 2, .int (X.2 (i + (1 : Int32)).toNatClampNeg), .ref (43 + 3)] _ _ from ?_)
  refine zy_3 rfl rfl (show zyR _ _ _ _ [some (.ref 2), some (.ref (0 + 3)), some (.ref (43 + 3)), some (.int i)] [.int (2 : Int32), .int i, .ref 2, .int (X.2 (i + (1 : Int32)).toNatClampNeg), .ref (43 + 3)] _ _ from ?_)
  refine zy_10 rfl (show zyR _ _ _ _ [some (.ref 2), some (.ref (0 + 3)), some (.ref (43 + 3)), some (.int i)] [.int (i + (2 : Int32)), .ref 2, .int (X.2 (i + (1 : Int32)).toNatClampNeg), .ref (43 + 3)] _ _ from ?_)
  refine zy_26s rfl (zl_in hX i0 i6 (by decide) (by decide)) (show zyR _ _ _ _ [some (.ref 2), some (.ref (0 + 3)), some (.ref (43 + 3)), some (.int i)] [.int (X.2 (i + (2 : Int32)).toNatClampNeg), .int (X.2 (i + (1 : Int32)).toNatClampNeg), .ref (43 + 3)] _ _ from ?_)
  refine zy_5 (c := 43) (as := [.int (X.2 (i + (1 : Int32)).toNatClampNeg), .int (X.2 (i + (2 : Int32)).toNatClampNeg)]) (rest := []) (L := [some (.ref (43 + 3)), some (.int (X.2 (i + (1 : Int32)).toNatClampNeg)), some (.int (X.2 (i + (2 : Int32)).toNatClampNeg)), none, none, none, none, none, none, none]) (d' := 206) rfl rfl rfl (Nat.le_of_ble_eq_true rfl) (Nat.le_of_ble_eq_true rfl) rfl (Nat.le_of_ble_eq_true rfl) rfl rfl (zyC226 f2) ?_
  show zyR _ _ _ _ [some (.ref 2), some (.ref (0 + 3)), some (.ref (43 + 3)), some (.int i)] [.int r] _ _
  refine zy_34 rfl rfl (show zyR _ _ _ _ [some (.ref 2), some (.ref (0 + 3)), some (.ref (43 + 3)), some (.int i)] [] _ _ from ?_)
  exact zy_6 rfl (k _ hI)
theorem zlc_15 {X : zx_X} {i : Int32} {s : zy_S} {P : Option Value → zy_S → Prop} (hX : X.1 ≤ 3072) (i0 : 0 ≤ i.toInt) (i6 : i.toInt + 6 ≤ X.1) (h : zI s) (k : ∀ t, zI t → zyR X 2000 0 1435 [some (.ref 2), some (.ref (0 + 3)), some (.ref (43 + 3)), some (.int i)] [] t P) : zyR X 2000 0 637 [some (.ref 2), some (.ref (0 + 3)), some (.ref (43 + 3)), some (.int i)] [] s P := by
  obtain ⟨r, s1, s2, f1, f2, hI⟩ := zop_judge ((X.2 (i + (1 : Int32)).toNatClampNeg)) ((X.2 (i + (2 : Int32)).toNatClampNeg)) h
  refine zy_0 rfl rfl (show zyR _ _ _ _ [some (.ref 2), some (.ref (0 + 3)), some (.ref (43 + 3)), some (.int i)] [.ref (0 + 3)] _ _ from ?_)
  refine zy_0 rfl rfl (show zyR _ _ _ _ [some (.ref 2), some (.ref (0 + 3)), some (.ref (43 + 3)), some (.int i)] [.ref 2, .ref (0 + 3)] _ _ from ?_)
  refine zy_2 rfl rfl (show zyR _ _ _ _ [some (.ref 2), some (.ref (0 + 3)), some (.ref (43 + 3)), some (.int i)] [.int i, .ref 2, .ref (0 + 3)] _ _ from ?_)
  refine zy_3 rfl rfl (show zyR _ _ _ _ [some (.ref 2), some (.ref (0 + 3)), some (.ref (43 + 3)), some (.int i)] [.int (1 : Int32), .int i, .ref 2, .ref (0 + 3)] _ _ from ?_)
  refine zy_10 rfl (show zyR _ _ _ _ [some (.ref 2), some (.ref (0 + 3)), some (.ref (43 + 3)), some (.int i)] [.int (i + (1 : Int32)), .ref 2, .ref (0 + 3)] _ _ from ?_)
  refine zy_26s rfl (zl_in hX i0 i6 (by decide) (by decide)) (show zyR _ _ _ _ [some (.ref 2), some (.ref (0 + 3)), some (.ref (43 + 3)), some (.int i)] [.int (X.2 (i + (1 : Int32)).toNatClampNeg), .ref (0 + 3)] _ _ from ?_)
  refine zy_0 rfl rfl (show zyR _ _ _ _ [some (.ref 2), some (.ref (0 + 3)), some (.ref (43 + 3)), some (.int i)] [.ref 2, .int (X.2 (i + (1 : Int32)).toNatClampNeg), .ref (0 + 3)] _ _ from ?_)
  refine zy_2 rfl rfl (show zyR _ _ _ _ [some (.ref 2), some (.ref (0 + 3)), some (.ref (43 + 3)), some (.int i)] [.int i, .ref 2, .int (X.2 (i + (1 : Int32)).toNatClampNeg), .ref (0 + 3)] _ _ from ?_)
  refine zy_3 rfl rfl (show zyR _ _ _ _ [some (.ref 2), some (.ref (0 + 3)), some (.ref (43 + 3)), some (.int i)] [.int (2 : Int32), .int i, .ref 2, .int (X.2 (i + (1 : Int32)).toNatClampNeg), .ref (0 + 3)] _ _ from ?_)
  refine zy_10 rfl (show zyR _ _ _ _ [some (.ref 2), some (.ref (0 + 3)), some (.ref (43 + 3)), some (.int i)] [.int (i + (2 : Int32)), .ref 2, .int (X.2 (i + (1 : Int32)).toNatClampNeg), .ref (0 + 3)] _ _ from ?_)
  refine zy_26s rfl (zl_in hX i0 i6 (by decide) (by decide)) (show zyR _ _ _ _ [some (.ref 2), some (.ref (0 + 3)), some (.ref (43 + 3)), some (.int i)] [.int (X.2 (i + (2 : Int32)).toNatClampNeg), .int (X.2 (i + (1 : Int32)).toNatClampNeg), .ref (0 + 3)] _ _ from ?_)
  refine zy_5 (c := 0) (as := [.int (X.2 (i + (1 : Int32)).toNatClampNeg), .int (X.2 (i + (2 : Int32)).toNatClampNeg)]) (rest := []) (L := [some (.ref (0 + 3)), some (.int (X.2 (i + (1 : Int32)).toNatClampNeg)), some (.int (X.2 (i + (2 : Int32)).toNatClampNeg)), none]) (d' := 5) rfl rfl rfl (Nat.le_of_ble_eq_true rfl) (Nat.le_of_ble_eq_true rfl) rfl (Nat.le_of_ble_eq_true rfl) rfl rfl (zyC106 f1) ?_
  show zyR _ _ _ _ [some (.ref 2), some (.ref (0 + 3)), some (.ref (43 + 3)), some (.int i)] [.int r] _ _
  refine zy_34 rfl rfl (show zyR _ _ _ _ [some (.ref 2), some (.ref (0 + 3)), some (.ref (43 + 3)), some (.int i)] [] _ _ from ?_)
  refine zy_0 rfl rfl (show zyR _ _ _ _ [some (.ref 2), some (.ref (0 + 3)), some (.ref (43 + 3)), some (.int i)] [.ref (43 + 3)] _ _ from ?_)
  refine zy_0 rfl rfl (show zyR _ _ _ _ [some (.ref 2), some (.ref (0 + 3)), some (.ref (43 + 3)), some (.int i)] [.ref 2, .ref (43 + 3)] _ _ from ?_)
  refine zy_2 rfl rfl (show zyR _ _ _ _ [some (.ref 2), some (.ref (0 + 3)), some (.ref (43 + 3)), some (.int i)] [.int i, .ref 2, .ref (43 + 3)] _ _ from ?_)
  refine zy_3 rfl rfl (show zyR _ _ _ _ [some (.ref 2), some (.ref (0 + 3)), some (.ref (43 + 3)), some (.int i)] [.int (1 : Int32), .int i, .ref 2, .ref (43 + 3)] _ _ from ?_)
  refine zy_10 rfl (show zyR _ _ _ _ [some (.ref 2), some (.ref (0 + 3)), some (.ref (43 + 3)), some (.int i)] [.int (i + (1 : Int32)), .ref 2, .ref (43 + 3)] _ _ from ?_)
  refine zy_26s rfl (zl_in hX i0 i6 (by decide) (by decide)) (show zyR _ _ _ _ [some (.ref 2), some (.ref (0 + 3)), some (.ref (43 + 3)), some (.int i)] [.int (X.2 (i + (1 : Int32)).toNatClampNeg), .ref (43 + 3)] _ _ from ?_)
  refine zy_0 rfl rfl (show zyR _ _ _ _ [some (.ref 2), some (.ref (0 + 3)), some (.ref (43 + 3)), some (.int i)] [.ref 2, .int (X.2 (i + (1 : Int32)).toNatClampNeg), .ref (43 + 3)] _ _ from ?_)
  refine zy_2 rfl rfl (show zyR _ _ _ _ [some (.ref 2), some (.ref (0 + 3)), some (.ref (43 + 3)), some (.int i)] [.int i, .ref 2, .int (X.2 (i + (1 : Int32)).toNatClampNeg), .ref (43 + 3)] _ _ from ?_)
  refine zy_3 rfl rfl (show zyR _ _ _ _ [some (.ref 2), some (.ref (0 + 3)), some (.ref (43 + 3)), some (.int i)] [.int (2 : Int32), .int i, .ref 2, .int (X.2 (i + (1 : Int32)).toNatClampNeg), .ref (43 + 3)] _ _ from ?_)
  refine zy_10 rfl (show zyR _ _ _ _ [some (.ref 2), some (.ref (0 + 3)), some (.ref (43 + 3)), some (.int i)] [.int (i + (2 : Int32)), .ref 2, .int (X.2 (i + (1 : Int32)).toNatClampNeg), .ref (43 + 3)] _ _ from ?_)
  refine zy_26s rfl (zl_in hX i0 i6 (by decide) (by decide)) (show zyR _ _ _ _ [some (.ref 2), some (.ref (0 + 3)), some (.ref (43 + 3)), some (.int i)] [.int (X.2 (i + (2 : Int32)).toNatClampNeg), .int (X.2 (i + (1 : Int32)).toNatClampNeg), .ref (43 + 3)] _ _ from ?_)
  refine zy_5 (c := 43) (as := [.int (X.2 (i + (1 : Int32)).toNatClampNeg), .int (X.2 (i + (2 : Int32)).toNatClampNeg)]) (rest := []) (L := [some (.ref (43 + 3)), some (.int (X.2 (i + (1 : Int32)).toNatClampNeg)), some (.int (X.2 (i + (2 : Int32)).toNatClampNeg))]) (d' := 4) rfl rfl rfl (Nat.le_of_ble_eq_true rfl) (Nat.le_of_ble_eq_true rfl) rfl (Nat.le_of_ble_eq_true rfl) rfl rfl (zyC228 f2) ?_
  show zyR _ _ _ _ [some (.ref 2), some (.ref (0 + 3)), some (.ref (43 + 3)), some (.int i)] [.int r] _ _
  refine zy_34 rfl rfl (show zyR _ _ _ _ [some (.ref 2), some (.ref (0 + 3)), some (.ref (43 + 3)), some (.int i)] [] _ _ from ?_)
  exact zy_6 rfl (k _ hI)
theorem zlc_16 {X : zx_X} {i : Int32} {s : zy_S} {P : Option Value → zy_S → Prop} (hX : X.1 ≤ 3072) (i0 : 0 ≤ i.toInt) (i6 : i.toInt + 6 ≤ X.1) (h : zI s) (k : ∀ t, zI t → zyR X 2000 0 1435 [some (.ref 2), some (.ref (0 + 3)), some (.ref (43 + 3)), some (.int i)] [] t P) : zyR X 2000 0 670 [some (.ref 2), some (.ref (0 + 3)), some (.ref (43 + 3)), some (.int i)] [] s P := by
  obtain ⟨r, r', s1, s2, f1, f2, hI⟩ := zfn_believes ((X.2 (i + (1 : Int32)).toNatClampNeg)) ((X.2 (i + (2 : Int32)).toNatClampNeg)) ((X.2 (i + (3 : Int32)).toNatClampNeg)) h
  refine zy_0 rfl rfl (show zyR _ _ _ _ [some (.ref 2), some (.ref (0 + 3)), some (.ref (43 + 3)), some (.int i)] [.ref (0 + 3)] _ _ from ?_)
  refine zy_0 rfl rfl (show zyR _ _ _ _ [some (.ref 2), some (.ref (0 + 3)), some (.ref (43 + 3)), some (.int i)] [.ref 2, .ref (0 + 3)] _ _ from ?_)
  refine zy_2 rfl rfl (show zyR _ _ _ _ [some (.ref 2), some (.ref (0 + 3)), some (.ref (43 + 3)), some (.int i)] [.int i, .ref 2, .ref (0 + 3)] _ _ from ?_)
  refine zy_3 rfl rfl (show zyR _ _ _ _ [some (.ref 2), some (.ref (0 + 3)), some (.ref (43 + 3)), some (.int i)] [.int (1 : Int32), .int i, .ref 2, .ref (0 + 3)] _ _ from ?_)
  refine zy_10 rfl (show zyR _ _ _ _ [some (.ref 2), some (.ref (0 + 3)), some (.ref (43 + 3)), some (.int i)] [.int (i + (1 : Int32)), .ref 2, .ref (0 + 3)] _ _ from ?_)
  refine zy_26s rfl (zl_in hX i0 i6 (by decide) (by decide)) (show zyR _ _ _ _ [some (.ref 2), some (.ref (0 + 3)), some (.ref (43 + 3)), some (.int i)] [.int (X.2 (i + (1 : Int32)).toNatClampNeg), .ref (0 + 3)] _ _ from ?_)
  refine zy_0 rfl rfl (show zyR _ _ _ _ [some (.ref 2), some (.ref (0 + 3)), some (.ref (43 + 3)), some (.int i)] [.ref 2, .int (X.2 (i + (1 : Int32)).toNatClampNeg), .ref (0 + 3)] _ _ from ?_)
  refine zy_2 rfl rfl (show zyR _ _ _ _ [some (.ref 2), some (.ref (0 + 3)), some (.ref (43 + 3)), some (.int i)] [.int i, .ref 2, .int (X.2 (i + (1 : Int32)).toNatClampNeg), .ref (0 + 3)] _ _ from ?_)
  refine zy_3 rfl rfl (show zyR _ _ _ _ [some (.ref 2), some (.ref (0 + 3)), some (.ref (43 + 3)), some (.int i)] [.int (2 : Int32), .int i, .ref 2, .int (X.2 (i + (1 : Int32)).toNatClampNeg), .ref (0 + 3)] _ _ from ?_)
  refine zy_10 rfl (show zyR _ _ _ _ [some (.ref 2), some (.ref (0 + 3)), some (.ref (43 + 3)), some (.int i)] [.int (i + (2 : Int32)), .ref 2, .int (X.2 (i + (1 : Int32)).toNatClampNeg), .ref (0 + 3)] _ _ from ?_)
  refine zy_26s rfl (zl_in hX i0 i6 (by decide) (by decide)) (show zyR _ _ _ _ [some (.ref 2), some (.ref (0 + 3)), some (.ref (43 + 3)), some (.int i)] [.int (X.2 (i + (2 : Int32)).toNatClampNeg), .int (X.2 (i + (1 : Int32)).toNatClampNeg), .ref (0 + 3)] _ _ from ?_)
  refine zy_0 rfl rfl (show zyR _ _ _ _ [some (.ref 2), some (.ref (0 + 3)), some (.ref (43 + 3)), some (.int i)] [.ref 2, .int (X.2 (i + (2 : Int32)).toNatClampNeg), .int (X.2 (i + (1 : Int32)).toNatClampNeg), .ref (0 + 3)] _ _ from ?_)
  refine zy_2 rfl rfl (show zyR _ _ _ _ [some (.ref 2), some (.ref (0 + 3)), some (.ref (43 + 3)), some (.int i)] [.int i, .ref 2, .int (X.2 (i + (2 : Int32)).toNatClampNeg), .int (X.2 (i + (1 : Int32)).toNatClampNeg), .ref (0 + 3)] _ _ from ?_)
  refine zy_3 rfl rfl (show zyR _ _ _ _ [some (.ref 2), some (.ref (0 + 3)), some (.ref (43 + 3)), some (.int i)] [.int (3 : Int32), .int i, .ref 2, .int (X.2 (i + (2 : Int32)).toNatClampNeg), .int (X.2 (i + (1 : Int32)).toNatClampNeg), .ref (0 + 3)] _ _ from ?_)
  refine zy_10 rfl (show zyR _ _ _ _ [some (.ref 2), some (.ref (0 + 3)), some (.ref (43 + 3)), some (.int i)] [.int (i + (3 : Int32)), .ref 2, .int (X.2 (i + (2 : Int32)).toNatClampNeg), .int (X.2 (i + (1 : Int32)).toNatClampNeg), .ref (0 + 3)] _ _ from ?_)
  refine zy_26s rfl (zl_in hX i0 i6 (by decide) (by decide)) (show zyR _ _ _ _ [some (.ref 2), some (.ref (0 + 3)), some (.ref (43 + 3)), some (.int i)] [.int (X.2 (i + (3 : Int32)).toNatClampNeg), .int (X.2 (i + (2 : Int32)).toNatClampNeg), .int (X.2 (i + (1 : Int32)).toNatClampNeg), .ref (0 + 3)] _ _ from ?_)
  refine zy_5 (c := 0) (as := [.int (X.2 (i + (1 : Int32)).toNatClampNeg), .int (X.2 (i + (2 : Int32)).toNatClampNeg), .int (X.2 (i + (3 : Int32)).toNatClampNeg)]) (rest := []) (L := [some (.ref (0 + 3)), some (.int (X.2 (i + (1 : Int32)).toNatClampNeg)), some (.int (X.2 (i + (2 : Int32)).toNatClampNeg)), some (.int (X.2 (i + (3 : Int32)).toNatClampNeg)), none, none]) (d' := 6) rfl rfl rfl (Nat.le_of_ble_eq_true rfl) (Nat.le_of_ble_eq_true rfl) rfl (Nat.le_of_ble_eq_true rfl) rfl rfl (zyC112 f1) ?_
  show zyR _ _ _ _ [some (.ref 2), some (.ref (0 + 3)), some (.ref (43 + 3)), some (.int i)] [.int r] _ _
  refine zy_34 rfl rfl (show zyR _ _ _ _ [some (.ref 2), some (.ref (0 + 3)), some (.ref (43 + 3)), some (.int i)] [] _ _ from ?_)
  refine zy_0 rfl rfl (show zyR _ _ _ _ [some (.ref 2), some (.ref (0 + 3)), some (.ref (43 + 3)), some (.int i)] [.ref (43 + 3)] _ _ from ?_)
  refine zy_0 rfl rfl (show zyR _ _ _ _ [some (.ref 2), some (.ref (0 + 3)), some (.ref (43 + 3)), some (.int i)] [.ref 2, .ref (43 + 3)] _ _ from ?_)
  refine zy_2 rfl rfl (show zyR _ _ _ _ [some (.ref 2), some (.ref (0 + 3)), some (.ref (43 + 3)), some (.int i)] [.int i, .ref 2, .ref (43 + 3)] _ _ from ?_)
  refine zy_3 rfl rfl (show zyR _ _ _ _ [some (.ref 2), some (.ref (0 + 3)), some (.ref (43 + 3)), some (.int i)] [.int (1 : Int32), .int i, .ref 2, .ref (43 + 3)] _ _ from ?_)
  refine zy_10 rfl (show zyR _ _ _ _ [some (.ref 2), some (.ref (0 + 3)), some (.ref (43 + 3)), some (.int i)] [.int (i + (1 : Int32)), .ref 2, .ref (43 + 3)] _ _ from ?_)
  refine zy_26s rfl (zl_in hX i0 i6 (by decide) (by decide)) (show zyR _ _ _ _ [some (.ref 2), some (.ref (0 + 3)), some (.ref (43 + 3)), some (.int i)] [.int (X.2 (i + (1 : Int32)).toNatClampNeg), .ref (43 + 3)] _ _ from ?_)
  refine zy_0 rfl rfl (show zyR _ _ _ _ [some (.ref 2), some (.ref (0 + 3)), some (.ref (43 + 3)), some (.int i)] [.ref 2, .int (X.2 (i + (1 : Int32)).toNatClampNeg), .ref (43 + 3)] _ _ from ?_)
  refine zy_2 rfl rfl (show zyR _ _ _ _ [some (.ref 2), some (.ref (0 + 3)), some (.ref (43 + 3)), some (.int i)] [.int i, .ref 2, .int (X.2 (i + (1 : Int32)).toNatClampNeg), .ref (43 + 3)] _ _ from ?_)
  refine zy_3 rfl rfl (show zyR _ _ _ _ [some (.ref 2), some (.ref (0 + 3)), some (.ref (43 + 3)), some (.int i)] [.int (2 : Int32), .int i, .ref 2, .int (X.2 (i + (1 : Int32)).toNatClampNeg), .ref (43 + 3)] _ _ from ?_)
  refine zy_10 rfl (show zyR _ _ _ _ [some (.ref 2), some (.ref (0 + 3)), some (.ref (43 + 3)), some (.int i)] [.int (i + (2 : Int32)), .ref 2, .int (X.2 (i + (1 : Int32)).toNatClampNeg), .ref (43 + 3)] _ _ from ?_)
  refine zy_26s rfl (zl_in hX i0 i6 (by decide) (by decide)) (show zyR _ _ _ _ [some (.ref 2), some (.ref (0 + 3)), some (.ref (43 + 3)), some (.int i)] [.int (X.2 (i + (2 : Int32)).toNatClampNeg), .int (X.2 (i + (1 : Int32)).toNatClampNeg), .ref (43 + 3)] _ _ from ?_)
  refine zy_0 rfl rfl (show zyR _ _ _ _ [some (.ref 2), some (.ref (0 + 3)), some (.ref (43 + 3)), some (.int i)] [.ref 2, .int (X.2 (i + (2 : Int32)).toNatClampNeg), .int (X.2 (i + (1 : Int32)).toNatClampNeg), .ref (43 + 3)] _ _ from ?_)
  refine zy_2 rfl rfl (show zyR _ _ _ _ [some (.ref 2), some (.ref (0 + 3)), some (.ref (43 + 3)), some (.int i)] [.int i, .ref 2, .int (X.2 (i + (2 : Int32)).toNatClampNeg), .int (X.2 (i + (1 : Int32)).toNatClampNeg), .ref (43 + 3)] _ _ from ?_)
  refine zy_3 rfl rfl (show zyR _ _ _ _ [some (.ref 2), some (.ref (0 + 3)), some (.ref (43 + 3)), some (.int i)] [.int (3 : Int32), .int i, .ref 2, .int (X.2 (i + (2 : Int32)).toNatClampNeg), .int (X.2 (i + (1 : Int32)).toNatClampNeg), .ref (43 + 3)] _ _ from ?_)
  refine zy_10 rfl (show zyR _ _ _ _ [some (.ref 2), some (.ref (0 + 3)), some (.ref (43 + 3)), some (.int i)] [.int (i + (3 : Int32)), .ref 2, .int (X.2 (i + (2 : Int32)).toNatClampNeg), .int (X.2 (i + (1 : Int32)).toNatClampNeg), .ref (43 + 3)] _ _ from ?_)
  refine zy_26s rfl (zl_in hX i0 i6 (by decide) (by decide)) (show zyR _ _ _ _ [some (.ref 2), some (.ref (0 + 3)), some (.ref (43 + 3)), some (.int i)] [.int (X.2 (i + (3 : Int32)).toNatClampNeg), .int (X.2 (i + (2 : Int32)).toNatClampNeg), .int (X.2 (i + (1 : Int32)).toNatClampNeg), .ref (43 + 3)] _ _ from ?_)
  refine zy_5 (c := 43) (as := [.int (X.2 (i + (1 : Int32)).toNatClampNeg), .int (X.2 (i + (2 : Int32)).toNatClampNeg), .int (X.2 (i + (3 : Int32)).toNatClampNeg)]) (rest := []) (L := [some (.ref (43 + 3)), some (.int (X.2 (i + (1 : Int32)).toNatClampNeg)), some (.int (X.2 (i + (2 : Int32)).toNatClampNeg)), some (.int (X.2 (i + (3 : Int32)).toNatClampNeg)), none, none, none]) (d' := 4) rfl rfl rfl (Nat.le_of_ble_eq_true rfl) (Nat.le_of_ble_eq_true rfl) rfl (Nat.le_of_ble_eq_true rfl) rfl rfl (zyC231 f2) ?_
  show zyR _ _ _ _ [some (.ref 2), some (.ref (0 + 3)), some (.ref (43 + 3)), some (.int i)] [.int r'] _ _
  refine zy_34 rfl rfl (show zyR _ _ _ _ [some (.ref 2), some (.ref (0 + 3)), some (.ref (43 + 3)), some (.int i)] [] _ _ from ?_)
  exact zy_6 rfl (k _ hI)
theorem zlc_17 {X : zx_X} {i : Int32} {s : zy_S} {P : Option Value → zy_S → Prop} (hX : X.1 ≤ 3072) (i0 : 0 ≤ i.toInt) (i6 : i.toInt + 6 ≤ X.1) (h : zI s) (k : ∀ t, zI t → zyR X 2000 0 1435 [some (.ref 2), some (.ref (0 + 3)), some (.ref (43 + 3)), some (.int i)] [] t P) : zyR X 2000 0 713 [some (.ref 2), some (.ref (0 + 3)), some (.ref (43 + 3)), some (.int i)] [] s P := by
  obtain ⟨r, s1, s2, f1, f2, hI⟩ := zop_whose ((X.2 (i + (1 : Int32)).toNatClampNeg)) ((X.2 (i + (2 : Int32)).toNatClampNeg)) h
  refine zy_0 rfl rfl (show zyR _ _ _ _ [some (.ref 2), some (.ref (0 + 3)), some (.ref (43 + 3)), some (.int i)] [.ref (0 + 3)] _ _ from ?_)
  refine zy_0 rfl rfl (show zyR _ _ _ _ [some (.ref 2), some (.ref (0 + 3)), some (.ref (43 + 3)), some (.int i)] [.ref 2, .ref (0 + 3)] _ _ from ?_)
  refine zy_2 rfl rfl (show zyR _ _ _ _ [some (.ref 2), some (.ref (0 + 3)), some (.ref (43 + 3)), some (.int i)] [.int i, .ref 2, .ref (0 + 3)] _ _ from ?_)
  refine zy_3 rfl rfl (show zyR _ _ _ _ [some (.ref 2), some (.ref (0 + 3)), some (.ref (43 + 3)), some (.int i)] [.int (1 : Int32), .int i, .ref 2, .ref (0 + 3)] _ _ from ?_)
  refine zy_10 rfl (show zyR _ _ _ _ [some (.ref 2), some (.ref (0 + 3)), some (.ref (43 + 3)), some (.int i)] [.int (i + (1 : Int32)), .ref 2, .ref (0 + 3)] _ _ from ?_)
  refine zy_26s rfl (zl_in hX i0 i6 (by decide) (by decide)) (show zyR _ _ _ _ [some (.ref 2), some (.ref (0 + 3)), some (.ref (43 + 3)), some (.int i)] [.int (X.2 (i + (1 : Int32)).toNatClampNeg), .ref (0 + 3)] _ _ from ?_)
  refine zy_0 rfl rfl (show zyR _ _ _ _ [some (.ref 2), some (.ref (0 + 3)), some (.ref (43 + 3)), some (.int i)] [.ref 2, .int (X.2 (i + (1 : Int32)).toNatClampNeg), .ref (0 + 3)] _ _ from ?_)
  refine zy_2 rfl rfl (show zyR _ _ _ _ [some (.ref 2), some (.ref (0 + 3)), some (.ref (43 + 3)), some (.int i)] [.int i, .ref 2, .int (X.2 (i + (1 : Int32)).toNatClampNeg), .ref (0 + 3)] _ _ from ?_)
  refine zy_3 rfl rfl (show zyR _ _ _ _ [some (.ref 2), some (.ref (0 + 3)), some (.ref (43 + 3)), some (.int i)] [.int (2 : Int32), .int i, .ref 2, .int (X.2 (i + (1 : Int32)).toNatClampNeg), .ref (0 + 3)] _ _ from ?_)
  refine zy_10 rfl (show zyR _ _ _ _ [some (.ref 2), some (.ref (0 + 3)), some (.ref (43 + 3)), some (.int i)] [.int (i + (2 : Int32)), .ref 2, .int (X.2 (i + (1 : Int32)).toNatClampNeg), .ref (0 + 3)] _ _ from ?_)
  refine zy_26s rfl (zl_in hX i0 i6 (by decide) (by decide)) (show zyR _ _ _ _ [some (.ref 2), some (.ref (0 + 3)), some (.ref (43 + 3)), some (.int i)] [.int (X.2 (i + (2 : Int32)).toNatClampNeg), .int (X.2 (i + (1 : Int32)).toNatClampNeg), .ref (0 + 3)] _ _ from ?_)
  refine zy_5 (c := 0) (as := [.int (X.2 (i + (1 : Int32)).toNatClampNeg), .int (X.2 (i + (2 : Int32)).toNatClampNeg)]) (rest := []) (L := [some (.ref (0 + 3)), some (.int (X.2 (i + (1 : Int32)).toNatClampNeg)), some (.int (X.2 (i + (2 : Int32)).toNatClampNeg)), none]) (d' := 7) rfl rfl rfl (Nat.le_of_ble_eq_true rfl) (Nat.le_of_ble_eq_true rfl) rfl (Nat.le_of_ble_eq_true rfl) rfl rfl (zyC116 f1) ?_
  show zyR _ _ _ _ [some (.ref 2), some (.ref (0 + 3)), some (.ref (43 + 3)), some (.int i)] [.int r] _ _
  refine zy_34 rfl rfl (show zyR _ _ _ _ [some (.ref 2), some (.ref (0 + 3)), some (.ref (43 + 3)), some (.int i)] [] _ _ from ?_)
  refine zy_0 rfl rfl (show zyR _ _ _ _ [some (.ref 2), some (.ref (0 + 3)), some (.ref (43 + 3)), some (.int i)] [.ref (43 + 3)] _ _ from ?_)
  refine zy_0 rfl rfl (show zyR _ _ _ _ [some (.ref 2), some (.ref (0 + 3)), some (.ref (43 + 3)), some (.int i)] [.ref 2, .ref (43 + 3)] _ _ from ?_)
  refine zy_2 rfl rfl (show zyR _ _ _ _ [some (.ref 2), some (.ref (0 + 3)), some (.ref (43 + 3)), some (.int i)] [.int i, .ref 2, .ref (43 + 3)] _ _ from ?_)
  refine zy_3 rfl rfl (show zyR _ _ _ _ [some (.ref 2), some (.ref (0 + 3)), some (.ref (43 + 3)), some (.int i)] [.int (1 : Int32), .int i, .ref 2, .ref (43 + 3)] _ _ from ?_)
  refine zy_10 rfl (show zyR _ _ _ _ [some (.ref 2), some (.ref (0 + 3)), some (.ref (43 + 3)), some (.int i)] [.int (i + (1 : Int32)), .ref 2, .ref (43 + 3)] _ _ from ?_)
  refine zy_26s rfl (zl_in hX i0 i6 (by decide) (by decide)) (show zyR _ _ _ _ [some (.ref 2), some (.ref (0 + 3)), some (.ref (43 + 3)), some (.int i)] [.int (X.2 (i + (1 : Int32)).toNatClampNeg), .ref (43 + 3)] _ _ from ?_)
  refine zy_0 rfl rfl (show zyR _ _ _ _ [some (.ref 2), some (.ref (0 + 3)), some (.ref (43 + 3)), some (.int i)] [.ref 2, .int (X.2 (i + (1 : Int32)).toNatClampNeg), .ref (43 + 3)] _ _ from ?_)
  refine zy_2 rfl rfl (show zyR _ _ _ _ [some (.ref 2), some (.ref (0 + 3)), some (.ref (43 + 3)), some (.int i)] [.int i, .ref 2, .int (X.2 (i + (1 : Int32)).toNatClampNeg), .ref (43 + 3)] _ _ from ?_)
  refine zy_3 rfl rfl (show zyR _ _ _ _ [some (.ref 2), some (.ref (0 + 3)), some (.ref (43 + 3)), some (.int i)] [.int (2 : Int32), .int i, .ref 2, .int (X.2 (i + (1 : Int32)).toNatClampNeg), .ref (43 + 3)] _ _ from ?_)
  refine zy_10 rfl (show zyR _ _ _ _ [some (.ref 2), some (.ref (0 + 3)), some (.ref (43 + 3)), some (.int i)] [.int (i + (2 : Int32)), .ref 2, .int (X.2 (i + (1 : Int32)).toNatClampNeg), .ref (43 + 3)] _ _ from ?_)
  refine zy_26s rfl (zl_in hX i0 i6 (by decide) (by decide)) (show zyR _ _ _ _ [some (.ref 2), some (.ref (0 + 3)), some (.ref (43 + 3)), some (.int i)] [.int (X.2 (i + (2 : Int32)).toNatClampNeg), .int (X.2 (i + (1 : Int32)).toNatClampNeg), .ref (43 + 3)] _ _ from ?_)
  refine zy_5 (c := 43) (as := [.int (X.2 (i + (1 : Int32)).toNatClampNeg), .int (X.2 (i + (2 : Int32)).toNatClampNeg)]) (rest := []) (L := [some (.ref (43 + 3)), some (.int (X.2 (i + (1 : Int32)).toNatClampNeg)), some (.int (X.2 (i + (2 : Int32)).toNatClampNeg)), none, none, none]) (d' := 4) rfl rfl rfl (Nat.le_of_ble_eq_true rfl) (Nat.le_of_ble_eq_true rfl) rfl (Nat.le_of_ble_eq_true rfl) rfl rfl (zyC233 f2) ?_
  show zyR _ _ _ _ [some (.ref 2), some (.ref (0 + 3)), some (.ref (43 + 3)), some (.int i)] [.int r] _ _
  refine zy_34 rfl rfl (show zyR _ _ _ _ [some (.ref 2), some (.ref (0 + 3)), some (.ref (43 + 3)), some (.int i)] [] _ _ from ?_)
  exact zy_6 rfl (k _ hI)
theorem zlc_18 {X : zx_X} {i : Int32} {s : zy_S} {P : Option Value → zy_S → Prop} (hX : X.1 ≤ 3072) (i0 : 0 ≤ i.toInt) (i6 : i.toInt + 6 ≤ X.1) (h : zI s) (k : ∀ t, zI t → zyR X 2000 0 1435 [some (.ref 2), some (.ref (0 + 3)), some (.ref (43 + 3)), some (.int i)] [] t P) : zyR X 2000 0 746 [some (.ref 2), some (.ref (0 + 3)), some (.ref (43 + 3)), some (.int i)] [] s P := by
  obtain ⟨r, s1, s2, f1, f2, hI⟩ := zop_agree ((X.2 (i + (1 : Int32)).toNatClampNeg)) ((X.2 (i + (2 : Int32)).toNatClampNeg)) h
  refine zy_0 rfl rfl (show zyR _ _ _ _ [some (.ref 2), some (.ref (0 + 3)), some (.ref (43 + 3)), some (.int i)] [.ref (0 + 3)] _ _ from ?_)
  refine zy_0 rfl rfl (show zyR _ _ _ _ [some (.ref 2), some (.ref (0 + 3)), some (.ref (43 + 3)), some (.int i)] [.ref 2, .ref (0 + 3)] _ _ from ?_)
  refine zy_2 rfl rfl (show zyR _ _ _ _ [some (.ref 2), some (.ref (0 + 3)), some (.ref (43 + 3)), some (.int i)] [.int i, .ref 2, .ref (0 + 3)] _ _ from ?_)
  refine zy_3 rfl rfl (show zyR _ _ _ _ [some (.ref 2), some (.ref (0 + 3)), some (.ref (43 + 3)), some (.int i)] [.int (1 : Int32), .int i, .ref 2, .ref (0 + 3)] _ _ from ?_)
  refine zy_10 rfl (show zyR _ _ _ _ [some (.ref 2), some (.ref (0 + 3)), some (.ref (43 + 3)), some (.int i)] [.int (i + (1 : Int32)), .ref 2, .ref (0 + 3)] _ _ from ?_)
  refine zy_26s rfl (zl_in hX i0 i6 (by decide) (by decide)) (show zyR _ _ _ _ [some (.ref 2), some (.ref (0 + 3)), some (.ref (43 + 3)), some (.int i)] [.int (X.2 (i + (1 : Int32)).toNatClampNeg), .ref (0 + 3)] _ _ from ?_)
  refine zy_0 rfl rfl (show zyR _ _ _ _ [some (.ref 2), some (.ref (0 + 3)), some (.ref (43 + 3)), some (.int i)] [.ref 2, .int (X.2 (i + (1 : Int32)).toNatClampNeg), .ref (0 + 3)] _ _ from ?_)
  refine zy_2 rfl rfl (show zyR _ _ _ _ [some (.ref 2), some (.ref (0 + 3)), some (.ref (43 + 3)), some (.int i)] [.int i, .ref 2, .int (X.2 (i + (1 : Int32)).toNatClampNeg), .ref (0 + 3)] _ _ from ?_)
  refine zy_3 rfl rfl (show zyR _ _ _ _ [some (.ref 2), some (.ref (0 + 3)), some (.ref (43 + 3)), some (.int i)] [.int (2 : Int32), .int i, .ref 2, .int (X.2 (i + (1 : Int32)).toNatClampNeg), .ref (0 + 3)] _ _ from ?_)
  refine zy_10 rfl (show zyR _ _ _ _ [some (.ref 2), some (.ref (0 + 3)), some (.ref (43 + 3)), some (.int i)] [.int (i + (2 : Int32)), .ref 2, .int (X.2 (i + (1 : Int32)).toNatClampNeg), .ref (0 + 3)] _ _ from ?_)
  refine zy_26s rfl (zl_in hX i0 i6 (by decide) (by decide)) (show zyR _ _ _ _ [some (.ref 2), some (.ref (0 + 3)), some (.ref (43 + 3)), some (.int i)] [.int (X.2 (i + (2 : Int32)).toNatClampNeg), .int (X.2 (i + (1 : Int32)).toNatClampNeg), .ref (0 + 3)] _ _ from ?_)
  refine zy_5 (c := 0) (as := [.int (X.2 (i + (1 : Int32)).toNatClampNeg), .int (X.2 (i + (2 : Int32)).toNatClampNeg)]) (rest := []) (L := [some (.ref (0 + 3)), some (.int (X.2 (i + (1 : Int32)).toNatClampNeg)), some (.int (X.2 (i + (2 : Int32)).toNatClampNeg))]) (d' := 4) rfl rfl rfl (Nat.le_of_ble_eq_true rfl) (Nat.le_of_ble_eq_true rfl) rfl (Nat.le_of_ble_eq_true rfl) rfl rfl (zyC119 f1) ?_
  show zyR _ _ _ _ [some (.ref 2), some (.ref (0 + 3)), some (.ref (43 + 3)), some (.int i)] [.int r] _ _
  refine zy_34 rfl rfl (show zyR _ _ _ _ [some (.ref 2), some (.ref (0 + 3)), some (.ref (43 + 3)), some (.int i)] [] _ _ from ?_)
  refine zy_0 rfl rfl (show zyR _ _ _ _ [some (.ref 2), some (.ref (0 + 3)), some (.ref (43 + 3)), some (.int i)] [.ref (43 + 3)] _ _ from ?_)
  refine zy_0 rfl rfl (show zyR _ _ _ _ [some (.ref 2), some (.ref (0 + 3)), some (.ref (43 + 3)), some (.int i)] [.ref 2, .ref (43 + 3)] _ _ from ?_)
  refine zy_2 rfl rfl (show zyR _ _ _ _ [some (.ref 2), some (.ref (0 + 3)), some (.ref (43 + 3)), some (.int i)] [.int i, .ref 2, .ref (43 + 3)] _ _ from ?_)
  refine zy_3 rfl rfl (show zyR _ _ _ _ [some (.ref 2), some (.ref (0 + 3)), some (.ref (43 + 3)), some (.int i)] [.int (1 : Int32), .int i, .ref 2, .ref (43 + 3)] _ _ from ?_)
  refine zy_10 rfl (show zyR _ _ _ _ [some (.ref 2), some (.ref (0 + 3)), some (.ref (43 + 3)), some (.int i)] [.int (i + (1 : Int32)), .ref 2, .ref (43 + 3)] _ _ from ?_)
  refine zy_26s rfl (zl_in hX i0 i6 (by decide) (by decide)) (show zyR _ _ _ _ [some (.ref 2), some (.ref (0 + 3)), some (.ref (43 + 3)), some (.int i)] [.int (X.2 (i + (1 : Int32)).toNatClampNeg), .ref (43 + 3)] _ _ from ?_)
  refine zy_0 rfl rfl (show zyR _ _ _ _ [some (.ref 2), some (.ref (0 + 3)), some (.ref (43 + 3)), some (.int i)] [.ref 2, .int (X.2 (i + (1 : Int32)).toNatClampNeg), .ref (43 + 3)] _ _ from ?_)
  refine zy_2 rfl rfl (show zyR _ _ _ _ [some (.ref 2), some (.ref (0 + 3)), some (.ref (43 + 3)), some (.int i)] [.int i, .ref 2, .int (X.2 (i + (1 : Int32)).toNatClampNeg), .ref (43 + 3)] _ _ from ?_)
  refine zy_3 rfl rfl (show zyR _ _ _ _ [some (.ref 2), some (.ref (0 + 3)), some (.ref (43 + 3)), some (.int i)] [.int (2 : Int32), .int i, .ref 2, .int (X.2 (i + (1 : Int32)).toNatClampNeg), .ref (43 + 3)] _ _ from ?_)
  refine zy_10 rfl (show zyR _ _ _ _ [some (.ref 2), some (.ref (0 + 3)), some (.ref (43 + 3)), some (.int i)] [.int (i + (2 : Int32)), .ref 2, .int (X.2 (i + (1 : Int32)).toNatClampNeg), .ref (43 + 3)] _ _ from ?_)
  refine zy_26s rfl (zl_in hX i0 i6 (by decide) (by decide)) (show zyR _ _ _ _ [some (.ref 2), some (.ref (0 + 3)), some (.ref (43 + 3)), some (.int i)] [.int (X.2 (i + (2 : Int32)).toNatClampNeg), .int (X.2 (i + (1 : Int32)).toNatClampNeg), .ref (43 + 3)] _ _ from ?_)
  refine zy_5 (c := 43) (as := [.int (X.2 (i + (1 : Int32)).toNatClampNeg), .int (X.2 (i + (2 : Int32)).toNatClampNeg)]) (rest := []) (L := [some (.ref (43 + 3)), some (.int (X.2 (i + (1 : Int32)).toNatClampNeg)), some (.int (X.2 (i + (2 : Int32)).toNatClampNeg)), none, none]) (d' := 4) rfl rfl rfl (Nat.le_of_ble_eq_true rfl) (Nat.le_of_ble_eq_true rfl) rfl (Nat.le_of_ble_eq_true rfl) rfl rfl (zyC234 f2) ?_
  show zyR _ _ _ _ [some (.ref 2), some (.ref (0 + 3)), some (.ref (43 + 3)), some (.int i)] [.int r] _ _
  refine zy_34 rfl rfl (show zyR _ _ _ _ [some (.ref 2), some (.ref (0 + 3)), some (.ref (43 + 3)), some (.int i)] [] _ _ from ?_)
  exact zy_6 rfl (k _ hI)
theorem zlc_19 {X : zx_X} {i : Int32} {s : zy_S} {P : Option Value → zy_S → Prop} (hX : X.1 ≤ 3072) (i0 : 0 ≤ i.toInt) (i6 : i.toInt + 6 ≤ X.1) (h : zI s) (k : ∀ t, zI t → zyR X 2000 0 1435 [some (.ref 2), some (.ref (0 + 3)), some (.ref (43 + 3)), some (.int i)] [] t P) : zyR X 2000 0 779 [some (.ref 2), some (.ref (0 + 3)), some (.ref (43 + 3)), some (.int i)] [] s P := by
  obtain ⟨r, s1, s2, f1, f2, hI⟩ := zop_like ((X.2 (i + (1 : Int32)).toNatClampNeg)) h
  refine zy_0 rfl rfl (show zyR _ _ _ _ [some (.ref 2), some (.ref (0 + 3)), some (.ref (43 + 3)), some (.int i)] [.ref (0 + 3)] _ _ from ?_)
  refine zy_0 rfl rfl (show zyR _ _ _ _ [some (.ref 2), some (.ref (0 + 3)), some (.ref (43 + 3)), some (.int i)] [.ref 2, .ref (0 + 3)] _ _ from ?_)
  refine zy_2 rfl rfl (show zyR _ _ _ _ [some (.ref 2), some (.ref (0 + 3)), some (.ref (43 + 3)), some (.int i)] [.int i, .ref 2, .ref (0 + 3)] _ _ from ?_)
  refine zy_3 rfl rfl (show zyR _ _ _ _ [some (.ref 2), some (.ref (0 + 3)), some (.ref (43 + 3)), some (.int i)] [.int (1 : Int32), .int i, .ref 2, .ref (0 + 3)] _ _ from ?_)
  refine zy_10 rfl (show zyR _ _ _ _ [some (.ref 2), some (.ref (0 + 3)), some (.ref (43 + 3)), some (.int i)] [.int (i + (1 : Int32)), .ref 2, .ref (0 + 3)] _ _ from ?_)
  refine zy_26s rfl (zl_in hX i0 i6 (by decide) (by decide)) (show zyR _ _ _ _ [some (.ref 2), some (.ref (0 + 3)), some (.ref (43 + 3)), some (.int i)] [.int (X.2 (i + (1 : Int32)).toNatClampNeg), .ref (0 + 3)] _ _ from ?_)
  refine zy_5 (c := 0) (as := [.int (X.2 (i + (1 : Int32)).toNatClampNeg)]) (rest := []) (L := [some (.ref (0 + 3)), some (.int (X.2 (i + (1 : Int32)).toNatClampNeg))]) (d' := 5) rfl rfl rfl (Nat.le_of_ble_eq_true rfl) (Nat.le_of_ble_eq_true rfl) rfl (Nat.le_of_ble_eq_true rfl) rfl rfl (zyC123 f1) ?_
  show zyR _ _ _ _ [some (.ref 2), some (.ref (0 + 3)), some (.ref (43 + 3)), some (.int i)] [.int r] _ _
  refine zy_34 rfl rfl (show zyR _ _ _ _ [some (.ref 2), some (.ref (0 + 3)), some (.ref (43 + 3)), some (.int i)] [] _ _ from ?_)
  refine zy_0 rfl rfl (show zyR _ _ _ _ [some (.ref 2), some (.ref (0 + 3)), some (.ref (43 + 3)), some (.int i)] [.ref (43 + 3)] _ _ from ?_)
  refine zy_0 rfl rfl (show zyR _ _ _ _ [some (.ref 2), some (.ref (0 + 3)), some (.ref (43 + 3)), some (.int i)] [.ref 2, .ref (43 + 3)] _ _ from ?_)
  refine zy_2 rfl rfl (show zyR _ _ _ _ [some (.ref 2), some (.ref (0 + 3)), some (.ref (43 + 3)), some (.int i)] [.int i, .ref 2, .ref (43 + 3)] _ _ from ?_)
  refine zy_3 rfl rfl (show zyR _ _ _ _ [some (.ref 2), some (.ref (0 + 3)), some (.ref (43 + 3)), some (.int i)] [.int (1 : Int32), .int i, .ref 2, .ref (43 + 3)] _ _ from ?_)
  refine zy_10 rfl (show zyR _ _ _ _ [some (.ref 2), some (.ref (0 + 3)), some (.ref (43 + 3)), some (.int i)] [.int (i + (1 : Int32)), .ref 2, .ref (43 + 3)] _ _ from ?_)
  refine zy_26s rfl (zl_in hX i0 i6 (by decide) (by decide)) (show zyR _ _ _ _ [some (.ref 2), some (.ref (0 + 3)), some (.ref (43 + 3)), some (.int i)] [.int (X.2 (i + (1 : Int32)).toNatClampNeg), .ref (43 + 3)] _ _ from ?_)
  refine zy_5 (c := 43) (as := [.int (X.2 (i + (1 : Int32)).toNatClampNeg)]) (rest := []) (L := [some (.ref (43 + 3)), some (.int (X.2 (i + (1 : Int32)).toNatClampNeg)), none, none]) (d' := 4) rfl rfl rfl (Nat.le_of_ble_eq_true rfl) (Nat.le_of_ble_eq_true rfl) rfl (Nat.le_of_ble_eq_true rfl) rfl rfl (zyC236 f2) ?_
  show zyR _ _ _ _ [some (.ref 2), some (.ref (0 + 3)), some (.ref (43 + 3)), some (.int i)] [.int r] _ _
  refine zy_34 rfl rfl (show zyR _ _ _ _ [some (.ref 2), some (.ref (0 + 3)), some (.ref (43 + 3)), some (.int i)] [] _ _ from ?_)
  exact zy_6 rfl (k _ hI)
theorem zlc_20 {X : zx_X} {i : Int32} {s : zy_S} {P : Option Value → zy_S → Prop} (hX : X.1 ≤ 3072) (i0 : 0 ≤ i.toInt) (i6 : i.toInt + 6 ≤ X.1) (h : zI s) (k : ∀ t, zI t → zyR X 2000 0 1435 [some (.ref 2), some (.ref (0 + 3)), some (.ref (43 + 3)), some (.int i)] [] t P) : zyR X 2000 0 802 [some (.ref 2), some (.ref (0 + 3)), some (.ref (43 + 3)), some (.int i)] [] s P := by
  obtain ⟨r, s1, s2, f1, f2, hI⟩ := zop_split ((X.2 (i + (1 : Int32)).toNatClampNeg)) h
  refine zy_0 rfl rfl (show zyR _ _ _ _ [some (.ref 2), some (.ref (0 + 3)), some (.ref (43 + 3)), some (.int i)] [.ref (0 + 3)] _ _ from ?_)
  refine zy_0 rfl rfl (show zyR _ _ _ _ [some (.ref 2), some (.ref (0 + 3)), some (.ref (43 + 3)), some (.int i)] [.ref 2, .ref (0 + 3)] _ _ from ?_)
  refine zy_2 rfl rfl (show zyR _ _ _ _ [some (.ref 2), some (.ref (0 + 3)), some (.ref (43 + 3)), some (.int i)] [.int i, .ref 2, .ref (0 + 3)] _ _ from ?_)
  refine zy_3 rfl rfl (show zyR _ _ _ _ [some (.ref 2), some (.ref (0 + 3)), some (.ref (43 + 3)), some (.int i)] [.int (1 : Int32), .int i, .ref 2, .ref (0 + 3)] _ _ from ?_)
  refine zy_10 rfl (show zyR _ _ _ _ [some (.ref 2), some (.ref (0 + 3)), some (.ref (43 + 3)), some (.int i)] [.int (i + (1 : Int32)), .ref 2, .ref (0 + 3)] _ _ from ?_)
  refine zy_26s rfl (zl_in hX i0 i6 (by decide) (by decide)) (show zyR _ _ _ _ [some (.ref 2), some (.ref (0 + 3)), some (.ref (43 + 3)), some (.int i)] [.int (X.2 (i + (1 : Int32)).toNatClampNeg), .ref (0 + 3)] _ _ from ?_)
  refine zy_5 (c := 0) (as := [.int (X.2 (i + (1 : Int32)).toNatClampNeg)]) (rest := []) (L := [some (.ref (0 + 3)), some (.int (X.2 (i + (1 : Int32)).toNatClampNeg)), none]) (d' := 7) rfl rfl rfl (Nat.le_of_ble_eq_true rfl) (Nat.le_of_ble_eq_true rfl) rfl (Nat.le_of_ble_eq_true rfl) rfl rfl (zyC125 f1) ?_
  show zyR _ _ _ _ [some (.ref 2), some (.ref (0 + 3)), some (.ref (43 + 3)), some (.int i)] [.int r] _ _
  refine zy_34 rfl rfl (show zyR _ _ _ _ [some (.ref 2), some (.ref (0 + 3)), some (.ref (43 + 3)), some (.int i)] [] _ _ from ?_)
  refine zy_0 rfl rfl (show zyR _ _ _ _ [some (.ref 2), some (.ref (0 + 3)), some (.ref (43 + 3)), some (.int i)] [.ref (43 + 3)] _ _ from ?_)
  refine zy_0 rfl rfl (show zyR _ _ _ _ [some (.ref 2), some (.ref (0 + 3)), some (.ref (43 + 3)), some (.int i)] [.ref 2, .ref (43 + 3)] _ _ from ?_)
  refine zy_2 rfl rfl (show zyR _ _ _ _ [some (.ref 2), some (.ref (0 + 3)), some (.ref (43 + 3)), some (.int i)] [.int i, .ref 2, .ref (43 + 3)] _ _ from ?_)
  refine zy_3 rfl rfl (show zyR _ _ _ _ [some (.ref 2), some (.ref (0 + 3)), some (.ref (43 + 3)), some (.int i)] [.int (1 : Int32), .int i, .ref 2, .ref (43 + 3)] _ _ from ?_)
  refine zy_10 rfl (show zyR _ _ _ _ [some (.ref 2), some (.ref (0 + 3)), some (.ref (43 + 3)), some (.int i)] [.int (i + (1 : Int32)), .ref 2, .ref (43 + 3)] _ _ from ?_)
  refine zy_26s rfl (zl_in hX i0 i6 (by decide) (by decide)) (show zyR _ _ _ _ [some (.ref 2), some (.ref (0 + 3)), some (.ref (43 + 3)), some (.int i)] [.int (X.2 (i + (1 : Int32)).toNatClampNeg), .ref (43 + 3)] _ _ from ?_)
  refine zy_5 (c := 43) (as := [.int (X.2 (i + (1 : Int32)).toNatClampNeg)]) (rest := []) (L := [some (.ref (43 + 3)), some (.int (X.2 (i + (1 : Int32)).toNatClampNeg)), none, none, none, none, none, none]) (d' := 5) rfl rfl rfl (Nat.le_of_ble_eq_true rfl) (Nat.le_of_ble_eq_true rfl) rfl (Nat.le_of_ble_eq_true rfl) rfl rfl (zyC237 f2) ?_
  show zyR _ _ _ _ [some (.ref 2), some (.ref (0 + 3)), some (.ref (43 + 3)), some (.int i)] [.int r] _ _
  refine zy_34 rfl rfl (show zyR _ _ _ _ [some (.ref 2), some (.ref (0 + 3)), some (.ref (43 + 3)), some (.int i)] [] _ _ from ?_)
  exact zy_6 rfl (k _ hI)
theorem zlc_21 {X : zx_X} {i : Int32} {s : zy_S} {P : Option Value → zy_S → Prop} (hX : X.1 ≤ 3072) (i0 : 0 ≤ i.toInt) (i6 : i.toInt + 6 ≤ X.1) (h : zI s) (k : ∀ t, zI t → zyR X 2000 0 1435 [some (.ref 2), some (.ref (0 + 3)), some (.ref (43 + 3)), some (.int i)] [] t P) : zyR X 2000 0 825 [some (.ref 2), some (.ref (0 + 3)), some (.ref (43 + 3)), some (.int i)] [] s P := by
  obtain ⟨r, s1, s2, f1, f2, hI⟩ := zop_drawn ((X.2 (i + (1 : Int32)).toNatClampNeg)) ((X.2 (i + (2 : Int32)).toNatClampNeg)) ((X.2 (i + (3 : Int32)).toNatClampNeg)) h
  refine zy_0 rfl rfl (show zyR _ _ _ _ [some (.ref 2), some (.ref (0 + 3)), some (.ref (43 + 3)), some (.int i)] [.ref (0 + 3)] _ _ from ?_)
  refine zy_0 rfl rfl (show zyR _ _ _ _ [some (.ref 2), some (.ref (0 + 3)), some (.ref (43 + 3)), some (.int i)] [.ref 2, .ref (0 + 3)] _ _ from ?_)
  refine zy_2 rfl rfl (show zyR _ _ _ _ [some (.ref 2), some (.ref (0 + 3)), some (.ref (43 + 3)), some (.int i)] [.int i, .ref 2, .ref (0 + 3)] _ _ from ?_)
  refine zy_3 rfl rfl (show zyR _ _ _ _ [some (.ref 2), some (.ref (0 + 3)), some (.ref (43 + 3)), some (.int i)] [.int (1 : Int32), .int i, .ref 2, .ref (0 + 3)] _ _ from ?_)
  refine zy_10 rfl (show zyR _ _ _ _ [some (.ref 2), some (.ref (0 + 3)), some (.ref (43 + 3)), some (.int i)] [.int (i + (1 : Int32)), .ref 2, .ref (0 + 3)] _ _ from ?_)
  refine zy_26s rfl (zl_in hX i0 i6 (by decide) (by decide)) (show zyR _ _ _ _ [some (.ref 2), some (.ref (0 + 3)), some (.ref (43 + 3)), some (.int i)] [.int (X.2 (i + (1 : Int32)).toNatClampNeg), .ref (0 + 3)] _ _ from ?_)
  refine zy_0 rfl rfl (show zyR _ _ _ _ [some (.ref 2), some (.ref (0 + 3)), some (.ref (43 + 3)), some (.int i)] [.ref 2, .int (X.2 (i + (1 : Int32)).toNatClampNeg), .ref (0 + 3)] _ _ from ?_)
  refine zy_2 rfl rfl (show zyR _ _ _ _ [some (.ref 2), some (.ref (0 + 3)), some (.ref (43 + 3)), some (.int i)] [.int i, .ref 2, .int (X.2 (i + (1 : Int32)).toNatClampNeg), .ref (0 + 3)] _ _ from ?_)
  refine zy_3 rfl rfl (show zyR _ _ _ _ [some (.ref 2), some (.ref (0 + 3)), some (.ref (43 + 3)), some (.int i)] [.int (2 : Int32), .int i, .ref 2, .int (X.2 (i + (1 : Int32)).toNatClampNeg), .ref (0 + 3)] _ _ from ?_)
  refine zy_10 rfl (show zyR _ _ _ _ [some (.ref 2), some (.ref (0 + 3)), some (.ref (43 + 3)), some (.int i)] [.int (i + (2 : Int32)), .ref 2, .int (X.2 (i + (1 : Int32)).toNatClampNeg), .ref (0 + 3)] _ _ from ?_)
  refine zy_26s rfl (zl_in hX i0 i6 (by decide) (by decide)) (show zyR _ _ _ _ [some (.ref 2), some (.ref (0 + 3)), some (.ref (43 + 3)), some (.int i)] [.int (X.2 (i + (2 : Int32)).toNatClampNeg), .int (X.2 (i + (1 : Int32)).toNatClampNeg), .ref (0 + 3)] _ _ from ?_)
  refine zy_0 rfl rfl (show zyR _ _ _ _ [some (.ref 2), some (.ref (0 + 3)), some (.ref (43 + 3)), some (.int i)] [.ref 2, .int (X.2 (i + (2 : Int32)).toNatClampNeg), .int (X.2 (i + (1 : Int32)).toNatClampNeg), .ref (0 + 3)] _ _ from ?_)
  refine zy_2 rfl rfl (show zyR _ _ _ _ [some (.ref 2), some (.ref (0 + 3)), some (.ref (43 + 3)), some (.int i)] [.int i, .ref 2, .int (X.2 (i + (2 : Int32)).toNatClampNeg), .int (X.2 (i + (1 : Int32)).toNatClampNeg), .ref (0 + 3)] _ _ from ?_)
  refine zy_3 rfl rfl (show zyR _ _ _ _ [some (.ref 2), some (.ref (0 + 3)), some (.ref (43 + 3)), some (.int i)] [.int (3 : Int32), .int i, .ref 2, .int (X.2 (i + (2 : Int32)).toNatClampNeg), .int (X.2 (i + (1 : Int32)).toNatClampNeg), .ref (0 + 3)] _ _ from ?_)
  refine zy_10 rfl (show zyR _ _ _ _ [some (.ref 2), some (.ref (0 + 3)), some (.ref (43 + 3)), some (.int i)] [.int (i + (3 : Int32)), .ref 2, .int (X.2 (i + (2 : Int32)).toNatClampNeg), .int (X.2 (i + (1 : Int32)).toNatClampNeg), .ref (0 + 3)] _ _ from ?_)
  refine zy_26s rfl (zl_in hX i0 i6 (by decide) (by decide)) (show zyR _ _ _ _ [some (.ref 2), some (.ref (0 + 3)), some (.ref (43 + 3)), some (.int i)] [.int (X.2 (i + (3 : Int32)).toNatClampNeg), .int (X.2 (i + (2 : Int32)).toNatClampNeg), .int (X.2 (i + (1 : Int32)).toNatClampNeg), .ref (0 + 3)] _ _ from ?_)
  refine zy_5 (c := 0) (as := [.int (X.2 (i + (1 : Int32)).toNatClampNeg), .int (X.2 (i + (2 : Int32)).toNatClampNeg), .int (X.2 (i + (3 : Int32)).toNatClampNeg)]) (rest := []) (L := [some (.ref (0 + 3)), some (.int (X.2 (i + (1 : Int32)).toNatClampNeg)), some (.int (X.2 (i + (2 : Int32)).toNatClampNeg)), some (.int (X.2 (i + (3 : Int32)).toNatClampNeg)), none, none]) (d' := 8) rfl rfl rfl (Nat.le_of_ble_eq_true rfl) (Nat.le_of_ble_eq_true rfl) rfl (Nat.le_of_ble_eq_true rfl) rfl rfl (zyC129 f1) ?_
  show zyR _ _ _ _ [some (.ref 2), some (.ref (0 + 3)), some (.ref (43 + 3)), some (.int i)] [.int r] _ _
  refine zy_34 rfl rfl (show zyR _ _ _ _ [some (.ref 2), some (.ref (0 + 3)), some (.ref (43 + 3)), some (.int i)] [] _ _ from ?_)
  refine zy_0 rfl rfl (show zyR _ _ _ _ [some (.ref 2), some (.ref (0 + 3)), some (.ref (43 + 3)), some (.int i)] [.ref (43 + 3)] _ _ from ?_)
  refine zy_0 rfl rfl (show zyR _ _ _ _ [some (.ref 2), some (.ref (0 + 3)), some (.ref (43 + 3)), some (.int i)] [.ref 2, .ref (43 + 3)] _ _ from ?_)
  refine zy_2 rfl rfl (show zyR _ _ _ _ [some (.ref 2), some (.ref (0 + 3)), some (.ref (43 + 3)), some (.int i)] [.int i, .ref 2, .ref (43 + 3)] _ _ from ?_)
  refine zy_3 rfl rfl (show zyR _ _ _ _ [some (.ref 2), some (.ref (0 + 3)), some (.ref (43 + 3)), some (.int i)] [.int (1 : Int32), .int i, .ref 2, .ref (43 + 3)] _ _ from ?_)
  refine zy_10 rfl (show zyR _ _ _ _ [some (.ref 2), some (.ref (0 + 3)), some (.ref (43 + 3)), some (.int i)] [.int (i + (1 : Int32)), .ref 2, .ref (43 + 3)] _ _ from ?_)
  refine zy_26s rfl (zl_in hX i0 i6 (by decide) (by decide)) (show zyR _ _ _ _ [some (.ref 2), some (.ref (0 + 3)), some (.ref (43 + 3)), some (.int i)] [.int (X.2 (i + (1 : Int32)).toNatClampNeg), .ref (43 + 3)] _ _ from ?_)
  refine zy_0 rfl rfl (show zyR _ _ _ _ [some (.ref 2), some (.ref (0 + 3)), some (.ref (43 + 3)), some (.int i)] [.ref 2, .int (X.2 (i + (1 : Int32)).toNatClampNeg), .ref (43 + 3)] _ _ from ?_)
  refine zy_2 rfl rfl (show zyR _ _ _ _ [some (.ref 2), some (.ref (0 + 3)), some (.ref (43 + 3)), some (.int i)] [.int i, .ref 2, .int (X.2 (i + (1 : Int32)).toNatClampNeg), .ref (43 + 3)] _ _ from ?_)
  refine zy_3 rfl rfl (show zyR _ _ _ _ [some (.ref 2), some (.ref (0 + 3)), some (.ref (43 + 3)), some (.int i)] [.int (2 : Int32), .int i, .ref 2, .int (X.2 (i + (1 : Int32)).toNatClampNeg), .ref (43 + 3)] _ _ from ?_)
  refine zy_10 rfl (show zyR _ _ _ _ [some (.ref 2), some (.ref (0 + 3)), some (.ref (43 + 3)), some (.int i)] [.int (i + (2 : Int32)), .ref 2, .int (X.2 (i + (1 : Int32)).toNatClampNeg), .ref (43 + 3)] _ _ from ?_)
  refine zy_26s rfl (zl_in hX i0 i6 (by decide) (by decide)) (show zyR _ _ _ _ [some (.ref 2), some (.ref (0 + 3)), some (.ref (43 + 3)), some (.int i)] [.int (X.2 (i + (2 : Int32)).toNatClampNeg), .int (X.2 (i + (1 : Int32)).toNatClampNeg), .ref (43 + 3)] _ _ from ?_)
  refine zy_0 rfl rfl (show zyR _ _ _ _ [some (.ref 2), some (.ref (0 + 3)), some (.ref (43 + 3)), some (.int i)] [.ref 2, .int (X.2 (i + (2 : Int32)).toNatClampNeg), .int (X.2 (i + (1 : Int32)).toNatClampNeg), .ref (43 + 3)] _ _ from ?_)
  refine zy_2 rfl rfl (show zyR _ _ _ _ [some (.ref 2), some (.ref (0 + 3)), some (.ref (43 + 3)), some (.int i)] [.int i, .ref 2, .int (X.2 (i + (2 : Int32)).toNatClampNeg), .int (X.2 (i + (1 : Int32)).toNatClampNeg), .ref (43 + 3)] _ _ from ?_)
  refine zy_3 rfl rfl (show zyR _ _ _ _ [some (.ref 2), some (.ref (0 + 3)), some (.ref (43 + 3)), some (.int i)] [.int (3 : Int32), .int i, .ref 2, .int (X.2 (i + (2 : Int32)).toNatClampNeg), .int (X.2 (i + (1 : Int32)).toNatClampNeg), .ref (43 + 3)] _ _ from ?_)
  refine zy_10 rfl (show zyR _ _ _ _ [some (.ref 2), some (.ref (0 + 3)), some (.ref (43 + 3)), some (.int i)] [.int (i + (3 : Int32)), .ref 2, .int (X.2 (i + (2 : Int32)).toNatClampNeg), .int (X.2 (i + (1 : Int32)).toNatClampNeg), .ref (43 + 3)] _ _ from ?_)
  refine zy_26s rfl (zl_in hX i0 i6 (by decide) (by decide)) (show zyR _ _ _ _ [some (.ref 2), some (.ref (0 + 3)), some (.ref (43 + 3)), some (.int i)] [.int (X.2 (i + (3 : Int32)).toNatClampNeg), .int (X.2 (i + (2 : Int32)).toNatClampNeg), .int (X.2 (i + (1 : Int32)).toNatClampNeg), .ref (43 + 3)] _ _ from ?_)
  refine zy_5 (c := 43) (as := [.int (X.2 (i + (1 : Int32)).toNatClampNeg), .int (X.2 (i + (2 : Int32)).toNatClampNeg), .int (X.2 (i + (3 : Int32)).toNatClampNeg)]) (rest := []) (L := [some (.ref (43 + 3)), some (.int (X.2 (i + (1 : Int32)).toNatClampNeg)), some (.int (X.2 (i + (2 : Int32)).toNatClampNeg)), some (.int (X.2 (i + (3 : Int32)).toNatClampNeg)), none, none, none, none, none, none, none]) (d' := 107) rfl rfl rfl (Nat.le_of_ble_eq_true rfl) (Nat.le_of_ble_eq_true rfl) rfl (Nat.le_of_ble_eq_true rfl) rfl rfl (zyC239 f2) ?_
  show zyR _ _ _ _ [some (.ref 2), some (.ref (0 + 3)), some (.ref (43 + 3)), some (.int i)] [.int r] _ _
  refine zy_34 rfl rfl (show zyR _ _ _ _ [some (.ref 2), some (.ref (0 + 3)), some (.ref (43 + 3)), some (.int i)] [] _ _ from ?_)
  exact zy_6 rfl (k _ hI)
theorem zlc_22 {X : zx_X} {i : Int32} {s : zy_S} {P : Option Value → zy_S → Prop} (hX : X.1 ≤ 3072) (i0 : 0 ≤ i.toInt) (i6 : i.toInt + 6 ≤ X.1) (h : zI s) (k : ∀ t, zI t → zyR X 2000 0 1435 [some (.ref 2), some (.ref (0 + 3)), some (.ref (43 + 3)), some (.int i)] [] t P) : zyR X 2000 0 868 [some (.ref 2), some (.ref (0 + 3)), some (.ref (43 + 3)), some (.int i)] [] s P := by
  obtain ⟨r, s1, s2, f1, f2, hI⟩ := zop_write ((X.2 (i + (1 : Int32)).toNatClampNeg)) h
  refine zy_0 rfl rfl (show zyR _ _ _ _ [some (.ref 2), some (.ref (0 + 3)), some (.ref (43 + 3)), some (.int i)] [.ref (0 + 3)] _ _ from ?_)
  refine zy_0 rfl rfl (show zyR _ _ _ _ [some (.ref 2), some (.ref (0 + 3)), some (.ref (43 + 3)), some (.int i)] [.ref 2, .ref (0 + 3)] _ _ from ?_)
  refine zy_2 rfl rfl (show zyR _ _ _ _ [some (.ref 2), some (.ref (0 + 3)), some (.ref (43 + 3)), some (.int i)] [.int i, .ref 2, .ref (0 + 3)] _ _ from ?_)
  refine zy_3 rfl rfl (show zyR _ _ _ _ [some (.ref 2), some (.ref (0 + 3)), some (.ref (43 + 3)), some (.int i)] [.int (1 : Int32), .int i, .ref 2, .ref (0 + 3)] _ _ from ?_)
  refine zy_10 rfl (show zyR _ _ _ _ [some (.ref 2), some (.ref (0 + 3)), some (.ref (43 + 3)), some (.int i)] [.int (i + (1 : Int32)), .ref 2, .ref (0 + 3)] _ _ from ?_)
  refine zy_26s rfl (zl_in hX i0 i6 (by decide) (by decide)) (show zyR _ _ _ _ [some (.ref 2), some (.ref (0 + 3)), some (.ref (43 + 3)), some (.int i)] [.int (X.2 (i + (1 : Int32)).toNatClampNeg), .ref (0 + 3)] _ _ from ?_)
  refine zy_5 (c := 0) (as := [.int (X.2 (i + (1 : Int32)).toNatClampNeg)]) (rest := []) (L := [some (.ref (0 + 3)), some (.int (X.2 (i + (1 : Int32)).toNatClampNeg))]) (d' := 4) rfl rfl rfl (Nat.le_of_ble_eq_true rfl) (Nat.le_of_ble_eq_true rfl) rfl (Nat.le_of_ble_eq_true rfl) rfl rfl (zyC131 f1) ?_
  show zyR _ _ _ _ [some (.ref 2), some (.ref (0 + 3)), some (.ref (43 + 3)), some (.int i)] [.int r] _ _
  refine zy_34 rfl rfl (show zyR _ _ _ _ [some (.ref 2), some (.ref (0 + 3)), some (.ref (43 + 3)), some (.int i)] [] _ _ from ?_)
  refine zy_0 rfl rfl (show zyR _ _ _ _ [some (.ref 2), some (.ref (0 + 3)), some (.ref (43 + 3)), some (.int i)] [.ref (43 + 3)] _ _ from ?_)
  refine zy_0 rfl rfl (show zyR _ _ _ _ [some (.ref 2), some (.ref (0 + 3)), some (.ref (43 + 3)), some (.int i)] [.ref 2, .ref (43 + 3)] _ _ from ?_)
  refine zy_2 rfl rfl (show zyR _ _ _ _ [some (.ref 2), some (.ref (0 + 3)), some (.ref (43 + 3)), some (.int i)] [.int i, .ref 2, .ref (43 + 3)] _ _ from ?_)
  refine zy_3 rfl rfl (show zyR _ _ _ _ [some (.ref 2), some (.ref (0 + 3)), some (.ref (43 + 3)), some (.int i)] [.int (1 : Int32), .int i, .ref 2, .ref (43 + 3)] _ _ from ?_)
  refine zy_10 rfl (show zyR _ _ _ _ [some (.ref 2), some (.ref (0 + 3)), some (.ref (43 + 3)), some (.int i)] [.int (i + (1 : Int32)), .ref 2, .ref (43 + 3)] _ _ from ?_)
  refine zy_26s rfl (zl_in hX i0 i6 (by decide) (by decide)) (show zyR _ _ _ _ [some (.ref 2), some (.ref (0 + 3)), some (.ref (43 + 3)), some (.int i)] [.int (X.2 (i + (1 : Int32)).toNatClampNeg), .ref (43 + 3)] _ _ from ?_)
  refine zy_5 (c := 43) (as := [.int (X.2 (i + (1 : Int32)).toNatClampNeg)]) (rest := []) (L := [some (.ref (43 + 3)), some (.int (X.2 (i + (1 : Int32)).toNatClampNeg))]) (d' := 3) rfl rfl rfl (Nat.le_of_ble_eq_true rfl) (Nat.le_of_ble_eq_true rfl) rfl (Nat.le_of_ble_eq_true rfl) rfl rfl (zyC240 f2) ?_
  show zyR _ _ _ _ [some (.ref 2), some (.ref (0 + 3)), some (.ref (43 + 3)), some (.int i)] [.int r] _ _
  refine zy_34 rfl rfl (show zyR _ _ _ _ [some (.ref 2), some (.ref (0 + 3)), some (.ref (43 + 3)), some (.int i)] [] _ _ from ?_)
  exact zy_6 rfl (k _ hI)
theorem zlc_23 {X : zx_X} {i : Int32} {s : zy_S} {P : Option Value → zy_S → Prop} (hX : X.1 ≤ 3072) (i0 : 0 ≤ i.toInt) (i6 : i.toInt + 6 ≤ X.1) (h : zI s) (k : ∀ t, zI t → zyR X 2000 0 1435 [some (.ref 2), some (.ref (0 + 3)), some (.ref (43 + 3)), some (.int i)] [] t P) : zyR X 2000 0 891 [some (.ref 2), some (.ref (0 + 3)), some (.ref (43 + 3)), some (.int i)] [] s P := by
  obtain ⟨r, s1, s2, f1, f2, hI⟩ := zop_strike ((X.2 (i + (1 : Int32)).toNatClampNeg)) h
  refine zy_0 rfl rfl (show zyR _ _ _ _ [some (.ref 2), some (.ref (0 + 3)), some (.ref (43 + 3)), some (.int i)] [.ref (0 + 3)] _ _ from ?_)
  refine zy_0 rfl rfl (show zyR _ _ _ _ [some (.ref 2), some (.ref (0 + 3)), some (.ref (43 + 3)), some (.int i)] [.ref 2, .ref (0 + 3)] _ _ from ?_)
  refine zy_2 rfl rfl (show zyR _ _ _ _ [some (.ref 2), some (.ref (0 + 3)), some (.ref (43 + 3)), some (.int i)] [.int i, .ref 2, .ref (0 + 3)] _ _ from ?_)
  refine zy_3 rfl rfl (show zyR _ _ _ _ [some (.ref 2), some (.ref (0 + 3)), some (.ref (43 + 3)), some (.int i)] [.int (1 : Int32), .int i, .ref 2, .ref (0 + 3)] _ _ from ?_)
  refine zy_10 rfl (show zyR _ _ _ _ [some (.ref 2), some (.ref (0 + 3)), some (.ref (43 + 3)), some (.int i)] [.int (i + (1 : Int32)), .ref 2, .ref (0 + 3)] _ _ from ?_)
  refine zy_26s rfl (zl_in hX i0 i6 (by decide) (by decide)) (show zyR _ _ _ _ [some (.ref 2), some (.ref (0 + 3)), some (.ref (43 + 3)), some (.int i)] [.int (X.2 (i + (1 : Int32)).toNatClampNeg), .ref (0 + 3)] _ _ from ?_)
  refine zy_5 (c := 0) (as := [.int (X.2 (i + (1 : Int32)).toNatClampNeg)]) (rest := []) (L := [some (.ref (0 + 3)), some (.int (X.2 (i + (1 : Int32)).toNatClampNeg))]) (d' := 4) rfl rfl rfl (Nat.le_of_ble_eq_true rfl) (Nat.le_of_ble_eq_true rfl) rfl (Nat.le_of_ble_eq_true rfl) rfl rfl (zyC133 f1) ?_
  show zyR _ _ _ _ [some (.ref 2), some (.ref (0 + 3)), some (.ref (43 + 3)), some (.int i)] [.int r] _ _
  refine zy_34 rfl rfl (show zyR _ _ _ _ [some (.ref 2), some (.ref (0 + 3)), some (.ref (43 + 3)), some (.int i)] [] _ _ from ?_)
  refine zy_0 rfl rfl (show zyR _ _ _ _ [some (.ref 2), some (.ref (0 + 3)), some (.ref (43 + 3)), some (.int i)] [.ref (43 + 3)] _ _ from ?_)
  refine zy_0 rfl rfl (show zyR _ _ _ _ [some (.ref 2), some (.ref (0 + 3)), some (.ref (43 + 3)), some (.int i)] [.ref 2, .ref (43 + 3)] _ _ from ?_)
  refine zy_2 rfl rfl (show zyR _ _ _ _ [some (.ref 2), some (.ref (0 + 3)), some (.ref (43 + 3)), some (.int i)] [.int i, .ref 2, .ref (43 + 3)] _ _ from ?_)
  refine zy_3 rfl rfl (show zyR _ _ _ _ [some (.ref 2), some (.ref (0 + 3)), some (.ref (43 + 3)), some (.int i)] [.int (1 : Int32), .int i, .ref 2, .ref (43 + 3)] _ _ from ?_)
  refine zy_10 rfl (show zyR _ _ _ _ [some (.ref 2), some (.ref (0 + 3)), some (.ref (43 + 3)), some (.int i)] [.int (i + (1 : Int32)), .ref 2, .ref (43 + 3)] _ _ from ?_)
  refine zy_26s rfl (zl_in hX i0 i6 (by decide) (by decide)) (show zyR _ _ _ _ [some (.ref 2), some (.ref (0 + 3)), some (.ref (43 + 3)), some (.int i)] [.int (X.2 (i + (1 : Int32)).toNatClampNeg), .ref (43 + 3)] _ _ from ?_)
  refine zy_5 (c := 43) (as := [.int (X.2 (i + (1 : Int32)).toNatClampNeg)]) (rest := []) (L := [some (.ref (43 + 3)), some (.int (X.2 (i + (1 : Int32)).toNatClampNeg))]) (d' := 3) rfl rfl rfl (Nat.le_of_ble_eq_true rfl) (Nat.le_of_ble_eq_true rfl) rfl (Nat.le_of_ble_eq_true rfl) rfl rfl (zyC241 f2) ?_
  show zyR _ _ _ _ [some (.ref 2), some (.ref (0 + 3)), some (.ref (43 + 3)), some (.int i)] [.int r] _ _
  refine zy_34 rfl rfl (show zyR _ _ _ _ [some (.ref 2), some (.ref (0 + 3)), some (.ref (43 + 3)), some (.int i)] [] _ _ from ?_)
  exact zy_6 rfl (k _ hI)
theorem zlc_24 {X : zx_X} {i : Int32} {s : zy_S} {P : Option Value → zy_S → Prop} (hX : X.1 ≤ 3072) (i0 : 0 ≤ i.toInt) (i6 : i.toInt + 6 ≤ X.1) (h : zI s) (k : ∀ t, zI t → zyR X 2000 0 1435 [some (.ref 2), some (.ref (0 + 3)), some (.ref (43 + 3)), some (.int i)] [] t P) : zyR X 2000 0 914 [some (.ref 2), some (.ref (0 + 3)), some (.ref (43 + 3)), some (.int i)] [] s P := by
  obtain ⟨r, s1, s2, f1, f2, hI⟩ := zop_rub ((X.2 (i + (1 : Int32)).toNatClampNeg)) h
  refine zy_0 rfl rfl (show zyR _ _ _ _ [some (.ref 2), some (.ref (0 + 3)), some (.ref (43 + 3)), some (.int i)] [.ref (0 + 3)] _ _ from ?_)
  refine zy_0 rfl rfl (show zyR _ _ _ _ [some (.ref 2), some (.ref (0 + 3)), some (.ref (43 + 3)), some (.int i)] [.ref 2, .ref (0 + 3)] _ _ from ?_)
  refine zy_2 rfl rfl (show zyR _ _ _ _ [some (.ref 2), some (.ref (0 + 3)), some (.ref (43 + 3)), some (.int i)] [.int i, .ref 2, .ref (0 + 3)] _ _ from ?_)
  refine zy_3 rfl rfl (show zyR _ _ _ _ [some (.ref 2), some (.ref (0 + 3)), some (.ref (43 + 3)), some (.int i)] [.int (1 : Int32), .int i, .ref 2, .ref (0 + 3)] _ _ from ?_)
  refine zy_10 rfl (show zyR _ _ _ _ [some (.ref 2), some (.ref (0 + 3)), some (.ref (43 + 3)), some (.int i)] [.int (i + (1 : Int32)), .ref 2, .ref (0 + 3)] _ _ from ?_)
  refine zy_26s rfl (zl_in hX i0 i6 (by decide) (by decide)) (show zyR _ _ _ _ [some (.ref 2), some (.ref (0 + 3)), some (.ref (43 + 3)), some (.int i)] [.int (X.2 (i + (1 : Int32)).toNatClampNeg), .ref (0 + 3)] _ _ from ?_)
  refine zy_5 (c := 0) (as := [.int (X.2 (i + (1 : Int32)).toNatClampNeg)]) (rest := []) (L := [some (.ref (0 + 3)), some (.int (X.2 (i + (1 : Int32)).toNatClampNeg))]) (d' := 3) rfl rfl rfl (Nat.le_of_ble_eq_true rfl) (Nat.le_of_ble_eq_true rfl) rfl (Nat.le_of_ble_eq_true rfl) rfl rfl (zyC135 f1) ?_
  show zyR _ _ _ _ [some (.ref 2), some (.ref (0 + 3)), some (.ref (43 + 3)), some (.int i)] [.int r] _ _
  refine zy_34 rfl rfl (show zyR _ _ _ _ [some (.ref 2), some (.ref (0 + 3)), some (.ref (43 + 3)), some (.int i)] [] _ _ from ?_)
  refine zy_0 rfl rfl (show zyR _ _ _ _ [some (.ref 2), some (.ref (0 + 3)), some (.ref (43 + 3)), some (.int i)] [.ref (43 + 3)] _ _ from ?_)
  refine zy_0 rfl rfl (show zyR _ _ _ _ [some (.ref 2), some (.ref (0 + 3)), some (.ref (43 + 3)), some (.int i)] [.ref 2, .ref (43 + 3)] _ _ from ?_)
  refine zy_2 rfl rfl (show zyR _ _ _ _ [some (.ref 2), some (.ref (0 + 3)), some (.ref (43 + 3)), some (.int i)] [.int i, .ref 2, .ref (43 + 3)] _ _ from ?_)
  refine zy_3 rfl rfl (show zyR _ _ _ _ [some (.ref 2), some (.ref (0 + 3)), some (.ref (43 + 3)), some (.int i)] [.int (1 : Int32), .int i, .ref 2, .ref (43 + 3)] _ _ from ?_)
  refine zy_10 rfl (show zyR _ _ _ _ [some (.ref 2), some (.ref (0 + 3)), some (.ref (43 + 3)), some (.int i)] [.int (i + (1 : Int32)), .ref 2, .ref (43 + 3)] _ _ from ?_)
  refine zy_26s rfl (zl_in hX i0 i6 (by decide) (by decide)) (show zyR _ _ _ _ [some (.ref 2), some (.ref (0 + 3)), some (.ref (43 + 3)), some (.int i)] [.int (X.2 (i + (1 : Int32)).toNatClampNeg), .ref (43 + 3)] _ _ from ?_)
  refine zy_5 (c := 43) (as := [.int (X.2 (i + (1 : Int32)).toNatClampNeg)]) (rest := []) (L := [some (.ref (43 + 3)), some (.int (X.2 (i + (1 : Int32)).toNatClampNeg))]) (d' := 3) rfl rfl rfl (Nat.le_of_ble_eq_true rfl) (Nat.le_of_ble_eq_true rfl) rfl (Nat.le_of_ble_eq_true rfl) rfl rfl (zyC242 f2) ?_
  show zyR _ _ _ _ [some (.ref 2), some (.ref (0 + 3)), some (.ref (43 + 3)), some (.int i)] [.int r] _ _
  refine zy_34 rfl rfl (show zyR _ _ _ _ [some (.ref 2), some (.ref (0 + 3)), some (.ref (43 + 3)), some (.int i)] [] _ _ from ?_)
  exact zy_6 rfl (k _ hI)
theorem zlc_25 {X : zx_X} {i : Int32} {s : zy_S} {P : Option Value → zy_S → Prop} (hX : X.1 ≤ 3072) (i0 : 0 ≤ i.toInt) (i6 : i.toInt + 6 ≤ X.1) (h : zI s) (k : ∀ t, zI t → zyR X 2000 0 1435 [some (.ref 2), some (.ref (0 + 3)), some (.ref (43 + 3)), some (.int i)] [] t P) : zyR X 2000 0 937 [some (.ref 2), some (.ref (0 + 3)), some (.ref (43 + 3)), some (.int i)] [] s P := by
  obtain ⟨r, s1, s2, f1, f2, hI⟩ := zop_won ((X.2 (i + (1 : Int32)).toNatClampNeg)) ((X.2 (i + (2 : Int32)).toNatClampNeg)) h
  refine zy_0 rfl rfl (show zyR _ _ _ _ [some (.ref 2), some (.ref (0 + 3)), some (.ref (43 + 3)), some (.int i)] [.ref (0 + 3)] _ _ from ?_)
  refine zy_0 rfl rfl (show zyR _ _ _ _ [some (.ref 2), some (.ref (0 + 3)), some (.ref (43 + 3)), some (.int i)] [.ref 2, .ref (0 + 3)] _ _ from ?_)
  refine zy_2 rfl rfl (show zyR _ _ _ _ [some (.ref 2), some (.ref (0 + 3)), some (.ref (43 + 3)), some (.int i)] [.int i, .ref 2, .ref (0 + 3)] _ _ from ?_)
  refine zy_3 rfl rfl (show zyR _ _ _ _ [some (.ref 2), some (.ref (0 + 3)), some (.ref (43 + 3)), some (.int i)] [.int (1 : Int32), .int i, .ref 2, .ref (0 + 3)] _ _ from ?_)
  refine zy_10 rfl (show zyR _ _ _ _ [some (.ref 2), some (.ref (0 + 3)), some (.ref (43 + 3)), some (.int i)] [.int (i + (1 : Int32)), .ref 2, .ref (0 + 3)] _ _ from ?_)
  refine zy_26s rfl (zl_in hX i0 i6 (by decide) (by decide)) (show zyR _ _ _ _ [some (.ref 2), some (.ref (0 + 3)), some (.ref (43 + 3)), some (.int i)] [.int (X.2 (i + (1 : Int32)).toNatClampNeg), .ref (0 + 3)] _ _ from ?_)
  refine zy_0 rfl rfl (show zyR _ _ _ _ [some (.ref 2), some (.ref (0 + 3)), some (.ref (43 + 3)), some (.int i)] [.ref 2, .int (X.2 (i + (1 : Int32)).toNatClampNeg), .ref (0 + 3)] _ _ from ?_)
  refine zy_2 rfl rfl (show zyR _ _ _ _ [some (.ref 2), some (.ref (0 + 3)), some (.ref (43 + 3)), some (.int i)] [.int i, .ref 2, .int (X.2 (i + (1 : Int32)).toNatClampNeg), .ref (0 + 3)] _ _ from ?_)
  refine zy_3 rfl rfl (show zyR _ _ _ _ [some (.ref 2), some (.ref (0 + 3)), some (.ref (43 + 3)), some (.int i)] [.int (2 : Int32), .int i, .ref 2, .int (X.2 (i + (1 : Int32)).toNatClampNeg), .ref (0 + 3)] _ _ from ?_)
  refine zy_10 rfl (show zyR _ _ _ _ [some (.ref 2), some (.ref (0 + 3)), some (.ref (43 + 3)), some (.int i)] [.int (i + (2 : Int32)), .ref 2, .int (X.2 (i + (1 : Int32)).toNatClampNeg), .ref (0 + 3)] _ _ from ?_)
  refine zy_26s rfl (zl_in hX i0 i6 (by decide) (by decide)) (show zyR _ _ _ _ [some (.ref 2), some (.ref (0 + 3)), some (.ref (43 + 3)), some (.int i)] [.int (X.2 (i + (2 : Int32)).toNatClampNeg), .int (X.2 (i + (1 : Int32)).toNatClampNeg), .ref (0 + 3)] _ _ from ?_)
  refine zy_5 (c := 0) (as := [.int (X.2 (i + (1 : Int32)).toNatClampNeg), .int (X.2 (i + (2 : Int32)).toNatClampNeg)]) (rest := []) (L := [some (.ref (0 + 3)), some (.int (X.2 (i + (1 : Int32)).toNatClampNeg)), some (.int (X.2 (i + (2 : Int32)).toNatClampNeg))]) (d' := 3) rfl rfl rfl (Nat.le_of_ble_eq_true rfl) (Nat.le_of_ble_eq_true rfl) rfl (Nat.le_of_ble_eq_true rfl) rfl rfl (zyC137 f1) ?_
  show zyR _ _ _ _ [some (.ref 2), some (.ref (0 + 3)), some (.ref (43 + 3)), some (.int i)] [.int r] _ _
  refine zy_34 rfl rfl (show zyR _ _ _ _ [some (.ref 2), some (.ref (0 + 3)), some (.ref (43 + 3)), some (.int i)] [] _ _ from ?_)
  refine zy_0 rfl rfl (show zyR _ _ _ _ [some (.ref 2), some (.ref (0 + 3)), some (.ref (43 + 3)), some (.int i)] [.ref (43 + 3)] _ _ from ?_)
  refine zy_0 rfl rfl (show zyR _ _ _ _ [some (.ref 2), some (.ref (0 + 3)), some (.ref (43 + 3)), some (.int i)] [.ref 2, .ref (43 + 3)] _ _ from ?_)
  refine zy_2 rfl rfl (show zyR _ _ _ _ [some (.ref 2), some (.ref (0 + 3)), some (.ref (43 + 3)), some (.int i)] [.int i, .ref 2, .ref (43 + 3)] _ _ from ?_)
  refine zy_3 rfl rfl (show zyR _ _ _ _ [some (.ref 2), some (.ref (0 + 3)), some (.ref (43 + 3)), some (.int i)] [.int (1 : Int32), .int i, .ref 2, .ref (43 + 3)] _ _ from ?_)
  refine zy_10 rfl (show zyR _ _ _ _ [some (.ref 2), some (.ref (0 + 3)), some (.ref (43 + 3)), some (.int i)] [.int (i + (1 : Int32)), .ref 2, .ref (43 + 3)] _ _ from ?_)
  refine zy_26s rfl (zl_in hX i0 i6 (by decide) (by decide)) (show zyR _ _ _ _ [some (.ref 2), some (.ref (0 + 3)), some (.ref (43 + 3)), some (.int i)] [.int (X.2 (i + (1 : Int32)).toNatClampNeg), .ref (43 + 3)] _ _ from ?_)
  refine zy_0 rfl rfl (show zyR _ _ _ _ [some (.ref 2), some (.ref (0 + 3)), some (.ref (43 + 3)), some (.int i)] [.ref 2, .int (X.2 (i + (1 : Int32)).toNatClampNeg), .ref (43 + 3)] _ _ from ?_)
  refine zy_2 rfl rfl (show zyR _ _ _ _ [some (.ref 2), some (.ref (0 + 3)), some (.ref (43 + 3)), some (.int i)] [.int i, .ref 2, .int (X.2 (i + (1 : Int32)).toNatClampNeg), .ref (43 + 3)] _ _ from ?_)
  refine zy_3 rfl rfl (show zyR _ _ _ _ [some (.ref 2), some (.ref (0 + 3)), some (.ref (43 + 3)), some (.int i)] [.int (2 : Int32), .int i, .ref 2, .int (X.2 (i + (1 : Int32)).toNatClampNeg), .ref (43 + 3)] _ _ from ?_)
  refine zy_10 rfl (show zyR _ _ _ _ [some (.ref 2), some (.ref (0 + 3)), some (.ref (43 + 3)), some (.int i)] [.int (i + (2 : Int32)), .ref 2, .int (X.2 (i + (1 : Int32)).toNatClampNeg), .ref (43 + 3)] _ _ from ?_)
  refine zy_26s rfl (zl_in hX i0 i6 (by decide) (by decide)) (show zyR _ _ _ _ [some (.ref 2), some (.ref (0 + 3)), some (.ref (43 + 3)), some (.int i)] [.int (X.2 (i + (2 : Int32)).toNatClampNeg), .int (X.2 (i + (1 : Int32)).toNatClampNeg), .ref (43 + 3)] _ _ from ?_)
  refine zy_5 (c := 43) (as := [.int (X.2 (i + (1 : Int32)).toNatClampNeg), .int (X.2 (i + (2 : Int32)).toNatClampNeg)]) (rest := []) (L := [some (.ref (43 + 3)), some (.int (X.2 (i + (1 : Int32)).toNatClampNeg)), some (.int (X.2 (i + (2 : Int32)).toNatClampNeg)), none]) (d' := 4) rfl rfl rfl (Nat.le_of_ble_eq_true rfl) (Nat.le_of_ble_eq_true rfl) rfl (Nat.le_of_ble_eq_true rfl) rfl rfl (zyC243 f2) ?_
  show zyR _ _ _ _ [some (.ref 2), some (.ref (0 + 3)), some (.ref (43 + 3)), some (.int i)] [.int r] _ _
  refine zy_34 rfl rfl (show zyR _ _ _ _ [some (.ref 2), some (.ref (0 + 3)), some (.ref (43 + 3)), some (.int i)] [] _ _ from ?_)
  exact zy_6 rfl (k _ hI)
theorem zlc_26 {X : zx_X} {i : Int32} {s : zy_S} {P : Option Value → zy_S → Prop} (hX : X.1 ≤ 3072) (i0 : 0 ≤ i.toInt) (i6 : i.toInt + 6 ≤ X.1) (h : zI s) (k : ∀ t, zI t → zyR X 2000 0 1435 [some (.ref 2), some (.ref (0 + 3)), some (.ref (43 + 3)), some (.int i)] [] t P) : zyR X 2000 0 970 [some (.ref 2), some (.ref (0 + 3)), some (.ref (43 + 3)), some (.int i)] [] s P := by
  obtain ⟨r, s1, s2, f1, f2, hI⟩ := zop_led ((X.2 (i + (1 : Int32)).toNatClampNeg)) h
  refine zy_0 rfl rfl (show zyR _ _ _ _ [some (.ref 2), some (.ref (0 + 3)), some (.ref (43 + 3)), some (.int i)] [.ref (0 + 3)] _ _ from ?_)
  refine zy_0 rfl rfl (show zyR _ _ _ _ [some (.ref 2), some (.ref (0 + 3)), some (.ref (43 + 3)), some (.int i)] [.ref 2, .ref (0 + 3)] _ _ from ?_)
  refine zy_2 rfl rfl (show zyR _ _ _ _ [some (.ref 2), some (.ref (0 + 3)), some (.ref (43 + 3)), some (.int i)] [.int i, .ref 2, .ref (0 + 3)] _ _ from ?_)
  refine zy_3 rfl rfl (show zyR _ _ _ _ [some (.ref 2), some (.ref (0 + 3)), some (.ref (43 + 3)), some (.int i)] [.int (1 : Int32), .int i, .ref 2, .ref (0 + 3)] _ _ from ?_)
  refine zy_10 rfl (show zyR _ _ _ _ [some (.ref 2), some (.ref (0 + 3)), some (.ref (43 + 3)), some (.int i)] [.int (i + (1 : Int32)), .ref 2, .ref (0 + 3)] _ _ from ?_)
  refine zy_26s rfl (zl_in hX i0 i6 (by decide) (by decide)) (show zyR _ _ _ _ [some (.ref 2), some (.ref (0 + 3)), some (.ref (43 + 3)), some (.int i)] [.int (X.2 (i + (1 : Int32)).toNatClampNeg), .ref (0 + 3)] _ _ from ?_)
  refine zy_5 (c := 0) (as := [.int (X.2 (i + (1 : Int32)).toNatClampNeg)]) (rest := []) (L := [some (.ref (0 + 3)), some (.int (X.2 (i + (1 : Int32)).toNatClampNeg))]) (d' := 1) rfl rfl rfl (Nat.le_of_ble_eq_true rfl) (Nat.le_of_ble_eq_true rfl) rfl (Nat.le_of_ble_eq_true rfl) rfl rfl (zyC139 f1) ?_
  show zyR _ _ _ _ [some (.ref 2), some (.ref (0 + 3)), some (.ref (43 + 3)), some (.int i)] [.int r] _ _
  refine zy_34 rfl rfl (show zyR _ _ _ _ [some (.ref 2), some (.ref (0 + 3)), some (.ref (43 + 3)), some (.int i)] [] _ _ from ?_)
  refine zy_0 rfl rfl (show zyR _ _ _ _ [some (.ref 2), some (.ref (0 + 3)), some (.ref (43 + 3)), some (.int i)] [.ref (43 + 3)] _ _ from ?_)
  refine zy_0 rfl rfl (show zyR _ _ _ _ [some (.ref 2), some (.ref (0 + 3)), some (.ref (43 + 3)), some (.int i)] [.ref 2, .ref (43 + 3)] _ _ from ?_)
  refine zy_2 rfl rfl (show zyR _ _ _ _ [some (.ref 2), some (.ref (0 + 3)), some (.ref (43 + 3)), some (.int i)] [.int i, .ref 2, .ref (43 + 3)] _ _ from ?_)
  refine zy_3 rfl rfl (show zyR _ _ _ _ [some (.ref 2), some (.ref (0 + 3)), some (.ref (43 + 3)), some (.int i)] [.int (1 : Int32), .int i, .ref 2, .ref (43 + 3)] _ _ from ?_)
  refine zy_10 rfl (show zyR _ _ _ _ [some (.ref 2), some (.ref (0 + 3)), some (.ref (43 + 3)), some (.int i)] [.int (i + (1 : Int32)), .ref 2, .ref (43 + 3)] _ _ from ?_)
  refine zy_26s rfl (zl_in hX i0 i6 (by decide) (by decide)) (show zyR _ _ _ _ [some (.ref 2), some (.ref (0 + 3)), some (.ref (43 + 3)), some (.int i)] [.int (X.2 (i + (1 : Int32)).toNatClampNeg), .ref (43 + 3)] _ _ from ?_)
  refine zy_5 (c := 43) (as := [.int (X.2 (i + (1 : Int32)).toNatClampNeg)]) (rest := []) (L := [some (.ref (43 + 3)), some (.int (X.2 (i + (1 : Int32)).toNatClampNeg))]) (d' := 2) rfl rfl rfl (Nat.le_of_ble_eq_true rfl) (Nat.le_of_ble_eq_true rfl) rfl (Nat.le_of_ble_eq_true rfl) rfl rfl (zyC244 f2) ?_
  show zyR _ _ _ _ [some (.ref 2), some (.ref (0 + 3)), some (.ref (43 + 3)), some (.int i)] [.int r] _ _
  refine zy_34 rfl rfl (show zyR _ _ _ _ [some (.ref 2), some (.ref (0 + 3)), some (.ref (43 + 3)), some (.int i)] [] _ _ from ?_)
  exact zy_6 rfl (k _ hI)
theorem zlc_27 {X : zx_X} {i : Int32} {s : zy_S} {P : Option Value → zy_S → Prop} (hX : X.1 ≤ 3072) (i0 : 0 ≤ i.toInt) (i6 : i.toInt + 6 ≤ X.1) (h : zI s) (k : ∀ t, zI t → zyR X 2000 0 1435 [some (.ref 2), some (.ref (0 + 3)), some (.ref (43 + 3)), some (.int i)] [] t P) : zyR X 2000 0 993 [some (.ref 2), some (.ref (0 + 3)), some (.ref (43 + 3)), some (.int i)] [] s P := by
  obtain ⟨r, s1, s2, f1, f2, hI⟩ := zop_image  h
  refine zy_0 rfl rfl (show zyR _ _ _ _ [some (.ref 2), some (.ref (0 + 3)), some (.ref (43 + 3)), some (.int i)] [.ref (0 + 3)] _ _ from ?_)
  refine zy_5 (c := 0) (as := []) (rest := []) (L := [some (.ref (0 + 3))]) (d' := 3) rfl rfl rfl (Nat.le_of_ble_eq_true rfl) (Nat.le_of_ble_eq_true rfl) rfl (Nat.le_of_ble_eq_true rfl) rfl rfl (zyC140 f1) ?_
  show zyR _ _ _ _ [some (.ref 2), some (.ref (0 + 3)), some (.ref (43 + 3)), some (.int i)] [.int r] _ _
  refine zy_34 rfl rfl (show zyR _ _ _ _ [some (.ref 2), some (.ref (0 + 3)), some (.ref (43 + 3)), some (.int i)] [] _ _ from ?_)
  refine zy_0 rfl rfl (show zyR _ _ _ _ [some (.ref 2), some (.ref (0 + 3)), some (.ref (43 + 3)), some (.int i)] [.ref (43 + 3)] _ _ from ?_)
  refine zy_5 (c := 43) (as := []) (rest := []) (L := [some (.ref (43 + 3)), none]) (d' := 2) rfl rfl rfl (Nat.le_of_ble_eq_true rfl) (Nat.le_of_ble_eq_true rfl) rfl (Nat.le_of_ble_eq_true rfl) rfl rfl (zyC245 f2) ?_
  show zyR _ _ _ _ [some (.ref 2), some (.ref (0 + 3)), some (.ref (43 + 3)), some (.int i)] [.int r] _ _
  refine zy_34 rfl rfl (show zyR _ _ _ _ [some (.ref 2), some (.ref (0 + 3)), some (.ref (43 + 3)), some (.int i)] [] _ _ from ?_)
  exact zy_6 rfl (k _ hI)
