/-! PART 41.31: methods as functions. Made by wip/v4/dcp.py. -/
/-! NineOpinions.element(II)J -/
noncomputable def zyF170   (x1 : Int32) (x2 : Int32) (s : zy_S) : Option (Int64 × zy_S) :=
(zyF18 x1 s).bind fun p1 =>
if p1.1 = 0 then
some ((-9223372036854775808 : Int64), p1.2)
else
if zy_in x1 6 then
if zy_Wb p1.2 then
(zyF167 (zy_sh (x1).toNatClampNeg) x2 p1.2).bind fun p4 =>
if p4.1 ≠ 0 then
some ((-9223372036854775808 : Int64), p4.2)
else
if zy_in x1 6 then
if zy_Wb p4.2 then
if zy_in x2 60 then
some ((p4.2.2.1 ((zy_sh (x1).toNatClampNeg) + 1) (x2).toNatClampNeg), p4.2)
else none
else none
else none
else none
else none
theorem zyC170 {X : zx_X}     {x1 : Int32} {x2 : Int32} {s : zy_S} {r : Int64} {s' : zy_S}  (h : zyF170 x1 x2 s = some (r, s')) : zyR X 4 170 0 [some (.ref (0 + 3)), some (.int x1), some (.int x2)] [] s (zyE (some (.long r)) s') := by
  unfold zyF170 at h
  refine zy_2 rfl rfl (show zyR _ _ _ _ [some (.ref (0 + 3)), some (.int x1), some (.int x2)] [.int x1] _ _ from ?_)
  obtain ⟨p1, hp1, h⟩ := zy_bind h
  refine zy_60 (as := [.int x1]) (rest := []) (L := [some (.int x1)]) (d' := 1) rfl rfl (Nat.le_of_ble_eq_true rfl) (Nat.le_of_ble_eq_true rfl) rfl (Nat.le_of_ble_eq_true rfl) rfl rfl (zyC18 hp1) ?_
  show zyR _ _ _ _ [some (.ref (0 + 3)), some (.int x1), some (.int x2)] [.int p1.1] _ _
  refine zy_24_0 rfl (fun b9 => (show zyR _ _ _ _ [some (.ref (0 + 3)), some (.int x1), some (.int x2)] [] _ _ from ?_)) (fun b9 => (show zyR _ _ _ _ [some (.ref (0 + 3)), some (.int x1), some (.int x2)] [] _ _ from ?_))
  · replace h := zy_ifp h b9
    refine zy_36c rfl rfl (show zyR _ _ _ _ [some (.ref (0 + 3)), some (.int x1), some (.int x2)] [.long (-9223372036854775808 : Int64)] _ _ from ?_)
    cases h
    exact zy_65 rfl ⟨rfl, rfl⟩
  · replace h := zy_ifn h b9
    refine zy_0 rfl rfl (show zyR _ _ _ _ [some (.ref (0 + 3)), some (.int x1), some (.int x2)] [.ref (0 + 3)] _ _ from ?_)
    refine zy_1r (c := 0) rfl rfl rfl (show zyR _ _ _ _ [some (.ref (0 + 3)), some (.int x1), some (.int x2)] [.ref (30 + 3)] _ _ from ?_)
    refine zy_2 rfl rfl (show zyR _ _ _ _ [some (.ref (0 + 3)), some (.int x1), some (.int x2)] [.int x1, .ref (30 + 3)] _ _ from ?_)
    obtain ⟨c2, h⟩ := zy_if h
    obtain ⟨c3, h⟩ := zy_if h
    refine zy_28 rfl (zy_Wb_g c3) c2 (show zyR _ _ _ _ [some (.ref (0 + 3)), some (.int x1), some (.int x2)] [.ref ((zy_sh (x1).toNatClampNeg) + 3)] _ _ from ?_)
    refine zy_2 rfl rfl (show zyR _ _ _ _ [some (.ref (0 + 3)), some (.int x1), some (.int x2)] [.int x2, .ref ((zy_sh (x1).toNatClampNeg) + 3)] _ _ from ?_)
    obtain ⟨p4, hp4, h⟩ := zy_bind h
    refine zy_5 (c := (zy_sh (x1).toNatClampNeg)) (as := [.int x2]) (rest := []) (L := [some (.ref ((zy_sh (x1).toNatClampNeg) + 3)), some (.int x2)]) (d' := 3) rfl rfl (zy_isSh_of (zy_in_lt c2)).1 (Nat.le_of_ble_eq_true rfl) (Nat.le_of_ble_eq_true rfl) rfl (Nat.le_of_ble_eq_true rfl) rfl rfl (zyC167 (zy_isSh_of (zy_in_lt c2)) hp4) ?_
    show zyR _ _ _ _ [some (.ref (0 + 3)), some (.int x1), some (.int x2)] [.int p4.1] _ _
    refine zy_24_1 rfl (fun b8 => (show zyR _ _ _ _ [some (.ref (0 + 3)), some (.int x1), some (.int x2)] [] _ _ from ?_)) (fun b8 => (show zyR _ _ _ _ [some (.ref (0 + 3)), some (.int x1), some (.int x2)] [] _ _ from ?_))
    · replace h := zy_ifp h b8
      refine zy_36c rfl rfl (show zyR _ _ _ _ [some (.ref (0 + 3)), some (.int x1), some (.int x2)] [.long (-9223372036854775808 : Int64)] _ _ from ?_)
      cases h
      exact zy_65 rfl ⟨rfl, rfl⟩
    · replace h := zy_ifn h b8
      refine zy_0 rfl rfl (show zyR _ _ _ _ [some (.ref (0 + 3)), some (.int x1), some (.int x2)] [.ref (0 + 3)] _ _ from ?_)
      refine zy_1r (c := 0) rfl rfl rfl (show zyR _ _ _ _ [some (.ref (0 + 3)), some (.int x1), some (.int x2)] [.ref (30 + 3)] _ _ from ?_)
      refine zy_2 rfl rfl (show zyR _ _ _ _ [some (.ref (0 + 3)), some (.int x1), some (.int x2)] [.int x1, .ref (30 + 3)] _ _ from ?_)
      obtain ⟨c5, h⟩ := zy_if h
      obtain ⟨c6, h⟩ := zy_if h
      refine zy_28 rfl (zy_Wb_g c6) c5 (show zyR _ _ _ _ [some (.ref (0 + 3)), some (.int x1), some (.int x2)] [.ref ((zy_sh (x1).toNatClampNeg) + 3)] _ _ from ?_)
      refine zy_1r (c := (zy_sh (x1).toNatClampNeg)) rfl (zy_isSh_of (zy_in_lt c5)).1 rfl (show zyR _ _ _ _ [some (.ref (0 + 3)), some (.int x1), some (.int x2)] [.ref ((zy_sh (x1).toNatClampNeg) + 1 + 3)] _ _ from ?_)
      refine zy_2 rfl rfl (show zyR _ _ _ _ [some (.ref (0 + 3)), some (.int x1), some (.int x2)] [.int x2, .ref ((zy_sh (x1).toNatClampNeg) + 1 + 3)] _ _ from ?_)
      obtain ⟨c7, h⟩ := zy_if h
      refine zy_30 (c := ((zy_sh (x1).toNatClampNeg) + 1)) rfl (zy_isSh_of (zy_in_lt c5)).2 c7 (show zyR _ _ _ _ [some (.ref (0 + 3)), some (.int x1), some (.int x2)] [.long (p4.2.2.1 ((zy_sh (x1).toNatClampNeg) + 1) (x2).toNatClampNeg)] _ _ from ?_)
      refine zy_6 rfl (show zyR _ _ _ _ [some (.ref (0 + 3)), some (.int x1), some (.int x2)] [.long (p4.2.2.1 ((zy_sh (x1).toNatClampNeg) + 1) (x2).toNatClampNeg)] _ _ from ?_)
      cases h
      exact zy_65 rfl ⟨rfl, rfl⟩
/-! NineOpinionsModel.element(II)J -/
noncomputable def zyF261   (x1 : Int32) (x2 : Int32) (s : zy_S) : Option (Int64 × zy_S) :=
(zyF259 x1 x2 s).bind fun p1 =>
if p1.1 = 0 then
if zy_in (((60 : Int32) * x1) + x2) 360 then
some ((p1.2.2.1 62 ((((60 : Int32) * x1) + x2)).toNatClampNeg), p1.2)
else none
else
some ((-9223372036854775808 : Int64), p1.2)
theorem zyC261 {X : zx_X}     {x1 : Int32} {x2 : Int32} {s : zy_S} {r : Int64} {s' : zy_S}  (h : zyF261 x1 x2 s = some (r, s')) : zyR X 4 261 0 [some (.ref (43 + 3)), some (.int x1), some (.int x2)] [] s (zyE (some (.long r)) s') := by
  unfold zyF261 at h
  refine zy_0 rfl rfl (show zyR _ _ _ _ [some (.ref (43 + 3)), some (.int x1), some (.int x2)] [.ref (43 + 3)] _ _ from ?_)
  refine zy_2 rfl rfl (show zyR _ _ _ _ [some (.ref (43 + 3)), some (.int x1), some (.int x2)] [.int x1, .ref (43 + 3)] _ _ from ?_)
  refine zy_2 rfl rfl (show zyR _ _ _ _ [some (.ref (43 + 3)), some (.int x1), some (.int x2)] [.int x2, .int x1, .ref (43 + 3)] _ _ from ?_)
  obtain ⟨p1, hp1, h⟩ := zy_bind h
  refine zy_5 (c := 43) (as := [.int x1, .int x2]) (rest := []) (L := [some (.ref (43 + 3)), some (.int x1), some (.int x2)]) (d' := 3) rfl rfl rfl (Nat.le_of_ble_eq_true rfl) (Nat.le_of_ble_eq_true rfl) rfl (Nat.le_of_ble_eq_true rfl) rfl rfl (zyC259 hp1) ?_
  show zyR _ _ _ _ [some (.ref (43 + 3)), some (.int x1), some (.int x2)] [.int p1.1] _ _
  refine zy_24_0 rfl (fun b3 => (show zyR _ _ _ _ [some (.ref (43 + 3)), some (.int x1), some (.int x2)] [] _ _ from ?_)) (fun b3 => (show zyR _ _ _ _ [some (.ref (43 + 3)), some (.int x1), some (.int x2)] [] _ _ from ?_))
  · replace h := zy_ifp h b3
    refine zy_0 rfl rfl (show zyR _ _ _ _ [some (.ref (43 + 3)), some (.int x1), some (.int x2)] [.ref (43 + 3)] _ _ from ?_)
    refine zy_1r (c := 43) rfl rfl rfl (show zyR _ _ _ _ [some (.ref (43 + 3)), some (.int x1), some (.int x2)] [.ref (62 + 3)] _ _ from ?_)
    refine zy_3 rfl rfl (show zyR _ _ _ _ [some (.ref (43 + 3)), some (.int x1), some (.int x2)] [.int (60 : Int32), .ref (62 + 3)] _ _ from ?_)
    refine zy_2 rfl rfl (show zyR _ _ _ _ [some (.ref (43 + 3)), some (.int x1), some (.int x2)] [.int x1, .int (60 : Int32), .ref (62 + 3)] _ _ from ?_)
    refine zy_12 rfl (show zyR _ _ _ _ [some (.ref (43 + 3)), some (.int x1), some (.int x2)] [.int ((60 : Int32) * x1), .ref (62 + 3)] _ _ from ?_)
    refine zy_2 rfl rfl (show zyR _ _ _ _ [some (.ref (43 + 3)), some (.int x1), some (.int x2)] [.int x2, .int ((60 : Int32) * x1), .ref (62 + 3)] _ _ from ?_)
    refine zy_10 rfl (show zyR _ _ _ _ [some (.ref (43 + 3)), some (.int x1), some (.int x2)] [.int (((60 : Int32) * x1) + x2), .ref (62 + 3)] _ _ from ?_)
    obtain ⟨c2, h⟩ := zy_if h
    refine zy_30 (c := 62) rfl rfl c2 (show zyR _ _ _ _ [some (.ref (43 + 3)), some (.int x1), some (.int x2)] [.long (p1.2.2.1 62 ((((60 : Int32) * x1) + x2)).toNatClampNeg)] _ _ from ?_)
    cases h
    exact zy_65 rfl ⟨rfl, rfl⟩
  · replace h := zy_ifn h b3
    refine zy_36c rfl rfl (show zyR _ _ _ _ [some (.ref (43 + 3)), some (.int x1), some (.int x2)] [.long (-9223372036854775808 : Int64)] _ _ from ?_)
    refine zy_6 rfl (show zyR _ _ _ _ [some (.ref (43 + 3)), some (.int x1), some (.int x2)] [.long (-9223372036854775808 : Int64)] _ _ from ?_)
    cases h
    exact zy_65 rfl ⟨rfl, rfl⟩
