/-! PART 41.10: methods as functions. Made by wip/v4/dcp.py. -/
/-! NineOpinionsModel.element(II)J -/
noncomputable def zyF261   (x1 : Int32) (x2 : Int32) (s : zy_S) : Option (Int64 × zy_S) :=
(zyF259 x1 x2 s).bind fun p1 =>
if p1.1 = 0 then
if zy_in (((60 : Int32) * x1) + x2) 360 then
some ((p1.2.2.1 62 ((((60 : Int32) * x1) + x2)).toNatClampNeg), p1.2)
else none
else
some ((-9223372036854775808 : Int64), p1.2)
theorem zyC261 {X : zx_X}     {x1 : Int32} {x2 : Int32} {s : zy_S} {r : Int64} {s' : zy_S}  (h : zyF261 x1 x2 s = some (r, s')) : zyR X 4 261 0 [some (.ref (43 + 3)), some (.int x1), some (.int x2)] [] s (zyE (some (.long r)) s') := by
  unfold zyF261 at h
  refine zy_0 rfl rfl (show zyR _ _ _ _ [some (.ref (43 + 3)), some (.int x1), some (.int x2)] [.ref (43 + 3)] _ _ from ?_)
  refine zy_2 rfl rfl (show zyR _ _ _ _ [some (.ref (43 + 3)), some (.int x1), some (.int x2)] [.int x1, .ref (43 + 3)] _ _ from ?_)
  refine zy_2 rfl rfl (show zyR _ _ _ _ [some (.ref (43 + 3)), some (.int x1), some (.int x2)] [.int x2, .int x1, .ref (43 + 3)] _ _ from ?_)
  obtain ⟨p1, hp1, h⟩ := zy_bind h
  refine zy_5 (c := 43) (as := [.int x1, .int x2]) (rest := []) (L := [some (.ref (43 + 3)), some (.int x1), some (.int x2)]) (d' := 3) rfl rfl rfl (Nat.le_of_ble_eq_true rfl) (Nat.le_of_ble_eq_true rfl) rfl (Nat.le_of_ble_eq_true rfl) rfl rfl (zyC259 hp1) ?_
  show zyR _ _ _ _ [some (.ref (43 + 3)), some (.int x1), some (.int x2)] [.int p1.1] _ _
  refine zy_24_0 rfl (fun b3 => (show zyR _ _ _ _ [some (.ref (43 + 3)), some (.int x1), some (.int x2)] [] _ _ from ?_)) (fun b3 => (show zyR _ _ _ _ [some (.ref (43 + 3)), some (.int x1), some (.int x2)] [] _ _ from ?_))
  · replace h := zy_ifp h b3
    refine zy_0 rfl rfl (show zyR _ _ _ _ [some (.ref (43 + 3)), some (.int x1), some (.int x2)] [.ref (43 + 3)] _ _ from ?_)
    refine zy_1r (c := 43) rfl rfl rfl (show zyR _ _ _ _ [some (.ref (43 + 3)), some (.int x1), some (.int x2)] [.ref (62 + 3)] _ _ from ?_)
    refine zy_3 rfl rfl (show zyR _ _ _ _ [some (.ref (43 + 3)), some (.int x1), some (.int x2)] [.int (60 : Int32), .ref (62 + 3)] _ _ from ?_)
    refine zy_2 rfl rfl (show zyR _ _ _ _ [some (.ref (43 + 3)), some (.int x1), some (.int x2)] [.int x1, .int (60 : Int32), .ref (62 + 3)] _ _ from ?_)
    refine zy_12 rfl (show zyR _ _ _ _ [some (.ref (43 + 3)), some (.int x1), some (.int x2)] [.int ((60 : Int32) * x1), .ref (62 + 3)] _ _ from ?_)
    refine zy_2 rfl rfl (show zyR _ _ _ _ [some (.ref (43 + 3)), some (.int x1), some (.int x2)] [.int x2, .int ((60 : Int32) * x1), .ref (62 + 3)] _ _ from ?_)
    refine zy_10 rfl (show zyR _ _ _ _ [some (.ref (43 + 3)), some (.int x1), some (.int x2)] [.int (((60 : Int32) * x1) + x2), .ref (62 + 3)] _ _ from ?_)
    obtain ⟨c2, h⟩ := zy_if h
    refine zy_30 (c := 62) rfl rfl c2 (show zyR _ _ _ _ [some (.ref (43 + 3)), some (.int x1), some (.int x2)] [.long (p1.2.2.1 62 ((((60 : Int32) * x1) + x2)).toNatClampNeg)] _ _ from ?_)
    cases h
    exact zy_65 rfl ⟨rfl, rfl⟩
  · replace h := zy_ifn h b3
    refine zy_36c rfl rfl (show zyR _ _ _ _ [some (.ref (43 + 3)), some (.int x1), some (.int x2)] [.long (-9223372036854775808 : Int64)] _ _ from ?_)
    refine zy_6 rfl (show zyR _ _ _ _ [some (.ref (43 + 3)), some (.int x1), some (.int x2)] [.long (-9223372036854775808 : Int64)] _ _ from ?_)
    cases h
    exact zy_65 rfl ⟨rfl, rfl⟩
/-! NineOpinions.of(II)I -/
noncomputable def zyF31   (x1 : Int32) (x2 : Int32) (s : zy_S) : Option (Int32 × zy_S) :=
if x2 ≠ (4 : Int32) then
(zyF25 x2 x1 s).bind fun p1 =>
if p1.1 = 0 then
some ((-1 : Int32), p1.2)
else
(zyF27 x2 x1 p1.2).bind fun p2 =>
some (p2.1, p2.2)
else
(zyF26 x1 s).bind fun p4 =>
if p4.1 = 0 then
some ((-1 : Int32), p4.2)
else
(zyF32 (p4.2.1 1 3) x1 p4.2).bind fun p5 =>
some (p5.1, p5.2)
theorem zyC31 {X : zx_X}     {x1 : Int32} {x2 : Int32} {s : zy_S} {r : Int32} {s' : zy_S}  (h : zyF31 x1 x2 s = some (r, s')) : zyR X 3 31 0 [some (.ref (0 + 3)), some (.int x1), some (.int x2)] [] s (zyE (some (.int r)) s') := by
  unfold zyF31 at h
  refine zy_2 rfl rfl (show zyR _ _ _ _ [some (.ref (0 + 3)), some (.int x1), some (.int x2)] [.int x2] _ _ from ?_)
  refine zy_3 rfl rfl (show zyR _ _ _ _ [some (.ref (0 + 3)), some (.int x1), some (.int x2)] [.int (4 : Int32), .int x2] _ _ from ?_)
  refine zy_25_1 rfl (fun b7 => (show zyR _ _ _ _ [some (.ref (0 + 3)), some (.int x1), some (.int x2)] [] _ _ from ?_)) (fun b7 => (show zyR _ _ _ _ [some (.ref (0 + 3)), some (.int x1), some (.int x2)] [] _ _ from ?_))
  · replace h := zy_ifp h b7
    refine zy_0 rfl rfl (show zyR _ _ _ _ [some (.ref (0 + 3)), some (.int x1), some (.int x2)] [.ref (0 + 3)] _ _ from ?_)
    refine zy_1r (c := 0) rfl rfl rfl (show zyR _ _ _ _ [some (.ref (0 + 3)), some (.int x1), some (.int x2)] [.ref (1 + 3)] _ _ from ?_)
    refine zy_2 rfl rfl (show zyR _ _ _ _ [some (.ref (0 + 3)), some (.int x1), some (.int x2)] [.int x2, .ref (1 + 3)] _ _ from ?_)
    refine zy_2 rfl rfl (show zyR _ _ _ _ [some (.ref (0 + 3)), some (.int x1), some (.int x2)] [.int x1, .int x2, .ref (1 + 3)] _ _ from ?_)
    obtain ⟨p1, hp1, h⟩ := zy_bind h
    refine zy_5 (c := 1) (as := [.int x2, .int x1]) (rest := []) (L := [some (.ref (1 + 3)), some (.int x2), some (.int x1)]) (d' := 2) rfl rfl rfl (Nat.le_of_ble_eq_true rfl) (Nat.le_of_ble_eq_true rfl) rfl (Nat.le_of_ble_eq_true rfl) rfl rfl (zyC25 hp1) ?_
    show zyR _ _ _ _ [some (.ref (0 + 3)), some (.int x1), some (.int x2)] [.int p1.1] _ _
    refine zy_24_0 rfl (fun b3 => (show zyR _ _ _ _ [some (.ref (0 + 3)), some (.int x1), some (.int x2)] [] _ _ from ?_)) (fun b3 => (show zyR _ _ _ _ [some (.ref (0 + 3)), some (.int x1), some (.int x2)] [] _ _ from ?_))
    · replace h := zy_ifp h b3
      refine zy_3 rfl rfl (show zyR _ _ _ _ [some (.ref (0 + 3)), some (.int x1), some (.int x2)] [.int (-1 : Int32)] _ _ from ?_)
      obtain ⟨rfl, rfl⟩ := zy_pi h
      exact zy_4 rfl ⟨rfl, rfl⟩
    · replace h := zy_ifn h b3
      refine zy_0 rfl rfl (show zyR _ _ _ _ [some (.ref (0 + 3)), some (.int x1), some (.int x2)] [.ref (0 + 3)] _ _ from ?_)
      refine zy_1r (c := 0) rfl rfl rfl (show zyR _ _ _ _ [some (.ref (0 + 3)), some (.int x1), some (.int x2)] [.ref (1 + 3)] _ _ from ?_)
      refine zy_2 rfl rfl (show zyR _ _ _ _ [some (.ref (0 + 3)), some (.int x1), some (.int x2)] [.int x2, .ref (1 + 3)] _ _ from ?_)
      refine zy_2 rfl rfl (show zyR _ _ _ _ [some (.ref (0 + 3)), some (.int x1), some (.int x2)] [.int x1, .int x2, .ref (1 + 3)] _ _ from ?_)
      obtain ⟨p2, hp2, h⟩ := zy_bind h
      refine zy_5 (c := 1) (as := [.int x2, .int x1]) (rest := []) (L := [some (.ref (1 + 3)), some (.int x2), some (.int x1)]) (d' := 1) rfl rfl rfl (Nat.le_of_ble_eq_true rfl) (Nat.le_of_ble_eq_true rfl) rfl (Nat.le_of_ble_eq_true rfl) rfl rfl (zyC27 hp2) ?_
      show zyR _ _ _ _ [some (.ref (0 + 3)), some (.int x1), some (.int x2)] [.int p2.1] _ _
      refine zy_6 rfl (show zyR _ _ _ _ [some (.ref (0 + 3)), some (.int x1), some (.int x2)] [.int p2.1] _ _ from ?_)
      obtain ⟨rfl, rfl⟩ := zy_pi h
      exact zy_4 rfl ⟨rfl, rfl⟩
  · replace h := zy_ifn h b7
    refine zy_2 rfl rfl (show zyR _ _ _ _ [some (.ref (0 + 3)), some (.int x1), some (.int x2)] [.int x1] _ _ from ?_)
    obtain ⟨p4, hp4, h⟩ := zy_bind h
    refine zy_60 (as := [.int x1]) (rest := []) (L := [some (.int x1)]) (d' := 1) rfl rfl (Nat.le_of_ble_eq_true rfl) (Nat.le_of_ble_eq_true rfl) rfl (Nat.le_of_ble_eq_true rfl) rfl rfl (zyC26 hp4) ?_
    show zyR _ _ _ _ [some (.ref (0 + 3)), some (.int x1), some (.int x2)] [.int p4.1] _ _
    refine zy_24_0 rfl (fun b6 => (show zyR _ _ _ _ [some (.ref (0 + 3)), some (.int x1), some (.int x2)] [] _ _ from ?_)) (fun b6 => (show zyR _ _ _ _ [some (.ref (0 + 3)), some (.int x1), some (.int x2)] [] _ _ from ?_))
    · replace h := zy_ifp h b6
      refine zy_3 rfl rfl (show zyR _ _ _ _ [some (.ref (0 + 3)), some (.int x1), some (.int x2)] [.int (-1 : Int32)] _ _ from ?_)
      obtain ⟨rfl, rfl⟩ := zy_pi h
      exact zy_4 rfl ⟨rfl, rfl⟩
    · replace h := zy_ifn h b6
      refine zy_0 rfl rfl (show zyR _ _ _ _ [some (.ref (0 + 3)), some (.int x1), some (.int x2)] [.ref (0 + 3)] _ _ from ?_)
      refine zy_1r (c := 0) rfl rfl rfl (show zyR _ _ _ _ [some (.ref (0 + 3)), some (.int x1), some (.int x2)] [.ref (1 + 3)] _ _ from ?_)
      refine zy_1 (c := 1) rfl rfl rfl (show zyR _ _ _ _ [some (.ref (0 + 3)), some (.int x1), some (.int x2)] [.int (p4.2.1 1 3)] _ _ from ?_)
      refine zy_2 rfl rfl (show zyR _ _ _ _ [some (.ref (0 + 3)), some (.int x1), some (.int x2)] [.int x1, .int (p4.2.1 1 3)] _ _ from ?_)
      obtain ⟨p5, hp5, h⟩ := zy_bind h
      refine zy_60 (as := [.int (p4.2.1 1 3), .int x1]) (rest := []) (L := [some (.int (p4.2.1 1 3)), some (.int x1)]) (d' := 1) rfl rfl (Nat.le_of_ble_eq_true rfl) (Nat.le_of_ble_eq_true rfl) rfl (Nat.le_of_ble_eq_true rfl) rfl rfl (zyC32 hp5) ?_
      show zyR _ _ _ _ [some (.ref (0 + 3)), some (.int x1), some (.int x2)] [.int p5.1] _ _
      refine zy_6 rfl (show zyR _ _ _ _ [some (.ref (0 + 3)), some (.int x1), some (.int x2)] [.int p5.1] _ _ from ?_)
      obtain ⟨rfl, rfl⟩ := zy_pi h
      exact zy_4 rfl ⟨rfl, rfl⟩
/-! NineOpinionsModel.of(II)I -/
noncomputable def zyF188   (x1 : Int32) (x2 : Int32) (s : zy_S) : Option (Int32 × zy_S) :=
(zyF184 x1 x2 s).bind fun p1 =>
if p1.1 < 0 then
if x2 ≠ (4 : Int32) then
some ((-1 : Int32), p1.2)
else
(zyF186 (x1).toInt64 p1.2).bind fun p2 =>
if p2.1 = 0 then
some ((-1 : Int32), p2.2)
else
some ((((p2.2.1 43 7) >>> (x1 &&& 31)) &&& (1 : Int32)), p2.2)
else
if zy_in p1.1 41 then
some ((p1.2.1 44 (p1.1).toNatClampNeg), p1.2)
else none
theorem zyC188 {X : zx_X}     {x1 : Int32} {x2 : Int32} {s : zy_S} {r : Int32} {s' : zy_S}  (h : zyF188 x1 x2 s = some (r, s')) : zyR X 4 188 0 [some (.ref (43 + 3)), some (.int x1), some (.int x2), none] [] s (zyE (some (.int r)) s') := by
  unfold zyF188 at h
  refine zy_0 rfl rfl (show zyR _ _ _ _ [some (.ref (43 + 3)), some (.int x1), some (.int x2), none] [.ref (43 + 3)] _ _ from ?_)
  refine zy_2 rfl rfl (show zyR _ _ _ _ [some (.ref (43 + 3)), some (.int x1), some (.int x2), none] [.int x1, .ref (43 + 3)] _ _ from ?_)
  refine zy_2 rfl rfl (show zyR _ _ _ _ [some (.ref (43 + 3)), some (.int x1), some (.int x2), none] [.int x2, .int x1, .ref (43 + 3)] _ _ from ?_)
  obtain ⟨p1, hp1, h⟩ := zy_bind h
  refine zy_5 (c := 43) (as := [.int x1, .int x2]) (rest := []) (L := [some (.ref (43 + 3)), some (.int x1), some (.int x2)]) (d' := 3) rfl rfl rfl (Nat.le_of_ble_eq_true rfl) (Nat.le_of_ble_eq_true rfl) rfl (Nat.le_of_ble_eq_true rfl) rfl rfl (zyC184 hp1) ?_
  show zyR _ _ _ _ [some (.ref (43 + 3)), some (.int x1), some (.int x2), none] [.int p1.1] _ _
  refine zy_23 rfl rfl (show zyR _ _ _ _ [some (.ref (43 + 3)), some (.int x1), some (.int x2), some (.int p1.1)] [] _ _ from ?_)
  refine zy_2 rfl rfl (show zyR _ _ _ _ [some (.ref (43 + 3)), some (.int x1), some (.int x2), some (.int p1.1)] [.int p1.1] _ _ from ?_)
  refine zy_24_2 rfl (fun b6 => (show zyR _ _ _ _ [some (.ref (43 + 3)), some (.int x1), some (.int x2), some (.int p1.1)] [] _ _ from ?_)) (fun b6 => (show zyR _ _ _ _ [some (.ref (43 + 3)), some (.int x1), some (.int x2), some (.int p1.1)] [] _ _ from ?_))
  · replace h := zy_ifp h b6
    refine zy_2 rfl rfl (show zyR _ _ _ _ [some (.ref (43 + 3)), some (.int x1), some (.int x2), some (.int p1.1)] [.int x2] _ _ from ?_)
    refine zy_3 rfl rfl (show zyR _ _ _ _ [some (.ref (43 + 3)), some (.int x1), some (.int x2), some (.int p1.1)] [.int (4 : Int32), .int x2] _ _ from ?_)
    refine zy_25_1 rfl (fun b4 => (show zyR _ _ _ _ [some (.ref (43 + 3)), some (.int x1), some (.int x2), some (.int p1.1)] [] _ _ from ?_)) (fun b4 => (show zyR _ _ _ _ [some (.ref (43 + 3)), some (.int x1), some (.int x2), some (.int p1.1)] [] _ _ from ?_))
    · replace h := zy_ifp h b4
      refine zy_3 rfl rfl (show zyR _ _ _ _ [some (.ref (43 + 3)), some (.int x1), some (.int x2), some (.int p1.1)] [.int (-1 : Int32)] _ _ from ?_)
      obtain ⟨rfl, rfl⟩ := zy_pi h
      exact zy_4 rfl ⟨rfl, rfl⟩
    · replace h := zy_ifn h b4
      refine zy_2 rfl rfl (show zyR _ _ _ _ [some (.ref (43 + 3)), some (.int x1), some (.int x2), some (.int p1.1)] [.int x1] _ _ from ?_)
      refine zy_40 rfl (show zyR _ _ _ _ [some (.ref (43 + 3)), some (.int x1), some (.int x2), some (.int p1.1)] [.long (x1).toInt64] _ _ from ?_)
      obtain ⟨p2, hp2, h⟩ := zy_bind h
      refine zy_60 (as := [.long (x1).toInt64]) (rest := []) (L := [some (.long (x1).toInt64), none]) (d' := 2) rfl rfl (Nat.le_of_ble_eq_true rfl) (Nat.le_of_ble_eq_true rfl) rfl (Nat.le_of_ble_eq_true rfl) rfl rfl (zyC186 hp2) ?_
      show zyR _ _ _ _ [some (.ref (43 + 3)), some (.int x1), some (.int x2), some (.int p1.1)] [.int p2.1] _ _
      refine zy_24_0 rfl (fun b3 => (show zyR _ _ _ _ [some (.ref (43 + 3)), some (.int x1), some (.int x2), some (.int p1.1)] [] _ _ from ?_)) (fun b3 => (show zyR _ _ _ _ [some (.ref (43 + 3)), some (.int x1), some (.int x2), some (.int p1.1)] [] _ _ from ?_))
      · replace h := zy_ifp h b3
        refine zy_3 rfl rfl (show zyR _ _ _ _ [some (.ref (43 + 3)), some (.int x1), some (.int x2), some (.int p1.1)] [.int (-1 : Int32)] _ _ from ?_)
        obtain ⟨rfl, rfl⟩ := zy_pi h
        exact zy_4 rfl ⟨rfl, rfl⟩
      · replace h := zy_ifn h b3
        refine zy_0 rfl rfl (show zyR _ _ _ _ [some (.ref (43 + 3)), some (.int x1), some (.int x2), some (.int p1.1)] [.ref (43 + 3)] _ _ from ?_)
        refine zy_1 (c := 43) rfl rfl rfl (show zyR _ _ _ _ [some (.ref (43 + 3)), some (.int x1), some (.int x2), some (.int p1.1)] [.int (p2.2.1 43 7)] _ _ from ?_)
        refine zy_2 rfl rfl (show zyR _ _ _ _ [some (.ref (43 + 3)), some (.int x1), some (.int x2), some (.int p1.1)] [.int x1, .int (p2.2.1 43 7)] _ _ from ?_)
        refine zy_17 rfl (show zyR _ _ _ _ [some (.ref (43 + 3)), some (.int x1), some (.int x2), some (.int p1.1)] [.int ((p2.2.1 43 7) >>> (x1 &&& 31))] _ _ from ?_)
        refine zy_3 rfl rfl (show zyR _ _ _ _ [some (.ref (43 + 3)), some (.int x1), some (.int x2), some (.int p1.1)] [.int (1 : Int32), .int ((p2.2.1 43 7) >>> (x1 &&& 31))] _ _ from ?_)
        refine zy_13 rfl (show zyR _ _ _ _ [some (.ref (43 + 3)), some (.int x1), some (.int x2), some (.int p1.1)] [.int (((p2.2.1 43 7) >>> (x1 &&& 31)) &&& (1 : Int32))] _ _ from ?_)
        refine zy_6 rfl (show zyR _ _ _ _ [some (.ref (43 + 3)), some (.int x1), some (.int x2), some (.int p1.1)] [.int (((p2.2.1 43 7) >>> (x1 &&& 31)) &&& (1 : Int32))] _ _ from ?_)
        obtain ⟨rfl, rfl⟩ := zy_pi h
        exact zy_4 rfl ⟨rfl, rfl⟩
  · replace h := zy_ifn h b6
    refine zy_0 rfl rfl (show zyR _ _ _ _ [some (.ref (43 + 3)), some (.int x1), some (.int x2), some (.int p1.1)] [.ref (43 + 3)] _ _ from ?_)
    refine zy_1r (c := 43) rfl rfl rfl (show zyR _ _ _ _ [some (.ref (43 + 3)), some (.int x1), some (.int x2), some (.int p1.1)] [.ref (44 + 3)] _ _ from ?_)
    refine zy_2 rfl rfl (show zyR _ _ _ _ [some (.ref (43 + 3)), some (.int x1), some (.int x2), some (.int p1.1)] [.int p1.1, .ref (44 + 3)] _ _ from ?_)
    obtain ⟨c5, h⟩ := zy_if h
    refine zy_26 (c := 44) rfl rfl c5 (show zyR _ _ _ _ [some (.ref (43 + 3)), some (.int x1), some (.int x2), some (.int p1.1)] [.int (p1.2.1 44 (p1.1).toNatClampNeg)] _ _ from ?_)
    refine zy_6 rfl (show zyR _ _ _ _ [some (.ref (43 + 3)), some (.int x1), some (.int x2), some (.int p1.1)] [.int (p1.2.1 44 (p1.1).toNatClampNeg)] _ _ from ?_)
    obtain ⟨rfl, rfl⟩ := zy_pi h
    exact zy_4 rfl ⟨rfl, rfl⟩
/-! NineOpinions.led(I)I -/
noncomputable def zyF139   (x1 : Int32) (s : zy_S) : Option (Int32 × zy_S) :=
if x1 < 0 then
some ((-1 : Int32), s)
else
if (5 : Int32) ≤ x1 then
some ((-1 : Int32), s)
else
if zy_in x1 5 then
some ((s.1 18 (x1).toNatClampNeg), s)
else none
theorem zyC139 {X : zx_X}     {x1 : Int32} {s : zy_S} {r : Int32} {s' : zy_S}  (h : zyF139 x1 s = some (r, s')) : zyR X 1 139 0 [some (.ref (0 + 3)), some (.int x1)] [] s (zyE (some (.int r)) s') := by
  unfold zyF139 at h
  refine zy_2 rfl rfl (show zyR _ _ _ _ [some (.ref (0 + 3)), some (.int x1)] [.int x1] _ _ from ?_)
  refine zy_24_2 rfl (fun b3 => (show zyR _ _ _ _ [some (.ref (0 + 3)), some (.int x1)] [] _ _ from ?_)) (fun b3 => (show zyR _ _ _ _ [some (.ref (0 + 3)), some (.int x1)] [] _ _ from ?_))
  · replace h := zy_ifp h b3
    refine zy_3 rfl rfl (show zyR _ _ _ _ [some (.ref (0 + 3)), some (.int x1)] [.int (-1 : Int32)] _ _ from ?_)
    obtain ⟨rfl, rfl⟩ := zy_pi h
    exact zy_4 rfl ⟨rfl, rfl⟩
  · replace h := zy_ifn h b3
    refine zy_2 rfl rfl (show zyR _ _ _ _ [some (.ref (0 + 3)), some (.int x1)] [.int x1] _ _ from ?_)
    refine zy_3 rfl rfl (show zyR _ _ _ _ [some (.ref (0 + 3)), some (.int x1)] [.int (5 : Int32), .int x1] _ _ from ?_)
    refine zy_25_3 rfl (fun b2 => (show zyR _ _ _ _ [some (.ref (0 + 3)), some (.int x1)] [] _ _ from ?_)) (fun b2 => (show zyR _ _ _ _ [some (.ref (0 + 3)), some (.int x1)] [] _ _ from ?_))
    · replace h := zy_ifp h b2
      refine zy_3 rfl rfl (show zyR _ _ _ _ [some (.ref (0 + 3)), some (.int x1)] [.int (-1 : Int32)] _ _ from ?_)
      obtain ⟨rfl, rfl⟩ := zy_pi h
      exact zy_4 rfl ⟨rfl, rfl⟩
    · replace h := zy_ifn h b2
      refine zy_0 rfl rfl (show zyR _ _ _ _ [some (.ref (0 + 3)), some (.int x1)] [.ref (0 + 3)] _ _ from ?_)
      refine zy_1r (c := 0) rfl rfl rfl (show zyR _ _ _ _ [some (.ref (0 + 3)), some (.int x1)] [.ref (17 + 3)] _ _ from ?_)
      refine zy_1r (c := 17) rfl rfl rfl (show zyR _ _ _ _ [some (.ref (0 + 3)), some (.int x1)] [.ref (18 + 3)] _ _ from ?_)
      refine zy_2 rfl rfl (show zyR _ _ _ _ [some (.ref (0 + 3)), some (.int x1)] [.int x1, .ref (18 + 3)] _ _ from ?_)
      obtain ⟨c1, h⟩ := zy_if h
      refine zy_26 (c := 18) rfl rfl c1 (show zyR _ _ _ _ [some (.ref (0 + 3)), some (.int x1)] [.int (s.1 18 (x1).toNatClampNeg)] _ _ from ?_)
      refine zy_6 rfl (show zyR _ _ _ _ [some (.ref (0 + 3)), some (.int x1)] [.int (s.1 18 (x1).toNatClampNeg)] _ _ from ?_)
      obtain ⟨rfl, rfl⟩ := zy_pi h
      exact zy_4 rfl ⟨rfl, rfl⟩
/-! NineOpinionsModel.led(I)I -/
noncomputable def zyF244   (x1 : Int32) (s : zy_S) : Option (Int32 × zy_S) :=
(zyF179 (x1).toInt64 (0 : Int64) (4 : Int64) s).bind fun p1 =>
if p1.1 = 0 then
some ((-1 : Int32), p1.2)
else
if zy_in x1 5 then
some ((p1.2.1 54 (x1).toNatClampNeg), p1.2)
else none
theorem zyC244 {X : zx_X}     {x1 : Int32} {s : zy_S} {r : Int32} {s' : zy_S}  (h : zyF244 x1 s = some (r, s')) : zyR X 2 244 0 [some (.ref (43 + 3)), some (.int x1)] [] s (zyE (some (.int r)) s') := by
  unfold zyF244 at h
  refine zy_2 rfl rfl (show zyR _ _ _ _ [some (.ref (43 + 3)), some (.int x1)] [.int x1] _ _ from ?_)
  refine zy_40 rfl (show zyR _ _ _ _ [some (.ref (43 + 3)), some (.int x1)] [.long (x1).toInt64] _ _ from ?_)
  refine zy_36 rfl rfl (show zyR _ _ _ _ [some (.ref (43 + 3)), some (.int x1)] [.long (0 : Int64), .long (x1).toInt64] _ _ from ?_)
  refine zy_36c rfl rfl (show zyR _ _ _ _ [some (.ref (43 + 3)), some (.int x1)] [.long (4 : Int64), .long (0 : Int64), .long (x1).toInt64] _ _ from ?_)
  obtain ⟨p1, hp1, h⟩ := zy_bind h
  refine zy_60 (as := [.long (x1).toInt64, .long (0 : Int64), .long (4 : Int64)]) (rest := []) (L := [some (.long (x1).toInt64), none, some (.long (0 : Int64)), none, some (.long (4 : Int64)), none]) (d' := 1) rfl rfl (Nat.le_of_ble_eq_true rfl) (Nat.le_of_ble_eq_true rfl) rfl (Nat.le_of_ble_eq_true rfl) rfl rfl (zyC179 hp1) ?_
  show zyR _ _ _ _ [some (.ref (43 + 3)), some (.int x1)] [.int p1.1] _ _
  refine zy_24_0 rfl (fun b3 => (show zyR _ _ _ _ [some (.ref (43 + 3)), some (.int x1)] [] _ _ from ?_)) (fun b3 => (show zyR _ _ _ _ [some (.ref (43 + 3)), some (.int x1)] [] _ _ from ?_))
  · replace h := zy_ifp h b3
    refine zy_3 rfl rfl (show zyR _ _ _ _ [some (.ref (43 + 3)), some (.int x1)] [.int (-1 : Int32)] _ _ from ?_)
    obtain ⟨rfl, rfl⟩ := zy_pi h
    exact zy_4 rfl ⟨rfl, rfl⟩
  · replace h := zy_ifn h b3
    refine zy_0 rfl rfl (show zyR _ _ _ _ [some (.ref (43 + 3)), some (.int x1)] [.ref (43 + 3)] _ _ from ?_)
    refine zy_1r (c := 43) rfl rfl rfl (show zyR _ _ _ _ [some (.ref (43 + 3)), some (.int x1)] [.ref (54 + 3)] _ _ from ?_)
    refine zy_2 rfl rfl (show zyR _ _ _ _ [some (.ref (43 + 3)), some (.int x1)] [.int x1, .ref (54 + 3)] _ _ from ?_)
    obtain ⟨c2, h⟩ := zy_if h
    refine zy_26 (c := 54) rfl rfl c2 (show zyR _ _ _ _ [some (.ref (43 + 3)), some (.int x1)] [.int (p1.2.1 54 (x1).toNatClampNeg)] _ _ from ?_)
    refine zy_6 rfl (show zyR _ _ _ _ [some (.ref (43 + 3)), some (.int x1)] [.int (p1.2.1 54 (x1).toNatClampNeg)] _ _ from ?_)
    obtain ⟨rfl, rfl⟩ := zy_pi h
    exact zy_4 rfl ⟨rfl, rfl⟩
/-! NineOpinions$Bodies.isUnder(II)Z -/
noncomputable def zyF173_34   (x1 : Int32) (x2 : Int32) (s : zy_S) : Option (Int32 × zy_S) :=
if x2 ≠ x1 then
some ((0 : Int32), s)
else
some ((1 : Int32), s)
theorem zyC173_34 {X : zx_X}     {x1 : Int32} {x2 : Int32} {s : zy_S} {r : Int32} {s' : zy_S}  (h : zyF173_34 x1 x2 s = some (r, s')) : zyR X 2 173 34 [none, some (.int x1), some (.int x2), none] [] s (zyE (some (.int r)) s') := by
  unfold zyF173_34 at h
  refine zy_2 rfl rfl (show zyR _ _ _ _ [none, some (.int x1), some (.int x2), none] [.int x2] _ _ from ?_)
  refine zy_2 rfl rfl (show zyR _ _ _ _ [none, some (.int x1), some (.int x2), none] [.int x1, .int x2] _ _ from ?_)
  refine zy_25_1 rfl (fun b1 => (show zyR _ _ _ _ [none, some (.int x1), some (.int x2), none] [] _ _ from ?_)) (fun b1 => (show zyR _ _ _ _ [none, some (.int x1), some (.int x2), none] [] _ _ from ?_))
  · replace h := zy_ifp h b1
    refine zy_3 rfl rfl (show zyR _ _ _ _ [none, some (.int x1), some (.int x2), none] [.int (0 : Int32)] _ _ from ?_)
    cases h
    exact zy_4b rfl ⟨rfl, rfl⟩ (Or.inl rfl)
  · replace h := zy_ifn h b1
    refine zy_3 rfl rfl (show zyR _ _ _ _ [none, some (.int x1), some (.int x2), none] [.int (1 : Int32)] _ _ from ?_)
    refine zy_6 rfl (show zyR _ _ _ _ [none, some (.int x1), some (.int x2), none] [.int (1 : Int32)] _ _ from ?_)
    cases h
    exact zy_4b rfl ⟨rfl, rfl⟩ (Or.inr rfl)
noncomputable def zyF173_4b  (k4 : Int32 → Int32 → Int32 → zy_S → Option (Int32 × zy_S)) (x1 : Int32) (x2 : Int32) (x3 : Int32) (s : zy_S) : Option (Int32 × zy_S) :=
if (8 : Int32) ≤ x3 then
zyF173_34 x1 x2 s
else
(zyF149 x2 s).bind fun p2 =>
if p2.1 = 0 then
zyF173_34 x1 x2 p2.2
else
if x2 = x1 then
zyF173_34 x1 x2 p2.2
else
if zy_in x2 8 then
k4 x1 (zs_abv.getD (x2).toNatClampNeg 0) (x3 + (1 : Int32)) p2.2
else none
theorem zyC173_4b {X : zx_X}  {k4 : Int32 → Int32 → Int32 → zy_S → Option (Int32 × zy_S)}  (hk4 : ∀ (x1 : Int32) (x2 : Int32) (x3 : Int32) (s : zy_S) (r : Int32) (s' : zy_S), k4 x1 x2 x3 s = some (r, s') → zyR X 2 173 4 [none, some (.int x1), some (.int x2), some (.int x3)] [] s (zyE (some (.int r)) s')) {x1 : Int32} {x2 : Int32} {x3 : Int32} {s : zy_S} {r : Int32} {s' : zy_S}  (h : zyF173_4b k4 x1 x2 x3 s = some (r, s')) : zyR X 2 173 4 [none, some (.int x1), some (.int x2), some (.int x3)] [] s (zyE (some (.int r)) s') := by
  unfold zyF173_4b at h
  refine zy_2 rfl rfl (show zyR _ _ _ _ [none, some (.int x1), some (.int x2), some (.int x3)] [.int x3] _ _ from ?_)
  refine zy_3 rfl rfl (show zyR _ _ _ _ [none, some (.int x1), some (.int x2), some (.int x3)] [.int (8 : Int32), .int x3] _ _ from ?_)
  refine zy_25_3 rfl (fun b6 => (show zyR _ _ _ _ [none, some (.int x1), some (.int x2), some (.int x3)] [] _ _ from ?_)) (fun b6 => (show zyR _ _ _ _ [none, some (.int x1), some (.int x2), some (.int x3)] [] _ _ from ?_))
  · replace h := zy_ifp h b6
    exact zy_sub (show zy_le [none, some (.int x1), some (.int x2), none] [none, some (.int x1), some (.int x2), some (.int x3)] from ⟨rfl, ⟨rfl, trivial⟩⟩) (zyC173_34 h)
  · replace h := zy_ifn h b6
    refine zy_2 rfl rfl (show zyR _ _ _ _ [none, some (.int x1), some (.int x2), some (.int x3)] [.int x2] _ _ from ?_)
    obtain ⟨p2, hp2, h⟩ := zy_bind h
    refine zy_60 (as := [.int x2]) (rest := []) (L := [some (.int x2)]) (d' := 1) rfl rfl (Nat.le_of_ble_eq_true rfl) (Nat.le_of_ble_eq_true rfl) rfl (Nat.le_of_ble_eq_true rfl) rfl rfl (zyC149 hp2) ?_
    show zyR _ _ _ _ [none, some (.int x1), some (.int x2), some (.int x3)] [.int p2.1] _ _
    refine zy_24_0 rfl (fun b5 => (show zyR _ _ _ _ [none, some (.int x1), some (.int x2), some (.int x3)] [] _ _ from ?_)) (fun b5 => (show zyR _ _ _ _ [none, some (.int x1), some (.int x2), some (.int x3)] [] _ _ from ?_))
    · replace h := zy_ifp h b5
      exact zy_sub (show zy_le [none, some (.int x1), some (.int x2), none] [none, some (.int x1), some (.int x2), some (.int x3)] from ⟨rfl, ⟨rfl, trivial⟩⟩) (zyC173_34 h)
    · replace h := zy_ifn h b5
      refine zy_2 rfl rfl (show zyR _ _ _ _ [none, some (.int x1), some (.int x2), some (.int x3)] [.int x2] _ _ from ?_)
      refine zy_2 rfl rfl (show zyR _ _ _ _ [none, some (.int x1), some (.int x2), some (.int x3)] [.int x1, .int x2] _ _ from ?_)
      refine zy_25_0 rfl (fun b4 => (show zyR _ _ _ _ [none, some (.int x1), some (.int x2), some (.int x3)] [] _ _ from ?_)) (fun b4 => (show zyR _ _ _ _ [none, some (.int x1), some (.int x2), some (.int x3)] [] _ _ from ?_))
      · replace h := zy_ifp h b4
        exact zy_sub (show zy_le [none, some (.int x1), some (.int x2), none] [none, some (.int x1), some (.int x2), some (.int x3)] from ⟨rfl, ⟨rfl, trivial⟩⟩) (zyC173_34 h)
      · replace h := zy_ifn h b4
        refine zy_54 rfl rfl (show zyR _ _ _ _ [none, some (.int x1), some (.int x2), some (.int x3)] [.ref 1] _ _ from ?_)
        refine zy_2 rfl rfl (show zyR _ _ _ _ [none, some (.int x1), some (.int x2), some (.int x3)] [.int x2, .ref 1] _ _ from ?_)
        obtain ⟨c3, h⟩ := zy_if h
        refine zy_26a rfl c3 (show zyR _ _ _ _ [none, some (.int x1), some (.int x2), some (.int x3)] [.int (zs_abv.getD (x2).toNatClampNeg 0)] _ _ from ?_)
        refine zy_23 rfl rfl (show zyR _ _ _ _ [none, some (.int x1), some (.int (zs_abv.getD (x2).toNatClampNeg 0)), some (.int x3)] [] _ _ from ?_)
        refine zy_22 rfl rfl rfl rfl (show zyR _ _ _ _ [none, some (.int x1), some (.int (zs_abv.getD (x2).toNatClampNeg 0)), some (.int (x3 + (1 : Int32)))] [] _ _ from ?_)
        refine zy_6 rfl (show zyR _ _ _ _ [none, some (.int x1), some (.int (zs_abv.getD (x2).toNatClampNeg 0)), some (.int (x3 + (1 : Int32)))] [] _ _ from ?_)
        exact zy_sub (show zy_le [none, some (.int x1), some (.int (zs_abv.getD (x2).toNatClampNeg 0)), some (.int (x3 + (1 : Int32)))] [none, some (.int x1), some (.int (zs_abv.getD (x2).toNatClampNeg 0)), some (.int (x3 + (1 : Int32)))] from ⟨rfl, ⟨rfl, ⟨rfl, trivial⟩⟩⟩) (hk4 x1 (zs_abv.getD (x2).toNatClampNeg 0) (x3 + (1 : Int32)) p2.2 _ _ h)
noncomputable def zyF173_4   (n : Nat) : Int32 → Int32 → Int32 → zy_S → Option (Int32 × zy_S) := Nat.rec (fun _ _ _ _ => none) (fun _ k4 => zyF173_4b k4) n
theorem zyC173_4 {X : zx_X}     : ∀ (n : Nat) (x1 : Int32) (x2 : Int32) (x3 : Int32) (s : zy_S) (r : Int32) (s' : zy_S), zyF173_4 n x1 x2 x3 s = some (r, s') → zyR X 2 173 4 [none, some (.int x1), some (.int x2), some (.int x3)] [] s (zyE (some (.int r)) s')
  | 0, _, _, _ => by
    intro s r s'  h
    have h : (none : Option (Int32 × zy_S)) = some (r, s') := h
    cases h
  | n + 1, x1, x2, x3 => by
    intro s r s'  h
    exact zyC173_4b (k4 := zyF173_4 n) (fun x1 x2 x3 s r s'  h => zyC173_4  n x1 x2 x3 s r s'  h) h
noncomputable def zyF173   (x0 : Int32) (x1 : Int32) (s : zy_S) : Option (Int32 × zy_S) :=
zyF173_4 zy_fu x1 x0 (0 : Int32) s
theorem zyC173 {X : zx_X}     {x0 : Int32} {x1 : Int32} {s : zy_S} {r : Int32} {s' : zy_S}  (h : zyF173 x0 x1 s = some (r, s')) : zyR X 2 173 0 [some (.int x0), some (.int x1), none, none] [] s (zyE (some (.int r)) s') := by
  unfold zyF173 at h
  refine zy_2 rfl rfl (show zyR _ _ _ _ [some (.int x0), some (.int x1), none, none] [.int x0] _ _ from ?_)
  refine zy_23 rfl rfl (show zyR _ _ _ _ [some (.int x0), some (.int x1), some (.int x0), none] [] _ _ from ?_)
  refine zy_3 rfl rfl (show zyR _ _ _ _ [some (.int x0), some (.int x1), some (.int x0), none] [.int (0 : Int32)] _ _ from ?_)
  refine zy_23 rfl rfl (show zyR _ _ _ _ [some (.int x0), some (.int x1), some (.int x0), some (.int (0 : Int32))] [] _ _ from ?_)
  exact zy_sub (show zy_le [none, some (.int x1), some (.int x0), some (.int (0 : Int32))] [some (.int x0), some (.int x1), some (.int x0), some (.int (0 : Int32))] from ⟨rfl, ⟨rfl, ⟨rfl, trivial⟩⟩⟩) (zyC173_4 zy_fu x1 x0 (0 : Int32) s _ _ h)
/-! NineOpinions.taken(II)I -/
noncomputable def zyF172   (x1 : Int32) (x2 : Int32) (s : zy_S) : Option (Int32 × zy_S) :=
(zyF18 x1 s).bind fun p1 =>
if p1.1 = 0 then
some ((-1 : Int32), p1.2)
else
(zyF149 x2 p1.2).bind fun p2 =>
if p2.1 ≠ 0 then
if zy_in x1 6 then
if zy_Wb p2.2 then
(zyF19 (zy_sh (x1).toNatClampNeg) p2.2).bind fun p5 =>
if p5.1 = 0 then
if zy_in x1 6 then
if zy_Wb p5.2 then
(zyF154 (p5.2.1 (zy_sh (x1).toNatClampNeg) 1) p5.2).bind fun p8 =>
if p8.1 = 0 then
some ((-12 : Int32), p8.2)
else
if zy_in (p5.2.1 (zy_sh (x1).toNatClampNeg) 1) 50 then
(zyF173 (p8.2.1 28 ((p5.2.1 (zy_sh (x1).toNatClampNeg) 1)).toNatClampNeg) x2 p8.2).bind fun p10 =>
if p10.1 = 0 then
some ((-12 : Int32), p10.2)
else
if zy_in (p5.2.1 (zy_sh (x1).toNatClampNeg) 1) 50 then
some ((p10.2.1 28 ((p5.2.1 (zy_sh (x1).toNatClampNeg) 1)).toNatClampNeg), p10.2)
else none
else none
else none
else none
else
some ((-11 : Int32), p5.2)
else none
else none
else
some ((-1 : Int32), p2.2)
theorem zyC172 {X : zx_X}     {x1 : Int32} {x2 : Int32} {s : zy_S} {r : Int32} {s' : zy_S}  (h : zyF172 x1 x2 s = some (r, s')) : zyR X 3 172 0 [some (.ref (0 + 3)), some (.int x1), some (.int x2), none] [] s (zyE (some (.int r)) s') := by
  unfold zyF172 at h
  refine zy_2 rfl rfl (show zyR _ _ _ _ [some (.ref (0 + 3)), some (.int x1), some (.int x2), none] [.int x1] _ _ from ?_)
  obtain ⟨p1, hp1, h⟩ := zy_bind h
  refine zy_60 (as := [.int x1]) (rest := []) (L := [some (.int x1)]) (d' := 1) rfl rfl (Nat.le_of_ble_eq_true rfl) (Nat.le_of_ble_eq_true rfl) rfl (Nat.le_of_ble_eq_true rfl) rfl rfl (zyC18 hp1) ?_
  show zyR _ _ _ _ [some (.ref (0 + 3)), some (.int x1), some (.int x2), none] [.int p1.1] _ _
  refine zy_24_0 rfl (fun b16 => (show zyR _ _ _ _ [some (.ref (0 + 3)), some (.int x1), some (.int x2), none] [] _ _ from ?_)) (fun b16 => (show zyR _ _ _ _ [some (.ref (0 + 3)), some (.int x1), some (.int x2), none] [] _ _ from ?_))
  · replace h := zy_ifp h b16
    refine zy_3 rfl rfl (show zyR _ _ _ _ [some (.ref (0 + 3)), some (.int x1), some (.int x2), none] [.int (-1 : Int32)] _ _ from ?_)
    obtain ⟨rfl, rfl⟩ := zy_pi h
    exact zy_4 rfl ⟨rfl, rfl⟩
  · replace h := zy_ifn h b16
    refine zy_2 rfl rfl (show zyR _ _ _ _ [some (.ref (0 + 3)), some (.int x1), some (.int x2), none] [.int x2] _ _ from ?_)
    obtain ⟨p2, hp2, h⟩ := zy_bind h
    refine zy_60 (as := [.int x2]) (rest := []) (L := [some (.int x2)]) (d' := 1) rfl rfl (Nat.le_of_ble_eq_true rfl) (Nat.le_of_ble_eq_true rfl) rfl (Nat.le_of_ble_eq_true rfl) rfl rfl (zyC149 hp2) ?_
    show zyR _ _ _ _ [some (.ref (0 + 3)), some (.int x1), some (.int x2), none] [.int p2.1] _ _
    refine zy_24_1 rfl (fun b15 => (show zyR _ _ _ _ [some (.ref (0 + 3)), some (.int x1), some (.int x2), none] [] _ _ from ?_)) (fun b15 => (show zyR _ _ _ _ [some (.ref (0 + 3)), some (.int x1), some (.int x2), none] [] _ _ from ?_))
    · replace h := zy_ifp h b15
      refine zy_0 rfl rfl (show zyR _ _ _ _ [some (.ref (0 + 3)), some (.int x1), some (.int x2), none] [.ref (0 + 3)] _ _ from ?_)
      refine zy_1r (c := 0) rfl rfl rfl (show zyR _ _ _ _ [some (.ref (0 + 3)), some (.int x1), some (.int x2), none] [.ref (30 + 3)] _ _ from ?_)
      refine zy_2 rfl rfl (show zyR _ _ _ _ [some (.ref (0 + 3)), some (.int x1), some (.int x2), none] [.int x1, .ref (30 + 3)] _ _ from ?_)
      obtain ⟨c3, h⟩ := zy_if h
      obtain ⟨c4, h⟩ := zy_if h
      refine zy_28 rfl (zy_Wb_g c4) c3 (show zyR _ _ _ _ [some (.ref (0 + 3)), some (.int x1), some (.int x2), none] [.ref ((zy_sh (x1).toNatClampNeg) + 3)] _ _ from ?_)
      obtain ⟨p5, hp5, h⟩ := zy_bind h
      refine zy_5 (c := (zy_sh (x1).toNatClampNeg)) (as := []) (rest := []) (L := [some (.ref ((zy_sh (x1).toNatClampNeg) + 3))]) (d' := 2) rfl rfl (zy_isSh_of (zy_in_lt c3)).1 (Nat.le_of_ble_eq_true rfl) (Nat.le_of_ble_eq_true rfl) rfl (Nat.le_of_ble_eq_true rfl) rfl rfl (zyC19 (zy_isSh_of (zy_in_lt c3)) hp5) ?_
      show zyR _ _ _ _ [some (.ref (0 + 3)), some (.int x1), some (.int x2), none] [.int p5.1] _ _
      refine zy_24_0 rfl (fun b14 => (show zyR _ _ _ _ [some (.ref (0 + 3)), some (.int x1), some (.int x2), none] [] _ _ from ?_)) (fun b14 => (show zyR _ _ _ _ [some (.ref (0 + 3)), some (.int x1), some (.int x2), none] [] _ _ from ?_))
      · replace h := zy_ifp h b14
        refine zy_0 rfl rfl (show zyR _ _ _ _ [some (.ref (0 + 3)), some (.int x1), some (.int x2), none] [.ref (0 + 3)] _ _ from ?_)
        refine zy_1r (c := 0) rfl rfl rfl (show zyR _ _ _ _ [some (.ref (0 + 3)), some (.int x1), some (.int x2), none] [.ref (30 + 3)] _ _ from ?_)
        refine zy_2 rfl rfl (show zyR _ _ _ _ [some (.ref (0 + 3)), some (.int x1), some (.int x2), none] [.int x1, .ref (30 + 3)] _ _ from ?_)
        obtain ⟨c6, h⟩ := zy_if h
        obtain ⟨c7, h⟩ := zy_if h
        refine zy_28 rfl (zy_Wb_g c7) c6 (show zyR _ _ _ _ [some (.ref (0 + 3)), some (.int x1), some (.int x2), none] [.ref ((zy_sh (x1).toNatClampNeg) + 3)] _ _ from ?_)
        refine zy_1 (c := (zy_sh (x1).toNatClampNeg)) rfl (zy_isSh_of (zy_in_lt c6)).1 rfl (show zyR _ _ _ _ [some (.ref (0 + 3)), some (.int x1), some (.int x2), none] [.int (p5.2.1 (zy_sh (x1).toNatClampNeg) 1)] _ _ from ?_)
        refine zy_23 rfl rfl (show zyR _ _ _ _ [some (.ref (0 + 3)), some (.int x1), some (.int x2), some (.int (p5.2.1 (zy_sh (x1).toNatClampNeg) 1))] [] _ _ from ?_)
        refine zy_0 rfl rfl (show zyR _ _ _ _ [some (.ref (0 + 3)), some (.int x1), some (.int x2), some (.int (p5.2.1 (zy_sh (x1).toNatClampNeg) 1))] [.ref (0 + 3)] _ _ from ?_)
        refine zy_1r (c := 0) rfl rfl rfl (show zyR _ _ _ _ [some (.ref (0 + 3)), some (.int x1), some (.int x2), some (.int (p5.2.1 (zy_sh (x1).toNatClampNeg) 1))] [.ref (27 + 3)] _ _ from ?_)
        refine zy_2 rfl rfl (show zyR _ _ _ _ [some (.ref (0 + 3)), some (.int x1), some (.int x2), some (.int (p5.2.1 (zy_sh (x1).toNatClampNeg) 1))] [.int (p5.2.1 (zy_sh (x1).toNatClampNeg) 1), .ref (27 + 3)] _ _ from ?_)
        obtain ⟨p8, hp8, h⟩ := zy_bind h
        refine zy_5 (c := 27) (as := [.int (p5.2.1 (zy_sh (x1).toNatClampNeg) 1)]) (rest := []) (L := [some (.ref (27 + 3)), some (.int (p5.2.1 (zy_sh (x1).toNatClampNeg) 1))]) (d' := 1) rfl rfl rfl (Nat.le_of_ble_eq_true rfl) (Nat.le_of_ble_eq_true rfl) rfl (Nat.le_of_ble_eq_true rfl) rfl rfl (zyC154 hp8) ?_
        show zyR _ _ _ _ [some (.ref (0 + 3)), some (.int x1), some (.int x2), some (.int (p5.2.1 (zy_sh (x1).toNatClampNeg) 1))] [.int p8.1] _ _
        refine zy_24_0 rfl (fun b13 => (show zyR _ _ _ _ [some (.ref (0 + 3)), some (.int x1), some (.int x2), some (.int (p5.2.1 (zy_sh (x1).toNatClampNeg) 1))] [] _ _ from ?_)) (fun b13 => (show zyR _ _ _ _ [some (.ref (0 + 3)), some (.int x1), some (.int x2), some (.int (p5.2.1 (zy_sh (x1).toNatClampNeg) 1))] [] _ _ from ?_))
        · replace h := zy_ifp h b13
          refine zy_3 rfl rfl (show zyR _ _ _ _ [some (.ref (0 + 3)), some (.int x1), some (.int x2), some (.int (p5.2.1 (zy_sh (x1).toNatClampNeg) 1))] [.int (-12 : Int32)] _ _ from ?_)
          obtain ⟨rfl, rfl⟩ := zy_pi h
          exact zy_4 rfl ⟨rfl, rfl⟩
        · replace h := zy_ifn h b13
          refine zy_0 rfl rfl (show zyR _ _ _ _ [some (.ref (0 + 3)), some (.int x1), some (.int x2), some (.int (p5.2.1 (zy_sh (x1).toNatClampNeg) 1))] [.ref (0 + 3)] _ _ from ?_)
          refine zy_1r (c := 0) rfl rfl rfl (show zyR _ _ _ _ [some (.ref (0 + 3)), some (.int x1), some (.int x2), some (.int (p5.2.1 (zy_sh (x1).toNatClampNeg) 1))] [.ref (27 + 3)] _ _ from ?_)
          refine zy_1r (c := 27) rfl rfl rfl (show zyR _ _ _ _ [some (.ref (0 + 3)), some (.int x1), some (.int x2), some (.int (p5.2.1 (zy_sh (x1).toNatClampNeg) 1))] [.ref (28 + 3)] _ _ from ?_)
          refine zy_2 rfl rfl (show zyR _ _ _ _ [some (.ref (0 + 3)), some (.int x1), some (.int x2), some (.int (p5.2.1 (zy_sh (x1).toNatClampNeg) 1))] [.int (p5.2.1 (zy_sh (x1).toNatClampNeg) 1), .ref (28 + 3)] _ _ from ?_)
          obtain ⟨c9, h⟩ := zy_if h
          refine zy_26 (c := 28) rfl rfl c9 (show zyR _ _ _ _ [some (.ref (0 + 3)), some (.int x1), some (.int x2), some (.int (p5.2.1 (zy_sh (x1).toNatClampNeg) 1))] [.int (p8.2.1 28 ((p5.2.1 (zy_sh (x1).toNatClampNeg) 1)).toNatClampNeg)] _ _ from ?_)
          refine zy_2 rfl rfl (show zyR _ _ _ _ [some (.ref (0 + 3)), some (.int x1), some (.int x2), some (.int (p5.2.1 (zy_sh (x1).toNatClampNeg) 1))] [.int x2, .int (p8.2.1 28 ((p5.2.1 (zy_sh (x1).toNatClampNeg) 1)).toNatClampNeg)] _ _ from ?_)
          obtain ⟨p10, hp10, h⟩ := zy_bind h
          refine zy_60 (as := [.int (p8.2.1 28 ((p5.2.1 (zy_sh (x1).toNatClampNeg) 1)).toNatClampNeg), .int x2]) (rest := []) (L := [some (.int (p8.2.1 28 ((p5.2.1 (zy_sh (x1).toNatClampNeg) 1)).toNatClampNeg)), some (.int x2), none, none]) (d' := 2) rfl rfl (Nat.le_of_ble_eq_true rfl) (Nat.le_of_ble_eq_true rfl) rfl (Nat.le_of_ble_eq_true rfl) rfl rfl (zyC173 hp10) ?_
          show zyR _ _ _ _ [some (.ref (0 + 3)), some (.int x1), some (.int x2), some (.int (p5.2.1 (zy_sh (x1).toNatClampNeg) 1))] [.int p10.1] _ _
          refine zy_24_0 rfl (fun b12 => (show zyR _ _ _ _ [some (.ref (0 + 3)), some (.int x1), some (.int x2), some (.int (p5.2.1 (zy_sh (x1).toNatClampNeg) 1))] [] _ _ from ?_)) (fun b12 => (show zyR _ _ _ _ [some (.ref (0 + 3)), some (.int x1), some (.int x2), some (.int (p5.2.1 (zy_sh (x1).toNatClampNeg) 1))] [] _ _ from ?_))
          · replace h := zy_ifp h b12
            refine zy_3 rfl rfl (show zyR _ _ _ _ [some (.ref (0 + 3)), some (.int x1), some (.int x2), some (.int (p5.2.1 (zy_sh (x1).toNatClampNeg) 1))] [.int (-12 : Int32)] _ _ from ?_)
            obtain ⟨rfl, rfl⟩ := zy_pi h
            exact zy_4 rfl ⟨rfl, rfl⟩
          · replace h := zy_ifn h b12
            refine zy_0 rfl rfl (show zyR _ _ _ _ [some (.ref (0 + 3)), some (.int x1), some (.int x2), some (.int (p5.2.1 (zy_sh (x1).toNatClampNeg) 1))] [.ref (0 + 3)] _ _ from ?_)
            refine zy_1r (c := 0) rfl rfl rfl (show zyR _ _ _ _ [some (.ref (0 + 3)), some (.int x1), some (.int x2), some (.int (p5.2.1 (zy_sh (x1).toNatClampNeg) 1))] [.ref (27 + 3)] _ _ from ?_)
            refine zy_1r (c := 27) rfl rfl rfl (show zyR _ _ _ _ [some (.ref (0 + 3)), some (.int x1), some (.int x2), some (.int (p5.2.1 (zy_sh (x1).toNatClampNeg) 1))] [.ref (28 + 3)] _ _ from ?_)
            refine zy_2 rfl rfl (show zyR _ _ _ _ [some (.ref (0 + 3)), some (.int x1), some (.int x2), some (.int (p5.2.1 (zy_sh (x1).toNatClampNeg) 1))] [.int (p5.2.1 (zy_sh (x1).toNatClampNeg) 1), .ref (28 + 3)] _ _ from ?_)
            obtain ⟨c11, h⟩ := zy_if h
            refine zy_26 (c := 28) rfl rfl c11 (show zyR _ _ _ _ [some (.ref (0 + 3)), some (.int x1), some (.int x2), some (.int (p5.2.1 (zy_sh (x1).toNatClampNeg) 1))] [.int (p10.2.1 28 ((p5.2.1 (zy_sh (x1).toNatClampNeg) 1)).toNatClampNeg)] _ _ from ?_)
            refine zy_6 rfl (show zyR _ _ _ _ [some (.ref (0 + 3)), some (.int x1), some (.int x2), some (.int (p5.2.1 (zy_sh (x1).toNatClampNeg) 1))] [.int (p10.2.1 28 ((p5.2.1 (zy_sh (x1).toNatClampNeg) 1)).toNatClampNeg)] _ _ from ?_)
            obtain ⟨rfl, rfl⟩ := zy_pi h
            exact zy_4 rfl ⟨rfl, rfl⟩
      · replace h := zy_ifn h b14
        refine zy_3 rfl rfl (show zyR _ _ _ _ [some (.ref (0 + 3)), some (.int x1), some (.int x2), none] [.int (-11 : Int32)] _ _ from ?_)
        obtain ⟨rfl, rfl⟩ := zy_pi h
        exact zy_4 rfl ⟨rfl, rfl⟩
    · replace h := zy_ifn h b15
      refine zy_3 rfl rfl (show zyR _ _ _ _ [some (.ref (0 + 3)), some (.int x1), some (.int x2), none] [.int (-1 : Int32)] _ _ from ?_)
      obtain ⟨rfl, rfl⟩ := zy_pi h
      exact zy_4 rfl ⟨rfl, rfl⟩
/-! NineOpinionsModel.kindOf(I)I -/
noncomputable def zyF264   (x1 : Int32) (s : zy_S) : Option (Int32 × zy_S) :=
if zy_in x1 50 then
some ((s.1 58 (x1).toNatClampNeg), s)
else none
theorem zyC264 {X : zx_X}     {x1 : Int32} {s : zy_S} {r : Int32} {s' : zy_S}  (h : zyF264 x1 s = some (r, s')) : zyR X 1 264 0 [some (.ref (43 + 3)), some (.int x1)] [] s (zyE (some (.int r)) s') := by
  unfold zyF264 at h
  refine zy_0 rfl rfl (show zyR _ _ _ _ [some (.ref (43 + 3)), some (.int x1)] [.ref (43 + 3)] _ _ from ?_)
  refine zy_1r (c := 43) rfl rfl rfl (show zyR _ _ _ _ [some (.ref (43 + 3)), some (.int x1)] [.ref (58 + 3)] _ _ from ?_)
  refine zy_2 rfl rfl (show zyR _ _ _ _ [some (.ref (43 + 3)), some (.int x1)] [.int x1, .ref (58 + 3)] _ _ from ?_)
  obtain ⟨c1, h⟩ := zy_if h
  refine zy_26 (c := 58) rfl rfl c1 (show zyR _ _ _ _ [some (.ref (43 + 3)), some (.int x1)] [.int (s.1 58 (x1).toNatClampNeg)] _ _ from ?_)
  obtain ⟨rfl, rfl⟩ := zy_pi h
  exact zy_4 rfl ⟨rfl, rfl⟩
/-! NineOpinionsModel.above(I)I -/
noncomputable def zyF265   (x0 : Int32) (s : zy_S) : Option (Int32 × zy_S) :=
if x0 ≠ (3 : Int32) then
if x0 ≠ (4 : Int32) then
if x0 ≠ (5 : Int32) then
if x0 ≠ (7 : Int32) then
some ((0 : Int32), s)
else
some ((4 : Int32), s)
else
some ((3 : Int32), s)
else
some ((1 : Int32), s)
else
some ((2 : Int32), s)
theorem zyC265 {X : zx_X}     {x0 : Int32} {s : zy_S} {r : Int32} {s' : zy_S}  (h : zyF265 x0 s = some (r, s')) : zyR X 1 265 0 [some (.int x0)] [] s (zyE (some (.int r)) s') := by
  unfold zyF265 at h
  refine zy_2 rfl rfl (show zyR _ _ _ _ [some (.int x0)] [.int x0] _ _ from ?_)
  refine zy_3 rfl rfl (show zyR _ _ _ _ [some (.int x0)] [.int (3 : Int32), .int x0] _ _ from ?_)
  refine zy_25_1 rfl (fun b4 => (show zyR _ _ _ _ [some (.int x0)] [] _ _ from ?_)) (fun b4 => (show zyR _ _ _ _ [some (.int x0)] [] _ _ from ?_))
  · replace h := zy_ifp h b4
    refine zy_2 rfl rfl (show zyR _ _ _ _ [some (.int x0)] [.int x0] _ _ from ?_)
    refine zy_3 rfl rfl (show zyR _ _ _ _ [some (.int x0)] [.int (4 : Int32), .int x0] _ _ from ?_)
    refine zy_25_1 rfl (fun b3 => (show zyR _ _ _ _ [some (.int x0)] [] _ _ from ?_)) (fun b3 => (show zyR _ _ _ _ [some (.int x0)] [] _ _ from ?_))
    · replace h := zy_ifp h b3
      refine zy_2 rfl rfl (show zyR _ _ _ _ [some (.int x0)] [.int x0] _ _ from ?_)
      refine zy_3 rfl rfl (show zyR _ _ _ _ [some (.int x0)] [.int (5 : Int32), .int x0] _ _ from ?_)
      refine zy_25_1 rfl (fun b2 => (show zyR _ _ _ _ [some (.int x0)] [] _ _ from ?_)) (fun b2 => (show zyR _ _ _ _ [some (.int x0)] [] _ _ from ?_))
      · replace h := zy_ifp h b2
        refine zy_2 rfl rfl (show zyR _ _ _ _ [some (.int x0)] [.int x0] _ _ from ?_)
        refine zy_3 rfl rfl (show zyR _ _ _ _ [some (.int x0)] [.int (7 : Int32), .int x0] _ _ from ?_)
        refine zy_25_1 rfl (fun b1 => (show zyR _ _ _ _ [some (.int x0)] [] _ _ from ?_)) (fun b1 => (show zyR _ _ _ _ [some (.int x0)] [] _ _ from ?_))
        · replace h := zy_ifp h b1
          refine zy_3 rfl rfl (show zyR _ _ _ _ [some (.int x0)] [.int (0 : Int32)] _ _ from ?_)
          obtain ⟨rfl, rfl⟩ := zy_pi h
          exact zy_4 rfl ⟨rfl, rfl⟩
        · replace h := zy_ifn h b1
          refine zy_3 rfl rfl (show zyR _ _ _ _ [some (.int x0)] [.int (4 : Int32)] _ _ from ?_)
          refine zy_6 rfl (show zyR _ _ _ _ [some (.int x0)] [.int (4 : Int32)] _ _ from ?_)
          obtain ⟨rfl, rfl⟩ := zy_pi h
          exact zy_4 rfl ⟨rfl, rfl⟩
      · replace h := zy_ifn h b2
        refine zy_3 rfl rfl (show zyR _ _ _ _ [some (.int x0)] [.int (3 : Int32)] _ _ from ?_)
        refine zy_6 rfl (show zyR _ _ _ _ [some (.int x0)] [.int (3 : Int32)] _ _ from ?_)
        obtain ⟨rfl, rfl⟩ := zy_pi h
        exact zy_4 rfl ⟨rfl, rfl⟩
    · replace h := zy_ifn h b3
      refine zy_3 rfl rfl (show zyR _ _ _ _ [some (.int x0)] [.int (1 : Int32)] _ _ from ?_)
      refine zy_6 rfl (show zyR _ _ _ _ [some (.int x0)] [.int (1 : Int32)] _ _ from ?_)
      obtain ⟨rfl, rfl⟩ := zy_pi h
      exact zy_4 rfl ⟨rfl, rfl⟩
  · replace h := zy_ifn h b4
    refine zy_3 rfl rfl (show zyR _ _ _ _ [some (.int x0)] [.int (2 : Int32)] _ _ from ?_)
    refine zy_6 rfl (show zyR _ _ _ _ [some (.int x0)] [.int (2 : Int32)] _ _ from ?_)
    obtain ⟨rfl, rfl⟩ := zy_pi h
    exact zy_4 rfl ⟨rfl, rfl⟩
/-! NineOpinionsModel.taken(II)I -/
noncomputable def zyF263_75   (x1 : Int32) (x2 : Int32) (x3 : Int32) (s : zy_S) : Option (Int32 × zy_S) :=
if x3 ≠ x2 then
some ((-12 : Int32), s)
else
if zy_in x1 6 then
(zyF264 (s.1 60 (x1).toNatClampNeg) s).bind fun p2 =>
some (p2.1, p2.2)
else none
theorem zyC263_75 {X : zx_X}     {x1 : Int32} {x2 : Int32} {x3 : Int32} {s : zy_S} {r : Int32} {s' : zy_S}  (h : zyF263_75 x1 x2 x3 s = some (r, s')) : zyR X 3 263 75 [some (.ref (43 + 3)), some (.int x1), some (.int x2), some (.int x3)] [] s (zyE (some (.int r)) s') := by
  unfold zyF263_75 at h
  refine zy_2 rfl rfl (show zyR _ _ _ _ [some (.ref (43 + 3)), some (.int x1), some (.int x2), some (.int x3)] [.int x3] _ _ from ?_)
  refine zy_2 rfl rfl (show zyR _ _ _ _ [some (.ref (43 + 3)), some (.int x1), some (.int x2), some (.int x3)] [.int x2, .int x3] _ _ from ?_)
  refine zy_25_1 rfl (fun b3 => (show zyR _ _ _ _ [some (.ref (43 + 3)), some (.int x1), some (.int x2), some (.int x3)] [] _ _ from ?_)) (fun b3 => (show zyR _ _ _ _ [some (.ref (43 + 3)), some (.int x1), some (.int x2), some (.int x3)] [] _ _ from ?_))
  · replace h := zy_ifp h b3
    refine zy_3 rfl rfl (show zyR _ _ _ _ [some (.ref (43 + 3)), some (.int x1), some (.int x2), some (.int x3)] [.int (-12 : Int32)] _ _ from ?_)
    obtain ⟨rfl, rfl⟩ := zy_pi h
    exact zy_4 rfl ⟨rfl, rfl⟩
  · replace h := zy_ifn h b3
    refine zy_0 rfl rfl (show zyR _ _ _ _ [some (.ref (43 + 3)), some (.int x1), some (.int x2), some (.int x3)] [.ref (43 + 3)] _ _ from ?_)
    refine zy_0 rfl rfl (show zyR _ _ _ _ [some (.ref (43 + 3)), some (.int x1), some (.int x2), some (.int x3)] [.ref (43 + 3), .ref (43 + 3)] _ _ from ?_)
    refine zy_1r (c := 43) rfl rfl rfl (show zyR _ _ _ _ [some (.ref (43 + 3)), some (.int x1), some (.int x2), some (.int x3)] [.ref (60 + 3), .ref (43 + 3)] _ _ from ?_)
    refine zy_2 rfl rfl (show zyR _ _ _ _ [some (.ref (43 + 3)), some (.int x1), some (.int x2), some (.int x3)] [.int x1, .ref (60 + 3), .ref (43 + 3)] _ _ from ?_)
    obtain ⟨c1, h⟩ := zy_if h
    refine zy_26 (c := 60) rfl rfl c1 (show zyR _ _ _ _ [some (.ref (43 + 3)), some (.int x1), some (.int x2), some (.int x3)] [.int (s.1 60 (x1).toNatClampNeg), .ref (43 + 3)] _ _ from ?_)
    obtain ⟨p2, hp2, h⟩ := zy_bind h
    refine zy_5 (c := 43) (as := [.int (s.1 60 (x1).toNatClampNeg)]) (rest := []) (L := [some (.ref (43 + 3)), some (.int (s.1 60 (x1).toNatClampNeg))]) (d' := 1) rfl rfl rfl (Nat.le_of_ble_eq_true rfl) (Nat.le_of_ble_eq_true rfl) rfl (Nat.le_of_ble_eq_true rfl) rfl rfl (zyC264 hp2) ?_
    show zyR _ _ _ _ [some (.ref (43 + 3)), some (.int x1), some (.int x2), some (.int x3)] [.int p2.1] _ _
    refine zy_6 rfl (show zyR _ _ _ _ [some (.ref (43 + 3)), some (.int x1), some (.int x2), some (.int x3)] [.int p2.1] _ _ from ?_)
    obtain ⟨rfl, rfl⟩ := zy_pi h
    exact zy_4 rfl ⟨rfl, rfl⟩
noncomputable def zyF263_58b  (k58 : Int32 → Int32 → Int32 → zy_S → Option (Int32 × zy_S)) (x1 : Int32) (x2 : Int32) (x3 : Int32) (s : zy_S) : Option (Int32 × zy_S) :=
if x3 = x2 then
zyF263_75 x1 x2 x3 s
else
if x3 ≤ 0 then
zyF263_75 x1 x2 x3 s
else
(zyF265 x3 s).bind fun p4 =>
k58 x1 x2 p4.1 p4.2
theorem zyC263_58b {X : zx_X}  {k58 : Int32 → Int32 → Int32 → zy_S → Option (Int32 × zy_S)}  (hk58 : ∀ (x1 : Int32) (x2 : Int32) (x3 : Int32) (s : zy_S) (r : Int32) (s' : zy_S), k58 x1 x2 x3 s = some (r, s') → zyR X 3 263 58 [some (.ref (43 + 3)), some (.int x1), some (.int x2), some (.int x3)] [] s (zyE (some (.int r)) s')) {x1 : Int32} {x2 : Int32} {x3 : Int32} {s : zy_S} {r : Int32} {s' : zy_S}  (h : zyF263_58b k58 x1 x2 x3 s = some (r, s')) : zyR X 3 263 58 [some (.ref (43 + 3)), some (.int x1), some (.int x2), some (.int x3)] [] s (zyE (some (.int r)) s') := by
  unfold zyF263_58b at h
  refine zy_2 rfl rfl (show zyR _ _ _ _ [some (.ref (43 + 3)), some (.int x1), some (.int x2), some (.int x3)] [.int x3] _ _ from ?_)
  refine zy_2 rfl rfl (show zyR _ _ _ _ [some (.ref (43 + 3)), some (.int x1), some (.int x2), some (.int x3)] [.int x2, .int x3] _ _ from ?_)
  refine zy_25_0 rfl (fun b6 => (show zyR _ _ _ _ [some (.ref (43 + 3)), some (.int x1), some (.int x2), some (.int x3)] [] _ _ from ?_)) (fun b6 => (show zyR _ _ _ _ [some (.ref (43 + 3)), some (.int x1), some (.int x2), some (.int x3)] [] _ _ from ?_))
  · replace h := zy_ifp h b6
    exact zy_sub (show zy_le [some (.ref (43 + 3)), some (.int x1), some (.int x2), some (.int x3)] [some (.ref (43 + 3)), some (.int x1), some (.int x2), some (.int x3)] from ⟨rfl, ⟨rfl, ⟨rfl, ⟨rfl, trivial⟩⟩⟩⟩) (zyC263_75 h)
  · replace h := zy_ifn h b6
    refine zy_2 rfl rfl (show zyR _ _ _ _ [some (.ref (43 + 3)), some (.int x1), some (.int x2), some (.int x3)] [.int x3] _ _ from ?_)
    refine zy_24_5 rfl (fun b5 => (show zyR _ _ _ _ [some (.ref (43 + 3)), some (.int x1), some (.int x2), some (.int x3)] [] _ _ from ?_)) (fun b5 => (show zyR _ _ _ _ [some (.ref (43 + 3)), some (.int x1), some (.int x2), some (.int x3)] [] _ _ from ?_))
    · replace h := zy_ifp h b5
      exact zy_sub (show zy_le [some (.ref (43 + 3)), some (.int x1), some (.int x2), some (.int x3)] [some (.ref (43 + 3)), some (.int x1), some (.int x2), some (.int x3)] from ⟨rfl, ⟨rfl, ⟨rfl, ⟨rfl, trivial⟩⟩⟩⟩) (zyC263_75 h)
    · replace h := zy_ifn h b5
      refine zy_2 rfl rfl (show zyR _ _ _ _ [some (.ref (43 + 3)), some (.int x1), some (.int x2), some (.int x3)] [.int x3] _ _ from ?_)
      obtain ⟨p4, hp4, h⟩ := zy_bind h
      refine zy_60 (as := [.int x3]) (rest := []) (L := [some (.int x3)]) (d' := 1) rfl rfl (Nat.le_of_ble_eq_true rfl) (Nat.le_of_ble_eq_true rfl) rfl (Nat.le_of_ble_eq_true rfl) rfl rfl (zyC265 hp4) ?_
      show zyR _ _ _ _ [some (.ref (43 + 3)), some (.int x1), some (.int x2), some (.int x3)] [.int p4.1] _ _
      refine zy_23 rfl rfl (show zyR _ _ _ _ [some (.ref (43 + 3)), some (.int x1), some (.int x2), some (.int p4.1)] [] _ _ from ?_)
      refine zy_6 rfl (show zyR _ _ _ _ [some (.ref (43 + 3)), some (.int x1), some (.int x2), some (.int p4.1)] [] _ _ from ?_)
      exact zy_sub (show zy_le [some (.ref (43 + 3)), some (.int x1), some (.int x2), some (.int p4.1)] [some (.ref (43 + 3)), some (.int x1), some (.int x2), some (.int p4.1)] from ⟨rfl, ⟨rfl, ⟨rfl, ⟨rfl, trivial⟩⟩⟩⟩) (hk58 x1 x2 p4.1 p4.2 _ _ h)
noncomputable def zyF263_58   (n : Nat) : Int32 → Int32 → Int32 → zy_S → Option (Int32 × zy_S) := Nat.rec (fun _ _ _ _ => none) (fun _ k58 => zyF263_58b k58) n
theorem zyC263_58 {X : zx_X}     : ∀ (n : Nat) (x1 : Int32) (x2 : Int32) (x3 : Int32) (s : zy_S) (r : Int32) (s' : zy_S), zyF263_58 n x1 x2 x3 s = some (r, s') → zyR X 3 263 58 [some (.ref (43 + 3)), some (.int x1), some (.int x2), some (.int x3)] [] s (zyE (some (.int r)) s')
  | 0, _, _, _ => by
    intro s r s'  h
    have h : (none : Option (Int32 × zy_S)) = some (r, s') := h
    cases h
  | n + 1, x1, x2, x3 => by
    intro s r s'  h
    exact zyC263_58b (k58 := zyF263_58 n) (fun x1 x2 x3 s r s'  h => zyC263_58  n x1 x2 x3 s r s'  h) h
noncomputable def zyF263   (x1 : Int32) (x2 : Int32) (s : zy_S) : Option (Int32 × zy_S) :=
(zyF182 x1 s).bind fun p7 =>
if p7.1 = 0 then
some ((-1 : Int32), p7.2)
else
(zyF179 (x2).toInt64 (0 : Int64) (7 : Int64) p7.2).bind fun p8 =>
if p8.1 ≠ 0 then
if zy_in x1 6 then
if 0 ≤ (p8.2.1 60 (x1).toNatClampNeg) then
if zy_in x1 6 then
if (p8.2.1 60 (x1).toNatClampNeg) < (50 : Int32) then
if zy_in x1 6 then
(zyF264 (p8.2.1 60 (x1).toNatClampNeg) p8.2).bind fun p12 =>
zyF263_58 zy_fu x1 x2 p12.1 p12.2
else none
else
some ((-12 : Int32), p8.2)
else none
else
some ((-11 : Int32), p8.2)
else none
else
some ((-1 : Int32), p8.2)
theorem zyC263 {X : zx_X}     {x1 : Int32} {x2 : Int32} {s : zy_S} {r : Int32} {s' : zy_S}  (h : zyF263 x1 x2 s = some (r, s')) : zyR X 3 263 0 [some (.ref (43 + 3)), some (.int x1), some (.int x2), none] [] s (zyE (some (.int r)) s') := by
  unfold zyF263 at h
  refine zy_2 rfl rfl (show zyR _ _ _ _ [some (.ref (43 + 3)), some (.int x1), some (.int x2), none] [.int x1] _ _ from ?_)
  obtain ⟨p7, hp7, h⟩ := zy_bind h
  refine zy_60 (as := [.int x1]) (rest := []) (L := [some (.int x1)]) (d' := 2) rfl rfl (Nat.le_of_ble_eq_true rfl) (Nat.le_of_ble_eq_true rfl) rfl (Nat.le_of_ble_eq_true rfl) rfl rfl (zyC182 hp7) ?_
  show zyR _ _ _ _ [some (.ref (43 + 3)), some (.int x1), some (.int x2), none] [.int p7.1] _ _
  refine zy_24_0 rfl (fun b16 => (show zyR _ _ _ _ [some (.ref (43 + 3)), some (.int x1), some (.int x2), none] [] _ _ from ?_)) (fun b16 => (show zyR _ _ _ _ [some (.ref (43 + 3)), some (.int x1), some (.int x2), none] [] _ _ from ?_))
  · replace h := zy_ifp h b16
    refine zy_3 rfl rfl (show zyR _ _ _ _ [some (.ref (43 + 3)), some (.int x1), some (.int x2), none] [.int (-1 : Int32)] _ _ from ?_)
    obtain ⟨rfl, rfl⟩ := zy_pi h
    exact zy_4 rfl ⟨rfl, rfl⟩
  · replace h := zy_ifn h b16
    refine zy_2 rfl rfl (show zyR _ _ _ _ [some (.ref (43 + 3)), some (.int x1), some (.int x2), none] [.int x2] _ _ from ?_)
    refine zy_40 rfl (show zyR _ _ _ _ [some (.ref (43 + 3)), some (.int x1), some (.int x2), none] [.long (x2).toInt64] _ _ from ?_)
    refine zy_36 rfl rfl (show zyR _ _ _ _ [some (.ref (43 + 3)), some (.int x1), some (.int x2), none] [.long (0 : Int64), .long (x2).toInt64] _ _ from ?_)
    refine zy_36c rfl rfl (show zyR _ _ _ _ [some (.ref (43 + 3)), some (.int x1), some (.int x2), none] [.long (7 : Int64), .long (0 : Int64), .long (x2).toInt64] _ _ from ?_)
    obtain ⟨p8, hp8, h⟩ := zy_bind h
    refine zy_60 (as := [.long (x2).toInt64, .long (0 : Int64), .long (7 : Int64)]) (rest := []) (L := [some (.long (x2).toInt64), none, some (.long (0 : Int64)), none, some (.long (7 : Int64)), none]) (d' := 1) rfl rfl (Nat.le_of_ble_eq_true rfl) (Nat.le_of_ble_eq_true rfl) rfl (Nat.le_of_ble_eq_true rfl) rfl rfl (zyC179 hp8) ?_
    show zyR _ _ _ _ [some (.ref (43 + 3)), some (.int x1), some (.int x2), none] [.int p8.1] _ _
    refine zy_24_1 rfl (fun b15 => (show zyR _ _ _ _ [some (.ref (43 + 3)), some (.int x1), some (.int x2), none] [] _ _ from ?_)) (fun b15 => (show zyR _ _ _ _ [some (.ref (43 + 3)), some (.int x1), some (.int x2), none] [] _ _ from ?_))
    · replace h := zy_ifp h b15
      refine zy_0 rfl rfl (show zyR _ _ _ _ [some (.ref (43 + 3)), some (.int x1), some (.int x2), none] [.ref (43 + 3)] _ _ from ?_)
      refine zy_1r (c := 43) rfl rfl rfl (show zyR _ _ _ _ [some (.ref (43 + 3)), some (.int x1), some (.int x2), none] [.ref (60 + 3)] _ _ from ?_)
      refine zy_2 rfl rfl (show zyR _ _ _ _ [some (.ref (43 + 3)), some (.int x1), some (.int x2), none] [.int x1, .ref (60 + 3)] _ _ from ?_)
      obtain ⟨c9, h⟩ := zy_if h
      refine zy_26 (c := 60) rfl rfl c9 (show zyR _ _ _ _ [some (.ref (43 + 3)), some (.int x1), some (.int x2), none] [.int (p8.2.1 60 (x1).toNatClampNeg)] _ _ from ?_)
      refine zy_24_3 rfl (fun b14 => (show zyR _ _ _ _ [some (.ref (43 + 3)), some (.int x1), some (.int x2), none] [] _ _ from ?_)) (fun b14 => (show zyR _ _ _ _ [some (.ref (43 + 3)), some (.int x1), some (.int x2), none] [] _ _ from ?_))
      · replace h := zy_ifp h b14
        refine zy_0 rfl rfl (show zyR _ _ _ _ [some (.ref (43 + 3)), some (.int x1), some (.int x2), none] [.ref (43 + 3)] _ _ from ?_)
        refine zy_1r (c := 43) rfl rfl rfl (show zyR _ _ _ _ [some (.ref (43 + 3)), some (.int x1), some (.int x2), none] [.ref (60 + 3)] _ _ from ?_)
        refine zy_2 rfl rfl (show zyR _ _ _ _ [some (.ref (43 + 3)), some (.int x1), some (.int x2), none] [.int x1, .ref (60 + 3)] _ _ from ?_)
        obtain ⟨c10, h⟩ := zy_if h
        refine zy_26 (c := 60) rfl rfl c10 (show zyR _ _ _ _ [some (.ref (43 + 3)), some (.int x1), some (.int x2), none] [.int (p8.2.1 60 (x1).toNatClampNeg)] _ _ from ?_)
        refine zy_3 rfl rfl (show zyR _ _ _ _ [some (.ref (43 + 3)), some (.int x1), some (.int x2), none] [.int (50 : Int32), .int (p8.2.1 60 (x1).toNatClampNeg)] _ _ from ?_)
        refine zy_25_2 rfl (fun b13 => (show zyR _ _ _ _ [some (.ref (43 + 3)), some (.int x1), some (.int x2), none] [] _ _ from ?_)) (fun b13 => (show zyR _ _ _ _ [some (.ref (43 + 3)), some (.int x1), some (.int x2), none] [] _ _ from ?_))
        · replace h := zy_ifp h b13
          refine zy_0 rfl rfl (show zyR _ _ _ _ [some (.ref (43 + 3)), some (.int x1), some (.int x2), none] [.ref (43 + 3)] _ _ from ?_)
          refine zy_0 rfl rfl (show zyR _ _ _ _ [some (.ref (43 + 3)), some (.int x1), some (.int x2), none] [.ref (43 + 3), .ref (43 + 3)] _ _ from ?_)
          refine zy_1r (c := 43) rfl rfl rfl (show zyR _ _ _ _ [some (.ref (43 + 3)), some (.int x1), some (.int x2), none] [.ref (60 + 3), .ref (43 + 3)] _ _ from ?_)
          refine zy_2 rfl rfl (show zyR _ _ _ _ [some (.ref (43 + 3)), some (.int x1), some (.int x2), none] [.int x1, .ref (60 + 3), .ref (43 + 3)] _ _ from ?_)
          obtain ⟨c11, h⟩ := zy_if h
          refine zy_26 (c := 60) rfl rfl c11 (show zyR _ _ _ _ [some (.ref (43 + 3)), some (.int x1), some (.int x2), none] [.int (p8.2.1 60 (x1).toNatClampNeg), .ref (43 + 3)] _ _ from ?_)
          obtain ⟨p12, hp12, h⟩ := zy_bind h
          refine zy_5 (c := 43) (as := [.int (p8.2.1 60 (x1).toNatClampNeg)]) (rest := []) (L := [some (.ref (43 + 3)), some (.int (p8.2.1 60 (x1).toNatClampNeg))]) (d' := 1) rfl rfl rfl (Nat.le_of_ble_eq_true rfl) (Nat.le_of_ble_eq_true rfl) rfl (Nat.le_of_ble_eq_true rfl) rfl rfl (zyC264 hp12) ?_
          show zyR _ _ _ _ [some (.ref (43 + 3)), some (.int x1), some (.int x2), none] [.int p12.1] _ _
          refine zy_23 rfl rfl (show zyR _ _ _ _ [some (.ref (43 + 3)), some (.int x1), some (.int x2), some (.int p12.1)] [] _ _ from ?_)
          exact zy_sub (show zy_le [some (.ref (43 + 3)), some (.int x1), some (.int x2), some (.int p12.1)] [some (.ref (43 + 3)), some (.int x1), some (.int x2), some (.int p12.1)] from ⟨rfl, ⟨rfl, ⟨rfl, ⟨rfl, trivial⟩⟩⟩⟩) (zyC263_58 zy_fu x1 x2 p12.1 p12.2 _ _ h)
        · replace h := zy_ifn h b13
          refine zy_3 rfl rfl (show zyR _ _ _ _ [some (.ref (43 + 3)), some (.int x1), some (.int x2), none] [.int (-12 : Int32)] _ _ from ?_)
          obtain ⟨rfl, rfl⟩ := zy_pi h
          exact zy_4 rfl ⟨rfl, rfl⟩
      · replace h := zy_ifn h b14
        refine zy_3 rfl rfl (show zyR _ _ _ _ [some (.ref (43 + 3)), some (.int x1), some (.int x2), none] [.int (-11 : Int32)] _ _ from ?_)
        obtain ⟨rfl, rfl⟩ := zy_pi h
        exact zy_4 rfl ⟨rfl, rfl⟩
    · replace h := zy_ifn h b15
      refine zy_3 rfl rfl (show zyR _ _ _ _ [some (.ref (43 + 3)), some (.int x1), some (.int x2), none] [.int (-1 : Int32)] _ _ from ?_)
      obtain ⟨rfl, rfl⟩ := zy_pi h
      exact zy_4 rfl ⟨rfl, rfl⟩
