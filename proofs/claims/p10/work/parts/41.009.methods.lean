/-! PART 41.09: methods as functions. Made by wip/v4/dcp.py. -/
/-! NineOpinionsModel.refusal(II)I -/
noncomputable def zyF259   (x1 : Int32) (x2 : Int32) (s : zy_S) : Option (Int32 × zy_S) :=
(zyF182 x1 s).bind fun p1 =>
if p1.1 ≠ 0 then
if zy_in x1 6 then
if 0 ≤ (p1.2.1 60 (x1).toNatClampNeg) then
if zy_in x1 6 then
if (50 : Int32) ≤ (p1.2.1 60 (x1).toNatClampNeg) then
if x2 < 0 then
some ((-13 : Int32), p1.2)
else
if zy_in x1 6 then
if (p1.2.1 61 (x1).toNatClampNeg) ≤ x2 then
some ((-13 : Int32), p1.2)
else
some ((0 : Int32), p1.2)
else none
else
some ((-12 : Int32), p1.2)
else none
else
some ((-11 : Int32), p1.2)
else none
else
some ((-1 : Int32), p1.2)
theorem zyC259 {X : zx_X}     {x1 : Int32} {x2 : Int32} {s : zy_S} {r : Int32} {s' : zy_S}  (h : zyF259 x1 x2 s = some (r, s')) : zyR X 3 259 0 [some (.ref (43 + 3)), some (.int x1), some (.int x2)] [] s (zyE (some (.int r)) s') := by
  unfold zyF259 at h
  refine zy_2 rfl rfl (show zyR _ _ _ _ [some (.ref (43 + 3)), some (.int x1), some (.int x2)] [.int x1] _ _ from ?_)
  obtain ⟨p1, hp1, h⟩ := zy_bind h
  refine zy_60 (as := [.int x1]) (rest := []) (L := [some (.int x1)]) (d' := 2) rfl rfl (Nat.le_of_ble_eq_true rfl) (Nat.le_of_ble_eq_true rfl) rfl (Nat.le_of_ble_eq_true rfl) rfl rfl (zyC182 hp1) ?_
  show zyR _ _ _ _ [some (.ref (43 + 3)), some (.int x1), some (.int x2)] [.int p1.1] _ _
  refine zy_24_1 rfl (fun b9 => (show zyR _ _ _ _ [some (.ref (43 + 3)), some (.int x1), some (.int x2)] [] _ _ from ?_)) (fun b9 => (show zyR _ _ _ _ [some (.ref (43 + 3)), some (.int x1), some (.int x2)] [] _ _ from ?_))
  · replace h := zy_ifp h b9
    refine zy_0 rfl rfl (show zyR _ _ _ _ [some (.ref (43 + 3)), some (.int x1), some (.int x2)] [.ref (43 + 3)] _ _ from ?_)
    refine zy_1r (c := 43) rfl rfl rfl (show zyR _ _ _ _ [some (.ref (43 + 3)), some (.int x1), some (.int x2)] [.ref (60 + 3)] _ _ from ?_)
    refine zy_2 rfl rfl (show zyR _ _ _ _ [some (.ref (43 + 3)), some (.int x1), some (.int x2)] [.int x1, .ref (60 + 3)] _ _ from ?_)
    obtain ⟨c2, h⟩ := zy_if h
    refine zy_26 (c := 60) rfl rfl c2 (show zyR _ _ _ _ [some (.ref (43 + 3)), some (.int x1), some (.int x2)] [.int (p1.2.1 60 (x1).toNatClampNeg)] _ _ from ?_)
    refine zy_24_3 rfl (fun b8 => (show zyR _ _ _ _ [some (.ref (43 + 3)), some (.int x1), some (.int x2)] [] _ _ from ?_)) (fun b8 => (show zyR _ _ _ _ [some (.ref (43 + 3)), some (.int x1), some (.int x2)] [] _ _ from ?_))
    · replace h := zy_ifp h b8
      refine zy_0 rfl rfl (show zyR _ _ _ _ [some (.ref (43 + 3)), some (.int x1), some (.int x2)] [.ref (43 + 3)] _ _ from ?_)
      refine zy_1r (c := 43) rfl rfl rfl (show zyR _ _ _ _ [some (.ref (43 + 3)), some (.int x1), some (.int x2)] [.ref (60 + 3)] _ _ from ?_)
      refine zy_2 rfl rfl (show zyR _ _ _ _ [some (.ref (43 + 3)), some (.int x1), some (.int x2)] [.int x1, .ref (60 + 3)] _ _ from ?_)
      obtain ⟨c3, h⟩ := zy_if h
      refine zy_26 (c := 60) rfl rfl c3 (show zyR _ _ _ _ [some (.ref (43 + 3)), some (.int x1), some (.int x2)] [.int (p1.2.1 60 (x1).toNatClampNeg)] _ _ from ?_)
      refine zy_3 rfl rfl (show zyR _ _ _ _ [some (.ref (43 + 3)), some (.int x1), some (.int x2)] [.int (50 : Int32), .int (p1.2.1 60 (x1).toNatClampNeg)] _ _ from ?_)
      refine zy_25_3 rfl (fun b7 => (show zyR _ _ _ _ [some (.ref (43 + 3)), some (.int x1), some (.int x2)] [] _ _ from ?_)) (fun b7 => (show zyR _ _ _ _ [some (.ref (43 + 3)), some (.int x1), some (.int x2)] [] _ _ from ?_))
      · replace h := zy_ifp h b7
        refine zy_2 rfl rfl (show zyR _ _ _ _ [some (.ref (43 + 3)), some (.int x1), some (.int x2)] [.int x2] _ _ from ?_)
        refine zy_24_2 rfl (fun b6 => (show zyR _ _ _ _ [some (.ref (43 + 3)), some (.int x1), some (.int x2)] [] _ _ from ?_)) (fun b6 => (show zyR _ _ _ _ [some (.ref (43 + 3)), some (.int x1), some (.int x2)] [] _ _ from ?_))
        · replace h := zy_ifp h b6
          refine zy_3 rfl rfl (show zyR _ _ _ _ [some (.ref (43 + 3)), some (.int x1), some (.int x2)] [.int (-13 : Int32)] _ _ from ?_)
          obtain ⟨rfl, rfl⟩ := zy_pi h
          exact zy_4 rfl ⟨rfl, rfl⟩
        · replace h := zy_ifn h b6
          refine zy_2 rfl rfl (show zyR _ _ _ _ [some (.ref (43 + 3)), some (.int x1), some (.int x2)] [.int x2] _ _ from ?_)
          refine zy_0 rfl rfl (show zyR _ _ _ _ [some (.ref (43 + 3)), some (.int x1), some (.int x2)] [.ref (43 + 3), .int x2] _ _ from ?_)
          refine zy_1r (c := 43) rfl rfl rfl (show zyR _ _ _ _ [some (.ref (43 + 3)), some (.int x1), some (.int x2)] [.ref (61 + 3), .int x2] _ _ from ?_)
          refine zy_2 rfl rfl (show zyR _ _ _ _ [some (.ref (43 + 3)), some (.int x1), some (.int x2)] [.int x1, .ref (61 + 3), .int x2] _ _ from ?_)
          obtain ⟨c4, h⟩ := zy_if h
          refine zy_26 (c := 61) rfl rfl c4 (show zyR _ _ _ _ [some (.ref (43 + 3)), some (.int x1), some (.int x2)] [.int (p1.2.1 61 (x1).toNatClampNeg), .int x2] _ _ from ?_)
          refine zy_25_3 rfl (fun b5 => (show zyR _ _ _ _ [some (.ref (43 + 3)), some (.int x1), some (.int x2)] [] _ _ from ?_)) (fun b5 => (show zyR _ _ _ _ [some (.ref (43 + 3)), some (.int x1), some (.int x2)] [] _ _ from ?_))
          · replace h := zy_ifp h b5
            refine zy_3 rfl rfl (show zyR _ _ _ _ [some (.ref (43 + 3)), some (.int x1), some (.int x2)] [.int (-13 : Int32)] _ _ from ?_)
            obtain ⟨rfl, rfl⟩ := zy_pi h
            exact zy_4 rfl ⟨rfl, rfl⟩
          · replace h := zy_ifn h b5
            refine zy_3 rfl rfl (show zyR _ _ _ _ [some (.ref (43 + 3)), some (.int x1), some (.int x2)] [.int (0 : Int32)] _ _ from ?_)
            refine zy_6 rfl (show zyR _ _ _ _ [some (.ref (43 + 3)), some (.int x1), some (.int x2)] [.int (0 : Int32)] _ _ from ?_)
            obtain ⟨rfl, rfl⟩ := zy_pi h
            exact zy_4 rfl ⟨rfl, rfl⟩
      · replace h := zy_ifn h b7
        refine zy_3 rfl rfl (show zyR _ _ _ _ [some (.ref (43 + 3)), some (.int x1), some (.int x2)] [.int (-12 : Int32)] _ _ from ?_)
        obtain ⟨rfl, rfl⟩ := zy_pi h
        exact zy_4 rfl ⟨rfl, rfl⟩
    · replace h := zy_ifn h b8
      refine zy_3 rfl rfl (show zyR _ _ _ _ [some (.ref (43 + 3)), some (.int x1), some (.int x2)] [.int (-11 : Int32)] _ _ from ?_)
      obtain ⟨rfl, rfl⟩ := zy_pi h
      exact zy_4 rfl ⟨rfl, rfl⟩
  · replace h := zy_ifn h b9
    refine zy_3 rfl rfl (show zyR _ _ _ _ [some (.ref (43 + 3)), some (.int x1), some (.int x2)] [.int (-1 : Int32)] _ _ from ?_)
    obtain ⟨rfl, rfl⟩ := zy_pi h
    exact zy_4 rfl ⟨rfl, rfl⟩
/-! NineOpinionsModel.asSort(IJ)J -/
noncomputable def zyF260   (x0 : Int32) (x1 : Int64) (s : zy_S) : Option (Int64 × zy_S) :=
if x0 ≠ 0 then
if x0 ≠ (1 : Int32) then
if x0 ≠ (2 : Int32) then
if x0 ≠ (4 : Int32) then
some (x1, s)
else
if (lg_cmp x1 (0 : Int64)) = 0 then
some ((0 : Int64), s)
else
some ((1 : Int64), s)
else
some (((x1).toInt32).toInt64, s)
else
some ((((x1).toInt32).toInt16.toInt32).toInt64, s)
else
some ((((x1).toInt32).toInt8.toInt32).toInt64, s)
theorem zyC260 {X : zx_X}     {x0 : Int32} {x1 : Int64} {s : zy_S} {r : Int64} {s' : zy_S}  (h : zyF260 x0 x1 s = some (r, s')) : zyR X 1 260 0 [some (.int x0), some (.long x1), none] [] s (zyE (some (.long r)) s') := by
  unfold zyF260 at h
  refine zy_2 rfl rfl (show zyR _ _ _ _ [some (.int x0), some (.long x1), none] [.int x0] _ _ from ?_)
  refine zy_24_1 rfl (fun b5 => (show zyR _ _ _ _ [some (.int x0), some (.long x1), none] [] _ _ from ?_)) (fun b5 => (show zyR _ _ _ _ [some (.int x0), some (.long x1), none] [] _ _ from ?_))
  · replace h := zy_ifp h b5
    refine zy_2 rfl rfl (show zyR _ _ _ _ [some (.int x0), some (.long x1), none] [.int x0] _ _ from ?_)
    refine zy_3 rfl rfl (show zyR _ _ _ _ [some (.int x0), some (.long x1), none] [.int (1 : Int32), .int x0] _ _ from ?_)
    refine zy_25_1 rfl (fun b4 => (show zyR _ _ _ _ [some (.int x0), some (.long x1), none] [] _ _ from ?_)) (fun b4 => (show zyR _ _ _ _ [some (.int x0), some (.long x1), none] [] _ _ from ?_))
    · replace h := zy_ifp h b4
      refine zy_2 rfl rfl (show zyR _ _ _ _ [some (.int x0), some (.long x1), none] [.int x0] _ _ from ?_)
      refine zy_3 rfl rfl (show zyR _ _ _ _ [some (.int x0), some (.long x1), none] [.int (2 : Int32), .int x0] _ _ from ?_)
      refine zy_25_1 rfl (fun b3 => (show zyR _ _ _ _ [some (.int x0), some (.long x1), none] [] _ _ from ?_)) (fun b3 => (show zyR _ _ _ _ [some (.int x0), some (.long x1), none] [] _ _ from ?_))
      · replace h := zy_ifp h b3
        refine zy_2 rfl rfl (show zyR _ _ _ _ [some (.int x0), some (.long x1), none] [.int x0] _ _ from ?_)
        refine zy_3 rfl rfl (show zyR _ _ _ _ [some (.int x0), some (.long x1), none] [.int (4 : Int32), .int x0] _ _ from ?_)
        refine zy_25_1 rfl (fun b2 => (show zyR _ _ _ _ [some (.int x0), some (.long x1), none] [] _ _ from ?_)) (fun b2 => (show zyR _ _ _ _ [some (.int x0), some (.long x1), none] [] _ _ from ?_))
        · replace h := zy_ifp h b2
          refine zy_37 rfl rfl (show zyR _ _ _ _ [some (.int x0), some (.long x1), none] [.long x1] _ _ from ?_)
          cases h
          exact zy_65 rfl ⟨rfl, rfl⟩
        · replace h := zy_ifn h b2
          refine zy_37 rfl rfl (show zyR _ _ _ _ [some (.int x0), some (.long x1), none] [.long x1] _ _ from ?_)
          refine zy_36 rfl rfl (show zyR _ _ _ _ [some (.int x0), some (.long x1), none] [.long (0 : Int64), .long x1] _ _ from ?_)
          refine zy_44 rfl (show zyR _ _ _ _ [some (.int x0), some (.long x1), none] [.int (lg_cmp x1 (0 : Int64))] _ _ from ?_)
          refine zy_24_0 rfl (fun b1 => (show zyR _ _ _ _ [some (.int x0), some (.long x1), none] [] _ _ from ?_)) (fun b1 => (show zyR _ _ _ _ [some (.int x0), some (.long x1), none] [] _ _ from ?_))
          · replace h := zy_ifp h b1
            refine zy_36 rfl rfl (show zyR _ _ _ _ [some (.int x0), some (.long x1), none] [.long (0 : Int64)] _ _ from ?_)
            refine zy_6 rfl (show zyR _ _ _ _ [some (.int x0), some (.long x1), none] [.long (0 : Int64)] _ _ from ?_)
            cases h
            exact zy_65 rfl ⟨rfl, rfl⟩
          · replace h := zy_ifn h b1
            refine zy_36 rfl rfl (show zyR _ _ _ _ [some (.int x0), some (.long x1), none] [.long (1 : Int64)] _ _ from ?_)
            refine zy_6 rfl (show zyR _ _ _ _ [some (.int x0), some (.long x1), none] [.long (1 : Int64)] _ _ from ?_)
            cases h
            exact zy_65 rfl ⟨rfl, rfl⟩
      · replace h := zy_ifn h b3
        refine zy_37 rfl rfl (show zyR _ _ _ _ [some (.int x0), some (.long x1), none] [.long x1] _ _ from ?_)
        refine zy_41 rfl (show zyR _ _ _ _ [some (.int x0), some (.long x1), none] [.int (x1).toInt32] _ _ from ?_)
        refine zy_40 rfl (show zyR _ _ _ _ [some (.int x0), some (.long x1), none] [.long ((x1).toInt32).toInt64] _ _ from ?_)
        refine zy_6 rfl (show zyR _ _ _ _ [some (.int x0), some (.long x1), none] [.long ((x1).toInt32).toInt64] _ _ from ?_)
        cases h
        exact zy_65 rfl ⟨rfl, rfl⟩
    · replace h := zy_ifn h b4
      refine zy_37 rfl rfl (show zyR _ _ _ _ [some (.int x0), some (.long x1), none] [.long x1] _ _ from ?_)
      refine zy_41 rfl (show zyR _ _ _ _ [some (.int x0), some (.long x1), none] [.int (x1).toInt32] _ _ from ?_)
      refine zy_43 rfl (show zyR _ _ _ _ [some (.int x0), some (.long x1), none] [.int ((x1).toInt32).toInt16.toInt32] _ _ from ?_)
      refine zy_40 rfl (show zyR _ _ _ _ [some (.int x0), some (.long x1), none] [.long (((x1).toInt32).toInt16.toInt32).toInt64] _ _ from ?_)
      refine zy_6 rfl (show zyR _ _ _ _ [some (.int x0), some (.long x1), none] [.long (((x1).toInt32).toInt16.toInt32).toInt64] _ _ from ?_)
      cases h
      exact zy_65 rfl ⟨rfl, rfl⟩
  · replace h := zy_ifn h b5
    refine zy_37 rfl rfl (show zyR _ _ _ _ [some (.int x0), some (.long x1), none] [.long x1] _ _ from ?_)
    refine zy_41 rfl (show zyR _ _ _ _ [some (.int x0), some (.long x1), none] [.int (x1).toInt32] _ _ from ?_)
    refine zy_42 rfl (show zyR _ _ _ _ [some (.int x0), some (.long x1), none] [.int ((x1).toInt32).toInt8.toInt32] _ _ from ?_)
    refine zy_40 rfl (show zyR _ _ _ _ [some (.int x0), some (.long x1), none] [.long (((x1).toInt32).toInt8.toInt32).toInt64] _ _ from ?_)
    refine zy_6 rfl (show zyR _ _ _ _ [some (.int x0), some (.long x1), none] [.long (((x1).toInt32).toInt8.toInt32).toInt64] _ _ from ?_)
    cases h
    exact zy_65 rfl ⟨rfl, rfl⟩
/-! NineOpinionsModel.put(IIJ)I -/
noncomputable def zyF258_37   (x5 : Int32) (s : zy_S) : Option (Int32 × zy_S) :=
if x5 ≠ 0 then
some (x5, s)
else
some ((1 : Int32), s)
theorem zyC258_37 {X : zx_X}     {x5 : Int32} {s : zy_S} {r : Int32} {s' : zy_S}  (h : zyF258_37 x5 s = some (r, s')) : zyR X 4 258 37 [none, none, none, none, none, some (.int x5)] [] s (zyE (some (.int r)) s') := by
  unfold zyF258_37 at h
  refine zy_2 rfl rfl (show zyR _ _ _ _ [none, none, none, none, none, some (.int x5)] [.int x5] _ _ from ?_)
  refine zy_24_1 rfl (fun b1 => (show zyR _ _ _ _ [none, none, none, none, none, some (.int x5)] [] _ _ from ?_)) (fun b1 => (show zyR _ _ _ _ [none, none, none, none, none, some (.int x5)] [] _ _ from ?_))
  · replace h := zy_ifp h b1
    refine zy_2 rfl rfl (show zyR _ _ _ _ [none, none, none, none, none, some (.int x5)] [.int x5] _ _ from ?_)
    obtain ⟨rfl, rfl⟩ := zy_pi h
    exact zy_4 rfl ⟨rfl, rfl⟩
  · replace h := zy_ifn h b1
    refine zy_3 rfl rfl (show zyR _ _ _ _ [none, none, none, none, none, some (.int x5)] [.int (1 : Int32)] _ _ from ?_)
    refine zy_6 rfl (show zyR _ _ _ _ [none, none, none, none, none, some (.int x5)] [.int (1 : Int32)] _ _ from ?_)
    obtain ⟨rfl, rfl⟩ := zy_pi h
    exact zy_4 rfl ⟨rfl, rfl⟩
noncomputable def zyF258   (x1 : Int32) (x2 : Int32) (x3 : Int64) (s : zy_S) : Option (Int32 × zy_S) :=
(zyF259 x1 x2 s).bind fun p2 =>
if p2.1 ≠ 0 then
zyF258_37 p2.1 p2.2
else
if zy_in x1 6 then
(zyF260 ((p2.2.1 60 (x1).toNatClampNeg) - (50 : Int32)) x3 p2.2).bind fun p4 =>
if zy_in (((60 : Int32) * x1) + x2) 360 then
zyF258_37 p2.1 (zy_uj p4.2 62 ((((60 : Int32) * x1) + x2)).toNatClampNeg p4.1)
else none
else none
theorem zyC258 {X : zx_X}     {x1 : Int32} {x2 : Int32} {x3 : Int64} {s : zy_S} {r : Int32} {s' : zy_S}  (h : zyF258 x1 x2 x3 s = some (r, s')) : zyR X 4 258 0 [some (.ref (43 + 3)), some (.int x1), some (.int x2), some (.long x3), none, none] [] s (zyE (some (.int r)) s') := by
  unfold zyF258 at h
  refine zy_0 rfl rfl (show zyR _ _ _ _ [some (.ref (43 + 3)), some (.int x1), some (.int x2), some (.long x3), none, none] [.ref (43 + 3)] _ _ from ?_)
  refine zy_2 rfl rfl (show zyR _ _ _ _ [some (.ref (43 + 3)), some (.int x1), some (.int x2), some (.long x3), none, none] [.int x1, .ref (43 + 3)] _ _ from ?_)
  refine zy_2 rfl rfl (show zyR _ _ _ _ [some (.ref (43 + 3)), some (.int x1), some (.int x2), some (.long x3), none, none] [.int x2, .int x1, .ref (43 + 3)] _ _ from ?_)
  obtain ⟨p2, hp2, h⟩ := zy_bind h
  refine zy_5 (c := 43) (as := [.int x1, .int x2]) (rest := []) (L := [some (.ref (43 + 3)), some (.int x1), some (.int x2)]) (d' := 3) rfl rfl rfl (Nat.le_of_ble_eq_true rfl) (Nat.le_of_ble_eq_true rfl) rfl (Nat.le_of_ble_eq_true rfl) rfl rfl (zyC259 hp2) ?_
  show zyR _ _ _ _ [some (.ref (43 + 3)), some (.int x1), some (.int x2), some (.long x3), none, none] [.int p2.1] _ _
  refine zy_23 rfl rfl (show zyR _ _ _ _ [some (.ref (43 + 3)), some (.int x1), some (.int x2), some (.long x3), none, some (.int p2.1)] [] _ _ from ?_)
  refine zy_2 rfl rfl (show zyR _ _ _ _ [some (.ref (43 + 3)), some (.int x1), some (.int x2), some (.long x3), none, some (.int p2.1)] [.int p2.1] _ _ from ?_)
  refine zy_24_1 rfl (fun b6 => (show zyR _ _ _ _ [some (.ref (43 + 3)), some (.int x1), some (.int x2), some (.long x3), none, some (.int p2.1)] [] _ _ from ?_)) (fun b6 => (show zyR _ _ _ _ [some (.ref (43 + 3)), some (.int x1), some (.int x2), some (.long x3), none, some (.int p2.1)] [] _ _ from ?_))
  · replace h := zy_ifp h b6
    exact zy_sub (show zy_le [none, none, none, none, none, some (.int p2.1)] [some (.ref (43 + 3)), some (.int x1), some (.int x2), some (.long x3), none, some (.int p2.1)] from ⟨rfl, trivial⟩) (zyC258_37 h)
  · replace h := zy_ifn h b6
    refine zy_0 rfl rfl (show zyR _ _ _ _ [some (.ref (43 + 3)), some (.int x1), some (.int x2), some (.long x3), none, some (.int p2.1)] [.ref (43 + 3)] _ _ from ?_)
    refine zy_1r (c := 43) rfl rfl rfl (show zyR _ _ _ _ [some (.ref (43 + 3)), some (.int x1), some (.int x2), some (.long x3), none, some (.int p2.1)] [.ref (62 + 3)] _ _ from ?_)
    refine zy_3 rfl rfl (show zyR _ _ _ _ [some (.ref (43 + 3)), some (.int x1), some (.int x2), some (.long x3), none, some (.int p2.1)] [.int (60 : Int32), .ref (62 + 3)] _ _ from ?_)
    refine zy_2 rfl rfl (show zyR _ _ _ _ [some (.ref (43 + 3)), some (.int x1), some (.int x2), some (.long x3), none, some (.int p2.1)] [.int x1, .int (60 : Int32), .ref (62 + 3)] _ _ from ?_)
    refine zy_12 rfl (show zyR _ _ _ _ [some (.ref (43 + 3)), some (.int x1), some (.int x2), some (.long x3), none, some (.int p2.1)] [.int ((60 : Int32) * x1), .ref (62 + 3)] _ _ from ?_)
    refine zy_2 rfl rfl (show zyR _ _ _ _ [some (.ref (43 + 3)), some (.int x1), some (.int x2), some (.long x3), none, some (.int p2.1)] [.int x2, .int ((60 : Int32) * x1), .ref (62 + 3)] _ _ from ?_)
    refine zy_10 rfl (show zyR _ _ _ _ [some (.ref (43 + 3)), some (.int x1), some (.int x2), some (.long x3), none, some (.int p2.1)] [.int (((60 : Int32) * x1) + x2), .ref (62 + 3)] _ _ from ?_)
    refine zy_0 rfl rfl (show zyR _ _ _ _ [some (.ref (43 + 3)), some (.int x1), some (.int x2), some (.long x3), none, some (.int p2.1)] [.ref (43 + 3), .int (((60 : Int32) * x1) + x2), .ref (62 + 3)] _ _ from ?_)
    refine zy_1r (c := 43) rfl rfl rfl (show zyR _ _ _ _ [some (.ref (43 + 3)), some (.int x1), some (.int x2), some (.long x3), none, some (.int p2.1)] [.ref (60 + 3), .int (((60 : Int32) * x1) + x2), .ref (62 + 3)] _ _ from ?_)
    refine zy_2 rfl rfl (show zyR _ _ _ _ [some (.ref (43 + 3)), some (.int x1), some (.int x2), some (.long x3), none, some (.int p2.1)] [.int x1, .ref (60 + 3), .int (((60 : Int32) * x1) + x2), .ref (62 + 3)] _ _ from ?_)
    obtain ⟨c3, h⟩ := zy_if h
    refine zy_26 (c := 60) rfl rfl c3 (show zyR _ _ _ _ [some (.ref (43 + 3)), some (.int x1), some (.int x2), some (.long x3), none, some (.int p2.1)] [.int (p2.2.1 60 (x1).toNatClampNeg), .int (((60 : Int32) * x1) + x2), .ref (62 + 3)] _ _ from ?_)
    refine zy_3 rfl rfl (show zyR _ _ _ _ [some (.ref (43 + 3)), some (.int x1), some (.int x2), some (.long x3), none, some (.int p2.1)] [.int (50 : Int32), .int (p2.2.1 60 (x1).toNatClampNeg), .int (((60 : Int32) * x1) + x2), .ref (62 + 3)] _ _ from ?_)
    refine zy_11 rfl (show zyR _ _ _ _ [some (.ref (43 + 3)), some (.int x1), some (.int x2), some (.long x3), none, some (.int p2.1)] [.int ((p2.2.1 60 (x1).toNatClampNeg) - (50 : Int32)), .int (((60 : Int32) * x1) + x2), .ref (62 + 3)] _ _ from ?_)
    refine zy_37 rfl rfl (show zyR _ _ _ _ [some (.ref (43 + 3)), some (.int x1), some (.int x2), some (.long x3), none, some (.int p2.1)] [.long x3, .int ((p2.2.1 60 (x1).toNatClampNeg) - (50 : Int32)), .int (((60 : Int32) * x1) + x2), .ref (62 + 3)] _ _ from ?_)
    obtain ⟨p4, hp4, h⟩ := zy_bind h
    refine zy_60 (as := [.int ((p2.2.1 60 (x1).toNatClampNeg) - (50 : Int32)), .long x3]) (rest := [.int (((60 : Int32) * x1) + x2), .ref (62 + 3)]) (L := [some (.int ((p2.2.1 60 (x1).toNatClampNeg) - (50 : Int32))), some (.long x3), none]) (d' := 1) rfl rfl (Nat.le_of_ble_eq_true rfl) (Nat.le_of_ble_eq_true rfl) rfl (Nat.le_of_ble_eq_true rfl) rfl rfl (zyC260 hp4) ?_
    show zyR _ _ _ _ [some (.ref (43 + 3)), some (.int x1), some (.int x2), some (.long x3), none, some (.int p2.1)] [.long p4.1, .int (((60 : Int32) * x1) + x2), .ref (62 + 3)] _ _
    obtain ⟨c5, h⟩ := zy_if h
    refine zy_31 (c := 62) rfl rfl c5 (show zyR _ _ _ _ [some (.ref (43 + 3)), some (.int x1), some (.int x2), some (.long x3), none, some (.int p2.1)] [] _ _ from ?_)
    exact zy_sub (show zy_le [none, none, none, none, none, some (.int p2.1)] [some (.ref (43 + 3)), some (.int x1), some (.int x2), some (.long x3), none, some (.int p2.1)] from ⟨rfl, trivial⟩) (zyC258_37 h)
/-! NineOpinionsModel.shift(IIIII)I -/
noncomputable def zyF262_150b  (k150 : Int32 → Int32 → Int32 → Int32 → zy_S → Option (Int32 × zy_S)) (x3 : Int32) (x4 : Int32) (x5 : Int32) (x6 : Int32) (s : zy_S) : Option (Int32 × zy_S) :=
if x5 ≤ x6 then
some (x5, s)
else
if zy_in x6 60 then
if zy_in ((((60 : Int32) * x3) + x4) + x6) 360 then
k150 x3 x4 x5 (x6 + (1 : Int32)) (zy_uj s 62 (((((60 : Int32) * x3) + x4) + x6)).toNatClampNeg (s.2.1 63 (x6).toNatClampNeg))
else none
else none
theorem zyC262_150b {X : zx_X}  {k150 : Int32 → Int32 → Int32 → Int32 → zy_S → Option (Int32 × zy_S)}  (hk150 : ∀ (x3 : Int32) (x4 : Int32) (x5 : Int32) (x6 : Int32) (s : zy_S) (r : Int32) (s' : zy_S), k150 x3 x4 x5 x6 s = some (r, s') → zyR X 3 262 150 [some (.ref (43 + 3)), none, none, some (.int x3), some (.int x4), some (.int x5), some (.int x6)] [] s (zyE (some (.int r)) s')) {x3 : Int32} {x4 : Int32} {x5 : Int32} {x6 : Int32} {s : zy_S} {r : Int32} {s' : zy_S}  (h : zyF262_150b k150 x3 x4 x5 x6 s = some (r, s')) : zyR X 3 262 150 [some (.ref (43 + 3)), none, none, some (.int x3), some (.int x4), some (.int x5), some (.int x6)] [] s (zyE (some (.int r)) s') := by
  unfold zyF262_150b at h
  refine zy_2 rfl rfl (show zyR _ _ _ _ [some (.ref (43 + 3)), none, none, some (.int x3), some (.int x4), some (.int x5), some (.int x6)] [.int x6] _ _ from ?_)
  refine zy_2 rfl rfl (show zyR _ _ _ _ [some (.ref (43 + 3)), none, none, some (.int x3), some (.int x4), some (.int x5), some (.int x6)] [.int x5, .int x6] _ _ from ?_)
  refine zy_25_3 rfl (fun b3 => (show zyR _ _ _ _ [some (.ref (43 + 3)), none, none, some (.int x3), some (.int x4), some (.int x5), some (.int x6)] [] _ _ from ?_)) (fun b3 => (show zyR _ _ _ _ [some (.ref (43 + 3)), none, none, some (.int x3), some (.int x4), some (.int x5), some (.int x6)] [] _ _ from ?_))
  · replace h := zy_ifp h b3
    refine zy_2 rfl rfl (show zyR _ _ _ _ [some (.ref (43 + 3)), none, none, some (.int x3), some (.int x4), some (.int x5), some (.int x6)] [.int x5] _ _ from ?_)
    obtain ⟨rfl, rfl⟩ := zy_pi h
    exact zy_4 rfl ⟨rfl, rfl⟩
  · replace h := zy_ifn h b3
    refine zy_0 rfl rfl (show zyR _ _ _ _ [some (.ref (43 + 3)), none, none, some (.int x3), some (.int x4), some (.int x5), some (.int x6)] [.ref (43 + 3)] _ _ from ?_)
    refine zy_1r (c := 43) rfl rfl rfl (show zyR _ _ _ _ [some (.ref (43 + 3)), none, none, some (.int x3), some (.int x4), some (.int x5), some (.int x6)] [.ref (62 + 3)] _ _ from ?_)
    refine zy_3 rfl rfl (show zyR _ _ _ _ [some (.ref (43 + 3)), none, none, some (.int x3), some (.int x4), some (.int x5), some (.int x6)] [.int (60 : Int32), .ref (62 + 3)] _ _ from ?_)
    refine zy_2 rfl rfl (show zyR _ _ _ _ [some (.ref (43 + 3)), none, none, some (.int x3), some (.int x4), some (.int x5), some (.int x6)] [.int x3, .int (60 : Int32), .ref (62 + 3)] _ _ from ?_)
    refine zy_12 rfl (show zyR _ _ _ _ [some (.ref (43 + 3)), none, none, some (.int x3), some (.int x4), some (.int x5), some (.int x6)] [.int ((60 : Int32) * x3), .ref (62 + 3)] _ _ from ?_)
    refine zy_2 rfl rfl (show zyR _ _ _ _ [some (.ref (43 + 3)), none, none, some (.int x3), some (.int x4), some (.int x5), some (.int x6)] [.int x4, .int ((60 : Int32) * x3), .ref (62 + 3)] _ _ from ?_)
    refine zy_10 rfl (show zyR _ _ _ _ [some (.ref (43 + 3)), none, none, some (.int x3), some (.int x4), some (.int x5), some (.int x6)] [.int (((60 : Int32) * x3) + x4), .ref (62 + 3)] _ _ from ?_)
    refine zy_2 rfl rfl (show zyR _ _ _ _ [some (.ref (43 + 3)), none, none, some (.int x3), some (.int x4), some (.int x5), some (.int x6)] [.int x6, .int (((60 : Int32) * x3) + x4), .ref (62 + 3)] _ _ from ?_)
    refine zy_10 rfl (show zyR _ _ _ _ [some (.ref (43 + 3)), none, none, some (.int x3), some (.int x4), some (.int x5), some (.int x6)] [.int ((((60 : Int32) * x3) + x4) + x6), .ref (62 + 3)] _ _ from ?_)
    refine zy_0 rfl rfl (show zyR _ _ _ _ [some (.ref (43 + 3)), none, none, some (.int x3), some (.int x4), some (.int x5), some (.int x6)] [.ref (43 + 3), .int ((((60 : Int32) * x3) + x4) + x6), .ref (62 + 3)] _ _ from ?_)
    refine zy_1r (c := 43) rfl rfl rfl (show zyR _ _ _ _ [some (.ref (43 + 3)), none, none, some (.int x3), some (.int x4), some (.int x5), some (.int x6)] [.ref (63 + 3), .int ((((60 : Int32) * x3) + x4) + x6), .ref (62 + 3)] _ _ from ?_)
    refine zy_2 rfl rfl (show zyR _ _ _ _ [some (.ref (43 + 3)), none, none, some (.int x3), some (.int x4), some (.int x5), some (.int x6)] [.int x6, .ref (63 + 3), .int ((((60 : Int32) * x3) + x4) + x6), .ref (62 + 3)] _ _ from ?_)
    obtain ⟨c1, h⟩ := zy_if h
    refine zy_30 (c := 63) rfl rfl c1 (show zyR _ _ _ _ [some (.ref (43 + 3)), none, none, some (.int x3), some (.int x4), some (.int x5), some (.int x6)] [.long (s.2.1 63 (x6).toNatClampNeg), .int ((((60 : Int32) * x3) + x4) + x6), .ref (62 + 3)] _ _ from ?_)
    obtain ⟨c2, h⟩ := zy_if h
    refine zy_31 (c := 62) rfl rfl c2 (show zyR _ _ _ _ [some (.ref (43 + 3)), none, none, some (.int x3), some (.int x4), some (.int x5), some (.int x6)] [] _ _ from ?_)
    refine zy_22 rfl rfl rfl rfl (show zyR _ _ _ _ [some (.ref (43 + 3)), none, none, some (.int x3), some (.int x4), some (.int x5), some (.int (x6 + (1 : Int32)))] [] _ _ from ?_)
    refine zy_6 rfl (show zyR _ _ _ _ [some (.ref (43 + 3)), none, none, some (.int x3), some (.int x4), some (.int x5), some (.int (x6 + (1 : Int32)))] [] _ _ from ?_)
    exact zy_sub (show zy_le [some (.ref (43 + 3)), none, none, some (.int x3), some (.int x4), some (.int x5), some (.int (x6 + (1 : Int32)))] [some (.ref (43 + 3)), none, none, some (.int x3), some (.int x4), some (.int x5), some (.int (x6 + (1 : Int32)))] from ⟨rfl, ⟨rfl, ⟨rfl, ⟨rfl, ⟨rfl, trivial⟩⟩⟩⟩⟩) (hk150 x3 x4 x5 (x6 + (1 : Int32)) (zy_uj s 62 (((((60 : Int32) * x3) + x4) + x6)).toNatClampNeg (s.2.1 63 (x6).toNatClampNeg)) _ _ h)
noncomputable def zyF262_150   (n : Nat) : Int32 → Int32 → Int32 → Int32 → zy_S → Option (Int32 × zy_S) := Nat.rec (fun _ _ _ _ _ => none) (fun _ k150 => zyF262_150b k150) n
theorem zyC262_150 {X : zx_X}     : ∀ (n : Nat) (x3 : Int32) (x4 : Int32) (x5 : Int32) (x6 : Int32) (s : zy_S) (r : Int32) (s' : zy_S), zyF262_150 n x3 x4 x5 x6 s = some (r, s') → zyR X 3 262 150 [some (.ref (43 + 3)), none, none, some (.int x3), some (.int x4), some (.int x5), some (.int x6)] [] s (zyE (some (.int r)) s')
  | 0, _, _, _, _ => by
    intro s r s'  h
    have h : (none : Option (Int32 × zy_S)) = some (r, s') := h
    cases h
  | n + 1, x3, x4, x5, x6 => by
    intro s r s'  h
    exact zyC262_150b (k150 := zyF262_150 n) (fun x3 x4 x5 x6 s r s'  h => zyC262_150  n x3 x4 x5 x6 s r s'  h) h
noncomputable def zyF262_113b  (k113 : Int32 → Int32 → Int32 → Int32 → Int32 → Int32 → zy_S → Option (Int32 × zy_S)) (x1 : Int32) (x2 : Int32) (x3 : Int32) (x4 : Int32) (x5 : Int32) (x6 : Int32) (s : zy_S) : Option (Int32 × zy_S) :=
if x5 ≤ x6 then
zyF262_150 zy_fu x3 x4 x5 (0 : Int32) s
else
if zy_in ((((60 : Int32) * x1) + x2) + x6) 360 then
if zy_in x6 60 then
k113 x1 x2 x3 x4 x5 (x6 + (1 : Int32)) (zy_uj s 63 (x6).toNatClampNeg (s.2.1 62 (((((60 : Int32) * x1) + x2) + x6)).toNatClampNeg))
else none
else none
theorem zyC262_113b {X : zx_X}  {k113 : Int32 → Int32 → Int32 → Int32 → Int32 → Int32 → zy_S → Option (Int32 × zy_S)}  (hk113 : ∀ (x1 : Int32) (x2 : Int32) (x3 : Int32) (x4 : Int32) (x5 : Int32) (x6 : Int32) (s : zy_S) (r : Int32) (s' : zy_S), k113 x1 x2 x3 x4 x5 x6 s = some (r, s') → zyR X 3 262 113 [some (.ref (43 + 3)), some (.int x1), some (.int x2), some (.int x3), some (.int x4), some (.int x5), some (.int x6)] [] s (zyE (some (.int r)) s')) {x1 : Int32} {x2 : Int32} {x3 : Int32} {x4 : Int32} {x5 : Int32} {x6 : Int32} {s : zy_S} {r : Int32} {s' : zy_S}  (h : zyF262_113b k113 x1 x2 x3 x4 x5 x6 s = some (r, s')) : zyR X 3 262 113 [some (.ref (43 + 3)), some (.int x1), some (.int x2), some (.int x3), some (.int x4), some (.int x5), some (.int x6)] [] s (zyE (some (.int r)) s') := by
  unfold zyF262_113b at h
  refine zy_2 rfl rfl (show zyR _ _ _ _ [some (.ref (43 + 3)), some (.int x1), some (.int x2), some (.int x3), some (.int x4), some (.int x5), some (.int x6)] [.int x6] _ _ from ?_)
  refine zy_2 rfl rfl (show zyR _ _ _ _ [some (.ref (43 + 3)), some (.int x1), some (.int x2), some (.int x3), some (.int x4), some (.int x5), some (.int x6)] [.int x5, .int x6] _ _ from ?_)
  refine zy_25_3 rfl (fun b6 => (show zyR _ _ _ _ [some (.ref (43 + 3)), some (.int x1), some (.int x2), some (.int x3), some (.int x4), some (.int x5), some (.int x6)] [] _ _ from ?_)) (fun b6 => (show zyR _ _ _ _ [some (.ref (43 + 3)), some (.int x1), some (.int x2), some (.int x3), some (.int x4), some (.int x5), some (.int x6)] [] _ _ from ?_))
  · replace h := zy_ifp h b6
    refine zy_3 rfl rfl (show zyR _ _ _ _ [some (.ref (43 + 3)), some (.int x1), some (.int x2), some (.int x3), some (.int x4), some (.int x5), some (.int x6)] [.int (0 : Int32)] _ _ from ?_)
    refine zy_23 rfl rfl (show zyR _ _ _ _ [some (.ref (43 + 3)), some (.int x1), some (.int x2), some (.int x3), some (.int x4), some (.int x5), some (.int (0 : Int32))] [] _ _ from ?_)
    exact zy_sub (show zy_le [some (.ref (43 + 3)), none, none, some (.int x3), some (.int x4), some (.int x5), some (.int (0 : Int32))] [some (.ref (43 + 3)), some (.int x1), some (.int x2), some (.int x3), some (.int x4), some (.int x5), some (.int (0 : Int32))] from ⟨rfl, ⟨rfl, ⟨rfl, ⟨rfl, ⟨rfl, trivial⟩⟩⟩⟩⟩) (zyC262_150 zy_fu x3 x4 x5 (0 : Int32) s _ _ h)
  · replace h := zy_ifn h b6
    refine zy_0 rfl rfl (show zyR _ _ _ _ [some (.ref (43 + 3)), some (.int x1), some (.int x2), some (.int x3), some (.int x4), some (.int x5), some (.int x6)] [.ref (43 + 3)] _ _ from ?_)
    refine zy_1r (c := 43) rfl rfl rfl (show zyR _ _ _ _ [some (.ref (43 + 3)), some (.int x1), some (.int x2), some (.int x3), some (.int x4), some (.int x5), some (.int x6)] [.ref (63 + 3)] _ _ from ?_)
    refine zy_2 rfl rfl (show zyR _ _ _ _ [some (.ref (43 + 3)), some (.int x1), some (.int x2), some (.int x3), some (.int x4), some (.int x5), some (.int x6)] [.int x6, .ref (63 + 3)] _ _ from ?_)
    refine zy_0 rfl rfl (show zyR _ _ _ _ [some (.ref (43 + 3)), some (.int x1), some (.int x2), some (.int x3), some (.int x4), some (.int x5), some (.int x6)] [.ref (43 + 3), .int x6, .ref (63 + 3)] _ _ from ?_)
    refine zy_1r (c := 43) rfl rfl rfl (show zyR _ _ _ _ [some (.ref (43 + 3)), some (.int x1), some (.int x2), some (.int x3), some (.int x4), some (.int x5), some (.int x6)] [.ref (62 + 3), .int x6, .ref (63 + 3)] _ _ from ?_)
    refine zy_3 rfl rfl (show zyR _ _ _ _ [some (.ref (43 + 3)), some (.int x1), some (.int x2), some (.int x3), some (.int x4), some (.int x5), some (.int x6)] [.int (60 : Int32), .ref (62 + 3), .int x6, .ref (63 + 3)] _ _ from ?_)
    refine zy_2 rfl rfl (show zyR _ _ _ _ [some (.ref (43 + 3)), some (.int x1), some (.int x2), some (.int x3), some (.int x4), some (.int x5), some (.int x6)] [.int x1, .int (60 : Int32), .ref (62 + 3), .int x6, .ref (63 + 3)] _ _ from ?_)
    refine zy_12 rfl (show zyR _ _ _ _ [some (.ref (43 + 3)), some (.int x1), some (.int x2), some (.int x3), some (.int x4), some (.int x5), some (.int x6)] [.int ((60 : Int32) * x1), .ref (62 + 3), .int x6, .ref (63 + 3)] _ _ from ?_)
    refine zy_2 rfl rfl (show zyR _ _ _ _ [some (.ref (43 + 3)), some (.int x1), some (.int x2), some (.int x3), some (.int x4), some (.int x5), some (.int x6)] [.int x2, .int ((60 : Int32) * x1), .ref (62 + 3), .int x6, .ref (63 + 3)] _ _ from ?_)
    refine zy_10 rfl (show zyR _ _ _ _ [some (.ref (43 + 3)), some (.int x1), some (.int x2), some (.int x3), some (.int x4), some (.int x5), some (.int x6)] [.int (((60 : Int32) * x1) + x2), .ref (62 + 3), .int x6, .ref (63 + 3)] _ _ from ?_)
    refine zy_2 rfl rfl (show zyR _ _ _ _ [some (.ref (43 + 3)), some (.int x1), some (.int x2), some (.int x3), some (.int x4), some (.int x5), some (.int x6)] [.int x6, .int (((60 : Int32) * x1) + x2), .ref (62 + 3), .int x6, .ref (63 + 3)] _ _ from ?_)
    refine zy_10 rfl (show zyR _ _ _ _ [some (.ref (43 + 3)), some (.int x1), some (.int x2), some (.int x3), some (.int x4), some (.int x5), some (.int x6)] [.int ((((60 : Int32) * x1) + x2) + x6), .ref (62 + 3), .int x6, .ref (63 + 3)] _ _ from ?_)
    obtain ⟨c4, h⟩ := zy_if h
    refine zy_30 (c := 62) rfl rfl c4 (show zyR _ _ _ _ [some (.ref (43 + 3)), some (.int x1), some (.int x2), some (.int x3), some (.int x4), some (.int x5), some (.int x6)] [.long (s.2.1 62 (((((60 : Int32) * x1) + x2) + x6)).toNatClampNeg), .int x6, .ref (63 + 3)] _ _ from ?_)
    obtain ⟨c5, h⟩ := zy_if h
    refine zy_31 (c := 63) rfl rfl c5 (show zyR _ _ _ _ [some (.ref (43 + 3)), some (.int x1), some (.int x2), some (.int x3), some (.int x4), some (.int x5), some (.int x6)] [] _ _ from ?_)
    refine zy_22 rfl rfl rfl rfl (show zyR _ _ _ _ [some (.ref (43 + 3)), some (.int x1), some (.int x2), some (.int x3), some (.int x4), some (.int x5), some (.int (x6 + (1 : Int32)))] [] _ _ from ?_)
    refine zy_6 rfl (show zyR _ _ _ _ [some (.ref (43 + 3)), some (.int x1), some (.int x2), some (.int x3), some (.int x4), some (.int x5), some (.int (x6 + (1 : Int32)))] [] _ _ from ?_)
    exact zy_sub (show zy_le [some (.ref (43 + 3)), some (.int x1), some (.int x2), some (.int x3), some (.int x4), some (.int x5), some (.int (x6 + (1 : Int32)))] [some (.ref (43 + 3)), some (.int x1), some (.int x2), some (.int x3), some (.int x4), some (.int x5), some (.int (x6 + (1 : Int32)))] from ⟨rfl, ⟨rfl, ⟨rfl, ⟨rfl, ⟨rfl, ⟨rfl, ⟨rfl, trivial⟩⟩⟩⟩⟩⟩⟩) (hk113 x1 x2 x3 x4 x5 (x6 + (1 : Int32)) (zy_uj s 63 (x6).toNatClampNeg (s.2.1 62 (((((60 : Int32) * x1) + x2) + x6)).toNatClampNeg)) _ _ h)
noncomputable def zyF262_113   (n : Nat) : Int32 → Int32 → Int32 → Int32 → Int32 → Int32 → zy_S → Option (Int32 × zy_S) := Nat.rec (fun _ _ _ _ _ _ _ => none) (fun _ k113 => zyF262_113b k113) n
theorem zyC262_113 {X : zx_X}     : ∀ (n : Nat) (x1 : Int32) (x2 : Int32) (x3 : Int32) (x4 : Int32) (x5 : Int32) (x6 : Int32) (s : zy_S) (r : Int32) (s' : zy_S), zyF262_113 n x1 x2 x3 x4 x5 x6 s = some (r, s') → zyR X 3 262 113 [some (.ref (43 + 3)), some (.int x1), some (.int x2), some (.int x3), some (.int x4), some (.int x5), some (.int x6)] [] s (zyE (some (.int r)) s')
  | 0, _, _, _, _, _, _ => by
    intro s r s'  h
    have h : (none : Option (Int32 × zy_S)) = some (r, s') := h
    cases h
  | n + 1, x1, x2, x3, x4, x5, x6 => by
    intro s r s'  h
    exact zyC262_113b (k113 := zyF262_113 n) (fun x1 x2 x3 x4 x5 x6 s r s'  h => zyC262_113  n x1 x2 x3 x4 x5 x6 s r s'  h) h
noncomputable def zyF262   (x1 : Int32) (x2 : Int32) (x3 : Int32) (x4 : Int32) (x5 : Int32) (s : zy_S) : Option (Int32 × zy_S) :=
(zyF182 x1 s).bind fun p7 =>
if p7.1 = 0 then
some ((-1 : Int32), p7.2)
else
(zyF182 x3 p7.2).bind fun p8 =>
if p8.1 ≠ 0 then
if zy_in x1 6 then
if (p8.2.1 60 (x1).toNatClampNeg) < 0 then
some ((-11 : Int32), p8.2)
else
if zy_in x3 6 then
if 0 ≤ (p8.2.1 60 (x3).toNatClampNeg) then
if zy_in x1 6 then
if (p8.2.1 60 (x1).toNatClampNeg) < (50 : Int32) then
some ((-12 : Int32), p8.2)
else
if zy_in x1 6 then
if zy_in x3 6 then
if (p8.2.1 60 (x1).toNatClampNeg) = (p8.2.1 60 (x3).toNatClampNeg) then
if x5 < 0 then
some ((-13 : Int32), p8.2)
else
if x2 < 0 then
some ((-13 : Int32), p8.2)
else
if x4 < 0 then
some ((-13 : Int32), p8.2)
else
if zy_in x1 6 then
if ((p8.2.1 61 (x1).toNatClampNeg) - x5) < x2 then
some ((-13 : Int32), p8.2)
else
if zy_in x3 6 then
if x4 ≤ ((p8.2.1 61 (x3).toNatClampNeg) - x5) then
zyF262_113 zy_fu x1 x2 x3 x4 x5 (0 : Int32) p8.2
else
some ((-13 : Int32), p8.2)
else none
else none
else
some ((-12 : Int32), p8.2)
else none
else none
else none
else
some ((-11 : Int32), p8.2)
else none
else none
else
some ((-1 : Int32), p8.2)
theorem zyC262 {X : zx_X}     {x1 : Int32} {x2 : Int32} {x3 : Int32} {x4 : Int32} {x5 : Int32} {s : zy_S} {r : Int32} {s' : zy_S}  (h : zyF262 x1 x2 x3 x4 x5 s = some (r, s')) : zyR X 3 262 0 [some (.ref (43 + 3)), some (.int x1), some (.int x2), some (.int x3), some (.int x4), some (.int x5), none] [] s (zyE (some (.int r)) s') := by
  unfold zyF262 at h
  refine zy_2 rfl rfl (show zyR _ _ _ _ [some (.ref (43 + 3)), some (.int x1), some (.int x2), some (.int x3), some (.int x4), some (.int x5), none] [.int x1] _ _ from ?_)
  obtain ⟨p7, hp7, h⟩ := zy_bind h
  refine zy_60 (as := [.int x1]) (rest := []) (L := [some (.int x1)]) (d' := 2) rfl rfl (Nat.le_of_ble_eq_true rfl) (Nat.le_of_ble_eq_true rfl) rfl (Nat.le_of_ble_eq_true rfl) rfl rfl (zyC182 hp7) ?_
  show zyR _ _ _ _ [some (.ref (43 + 3)), some (.int x1), some (.int x2), some (.int x3), some (.int x4), some (.int x5), none] [.int p7.1] _ _
  refine zy_24_0 rfl (fun b26 => (show zyR _ _ _ _ [some (.ref (43 + 3)), some (.int x1), some (.int x2), some (.int x3), some (.int x4), some (.int x5), none] [] _ _ from ?_)) (fun b26 => (show zyR _ _ _ _ [some (.ref (43 + 3)), some (.int x1), some (.int x2), some (.int x3), some (.int x4), some (.int x5), none] [] _ _ from ?_))
  · replace h := zy_ifp h b26
    refine zy_3 rfl rfl (show zyR _ _ _ _ [some (.ref (43 + 3)), some (.int x1), some (.int x2), some (.int x3), some (.int x4), some (.int x5), none] [.int (-1 : Int32)] _ _ from ?_)
    obtain ⟨rfl, rfl⟩ := zy_pi h
    exact zy_4 rfl ⟨rfl, rfl⟩
  · replace h := zy_ifn h b26
    refine zy_2 rfl rfl (show zyR _ _ _ _ [some (.ref (43 + 3)), some (.int x1), some (.int x2), some (.int x3), some (.int x4), some (.int x5), none] [.int x3] _ _ from ?_)
    obtain ⟨p8, hp8, h⟩ := zy_bind h
    refine zy_60 (as := [.int x3]) (rest := []) (L := [some (.int x3)]) (d' := 2) rfl rfl (Nat.le_of_ble_eq_true rfl) (Nat.le_of_ble_eq_true rfl) rfl (Nat.le_of_ble_eq_true rfl) rfl rfl (zyC182 hp8) ?_
    show zyR _ _ _ _ [some (.ref (43 + 3)), some (.int x1), some (.int x2), some (.int x3), some (.int x4), some (.int x5), none] [.int p8.1] _ _
    refine zy_24_1 rfl (fun b25 => (show zyR _ _ _ _ [some (.ref (43 + 3)), some (.int x1), some (.int x2), some (.int x3), some (.int x4), some (.int x5), none] [] _ _ from ?_)) (fun b25 => (show zyR _ _ _ _ [some (.ref (43 + 3)), some (.int x1), some (.int x2), some (.int x3), some (.int x4), some (.int x5), none] [] _ _ from ?_))
    · replace h := zy_ifp h b25
      refine zy_0 rfl rfl (show zyR _ _ _ _ [some (.ref (43 + 3)), some (.int x1), some (.int x2), some (.int x3), some (.int x4), some (.int x5), none] [.ref (43 + 3)] _ _ from ?_)
      refine zy_1r (c := 43) rfl rfl rfl (show zyR _ _ _ _ [some (.ref (43 + 3)), some (.int x1), some (.int x2), some (.int x3), some (.int x4), some (.int x5), none] [.ref (60 + 3)] _ _ from ?_)
      refine zy_2 rfl rfl (show zyR _ _ _ _ [some (.ref (43 + 3)), some (.int x1), some (.int x2), some (.int x3), some (.int x4), some (.int x5), none] [.int x1, .ref (60 + 3)] _ _ from ?_)
      obtain ⟨c9, h⟩ := zy_if h
      refine zy_26 (c := 60) rfl rfl c9 (show zyR _ _ _ _ [some (.ref (43 + 3)), some (.int x1), some (.int x2), some (.int x3), some (.int x4), some (.int x5), none] [.int (p8.2.1 60 (x1).toNatClampNeg)] _ _ from ?_)
      refine zy_24_2 rfl (fun b24 => (show zyR _ _ _ _ [some (.ref (43 + 3)), some (.int x1), some (.int x2), some (.int x3), some (.int x4), some (.int x5), none] [] _ _ from ?_)) (fun b24 => (show zyR _ _ _ _ [some (.ref (43 + 3)), some (.int x1), some (.int x2), some (.int x3), some (.int x4), some (.int x5), none] [] _ _ from ?_))
      · replace h := zy_ifp h b24
        refine zy_3 rfl rfl (show zyR _ _ _ _ [some (.ref (43 + 3)), some (.int x1), some (.int x2), some (.int x3), some (.int x4), some (.int x5), none] [.int (-11 : Int32)] _ _ from ?_)
        obtain ⟨rfl, rfl⟩ := zy_pi h
        exact zy_4 rfl ⟨rfl, rfl⟩
      · replace h := zy_ifn h b24
        refine zy_0 rfl rfl (show zyR _ _ _ _ [some (.ref (43 + 3)), some (.int x1), some (.int x2), some (.int x3), some (.int x4), some (.int x5), none] [.ref (43 + 3)] _ _ from ?_)
        refine zy_1r (c := 43) rfl rfl rfl (show zyR _ _ _ _ [some (.ref (43 + 3)), some (.int x1), some (.int x2), some (.int x3), some (.int x4), some (.int x5), none] [.ref (60 + 3)] _ _ from ?_)
        refine zy_2 rfl rfl (show zyR _ _ _ _ [some (.ref (43 + 3)), some (.int x1), some (.int x2), some (.int x3), some (.int x4), some (.int x5), none] [.int x3, .ref (60 + 3)] _ _ from ?_)
        obtain ⟨c10, h⟩ := zy_if h
        refine zy_26 (c := 60) rfl rfl c10 (show zyR _ _ _ _ [some (.ref (43 + 3)), some (.int x1), some (.int x2), some (.int x3), some (.int x4), some (.int x5), none] [.int (p8.2.1 60 (x3).toNatClampNeg)] _ _ from ?_)
        refine zy_24_3 rfl (fun b23 => (show zyR _ _ _ _ [some (.ref (43 + 3)), some (.int x1), some (.int x2), some (.int x3), some (.int x4), some (.int x5), none] [] _ _ from ?_)) (fun b23 => (show zyR _ _ _ _ [some (.ref (43 + 3)), some (.int x1), some (.int x2), some (.int x3), some (.int x4), some (.int x5), none] [] _ _ from ?_))
        · replace h := zy_ifp h b23
          refine zy_0 rfl rfl (show zyR _ _ _ _ [some (.ref (43 + 3)), some (.int x1), some (.int x2), some (.int x3), some (.int x4), some (.int x5), none] [.ref (43 + 3)] _ _ from ?_)
          refine zy_1r (c := 43) rfl rfl rfl (show zyR _ _ _ _ [some (.ref (43 + 3)), some (.int x1), some (.int x2), some (.int x3), some (.int x4), some (.int x5), none] [.ref (60 + 3)] _ _ from ?_)
          refine zy_2 rfl rfl (show zyR _ _ _ _ [some (.ref (43 + 3)), some (.int x1), some (.int x2), some (.int x3), some (.int x4), some (.int x5), none] [.int x1, .ref (60 + 3)] _ _ from ?_)
          obtain ⟨c11, h⟩ := zy_if h
          refine zy_26 (c := 60) rfl rfl c11 (show zyR _ _ _ _ [some (.ref (43 + 3)), some (.int x1), some (.int x2), some (.int x3), some (.int x4), some (.int x5), none] [.int (p8.2.1 60 (x1).toNatClampNeg)] _ _ from ?_)
          refine zy_3 rfl rfl (show zyR _ _ _ _ [some (.ref (43 + 3)), some (.int x1), some (.int x2), some (.int x3), some (.int x4), some (.int x5), none] [.int (50 : Int32), .int (p8.2.1 60 (x1).toNatClampNeg)] _ _ from ?_)
          refine zy_25_2 rfl (fun b22 => (show zyR _ _ _ _ [some (.ref (43 + 3)), some (.int x1), some (.int x2), some (.int x3), some (.int x4), some (.int x5), none] [] _ _ from ?_)) (fun b22 => (show zyR _ _ _ _ [some (.ref (43 + 3)), some (.int x1), some (.int x2), some (.int x3), some (.int x4), some (.int x5), none] [] _ _ from ?_))
          · replace h := zy_ifp h b22
            refine zy_3 rfl rfl (show zyR _ _ _ _ [some (.ref (43 + 3)), some (.int x1), some (.int x2), some (.int x3), some (.int x4), some (.int x5), none] [.int (-12 : Int32)] _ _ from ?_)
            obtain ⟨rfl, rfl⟩ := zy_pi h
            exact zy_4 rfl ⟨rfl, rfl⟩
          · replace h := zy_ifn h b22
            refine zy_0 rfl rfl (show zyR _ _ _ _ [some (.ref (43 + 3)), some (.int x1), some (.int x2), some (.int x3), some (.int x4), some (.int x5), none] [.ref (43 + 3)] _ _ from ?_)
            refine zy_1r (c := 43) rfl rfl rfl (show zyR _ _ _ _ [some (.ref (43 + 3)), some (.int x1), some (.int x2), some (.int x3), some (.int x4), some (.int x5), none] [.ref (60 + 3)] _ _ from ?_)
            refine zy_2 rfl rfl (show zyR _ _ _ _ [some (.ref (43 + 3)), some (.int x1), some (.int x2), some (.int x3), some (.int x4), some (.int x5), none] [.int x1, .ref (60 + 3)] _ _ from ?_)
            obtain ⟨c12, h⟩ := zy_if h
            refine zy_26 (c := 60) rfl rfl c12 (show zyR _ _ _ _ [some (.ref (43 + 3)), some (.int x1), some (.int x2), some (.int x3), some (.int x4), some (.int x5), none] [.int (p8.2.1 60 (x1).toNatClampNeg)] _ _ from ?_)
            refine zy_0 rfl rfl (show zyR _ _ _ _ [some (.ref (43 + 3)), some (.int x1), some (.int x2), some (.int x3), some (.int x4), some (.int x5), none] [.ref (43 + 3), .int (p8.2.1 60 (x1).toNatClampNeg)] _ _ from ?_)
            refine zy_1r (c := 43) rfl rfl rfl (show zyR _ _ _ _ [some (.ref (43 + 3)), some (.int x1), some (.int x2), some (.int x3), some (.int x4), some (.int x5), none] [.ref (60 + 3), .int (p8.2.1 60 (x1).toNatClampNeg)] _ _ from ?_)
            refine zy_2 rfl rfl (show zyR _ _ _ _ [some (.ref (43 + 3)), some (.int x1), some (.int x2), some (.int x3), some (.int x4), some (.int x5), none] [.int x3, .ref (60 + 3), .int (p8.2.1 60 (x1).toNatClampNeg)] _ _ from ?_)
            obtain ⟨c13, h⟩ := zy_if h
            refine zy_26 (c := 60) rfl rfl c13 (show zyR _ _ _ _ [some (.ref (43 + 3)), some (.int x1), some (.int x2), some (.int x3), some (.int x4), some (.int x5), none] [.int (p8.2.1 60 (x3).toNatClampNeg), .int (p8.2.1 60 (x1).toNatClampNeg)] _ _ from ?_)
            refine zy_25_0 rfl (fun b21 => (show zyR _ _ _ _ [some (.ref (43 + 3)), some (.int x1), some (.int x2), some (.int x3), some (.int x4), some (.int x5), none] [] _ _ from ?_)) (fun b21 => (show zyR _ _ _ _ [some (.ref (43 + 3)), some (.int x1), some (.int x2), some (.int x3), some (.int x4), some (.int x5), none] [] _ _ from ?_))
            · replace h := zy_ifp h b21
              refine zy_2 rfl rfl (show zyR _ _ _ _ [some (.ref (43 + 3)), some (.int x1), some (.int x2), some (.int x3), some (.int x4), some (.int x5), none] [.int x5] _ _ from ?_)
              refine zy_24_2 rfl (fun b20 => (show zyR _ _ _ _ [some (.ref (43 + 3)), some (.int x1), some (.int x2), some (.int x3), some (.int x4), some (.int x5), none] [] _ _ from ?_)) (fun b20 => (show zyR _ _ _ _ [some (.ref (43 + 3)), some (.int x1), some (.int x2), some (.int x3), some (.int x4), some (.int x5), none] [] _ _ from ?_))
              · replace h := zy_ifp h b20
                refine zy_3 rfl rfl (show zyR _ _ _ _ [some (.ref (43 + 3)), some (.int x1), some (.int x2), some (.int x3), some (.int x4), some (.int x5), none] [.int (-13 : Int32)] _ _ from ?_)
                obtain ⟨rfl, rfl⟩ := zy_pi h
                exact zy_4 rfl ⟨rfl, rfl⟩
              · replace h := zy_ifn h b20
                refine zy_2 rfl rfl (show zyR _ _ _ _ [some (.ref (43 + 3)), some (.int x1), some (.int x2), some (.int x3), some (.int x4), some (.int x5), none] [.int x2] _ _ from ?_)
                refine zy_24_2 rfl (fun b19 => (show zyR _ _ _ _ [some (.ref (43 + 3)), some (.int x1), some (.int x2), some (.int x3), some (.int x4), some (.int x5), none] [] _ _ from ?_)) (fun b19 => (show zyR _ _ _ _ [some (.ref (43 + 3)), some (.int x1), some (.int x2), some (.int x3), some (.int x4), some (.int x5), none] [] _ _ from ?_))
                · replace h := zy_ifp h b19
                  refine zy_3 rfl rfl (show zyR _ _ _ _ [some (.ref (43 + 3)), some (.int x1), some (.int x2), some (.int x3), some (.int x4), some (.int x5), none] [.int (-13 : Int32)] _ _ from ?_)
                  obtain ⟨rfl, rfl⟩ := zy_pi h
                  exact zy_4 rfl ⟨rfl, rfl⟩
                · replace h := zy_ifn h b19
                  refine zy_2 rfl rfl (show zyR _ _ _ _ [some (.ref (43 + 3)), some (.int x1), some (.int x2), some (.int x3), some (.int x4), some (.int x5), none] [.int x4] _ _ from ?_)
                  refine zy_24_2 rfl (fun b18 => (show zyR _ _ _ _ [some (.ref (43 + 3)), some (.int x1), some (.int x2), some (.int x3), some (.int x4), some (.int x5), none] [] _ _ from ?_)) (fun b18 => (show zyR _ _ _ _ [some (.ref (43 + 3)), some (.int x1), some (.int x2), some (.int x3), some (.int x4), some (.int x5), none] [] _ _ from ?_))
                  · replace h := zy_ifp h b18
                    refine zy_3 rfl rfl (show zyR _ _ _ _ [some (.ref (43 + 3)), some (.int x1), some (.int x2), some (.int x3), some (.int x4), some (.int x5), none] [.int (-13 : Int32)] _ _ from ?_)
                    obtain ⟨rfl, rfl⟩ := zy_pi h
                    exact zy_4 rfl ⟨rfl, rfl⟩
                  · replace h := zy_ifn h b18
                    refine zy_2 rfl rfl (show zyR _ _ _ _ [some (.ref (43 + 3)), some (.int x1), some (.int x2), some (.int x3), some (.int x4), some (.int x5), none] [.int x2] _ _ from ?_)
                    refine zy_0 rfl rfl (show zyR _ _ _ _ [some (.ref (43 + 3)), some (.int x1), some (.int x2), some (.int x3), some (.int x4), some (.int x5), none] [.ref (43 + 3), .int x2] _ _ from ?_)
                    refine zy_1r (c := 43) rfl rfl rfl (show zyR _ _ _ _ [some (.ref (43 + 3)), some (.int x1), some (.int x2), some (.int x3), some (.int x4), some (.int x5), none] [.ref (61 + 3), .int x2] _ _ from ?_)
                    refine zy_2 rfl rfl (show zyR _ _ _ _ [some (.ref (43 + 3)), some (.int x1), some (.int x2), some (.int x3), some (.int x4), some (.int x5), none] [.int x1, .ref (61 + 3), .int x2] _ _ from ?_)
                    obtain ⟨c14, h⟩ := zy_if h
                    refine zy_26 (c := 61) rfl rfl c14 (show zyR _ _ _ _ [some (.ref (43 + 3)), some (.int x1), some (.int x2), some (.int x3), some (.int x4), some (.int x5), none] [.int (p8.2.1 61 (x1).toNatClampNeg), .int x2] _ _ from ?_)
                    refine zy_2 rfl rfl (show zyR _ _ _ _ [some (.ref (43 + 3)), some (.int x1), some (.int x2), some (.int x3), some (.int x4), some (.int x5), none] [.int x5, .int (p8.2.1 61 (x1).toNatClampNeg), .int x2] _ _ from ?_)
                    refine zy_11 rfl (show zyR _ _ _ _ [some (.ref (43 + 3)), some (.int x1), some (.int x2), some (.int x3), some (.int x4), some (.int x5), none] [.int ((p8.2.1 61 (x1).toNatClampNeg) - x5), .int x2] _ _ from ?_)
                    refine zy_25_4 rfl (fun b17 => (show zyR _ _ _ _ [some (.ref (43 + 3)), some (.int x1), some (.int x2), some (.int x3), some (.int x4), some (.int x5), none] [] _ _ from ?_)) (fun b17 => (show zyR _ _ _ _ [some (.ref (43 + 3)), some (.int x1), some (.int x2), some (.int x3), some (.int x4), some (.int x5), none] [] _ _ from ?_))
                    · replace h := zy_ifp h b17
                      refine zy_3 rfl rfl (show zyR _ _ _ _ [some (.ref (43 + 3)), some (.int x1), some (.int x2), some (.int x3), some (.int x4), some (.int x5), none] [.int (-13 : Int32)] _ _ from ?_)
                      obtain ⟨rfl, rfl⟩ := zy_pi h
                      exact zy_4 rfl ⟨rfl, rfl⟩
                    · replace h := zy_ifn h b17
                      refine zy_2 rfl rfl (show zyR _ _ _ _ [some (.ref (43 + 3)), some (.int x1), some (.int x2), some (.int x3), some (.int x4), some (.int x5), none] [.int x4] _ _ from ?_)
                      refine zy_0 rfl rfl (show zyR _ _ _ _ [some (.ref (43 + 3)), some (.int x1), some (.int x2), some (.int x3), some (.int x4), some (.int x5), none] [.ref (43 + 3), .int x4] _ _ from ?_)
                      refine zy_1r (c := 43) rfl rfl rfl (show zyR _ _ _ _ [some (.ref (43 + 3)), some (.int x1), some (.int x2), some (.int x3), some (.int x4), some (.int x5), none] [.ref (61 + 3), .int x4] _ _ from ?_)
                      refine zy_2 rfl rfl (show zyR _ _ _ _ [some (.ref (43 + 3)), some (.int x1), some (.int x2), some (.int x3), some (.int x4), some (.int x5), none] [.int x3, .ref (61 + 3), .int x4] _ _ from ?_)
                      obtain ⟨c15, h⟩ := zy_if h
                      refine zy_26 (c := 61) rfl rfl c15 (show zyR _ _ _ _ [some (.ref (43 + 3)), some (.int x1), some (.int x2), some (.int x3), some (.int x4), some (.int x5), none] [.int (p8.2.1 61 (x3).toNatClampNeg), .int x4] _ _ from ?_)
                      refine zy_2 rfl rfl (show zyR _ _ _ _ [some (.ref (43 + 3)), some (.int x1), some (.int x2), some (.int x3), some (.int x4), some (.int x5), none] [.int x5, .int (p8.2.1 61 (x3).toNatClampNeg), .int x4] _ _ from ?_)
                      refine zy_11 rfl (show zyR _ _ _ _ [some (.ref (43 + 3)), some (.int x1), some (.int x2), some (.int x3), some (.int x4), some (.int x5), none] [.int ((p8.2.1 61 (x3).toNatClampNeg) - x5), .int x4] _ _ from ?_)
                      refine zy_25_5 rfl (fun b16 => (show zyR _ _ _ _ [some (.ref (43 + 3)), some (.int x1), some (.int x2), some (.int x3), some (.int x4), some (.int x5), none] [] _ _ from ?_)) (fun b16 => (show zyR _ _ _ _ [some (.ref (43 + 3)), some (.int x1), some (.int x2), some (.int x3), some (.int x4), some (.int x5), none] [] _ _ from ?_))
                      · replace h := zy_ifp h b16
                        refine zy_3 rfl rfl (show zyR _ _ _ _ [some (.ref (43 + 3)), some (.int x1), some (.int x2), some (.int x3), some (.int x4), some (.int x5), none] [.int (0 : Int32)] _ _ from ?_)
                        refine zy_23 rfl rfl (show zyR _ _ _ _ [some (.ref (43 + 3)), some (.int x1), some (.int x2), some (.int x3), some (.int x4), some (.int x5), some (.int (0 : Int32))] [] _ _ from ?_)
                        exact zy_sub (show zy_le [some (.ref (43 + 3)), some (.int x1), some (.int x2), some (.int x3), some (.int x4), some (.int x5), some (.int (0 : Int32))] [some (.ref (43 + 3)), some (.int x1), some (.int x2), some (.int x3), some (.int x4), some (.int x5), some (.int (0 : Int32))] from ⟨rfl, ⟨rfl, ⟨rfl, ⟨rfl, ⟨rfl, ⟨rfl, ⟨rfl, trivial⟩⟩⟩⟩⟩⟩⟩) (zyC262_113 zy_fu x1 x2 x3 x4 x5 (0 : Int32) p8.2 _ _ h)
                      · replace h := zy_ifn h b16
                        refine zy_3 rfl rfl (show zyR _ _ _ _ [some (.ref (43 + 3)), some (.int x1), some (.int x2), some (.int x3), some (.int x4), some (.int x5), none] [.int (-13 : Int32)] _ _ from ?_)
                        obtain ⟨rfl, rfl⟩ := zy_pi h
                        exact zy_4 rfl ⟨rfl, rfl⟩
            · replace h := zy_ifn h b21
              refine zy_3 rfl rfl (show zyR _ _ _ _ [some (.ref (43 + 3)), some (.int x1), some (.int x2), some (.int x3), some (.int x4), some (.int x5), none] [.int (-12 : Int32)] _ _ from ?_)
              obtain ⟨rfl, rfl⟩ := zy_pi h
              exact zy_4 rfl ⟨rfl, rfl⟩
        · replace h := zy_ifn h b23
          refine zy_3 rfl rfl (show zyR _ _ _ _ [some (.ref (43 + 3)), some (.int x1), some (.int x2), some (.int x3), some (.int x4), some (.int x5), none] [.int (-11 : Int32)] _ _ from ?_)
          obtain ⟨rfl, rfl⟩ := zy_pi h
          exact zy_4 rfl ⟨rfl, rfl⟩
    · replace h := zy_ifn h b25
      refine zy_3 rfl rfl (show zyR _ _ _ _ [some (.ref (43 + 3)), some (.int x1), some (.int x2), some (.int x3), some (.int x4), some (.int x5), none] [.int (-1 : Int32)] _ _ from ?_)
      obtain ⟨rfl, rfl⟩ := zy_pi h
      exact zy_4 rfl ⟨rfl, rfl⟩
/-! NineOpinions.element(II)J -/
noncomputable def zyF170   (x1 : Int32) (x2 : Int32) (s : zy_S) : Option (Int64 × zy_S) :=
(zyF18 x1 s).bind fun p1 =>
if p1.1 = 0 then
some ((-9223372036854775808 : Int64), p1.2)
else
if zy_in x1 6 then
if zy_Wb p1.2 then
(zyF167 (zy_sh (x1).toNatClampNeg) x2 p1.2).bind fun p4 =>
if p4.1 ≠ 0 then
some ((-9223372036854775808 : Int64), p4.2)
else
if zy_in x1 6 then
if zy_Wb p4.2 then
if zy_in x2 60 then
some ((p4.2.2.1 ((zy_sh (x1).toNatClampNeg) + 1) (x2).toNatClampNeg), p4.2)
else none
else none
else none
else none
else none
theorem zyC170 {X : zx_X}     {x1 : Int32} {x2 : Int32} {s : zy_S} {r : Int64} {s' : zy_S}  (h : zyF170 x1 x2 s = some (r, s')) : zyR X 4 170 0 [some (.ref (0 + 3)), some (.int x1), some (.int x2)] [] s (zyE (some (.long r)) s') := by
  unfold zyF170 at h
  refine zy_2 rfl rfl (show zyR _ _ _ _ [some (.ref (0 + 3)), some (.int x1), some (.int x2)] [.int x1] _ _ from ?_)
  obtain ⟨p1, hp1, h⟩ := zy_bind h
  refine zy_60 (as := [.int x1]) (rest := []) (L := [some (.int x1)]) (d' := 1) rfl rfl (Nat.le_of_ble_eq_true rfl) (Nat.le_of_ble_eq_true rfl) rfl (Nat.le_of_ble_eq_true rfl) rfl rfl (zyC18 hp1) ?_
  show zyR _ _ _ _ [some (.ref (0 + 3)), some (.int x1), some (.int x2)] [.int p1.1] _ _
  refine zy_24_0 rfl (fun b9 => (show zyR _ _ _ _ [some (.ref (0 + 3)), some (.int x1), some (.int x2)] [] _ _ from ?_)) (fun b9 => (show zyR _ _ _ _ [some (.ref (0 + 3)), some (.int x1), some (.int x2)] [] _ _ from ?_))
  · replace h := zy_ifp h b9
    refine zy_36c rfl rfl (show zyR _ _ _ _ [some (.ref (0 + 3)), some (.int x1), some (.int x2)] [.long (-9223372036854775808 : Int64)] _ _ from ?_)
    cases h
    exact zy_65 rfl ⟨rfl, rfl⟩
  · replace h := zy_ifn h b9
    refine zy_0 rfl rfl (show zyR _ _ _ _ [some (.ref (0 + 3)), some (.int x1), some (.int x2)] [.ref (0 + 3)] _ _ from ?_)
    refine zy_1r (c := 0) rfl rfl rfl (show zyR _ _ _ _ [some (.ref (0 + 3)), some (.int x1), some (.int x2)] [.ref (30 + 3)] _ _ from ?_)
    refine zy_2 rfl rfl (show zyR _ _ _ _ [some (.ref (0 + 3)), some (.int x1), some (.int x2)] [.int x1, .ref (30 + 3)] _ _ from ?_)
    obtain ⟨c2, h⟩ := zy_if h
    obtain ⟨c3, h⟩ := zy_if h
    refine zy_28 rfl (zy_Wb_g c3) c2 (show zyR _ _ _ _ [some (.ref (0 + 3)), some (.int x1), some (.int x2)] [.ref ((zy_sh (x1).toNatClampNeg) + 3)] _ _ from ?_)
    refine zy_2 rfl rfl (show zyR _ _ _ _ [some (.ref (0 + 3)), some (.int x1), some (.int x2)] [.int x2, .ref ((zy_sh (x1).toNatClampNeg) + 3)] _ _ from ?_)
    obtain ⟨p4, hp4, h⟩ := zy_bind h
    refine zy_5 (c := (zy_sh (x1).toNatClampNeg)) (as := [.int x2]) (rest := []) (L := [some (.ref ((zy_sh (x1).toNatClampNeg) + 3)), some (.int x2)]) (d' := 3) rfl rfl (zy_isSh_of (zy_in_lt c2)).1 (Nat.le_of_ble_eq_true rfl) (Nat.le_of_ble_eq_true rfl) rfl (Nat.le_of_ble_eq_true rfl) rfl rfl (zyC167 (zy_isSh_of (zy_in_lt c2)) hp4) ?_
    show zyR _ _ _ _ [some (.ref (0 + 3)), some (.int x1), some (.int x2)] [.int p4.1] _ _
    refine zy_24_1 rfl (fun b8 => (show zyR _ _ _ _ [some (.ref (0 + 3)), some (.int x1), some (.int x2)] [] _ _ from ?_)) (fun b8 => (show zyR _ _ _ _ [some (.ref (0 + 3)), some (.int x1), some (.int x2)] [] _ _ from ?_))
    · replace h := zy_ifp h b8
      refine zy_36c rfl rfl (show zyR _ _ _ _ [some (.ref (0 + 3)), some (.int x1), some (.int x2)] [.long (-9223372036854775808 : Int64)] _ _ from ?_)
      cases h
      exact zy_65 rfl ⟨rfl, rfl⟩
    · replace h := zy_ifn h b8
      refine zy_0 rfl rfl (show zyR _ _ _ _ [some (.ref (0 + 3)), some (.int x1), some (.int x2)] [.ref (0 + 3)] _ _ from ?_)
      refine zy_1r (c := 0) rfl rfl rfl (show zyR _ _ _ _ [some (.ref (0 + 3)), some (.int x1), some (.int x2)] [.ref (30 + 3)] _ _ from ?_)
      refine zy_2 rfl rfl (show zyR _ _ _ _ [some (.ref (0 + 3)), some (.int x1), some (.int x2)] [.int x1, .ref (30 + 3)] _ _ from ?_)
      obtain ⟨c5, h⟩ := zy_if h
      obtain ⟨c6, h⟩ := zy_if h
      refine zy_28 rfl (zy_Wb_g c6) c5 (show zyR _ _ _ _ [some (.ref (0 + 3)), some (.int x1), some (.int x2)] [.ref ((zy_sh (x1).toNatClampNeg) + 3)] _ _ from ?_)
      refine zy_1r (c := (zy_sh (x1).toNatClampNeg)) rfl (zy_isSh_of (zy_in_lt c5)).1 rfl (show zyR _ _ _ _ [some (.ref (0 + 3)), some (.int x1), some (.int x2)] [.ref ((zy_sh (x1).toNatClampNeg) + 1 + 3)] _ _ from ?_)
      refine zy_2 rfl rfl (show zyR _ _ _ _ [some (.ref (0 + 3)), some (.int x1), some (.int x2)] [.int x2, .ref ((zy_sh (x1).toNatClampNeg) + 1 + 3)] _ _ from ?_)
      obtain ⟨c7, h⟩ := zy_if h
      refine zy_30 (c := ((zy_sh (x1).toNatClampNeg) + 1)) rfl (zy_isSh_of (zy_in_lt c5)).2 c7 (show zyR _ _ _ _ [some (.ref (0 + 3)), some (.int x1), some (.int x2)] [.long (p4.2.2.1 ((zy_sh (x1).toNatClampNeg) + 1) (x2).toNatClampNeg)] _ _ from ?_)
      refine zy_6 rfl (show zyR _ _ _ _ [some (.ref (0 + 3)), some (.int x1), some (.int x2)] [.long (p4.2.2.1 ((zy_sh (x1).toNatClampNeg) + 1) (x2).toNatClampNeg)] _ _ from ?_)
      cases h
      exact zy_65 rfl ⟨rfl, rfl⟩
