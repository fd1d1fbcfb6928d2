/-! PART 41.29: methods as functions. Made by wip/v4/dcp.py. -/
/-! NineOpinionsModel.asSort(IJ)J -/
noncomputable def zyF260   (x0 : Int32) (x1 : Int64) (s : zy_S) : Option (Int64 × zy_S) :=
if x0 ≠ 0 then
if x0 ≠ (1 : Int32) then
if x0 ≠ (2 : Int32) then
if x0 ≠ (4 : Int32) then
some (x1, s)
else
if (lg_cmp x1 (0 : Int64)) = 0 then
some ((0 : Int64), s)
else
some ((1 : Int64), s)
else
some (((x1).toInt32).toInt64, s)
else
some ((((x1).toInt32).toInt16.toInt32).toInt64, s)
else
some ((((x1).toInt32).toInt8.toInt32).toInt64, s)
theorem zyC260 {X : zx_X}     {x0 : Int32} {x1 : Int64} {s : zy_S} {r : Int64} {s' : zy_S}  (h : zyF260 x0 x1 s = some (r, s')) : zyR X 1 260 0 [some (.int x0), some (.long x1), none] [] s (zyE (some (.long r)) s') := by
  unfold zyF260 at h
  refine zy_2 rfl rfl (show zyR _ _ _ _ [some (.int x0), some (.long x1), none] [.int x0] _ _ from ?_)
  refine zy_24_1 rfl (fun b5 => (show zyR _ _ _ _ [some (.int x0), some (.long x1), none] [] _ _ from ?_)) (fun b5 => (show zyR _ _ _ _ [some (.int x0), some (.long x1), none] [] _ _ from ?_))
  · replace h := zy_ifp h b5
    refine zy_2 rfl rfl (show zyR _ _ _ _ [some (.int x0), some (.long x1), none] [.int x0] _ _ from ?_)
    refine zy_3 rfl rfl (show zyR _ _ _ _ [some (.int x0), some (.long x1), none] [.int (1 : Int32), .int x0] _ _ from ?_)
    refine zy_25_1 rfl (fun b4 => (show zyR _ _ _ _ [some (.int x0), some (.long x1), none] [] _ _ from ?_)) (fun b4 => (show zyR _ _ _ _ [some (.int x0), some (.long x1), none] [] _ _ from ?_))
    · replace h := zy_ifp h b4
      refine zy_2 rfl rfl (show zyR _ _ _ _ [some (.int x0), some (.long x1), none] [.int x0] _ _ from ?_)
      refine zy_3 rfl rfl (show zyR _ _ _ _ [some (.int x0), some (.long x1), none] [.int (2 : Int32), .int x0] _ _ from ?_)
      refine zy_25_1 rfl (fun b3 => (show zyR _ _ _ _ [some (.int x0), some (.long x1), none] [] _ _ from ?_)) (fun b3 => (show zyR _ _ _ _ [some (.int x0), some (.long x1), none] [] _ _ from ?_))
      · replace h := zy_ifp h b3
        refine zy_2 rfl rfl (show zyR _ _ _ _ [some (.int x0), some (.long x1), none] [.int x0] _ _ from ?_)
        refine zy_3 rfl rfl (show zyR _ _ _ _ [some (.int x0), some (.long x1), none] [.int (4 : Int32), .int x0] _ _ from ?_)
        refine zy_25_1 rfl (fun b2 => (show zyR _ _ _ _ [some (.int x0), some (.long x1), none] [] _ _ from ?_)) (fun b2 => (show zyR _ _ _ _ [some (.int x0), some (.long x1), none] [] _ _ from ?_))
        · replace h := zy_ifp h b2
          refine zy_37 rfl rfl (show zyR _ _ _ _ [some (.int x0), some (.long x1), none] [.long x1] _ _ from ?_)
          cases h
          exact zy_65 rfl ⟨rfl, rfl⟩
        · replace h := zy_ifn h b2
          refine zy_37 rfl rfl (show zyR _ _ _ _ [some (.int x0), some (.long x1), none] [.long x1] _ _ from ?_)
          refine zy_36 rfl rfl (show zyR _ _ _ _ [some (.int x0), some (.long x1), none] [.long (0 : Int64), .long x1] _ _ from ?_)
          refine zy_44 rfl (show zyR _ _ _ _ [some (.int x0), some (.long x1), none] [.int (lg_cmp x1 (0 : Int64))] _ _ from ?_)
          refine zy_24_0 rfl (fun b1 => (show zyR _ _ _ _ [some (.int x0), some (.long x1), none] [] _ _ from ?_)) (fun b1 => (show zyR _ _ _ _ [some (.int x0), some (.long x1), none] [] _ _ from ?_))
          · replace h := zy_ifp h b1
            refine zy_36 rfl rfl (show zyR _ _ _ _ [some (.int x0), some (.long x1), none] [.long (0 : Int64)] _ _ from ?_)
            refine zy_6 rfl (show zyR _ _ _ _ [some (.int x0), some (.long x1), none] [.long (0 : Int64)] _ _ from ?_)
            cases h
            exact zy_65 rfl ⟨rfl, rfl⟩
          · replace h := zy_ifn h b1
            refine zy_36 rfl rfl (show zyR _ _ _ _ [some (.int x0), some (.long x1), none] [.long (1 : Int64)] _ _ from ?_)
            refine zy_6 rfl (show zyR _ _ _ _ [some (.int x0), some (.long x1), none] [.long (1 : Int64)] _ _ from ?_)
            cases h
            exact zy_65 rfl ⟨rfl, rfl⟩
      · replace h := zy_ifn h b3
        refine zy_37 rfl rfl (show zyR _ _ _ _ [some (.int x0), some (.long x1), none] [.long x1] _ _ from ?_)
        refine zy_41 rfl (show zyR _ _ _ _ [some (.int x0), some (.long x1), none] [.int (x1).toInt32] _ _ from ?_)
        refine zy_40 rfl (show zyR _ _ _ _ [some (.int x0), some (.long x1), none] [.long ((x1).toInt32).toInt64] _ _ from ?_)
        refine zy_6 rfl (show zyR _ _ _ _ [some (.int x0), some (.long x1), none] [.long ((x1).toInt32).toInt64] _ _ from ?_)
        cases h
        exact zy_65 rfl ⟨rfl, rfl⟩
    · replace h := zy_ifn h b4
      refine zy_37 rfl rfl (show zyR _ _ _ _ [some (.int x0), some (.long x1), none] [.long x1] _ _ from ?_)
      refine zy_41 rfl (show zyR _ _ _ _ [some (.int x0), some (.long x1), none] [.int (x1).toInt32] _ _ from ?_)
      refine zy_43 rfl (show zyR _ _ _ _ [some (.int x0), some (.long x1), none] [.int ((x1).toInt32).toInt16.toInt32] _ _ from ?_)
      refine zy_40 rfl (show zyR _ _ _ _ [some (.int x0), some (.long x1), none] [.long (((x1).toInt32).toInt16.toInt32).toInt64] _ _ from ?_)
      refine zy_6 rfl (show zyR _ _ _ _ [some (.int x0), some (.long x1), none] [.long (((x1).toInt32).toInt16.toInt32).toInt64] _ _ from ?_)
      cases h
      exact zy_65 rfl ⟨rfl, rfl⟩
  · replace h := zy_ifn h b5
    refine zy_37 rfl rfl (show zyR _ _ _ _ [some (.int x0), some (.long x1), none] [.long x1] _ _ from ?_)
    refine zy_41 rfl (show zyR _ _ _ _ [some (.int x0), some (.long x1), none] [.int (x1).toInt32] _ _ from ?_)
    refine zy_42 rfl (show zyR _ _ _ _ [some (.int x0), some (.long x1), none] [.int ((x1).toInt32).toInt8.toInt32] _ _ from ?_)
    refine zy_40 rfl (show zyR _ _ _ _ [some (.int x0), some (.long x1), none] [.long (((x1).toInt32).toInt8.toInt32).toInt64] _ _ from ?_)
    refine zy_6 rfl (show zyR _ _ _ _ [some (.int x0), some (.long x1), none] [.long (((x1).toInt32).toInt8.toInt32).toInt64] _ _ from ?_)
    cases h
    exact zy_65 rfl ⟨rfl, rfl⟩
/-! NineOpinionsModel.put(IIJ)I -/
noncomputable def zyF258_37   (x5 : Int32) (s : zy_S) : Option (Int32 × zy_S) :=
if x5 ≠ 0 then
some (x5, s)
else
some ((1 : Int32), s)
theorem zyC258_37 {X : zx_X}     {x5 : Int32} {s : zy_S} {r : Int32} {s' : zy_S}  (h : zyF258_37 x5 s = some (r, s')) : zyR X 4 258 37 [none, none, none, none, none, some (.int x5)] [] s (zyE (some (.int r)) s') := by
  unfold zyF258_37 at h
  refine zy_2 rfl rfl (show zyR _ _ _ _ [none, none, none, none, none, some (.int x5)] [.int x5] _ _ from ?_)
  refine zy_24_1 rfl (fun b1 => (show zyR _ _ _ _ [none, none, none, none, none, some (.int x5)] [] _ _ from ?_)) (fun b1 => (show zyR _ _ _ _ [none, none, none, none, none, some (.int x5)] [] _ _ from ?_))
  · replace h := zy_ifp h b1
    refine zy_2 rfl rfl (show zyR _ _ _ _ [none, none, none, none, none, some (.int x5)] [.int x5] _ _ from ?_)
    obtain ⟨rfl, rfl⟩ := zy_pi h
    exact zy_4 rfl ⟨rfl, rfl⟩
  · replace h := zy_ifn h b1
    refine zy_3 rfl rfl (show zyR _ _ _ _ [none, none, none, none, none, some (.int x5)] [.int (1 : Int32)] _ _ from ?_)
    refine zy_6 rfl (show zyR _ _ _ _ [none, none, none, none, none, some (.int x5)] [.int (1 : Int32)] _ _ from ?_)
    obtain ⟨rfl, rfl⟩ := zy_pi h
    exact zy_4 rfl ⟨rfl, rfl⟩
noncomputable def zyF258   (x1 : Int32) (x2 : Int32) (x3 : Int64) (s : zy_S) : Option (Int32 × zy_S) :=
(zyF259 x1 x2 s).bind fun p2 =>
if p2.1 ≠ 0 then
zyF258_37 p2.1 p2.2
else
if zy_in x1 6 then
(zyF260 ((p2.2.1 60 (x1).toNatClampNeg) - (50 : Int32)) x3 p2.2).bind fun p4 =>
if zy_in (((60 : Int32) * x1) + x2) 360 then
zyF258_37 p2.1 (zy_uj p4.2 62 ((((60 : Int32) * x1) + x2)).toNatClampNeg p4.1)
else none
else none
theorem zyC258 {X : zx_X}     {x1 : Int32} {x2 : Int32} {x3 : Int64} {s : zy_S} {r : Int32} {s' : zy_S}  (h : zyF258 x1 x2 x3 s = some (r, s')) : zyR X 4 258 0 [some (.ref (43 + 3)), some (.int x1), some (.int x2), some (.long x3), none, none] [] s (zyE (some (.int r)) s') := by
  unfold zyF258 at h
  refine zy_0 rfl rfl (show zyR _ _ _ _ [some (.ref (43 + 3)), some (.int x1), some (.int x2), some (.long x3), none, none] [.ref (43 + 3)] _ _ from ?_)
  refine zy_2 rfl rfl (show zyR _ _ _ _ [some (.ref (43 + 3)), some (.int x1), some (.int x2), some (.long x3), none, none] [.int x1, .ref (43 + 3)] _ _ from ?_)
  refine zy_2 rfl rfl (show zyR _ _ _ _ [some (.ref (43 + 3)), some (.int x1), some (.int x2), some (.long x3), none, none] [.int x2, .int x1, .ref (43 + 3)] _ _ from ?_)
  obtain ⟨p2, hp2, h⟩ := zy_bind h
  refine zy_5 (c := 43) (as := [.int x1, .int x2]) (rest := []) (L := [some (.ref (43 + 3)), some (.int x1), some (.int x2)]) (d' := 3) rfl rfl rfl (Nat.le_of_ble_eq_true rfl) (Nat.le_of_ble_eq_true rfl) rfl (Nat.le_of_ble_eq_true rfl) rfl rfl (zyC259 hp2) ?_
  show zyR _ _ _ _ [some (.ref (43 + 3)), some (.int x1), some (.int x2), some (.long x3), none, none] [.int p2.1] _ _
  refine zy_23 rfl rfl (show zyR _ _ _ _ [some (.ref (43 + 3)), some (.int x1), some (.int x2), some (.long x3), none, some (.int p2.1)] [] _ _ from ?_)
  refine zy_2 rfl rfl (show zyR _ _ _ _ [some (.ref (43 + 3)), some (.int x1), some (.int x2), some (.long x3), none, some (.int p2.1)] [.int p2.1] _ _ from ?_)
  refine zy_24_1 rfl (fun b6 => (show zyR _ _ _ _ [some (.ref (43 + 3)), some (.int x1), some (.int x2), some (.long x3), none, some (.int p2.1)] [] _ _ from ?_)) (fun b6 => (show zyR _ _ _ _ [some (.ref (43 + 3)), some (.int x1), some (.int x2), some (.long x3), none, some (.int p2.1)] [] _ _ from ?_))
  · replace h := zy_ifp h b6
    exact zy_sub (show zy_le [none, none, none, none, none, some (.int p2.1)] [some (.ref (43 + 3)), some (.int x1), some (.int x2), some (.long x3), none, some (.int p2.1)] from ⟨rfl, trivial⟩) (zyC258_37 h)
  · replace h := zy_ifn h b6
    refine zy_0 rfl rfl (show zyR _ _ _ _ [some (.ref (43 + 3)), some (.int x1), some (.int x2), some (.long x3), none, some (.int p2.1)] [.ref (43 + 3)] _ _ from ?_)
    refine zy_1r (c := 43) rfl rfl rfl (show zyR _ _ _ _ [some (.ref (43 + 3)), some (.int x1), some (.int x2), some (.long x3), none, some (.int p2.1)] [.ref (62 + 3)] _ _ from ?_)
    refine zy_3 rfl rfl (show zyR _ _ _ _ [some (.ref (43 + 3)), some (.int x1), some (.int x2), some (.long x3), none, some (.int p2.1)] [.int (60 : Int32), .ref (62 + 3)] _ _ from ?_)
    refine zy_2 rfl rfl (show zyR _ _ _ _ [some (.ref (43 + 3)), some (.int x1), some (.int x2), some (.long x3), none, some (.int p2.1)] [.int x1, .int (60 : Int32), .ref (62 + 3)] _ _ from ?_)
    refine zy_12 rfl (show zyR _ _ _ _ [some (.ref (43 + 3)), some (.int x1), some (.int x2), some (.long x3), none, some (.int p2.1)] [.int ((60 : Int32) * x1), .ref (62 + 3)] _ _ from ?_)
    refine zy_2 rfl rfl (show zyR _ _ _ _ [some (.ref (43 + 3)), some (.int x1), some (.int x2), some (.long x3), none, some (.int p2.1)] [.int x2, .int ((60 : Int32) * x1), .ref (62 + 3)] _ _ from ?_)
    refine zy_10 rfl (show zyR _ _ _ _ [some (.ref (43 + 3)), some (.int x1), some (.int x2), some (.long x3), none, some (.int p2.1)] [.int (((60 : Int32) * x1) + x2), .ref (62 + 3)] _ _ from ?_)
    refine zy_0 rfl rfl (show zyR _ _ _ _ [some (.ref (43 + 3)), some (.int x1), some (.int x2), some (.long x3), none, some (.int p2.1)] [.ref (43 + 3), .int (((60 : Int32) * x1) + x2), .ref (62 + 3)] _ _ from ?_)
    refine zy_1r (c := 43) rfl rfl rfl (show zyR _ _ _ _ [some (.ref (43 + 3)), some (.int x1), some (.int x2), some (.long x3), none, some (.int p2.1)] [.ref (60 + 3), .int (((60 : Int32) * x1) + x2), .ref (62 + 3)] _ _ from ?_)
    refine zy_2 rfl rfl (show zyR _ _ _ _ [some (.ref (43 + 3)), some (.int x1), some (.int x2), some (.long x3), none, some (.int p2.1)] [.int x1, .ref (60 + 3), .int (((60 : Int32) * x1) + x2), .ref (62 + 3)] _ _ from ?_)
    obtain ⟨c3, h⟩ := zy_if h
    refine zy_26 (c := 60) rfl rfl c3 (show zyR _ _ _ _ [some (.ref (43 + 3)), some (.int x1), some (.int x2), some (.long x3), none, some (.int p2.1)] [.int (p2.2.1 60 (x1).toNatClampNeg), .int (((60 : Int32) * x1) + x2), .ref (62 + 3)] _ _ from ?_)
    refine zy_3 rfl rfl (show zyR _ _ _ _ [some (.ref (43 + 3)), some (.int x1), some (.int x2), some (.long x3), none, some (.int p2.1)] [.int (50 : Int32), .int (p2.2.1 60 (x1).toNatClampNeg), .int (((60 : Int32) * x1) + x2), .ref (62 + 3)] _ _ from ?_)
    refine zy_11 rfl (show zyR _ _ _ _ [some (.ref (43 + 3)), some (.int x1), some (.int x2), some (.long x3), none, some (.int p2.1)] [.int ((p2.2.1 60 (x1).toNatClampNeg) - (50 : Int32)), .int (((60 : Int32) * x1) + x2), .ref (62 + 3)] _ _ from ?_)
    refine zy_37 rfl rfl (show zyR _ _ _ _ [some (.ref (43 + 3)), some (.int x1), some (.int x2), some (.long x3), none, some (.int p2.1)] [.long x3, .int ((p2.2.1 60 (x1).toNatClampNeg) - (50 : Int32)), .int (((60 : Int32) * x1) + x2), .ref (62 + 3)] _ _ from ?_)
    obtain ⟨p4, hp4, h⟩ := zy_bind h
    refine zy_60 (as := [.int ((p2.2.1 60 (x1).toNatClampNeg) - (50 : Int32)), .long x3]) (rest := [.int (((60 : Int32) * x1) + x2), .ref (62 + 3)]) (L := [some (.int ((p2.2.1 60 (x1).toNatClampNeg) - (50 : Int32))), some (.long x3), none]) (d' := 1) rfl rfl (Nat.le_of_ble_eq_true rfl) (Nat.le_of_ble_eq_true rfl) rfl (Nat.le_of_ble_eq_true rfl) rfl rfl (zyC260 hp4) ?_
    show zyR _ _ _ _ [some (.ref (43 + 3)), some (.int x1), some (.int x2), some (.long x3), none, some (.int p2.1)] [.long p4.1, .int (((60 : Int32) * x1) + x2), .ref (62 + 3)] _ _
    obtain ⟨c5, h⟩ := zy_if h
    refine zy_31 (c := 62) rfl rfl c5 (show zyR _ _ _ _ [some (.ref (43 + 3)), some (.int x1), some (.int x2), some (.long x3), none, some (.int p2.1)] [] _ _ from ?_)
    exact zy_sub (show zy_le [none, none, none, none, none, some (.int p2.1)] [some (.ref (43 + 3)), some (.int x1), some (.int x2), some (.long x3), none, some (.int p2.1)] from ⟨rfl, trivial⟩) (zyC258_37 h)
