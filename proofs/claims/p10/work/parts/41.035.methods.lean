/-! PART 41.35: methods as functions. Made by wip/v4/dcp.py. -/
/-! NineOpinionsModel.mindsOf(III)I -/
noncomputable def zyF204_155   (x8 : Int32) (s : zy_S) : Option (Int32 × zy_S) :=
if 0 ≤ x8 then
if x8 ≤ (99 : Int32) then
some (x8, s)
else
some ((99 : Int32), s)
else
some ((0 : Int32), s)
theorem zyC204_155 {X : zx_X}     {x8 : Int32} {s : zy_S} {r : Int32} {s' : zy_S}  (h : zyF204_155 x8 s = some (r, s')) : zyR X 104 204 155 [none, none, none, none, none, none, none, none, some (.int x8)] [] s (zyE (some (.int r)) s') := by
  unfold zyF204_155 at h
  refine zy_2 rfl rfl (show zyR _ _ _ _ [none, none, none, none, none, none, none, none, some (.int x8)] [.int x8] _ _ from ?_)
  refine zy_24_3 rfl (fun b2 => (show zyR _ _ _ _ [none, none, none, none, none, none, none, none, some (.int x8)] [] _ _ from ?_)) (fun b2 => (show zyR _ _ _ _ [none, none, none, none, none, none, none, none, some (.int x8)] [] _ _ from ?_))
  · replace h := zy_ifp h b2
    refine zy_2 rfl rfl (show zyR _ _ _ _ [none, none, none, none, none, none, none, none, some (.int x8)] [.int x8] _ _ from ?_)
    refine zy_3 rfl rfl (show zyR _ _ _ _ [none, none, none, none, none, none, none, none, some (.int x8)] [.int (99 : Int32), .int x8] _ _ from ?_)
    refine zy_25_5 rfl (fun b1 => (show zyR _ _ _ _ [none, none, none, none, none, none, none, none, some (.int x8)] [] _ _ from ?_)) (fun b1 => (show zyR _ _ _ _ [none, none, none, none, none, none, none, none, some (.int x8)] [] _ _ from ?_))
    · replace h := zy_ifp h b1
      refine zy_2 rfl rfl (show zyR _ _ _ _ [none, none, none, none, none, none, none, none, some (.int x8)] [.int x8] _ _ from ?_)
      obtain ⟨rfl, rfl⟩ := zy_pi h
      exact zy_4 rfl ⟨rfl, rfl⟩
    · replace h := zy_ifn h b1
      refine zy_3 rfl rfl (show zyR _ _ _ _ [none, none, none, none, none, none, none, none, some (.int x8)] [.int (99 : Int32)] _ _ from ?_)
      refine zy_6 rfl (show zyR _ _ _ _ [none, none, none, none, none, none, none, none, some (.int x8)] [.int (99 : Int32)] _ _ from ?_)
      obtain ⟨rfl, rfl⟩ := zy_pi h
      exact zy_4 rfl ⟨rfl, rfl⟩
  · replace h := zy_ifn h b2
    refine zy_3 rfl rfl (show zyR _ _ _ _ [none, none, none, none, none, none, none, none, some (.int x8)] [.int (0 : Int32)] _ _ from ?_)
    refine zy_6 rfl (show zyR _ _ _ _ [none, none, none, none, none, none, none, none, some (.int x8)] [.int (0 : Int32)] _ _ from ?_)
    obtain ⟨rfl, rfl⟩ := zy_pi h
    exact zy_4 rfl ⟨rfl, rfl⟩
noncomputable def zyF204_118   (x2 : Int32) (x3 : Int32) (x4 : Int32) (y0 : Int32) (y1 : Int32) (s : zy_S) : Option (Int32 × zy_S) :=
if zy_in y1 6 then
(zyF209 ((x3 >>> (((4 : Int32) * x2) &&& 31)) &&& (15 : Int32)) (zy_up s 50 (y1).toNatClampNeg y0)).bind fun p4 =>
(zyF191 (0 : Int32) (p4.2.1 43 11) (zy_up (zy_up p4.2 50 4 p4.1) 50 5 x4)).bind fun p5 =>
zyF204_155 p5.1 p5.2
else none
theorem zyC204_118 {X : zx_X}     {x2 : Int32} {x3 : Int32} {x4 : Int32} {y0 : Int32} {y1 : Int32} {s : zy_S} {r : Int32} {s' : zy_S}  (h : zyF204_118 x2 x3 x4 y0 y1 s = some (r, s')) : zyR X 104 204 118 [some (.ref (43 + 3)), none, some (.int x2), some (.int x3), some (.int x4), none, none, none, none] [.int y0, .int y1, .ref (50 + 3)] s (zyE (some (.int r)) s') := by
  unfold zyF204_118 at h
  obtain ⟨c3, h⟩ := zy_if h
  refine zy_27 (c := 50) rfl rfl c3 (show zyR _ _ _ _ [some (.ref (43 + 3)), none, some (.int x2), some (.int x3), some (.int x4), none, none, none, none] [] _ _ from ?_)
  refine zy_0 rfl rfl (show zyR _ _ _ _ [some (.ref (43 + 3)), none, some (.int x2), some (.int x3), some (.int x4), none, none, none, none] [.ref (43 + 3)] _ _ from ?_)
  refine zy_1r (c := 43) rfl rfl rfl (show zyR _ _ _ _ [some (.ref (43 + 3)), none, some (.int x2), some (.int x3), some (.int x4), none, none, none, none] [.ref (50 + 3)] _ _ from ?_)
  refine zy_3 rfl rfl (show zyR _ _ _ _ [some (.ref (43 + 3)), none, some (.int x2), some (.int x3), some (.int x4), none, none, none, none] [.int (4 : Int32), .ref (50 + 3)] _ _ from ?_)
  refine zy_2 rfl rfl (show zyR _ _ _ _ [some (.ref (43 + 3)), none, some (.int x2), some (.int x3), some (.int x4), none, none, none, none] [.int x3, .int (4 : Int32), .ref (50 + 3)] _ _ from ?_)
  refine zy_3 rfl rfl (show zyR _ _ _ _ [some (.ref (43 + 3)), none, some (.int x2), some (.int x3), some (.int x4), none, none, none, none] [.int (4 : Int32), .int x3, .int (4 : Int32), .ref (50 + 3)] _ _ from ?_)
  refine zy_2 rfl rfl (show zyR _ _ _ _ [some (.ref (43 + 3)), none, some (.int x2), some (.int x3), some (.int x4), none, none, none, none] [.int x2, .int (4 : Int32), .int x3, .int (4 : Int32), .ref (50 + 3)] _ _ from ?_)
  refine zy_12 rfl (show zyR _ _ _ _ [some (.ref (43 + 3)), none, some (.int x2), some (.int x3), some (.int x4), none, none, none, none] [.int ((4 : Int32) * x2), .int x3, .int (4 : Int32), .ref (50 + 3)] _ _ from ?_)
  refine zy_17 rfl (show zyR _ _ _ _ [some (.ref (43 + 3)), none, some (.int x2), some (.int x3), some (.int x4), none, none, none, none] [.int (x3 >>> (((4 : Int32) * x2) &&& 31)), .int (4 : Int32), .ref (50 + 3)] _ _ from ?_)
  refine zy_3 rfl rfl (show zyR _ _ _ _ [some (.ref (43 + 3)), none, some (.int x2), some (.int x3), some (.int x4), none, none, none, none] [.int (15 : Int32), .int (x3 >>> (((4 : Int32) * x2) &&& 31)), .int (4 : Int32), .ref (50 + 3)] _ _ from ?_)
  refine zy_13 rfl (show zyR _ _ _ _ [some (.ref (43 + 3)), none, some (.int x2), some (.int x3), some (.int x4), none, none, none, none] [.int ((x3 >>> (((4 : Int32) * x2) &&& 31)) &&& (15 : Int32)), .int (4 : Int32), .ref (50 + 3)] _ _ from ?_)
  obtain ⟨p4, hp4, h⟩ := zy_bind h
  refine zy_60 (as := [.int ((x3 >>> (((4 : Int32) * x2) &&& 31)) &&& (15 : Int32))]) (rest := [.int (4 : Int32), .ref (50 + 3)]) (L := [some (.int ((x3 >>> (((4 : Int32) * x2) &&& 31)) &&& (15 : Int32))), none, none]) (d' := 1) rfl rfl (Nat.le_of_ble_eq_true rfl) (Nat.le_of_ble_eq_true rfl) rfl (Nat.le_of_ble_eq_true rfl) rfl rfl (zyC209 hp4) ?_
  show zyR _ _ _ _ [some (.ref (43 + 3)), none, some (.int x2), some (.int x3), some (.int x4), none, none, none, none] [.int p4.1, .int (4 : Int32), .ref (50 + 3)] _ _
  refine zy_27 (c := 50) rfl rfl (by decide) (show zyR _ _ _ _ [some (.ref (43 + 3)), none, some (.int x2), some (.int x3), some (.int x4), none, none, none, none] [] _ _ from ?_)
  refine zy_0 rfl rfl (show zyR _ _ _ _ [some (.ref (43 + 3)), none, some (.int x2), some (.int x3), some (.int x4), none, none, none, none] [.ref (43 + 3)] _ _ from ?_)
  refine zy_1r (c := 43) rfl rfl rfl (show zyR _ _ _ _ [some (.ref (43 + 3)), none, some (.int x2), some (.int x3), some (.int x4), none, none, none, none] [.ref (50 + 3)] _ _ from ?_)
  refine zy_3 rfl rfl (show zyR _ _ _ _ [some (.ref (43 + 3)), none, some (.int x2), some (.int x3), some (.int x4), none, none, none, none] [.int (5 : Int32), .ref (50 + 3)] _ _ from ?_)
  refine zy_2 rfl rfl (show zyR _ _ _ _ [some (.ref (43 + 3)), none, some (.int x2), some (.int x3), some (.int x4), none, none, none, none] [.int x4, .int (5 : Int32), .ref (50 + 3)] _ _ from ?_)
  refine zy_27 (c := 50) rfl rfl (by decide) (show zyR _ _ _ _ [some (.ref (43 + 3)), none, some (.int x2), some (.int x3), some (.int x4), none, none, none, none] [] _ _ from ?_)
  refine zy_0 rfl rfl (show zyR _ _ _ _ [some (.ref (43 + 3)), none, some (.int x2), some (.int x3), some (.int x4), none, none, none, none] [.ref (43 + 3)] _ _ from ?_)
  refine zy_3 rfl rfl (show zyR _ _ _ _ [some (.ref (43 + 3)), none, some (.int x2), some (.int x3), some (.int x4), none, none, none, none] [.int (0 : Int32), .ref (43 + 3)] _ _ from ?_)
  refine zy_0 rfl rfl (show zyR _ _ _ _ [some (.ref (43 + 3)), none, some (.int x2), some (.int x3), some (.int x4), none, none, none, none] [.ref (43 + 3), .int (0 : Int32), .ref (43 + 3)] _ _ from ?_)
  refine zy_1 (c := 43) rfl rfl rfl (show zyR _ _ _ _ [some (.ref (43 + 3)), none, some (.int x2), some (.int x3), some (.int x4), none, none, none, none] [.int (p4.2.1 43 11), .int (0 : Int32), .ref (43 + 3)] _ _ from ?_)
  obtain ⟨p5, hp5, h⟩ := zy_bind h
  refine zy_5 (c := 43) (as := [.int (0 : Int32), .int (p4.2.1 43 11)]) (rest := []) (L := [some (.ref (43 + 3)), some (.int (0 : Int32)), some (.int (p4.2.1 43 11)), none, none, none, none, none]) (d' := 103) rfl rfl rfl (Nat.le_of_ble_eq_true rfl) (Nat.le_of_ble_eq_true rfl) rfl (Nat.le_of_ble_eq_true rfl) rfl rfl (zyC191 hp5) ?_
  show zyR _ _ _ _ [some (.ref (43 + 3)), none, some (.int x2), some (.int x3), some (.int x4), none, none, none, none] [.int p5.1] _ _
  refine zy_23 rfl rfl (show zyR _ _ _ _ [some (.ref (43 + 3)), none, some (.int x2), some (.int x3), some (.int x4), none, none, none, some (.int p5.1)] [] _ _ from ?_)
  exact zy_sub (show zy_le [none, none, none, none, none, none, none, none, some (.int p5.1)] [some (.ref (43 + 3)), none, some (.int x2), some (.int x3), some (.int x4), none, none, none, some (.int p5.1)] from ⟨rfl, trivial⟩) (zyC204_155 h)
noncomputable def zyF204_54   (x1 : Int32) (x2 : Int32) (x3 : Int32) (x4 : Int32) (x5 : Int32) (y0 : Int32) (s : zy_S) : Option (Int32 × zy_S) :=
if (s.1 43 11) < 0 then
zyF204_155 y0 s
else
if zy_in ((8 : Int32) + x1) 41 then
if 0 ≤ x5 then
if zy_in x5 24 then
zyF204_118 x2 x3 x4 (s.1 51 (x5).toNatClampNeg) (3 : Int32) (zy_up (zy_up (zy_up s 50 0 y0) 50 1 (s.1 44 (((8 : Int32) + x1)).toNatClampNeg)) 50 2 x2)
else none
else
zyF204_118 x2 x3 x4 (0 : Int32) (3 : Int32) (zy_up (zy_up (zy_up s 50 0 y0) 50 1 (s.1 44 (((8 : Int32) + x1)).toNatClampNeg)) 50 2 x2)
else none
theorem zyC204_54 {X : zx_X}     {x1 : Int32} {x2 : Int32} {x3 : Int32} {x4 : Int32} {x5 : Int32} {y0 : Int32} {s : zy_S} {r : Int32} {s' : zy_S}  (h : zyF204_54 x1 x2 x3 x4 x5 y0 s = some (r, s')) : zyR X 104 204 54 [some (.ref (43 + 3)), some (.int x1), some (.int x2), some (.int x3), some (.int x4), some (.int x5), none, none, none] [.int y0] s (zyE (some (.int r)) s') := by
  unfold zyF204_54 at h
  refine zy_23 rfl rfl (show zyR _ _ _ _ [some (.ref (43 + 3)), some (.int x1), some (.int x2), some (.int x3), some (.int x4), some (.int x5), none, some (.int y0), none] [] _ _ from ?_)
  refine zy_2 rfl rfl (show zyR _ _ _ _ [some (.ref (43 + 3)), some (.int x1), some (.int x2), some (.int x3), some (.int x4), some (.int x5), none, some (.int y0), none] [.int y0] _ _ from ?_)
  refine zy_23 rfl rfl (show zyR _ _ _ _ [some (.ref (43 + 3)), some (.int x1), some (.int x2), some (.int x3), some (.int x4), some (.int x5), none, some (.int y0), some (.int y0)] [] _ _ from ?_)
  refine zy_0 rfl rfl (show zyR _ _ _ _ [some (.ref (43 + 3)), some (.int x1), some (.int x2), some (.int x3), some (.int x4), some (.int x5), none, some (.int y0), some (.int y0)] [.ref (43 + 3)] _ _ from ?_)
  refine zy_1 (c := 43) rfl rfl rfl (show zyR _ _ _ _ [some (.ref (43 + 3)), some (.int x1), some (.int x2), some (.int x3), some (.int x4), some (.int x5), none, some (.int y0), some (.int y0)] [.int (s.1 43 11)] _ _ from ?_)
  refine zy_24_2 rfl (fun b9 => (show zyR _ _ _ _ [some (.ref (43 + 3)), some (.int x1), some (.int x2), some (.int x3), some (.int x4), some (.int x5), none, some (.int y0), some (.int y0)] [] _ _ from ?_)) (fun b9 => (show zyR _ _ _ _ [some (.ref (43 + 3)), some (.int x1), some (.int x2), some (.int x3), some (.int x4), some (.int x5), none, some (.int y0), some (.int y0)] [] _ _ from ?_))
  · replace h := zy_ifp h b9
    exact zy_sub (show zy_le [none, none, none, none, none, none, none, none, some (.int y0)] [some (.ref (43 + 3)), some (.int x1), some (.int x2), some (.int x3), some (.int x4), some (.int x5), none, some (.int y0), some (.int y0)] from ⟨rfl, trivial⟩) (zyC204_155 h)
  · replace h := zy_ifn h b9
    refine zy_0 rfl rfl (show zyR _ _ _ _ [some (.ref (43 + 3)), some (.int x1), some (.int x2), some (.int x3), some (.int x4), some (.int x5), none, some (.int y0), some (.int y0)] [.ref (43 + 3)] _ _ from ?_)
    refine zy_1r (c := 43) rfl rfl rfl (show zyR _ _ _ _ [some (.ref (43 + 3)), some (.int x1), some (.int x2), some (.int x3), some (.int x4), some (.int x5), none, some (.int y0), some (.int y0)] [.ref (50 + 3)] _ _ from ?_)
    refine zy_3 rfl rfl (show zyR _ _ _ _ [some (.ref (43 + 3)), some (.int x1), some (.int x2), some (.int x3), some (.int x4), some (.int x5), none, some (.int y0), some (.int y0)] [.int (0 : Int32), .ref (50 + 3)] _ _ from ?_)
    refine zy_2 rfl rfl (show zyR _ _ _ _ [some (.ref (43 + 3)), some (.int x1), some (.int x2), some (.int x3), some (.int x4), some (.int x5), none, some (.int y0), some (.int y0)] [.int y0, .int (0 : Int32), .ref (50 + 3)] _ _ from ?_)
    refine zy_27 (c := 50) rfl rfl (by decide) (show zyR _ _ _ _ [some (.ref (43 + 3)), some (.int x1), some (.int x2), some (.int x3), some (.int x4), some (.int x5), none, some (.int y0), some (.int y0)] [] _ _ from ?_)
    refine zy_0 rfl rfl (show zyR _ _ _ _ [some (.ref (43 + 3)), some (.int x1), some (.int x2), some (.int x3), some (.int x4), some (.int x5), none, some (.int y0), some (.int y0)] [.ref (43 + 3)] _ _ from ?_)
    refine zy_1r (c := 43) rfl rfl rfl (show zyR _ _ _ _ [some (.ref (43 + 3)), some (.int x1), some (.int x2), some (.int x3), some (.int x4), some (.int x5), none, some (.int y0), some (.int y0)] [.ref (50 + 3)] _ _ from ?_)
    refine zy_3 rfl rfl (show zyR _ _ _ _ [some (.ref (43 + 3)), some (.int x1), some (.int x2), some (.int x3), some (.int x4), some (.int x5), none, some (.int y0), some (.int y0)] [.int (1 : Int32), .ref (50 + 3)] _ _ from ?_)
    refine zy_0 rfl rfl (show zyR _ _ _ _ [some (.ref (43 + 3)), some (.int x1), some (.int x2), some (.int x3), some (.int x4), some (.int x5), none, some (.int y0), some (.int y0)] [.ref (43 + 3), .int (1 : Int32), .ref (50 + 3)] _ _ from ?_)
    refine zy_1r (c := 43) rfl rfl rfl (show zyR _ _ _ _ [some (.ref (43 + 3)), some (.int x1), some (.int x2), some (.int x3), some (.int x4), some (.int x5), none, some (.int y0), some (.int y0)] [.ref (44 + 3), .int (1 : Int32), .ref (50 + 3)] _ _ from ?_)
    refine zy_3 rfl rfl (show zyR _ _ _ _ [some (.ref (43 + 3)), some (.int x1), some (.int x2), some (.int x3), some (.int x4), some (.int x5), none, some (.int y0), some (.int y0)] [.int (8 : Int32), .ref (44 + 3), .int (1 : Int32), .ref (50 + 3)] _ _ from ?_)
    refine zy_2 rfl rfl (show zyR _ _ _ _ [some (.ref (43 + 3)), some (.int x1), some (.int x2), some (.int x3), some (.int x4), some (.int x5), none, some (.int y0), some (.int y0)] [.int x1, .int (8 : Int32), .ref (44 + 3), .int (1 : Int32), .ref (50 + 3)] _ _ from ?_)
    refine zy_10 rfl (show zyR _ _ _ _ [some (.ref (43 + 3)), some (.int x1), some (.int x2), some (.int x3), some (.int x4), some (.int x5), none, some (.int y0), some (.int y0)] [.int ((8 : Int32) + x1), .ref (44 + 3), .int (1 : Int32), .ref (50 + 3)] _ _ from ?_)
    obtain ⟨c6, h⟩ := zy_if h
    refine zy_26 (c := 44) rfl rfl c6 (show zyR _ _ _ _ [some (.ref (43 + 3)), some (.int x1), some (.int x2), some (.int x3), some (.int x4), some (.int x5), none, some (.int y0), some (.int y0)] [.int (s.1 44 (((8 : Int32) + x1)).toNatClampNeg), .int (1 : Int32), .ref (50 + 3)] _ _ from ?_)
    refine zy_27 (c := 50) rfl rfl (by decide) (show zyR _ _ _ _ [some (.ref (43 + 3)), some (.int x1), some (.int x2), some (.int x3), some (.int x4), some (.int x5), none, some (.int y0), some (.int y0)] [] _ _ from ?_)
    refine zy_0 rfl rfl (show zyR _ _ _ _ [some (.ref (43 + 3)), some (.int x1), some (.int x2), some (.int x3), some (.int x4), some (.int x5), none, some (.int y0), some (.int y0)] [.ref (43 + 3)] _ _ from ?_)
    refine zy_1r (c := 43) rfl rfl rfl (show zyR _ _ _ _ [some (.ref (43 + 3)), some (.int x1), some (.int x2), some (.int x3), some (.int x4), some (.int x5), none, some (.int y0), some (.int y0)] [.ref (50 + 3)] _ _ from ?_)
    refine zy_3 rfl rfl (show zyR _ _ _ _ [some (.ref (43 + 3)), some (.int x1), some (.int x2), some (.int x3), some (.int x4), some (.int x5), none, some (.int y0), some (.int y0)] [.int (2 : Int32), .ref (50 + 3)] _ _ from ?_)
    refine zy_2 rfl rfl (show zyR _ _ _ _ [some (.ref (43 + 3)), some (.int x1), some (.int x2), some (.int x3), some (.int x4), some (.int x5), none, some (.int y0), some (.int y0)] [.int x2, .int (2 : Int32), .ref (50 + 3)] _ _ from ?_)
    refine zy_27 (c := 50) rfl rfl (by decide) (show zyR _ _ _ _ [some (.ref (43 + 3)), some (.int x1), some (.int x2), some (.int x3), some (.int x4), some (.int x5), none, some (.int y0), some (.int y0)] [] _ _ from ?_)
    refine zy_0 rfl rfl (show zyR _ _ _ _ [some (.ref (43 + 3)), some (.int x1), some (.int x2), some (.int x3), some (.int x4), some (.int x5), none, some (.int y0), some (.int y0)] [.ref (43 + 3)] _ _ from ?_)
    refine zy_1r (c := 43) rfl rfl rfl (show zyR _ _ _ _ [some (.ref (43 + 3)), some (.int x1), some (.int x2), some (.int x3), some (.int x4), some (.int x5), none, some (.int y0), some (.int y0)] [.ref (50 + 3)] _ _ from ?_)
    refine zy_3 rfl rfl (show zyR _ _ _ _ [some (.ref (43 + 3)), some (.int x1), some (.int x2), some (.int x3), some (.int x4), some (.int x5), none, some (.int y0), some (.int y0)] [.int (3 : Int32), .ref (50 + 3)] _ _ from ?_)
    refine zy_2 rfl rfl (show zyR _ _ _ _ [some (.ref (43 + 3)), some (.int x1), some (.int x2), some (.int x3), some (.int x4), some (.int x5), none, some (.int y0), some (.int y0)] [.int x5, .int (3 : Int32), .ref (50 + 3)] _ _ from ?_)
    refine zy_24_3 rfl (fun b8 => (show zyR _ _ _ _ [some (.ref (43 + 3)), some (.int x1), some (.int x2), some (.int x3), some (.int x4), some (.int x5), none, some (.int y0), some (.int y0)] [.int (3 : Int32), .ref (50 + 3)] _ _ from ?_)) (fun b8 => (show zyR _ _ _ _ [some (.ref (43 + 3)), some (.int x1), some (.int x2), some (.int x3), some (.int x4), some (.int x5), none, some (.int y0), some (.int y0)] [.int (3 : Int32), .ref (50 + 3)] _ _ from ?_))
    · replace h := zy_ifp h b8
      refine zy_0 rfl rfl (show zyR _ _ _ _ [some (.ref (43 + 3)), some (.int x1), some (.int x2), some (.int x3), some (.int x4), some (.int x5), none, some (.int y0), some (.int y0)] [.ref (43 + 3), .int (3 : Int32), .ref (50 + 3)] _ _ from ?_)
      refine zy_1r (c := 43) rfl rfl rfl (show zyR _ _ _ _ [some (.ref (43 + 3)), some (.int x1), some (.int x2), some (.int x3), some (.int x4), some (.int x5), none, some (.int y0), some (.int y0)] [.ref (51 + 3), .int (3 : Int32), .ref (50 + 3)] _ _ from ?_)
      refine zy_2 rfl rfl (show zyR _ _ _ _ [some (.ref (43 + 3)), some (.int x1), some (.int x2), some (.int x3), some (.int x4), some (.int x5), none, some (.int y0), some (.int y0)] [.int x5, .ref (51 + 3), .int (3 : Int32), .ref (50 + 3)] _ _ from ?_)
      obtain ⟨c7, h⟩ := zy_if h
      refine zy_26 (c := 51) rfl rfl c7 (show zyR _ _ _ _ [some (.ref (43 + 3)), some (.int x1), some (.int x2), some (.int x3), some (.int x4), some (.int x5), none, some (.int y0), some (.int y0)] [.int (s.1 51 (x5).toNatClampNeg), .int (3 : Int32), .ref (50 + 3)] _ _ from ?_)
      exact zy_sub (show zy_le [some (.ref (43 + 3)), none, some (.int x2), some (.int x3), some (.int x4), none, none, none, none] [some (.ref (43 + 3)), some (.int x1), some (.int x2), some (.int x3), some (.int x4), some (.int x5), none, some (.int y0), some (.int y0)] from ⟨rfl, ⟨rfl, ⟨rfl, ⟨rfl, trivial⟩⟩⟩⟩) (zyC204_118 h)
    · replace h := zy_ifn h b8
      refine zy_3 rfl rfl (show zyR _ _ _ _ [some (.ref (43 + 3)), some (.int x1), some (.int x2), some (.int x3), some (.int x4), some (.int x5), none, some (.int y0), some (.int y0)] [.int (0 : Int32), .int (3 : Int32), .ref (50 + 3)] _ _ from ?_)
      refine zy_6 rfl (show zyR _ _ _ _ [some (.ref (43 + 3)), some (.int x1), some (.int x2), some (.int x3), some (.int x4), some (.int x5), none, some (.int y0), some (.int y0)] [.int (0 : Int32), .int (3 : Int32), .ref (50 + 3)] _ _ from ?_)
      exact zy_sub (show zy_le [some (.ref (43 + 3)), none, some (.int x2), some (.int x3), some (.int x4), none, none, none, none] [some (.ref (43 + 3)), some (.int x1), some (.int x2), some (.int x3), some (.int x4), some (.int x5), none, some (.int y0), some (.int y0)] from ⟨rfl, ⟨rfl, ⟨rfl, ⟨rfl, trivial⟩⟩⟩⟩) (zyC204_118 h)
noncomputable def zyF204   (x1 : Int32) (x2 : Int32) (x3 : Int32) (s : zy_S) : Option (Int32 × zy_S) :=
(zyF205 x1 x2 s).bind fun p10 =>
(zyF207 x3 x2 p10.1 p10.2).bind fun p11 =>
if 0 ≤ p11.1 then
if (p11.1 - ((4 : Int32) * x2)) ≤ p10.1 then
zyF204_54 x1 x2 x3 p10.1 p11.1 (p10.1 - (p11.1 - ((4 : Int32) * x2))) p11.2
else
zyF204_54 x1 x2 x3 p10.1 p11.1 ((p11.1 - ((4 : Int32) * x2)) - p10.1) p11.2
else
zyF204_54 x1 x2 x3 p10.1 p11.1 (4 : Int32) p11.2
theorem zyC204 {X : zx_X}     {x1 : Int32} {x2 : Int32} {x3 : Int32} {s : zy_S} {r : Int32} {s' : zy_S}  (h : zyF204 x1 x2 x3 s = some (r, s')) : zyR X 104 204 0 [some (.ref (43 + 3)), some (.int x1), some (.int x2), some (.int x3), none, none, none, none, none] [] s (zyE (some (.int r)) s') := by
  unfold zyF204 at h
  refine zy_0 rfl rfl (show zyR _ _ _ _ [some (.ref (43 + 3)), some (.int x1), some (.int x2), some (.int x3), none, none, none, none, none] [.ref (43 + 3)] _ _ from ?_)
  refine zy_2 rfl rfl (show zyR _ _ _ _ [some (.ref (43 + 3)), some (.int x1), some (.int x2), some (.int x3), none, none, none, none, none] [.int x1, .ref (43 + 3)] _ _ from ?_)
  refine zy_2 rfl rfl (show zyR _ _ _ _ [some (.ref (43 + 3)), some (.int x1), some (.int x2), some (.int x3), none, none, none, none, none] [.int x2, .int x1, .ref (43 + 3)] _ _ from ?_)
  obtain ⟨p10, hp10, h⟩ := zy_bind h
  refine zy_5 (c := 43) (as := [.int x1, .int x2]) (rest := []) (L := [some (.ref (43 + 3)), some (.int x1), some (.int x2)]) (d' := 2) rfl rfl rfl (Nat.le_of_ble_eq_true rfl) (Nat.le_of_ble_eq_true rfl) rfl (Nat.le_of_ble_eq_true rfl) rfl rfl (zyC205 hp10) ?_
  show zyR _ _ _ _ [some (.ref (43 + 3)), some (.int x1), some (.int x2), some (.int x3), none, none, none, none, none] [.int p10.1] _ _
  refine zy_23 rfl rfl (show zyR _ _ _ _ [some (.ref (43 + 3)), some (.int x1), some (.int x2), some (.int x3), some (.int p10.1), none, none, none, none] [] _ _ from ?_)
  refine zy_2 rfl rfl (show zyR _ _ _ _ [some (.ref (43 + 3)), some (.int x1), some (.int x2), some (.int x3), some (.int p10.1), none, none, none, none] [.int x3] _ _ from ?_)
  refine zy_2 rfl rfl (show zyR _ _ _ _ [some (.ref (43 + 3)), some (.int x1), some (.int x2), some (.int x3), some (.int p10.1), none, none, none, none] [.int x2, .int x3] _ _ from ?_)
  refine zy_2 rfl rfl (show zyR _ _ _ _ [some (.ref (43 + 3)), some (.int x1), some (.int x2), some (.int x3), some (.int p10.1), none, none, none, none] [.int p10.1, .int x2, .int x3] _ _ from ?_)
  obtain ⟨p11, hp11, h⟩ := zy_bind h
  refine zy_60 (as := [.int x3, .int x2, .int p10.1]) (rest := []) (L := [some (.int x3), some (.int x2), some (.int p10.1), none, none, none, none]) (d' := 2) rfl rfl (Nat.le_of_ble_eq_true rfl) (Nat.le_of_ble_eq_true rfl) rfl (Nat.le_of_ble_eq_true rfl) rfl rfl (zyC207 hp11) ?_
  show zyR _ _ _ _ [some (.ref (43 + 3)), some (.int x1), some (.int x2), some (.int x3), some (.int p10.1), none, none, none, none] [.int p11.1] _ _
  refine zy_23 rfl rfl (show zyR _ _ _ _ [some (.ref (43 + 3)), some (.int x1), some (.int x2), some (.int x3), some (.int p10.1), some (.int p11.1), none, none, none] [] _ _ from ?_)
  refine zy_2 rfl rfl (show zyR _ _ _ _ [some (.ref (43 + 3)), some (.int x1), some (.int x2), some (.int x3), some (.int p10.1), some (.int p11.1), none, none, none] [.int p11.1] _ _ from ?_)
  refine zy_3 rfl rfl (show zyR _ _ _ _ [some (.ref (43 + 3)), some (.int x1), some (.int x2), some (.int x3), some (.int p10.1), some (.int p11.1), none, none, none] [.int (4 : Int32), .int p11.1] _ _ from ?_)
  refine zy_2 rfl rfl (show zyR _ _ _ _ [some (.ref (43 + 3)), some (.int x1), some (.int x2), some (.int x3), some (.int p10.1), some (.int p11.1), none, none, none] [.int x2, .int (4 : Int32), .int p11.1] _ _ from ?_)
  refine zy_12 rfl (show zyR _ _ _ _ [some (.ref (43 + 3)), some (.int x1), some (.int x2), some (.int x3), some (.int p10.1), some (.int p11.1), none, none, none] [.int ((4 : Int32) * x2), .int p11.1] _ _ from ?_)
  refine zy_11 rfl (show zyR _ _ _ _ [some (.ref (43 + 3)), some (.int x1), some (.int x2), some (.int x3), some (.int p10.1), some (.int p11.1), none, none, none] [.int (p11.1 - ((4 : Int32) * x2))] _ _ from ?_)
  refine zy_23 rfl rfl (show zyR _ _ _ _ [some (.ref (43 + 3)), some (.int x1), some (.int x2), some (.int x3), some (.int p10.1), some (.int p11.1), some (.int (p11.1 - ((4 : Int32) * x2))), none, none] [] _ _ from ?_)
  refine zy_2 rfl rfl (show zyR _ _ _ _ [some (.ref (43 + 3)), some (.int x1), some (.int x2), some (.int x3), some (.int p10.1), some (.int p11.1), some (.int (p11.1 - ((4 : Int32) * x2))), none, none] [.int p11.1] _ _ from ?_)
  refine zy_24_3 rfl (fun b13 => (show zyR _ _ _ _ [some (.ref (43 + 3)), some (.int x1), some (.int x2), some (.int x3), some (.int p10.1), some (.int p11.1), some (.int (p11.1 - ((4 : Int32) * x2))), none, none] [] _ _ from ?_)) (fun b13 => (show zyR _ _ _ _ [some (.ref (43 + 3)), some (.int x1), some (.int x2), some (.int x3), some (.int p10.1), some (.int p11.1), some (.int (p11.1 - ((4 : Int32) * x2))), none, none] [] _ _ from ?_))
  · replace h := zy_ifp h b13
    refine zy_2 rfl rfl (show zyR _ _ _ _ [some (.ref (43 + 3)), some (.int x1), some (.int x2), some (.int x3), some (.int p10.1), some (.int p11.1), some (.int (p11.1 - ((4 : Int32) * x2))), none, none] [.int (p11.1 - ((4 : Int32) * x2))] _ _ from ?_)
    refine zy_2 rfl rfl (show zyR _ _ _ _ [some (.ref (43 + 3)), some (.int x1), some (.int x2), some (.int x3), some (.int p10.1), some (.int p11.1), some (.int (p11.1 - ((4 : Int32) * x2))), none, none] [.int p10.1, .int (p11.1 - ((4 : Int32) * x2))] _ _ from ?_)
    refine zy_25_5 rfl (fun b12 => (show zyR _ _ _ _ [some (.ref (43 + 3)), some (.int x1), some (.int x2), some (.int x3), some (.int p10.1), some (.int p11.1), some (.int (p11.1 - ((4 : Int32) * x2))), none, none] [] _ _ from ?_)) (fun b12 => (show zyR _ _ _ _ [some (.ref (43 + 3)), some (.int x1), some (.int x2), some (.int x3), some (.int p10.1), some (.int p11.1), some (.int (p11.1 - ((4 : Int32) * x2))), none, none] [] _ _ from ?_))
    · replace h := zy_ifp h b12
      refine zy_2 rfl rfl (show zyR _ _ _ _ [some (.ref (43 + 3)), some (.int x1), some (.int x2), some (.int x3), some (.int p10.1), some (.int p11.1), some (.int (p11.1 - ((4 : Int32) * x2))), none, none] [.int p10.1] _ _ from ?_)
      refine zy_2 rfl rfl (show zyR _ _ _ _ [some (.ref (43 + 3)), some (.int x1), some (.int x2), some (.int x3), some (.int p10.1), some (.int p11.1), some (.int (p11.1 - ((4 : Int32) * x2))), none, none] [.int (p11.1 - ((4 : Int32) * x2)), .int p10.1] _ _ from ?_)
      refine zy_11 rfl (show zyR _ _ _ _ [some (.ref (43 + 3)), some (.int x1), some (.int x2), some (.int x3), some (.int p10.1), some (.int p11.1), some (.int (p11.1 - ((4 : Int32) * x2))), none, none] [.int (p10.1 - (p11.1 - ((4 : Int32) * x2)))] _ _ from ?_)
      exact zy_sub (show zy_le [some (.ref (43 + 3)), some (.int x1), some (.int x2), some (.int x3), some (.int p10.1), some (.int p11.1), none, none, none] [some (.ref (43 + 3)), some (.int x1), some (.int x2), some (.int x3), some (.int p10.1), some (.int p11.1), some (.int (p11.1 - ((4 : Int32) * x2))), none, none] from ⟨rfl, ⟨rfl, ⟨rfl, ⟨rfl, ⟨rfl, ⟨rfl, trivial⟩⟩⟩⟩⟩⟩) (zyC204_54 h)
    · replace h := zy_ifn h b12
      refine zy_2 rfl rfl (show zyR _ _ _ _ [some (.ref (43 + 3)), some (.int x1), some (.int x2), some (.int x3), some (.int p10.1), some (.int p11.1), some (.int (p11.1 - ((4 : Int32) * x2))), none, none] [.int (p11.1 - ((4 : Int32) * x2))] _ _ from ?_)
      refine zy_2 rfl rfl (show zyR _ _ _ _ [some (.ref (43 + 3)), some (.int x1), some (.int x2), some (.int x3), some (.int p10.1), some (.int p11.1), some (.int (p11.1 - ((4 : Int32) * x2))), none, none] [.int p10.1, .int (p11.1 - ((4 : Int32) * x2))] _ _ from ?_)
      refine zy_11 rfl (show zyR _ _ _ _ [some (.ref (43 + 3)), some (.int x1), some (.int x2), some (.int x3), some (.int p10.1), some (.int p11.1), some (.int (p11.1 - ((4 : Int32) * x2))), none, none] [.int ((p11.1 - ((4 : Int32) * x2)) - p10.1)] _ _ from ?_)
      refine zy_6 rfl (show zyR _ _ _ _ [some (.ref (43 + 3)), some (.int x1), some (.int x2), some (.int x3), some (.int p10.1), some (.int p11.1), some (.int (p11.1 - ((4 : Int32) * x2))), none, none] [.int ((p11.1 - ((4 : Int32) * x2)) - p10.1)] _ _ from ?_)
      exact zy_sub (show zy_le [some (.ref (43 + 3)), some (.int x1), some (.int x2), some (.int x3), some (.int p10.1), some (.int p11.1), none, none, none] [some (.ref (43 + 3)), some (.int x1), some (.int x2), some (.int x3), some (.int p10.1), some (.int p11.1), some (.int (p11.1 - ((4 : Int32) * x2))), none, none] from ⟨rfl, ⟨rfl, ⟨rfl, ⟨rfl, ⟨rfl, ⟨rfl, trivial⟩⟩⟩⟩⟩⟩) (zyC204_54 h)
  · replace h := zy_ifn h b13
    refine zy_3 rfl rfl (show zyR _ _ _ _ [some (.ref (43 + 3)), some (.int x1), some (.int x2), some (.int x3), some (.int p10.1), some (.int p11.1), some (.int (p11.1 - ((4 : Int32) * x2))), none, none] [.int (4 : Int32)] _ _ from ?_)
    refine zy_6 rfl (show zyR _ _ _ _ [some (.ref (43 + 3)), some (.int x1), some (.int x2), some (.int x3), some (.int p10.1), some (.int p11.1), some (.int (p11.1 - ((4 : Int32) * x2))), none, none] [.int (4 : Int32)] _ _ from ?_)
    exact zy_sub (show zy_le [some (.ref (43 + 3)), some (.int x1), some (.int x2), some (.int x3), some (.int p10.1), some (.int p11.1), none, none, none] [some (.ref (43 + 3)), some (.int x1), some (.int x2), some (.int x3), some (.int p10.1), some (.int p11.1), some (.int (p11.1 - ((4 : Int32) * x2))), none, none] from ⟨rfl, ⟨rfl, ⟨rfl, ⟨rfl, ⟨rfl, ⟨rfl, trivial⟩⟩⟩⟩⟩⟩) (zyC204_54 h)
/-! NineOpinionsModel.minds(II)I -/
noncomputable def zyF202_98  (k38 : Int32 → Int32 → Int32 → Int32 → zy_S → Option (Int32 × zy_S)) (k50 : Int32 → Int32 → Int32 → Int32 → Int32 → zy_S → Option (Int32 × zy_S)) (x1 : Int32) (x2 : Int32) (x4 : Int32) (x5 : Int32) (y0 : Int32) (y1 : Int32) (s : zy_S) : Option (Int32 × zy_S) :=
k50 x1 x2 (y1 + y0) x4 (x5 + (1 : Int32)) s
theorem zyC202_98 {X : zx_X}  {k38 : Int32 → Int32 → Int32 → Int32 → zy_S → Option (Int32 × zy_S)} {k50 : Int32 → Int32 → Int32 → Int32 → Int32 → zy_S → Option (Int32 × zy_S)}  (hk38 : ∀ (x1 : Int32) (x2 : Int32) (x3 : Int32) (x4 : Int32) (s : zy_S) (r : Int32) (s' : zy_S), k38 x1 x2 x3 x4 s = some (r, s') → zyR X 105 202 38 [some (.ref (43 + 3)), some (.int x1), some (.int x2), some (.int x3), some (.int x4), none] [] s (zyE (some (.int r)) s')) (hk50 : ∀ (x1 : Int32) (x2 : Int32) (x3 : Int32) (x4 : Int32) (x5 : Int32) (s : zy_S) (r : Int32) (s' : zy_S), k50 x1 x2 x3 x4 x5 s = some (r, s') → zyR X 105 202 50 [some (.ref (43 + 3)), some (.int x1), some (.int x2), some (.int x3), some (.int x4), some (.int x5)] [] s (zyE (some (.int r)) s')) {x1 : Int32} {x2 : Int32} {x4 : Int32} {x5 : Int32} {y0 : Int32} {y1 : Int32} {s : zy_S} {r : Int32} {s' : zy_S}  (h : zyF202_98 k38 k50 x1 x2 x4 x5 y0 y1 s = some (r, s')) : zyR X 105 202 98 [some (.ref (43 + 3)), some (.int x1), some (.int x2), none, some (.int x4), some (.int x5)] [.int y0, .int y1] s (zyE (some (.int r)) s') := by
  unfold zyF202_98 at h
  refine zy_10 rfl (show zyR _ _ _ _ [some (.ref (43 + 3)), some (.int x1), some (.int x2), none, some (.int x4), some (.int x5)] [.int (y1 + y0)] _ _ from ?_)
  refine zy_23 rfl rfl (show zyR _ _ _ _ [some (.ref (43 + 3)), some (.int x1), some (.int x2), some (.int (y1 + y0)), some (.int x4), some (.int x5)] [] _ _ from ?_)
  refine zy_22 rfl rfl rfl rfl (show zyR _ _ _ _ [some (.ref (43 + 3)), some (.int x1), some (.int x2), some (.int (y1 + y0)), some (.int x4), some (.int (x5 + (1 : Int32)))] [] _ _ from ?_)
  refine zy_6 rfl (show zyR _ _ _ _ [some (.ref (43 + 3)), some (.int x1), some (.int x2), some (.int (y1 + y0)), some (.int x4), some (.int (x5 + (1 : Int32)))] [] _ _ from ?_)
  exact zy_sub (show zy_le [some (.ref (43 + 3)), some (.int x1), some (.int x2), some (.int (y1 + y0)), some (.int x4), some (.int (x5 + (1 : Int32)))] [some (.ref (43 + 3)), some (.int x1), some (.int x2), some (.int (y1 + y0)), some (.int x4), some (.int (x5 + (1 : Int32)))] from ⟨rfl, ⟨rfl, ⟨rfl, ⟨rfl, ⟨rfl, ⟨rfl, trivial⟩⟩⟩⟩⟩⟩) (hk50 x1 x2 (y1 + y0) x4 (x5 + (1 : Int32)) s _ _ h)
noncomputable def zyF202_97  (k38 : Int32 → Int32 → Int32 → Int32 → zy_S → Option (Int32 × zy_S)) (k50 : Int32 → Int32 → Int32 → Int32 → Int32 → zy_S → Option (Int32 × zy_S)) (x1 : Int32) (x2 : Int32) (x4 : Int32) (x5 : Int32) (y0 : Int32) (s : zy_S) : Option (Int32 × zy_S) :=
zyF202_98 k38 k50 x1 x2 x4 x5 (0 : Int32) y0 s
theorem zyC202_97 {X : zx_X}  {k38 : Int32 → Int32 → Int32 → Int32 → zy_S → Option (Int32 × zy_S)} {k50 : Int32 → Int32 → Int32 → Int32 → Int32 → zy_S → Option (Int32 × zy_S)}  (hk38 : ∀ (x1 : Int32) (x2 : Int32) (x3 : Int32) (x4 : Int32) (s : zy_S) (r : Int32) (s' : zy_S), k38 x1 x2 x3 x4 s = some (r, s') → zyR X 105 202 38 [some (.ref (43 + 3)), some (.int x1), some (.int x2), some (.int x3), some (.int x4), none] [] s (zyE (some (.int r)) s')) (hk50 : ∀ (x1 : Int32) (x2 : Int32) (x3 : Int32) (x4 : Int32) (x5 : Int32) (s : zy_S) (r : Int32) (s' : zy_S), k50 x1 x2 x3 x4 x5 s = some (r, s') → zyR X 105 202 50 [some (.ref (43 + 3)), some (.int x1), some (.int x2), some (.int x3), some (.int x4), some (.int x5)] [] s (zyE (some (.int r)) s')) {x1 : Int32} {x2 : Int32} {x4 : Int32} {x5 : Int32} {y0 : Int32} {s : zy_S} {r : Int32} {s' : zy_S}  (h : zyF202_97 k38 k50 x1 x2 x4 x5 y0 s = some (r, s')) : zyR X 105 202 97 [some (.ref (43 + 3)), some (.int x1), some (.int x2), none, some (.int x4), some (.int x5)] [.int y0] s (zyE (some (.int r)) s') := by
  unfold zyF202_97 at h
  refine zy_3 rfl rfl (show zyR _ _ _ _ [some (.ref (43 + 3)), some (.int x1), some (.int x2), none, some (.int x4), some (.int x5)] [.int (0 : Int32), .int y0] _ _ from ?_)
  exact zy_sub (show zy_le [some (.ref (43 + 3)), some (.int x1), some (.int x2), none, some (.int x4), some (.int x5)] [some (.ref (43 + 3)), some (.int x1), some (.int x2), none, some (.int x4), some (.int x5)] from ⟨rfl, ⟨rfl, ⟨rfl, ⟨rfl, ⟨rfl, trivial⟩⟩⟩⟩⟩) (zyC202_98 hk38 hk50 h)
noncomputable def zyF202_82  (k38 : Int32 → Int32 → Int32 → Int32 → zy_S → Option (Int32 × zy_S)) (k50 : Int32 → Int32 → Int32 → Int32 → Int32 → zy_S → Option (Int32 × zy_S)) (x1 : Int32) (x2 : Int32) (x4 : Int32) (x5 : Int32) (y0 : Int32) (s : zy_S) : Option (Int32 × zy_S) :=
(zyF204 x4 x5 (s.1 43 7) s).bind fun p1 =>
zyF202_98 k38 k50 x1 x2 x4 x5 p1.1 y0 p1.2
theorem zyC202_82 {X : zx_X}  {k38 : Int32 → Int32 → Int32 → Int32 → zy_S → Option (Int32 × zy_S)} {k50 : Int32 → Int32 → Int32 → Int32 → Int32 → zy_S → Option (Int32 × zy_S)}  (hk38 : ∀ (x1 : Int32) (x2 : Int32) (x3 : Int32) (x4 : Int32) (s : zy_S) (r : Int32) (s' : zy_S), k38 x1 x2 x3 x4 s = some (r, s') → zyR X 105 202 38 [some (.ref (43 + 3)), some (.int x1), some (.int x2), some (.int x3), some (.int x4), none] [] s (zyE (some (.int r)) s')) (hk50 : ∀ (x1 : Int32) (x2 : Int32) (x3 : Int32) (x4 : Int32) (x5 : Int32) (s : zy_S) (r : Int32) (s' : zy_S), k50 x1 x2 x3 x4 x5 s = some (r, s') → zyR X 105 202 50 [some (.ref (43 + 3)), some (.int x1), some (.int x2), some (.int x3), some (.int x4), some (.int x5)] [] s (zyE (some (.int r)) s')) {x1 : Int32} {x2 : Int32} {x4 : Int32} {x5 : Int32} {y0 : Int32} {s : zy_S} {r : Int32} {s' : zy_S}  (h : zyF202_82 k38 k50 x1 x2 x4 x5 y0 s = some (r, s')) : zyR X 105 202 82 [some (.ref (43 + 3)), some (.int x1), some (.int x2), none, some (.int x4), some (.int x5)] [.int y0] s (zyE (some (.int r)) s') := by
  unfold zyF202_82 at h
  refine zy_0 rfl rfl (show zyR _ _ _ _ [some (.ref (43 + 3)), some (.int x1), some (.int x2), none, some (.int x4), some (.int x5)] [.ref (43 + 3), .int y0] _ _ from ?_)
  refine zy_2 rfl rfl (show zyR _ _ _ _ [some (.ref (43 + 3)), some (.int x1), some (.int x2), none, some (.int x4), some (.int x5)] [.int x4, .ref (43 + 3), .int y0] _ _ from ?_)
  refine zy_2 rfl rfl (show zyR _ _ _ _ [some (.ref (43 + 3)), some (.int x1), some (.int x2), none, some (.int x4), some (.int x5)] [.int x5, .int x4, .ref (43 + 3), .int y0] _ _ from ?_)
  refine zy_0 rfl rfl (show zyR _ _ _ _ [some (.ref (43 + 3)), some (.int x1), some (.int x2), none, some (.int x4), some (.int x5)] [.ref (43 + 3), .int x5, .int x4, .ref (43 + 3), .int y0] _ _ from ?_)
  refine zy_1 (c := 43) rfl rfl rfl (show zyR _ _ _ _ [some (.ref (43 + 3)), some (.int x1), some (.int x2), none, some (.int x4), some (.int x5)] [.int (s.1 43 7), .int x5, .int x4, .ref (43 + 3), .int y0] _ _ from ?_)
  obtain ⟨p1, hp1, h⟩ := zy_bind h
  refine zy_5 (c := 43) (as := [.int x4, .int x5, .int (s.1 43 7)]) (rest := [.int y0]) (L := [some (.ref (43 + 3)), some (.int x4), some (.int x5), some (.int (s.1 43 7)), none, none, none, none, none]) (d' := 104) rfl rfl rfl (Nat.le_of_ble_eq_true rfl) (Nat.le_of_ble_eq_true rfl) rfl (Nat.le_of_ble_eq_true rfl) rfl rfl (zyC204 hp1) ?_
  show zyR _ _ _ _ [some (.ref (43 + 3)), some (.int x1), some (.int x2), none, some (.int x4), some (.int x5)] [.int p1.1, .int y0] _ _
  refine zy_6 rfl (show zyR _ _ _ _ [some (.ref (43 + 3)), some (.int x1), some (.int x2), none, some (.int x4), some (.int x5)] [.int p1.1, .int y0] _ _ from ?_)
  exact zy_sub (show zy_le [some (.ref (43 + 3)), some (.int x1), some (.int x2), none, some (.int x4), some (.int x5)] [some (.ref (43 + 3)), some (.int x1), some (.int x2), none, some (.int x4), some (.int x5)] from ⟨rfl, ⟨rfl, ⟨rfl, ⟨rfl, ⟨rfl, trivial⟩⟩⟩⟩⟩) (zyC202_98 hk38 hk50 h)
noncomputable def zyF202_70  (k38 : Int32 → Int32 → Int32 → Int32 → zy_S → Option (Int32 × zy_S)) (k50 : Int32 → Int32 → Int32 → Int32 → Int32 → zy_S → Option (Int32 × zy_S)) (x1 : Int32) (x2 : Int32) (x4 : Int32) (x5 : Int32) (y0 : Int32) (s : zy_S) : Option (Int32 × zy_S) :=
if x2 = (6 : Int32) then
zyF202_82 k38 k50 x1 x2 x4 x5 y0 s
else
if x2 ≠ x5 then
zyF202_97 k38 k50 x1 x2 x4 x5 y0 s
else
zyF202_82 k38 k50 x1 x2 x4 x5 y0 s
theorem zyC202_70 {X : zx_X}  {k38 : Int32 → Int32 → Int32 → Int32 → zy_S → Option (Int32 × zy_S)} {k50 : Int32 → Int32 → Int32 → Int32 → Int32 → zy_S → Option (Int32 × zy_S)}  (hk38 : ∀ (x1 : Int32) (x2 : Int32) (x3 : Int32) (x4 : Int32) (s : zy_S) (r : Int32) (s' : zy_S), k38 x1 x2 x3 x4 s = some (r, s') → zyR X 105 202 38 [some (.ref (43 + 3)), some (.int x1), some (.int x2), some (.int x3), some (.int x4), none] [] s (zyE (some (.int r)) s')) (hk50 : ∀ (x1 : Int32) (x2 : Int32) (x3 : Int32) (x4 : Int32) (x5 : Int32) (s : zy_S) (r : Int32) (s' : zy_S), k50 x1 x2 x3 x4 x5 s = some (r, s') → zyR X 105 202 50 [some (.ref (43 + 3)), some (.int x1), some (.int x2), some (.int x3), some (.int x4), some (.int x5)] [] s (zyE (some (.int r)) s')) {x1 : Int32} {x2 : Int32} {x4 : Int32} {x5 : Int32} {y0 : Int32} {s : zy_S} {r : Int32} {s' : zy_S}  (h : zyF202_70 k38 k50 x1 x2 x4 x5 y0 s = some (r, s')) : zyR X 105 202 70 [some (.ref (43 + 3)), some (.int x1), some (.int x2), none, some (.int x4), some (.int x5)] [.int y0] s (zyE (some (.int r)) s') := by
  unfold zyF202_70 at h
  refine zy_2 rfl rfl (show zyR _ _ _ _ [some (.ref (43 + 3)), some (.int x1), some (.int x2), none, some (.int x4), some (.int x5)] [.int x2, .int y0] _ _ from ?_)
  refine zy_3 rfl rfl (show zyR _ _ _ _ [some (.ref (43 + 3)), some (.int x1), some (.int x2), none, some (.int x4), some (.int x5)] [.int (6 : Int32), .int x2, .int y0] _ _ from ?_)
  refine zy_25_0 rfl (fun b3 => (show zyR _ _ _ _ [some (.ref (43 + 3)), some (.int x1), some (.int x2), none, some (.int x4), some (.int x5)] [.int y0] _ _ from ?_)) (fun b3 => (show zyR _ _ _ _ [some (.ref (43 + 3)), some (.int x1), some (.int x2), none, some (.int x4), some (.int x5)] [.int y0] _ _ from ?_))
  · replace h := zy_ifp h b3
    exact zy_sub (show zy_le [some (.ref (43 + 3)), some (.int x1), some (.int x2), none, some (.int x4), some (.int x5)] [some (.ref (43 + 3)), some (.int x1), some (.int x2), none, some (.int x4), some (.int x5)] from ⟨rfl, ⟨rfl, ⟨rfl, ⟨rfl, ⟨rfl, trivial⟩⟩⟩⟩⟩) (zyC202_82 hk38 hk50 h)
  · replace h := zy_ifn h b3
    refine zy_2 rfl rfl (show zyR _ _ _ _ [some (.ref (43 + 3)), some (.int x1), some (.int x2), none, some (.int x4), some (.int x5)] [.int x2, .int y0] _ _ from ?_)
    refine zy_2 rfl rfl (show zyR _ _ _ _ [some (.ref (43 + 3)), some (.int x1), some (.int x2), none, some (.int x4), some (.int x5)] [.int x5, .int x2, .int y0] _ _ from ?_)
    refine zy_25_1 rfl (fun b2 => (show zyR _ _ _ _ [some (.ref (43 + 3)), some (.int x1), some (.int x2), none, some (.int x4), some (.int x5)] [.int y0] _ _ from ?_)) (fun b2 => (show zyR _ _ _ _ [some (.ref (43 + 3)), some (.int x1), some (.int x2), none, some (.int x4), some (.int x5)] [.int y0] _ _ from ?_))
    · replace h := zy_ifp h b2
      exact zy_sub (show zy_le [some (.ref (43 + 3)), some (.int x1), some (.int x2), none, some (.int x4), some (.int x5)] [some (.ref (43 + 3)), some (.int x1), some (.int x2), none, some (.int x4), some (.int x5)] from ⟨rfl, ⟨rfl, ⟨rfl, ⟨rfl, ⟨rfl, trivial⟩⟩⟩⟩⟩) (zyC202_97 hk38 hk50 h)
    · replace h := zy_ifn h b2
      exact zy_sub (show zy_le [some (.ref (43 + 3)), some (.int x1), some (.int x2), none, some (.int x4), some (.int x5)] [some (.ref (43 + 3)), some (.int x1), some (.int x2), none, some (.int x4), some (.int x5)] from ⟨rfl, ⟨rfl, ⟨rfl, ⟨rfl, ⟨rfl, trivial⟩⟩⟩⟩⟩) (zyC202_82 hk38 hk50 h)
noncomputable def zyF202_50b  (k38 : Int32 → Int32 → Int32 → Int32 → zy_S → Option (Int32 × zy_S)) (k50 : Int32 → Int32 → Int32 → Int32 → Int32 → zy_S → Option (Int32 × zy_S)) (x1 : Int32) (x2 : Int32) (x3 : Int32) (x4 : Int32) (x5 : Int32) (s : zy_S) : Option (Int32 × zy_S) :=
if (6 : Int32) ≤ x5 then
k38 x1 x2 x3 (x4 + (1 : Int32)) s
else
if x1 = (8 : Int32) then
zyF202_70 k38 k50 x1 x2 x4 x5 x3 s
else
if x1 ≠ x4 then
zyF202_97 k38 k50 x1 x2 x4 x5 x3 s
else
zyF202_70 k38 k50 x1 x2 x4 x5 x3 s
theorem zyC202_50b {X : zx_X}  {k38 : Int32 → Int32 → Int32 → Int32 → zy_S → Option (Int32 × zy_S)} {k50 : Int32 → Int32 → Int32 → Int32 → Int32 → zy_S → Option (Int32 × zy_S)}  (hk38 : ∀ (x1 : Int32) (x2 : Int32) (x3 : Int32) (x4 : Int32) (s : zy_S) (r : Int32) (s' : zy_S), k38 x1 x2 x3 x4 s = some (r, s') → zyR X 105 202 38 [some (.ref (43 + 3)), some (.int x1), some (.int x2), some (.int x3), some (.int x4), none] [] s (zyE (some (.int r)) s')) (hk50 : ∀ (x1 : Int32) (x2 : Int32) (x3 : Int32) (x4 : Int32) (x5 : Int32) (s : zy_S) (r : Int32) (s' : zy_S), k50 x1 x2 x3 x4 x5 s = some (r, s') → zyR X 105 202 50 [some (.ref (43 + 3)), some (.int x1), some (.int x2), some (.int x3), some (.int x4), some (.int x5)] [] s (zyE (some (.int r)) s')) {x1 : Int32} {x2 : Int32} {x3 : Int32} {x4 : Int32} {x5 : Int32} {s : zy_S} {r : Int32} {s' : zy_S}  (h : zyF202_50b k38 k50 x1 x2 x3 x4 x5 s = some (r, s')) : zyR X 105 202 50 [some (.ref (43 + 3)), some (.int x1), some (.int x2), some (.int x3), some (.int x4), some (.int x5)] [] s (zyE (some (.int r)) s') := by
  unfold zyF202_50b at h
  refine zy_2 rfl rfl (show zyR _ _ _ _ [some (.ref (43 + 3)), some (.int x1), some (.int x2), some (.int x3), some (.int x4), some (.int x5)] [.int x5] _ _ from ?_)
  refine zy_3 rfl rfl (show zyR _ _ _ _ [some (.ref (43 + 3)), some (.int x1), some (.int x2), some (.int x3), some (.int x4), some (.int x5)] [.int (6 : Int32), .int x5] _ _ from ?_)
  refine zy_25_3 rfl (fun b6 => (show zyR _ _ _ _ [some (.ref (43 + 3)), some (.int x1), some (.int x2), some (.int x3), some (.int x4), some (.int x5)] [] _ _ from ?_)) (fun b6 => (show zyR _ _ _ _ [some (.ref (43 + 3)), some (.int x1), some (.int x2), some (.int x3), some (.int x4), some (.int x5)] [] _ _ from ?_))
  · replace h := zy_ifp h b6
    refine zy_22 rfl rfl rfl rfl (show zyR _ _ _ _ [some (.ref (43 + 3)), some (.int x1), some (.int x2), some (.int x3), some (.int (x4 + (1 : Int32))), some (.int x5)] [] _ _ from ?_)
    refine zy_6 rfl (show zyR _ _ _ _ [some (.ref (43 + 3)), some (.int x1), some (.int x2), some (.int x3), some (.int (x4 + (1 : Int32))), some (.int x5)] [] _ _ from ?_)
    exact zy_sub (show zy_le [some (.ref (43 + 3)), some (.int x1), some (.int x2), some (.int x3), some (.int (x4 + (1 : Int32))), none] [some (.ref (43 + 3)), some (.int x1), some (.int x2), some (.int x3), some (.int (x4 + (1 : Int32))), some (.int x5)] from ⟨rfl, ⟨rfl, ⟨rfl, ⟨rfl, ⟨rfl, trivial⟩⟩⟩⟩⟩) (hk38 x1 x2 x3 (x4 + (1 : Int32)) s _ _ h)
  · replace h := zy_ifn h b6
    refine zy_2 rfl rfl (show zyR _ _ _ _ [some (.ref (43 + 3)), some (.int x1), some (.int x2), some (.int x3), some (.int x4), some (.int x5)] [.int x3] _ _ from ?_)
    refine zy_2 rfl rfl (show zyR _ _ _ _ [some (.ref (43 + 3)), some (.int x1), some (.int x2), some (.int x3), some (.int x4), some (.int x5)] [.int x1, .int x3] _ _ from ?_)
    refine zy_3 rfl rfl (show zyR _ _ _ _ [some (.ref (43 + 3)), some (.int x1), some (.int x2), some (.int x3), some (.int x4), some (.int x5)] [.int (8 : Int32), .int x1, .int x3] _ _ from ?_)
    refine zy_25_0 rfl (fun b5 => (show zyR _ _ _ _ [some (.ref (43 + 3)), some (.int x1), some (.int x2), some (.int x3), some (.int x4), some (.int x5)] [.int x3] _ _ from ?_)) (fun b5 => (show zyR _ _ _ _ [some (.ref (43 + 3)), some (.int x1), some (.int x2), some (.int x3), some (.int x4), some (.int x5)] [.int x3] _ _ from ?_))
    · replace h := zy_ifp h b5
      exact zy_sub (show zy_le [some (.ref (43 + 3)), some (.int x1), some (.int x2), none, some (.int x4), some (.int x5)] [some (.ref (43 + 3)), some (.int x1), some (.int x2), some (.int x3), some (.int x4), some (.int x5)] from ⟨rfl, ⟨rfl, ⟨rfl, ⟨rfl, ⟨rfl, trivial⟩⟩⟩⟩⟩) (zyC202_70 hk38 hk50 h)
    · replace h := zy_ifn h b5
      refine zy_2 rfl rfl (show zyR _ _ _ _ [some (.ref (43 + 3)), some (.int x1), some (.int x2), some (.int x3), some (.int x4), some (.int x5)] [.int x1, .int x3] _ _ from ?_)
      refine zy_2 rfl rfl (show zyR _ _ _ _ [some (.ref (43 + 3)), some (.int x1), some (.int x2), some (.int x3), some (.int x4), some (.int x5)] [.int x4, .int x1, .int x3] _ _ from ?_)
      refine zy_25_1 rfl (fun b4 => (show zyR _ _ _ _ [some (.ref (43 + 3)), some (.int x1), some (.int x2), some (.int x3), some (.int x4), some (.int x5)] [.int x3] _ _ from ?_)) (fun b4 => (show zyR _ _ _ _ [some (.ref (43 + 3)), some (.int x1), some (.int x2), some (.int x3), some (.int x4), some (.int x5)] [.int x3] _ _ from ?_))
      · replace h := zy_ifp h b4
        exact zy_sub (show zy_le [some (.ref (43 + 3)), some (.int x1), some (.int x2), none, some (.int x4), some (.int x5)] [some (.ref (43 + 3)), some (.int x1), some (.int x2), some (.int x3), some (.int x4), some (.int x5)] from ⟨rfl, ⟨rfl, ⟨rfl, ⟨rfl, ⟨rfl, trivial⟩⟩⟩⟩⟩) (zyC202_97 hk38 hk50 h)
      · replace h := zy_ifn h b4
        exact zy_sub (show zy_le [some (.ref (43 + 3)), some (.int x1), some (.int x2), none, some (.int x4), some (.int x5)] [some (.ref (43 + 3)), some (.int x1), some (.int x2), some (.int x3), some (.int x4), some (.int x5)] from ⟨rfl, ⟨rfl, ⟨rfl, ⟨rfl, ⟨rfl, trivial⟩⟩⟩⟩⟩) (zyC202_70 hk38 hk50 h)
noncomputable def zyF202_50  (k38 : Int32 → Int32 → Int32 → Int32 → zy_S → Option (Int32 × zy_S)) (n : Nat) : Int32 → Int32 → Int32 → Int32 → Int32 → zy_S → Option (Int32 × zy_S) := Nat.rec (fun _ _ _ _ _ _ => none) (fun _ k50 => zyF202_50b k38 k50) n
theorem zyC202_50 {X : zx_X}  {k38 : Int32 → Int32 → Int32 → Int32 → zy_S → Option (Int32 × zy_S)}  (hk38 : ∀ (x1 : Int32) (x2 : Int32) (x3 : Int32) (x4 : Int32) (s : zy_S) (r : Int32) (s' : zy_S), k38 x1 x2 x3 x4 s = some (r, s') → zyR X 105 202 38 [some (.ref (43 + 3)), some (.int x1), some (.int x2), some (.int x3), some (.int x4), none] [] s (zyE (some (.int r)) s')) : ∀ (n : Nat) (x1 : Int32) (x2 : Int32) (x3 : Int32) (x4 : Int32) (x5 : Int32) (s : zy_S) (r : Int32) (s' : zy_S), zyF202_50 k38 n x1 x2 x3 x4 x5 s = some (r, s') → zyR X 105 202 50 [some (.ref (43 + 3)), some (.int x1), some (.int x2), some (.int x3), some (.int x4), some (.int x5)] [] s (zyE (some (.int r)) s')
  | 0, _, _, _, _, _ => by
    intro s r s'  h
    have h : (none : Option (Int32 × zy_S)) = some (r, s') := h
    cases h
  | n + 1, x1, x2, x3, x4, x5 => by
    intro s r s'  h
    exact zyC202_50b (k50 := zyF202_50 k38 n) hk38 (fun x1 x2 x3 x4 x5 s r s'  h => zyC202_50 hk38 n x1 x2 x3 x4 x5 s r s'  h) h
noncomputable def zyF202_38b  (k38 : Int32 → Int32 → Int32 → Int32 → zy_S → Option (Int32 × zy_S)) (x1 : Int32) (x2 : Int32) (x3 : Int32) (x4 : Int32) (s : zy_S) : Option (Int32 × zy_S) :=
if (s.1 43 6) ≤ x4 then
some (x3, s)
else
zyF202_50 k38 zy_fu x1 x2 x3 x4 (0 : Int32) s
theorem zyC202_38b {X : zx_X}  {k38 : Int32 → Int32 → Int32 → Int32 → zy_S → Option (Int32 × zy_S)}  (hk38 : ∀ (x1 : Int32) (x2 : Int32) (x3 : Int32) (x4 : Int32) (s : zy_S) (r : Int32) (s' : zy_S), k38 x1 x2 x3 x4 s = some (r, s') → zyR X 105 202 38 [some (.ref (43 + 3)), some (.int x1), some (.int x2), some (.int x3), some (.int x4), none] [] s (zyE (some (.int r)) s')) {x1 : Int32} {x2 : Int32} {x3 : Int32} {x4 : Int32} {s : zy_S} {r : Int32} {s' : zy_S}  (h : zyF202_38b k38 x1 x2 x3 x4 s = some (r, s')) : zyR X 105 202 38 [some (.ref (43 + 3)), some (.int x1), some (.int x2), some (.int x3), some (.int x4), none] [] s (zyE (some (.int r)) s') := by
  unfold zyF202_38b at h
  refine zy_2 rfl rfl (show zyR _ _ _ _ [some (.ref (43 + 3)), some (.int x1), some (.int x2), some (.int x3), some (.int x4), none] [.int x4] _ _ from ?_)
  refine zy_0 rfl rfl (show zyR _ _ _ _ [some (.ref (43 + 3)), some (.int x1), some (.int x2), some (.int x3), some (.int x4), none] [.ref (43 + 3), .int x4] _ _ from ?_)
  refine zy_1 (c := 43) rfl rfl rfl (show zyR _ _ _ _ [some (.ref (43 + 3)), some (.int x1), some (.int x2), some (.int x3), some (.int x4), none] [.int (s.1 43 6), .int x4] _ _ from ?_)
  refine zy_25_3 rfl (fun b7 => (show zyR _ _ _ _ [some (.ref (43 + 3)), some (.int x1), some (.int x2), some (.int x3), some (.int x4), none] [] _ _ from ?_)) (fun b7 => (show zyR _ _ _ _ [some (.ref (43 + 3)), some (.int x1), some (.int x2), some (.int x3), some (.int x4), none] [] _ _ from ?_))
  · replace h := zy_ifp h b7
    refine zy_2 rfl rfl (show zyR _ _ _ _ [some (.ref (43 + 3)), some (.int x1), some (.int x2), some (.int x3), some (.int x4), none] [.int x3] _ _ from ?_)
    obtain ⟨rfl, rfl⟩ := zy_pi h
    exact zy_4 rfl ⟨rfl, rfl⟩
  · replace h := zy_ifn h b7
    refine zy_3 rfl rfl (show zyR _ _ _ _ [some (.ref (43 + 3)), some (.int x1), some (.int x2), some (.int x3), some (.int x4), none] [.int (0 : Int32)] _ _ from ?_)
    refine zy_23 rfl rfl (show zyR _ _ _ _ [some (.ref (43 + 3)), some (.int x1), some (.int x2), some (.int x3), some (.int x4), some (.int (0 : Int32))] [] _ _ from ?_)
    exact zy_sub (show zy_le [some (.ref (43 + 3)), some (.int x1), some (.int x2), some (.int x3), some (.int x4), some (.int (0 : Int32))] [some (.ref (43 + 3)), some (.int x1), some (.int x2), some (.int x3), some (.int x4), some (.int (0 : Int32))] from ⟨rfl, ⟨rfl, ⟨rfl, ⟨rfl, ⟨rfl, ⟨rfl, trivial⟩⟩⟩⟩⟩⟩) (zyC202_50 hk38 zy_fu x1 x2 x3 x4 (0 : Int32) s _ _ h)
noncomputable def zyF202_38   (n : Nat) : Int32 → Int32 → Int32 → Int32 → zy_S → Option (Int32 × zy_S) := Nat.rec (fun _ _ _ _ _ => none) (fun _ k38 => zyF202_38b k38) n
theorem zyC202_38 {X : zx_X}     : ∀ (n : Nat) (x1 : Int32) (x2 : Int32) (x3 : Int32) (x4 : Int32) (s : zy_S) (r : Int32) (s' : zy_S), zyF202_38 n x1 x2 x3 x4 s = some (r, s') → zyR X 105 202 38 [some (.ref (43 + 3)), some (.int x1), some (.int x2), some (.int x3), some (.int x4), none] [] s (zyE (some (.int r)) s')
  | 0, _, _, _, _ => by
    intro s r s'  h
    have h : (none : Option (Int32 × zy_S)) = some (r, s') := h
    cases h
  | n + 1, x1, x2, x3, x4 => by
    intro s r s'  h
    exact zyC202_38b (k38 := zyF202_38 n) (fun x1 x2 x3 x4 s r s'  h => zyC202_38  n x1 x2 x3 x4 s r s'  h) h
noncomputable def zyF202_15   (x1 : Int32) (x2 : Int32) (s : zy_S) : Option (Int32 × zy_S) :=
(zyF179 (x2).toInt64 (0 : Int64) (6 : Int64) s).bind fun p8 =>
if p8.1 ≠ 0 then
(zyF203 p8.2).bind fun p9 =>
zyF202_38 zy_fu x1 x2 (0 : Int32) (0 : Int32) p9.2
else
some ((-1 : Int32), p8.2)
theorem zyC202_15 {X : zx_X}     {x1 : Int32} {x2 : Int32} {s : zy_S} {r : Int32} {s' : zy_S}  (h : zyF202_15 x1 x2 s = some (r, s')) : zyR X 105 202 15 [some (.ref (43 + 3)), some (.int x1), some (.int x2), none, none, none] [] s (zyE (some (.int r)) s') := by
  unfold zyF202_15 at h
  refine zy_2 rfl rfl (show zyR _ _ _ _ [some (.ref (43 + 3)), some (.int x1), some (.int x2), none, none, none] [.int x2] _ _ from ?_)
  refine zy_40 rfl (show zyR _ _ _ _ [some (.ref (43 + 3)), some (.int x1), some (.int x2), none, none, none] [.long (x2).toInt64] _ _ from ?_)
  refine zy_36 rfl rfl (show zyR _ _ _ _ [some (.ref (43 + 3)), some (.int x1), some (.int x2), none, none, none] [.long (0 : Int64), .long (x2).toInt64] _ _ from ?_)
  refine zy_36c rfl rfl (show zyR _ _ _ _ [some (.ref (43 + 3)), some (.int x1), some (.int x2), none, none, none] [.long (6 : Int64), .long (0 : Int64), .long (x2).toInt64] _ _ from ?_)
  obtain ⟨p8, hp8, h⟩ := zy_bind h
  refine zy_60 (as := [.long (x2).toInt64, .long (0 : Int64), .long (6 : Int64)]) (rest := []) (L := [some (.long (x2).toInt64), none, some (.long (0 : Int64)), none, some (.long (6 : Int64)), none]) (d' := 1) rfl rfl (Nat.le_of_ble_eq_true rfl) (Nat.le_of_ble_eq_true rfl) rfl (Nat.le_of_ble_eq_true rfl) rfl rfl (zyC179 hp8) ?_
  show zyR _ _ _ _ [some (.ref (43 + 3)), some (.int x1), some (.int x2), none, none, none] [.int p8.1] _ _
  refine zy_24_1 rfl (fun b10 => (show zyR _ _ _ _ [some (.ref (43 + 3)), some (.int x1), some (.int x2), none, none, none] [] _ _ from ?_)) (fun b10 => (show zyR _ _ _ _ [some (.ref (43 + 3)), some (.int x1), some (.int x2), none, none, none] [] _ _ from ?_))
  · replace h := zy_ifp h b10
    refine zy_0 rfl rfl (show zyR _ _ _ _ [some (.ref (43 + 3)), some (.int x1), some (.int x2), none, none, none] [.ref (43 + 3)] _ _ from ?_)
    obtain ⟨p9, hp9, h⟩ := zy_bind h
    refine zy_5 (c := 43) (as := []) (rest := []) (L := [some (.ref (43 + 3)), none]) (d' := 1) rfl rfl rfl (Nat.le_of_ble_eq_true rfl) (Nat.le_of_ble_eq_true rfl) rfl (Nat.le_of_ble_eq_true rfl) rfl rfl (zyC203 hp9) ?_
    show zyR _ _ _ _ [some (.ref (43 + 3)), some (.int x1), some (.int x2), none, none, none] [] _ _
    refine zy_3 rfl rfl (show zyR _ _ _ _ [some (.ref (43 + 3)), some (.int x1), some (.int x2), none, none, none] [.int (0 : Int32)] _ _ from ?_)
    refine zy_23 rfl rfl (show zyR _ _ _ _ [some (.ref (43 + 3)), some (.int x1), some (.int x2), some (.int (0 : Int32)), none, none] [] _ _ from ?_)
    refine zy_3 rfl rfl (show zyR _ _ _ _ [some (.ref (43 + 3)), some (.int x1), some (.int x2), some (.int (0 : Int32)), none, none] [.int (0 : Int32)] _ _ from ?_)
    refine zy_23 rfl rfl (show zyR _ _ _ _ [some (.ref (43 + 3)), some (.int x1), some (.int x2), some (.int (0 : Int32)), some (.int (0 : Int32)), none] [] _ _ from ?_)
    exact zy_sub (show zy_le [some (.ref (43 + 3)), some (.int x1), some (.int x2), some (.int (0 : Int32)), some (.int (0 : Int32)), none] [some (.ref (43 + 3)), some (.int x1), some (.int x2), some (.int (0 : Int32)), some (.int (0 : Int32)), none] from ⟨rfl, ⟨rfl, ⟨rfl, ⟨rfl, ⟨rfl, trivial⟩⟩⟩⟩⟩) (zyC202_38 zy_fu x1 x2 (0 : Int32) (0 : Int32) p9.2 _ _ h)
  · replace h := zy_ifn h b10
    refine zy_3 rfl rfl (show zyR _ _ _ _ [some (.ref (43 + 3)), some (.int x1), some (.int x2), none, none, none] [.int (-1 : Int32)] _ _ from ?_)
    obtain ⟨rfl, rfl⟩ := zy_pi h
    exact zy_4 rfl ⟨rfl, rfl⟩
noncomputable def zyF202   (x1 : Int32) (x2 : Int32) (s : zy_S) : Option (Int32 × zy_S) :=
if x1 = (8 : Int32) then
zyF202_15 x1 x2 s
else
(zyF185 (x1).toInt64 s).bind fun p11 =>
if p11.1 = 0 then
some ((-1 : Int32), p11.2)
else
zyF202_15 x1 x2 p11.2
theorem zyC202 {X : zx_X}     {x1 : Int32} {x2 : Int32} {s : zy_S} {r : Int32} {s' : zy_S}  (h : zyF202 x1 x2 s = some (r, s')) : zyR X 105 202 0 [some (.ref (43 + 3)), some (.int x1), some (.int x2), none, none, none] [] s (zyE (some (.int r)) s') := by
  unfold zyF202 at h
  refine zy_2 rfl rfl (show zyR _ _ _ _ [some (.ref (43 + 3)), some (.int x1), some (.int x2), none, none, none] [.int x1] _ _ from ?_)
  refine zy_3 rfl rfl (show zyR _ _ _ _ [some (.ref (43 + 3)), some (.int x1), some (.int x2), none, none, none] [.int (8 : Int32), .int x1] _ _ from ?_)
  refine zy_25_0 rfl (fun b13 => (show zyR _ _ _ _ [some (.ref (43 + 3)), some (.int x1), some (.int x2), none, none, none] [] _ _ from ?_)) (fun b13 => (show zyR _ _ _ _ [some (.ref (43 + 3)), some (.int x1), some (.int x2), none, none, none] [] _ _ from ?_))
  · replace h := zy_ifp h b13
    exact zy_sub (show zy_le [some (.ref (43 + 3)), some (.int x1), some (.int x2), none, none, none] [some (.ref (43 + 3)), some (.int x1), some (.int x2), none, none, none] from ⟨rfl, ⟨rfl, ⟨rfl, trivial⟩⟩⟩) (zyC202_15 h)
  · replace h := zy_ifn h b13
    refine zy_0 rfl rfl (show zyR _ _ _ _ [some (.ref (43 + 3)), some (.int x1), some (.int x2), none, none, none] [.ref (43 + 3)] _ _ from ?_)
    refine zy_2 rfl rfl (show zyR _ _ _ _ [some (.ref (43 + 3)), some (.int x1), some (.int x2), none, none, none] [.int x1, .ref (43 + 3)] _ _ from ?_)
    refine zy_40 rfl (show zyR _ _ _ _ [some (.ref (43 + 3)), some (.int x1), some (.int x2), none, none, none] [.long (x1).toInt64, .ref (43 + 3)] _ _ from ?_)
    obtain ⟨p11, hp11, h⟩ := zy_bind h
    refine zy_5 (c := 43) (as := [.long (x1).toInt64]) (rest := []) (L := [some (.ref (43 + 3)), some (.long (x1).toInt64), none]) (d' := 2) rfl rfl rfl (Nat.le_of_ble_eq_true rfl) (Nat.le_of_ble_eq_true rfl) rfl (Nat.le_of_ble_eq_true rfl) rfl rfl (zyC185 hp11) ?_
    show zyR _ _ _ _ [some (.ref (43 + 3)), some (.int x1), some (.int x2), none, none, none] [.int p11.1] _ _
    refine zy_24_0 rfl (fun b12 => (show zyR _ _ _ _ [some (.ref (43 + 3)), some (.int x1), some (.int x2), none, none, none] [] _ _ from ?_)) (fun b12 => (show zyR _ _ _ _ [some (.ref (43 + 3)), some (.int x1), some (.int x2), none, none, none] [] _ _ from ?_))
    · replace h := zy_ifp h b12
      refine zy_3 rfl rfl (show zyR _ _ _ _ [some (.ref (43 + 3)), some (.int x1), some (.int x2), none, none, none] [.int (-1 : Int32)] _ _ from ?_)
      obtain ⟨rfl, rfl⟩ := zy_pi h
      exact zy_4 rfl ⟨rfl, rfl⟩
    · replace h := zy_ifn h b12
      exact zy_sub (show zy_le [some (.ref (43 + 3)), some (.int x1), some (.int x2), none, none, none] [some (.ref (43 + 3)), some (.int x1), some (.int x2), none, none, none] from ⟨rfl, ⟨rfl, ⟨rfl, trivial⟩⟩⟩) (zyC202_15 h)
/-! NineOpinions$Thought.beginWithAll()V -/
noncomputable def zyF74    (s : zy_S) : Option (Int32 × zy_S) :=
(zyF51 s).bind fun p1 =>
(zyF52 p1.1 (0 : Int32) p1.2).bind fun p2 =>
some ((0 : Int32), p2.2)
theorem zyC74 {X : zx_X}      {s : zy_S} {r : Int32} {s' : zy_S}  (h : zyF74 s = some (r, s')) : zyR X 2 74 0 [some (.ref (12 + 3))] [] s (zyE none s') := by
  unfold zyF74 at h
  refine zy_0 rfl rfl (show zyR _ _ _ _ [some (.ref (12 + 3))] [.ref (12 + 3)] _ _ from ?_)
  refine zy_0 rfl rfl (show zyR _ _ _ _ [some (.ref (12 + 3))] [.ref (12 + 3), .ref (12 + 3)] _ _ from ?_)
  refine zy_1r (c := 12) rfl rfl rfl (show zyR _ _ _ _ [some (.ref (12 + 3))] [.ref (1 + 3), .ref (12 + 3)] _ _ from ?_)
  obtain ⟨p1, hp1, h⟩ := zy_bind h
  refine zy_5 (c := 1) (as := []) (rest := [.ref (12 + 3)]) (L := [some (.ref (1 + 3))]) (d' := 1) rfl rfl rfl (Nat.le_of_ble_eq_true rfl) (Nat.le_of_ble_eq_true rfl) rfl (Nat.le_of_ble_eq_true rfl) rfl rfl (zyC51 hp1) ?_
  show zyR _ _ _ _ [some (.ref (12 + 3))] [.int p1.1, .ref (12 + 3)] _ _
  refine zy_3 rfl rfl (show zyR _ _ _ _ [some (.ref (12 + 3))] [.int (0 : Int32), .int p1.1, .ref (12 + 3)] _ _ from ?_)
  obtain ⟨p2, hp2, h⟩ := zy_bind h
  refine zy_5 (c := 12) (as := [.int p1.1, .int (0 : Int32)]) (rest := []) (L := [some (.ref (12 + 3)), some (.int p1.1), some (.int (0 : Int32))]) (d' := 1) rfl rfl rfl (Nat.le_of_ble_eq_true rfl) (Nat.le_of_ble_eq_true rfl) rfl (Nat.le_of_ble_eq_true rfl) rfl rfl (zyC52 hp2) ?_
  show zyR _ _ _ _ [some (.ref (12 + 3))] [] _ _
  cases h
  exact zy_66 rfl ⟨rfl, rfl⟩
