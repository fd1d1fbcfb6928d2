/-! PART 41.88: methods as functions. Made by wip/v4/dcp.py. -/
/-! NineOpinions$Bodies.perform(III)I -/
noncomputable def zyF153_27   (x1 : Int32) (x2 : Int32) (x3 : Int32) (y0 : Int32) (s : zy_S) : Option (Int32 × zy_S) :=
if y0 = 0 then
some ((0 : Int32), s)
else
if zy_in x1 50 then
(zyF155 x1 (s.1 28 (x1).toNatClampNeg) x2 x3 (0 : Int32) s).bind fun p2 =>
some (p2.1, p2.2)
else none
theorem zyC153_27 {X : zx_X}     {x1 : Int32} {x2 : Int32} {x3 : Int32} {y0 : Int32} {s : zy_S} {r : Int32} {s' : zy_S}  (h : zyF153_27 x1 x2 x3 y0 s = some (r, s')) : zyR X 102 153 27 [some (.ref (27 + 3)), some (.int x1), some (.int x2), some (.int x3), none] [.int y0] s (zyE (some (.int r)) s') := by
  unfold zyF153_27 at h
  refine zy_23 rfl rfl (show zyR _ _ _ _ [some (.ref (27 + 3)), some (.int x1), some (.int x2), some (.int x3), some (.int y0)] [] _ _ from ?_)
  refine zy_2 rfl rfl (show zyR _ _ _ _ [some (.ref (27 + 3)), some (.int x1), some (.int x2), some (.int x3), some (.int y0)] [.int y0] _ _ from ?_)
  refine zy_24_0 rfl (fun b3 => (show zyR _ _ _ _ [some (.ref (27 + 3)), some (.int x1), some (.int x2), some (.int x3), some (.int y0)] [] _ _ from ?_)) (fun b3 => (show zyR _ _ _ _ [some (.ref (27 + 3)), some (.int x1), some (.int x2), some (.int x3), some (.int y0)] [] _ _ from ?_))
  · replace h := zy_ifp h b3
    refine zy_3 rfl rfl (show zyR _ _ _ _ [some (.ref (27 + 3)), some (.int x1), some (.int x2), some (.int x3), some (.int y0)] [.int (0 : Int32)] _ _ from ?_)
    obtain ⟨rfl, rfl⟩ := zy_pi h
    exact zy_4 rfl ⟨rfl, rfl⟩
  · replace h := zy_ifn h b3
    refine zy_0 rfl rfl (show zyR _ _ _ _ [some (.ref (27 + 3)), some (.int x1), some (.int x2), some (.int x3), some (.int y0)] [.ref (27 + 3)] _ _ from ?_)
    refine zy_2 rfl rfl (show zyR _ _ _ _ [some (.ref (27 + 3)), some (.int x1), some (.int x2), some (.int x3), some (.int y0)] [.int x1, .ref (27 + 3)] _ _ from ?_)
    refine zy_0 rfl rfl (show zyR _ _ _ _ [some (.ref (27 + 3)), some (.int x1), some (.int x2), some (.int x3), some (.int y0)] [.ref (27 + 3), .int x1, .ref (27 + 3)] _ _ from ?_)
    refine zy_1r (c := 27) rfl rfl rfl (show zyR _ _ _ _ [some (.ref (27 + 3)), some (.int x1), some (.int x2), some (.int x3), some (.int y0)] [.ref (28 + 3), .int x1, .ref (27 + 3)] _ _ from ?_)
    refine zy_2 rfl rfl (show zyR _ _ _ _ [some (.ref (27 + 3)), some (.int x1), some (.int x2), some (.int x3), some (.int y0)] [.int x1, .ref (28 + 3), .int x1, .ref (27 + 3)] _ _ from ?_)
    obtain ⟨c1, h⟩ := zy_if h
    refine zy_26 (c := 28) rfl rfl c1 (show zyR _ _ _ _ [some (.ref (27 + 3)), some (.int x1), some (.int x2), some (.int x3), some (.int y0)] [.int (s.1 28 (x1).toNatClampNeg), .int x1, .ref (27 + 3)] _ _ from ?_)
    refine zy_2 rfl rfl (show zyR _ _ _ _ [some (.ref (27 + 3)), some (.int x1), some (.int x2), some (.int x3), some (.int y0)] [.int x2, .int (s.1 28 (x1).toNatClampNeg), .int x1, .ref (27 + 3)] _ _ from ?_)
    refine zy_2 rfl rfl (show zyR _ _ _ _ [some (.ref (27 + 3)), some (.int x1), some (.int x2), some (.int x3), some (.int y0)] [.int x3, .int x2, .int (s.1 28 (x1).toNatClampNeg), .int x1, .ref (27 + 3)] _ _ from ?_)
    refine zy_3 rfl rfl (show zyR _ _ _ _ [some (.ref (27 + 3)), some (.int x1), some (.int x2), some (.int x3), some (.int y0)] [.int (0 : Int32), .int x3, .int x2, .int (s.1 28 (x1).toNatClampNeg), .int x1, .ref (27 + 3)] _ _ from ?_)
    obtain ⟨p2, hp2, h⟩ := zy_bind h
    refine zy_5 (c := 27) (as := [.int x1, .int (s.1 28 (x1).toNatClampNeg), .int x2, .int x3, .int (0 : Int32)]) (rest := []) (L := [some (.ref (27 + 3)), some (.int x1), some (.int (s.1 28 (x1).toNatClampNeg)), some (.int x2), some (.int x3), some (.int (0 : Int32)), none, none]) (d' := 101) rfl rfl rfl (Nat.le_of_ble_eq_true rfl) (Nat.le_of_ble_eq_true rfl) rfl (Nat.le_of_ble_eq_true rfl) rfl rfl (zyC155 hp2) ?_
    show zyR _ _ _ _ [some (.ref (27 + 3)), some (.int x1), some (.int x2), some (.int x3), some (.int y0)] [.int p2.1] _ _
    refine zy_6 rfl (show zyR _ _ _ _ [some (.ref (27 + 3)), some (.int x1), some (.int x2), some (.int x3), some (.int y0)] [.int p2.1] _ _ from ?_)
    obtain ⟨rfl, rfl⟩ := zy_pi h
    exact zy_4 rfl ⟨rfl, rfl⟩
noncomputable def zyF153_26   (x1 : Int32) (x2 : Int32) (x3 : Int32) (s : zy_S) : Option (Int32 × zy_S) :=
zyF153_27 x1 x2 x3 (0 : Int32) s
theorem zyC153_26 {X : zx_X}     {x1 : Int32} {x2 : Int32} {x3 : Int32} {s : zy_S} {r : Int32} {s' : zy_S}  (h : zyF153_26 x1 x2 x3 s = some (r, s')) : zyR X 102 153 26 [some (.ref (27 + 3)), some (.int x1), some (.int x2), some (.int x3), none] [] s (zyE (some (.int r)) s') := by
  unfold zyF153_26 at h
  refine zy_3 rfl rfl (show zyR _ _ _ _ [some (.ref (27 + 3)), some (.int x1), some (.int x2), some (.int x3), none] [.int (0 : Int32)] _ _ from ?_)
  exact zy_sub (show zy_le [some (.ref (27 + 3)), some (.int x1), some (.int x2), some (.int x3), none] [some (.ref (27 + 3)), some (.int x1), some (.int x2), some (.int x3), none] from ⟨rfl, ⟨rfl, ⟨rfl, ⟨rfl, trivial⟩⟩⟩⟩) (zyC153_27 h)
noncomputable def zyF153   (x1 : Int32) (x2 : Int32) (x3 : Int32) (s : zy_S) : Option (Int32 × zy_S) :=
(zyF154 x1 (zy_up s 27 3 (0 : Int32))).bind fun p4 =>
if p4.1 = 0 then
zyF153_26 x1 x2 x3 p4.2
else
if x2 < 0 then
zyF153_26 x1 x2 x3 p4.2
else
if (4 : Int32) ≤ x2 then
zyF153_26 x1 x2 x3 p4.2
else
zyF153_27 x1 x2 x3 (1 : Int32) p4.2
theorem zyC153 {X : zx_X}     {x1 : Int32} {x2 : Int32} {x3 : Int32} {s : zy_S} {r : Int32} {s' : zy_S}  (h : zyF153 x1 x2 x3 s = some (r, s')) : zyR X 102 153 0 [some (.ref (27 + 3)), some (.int x1), some (.int x2), some (.int x3), none] [] s (zyE (some (.int r)) s') := by
  unfold zyF153 at h
  refine zy_0 rfl rfl (show zyR _ _ _ _ [some (.ref (27 + 3)), some (.int x1), some (.int x2), some (.int x3), none] [.ref (27 + 3)] _ _ from ?_)
  refine zy_3 rfl rfl (show zyR _ _ _ _ [some (.ref (27 + 3)), some (.int x1), some (.int x2), some (.int x3), none] [.int (0 : Int32), .ref (27 + 3)] _ _ from ?_)
  refine zy_52 (c := 27) rfl rfl rfl (show zyR _ _ _ _ [some (.ref (27 + 3)), some (.int x1), some (.int x2), some (.int x3), none] [] _ _ from ?_)
  refine zy_0 rfl rfl (show zyR _ _ _ _ [some (.ref (27 + 3)), some (.int x1), some (.int x2), some (.int x3), none] [.ref (27 + 3)] _ _ from ?_)
  refine zy_2 rfl rfl (show zyR _ _ _ _ [some (.ref (27 + 3)), some (.int x1), some (.int x2), some (.int x3), none] [.int x1, .ref (27 + 3)] _ _ from ?_)
  obtain ⟨p4, hp4, h⟩ := zy_bind h
  refine zy_5 (c := 27) (as := [.int x1]) (rest := []) (L := [some (.ref (27 + 3)), some (.int x1)]) (d' := 1) rfl rfl rfl (Nat.le_of_ble_eq_true rfl) (Nat.le_of_ble_eq_true rfl) rfl (Nat.le_of_ble_eq_true rfl) rfl rfl (zyC154 hp4) ?_
  show zyR _ _ _ _ [some (.ref (27 + 3)), some (.int x1), some (.int x2), some (.int x3), none] [.int p4.1] _ _
  refine zy_24_0 rfl (fun b7 => (show zyR _ _ _ _ [some (.ref (27 + 3)), some (.int x1), some (.int x2), some (.int x3), none] [] _ _ from ?_)) (fun b7 => (show zyR _ _ _ _ [some (.ref (27 + 3)), some (.int x1), some (.int x2), some (.int x3), none] [] _ _ from ?_))
  · replace h := zy_ifp h b7
    exact zy_sub (show zy_le [some (.ref (27 + 3)), some (.int x1), some (.int x2), some (.int x3), none] [some (.ref (27 + 3)), some (.int x1), some (.int x2), some (.int x3), none] from ⟨rfl, ⟨rfl, ⟨rfl, ⟨rfl, trivial⟩⟩⟩⟩) (zyC153_26 h)
  · replace h := zy_ifn h b7
    refine zy_2 rfl rfl (show zyR _ _ _ _ [some (.ref (27 + 3)), some (.int x1), some (.int x2), some (.int x3), none] [.int x2] _ _ from ?_)
    refine zy_24_2 rfl (fun b6 => (show zyR _ _ _ _ [some (.ref (27 + 3)), some (.int x1), some (.int x2), some (.int x3), none] [] _ _ from ?_)) (fun b6 => (show zyR _ _ _ _ [some (.ref (27 + 3)), some (.int x1), some (.int x2), some (.int x3), none] [] _ _ from ?_))
    · replace h := zy_ifp h b6
      exact zy_sub (show zy_le [some (.ref (27 + 3)), some (.int x1), some (.int x2), some (.int x3), none] [some (.ref (27 + 3)), some (.int x1), some (.int x2), some (.int x3), none] from ⟨rfl, ⟨rfl, ⟨rfl, ⟨rfl, trivial⟩⟩⟩⟩) (zyC153_26 h)
    · replace h := zy_ifn h b6
      refine zy_2 rfl rfl (show zyR _ _ _ _ [some (.ref (27 + 3)), some (.int x1), some (.int x2), some (.int x3), none] [.int x2] _ _ from ?_)
      refine zy_3 rfl rfl (show zyR _ _ _ _ [some (.ref (27 + 3)), some (.int x1), some (.int x2), some (.int x3), none] [.int (4 : Int32), .int x2] _ _ from ?_)
      refine zy_25_3 rfl (fun b5 => (show zyR _ _ _ _ [some (.ref (27 + 3)), some (.int x1), some (.int x2), some (.int x3), none] [] _ _ from ?_)) (fun b5 => (show zyR _ _ _ _ [some (.ref (27 + 3)), some (.int x1), some (.int x2), some (.int x3), none] [] _ _ from ?_))
      · replace h := zy_ifp h b5
        exact zy_sub (show zy_le [some (.ref (27 + 3)), some (.int x1), some (.int x2), some (.int x3), none] [some (.ref (27 + 3)), some (.int x1), some (.int x2), some (.int x3), none] from ⟨rfl, ⟨rfl, ⟨rfl, ⟨rfl, trivial⟩⟩⟩⟩) (zyC153_26 h)
      · replace h := zy_ifn h b5
        refine zy_3 rfl rfl (show zyR _ _ _ _ [some (.ref (27 + 3)), some (.int x1), some (.int x2), some (.int x3), none] [.int (1 : Int32)] _ _ from ?_)
        refine zy_6 rfl (show zyR _ _ _ _ [some (.ref (27 + 3)), some (.int x1), some (.int x2), some (.int x3), none] [.int (1 : Int32)] _ _ from ?_)
        exact zy_sub (show zy_le [some (.ref (27 + 3)), some (.int x1), some (.int x2), some (.int x3), none] [some (.ref (27 + 3)), some (.int x1), some (.int x2), some (.int x3), none] from ⟨rfl, ⟨rfl, ⟨rfl, ⟨rfl, trivial⟩⟩⟩⟩) (zyC153_27 h)
/-! NineOpinions.act(III)I -/
noncomputable def zyF152   (x1 : Int32) (x2 : Int32) (x3 : Int32) (s : zy_S) : Option (Int32 × zy_S) :=
(zyF153 x1 x2 x3 s).bind fun p1 =>
some (p1.1, p1.2)
theorem zyC152 {X : zx_X}     {x1 : Int32} {x2 : Int32} {x3 : Int32} {s : zy_S} {r : Int32} {s' : zy_S}  (h : zyF152 x1 x2 x3 s = some (r, s')) : zyR X 103 152 0 [some (.ref (0 + 3)), some (.int x1), some (.int x2), some (.int x3)] [] s (zyE (some (.int r)) s') := by
  unfold zyF152 at h
  refine zy_0 rfl rfl (show zyR _ _ _ _ [some (.ref (0 + 3)), some (.int x1), some (.int x2), some (.int x3)] [.ref (0 + 3)] _ _ from ?_)
  refine zy_1r (c := 0) rfl rfl rfl (show zyR _ _ _ _ [some (.ref (0 + 3)), some (.int x1), some (.int x2), some (.int x3)] [.ref (27 + 3)] _ _ from ?_)
  refine zy_2 rfl rfl (show zyR _ _ _ _ [some (.ref (0 + 3)), some (.int x1), some (.int x2), some (.int x3)] [.int x1, .ref (27 + 3)] _ _ from ?_)
  refine zy_2 rfl rfl (show zyR _ _ _ _ [some (.ref (0 + 3)), some (.int x1), some (.int x2), some (.int x3)] [.int x2, .int x1, .ref (27 + 3)] _ _ from ?_)
  refine zy_2 rfl rfl (show zyR _ _ _ _ [some (.ref (0 + 3)), some (.int x1), some (.int x2), some (.int x3)] [.int x3, .int x2, .int x1, .ref (27 + 3)] _ _ from ?_)
  obtain ⟨p1, hp1, h⟩ := zy_bind h
  refine zy_5 (c := 27) (as := [.int x1, .int x2, .int x3]) (rest := []) (L := [some (.ref (27 + 3)), some (.int x1), some (.int x2), some (.int x3), none]) (d' := 102) rfl rfl rfl (Nat.le_of_ble_eq_true rfl) (Nat.le_of_ble_eq_true rfl) rfl (Nat.le_of_ble_eq_true rfl) rfl rfl (zyC153 hp1) ?_
  show zyR _ _ _ _ [some (.ref (0 + 3)), some (.int x1), some (.int x2), some (.int x3)] [.int p1.1] _ _
  obtain ⟨rfl, rfl⟩ := zy_pi h
  exact zy_4 rfl ⟨rfl, rfl⟩
/-! NineOpinionsModel.runs(I)V -/
noncomputable def zyF251_19    (s : zy_S) : Option (Int32 × zy_S) :=
some ((0 : Int32), (zy_up s 43 31 ((s.1 43 31) + (1 : Int32))))
theorem zyC251_19 {X : zx_X}      {s : zy_S} {r : Int32} {s' : zy_S}  (h : zyF251_19 s = some (r, s')) : zyR X 1 251 19 [some (.ref (43 + 3)), none] [] s (zyE none s') := by
  unfold zyF251_19 at h
  refine zy_0 rfl rfl (show zyR _ _ _ _ [some (.ref (43 + 3)), none] [.ref (43 + 3)] _ _ from ?_)
  refine zy_33 rfl rfl (show zyR _ _ _ _ [some (.ref (43 + 3)), none] [.ref (43 + 3), .ref (43 + 3)] _ _ from ?_)
  refine zy_1 (c := 43) rfl rfl rfl (show zyR _ _ _ _ [some (.ref (43 + 3)), none] [.int (s.1 43 31), .ref (43 + 3)] _ _ from ?_)
  refine zy_3 rfl rfl (show zyR _ _ _ _ [some (.ref (43 + 3)), none] [.int (1 : Int32), .int (s.1 43 31), .ref (43 + 3)] _ _ from ?_)
  refine zy_10 rfl (show zyR _ _ _ _ [some (.ref (43 + 3)), none] [.int ((s.1 43 31) + (1 : Int32)), .ref (43 + 3)] _ _ from ?_)
  refine zy_52 (c := 43) rfl rfl rfl (show zyR _ _ _ _ [some (.ref (43 + 3)), none] [] _ _ from ?_)
  cases h
  exact zy_66 rfl ⟨rfl, rfl⟩
noncomputable def zyF251   (x1 : Int32) (s : zy_S) : Option (Int32 × zy_S) :=
if (24 : Int32) ≤ (s.1 43 31) then
zyF251_19 s
else
if zy_in (s.1 43 31) 24 then
zyF251_19 (zy_up s 59 ((s.1 43 31)).toNatClampNeg x1)
else none
theorem zyC251 {X : zx_X}     {x1 : Int32} {s : zy_S} {r : Int32} {s' : zy_S}  (h : zyF251 x1 s = some (r, s')) : zyR X 1 251 0 [some (.ref (43 + 3)), some (.int x1)] [] s (zyE none s') := by
  unfold zyF251 at h
  refine zy_0 rfl rfl (show zyR _ _ _ _ [some (.ref (43 + 3)), some (.int x1)] [.ref (43 + 3)] _ _ from ?_)
  refine zy_1 (c := 43) rfl rfl rfl (show zyR _ _ _ _ [some (.ref (43 + 3)), some (.int x1)] [.int (s.1 43 31)] _ _ from ?_)
  refine zy_3 rfl rfl (show zyR _ _ _ _ [some (.ref (43 + 3)), some (.int x1)] [.int (24 : Int32), .int (s.1 43 31)] _ _ from ?_)
  refine zy_25_3 rfl (fun b2 => (show zyR _ _ _ _ [some (.ref (43 + 3)), some (.int x1)] [] _ _ from ?_)) (fun b2 => (show zyR _ _ _ _ [some (.ref (43 + 3)), some (.int x1)] [] _ _ from ?_))
  · replace h := zy_ifp h b2
    exact zy_sub (show zy_le [some (.ref (43 + 3)), none] [some (.ref (43 + 3)), some (.int x1)] from ⟨rfl, trivial⟩) (zyC251_19 h)
  · replace h := zy_ifn h b2
    refine zy_0 rfl rfl (show zyR _ _ _ _ [some (.ref (43 + 3)), some (.int x1)] [.ref (43 + 3)] _ _ from ?_)
    refine zy_1r (c := 43) rfl rfl rfl (show zyR _ _ _ _ [some (.ref (43 + 3)), some (.int x1)] [.ref (59 + 3)] _ _ from ?_)
    refine zy_0 rfl rfl (show zyR _ _ _ _ [some (.ref (43 + 3)), some (.int x1)] [.ref (43 + 3), .ref (59 + 3)] _ _ from ?_)
    refine zy_1 (c := 43) rfl rfl rfl (show zyR _ _ _ _ [some (.ref (43 + 3)), some (.int x1)] [.int (s.1 43 31), .ref (59 + 3)] _ _ from ?_)
    refine zy_2 rfl rfl (show zyR _ _ _ _ [some (.ref (43 + 3)), some (.int x1)] [.int x1, .int (s.1 43 31), .ref (59 + 3)] _ _ from ?_)
    obtain ⟨c1, h⟩ := zy_if h
    refine zy_27 (c := 59) rfl rfl c1 (show zyR _ _ _ _ [some (.ref (43 + 3)), some (.int x1)] [] _ _ from ?_)
    exact zy_sub (show zy_le [some (.ref (43 + 3)), none] [some (.ref (43 + 3)), some (.int x1)] from ⟨rfl, trivial⟩) (zyC251_19 h)
