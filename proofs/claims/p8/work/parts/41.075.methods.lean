/-! PART 41.75: methods as functions. Made by wip/v4/dcp.py. -/
/-! NineOpinions.law()I -/
noncomputable def zyF36_34   (x1 : Int32) (s : zy_S) : Option (Int32 × zy_S) :=
(zyF49 s).bind fun p1 =>
if x1 ≠ (-1 : Int32) then
some (((-100 : Int32) - x1), p1.2)
else
some ((1 : Int32), p1.2)
theorem zyC36_34 {X : zx_X}     {x1 : Int32} {s : zy_S} {r : Int32} {s' : zy_S}  (h : zyF36_34 x1 s = some (r, s')) : zyR X 105 36 34 [some (.ref (0 + 3)), some (.int x1)] [] s (zyE (some (.int r)) s') := by
  unfold zyF36_34 at h
  refine zy_0 rfl rfl (show zyR _ _ _ _ [some (.ref (0 + 3)), some (.int x1)] [.ref (0 + 3)] _ _ from ?_)
  refine zy_1r (c := 0) rfl rfl rfl (show zyR _ _ _ _ [some (.ref (0 + 3)), some (.int x1)] [.ref (9 + 3)] _ _ from ?_)
  obtain ⟨p1, hp1, h⟩ := zy_bind h
  refine zy_5 (c := 9) (as := []) (rest := []) (L := [some (.ref (9 + 3))]) (d' := 1) rfl rfl rfl (Nat.le_of_ble_eq_true rfl) (Nat.le_of_ble_eq_true rfl) rfl (Nat.le_of_ble_eq_true rfl) rfl rfl (zyC49 hp1) ?_
  show zyR _ _ _ _ [some (.ref (0 + 3)), some (.int x1)] [] _ _
  refine zy_2 rfl rfl (show zyR _ _ _ _ [some (.ref (0 + 3)), some (.int x1)] [.int x1] _ _ from ?_)
  refine zy_3 rfl rfl (show zyR _ _ _ _ [some (.ref (0 + 3)), some (.int x1)] [.int (-1 : Int32), .int x1] _ _ from ?_)
  refine zy_25_1 rfl (fun b2 => (show zyR _ _ _ _ [some (.ref (0 + 3)), some (.int x1)] [] _ _ from ?_)) (fun b2 => (show zyR _ _ _ _ [some (.ref (0 + 3)), some (.int x1)] [] _ _ from ?_))
  · replace h := zy_ifp h b2
    refine zy_3 rfl rfl (show zyR _ _ _ _ [some (.ref (0 + 3)), some (.int x1)] [.int (-100 : Int32)] _ _ from ?_)
    refine zy_2 rfl rfl (show zyR _ _ _ _ [some (.ref (0 + 3)), some (.int x1)] [.int x1, .int (-100 : Int32)] _ _ from ?_)
    refine zy_11 rfl (show zyR _ _ _ _ [some (.ref (0 + 3)), some (.int x1)] [.int ((-100 : Int32) - x1)] _ _ from ?_)
    obtain ⟨rfl, rfl⟩ := zy_pi h
    exact zy_4 rfl ⟨rfl, rfl⟩
  · replace h := zy_ifn h b2
    refine zy_3 rfl rfl (show zyR _ _ _ _ [some (.ref (0 + 3)), some (.int x1)] [.int (1 : Int32)] _ _ from ?_)
    refine zy_6 rfl (show zyR _ _ _ _ [some (.ref (0 + 3)), some (.int x1)] [.int (1 : Int32)] _ _ from ?_)
    obtain ⟨rfl, rfl⟩ := zy_pi h
    exact zy_4 rfl ⟨rfl, rfl⟩
noncomputable def zyF36    (s : zy_S) : Option (Int32 × zy_S) :=
(zyF37 s).bind fun p3 =>
if p3.1 ≠ (-1 : Int32) then
zyF36_34 p3.1 p3.2
else
(zyF48 (p3.2.1 9 3) p3.2).bind fun p4 =>
zyF36_34 p3.1 p4.2
theorem zyC36 {X : zx_X}      {s : zy_S} {r : Int32} {s' : zy_S}  (h : zyF36 s = some (r, s')) : zyR X 105 36 0 [some (.ref (0 + 3)), none] [] s (zyE (some (.int r)) s') := by
  unfold zyF36 at h
  refine zy_0 rfl rfl (show zyR _ _ _ _ [some (.ref (0 + 3)), none] [.ref (0 + 3)] _ _ from ?_)
  refine zy_1r (c := 0) rfl rfl rfl (show zyR _ _ _ _ [some (.ref (0 + 3)), none] [.ref (9 + 3)] _ _ from ?_)
  obtain ⟨p3, hp3, h⟩ := zy_bind h
  refine zy_5 (c := 9) (as := []) (rest := []) (L := [some (.ref (9 + 3)), none]) (d' := 104) rfl rfl rfl (Nat.le_of_ble_eq_true rfl) (Nat.le_of_ble_eq_true rfl) rfl (Nat.le_of_ble_eq_true rfl) rfl rfl (zyC37 hp3) ?_
  show zyR _ _ _ _ [some (.ref (0 + 3)), none] [.int p3.1] _ _
  refine zy_23 rfl rfl (show zyR _ _ _ _ [some (.ref (0 + 3)), some (.int p3.1)] [] _ _ from ?_)
  refine zy_2 rfl rfl (show zyR _ _ _ _ [some (.ref (0 + 3)), some (.int p3.1)] [.int p3.1] _ _ from ?_)
  refine zy_3 rfl rfl (show zyR _ _ _ _ [some (.ref (0 + 3)), some (.int p3.1)] [.int (-1 : Int32), .int p3.1] _ _ from ?_)
  refine zy_25_1 rfl (fun b5 => (show zyR _ _ _ _ [some (.ref (0 + 3)), some (.int p3.1)] [] _ _ from ?_)) (fun b5 => (show zyR _ _ _ _ [some (.ref (0 + 3)), some (.int p3.1)] [] _ _ from ?_))
  · replace h := zy_ifp h b5
    exact zy_sub (show zy_le [some (.ref (0 + 3)), some (.int p3.1)] [some (.ref (0 + 3)), some (.int p3.1)] from ⟨rfl, ⟨rfl, trivial⟩⟩) (zyC36_34 h)
  · replace h := zy_ifn h b5
    refine zy_0 rfl rfl (show zyR _ _ _ _ [some (.ref (0 + 3)), some (.int p3.1)] [.ref (0 + 3)] _ _ from ?_)
    refine zy_1r (c := 0) rfl rfl rfl (show zyR _ _ _ _ [some (.ref (0 + 3)), some (.int p3.1)] [.ref (5 + 3)] _ _ from ?_)
    refine zy_0 rfl rfl (show zyR _ _ _ _ [some (.ref (0 + 3)), some (.int p3.1)] [.ref (0 + 3), .ref (5 + 3)] _ _ from ?_)
    refine zy_1r (c := 0) rfl rfl rfl (show zyR _ _ _ _ [some (.ref (0 + 3)), some (.int p3.1)] [.ref (9 + 3), .ref (5 + 3)] _ _ from ?_)
    refine zy_1r (c := 9) rfl rfl rfl (show zyR _ _ _ _ [some (.ref (0 + 3)), some (.int p3.1)] [.ref (11 + 3), .ref (5 + 3)] _ _ from ?_)
    refine zy_0 rfl rfl (show zyR _ _ _ _ [some (.ref (0 + 3)), some (.int p3.1)] [.ref (0 + 3), .ref (11 + 3), .ref (5 + 3)] _ _ from ?_)
    refine zy_1r (c := 0) rfl rfl rfl (show zyR _ _ _ _ [some (.ref (0 + 3)), some (.int p3.1)] [.ref (9 + 3), .ref (11 + 3), .ref (5 + 3)] _ _ from ?_)
    refine zy_1 (c := 9) rfl rfl rfl (show zyR _ _ _ _ [some (.ref (0 + 3)), some (.int p3.1)] [.int (p3.2.1 9 3), .ref (11 + 3), .ref (5 + 3)] _ _ from ?_)
    obtain ⟨p4, hp4, h⟩ := zy_bind h
    refine zy_5 (c := 5) (as := [.ref (11 + 3), .int (p3.2.1 9 3)]) (rest := []) (L := [some (.ref (5 + 3)), some (.ref (11 + 3)), some (.int (p3.2.1 9 3))]) (d' := 1) rfl rfl rfl (Nat.le_of_ble_eq_true rfl) (Nat.le_of_ble_eq_true rfl) rfl (Nat.le_of_ble_eq_true rfl) rfl rfl (zyC48 hp4) ?_
    show zyR _ _ _ _ [some (.ref (0 + 3)), some (.int p3.1)] [] _ _
    exact zy_sub (show zy_le [some (.ref (0 + 3)), some (.int p3.1)] [some (.ref (0 + 3)), some (.int p3.1)] from ⟨rfl, ⟨rfl, trivial⟩⟩) (zyC36_34 h)
/-! NineOpinionsModel.byteAt()I -/
noncomputable def zyF198    (s : zy_S) : Option (Int32 × zy_S) :=
if (s.1 43 14) ≤ (s.1 43 13) then
some ((0 : Int32), s)
else
if 0 ≤ (s.1 43 12) then
if zy_in ((s.1 43 12) + (s.1 43 13)) 120 then
some ((s.1 49 (((s.1 43 12) + (s.1 43 13))).toNatClampNeg), s)
else none
else
if zy_in (s.1 43 13) 120 then
some ((s.1 48 ((s.1 43 13)).toNatClampNeg), s)
else none
theorem zyC198 {X : zx_X}      {s : zy_S} {r : Int32} {s' : zy_S}  (h : zyF198 s = some (r, s')) : zyR X 1 198 0 [some (.ref (43 + 3))] [] s (zyE (some (.int r)) s') := by
  unfold zyF198 at h
  refine zy_0 rfl rfl (show zyR _ _ _ _ [some (.ref (43 + 3))] [.ref (43 + 3)] _ _ from ?_)
  refine zy_1 (c := 43) rfl rfl rfl (show zyR _ _ _ _ [some (.ref (43 + 3))] [.int (s.1 43 13)] _ _ from ?_)
  refine zy_0 rfl rfl (show zyR _ _ _ _ [some (.ref (43 + 3))] [.ref (43 + 3), .int (s.1 43 13)] _ _ from ?_)
  refine zy_1 (c := 43) rfl rfl rfl (show zyR _ _ _ _ [some (.ref (43 + 3))] [.int (s.1 43 14), .int (s.1 43 13)] _ _ from ?_)
  refine zy_25_3 rfl (fun b4 => (show zyR _ _ _ _ [some (.ref (43 + 3))] [] _ _ from ?_)) (fun b4 => (show zyR _ _ _ _ [some (.ref (43 + 3))] [] _ _ from ?_))
  · replace h := zy_ifp h b4
    refine zy_3 rfl rfl (show zyR _ _ _ _ [some (.ref (43 + 3))] [.int (0 : Int32)] _ _ from ?_)
    obtain ⟨rfl, rfl⟩ := zy_pi h
    exact zy_4 rfl ⟨rfl, rfl⟩
  · replace h := zy_ifn h b4
    refine zy_0 rfl rfl (show zyR _ _ _ _ [some (.ref (43 + 3))] [.ref (43 + 3)] _ _ from ?_)
    refine zy_1 (c := 43) rfl rfl rfl (show zyR _ _ _ _ [some (.ref (43 + 3))] [.int (s.1 43 12)] _ _ from ?_)
    refine zy_24_3 rfl (fun b3 => (show zyR _ _ _ _ [some (.ref (43 + 3))] [] _ _ from ?_)) (fun b3 => (show zyR _ _ _ _ [some (.ref (43 + 3))] [] _ _ from ?_))
    · replace h := zy_ifp h b3
      refine zy_0 rfl rfl (show zyR _ _ _ _ [some (.ref (43 + 3))] [.ref (43 + 3)] _ _ from ?_)
      refine zy_1r (c := 43) rfl rfl rfl (show zyR _ _ _ _ [some (.ref (43 + 3))] [.ref (49 + 3)] _ _ from ?_)
      refine zy_0 rfl rfl (show zyR _ _ _ _ [some (.ref (43 + 3))] [.ref (43 + 3), .ref (49 + 3)] _ _ from ?_)
      refine zy_1 (c := 43) rfl rfl rfl (show zyR _ _ _ _ [some (.ref (43 + 3))] [.int (s.1 43 12), .ref (49 + 3)] _ _ from ?_)
      refine zy_0 rfl rfl (show zyR _ _ _ _ [some (.ref (43 + 3))] [.ref (43 + 3), .int (s.1 43 12), .ref (49 + 3)] _ _ from ?_)
      refine zy_1 (c := 43) rfl rfl rfl (show zyR _ _ _ _ [some (.ref (43 + 3))] [.int (s.1 43 13), .int (s.1 43 12), .ref (49 + 3)] _ _ from ?_)
      refine zy_10 rfl (show zyR _ _ _ _ [some (.ref (43 + 3))] [.int ((s.1 43 12) + (s.1 43 13)), .ref (49 + 3)] _ _ from ?_)
      obtain ⟨c1, h⟩ := zy_if h
      refine zy_26 (c := 49) rfl rfl c1 (show zyR _ _ _ _ [some (.ref (43 + 3))] [.int (s.1 49 (((s.1 43 12) + (s.1 43 13))).toNatClampNeg)] _ _ from ?_)
      refine zy_6 rfl (show zyR _ _ _ _ [some (.ref (43 + 3))] [.int (s.1 49 (((s.1 43 12) + (s.1 43 13))).toNatClampNeg)] _ _ from ?_)
      obtain ⟨rfl, rfl⟩ := zy_pi h
      exact zy_4 rfl ⟨rfl, rfl⟩
    · replace h := zy_ifn h b3
      refine zy_0 rfl rfl (show zyR _ _ _ _ [some (.ref (43 + 3))] [.ref (43 + 3)] _ _ from ?_)
      refine zy_1r (c := 43) rfl rfl rfl (show zyR _ _ _ _ [some (.ref (43 + 3))] [.ref (48 + 3)] _ _ from ?_)
      refine zy_0 rfl rfl (show zyR _ _ _ _ [some (.ref (43 + 3))] [.ref (43 + 3), .ref (48 + 3)] _ _ from ?_)
      refine zy_1 (c := 43) rfl rfl rfl (show zyR _ _ _ _ [some (.ref (43 + 3))] [.int (s.1 43 13), .ref (48 + 3)] _ _ from ?_)
      obtain ⟨c2, h⟩ := zy_if h
      refine zy_26 (c := 48) rfl rfl c2 (show zyR _ _ _ _ [some (.ref (43 + 3))] [.int (s.1 48 ((s.1 43 13)).toNatClampNeg)] _ _ from ?_)
      refine zy_6 rfl (show zyR _ _ _ _ [some (.ref (43 + 3))] [.int (s.1 48 ((s.1 43 13)).toNatClampNeg)] _ _ from ?_)
      obtain ⟨rfl, rfl⟩ := zy_pi h
      exact zy_4 rfl ⟨rfl, rfl⟩
/-! NineOpinionsModel.takes(I)Z -/
noncomputable def zyF200   (x1 : Int32) (s : zy_S) : Option (Int32 × zy_S) :=
if 0 ≤ (s.1 43 15) then
some ((0 : Int32), s)
else
(zyF198 s).bind fun p1 =>
if p1.1 = x1 then
some ((1 : Int32), (zy_up p1.2 43 13 ((p1.2.1 43 13) + (1 : Int32))))
else
some ((0 : Int32), p1.2)
theorem zyC200 {X : zx_X}     {x1 : Int32} {s : zy_S} {r : Int32} {s' : zy_S}  (h : zyF200 x1 s = some (r, s')) : zyR X 2 200 0 [some (.ref (43 + 3)), some (.int x1)] [] s (zyE (some (.int r)) s') := by
  unfold zyF200 at h
  refine zy_0 rfl rfl (show zyR _ _ _ _ [some (.ref (43 + 3)), some (.int x1)] [.ref (43 + 3)] _ _ from ?_)
  refine zy_1 (c := 43) rfl rfl rfl (show zyR _ _ _ _ [some (.ref (43 + 3)), some (.int x1)] [.int (s.1 43 15)] _ _ from ?_)
  refine zy_24_3 rfl (fun b3 => (show zyR _ _ _ _ [some (.ref (43 + 3)), some (.int x1)] [] _ _ from ?_)) (fun b3 => (show zyR _ _ _ _ [some (.ref (43 + 3)), some (.int x1)] [] _ _ from ?_))
  · replace h := zy_ifp h b3
    refine zy_3 rfl rfl (show zyR _ _ _ _ [some (.ref (43 + 3)), some (.int x1)] [.int (0 : Int32)] _ _ from ?_)
    cases h
    exact zy_4b rfl ⟨rfl, rfl⟩ (Or.inl rfl)
  · replace h := zy_ifn h b3
    refine zy_0 rfl rfl (show zyR _ _ _ _ [some (.ref (43 + 3)), some (.int x1)] [.ref (43 + 3)] _ _ from ?_)
    obtain ⟨p1, hp1, h⟩ := zy_bind h
    refine zy_5 (c := 43) (as := []) (rest := []) (L := [some (.ref (43 + 3))]) (d' := 1) rfl rfl rfl (Nat.le_of_ble_eq_true rfl) (Nat.le_of_ble_eq_true rfl) rfl (Nat.le_of_ble_eq_true rfl) rfl rfl (zyC198 hp1) ?_
    show zyR _ _ _ _ [some (.ref (43 + 3)), some (.int x1)] [.int p1.1] _ _
    refine zy_2 rfl rfl (show zyR _ _ _ _ [some (.ref (43 + 3)), some (.int x1)] [.int x1, .int p1.1] _ _ from ?_)
    refine zy_25_0 rfl (fun b2 => (show zyR _ _ _ _ [some (.ref (43 + 3)), some (.int x1)] [] _ _ from ?_)) (fun b2 => (show zyR _ _ _ _ [some (.ref (43 + 3)), some (.int x1)] [] _ _ from ?_))
    · replace h := zy_ifp h b2
      refine zy_0 rfl rfl (show zyR _ _ _ _ [some (.ref (43 + 3)), some (.int x1)] [.ref (43 + 3)] _ _ from ?_)
      refine zy_33 rfl rfl (show zyR _ _ _ _ [some (.ref (43 + 3)), some (.int x1)] [.ref (43 + 3), .ref (43 + 3)] _ _ from ?_)
      refine zy_1 (c := 43) rfl rfl rfl (show zyR _ _ _ _ [some (.ref (43 + 3)), some (.int x1)] [.int (p1.2.1 43 13), .ref (43 + 3)] _ _ from ?_)
      refine zy_3 rfl rfl (show zyR _ _ _ _ [some (.ref (43 + 3)), some (.int x1)] [.int (1 : Int32), .int (p1.2.1 43 13), .ref (43 + 3)] _ _ from ?_)
      refine zy_10 rfl (show zyR _ _ _ _ [some (.ref (43 + 3)), some (.int x1)] [.int ((p1.2.1 43 13) + (1 : Int32)), .ref (43 + 3)] _ _ from ?_)
      refine zy_52 (c := 43) rfl rfl rfl (show zyR _ _ _ _ [some (.ref (43 + 3)), some (.int x1)] [] _ _ from ?_)
      refine zy_3 rfl rfl (show zyR _ _ _ _ [some (.ref (43 + 3)), some (.int x1)] [.int (1 : Int32)] _ _ from ?_)
      cases h
      exact zy_4b rfl ⟨rfl, rfl⟩ (Or.inr rfl)
    · replace h := zy_ifn h b2
      refine zy_3 rfl rfl (show zyR _ _ _ _ [some (.ref (43 + 3)), some (.int x1)] [.int (0 : Int32)] _ _ from ?_)
      cases h
      exact zy_4b rfl ⟨rfl, rfl⟩ (Or.inl rfl)
/-! NineOpinionsModel.wrong()I -/
noncomputable def zyF199_19   (y0 : Int32) (s : zy_S) : Option (Int32 × zy_S) :=
some ((0 : Int32), (zy_up s 43 15 y0))
theorem zyC199_19 {X : zx_X}     {y0 : Int32} {s : zy_S} {r : Int32} {s' : zy_S}  (h : zyF199_19 y0 s = some (r, s')) : zyR X 1 199 19 [none] [.int y0, .ref (43 + 3)] s (zyE (some (.int r)) s') := by
  unfold zyF199_19 at h
  refine zy_52 (c := 43) rfl rfl rfl (show zyR _ _ _ _ [none] [] _ _ from ?_)
  refine zy_3 rfl rfl (show zyR _ _ _ _ [none] [.int (0 : Int32)] _ _ from ?_)
  obtain ⟨rfl, rfl⟩ := zy_pi h
  exact zy_4 rfl ⟨rfl, rfl⟩
noncomputable def zyF199    (s : zy_S) : Option (Int32 × zy_S) :=
if 0 ≤ (s.1 43 15) then
zyF199_19 (s.1 43 15) s
else
zyF199_19 (s.1 43 13) s
theorem zyC199 {X : zx_X}      {s : zy_S} {r : Int32} {s' : zy_S}  (h : zyF199 s = some (r, s')) : zyR X 1 199 0 [some (.ref (43 + 3))] [] s (zyE (some (.int r)) s') := by
  unfold zyF199 at h
  refine zy_0 rfl rfl (show zyR _ _ _ _ [some (.ref (43 + 3))] [.ref (43 + 3)] _ _ from ?_)
  refine zy_0 rfl rfl (show zyR _ _ _ _ [some (.ref (43 + 3))] [.ref (43 + 3), .ref (43 + 3)] _ _ from ?_)
  refine zy_1 (c := 43) rfl rfl rfl (show zyR _ _ _ _ [some (.ref (43 + 3))] [.int (s.1 43 15), .ref (43 + 3)] _ _ from ?_)
  refine zy_24_3 rfl (fun b1 => (show zyR _ _ _ _ [some (.ref (43 + 3))] [.ref (43 + 3)] _ _ from ?_)) (fun b1 => (show zyR _ _ _ _ [some (.ref (43 + 3))] [.ref (43 + 3)] _ _ from ?_))
  · replace h := zy_ifp h b1
    refine zy_0 rfl rfl (show zyR _ _ _ _ [some (.ref (43 + 3))] [.ref (43 + 3), .ref (43 + 3)] _ _ from ?_)
    refine zy_1 (c := 43) rfl rfl rfl (show zyR _ _ _ _ [some (.ref (43 + 3))] [.int (s.1 43 15), .ref (43 + 3)] _ _ from ?_)
    exact zy_sub (show zy_le [none] [some (.ref (43 + 3))] from trivial) (zyC199_19 h)
  · replace h := zy_ifn h b1
    refine zy_0 rfl rfl (show zyR _ _ _ _ [some (.ref (43 + 3))] [.ref (43 + 3), .ref (43 + 3)] _ _ from ?_)
    refine zy_1 (c := 43) rfl rfl rfl (show zyR _ _ _ _ [some (.ref (43 + 3))] [.int (s.1 43 13), .ref (43 + 3)] _ _ from ?_)
    refine zy_6 rfl (show zyR _ _ _ _ [some (.ref (43 + 3))] [.int (s.1 43 13), .ref (43 + 3)] _ _ from ?_)
    exact zy_sub (show zy_le [none] [some (.ref (43 + 3))] from trivial) (zyC199_19 h)
