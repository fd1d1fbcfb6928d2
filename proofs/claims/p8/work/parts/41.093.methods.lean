/-! PART 41.93: methods as functions. Made by wip/v4/dcp.py. -/
/-! NineOpinionsModel.act(III)I -/
noncomputable def zyF248   (x1 : Int32) (x2 : Int32) (x3 : Int32) (s : zy_S) : Option (Int32 × zy_S) :=
(zyF249 x1 (zy_up s 43 31 (0 : Int32))).bind fun p1 =>
if p1.1 ≠ 0 then
if zy_in x1 50 then
if x2 = (0 : Int32) then
(zyF250 (p1.2.1 58 (x1).toNatClampNeg) x3 (zy_up (zy_up p1.2 43 32 (p1.2.1 58 (x1).toNatClampNeg)) 43 33 x1)).bind fun p3 =>
some (p3.1, p3.2)
else
if x2 = (1 : Int32) then
(zyF252 (p1.2.1 58 (x1).toNatClampNeg) x3 (zy_up (zy_up p1.2 43 32 (p1.2.1 58 (x1).toNatClampNeg)) 43 33 x1)).bind fun p5 =>
some (p5.1, p5.2)
else
if x2 = (2 : Int32) then
(zyF253 (p1.2.1 58 (x1).toNatClampNeg) x3 (zy_up (zy_up p1.2 43 32 (p1.2.1 58 (x1).toNatClampNeg)) 43 33 x1)).bind fun p7 =>
some (p7.1, p7.2)
else
if x2 = (3 : Int32) then
(zyF254 (p1.2.1 58 (x1).toNatClampNeg) x3 (zy_up (zy_up p1.2 43 32 (p1.2.1 58 (x1).toNatClampNeg)) 43 33 x1)).bind fun p9 =>
some (p9.1, p9.2)
else
some ((0 : Int32), (zy_up (zy_up p1.2 43 32 (p1.2.1 58 (x1).toNatClampNeg)) 43 33 x1))
else none
else
some ((0 : Int32), p1.2)
theorem zyC248 {X : zx_X}     {x1 : Int32} {x2 : Int32} {x3 : Int32} {s : zy_S} {r : Int32} {s' : zy_S}  (h : zyF248 x1 x2 x3 s = some (r, s')) : zyR X 402 248 0 [some (.ref (43 + 3)), some (.int x1), some (.int x2), some (.int x3)] [] s (zyE (some (.int r)) s') := by
  unfold zyF248 at h
  refine zy_0 rfl rfl (show zyR _ _ _ _ [some (.ref (43 + 3)), some (.int x1), some (.int x2), some (.int x3)] [.ref (43 + 3)] _ _ from ?_)
  refine zy_3 rfl rfl (show zyR _ _ _ _ [some (.ref (43 + 3)), some (.int x1), some (.int x2), some (.int x3)] [.int (0 : Int32), .ref (43 + 3)] _ _ from ?_)
  refine zy_52 (c := 43) rfl rfl rfl (show zyR _ _ _ _ [some (.ref (43 + 3)), some (.int x1), some (.int x2), some (.int x3)] [] _ _ from ?_)
  refine zy_0 rfl rfl (show zyR _ _ _ _ [some (.ref (43 + 3)), some (.int x1), some (.int x2), some (.int x3)] [.ref (43 + 3)] _ _ from ?_)
  refine zy_2 rfl rfl (show zyR _ _ _ _ [some (.ref (43 + 3)), some (.int x1), some (.int x2), some (.int x3)] [.int x1, .ref (43 + 3)] _ _ from ?_)
  obtain ⟨p1, hp1, h⟩ := zy_bind h
  refine zy_5 (c := 43) (as := [.int x1]) (rest := []) (L := [some (.ref (43 + 3)), some (.int x1)]) (d' := 2) rfl rfl rfl (Nat.le_of_ble_eq_true rfl) (Nat.le_of_ble_eq_true rfl) rfl (Nat.le_of_ble_eq_true rfl) rfl rfl (zyC249 hp1) ?_
  show zyR _ _ _ _ [some (.ref (43 + 3)), some (.int x1), some (.int x2), some (.int x3)] [.int p1.1] _ _
  refine zy_24_1 rfl (fun b11 => (show zyR _ _ _ _ [some (.ref (43 + 3)), some (.int x1), some (.int x2), some (.int x3)] [] _ _ from ?_)) (fun b11 => (show zyR _ _ _ _ [some (.ref (43 + 3)), some (.int x1), some (.int x2), some (.int x3)] [] _ _ from ?_))
  · replace h := zy_ifp h b11
    refine zy_0 rfl rfl (show zyR _ _ _ _ [some (.ref (43 + 3)), some (.int x1), some (.int x2), some (.int x3)] [.ref (43 + 3)] _ _ from ?_)
    refine zy_0 rfl rfl (show zyR _ _ _ _ [some (.ref (43 + 3)), some (.int x1), some (.int x2), some (.int x3)] [.ref (43 + 3), .ref (43 + 3)] _ _ from ?_)
    refine zy_1r (c := 43) rfl rfl rfl (show zyR _ _ _ _ [some (.ref (43 + 3)), some (.int x1), some (.int x2), some (.int x3)] [.ref (58 + 3), .ref (43 + 3)] _ _ from ?_)
    refine zy_2 rfl rfl (show zyR _ _ _ _ [some (.ref (43 + 3)), some (.int x1), some (.int x2), some (.int x3)] [.int x1, .ref (58 + 3), .ref (43 + 3)] _ _ from ?_)
    obtain ⟨c2, h⟩ := zy_if h
    refine zy_26 (c := 58) rfl rfl c2 (show zyR _ _ _ _ [some (.ref (43 + 3)), some (.int x1), some (.int x2), some (.int x3)] [.int (p1.2.1 58 (x1).toNatClampNeg), .ref (43 + 3)] _ _ from ?_)
    refine zy_52 (c := 43) rfl rfl rfl (show zyR _ _ _ _ [some (.ref (43 + 3)), some (.int x1), some (.int x2), some (.int x3)] [] _ _ from ?_)
    refine zy_0 rfl rfl (show zyR _ _ _ _ [some (.ref (43 + 3)), some (.int x1), some (.int x2), some (.int x3)] [.ref (43 + 3)] _ _ from ?_)
    refine zy_2 rfl rfl (show zyR _ _ _ _ [some (.ref (43 + 3)), some (.int x1), some (.int x2), some (.int x3)] [.int x1, .ref (43 + 3)] _ _ from ?_)
    refine zy_52 (c := 43) rfl rfl rfl (show zyR _ _ _ _ [some (.ref (43 + 3)), some (.int x1), some (.int x2), some (.int x3)] [] _ _ from ?_)
    refine zy_2 rfl rfl (show zyR _ _ _ _ [some (.ref (43 + 3)), some (.int x1), some (.int x2), some (.int x3)] [.int x2] _ _ from ?_)
    refine zy_50 rfl (by decide) ?_
    refine zy_swp (fun b4 => (show zyR _ _ _ _ [some (.ref (43 + 3)), some (.int x1), some (.int x2), some (.int x3)] [] _ _ from ?_)) (fun b4 => ?_)
    · replace h := zy_ifp h b4
      refine zy_0 rfl rfl (show zyR _ _ _ _ [some (.ref (43 + 3)), some (.int x1), some (.int x2), some (.int x3)] [.ref (43 + 3)] _ _ from ?_)
      refine zy_0 rfl rfl (show zyR _ _ _ _ [some (.ref (43 + 3)), some (.int x1), some (.int x2), some (.int x3)] [.ref (43 + 3), .ref (43 + 3)] _ _ from ?_)
      refine zy_1 (c := 43) rfl rfl rfl (show zyR _ _ _ _ [some (.ref (43 + 3)), some (.int x1), some (.int x2), some (.int x3)] [.int (p1.2.1 58 (x1).toNatClampNeg), .ref (43 + 3)] _ _ from ?_)
      refine zy_2 rfl rfl (show zyR _ _ _ _ [some (.ref (43 + 3)), some (.int x1), some (.int x2), some (.int x3)] [.int x3, .int (p1.2.1 58 (x1).toNatClampNeg), .ref (43 + 3)] _ _ from ?_)
      obtain ⟨p3, hp3, h⟩ := zy_bind h
      refine zy_5 (c := 43) (as := [.int (p1.2.1 58 (x1).toNatClampNeg), .int x3]) (rest := []) (L := [some (.ref (43 + 3)), some (.int (p1.2.1 58 (x1).toNatClampNeg)), some (.int x3)]) (d' := 101) rfl rfl rfl (Nat.le_of_ble_eq_true rfl) (Nat.le_of_ble_eq_true rfl) rfl (Nat.le_of_ble_eq_true rfl) rfl rfl (zyC250 hp3) ?_
      show zyR _ _ _ _ [some (.ref (43 + 3)), some (.int x1), some (.int x2), some (.int x3)] [.int p3.1] _ _
      obtain ⟨rfl, rfl⟩ := zy_pi h
      exact zy_4 rfl ⟨rfl, rfl⟩
    replace h := zy_ifn h b4
    refine zy_swp (fun b6 => (show zyR _ _ _ _ [some (.ref (43 + 3)), some (.int x1), some (.int x2), some (.int x3)] [] _ _ from ?_)) (fun b6 => ?_)
    · replace h := zy_ifp h b6
      refine zy_0 rfl rfl (show zyR _ _ _ _ [some (.ref (43 + 3)), some (.int x1), some (.int x2), some (.int x3)] [.ref (43 + 3)] _ _ from ?_)
      refine zy_0 rfl rfl (show zyR _ _ _ _ [some (.ref (43 + 3)), some (.int x1), some (.int x2), some (.int x3)] [.ref (43 + 3), .ref (43 + 3)] _ _ from ?_)
      refine zy_1 (c := 43) rfl rfl rfl (show zyR _ _ _ _ [some (.ref (43 + 3)), some (.int x1), some (.int x2), some (.int x3)] [.int (p1.2.1 58 (x1).toNatClampNeg), .ref (43 + 3)] _ _ from ?_)
      refine zy_2 rfl rfl (show zyR _ _ _ _ [some (.ref (43 + 3)), some (.int x1), some (.int x2), some (.int x3)] [.int x3, .int (p1.2.1 58 (x1).toNatClampNeg), .ref (43 + 3)] _ _ from ?_)
      obtain ⟨p5, hp5, h⟩ := zy_bind h
      refine zy_5 (c := 43) (as := [.int (p1.2.1 58 (x1).toNatClampNeg), .int x3]) (rest := []) (L := [some (.ref (43 + 3)), some (.int (p1.2.1 58 (x1).toNatClampNeg)), some (.int x3), none]) (d' := 301) rfl rfl rfl (Nat.le_of_ble_eq_true rfl) (Nat.le_of_ble_eq_true rfl) rfl (Nat.le_of_ble_eq_true rfl) rfl rfl (zyC252 hp5) ?_
      show zyR _ _ _ _ [some (.ref (43 + 3)), some (.int x1), some (.int x2), some (.int x3)] [.int p5.1] _ _
      obtain ⟨rfl, rfl⟩ := zy_pi h
      exact zy_4 rfl ⟨rfl, rfl⟩
    replace h := zy_ifn h b6
    refine zy_swp (fun b8 => (show zyR _ _ _ _ [some (.ref (43 + 3)), some (.int x1), some (.int x2), some (.int x3)] [] _ _ from ?_)) (fun b8 => ?_)
    · replace h := zy_ifp h b8
      refine zy_0 rfl rfl (show zyR _ _ _ _ [some (.ref (43 + 3)), some (.int x1), some (.int x2), some (.int x3)] [.ref (43 + 3)] _ _ from ?_)
      refine zy_0 rfl rfl (show zyR _ _ _ _ [some (.ref (43 + 3)), some (.int x1), some (.int x2), some (.int x3)] [.ref (43 + 3), .ref (43 + 3)] _ _ from ?_)
      refine zy_1 (c := 43) rfl rfl rfl (show zyR _ _ _ _ [some (.ref (43 + 3)), some (.int x1), some (.int x2), some (.int x3)] [.int (p1.2.1 58 (x1).toNatClampNeg), .ref (43 + 3)] _ _ from ?_)
      refine zy_2 rfl rfl (show zyR _ _ _ _ [some (.ref (43 + 3)), some (.int x1), some (.int x2), some (.int x3)] [.int x3, .int (p1.2.1 58 (x1).toNatClampNeg), .ref (43 + 3)] _ _ from ?_)
      obtain ⟨p7, hp7, h⟩ := zy_bind h
      refine zy_5 (c := 43) (as := [.int (p1.2.1 58 (x1).toNatClampNeg), .int x3]) (rest := []) (L := [some (.ref (43 + 3)), some (.int (p1.2.1 58 (x1).toNatClampNeg)), some (.int x3), none]) (d' := 201) rfl rfl rfl (Nat.le_of_ble_eq_true rfl) (Nat.le_of_ble_eq_true rfl) rfl (Nat.le_of_ble_eq_true rfl) rfl rfl (zyC253 hp7) ?_
      show zyR _ _ _ _ [some (.ref (43 + 3)), some (.int x1), some (.int x2), some (.int x3)] [.int p7.1] _ _
      obtain ⟨rfl, rfl⟩ := zy_pi h
      exact zy_4 rfl ⟨rfl, rfl⟩
    replace h := zy_ifn h b8
    refine zy_swp (fun b10 => (show zyR _ _ _ _ [some (.ref (43 + 3)), some (.int x1), some (.int x2), some (.int x3)] [] _ _ from ?_)) (fun b10 => ?_)
    · replace h := zy_ifp h b10
      refine zy_0 rfl rfl (show zyR _ _ _ _ [some (.ref (43 + 3)), some (.int x1), some (.int x2), some (.int x3)] [.ref (43 + 3)] _ _ from ?_)
      refine zy_0 rfl rfl (show zyR _ _ _ _ [some (.ref (43 + 3)), some (.int x1), some (.int x2), some (.int x3)] [.ref (43 + 3), .ref (43 + 3)] _ _ from ?_)
      refine zy_1 (c := 43) rfl rfl rfl (show zyR _ _ _ _ [some (.ref (43 + 3)), some (.int x1), some (.int x2), some (.int x3)] [.int (p1.2.1 58 (x1).toNatClampNeg), .ref (43 + 3)] _ _ from ?_)
      refine zy_2 rfl rfl (show zyR _ _ _ _ [some (.ref (43 + 3)), some (.int x1), some (.int x2), some (.int x3)] [.int x3, .int (p1.2.1 58 (x1).toNatClampNeg), .ref (43 + 3)] _ _ from ?_)
      obtain ⟨p9, hp9, h⟩ := zy_bind h
      refine zy_5 (c := 43) (as := [.int (p1.2.1 58 (x1).toNatClampNeg), .int x3]) (rest := []) (L := [some (.ref (43 + 3)), some (.int (p1.2.1 58 (x1).toNatClampNeg)), some (.int x3), none]) (d' := 401) rfl rfl rfl (Nat.le_of_ble_eq_true rfl) (Nat.le_of_ble_eq_true rfl) rfl (Nat.le_of_ble_eq_true rfl) rfl rfl (zyC254 hp9) ?_
      show zyR _ _ _ _ [some (.ref (43 + 3)), some (.int x1), some (.int x2), some (.int x3)] [.int p9.1] _ _
      obtain ⟨rfl, rfl⟩ := zy_pi h
      exact zy_4 rfl ⟨rfl, rfl⟩
    replace h := zy_ifn h b10
    show zyR _ _ _ _ [some (.ref (43 + 3)), some (.int x1), some (.int x2), some (.int x3)] [] _ _
    refine zy_3 rfl rfl (show zyR _ _ _ _ [some (.ref (43 + 3)), some (.int x1), some (.int x2), some (.int x3)] [.int (0 : Int32)] _ _ from ?_)
    obtain ⟨rfl, rfl⟩ := zy_pi h
    exact zy_4 rfl ⟨rfl, rfl⟩
  · replace h := zy_ifn h b11
    refine zy_3 rfl rfl (show zyR _ _ _ _ [some (.ref (43 + 3)), some (.int x1), some (.int x2), some (.int x3)] [.int (0 : Int32)] _ _ from ?_)
    obtain ⟨rfl, rfl⟩ := zy_pi h
    exact zy_4 rfl ⟨rfl, rfl⟩
/-! java/lang/Math.min(II)I -/
noncomputable def zyF68   (x0 : Int32) (x1 : Int32) (s : zy_S) : Option (Int32 × zy_S) :=
if x1 < x0 then
some (x1, s)
else
some (x0, s)
theorem zyC68 {X : zx_X}     {x0 : Int32} {x1 : Int32} {s : zy_S} {r : Int32} {s' : zy_S}  (h : zyF68 x0 x1 s = some (r, s')) : zyR X 1 68 0 [some (.int x0), some (.int x1)] [] s (zyE (some (.int r)) s') := by
  unfold zyF68 at h
  refine zy_2 rfl rfl (show zyR _ _ _ _ [some (.int x0), some (.int x1)] [.int x0] _ _ from ?_)
  refine zy_2 rfl rfl (show zyR _ _ _ _ [some (.int x0), some (.int x1)] [.int x1, .int x0] _ _ from ?_)
  refine zy_25_4 rfl (fun b1 => (show zyR _ _ _ _ [some (.int x0), some (.int x1)] [] _ _ from ?_)) (fun b1 => (show zyR _ _ _ _ [some (.int x0), some (.int x1)] [] _ _ from ?_))
  · replace h := zy_ifp h b1
    refine zy_2 rfl rfl (show zyR _ _ _ _ [some (.int x0), some (.int x1)] [.int x1] _ _ from ?_)
    obtain ⟨rfl, rfl⟩ := zy_pi h
    exact zy_4 rfl ⟨rfl, rfl⟩
  · replace h := zy_ifn h b1
    refine zy_2 rfl rfl (show zyR _ _ _ _ [some (.int x0), some (.int x1)] [.int x0] _ _ from ?_)
    refine zy_6 rfl (show zyR _ _ _ _ [some (.int x0), some (.int x1)] [.int x0] _ _ from ?_)
    obtain ⟨rfl, rfl⟩ := zy_pi h
    exact zy_4 rfl ⟨rfl, rfl⟩
/-! NineOpinions$Bodies.traced()I -/
noncomputable def zyF160    (s : zy_S) : Option (Int32 × zy_S) :=
(zyF68 (s.1 27 3) (24 : Int32) s).bind fun p1 =>
some (p1.1, p1.2)
theorem zyC160 {X : zx_X}      {s : zy_S} {r : Int32} {s' : zy_S}  (h : zyF160 s = some (r, s')) : zyR X 2 160 0 [some (.ref (27 + 3))] [] s (zyE (some (.int r)) s') := by
  unfold zyF160 at h
  refine zy_0 rfl rfl (show zyR _ _ _ _ [some (.ref (27 + 3))] [.ref (27 + 3)] _ _ from ?_)
  refine zy_1 (c := 27) rfl rfl rfl (show zyR _ _ _ _ [some (.ref (27 + 3))] [.int (s.1 27 3)] _ _ from ?_)
  refine zy_3 rfl rfl (show zyR _ _ _ _ [some (.ref (27 + 3))] [.int (24 : Int32), .int (s.1 27 3)] _ _ from ?_)
  obtain ⟨p1, hp1, h⟩ := zy_bind h
  refine zy_60 (as := [.int (s.1 27 3), .int (24 : Int32)]) (rest := []) (L := [some (.int (s.1 27 3)), some (.int (24 : Int32))]) (d' := 1) rfl rfl (Nat.le_of_ble_eq_true rfl) (Nat.le_of_ble_eq_true rfl) rfl (Nat.le_of_ble_eq_true rfl) rfl rfl (zyC68 hp1) ?_
  show zyR _ _ _ _ [some (.ref (27 + 3))] [.int p1.1] _ _
  obtain ⟨rfl, rfl⟩ := zy_pi h
  exact zy_4 rfl ⟨rfl, rfl⟩
/-! NineOpinions.trace(I)I -/
noncomputable def zyF159   (x1 : Int32) (s : zy_S) : Option (Int32 × zy_S) :=
if x1 < 0 then
some ((-1 : Int32), s)
else
(zyF160 s).bind fun p1 =>
if p1.1 ≤ x1 then
some ((-1 : Int32), p1.2)
else
if zy_in x1 24 then
some ((p1.2.1 29 (x1).toNatClampNeg), p1.2)
else none
theorem zyC159 {X : zx_X}     {x1 : Int32} {s : zy_S} {r : Int32} {s' : zy_S}  (h : zyF159 x1 s = some (r, s')) : zyR X 3 159 0 [some (.ref (0 + 3)), some (.int x1)] [] s (zyE (some (.int r)) s') := by
  unfold zyF159 at h
  refine zy_2 rfl rfl (show zyR _ _ _ _ [some (.ref (0 + 3)), some (.int x1)] [.int x1] _ _ from ?_)
  refine zy_24_2 rfl (fun b4 => (show zyR _ _ _ _ [some (.ref (0 + 3)), some (.int x1)] [] _ _ from ?_)) (fun b4 => (show zyR _ _ _ _ [some (.ref (0 + 3)), some (.int x1)] [] _ _ from ?_))
  · replace h := zy_ifp h b4
    refine zy_3 rfl rfl (show zyR _ _ _ _ [some (.ref (0 + 3)), some (.int x1)] [.int (-1 : Int32)] _ _ from ?_)
    obtain ⟨rfl, rfl⟩ := zy_pi h
    exact zy_4 rfl ⟨rfl, rfl⟩
  · replace h := zy_ifn h b4
    refine zy_2 rfl rfl (show zyR _ _ _ _ [some (.ref (0 + 3)), some (.int x1)] [.int x1] _ _ from ?_)
    refine zy_0 rfl rfl (show zyR _ _ _ _ [some (.ref (0 + 3)), some (.int x1)] [.ref (0 + 3), .int x1] _ _ from ?_)
    refine zy_1r (c := 0) rfl rfl rfl (show zyR _ _ _ _ [some (.ref (0 + 3)), some (.int x1)] [.ref (27 + 3), .int x1] _ _ from ?_)
    obtain ⟨p1, hp1, h⟩ := zy_bind h
    refine zy_5 (c := 27) (as := []) (rest := [.int x1]) (L := [some (.ref (27 + 3))]) (d' := 2) rfl rfl rfl (Nat.le_of_ble_eq_true rfl) (Nat.le_of_ble_eq_true rfl) rfl (Nat.le_of_ble_eq_true rfl) rfl rfl (zyC160 hp1) ?_
    show zyR _ _ _ _ [some (.ref (0 + 3)), some (.int x1)] [.int p1.1, .int x1] _ _
    refine zy_25_3 rfl (fun b3 => (show zyR _ _ _ _ [some (.ref (0 + 3)), some (.int x1)] [] _ _ from ?_)) (fun b3 => (show zyR _ _ _ _ [some (.ref (0 + 3)), some (.int x1)] [] _ _ from ?_))
    · replace h := zy_ifp h b3
      refine zy_3 rfl rfl (show zyR _ _ _ _ [some (.ref (0 + 3)), some (.int x1)] [.int (-1 : Int32)] _ _ from ?_)
      obtain ⟨rfl, rfl⟩ := zy_pi h
      exact zy_4 rfl ⟨rfl, rfl⟩
    · replace h := zy_ifn h b3
      refine zy_0 rfl rfl (show zyR _ _ _ _ [some (.ref (0 + 3)), some (.int x1)] [.ref (0 + 3)] _ _ from ?_)
      refine zy_1r (c := 0) rfl rfl rfl (show zyR _ _ _ _ [some (.ref (0 + 3)), some (.int x1)] [.ref (27 + 3)] _ _ from ?_)
      refine zy_1r (c := 27) rfl rfl rfl (show zyR _ _ _ _ [some (.ref (0 + 3)), some (.int x1)] [.ref (29 + 3)] _ _ from ?_)
      refine zy_2 rfl rfl (show zyR _ _ _ _ [some (.ref (0 + 3)), some (.int x1)] [.int x1, .ref (29 + 3)] _ _ from ?_)
      obtain ⟨c2, h⟩ := zy_if h
      refine zy_26 (c := 29) rfl rfl c2 (show zyR _ _ _ _ [some (.ref (0 + 3)), some (.int x1)] [.int (p1.2.1 29 (x1).toNatClampNeg)] _ _ from ?_)
      refine zy_6 rfl (show zyR _ _ _ _ [some (.ref (0 + 3)), some (.int x1)] [.int (p1.2.1 29 (x1).toNatClampNeg)] _ _ from ?_)
      obtain ⟨rfl, rfl⟩ := zy_pi h
      exact zy_4 rfl ⟨rfl, rfl⟩
/-! NineOpinionsModel.trace(I)I -/
noncomputable def zyF255   (x1 : Int32) (s : zy_S) : Option (Int32 × zy_S) :=
if x1 < 0 then
some ((-1 : Int32), s)
else
if (s.1 43 31) ≤ x1 then
some ((-1 : Int32), s)
else
if (24 : Int32) ≤ x1 then
some ((-1 : Int32), s)
else
if zy_in x1 24 then
some ((s.1 59 (x1).toNatClampNeg), s)
else none
theorem zyC255 {X : zx_X}     {x1 : Int32} {s : zy_S} {r : Int32} {s' : zy_S}  (h : zyF255 x1 s = some (r, s')) : zyR X 1 255 0 [some (.ref (43 + 3)), some (.int x1)] [] s (zyE (some (.int r)) s') := by
  unfold zyF255 at h
  refine zy_2 rfl rfl (show zyR _ _ _ _ [some (.ref (43 + 3)), some (.int x1)] [.int x1] _ _ from ?_)
  refine zy_24_2 rfl (fun b4 => (show zyR _ _ _ _ [some (.ref (43 + 3)), some (.int x1)] [] _ _ from ?_)) (fun b4 => (show zyR _ _ _ _ [some (.ref (43 + 3)), some (.int x1)] [] _ _ from ?_))
  · replace h := zy_ifp h b4
    refine zy_3 rfl rfl (show zyR _ _ _ _ [some (.ref (43 + 3)), some (.int x1)] [.int (-1 : Int32)] _ _ from ?_)
    obtain ⟨rfl, rfl⟩ := zy_pi h
    exact zy_4 rfl ⟨rfl, rfl⟩
  · replace h := zy_ifn h b4
    refine zy_2 rfl rfl (show zyR _ _ _ _ [some (.ref (43 + 3)), some (.int x1)] [.int x1] _ _ from ?_)
    refine zy_0 rfl rfl (show zyR _ _ _ _ [some (.ref (43 + 3)), some (.int x1)] [.ref (43 + 3), .int x1] _ _ from ?_)
    refine zy_1 (c := 43) rfl rfl rfl (show zyR _ _ _ _ [some (.ref (43 + 3)), some (.int x1)] [.int (s.1 43 31), .int x1] _ _ from ?_)
    refine zy_25_3 rfl (fun b3 => (show zyR _ _ _ _ [some (.ref (43 + 3)), some (.int x1)] [] _ _ from ?_)) (fun b3 => (show zyR _ _ _ _ [some (.ref (43 + 3)), some (.int x1)] [] _ _ from ?_))
    · replace h := zy_ifp h b3
      refine zy_3 rfl rfl (show zyR _ _ _ _ [some (.ref (43 + 3)), some (.int x1)] [.int (-1 : Int32)] _ _ from ?_)
      obtain ⟨rfl, rfl⟩ := zy_pi h
      exact zy_4 rfl ⟨rfl, rfl⟩
    · replace h := zy_ifn h b3
      refine zy_2 rfl rfl (show zyR _ _ _ _ [some (.ref (43 + 3)), some (.int x1)] [.int x1] _ _ from ?_)
      refine zy_3 rfl rfl (show zyR _ _ _ _ [some (.ref (43 + 3)), some (.int x1)] [.int (24 : Int32), .int x1] _ _ from ?_)
      refine zy_25_3 rfl (fun b2 => (show zyR _ _ _ _ [some (.ref (43 + 3)), some (.int x1)] [] _ _ from ?_)) (fun b2 => (show zyR _ _ _ _ [some (.ref (43 + 3)), some (.int x1)] [] _ _ from ?_))
      · replace h := zy_ifp h b2
        refine zy_3 rfl rfl (show zyR _ _ _ _ [some (.ref (43 + 3)), some (.int x1)] [.int (-1 : Int32)] _ _ from ?_)
        obtain ⟨rfl, rfl⟩ := zy_pi h
        exact zy_4 rfl ⟨rfl, rfl⟩
      · replace h := zy_ifn h b2
        refine zy_0 rfl rfl (show zyR _ _ _ _ [some (.ref (43 + 3)), some (.int x1)] [.ref (43 + 3)] _ _ from ?_)
        refine zy_1r (c := 43) rfl rfl rfl (show zyR _ _ _ _ [some (.ref (43 + 3)), some (.int x1)] [.ref (59 + 3)] _ _ from ?_)
        refine zy_2 rfl rfl (show zyR _ _ _ _ [some (.ref (43 + 3)), some (.int x1)] [.int x1, .ref (59 + 3)] _ _ from ?_)
        obtain ⟨c1, h⟩ := zy_if h
        refine zy_26 (c := 59) rfl rfl c1 (show zyR _ _ _ _ [some (.ref (43 + 3)), some (.int x1)] [.int (s.1 59 (x1).toNatClampNeg)] _ _ from ?_)
        refine zy_6 rfl (show zyR _ _ _ _ [some (.ref (43 + 3)), some (.int x1)] [.int (s.1 59 (x1).toNatClampNeg)] _ _ from ?_)
        obtain ⟨rfl, rfl⟩ := zy_pi h
        exact zy_4 rfl ⟨rfl, rfl⟩
