/-! PART 41.05: methods as functions. Made by wip/v4/dcp.py. -/
/-! NineOpinions$Changes.remember(IIII)V -/
noncomputable def zyF29_13   (x1 : Int32) (x2 : Int32) (x3 : Int32) (x4 : Int32) (s : zy_S) : Option (Int32 × zy_S) :=
if zy_in (s.1 22 5) 40 then
if zy_in (s.1 22 5) 40 then
if zy_in (s.1 22 5) 40 then
if zy_in (s.1 22 5) 40 then
some ((0 : Int32), (zy_up (zy_up (zy_up (zy_up (zy_up (zy_up s 23 ((s.1 22 5)).toNatClampNeg x1) 24 ((s.1 22 5)).toNatClampNeg x2) 25 ((s.1 22 5)).toNatClampNeg x3) 26 ((s.1 22 5)).toNatClampNeg x4) 22 5 ((s.1 22 5) + (1 : Int32))) 22 6 ((s.1 22 5) + (1 : Int32))))
else none
else none
else none
else none
theorem zyC29_13 {X : zx_X}     {x1 : Int32} {x2 : Int32} {x3 : Int32} {x4 : Int32} {s : zy_S} {r : Int32} {s' : zy_S}  (h : zyF29_13 x1 x2 x3 x4 s = some (r, s')) : zyR X 2 29 13 [some (.ref (22 + 3)), some (.int x1), some (.int x2), some (.int x3), some (.int x4)] [] s (zyE none s') := by
  unfold zyF29_13 at h
  refine zy_0 rfl rfl (show zyR _ _ _ _ [some (.ref (22 + 3)), some (.int x1), some (.int x2), some (.int x3), some (.int x4)] [.ref (22 + 3)] _ _ from ?_)
  refine zy_1r (c := 22) rfl rfl rfl (show zyR _ _ _ _ [some (.ref (22 + 3)), some (.int x1), some (.int x2), some (.int x3), some (.int x4)] [.ref (23 + 3)] _ _ from ?_)
  refine zy_0 rfl rfl (show zyR _ _ _ _ [some (.ref (22 + 3)), some (.int x1), some (.int x2), some (.int x3), some (.int x4)] [.ref (22 + 3), .ref (23 + 3)] _ _ from ?_)
  refine zy_1 (c := 22) rfl rfl rfl (show zyR _ _ _ _ [some (.ref (22 + 3)), some (.int x1), some (.int x2), some (.int x3), some (.int x4)] [.int (s.1 22 5), .ref (23 + 3)] _ _ from ?_)
  refine zy_2 rfl rfl (show zyR _ _ _ _ [some (.ref (22 + 3)), some (.int x1), some (.int x2), some (.int x3), some (.int x4)] [.int x1, .int (s.1 22 5), .ref (23 + 3)] _ _ from ?_)
  obtain ⟨c1, h⟩ := zy_if h
  refine zy_27 (c := 23) rfl rfl c1 (show zyR _ _ _ _ [some (.ref (22 + 3)), some (.int x1), some (.int x2), some (.int x3), some (.int x4)] [] _ _ from ?_)
  refine zy_0 rfl rfl (show zyR _ _ _ _ [some (.ref (22 + 3)), some (.int x1), some (.int x2), some (.int x3), some (.int x4)] [.ref (22 + 3)] _ _ from ?_)
  refine zy_1r (c := 22) rfl rfl rfl (show zyR _ _ _ _ [some (.ref (22 + 3)), some (.int x1), some (.int x2), some (.int x3), some (.int x4)] [.ref (24 + 3)] _ _ from ?_)
  refine zy_0 rfl rfl (show zyR _ _ _ _ [some (.ref (22 + 3)), some (.int x1), some (.int x2), some (.int x3), some (.int x4)] [.ref (22 + 3), .ref (24 + 3)] _ _ from ?_)
  refine zy_1 (c := 22) rfl rfl rfl (show zyR _ _ _ _ [some (.ref (22 + 3)), some (.int x1), some (.int x2), some (.int x3), some (.int x4)] [.int (s.1 22 5), .ref (24 + 3)] _ _ from ?_)
  refine zy_2 rfl rfl (show zyR _ _ _ _ [some (.ref (22 + 3)), some (.int x1), some (.int x2), some (.int x3), some (.int x4)] [.int x2, .int (s.1 22 5), .ref (24 + 3)] _ _ from ?_)
  obtain ⟨c2, h⟩ := zy_if h
  refine zy_27 (c := 24) rfl rfl c2 (show zyR _ _ _ _ [some (.ref (22 + 3)), some (.int x1), some (.int x2), some (.int x3), some (.int x4)] [] _ _ from ?_)
  refine zy_0 rfl rfl (show zyR _ _ _ _ [some (.ref (22 + 3)), some (.int x1), some (.int x2), some (.int x3), some (.int x4)] [.ref (22 + 3)] _ _ from ?_)
  refine zy_1r (c := 22) rfl rfl rfl (show zyR _ _ _ _ [some (.ref (22 + 3)), some (.int x1), some (.int x2), some (.int x3), some (.int x4)] [.ref (25 + 3)] _ _ from ?_)
  refine zy_0 rfl rfl (show zyR _ _ _ _ [some (.ref (22 + 3)), some (.int x1), some (.int x2), some (.int x3), some (.int x4)] [.ref (22 + 3), .ref (25 + 3)] _ _ from ?_)
  refine zy_1 (c := 22) rfl rfl rfl (show zyR _ _ _ _ [some (.ref (22 + 3)), some (.int x1), some (.int x2), some (.int x3), some (.int x4)] [.int (s.1 22 5), .ref (25 + 3)] _ _ from ?_)
  refine zy_2 rfl rfl (show zyR _ _ _ _ [some (.ref (22 + 3)), some (.int x1), some (.int x2), some (.int x3), some (.int x4)] [.int x3, .int (s.1 22 5), .ref (25 + 3)] _ _ from ?_)
  obtain ⟨c3, h⟩ := zy_if h
  refine zy_27 (c := 25) rfl rfl c3 (show zyR _ _ _ _ [some (.ref (22 + 3)), some (.int x1), some (.int x2), some (.int x3), some (.int x4)] [] _ _ from ?_)
  refine zy_0 rfl rfl (show zyR _ _ _ _ [some (.ref (22 + 3)), some (.int x1), some (.int x2), some (.int x3), some (.int x4)] [.ref (22 + 3)] _ _ from ?_)
  refine zy_1r (c := 22) rfl rfl rfl (show zyR _ _ _ _ [some (.ref (22 + 3)), some (.int x1), some (.int x2), some (.int x3), some (.int x4)] [.ref (26 + 3)] _ _ from ?_)
  refine zy_0 rfl rfl (show zyR _ _ _ _ [some (.ref (22 + 3)), some (.int x1), some (.int x2), some (.int x3), some (.int x4)] [.ref (22 + 3), .ref (26 + 3)] _ _ from ?_)
  refine zy_1 (c := 22) rfl rfl rfl (show zyR _ _ _ _ [some (.ref (22 + 3)), some (.int x1), some (.int x2), some (.int x3), some (.int x4)] [.int (s.1 22 5), .ref (26 + 3)] _ _ from ?_)
  refine zy_2 rfl rfl (show zyR _ _ _ _ [some (.ref (22 + 3)), some (.int x1), some (.int x2), some (.int x3), some (.int x4)] [.int x4, .int (s.1 22 5), .ref (26 + 3)] _ _ from ?_)
  obtain ⟨c4, h⟩ := zy_if h
  refine zy_27 (c := 26) rfl rfl c4 (show zyR _ _ _ _ [some (.ref (22 + 3)), some (.int x1), some (.int x2), some (.int x3), some (.int x4)] [] _ _ from ?_)
  refine zy_0 rfl rfl (show zyR _ _ _ _ [some (.ref (22 + 3)), some (.int x1), some (.int x2), some (.int x3), some (.int x4)] [.ref (22 + 3)] _ _ from ?_)
  refine zy_33 rfl rfl (show zyR _ _ _ _ [some (.ref (22 + 3)), some (.int x1), some (.int x2), some (.int x3), some (.int x4)] [.ref (22 + 3), .ref (22 + 3)] _ _ from ?_)
  refine zy_1 (c := 22) rfl rfl rfl (show zyR _ _ _ _ [some (.ref (22 + 3)), some (.int x1), some (.int x2), some (.int x3), some (.int x4)] [.int (s.1 22 5), .ref (22 + 3)] _ _ from ?_)
  refine zy_3 rfl rfl (show zyR _ _ _ _ [some (.ref (22 + 3)), some (.int x1), some (.int x2), some (.int x3), some (.int x4)] [.int (1 : Int32), .int (s.1 22 5), .ref (22 + 3)] _ _ from ?_)
  refine zy_10 rfl (show zyR _ _ _ _ [some (.ref (22 + 3)), some (.int x1), some (.int x2), some (.int x3), some (.int x4)] [.int ((s.1 22 5) + (1 : Int32)), .ref (22 + 3)] _ _ from ?_)
  refine zy_52 (c := 22) rfl rfl rfl (show zyR _ _ _ _ [some (.ref (22 + 3)), some (.int x1), some (.int x2), some (.int x3), some (.int x4)] [] _ _ from ?_)
  refine zy_0 rfl rfl (show zyR _ _ _ _ [some (.ref (22 + 3)), some (.int x1), some (.int x2), some (.int x3), some (.int x4)] [.ref (22 + 3)] _ _ from ?_)
  refine zy_0 rfl rfl (show zyR _ _ _ _ [some (.ref (22 + 3)), some (.int x1), some (.int x2), some (.int x3), some (.int x4)] [.ref (22 + 3), .ref (22 + 3)] _ _ from ?_)
  refine zy_1 (c := 22) rfl rfl rfl (show zyR _ _ _ _ [some (.ref (22 + 3)), some (.int x1), some (.int x2), some (.int x3), some (.int x4)] [.int ((s.1 22 5) + (1 : Int32)), .ref (22 + 3)] _ _ from ?_)
  refine zy_52 (c := 22) rfl rfl rfl (show zyR _ _ _ _ [some (.ref (22 + 3)), some (.int x1), some (.int x2), some (.int x3), some (.int x4)] [] _ _ from ?_)
  cases h
  exact zy_66 rfl ⟨rfl, rfl⟩
noncomputable def zyF29   (x1 : Int32) (x2 : Int32) (x3 : Int32) (x4 : Int32) (s : zy_S) : Option (Int32 × zy_S) :=
if (s.1 22 5) < (40 : Int32) then
zyF29_13 x1 x2 x3 x4 s
else
(zyF30 s).bind fun p5 =>
zyF29_13 x1 x2 x3 x4 p5.2
theorem zyC29 {X : zx_X}     {x1 : Int32} {x2 : Int32} {x3 : Int32} {x4 : Int32} {s : zy_S} {r : Int32} {s' : zy_S}  (h : zyF29 x1 x2 x3 x4 s = some (r, s')) : zyR X 2 29 0 [some (.ref (22 + 3)), some (.int x1), some (.int x2), some (.int x3), some (.int x4)] [] s (zyE none s') := by
  unfold zyF29 at h
  refine zy_0 rfl rfl (show zyR _ _ _ _ [some (.ref (22 + 3)), some (.int x1), some (.int x2), some (.int x3), some (.int x4)] [.ref (22 + 3)] _ _ from ?_)
  refine zy_1 (c := 22) rfl rfl rfl (show zyR _ _ _ _ [some (.ref (22 + 3)), some (.int x1), some (.int x2), some (.int x3), some (.int x4)] [.int (s.1 22 5)] _ _ from ?_)
  refine zy_3 rfl rfl (show zyR _ _ _ _ [some (.ref (22 + 3)), some (.int x1), some (.int x2), some (.int x3), some (.int x4)] [.int (40 : Int32), .int (s.1 22 5)] _ _ from ?_)
  refine zy_25_2 rfl (fun b6 => (show zyR _ _ _ _ [some (.ref (22 + 3)), some (.int x1), some (.int x2), some (.int x3), some (.int x4)] [] _ _ from ?_)) (fun b6 => (show zyR _ _ _ _ [some (.ref (22 + 3)), some (.int x1), some (.int x2), some (.int x3), some (.int x4)] [] _ _ from ?_))
  · replace h := zy_ifp h b6
    exact zy_sub (show zy_le [some (.ref (22 + 3)), some (.int x1), some (.int x2), some (.int x3), some (.int x4)] [some (.ref (22 + 3)), some (.int x1), some (.int x2), some (.int x3), some (.int x4)] from ⟨rfl, ⟨rfl, ⟨rfl, ⟨rfl, ⟨rfl, trivial⟩⟩⟩⟩⟩) (zyC29_13 h)
  · replace h := zy_ifn h b6
    refine zy_0 rfl rfl (show zyR _ _ _ _ [some (.ref (22 + 3)), some (.int x1), some (.int x2), some (.int x3), some (.int x4)] [.ref (22 + 3)] _ _ from ?_)
    obtain ⟨p5, hp5, h⟩ := zy_bind h
    refine zy_5 (c := 22) (as := []) (rest := []) (L := [some (.ref (22 + 3))]) (d' := 1) rfl rfl rfl (Nat.le_of_ble_eq_true rfl) (Nat.le_of_ble_eq_true rfl) rfl (Nat.le_of_ble_eq_true rfl) rfl rfl (zyC30 hp5) ?_
    show zyR _ _ _ _ [some (.ref (22 + 3)), some (.int x1), some (.int x2), some (.int x3), some (.int x4)] [] _ _
    exact zy_sub (show zy_le [some (.ref (22 + 3)), some (.int x1), some (.int x2), some (.int x3), some (.int x4)] [some (.ref (22 + 3)), some (.int x1), some (.int x2), some (.int x3), some (.int x4)] from ⟨rfl, ⟨rfl, ⟨rfl, ⟨rfl, ⟨rfl, trivial⟩⟩⟩⟩⟩) (zyC29_13 h)
/-! NineOpinions.mend(III)I -/
noncomputable def zyF24   (x1 : Int32) (x2 : Int32) (x3 : Int32) (s : zy_S) : Option (Int32 × zy_S) :=
(zyF25 x2 x1 s).bind fun p1 =>
if p1.1 = 0 then
some ((-1 : Int32), p1.2)
else
(zyF14 x2 x3 p1.2).bind fun p2 =>
if p2.1 ≠ 0 then
(zyF27 x2 x1 p2.2).bind fun p3 =>
if p3.1 = x3 then
some (p3.1, p3.2)
else
(zyF28 x2 x1 x3 p3.2).bind fun p4 =>
(zyF29 x2 x1 p3.1 x3 p4.2).bind fun p5 =>
some (p3.1, p5.2)
else
some ((-1 : Int32), p2.2)
theorem zyC24 {X : zx_X}     {x1 : Int32} {x2 : Int32} {x3 : Int32} {s : zy_S} {r : Int32} {s' : zy_S}  (h : zyF24 x1 x2 x3 s = some (r, s')) : zyR X 3 24 0 [some (.ref (0 + 3)), some (.int x1), some (.int x2), some (.int x3), none] [] s (zyE (some (.int r)) s') := by
  unfold zyF24 at h
  refine zy_0 rfl rfl (show zyR _ _ _ _ [some (.ref (0 + 3)), some (.int x1), some (.int x2), some (.int x3), none] [.ref (0 + 3)] _ _ from ?_)
  refine zy_1r (c := 0) rfl rfl rfl (show zyR _ _ _ _ [some (.ref (0 + 3)), some (.int x1), some (.int x2), some (.int x3), none] [.ref (1 + 3)] _ _ from ?_)
  refine zy_2 rfl rfl (show zyR _ _ _ _ [some (.ref (0 + 3)), some (.int x1), some (.int x2), some (.int x3), none] [.int x2, .ref (1 + 3)] _ _ from ?_)
  refine zy_2 rfl rfl (show zyR _ _ _ _ [some (.ref (0 + 3)), some (.int x1), some (.int x2), some (.int x3), none] [.int x1, .int x2, .ref (1 + 3)] _ _ from ?_)
  obtain ⟨p1, hp1, h⟩ := zy_bind h
  refine zy_5 (c := 1) (as := [.int x2, .int x1]) (rest := []) (L := [some (.ref (1 + 3)), some (.int x2), some (.int x1)]) (d' := 2) rfl rfl rfl (Nat.le_of_ble_eq_true rfl) (Nat.le_of_ble_eq_true rfl) rfl (Nat.le_of_ble_eq_true rfl) rfl rfl (zyC25 hp1) ?_
  show zyR _ _ _ _ [some (.ref (0 + 3)), some (.int x1), some (.int x2), some (.int x3), none] [.int p1.1] _ _
  refine zy_24_0 rfl (fun b8 => (show zyR _ _ _ _ [some (.ref (0 + 3)), some (.int x1), some (.int x2), some (.int x3), none] [] _ _ from ?_)) (fun b8 => (show zyR _ _ _ _ [some (.ref (0 + 3)), some (.int x1), some (.int x2), some (.int x3), none] [] _ _ from ?_))
  · replace h := zy_ifp h b8
    refine zy_3 rfl rfl (show zyR _ _ _ _ [some (.ref (0 + 3)), some (.int x1), some (.int x2), some (.int x3), none] [.int (-1 : Int32)] _ _ from ?_)
    obtain ⟨rfl, rfl⟩ := zy_pi h
    exact zy_4 rfl ⟨rfl, rfl⟩
  · replace h := zy_ifn h b8
    refine zy_0 rfl rfl (show zyR _ _ _ _ [some (.ref (0 + 3)), some (.int x1), some (.int x2), some (.int x3), none] [.ref (0 + 3)] _ _ from ?_)
    refine zy_1r (c := 0) rfl rfl rfl (show zyR _ _ _ _ [some (.ref (0 + 3)), some (.int x1), some (.int x2), some (.int x3), none] [.ref (1 + 3)] _ _ from ?_)
    refine zy_2 rfl rfl (show zyR _ _ _ _ [some (.ref (0 + 3)), some (.int x1), some (.int x2), some (.int x3), none] [.int x2, .ref (1 + 3)] _ _ from ?_)
    refine zy_2 rfl rfl (show zyR _ _ _ _ [some (.ref (0 + 3)), some (.int x1), some (.int x2), some (.int x3), none] [.int x3, .int x2, .ref (1 + 3)] _ _ from ?_)
    obtain ⟨p2, hp2, h⟩ := zy_bind h
    refine zy_5 (c := 1) (as := [.int x2, .int x3]) (rest := []) (L := [some (.ref (1 + 3)), some (.int x2), some (.int x3)]) (d' := 1) rfl rfl rfl (Nat.le_of_ble_eq_true rfl) (Nat.le_of_ble_eq_true rfl) rfl (Nat.le_of_ble_eq_true rfl) rfl rfl (zy_sub (show zy_le [none, some (.int x2), some (.int x3)] [some (.ref (1 + 3)), some (.int x2), some (.int x3)] from ⟨rfl, ⟨rfl, trivial⟩⟩) (zyC14 hp2)) ?_
    show zyR _ _ _ _ [some (.ref (0 + 3)), some (.int x1), some (.int x2), some (.int x3), none] [.int p2.1] _ _
    refine zy_24_1 rfl (fun b7 => (show zyR _ _ _ _ [some (.ref (0 + 3)), some (.int x1), some (.int x2), some (.int x3), none] [] _ _ from ?_)) (fun b7 => (show zyR _ _ _ _ [some (.ref (0 + 3)), some (.int x1), some (.int x2), some (.int x3), none] [] _ _ from ?_))
    · replace h := zy_ifp h b7
      refine zy_0 rfl rfl (show zyR _ _ _ _ [some (.ref (0 + 3)), some (.int x1), some (.int x2), some (.int x3), none] [.ref (0 + 3)] _ _ from ?_)
      refine zy_1r (c := 0) rfl rfl rfl (show zyR _ _ _ _ [some (.ref (0 + 3)), some (.int x1), some (.int x2), some (.int x3), none] [.ref (1 + 3)] _ _ from ?_)
      refine zy_2 rfl rfl (show zyR _ _ _ _ [some (.ref (0 + 3)), some (.int x1), some (.int x2), some (.int x3), none] [.int x2, .ref (1 + 3)] _ _ from ?_)
      refine zy_2 rfl rfl (show zyR _ _ _ _ [some (.ref (0 + 3)), some (.int x1), some (.int x2), some (.int x3), none] [.int x1, .int x2, .ref (1 + 3)] _ _ from ?_)
      obtain ⟨p3, hp3, h⟩ := zy_bind h
      refine zy_5 (c := 1) (as := [.int x2, .int x1]) (rest := []) (L := [some (.ref (1 + 3)), some (.int x2), some (.int x1)]) (d' := 1) rfl rfl rfl (Nat.le_of_ble_eq_true rfl) (Nat.le_of_ble_eq_true rfl) rfl (Nat.le_of_ble_eq_true rfl) rfl rfl (zyC27 hp3) ?_
      show zyR _ _ _ _ [some (.ref (0 + 3)), some (.int x1), some (.int x2), some (.int x3), none] [.int p3.1] _ _
      refine zy_23 rfl rfl (show zyR _ _ _ _ [some (.ref (0 + 3)), some (.int x1), some (.int x2), some (.int x3), some (.int p3.1)] [] _ _ from ?_)
      refine zy_2 rfl rfl (show zyR _ _ _ _ [some (.ref (0 + 3)), some (.int x1), some (.int x2), some (.int x3), some (.int p3.1)] [.int p3.1] _ _ from ?_)
      refine zy_2 rfl rfl (show zyR _ _ _ _ [some (.ref (0 + 3)), some (.int x1), some (.int x2), some (.int x3), some (.int p3.1)] [.int x3, .int p3.1] _ _ from ?_)
      refine zy_25_0 rfl (fun b6 => (show zyR _ _ _ _ [some (.ref (0 + 3)), some (.int x1), some (.int x2), some (.int x3), some (.int p3.1)] [] _ _ from ?_)) (fun b6 => (show zyR _ _ _ _ [some (.ref (0 + 3)), some (.int x1), some (.int x2), some (.int x3), some (.int p3.1)] [] _ _ from ?_))
      · replace h := zy_ifp h b6
        refine zy_2 rfl rfl (show zyR _ _ _ _ [some (.ref (0 + 3)), some (.int x1), some (.int x2), some (.int x3), some (.int p3.1)] [.int p3.1] _ _ from ?_)
        obtain ⟨rfl, rfl⟩ := zy_pi h
        exact zy_4 rfl ⟨rfl, rfl⟩
      · replace h := zy_ifn h b6
        refine zy_0 rfl rfl (show zyR _ _ _ _ [some (.ref (0 + 3)), some (.int x1), some (.int x2), some (.int x3), some (.int p3.1)] [.ref (0 + 3)] _ _ from ?_)
        refine zy_1r (c := 0) rfl rfl rfl (show zyR _ _ _ _ [some (.ref (0 + 3)), some (.int x1), some (.int x2), some (.int x3), some (.int p3.1)] [.ref (1 + 3)] _ _ from ?_)
        refine zy_2 rfl rfl (show zyR _ _ _ _ [some (.ref (0 + 3)), some (.int x1), some (.int x2), some (.int x3), some (.int p3.1)] [.int x2, .ref (1 + 3)] _ _ from ?_)
        refine zy_2 rfl rfl (show zyR _ _ _ _ [some (.ref (0 + 3)), some (.int x1), some (.int x2), some (.int x3), some (.int p3.1)] [.int x1, .int x2, .ref (1 + 3)] _ _ from ?_)
        refine zy_2 rfl rfl (show zyR _ _ _ _ [some (.ref (0 + 3)), some (.int x1), some (.int x2), some (.int x3), some (.int p3.1)] [.int x3, .int x1, .int x2, .ref (1 + 3)] _ _ from ?_)
        obtain ⟨p4, hp4, h⟩ := zy_bind h
        refine zy_5 (c := 1) (as := [.int x2, .int x1, .int x3]) (rest := []) (L := [some (.ref (1 + 3)), some (.int x2), some (.int x1), some (.int x3)]) (d' := 1) rfl rfl rfl (Nat.le_of_ble_eq_true rfl) (Nat.le_of_ble_eq_true rfl) rfl (Nat.le_of_ble_eq_true rfl) rfl rfl (zyC28 hp4) ?_
        show zyR _ _ _ _ [some (.ref (0 + 3)), some (.int x1), some (.int x2), some (.int x3), some (.int p3.1)] [] _ _
        refine zy_0 rfl rfl (show zyR _ _ _ _ [some (.ref (0 + 3)), some (.int x1), some (.int x2), some (.int x3), some (.int p3.1)] [.ref (0 + 3)] _ _ from ?_)
        refine zy_1r (c := 0) rfl rfl rfl (show zyR _ _ _ _ [some (.ref (0 + 3)), some (.int x1), some (.int x2), some (.int x3), some (.int p3.1)] [.ref (22 + 3)] _ _ from ?_)
        refine zy_2 rfl rfl (show zyR _ _ _ _ [some (.ref (0 + 3)), some (.int x1), some (.int x2), some (.int x3), some (.int p3.1)] [.int x2, .ref (22 + 3)] _ _ from ?_)
        refine zy_2 rfl rfl (show zyR _ _ _ _ [some (.ref (0 + 3)), some (.int x1), some (.int x2), some (.int x3), some (.int p3.1)] [.int x1, .int x2, .ref (22 + 3)] _ _ from ?_)
        refine zy_2 rfl rfl (show zyR _ _ _ _ [some (.ref (0 + 3)), some (.int x1), some (.int x2), some (.int x3), some (.int p3.1)] [.int p3.1, .int x1, .int x2, .ref (22 + 3)] _ _ from ?_)
        refine zy_2 rfl rfl (show zyR _ _ _ _ [some (.ref (0 + 3)), some (.int x1), some (.int x2), some (.int x3), some (.int p3.1)] [.int x3, .int p3.1, .int x1, .int x2, .ref (22 + 3)] _ _ from ?_)
        obtain ⟨p5, hp5, h⟩ := zy_bind h
        refine zy_5 (c := 22) (as := [.int x2, .int x1, .int p3.1, .int x3]) (rest := []) (L := [some (.ref (22 + 3)), some (.int x2), some (.int x1), some (.int p3.1), some (.int x3)]) (d' := 2) rfl rfl rfl (Nat.le_of_ble_eq_true rfl) (Nat.le_of_ble_eq_true rfl) rfl (Nat.le_of_ble_eq_true rfl) rfl rfl (zyC29 hp5) ?_
        show zyR _ _ _ _ [some (.ref (0 + 3)), some (.int x1), some (.int x2), some (.int x3), some (.int p3.1)] [] _ _
        refine zy_2 rfl rfl (show zyR _ _ _ _ [some (.ref (0 + 3)), some (.int x1), some (.int x2), some (.int x3), some (.int p3.1)] [.int p3.1] _ _ from ?_)
        obtain ⟨rfl, rfl⟩ := zy_pi h
        exact zy_4 rfl ⟨rfl, rfl⟩
    · replace h := zy_ifn h b7
      refine zy_3 rfl rfl (show zyR _ _ _ _ [some (.ref (0 + 3)), some (.int x1), some (.int x2), some (.int x3), none] [.int (-1 : Int32)] _ _ from ?_)
      obtain ⟨rfl, rfl⟩ := zy_pi h
      exact zy_4 rfl ⟨rfl, rfl⟩
/-! NineOpinions$Tape.isFull()Z -/
noncomputable def zyF34    (s : zy_S) : Option (Int32 × zy_S) :=
if (s.1 9 2) < (120 : Int32) then
some ((0 : Int32), s)
else
some ((1 : Int32), s)
theorem zyC34 {X : zx_X}      {s : zy_S} {r : Int32} {s' : zy_S}  (h : zyF34 s = some (r, s')) : zyR X 1 34 0 [some (.ref (9 + 3))] [] s (zyE (some (.int r)) s') := by
  unfold zyF34 at h
  refine zy_0 rfl rfl (show zyR _ _ _ _ [some (.ref (9 + 3))] [.ref (9 + 3)] _ _ from ?_)
  refine zy_1 (c := 9) rfl rfl rfl (show zyR _ _ _ _ [some (.ref (9 + 3))] [.int (s.1 9 2)] _ _ from ?_)
  refine zy_3 rfl rfl (show zyR _ _ _ _ [some (.ref (9 + 3))] [.int (120 : Int32), .int (s.1 9 2)] _ _ from ?_)
  refine zy_25_2 rfl (fun b1 => (show zyR _ _ _ _ [some (.ref (9 + 3))] [] _ _ from ?_)) (fun b1 => (show zyR _ _ _ _ [some (.ref (9 + 3))] [] _ _ from ?_))
  · replace h := zy_ifp h b1
    refine zy_3 rfl rfl (show zyR _ _ _ _ [some (.ref (9 + 3))] [.int (0 : Int32)] _ _ from ?_)
    cases h
    exact zy_4b rfl ⟨rfl, rfl⟩ (Or.inl rfl)
  · replace h := zy_ifn h b1
    refine zy_3 rfl rfl (show zyR _ _ _ _ [some (.ref (9 + 3))] [.int (1 : Int32)] _ _ from ?_)
    refine zy_6 rfl (show zyR _ _ _ _ [some (.ref (9 + 3))] [.int (1 : Int32)] _ _ from ?_)
    cases h
    exact zy_4b rfl ⟨rfl, rfl⟩ (Or.inr rfl)
