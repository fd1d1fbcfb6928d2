/-! PART 41.126: methods as functions. Made by wip/v4/dcp.py. -/
/-! NineOpinions$Turns.play(III)I -/
noncomputable def zyF104   (x1 : Int32) (x2 : Int32) (x3 : Int32) (s : zy_S) : Option (Int32 × zy_S) :=
(zyF52 ((1 : Int32) <<< (x1 &&& 31)) ((1 : Int32) <<< (x2 &&& 31)) (zy_up s 15 2 x3)).bind fun p1 =>
(zyF54 (p1.2.1 1 3) (p1.2.1 1 3) p1.2).bind fun p2 =>
(zyF105 x3 (p1.2.1 1 3) (p1.2.1 1 3) p2.1 p2.2).bind fun p3 =>
some (p3.1, p3.2)
theorem zyC104 {X : zx_X}     {x1 : Int32} {x2 : Int32} {x3 : Int32} {s : zy_S} {r : Int32} {s' : zy_S}  (h : zyF104 x1 x2 x3 s = some (r, s')) : zyR X 106 104 0 [some (.ref (15 + 3)), some (.int x1), some (.int x2), some (.int x3)] [] s (zyE (some (.int r)) s') := by
  unfold zyF104 at h
  refine zy_0 rfl rfl (show zyR _ _ _ _ [some (.ref (15 + 3)), some (.int x1), some (.int x2), some (.int x3)] [.ref (15 + 3)] _ _ from ?_)
  refine zy_2 rfl rfl (show zyR _ _ _ _ [some (.ref (15 + 3)), some (.int x1), some (.int x2), some (.int x3)] [.int x3, .ref (15 + 3)] _ _ from ?_)
  refine zy_52 (c := 15) rfl rfl rfl (show zyR _ _ _ _ [some (.ref (15 + 3)), some (.int x1), some (.int x2), some (.int x3)] [] _ _ from ?_)
  refine zy_0 rfl rfl (show zyR _ _ _ _ [some (.ref (15 + 3)), some (.int x1), some (.int x2), some (.int x3)] [.ref (15 + 3)] _ _ from ?_)
  refine zy_1r (c := 15) rfl rfl rfl (show zyR _ _ _ _ [some (.ref (15 + 3)), some (.int x1), some (.int x2), some (.int x3)] [.ref (12 + 3)] _ _ from ?_)
  refine zy_3 rfl rfl (show zyR _ _ _ _ [some (.ref (15 + 3)), some (.int x1), some (.int x2), some (.int x3)] [.int (1 : Int32), .ref (12 + 3)] _ _ from ?_)
  refine zy_2 rfl rfl (show zyR _ _ _ _ [some (.ref (15 + 3)), some (.int x1), some (.int x2), some (.int x3)] [.int x1, .int (1 : Int32), .ref (12 + 3)] _ _ from ?_)
  refine zy_16 rfl (show zyR _ _ _ _ [some (.ref (15 + 3)), some (.int x1), some (.int x2), some (.int x3)] [.int ((1 : Int32) <<< (x1 &&& 31)), .ref (12 + 3)] _ _ from ?_)
  refine zy_3 rfl rfl (show zyR _ _ _ _ [some (.ref (15 + 3)), some (.int x1), some (.int x2), some (.int x3)] [.int (1 : Int32), .int ((1 : Int32) <<< (x1 &&& 31)), .ref (12 + 3)] _ _ from ?_)
  refine zy_2 rfl rfl (show zyR _ _ _ _ [some (.ref (15 + 3)), some (.int x1), some (.int x2), some (.int x3)] [.int x2, .int (1 : Int32), .int ((1 : Int32) <<< (x1 &&& 31)), .ref (12 + 3)] _ _ from ?_)
  refine zy_16 rfl (show zyR _ _ _ _ [some (.ref (15 + 3)), some (.int x1), some (.int x2), some (.int x3)] [.int ((1 : Int32) <<< (x2 &&& 31)), .int ((1 : Int32) <<< (x1 &&& 31)), .ref (12 + 3)] _ _ from ?_)
  obtain ⟨p1, hp1, h⟩ := zy_bind h
  refine zy_5 (c := 12) (as := [.int ((1 : Int32) <<< (x1 &&& 31)), .int ((1 : Int32) <<< (x2 &&& 31))]) (rest := []) (L := [some (.ref (12 + 3)), some (.int ((1 : Int32) <<< (x1 &&& 31))), some (.int ((1 : Int32) <<< (x2 &&& 31)))]) (d' := 1) rfl rfl rfl (Nat.le_of_ble_eq_true rfl) (Nat.le_of_ble_eq_true rfl) rfl (Nat.le_of_ble_eq_true rfl) rfl rfl (zyC52 hp1) ?_
  show zyR _ _ _ _ [some (.ref (15 + 3)), some (.int x1), some (.int x2), some (.int x3)] [] _ _
  refine zy_0 rfl rfl (show zyR _ _ _ _ [some (.ref (15 + 3)), some (.int x1), some (.int x2), some (.int x3)] [.ref (15 + 3)] _ _ from ?_)
  refine zy_2 rfl rfl (show zyR _ _ _ _ [some (.ref (15 + 3)), some (.int x1), some (.int x2), some (.int x3)] [.int x3, .ref (15 + 3)] _ _ from ?_)
  refine zy_0 rfl rfl (show zyR _ _ _ _ [some (.ref (15 + 3)), some (.int x1), some (.int x2), some (.int x3)] [.ref (15 + 3), .int x3, .ref (15 + 3)] _ _ from ?_)
  refine zy_1r (c := 15) rfl rfl rfl (show zyR _ _ _ _ [some (.ref (15 + 3)), some (.int x1), some (.int x2), some (.int x3)] [.ref (1 + 3), .int x3, .ref (15 + 3)] _ _ from ?_)
  refine zy_1 (c := 1) rfl rfl rfl (show zyR _ _ _ _ [some (.ref (15 + 3)), some (.int x1), some (.int x2), some (.int x3)] [.int (p1.2.1 1 3), .int x3, .ref (15 + 3)] _ _ from ?_)
  refine zy_0 rfl rfl (show zyR _ _ _ _ [some (.ref (15 + 3)), some (.int x1), some (.int x2), some (.int x3)] [.ref (15 + 3), .int (p1.2.1 1 3), .int x3, .ref (15 + 3)] _ _ from ?_)
  refine zy_1r (c := 15) rfl rfl rfl (show zyR _ _ _ _ [some (.ref (15 + 3)), some (.int x1), some (.int x2), some (.int x3)] [.ref (1 + 3), .int (p1.2.1 1 3), .int x3, .ref (15 + 3)] _ _ from ?_)
  refine zy_1 (c := 1) rfl rfl rfl (show zyR _ _ _ _ [some (.ref (15 + 3)), some (.int x1), some (.int x2), some (.int x3)] [.int (p1.2.1 1 3), .int (p1.2.1 1 3), .int x3, .ref (15 + 3)] _ _ from ?_)
  refine zy_0 rfl rfl (show zyR _ _ _ _ [some (.ref (15 + 3)), some (.int x1), some (.int x2), some (.int x3)] [.ref (15 + 3), .int (p1.2.1 1 3), .int (p1.2.1 1 3), .int x3, .ref (15 + 3)] _ _ from ?_)
  refine zy_1r (c := 15) rfl rfl rfl (show zyR _ _ _ _ [some (.ref (15 + 3)), some (.int x1), some (.int x2), some (.int x3)] [.ref (12 + 3), .int (p1.2.1 1 3), .int (p1.2.1 1 3), .int x3, .ref (15 + 3)] _ _ from ?_)
  refine zy_0 rfl rfl (show zyR _ _ _ _ [some (.ref (15 + 3)), some (.int x1), some (.int x2), some (.int x3)] [.ref (15 + 3), .ref (12 + 3), .int (p1.2.1 1 3), .int (p1.2.1 1 3), .int x3, .ref (15 + 3)] _ _ from ?_)
  refine zy_1r (c := 15) rfl rfl rfl (show zyR _ _ _ _ [some (.ref (15 + 3)), some (.int x1), some (.int x2), some (.int x3)] [.ref (1 + 3), .ref (12 + 3), .int (p1.2.1 1 3), .int (p1.2.1 1 3), .int x3, .ref (15 + 3)] _ _ from ?_)
  refine zy_1 (c := 1) rfl rfl rfl (show zyR _ _ _ _ [some (.ref (15 + 3)), some (.int x1), some (.int x2), some (.int x3)] [.int (p1.2.1 1 3), .ref (12 + 3), .int (p1.2.1 1 3), .int (p1.2.1 1 3), .int x3, .ref (15 + 3)] _ _ from ?_)
  refine zy_0 rfl rfl (show zyR _ _ _ _ [some (.ref (15 + 3)), some (.int x1), some (.int x2), some (.int x3)] [.ref (15 + 3), .int (p1.2.1 1 3), .ref (12 + 3), .int (p1.2.1 1 3), .int (p1.2.1 1 3), .int x3, .ref (15 + 3)] _ _ from ?_)
  refine zy_1r (c := 15) rfl rfl rfl (show zyR _ _ _ _ [some (.ref (15 + 3)), some (.int x1), some (.int x2), some (.int x3)] [.ref (1 + 3), .int (p1.2.1 1 3), .ref (12 + 3), .int (p1.2.1 1 3), .int (p1.2.1 1 3), .int x3, .ref (15 + 3)] _ _ from ?_)
  refine zy_1 (c := 1) rfl rfl rfl (show zyR _ _ _ _ [some (.ref (15 + 3)), some (.int x1), some (.int x2), some (.int x3)] [.int (p1.2.1 1 3), .int (p1.2.1 1 3), .ref (12 + 3), .int (p1.2.1 1 3), .int (p1.2.1 1 3), .int x3, .ref (15 + 3)] _ _ from ?_)
  obtain ⟨p2, hp2, h⟩ := zy_bind h
  refine zy_5 (c := 12) (as := [.int (p1.2.1 1 3), .int (p1.2.1 1 3)]) (rest := [.int (p1.2.1 1 3), .int (p1.2.1 1 3), .int x3, .ref (15 + 3)]) (L := [some (.ref (12 + 3)), some (.int (p1.2.1 1 3)), some (.int (p1.2.1 1 3)), none, none]) (d' := 6) rfl rfl rfl (Nat.le_of_ble_eq_true rfl) (Nat.le_of_ble_eq_true rfl) rfl (Nat.le_of_ble_eq_true rfl) rfl rfl (zyC54 hp2) ?_
  show zyR _ _ _ _ [some (.ref (15 + 3)), some (.int x1), some (.int x2), some (.int x3)] [.int p2.1, .int (p1.2.1 1 3), .int (p1.2.1 1 3), .int x3, .ref (15 + 3)] _ _
  obtain ⟨p3, hp3, h⟩ := zy_bind h
  refine zy_5 (c := 15) (as := [.int x3, .int (p1.2.1 1 3), .int (p1.2.1 1 3), .int p2.1]) (rest := []) (L := [some (.ref (15 + 3)), some (.int x3), some (.int (p1.2.1 1 3)), some (.int (p1.2.1 1 3)), some (.int p2.1), none, none, none, none, none, none, none, none, none]) (d' := 105) rfl rfl rfl (Nat.le_of_ble_eq_true rfl) (Nat.le_of_ble_eq_true rfl) rfl (Nat.le_of_ble_eq_true rfl) rfl rfl (zyC105 hp3) ?_
  show zyR _ _ _ _ [some (.ref (15 + 3)), some (.int x1), some (.int x2), some (.int x3)] [.int p3.1] _ _
  obtain ⟨rfl, rfl⟩ := zy_pi h
  exact zy_4 rfl ⟨rfl, rfl⟩
