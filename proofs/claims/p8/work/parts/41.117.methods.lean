/-! PART 41.117: methods as functions. Made by wip/v4/dcp.py. -/
/-! NineOpinions$Thought.leastOf(II)I -/
noncomputable def zyF81   (x1 : Int32) (x2 : Int32) (s : zy_S) : Option (Int32 × zy_S) :=
if x2 < 0 then
some ((0 : Int32), s)
else
if x2 ≤ (9 : Int32) then
if zy_in (((10 : Int32) * x1) + x2) 70 then
some ((s.1 14 ((((10 : Int32) * x1) + x2)).toNatClampNeg), s)
else none
else
some ((0 : Int32), s)
theorem zyC81 {X : zx_X}     {x1 : Int32} {x2 : Int32} {s : zy_S} {r : Int32} {s' : zy_S}  (h : zyF81 x1 x2 s = some (r, s')) : zyR X 1 81 0 [some (.ref (12 + 3)), some (.int x1), some (.int x2)] [] s (zyE (some (.int r)) s') := by
  unfold zyF81 at h
  refine zy_2 rfl rfl (show zyR _ _ _ _ [some (.ref (12 + 3)), some (.int x1), some (.int x2)] [.int x2] _ _ from ?_)
  refine zy_24_2 rfl (fun b3 => (show zyR _ _ _ _ [some (.ref (12 + 3)), some (.int x1), some (.int x2)] [] _ _ from ?_)) (fun b3 => (show zyR _ _ _ _ [some (.ref (12 + 3)), some (.int x1), some (.int x2)] [] _ _ from ?_))
  · replace h := zy_ifp h b3
    refine zy_3 rfl rfl (show zyR _ _ _ _ [some (.ref (12 + 3)), some (.int x1), some (.int x2)] [.int (0 : Int32)] _ _ from ?_)
    refine zy_6 rfl (show zyR _ _ _ _ [some (.ref (12 + 3)), some (.int x1), some (.int x2)] [.int (0 : Int32)] _ _ from ?_)
    obtain ⟨rfl, rfl⟩ := zy_pi h
    exact zy_4 rfl ⟨rfl, rfl⟩
  · replace h := zy_ifn h b3
    refine zy_2 rfl rfl (show zyR _ _ _ _ [some (.ref (12 + 3)), some (.int x1), some (.int x2)] [.int x2] _ _ from ?_)
    refine zy_3 rfl rfl (show zyR _ _ _ _ [some (.ref (12 + 3)), some (.int x1), some (.int x2)] [.int (9 : Int32), .int x2] _ _ from ?_)
    refine zy_25_5 rfl (fun b2 => (show zyR _ _ _ _ [some (.ref (12 + 3)), some (.int x1), some (.int x2)] [] _ _ from ?_)) (fun b2 => (show zyR _ _ _ _ [some (.ref (12 + 3)), some (.int x1), some (.int x2)] [] _ _ from ?_))
    · replace h := zy_ifp h b2
      refine zy_0 rfl rfl (show zyR _ _ _ _ [some (.ref (12 + 3)), some (.int x1), some (.int x2)] [.ref (12 + 3)] _ _ from ?_)
      refine zy_1r (c := 12) rfl rfl rfl (show zyR _ _ _ _ [some (.ref (12 + 3)), some (.int x1), some (.int x2)] [.ref (14 + 3)] _ _ from ?_)
      refine zy_3 rfl rfl (show zyR _ _ _ _ [some (.ref (12 + 3)), some (.int x1), some (.int x2)] [.int (10 : Int32), .ref (14 + 3)] _ _ from ?_)
      refine zy_2 rfl rfl (show zyR _ _ _ _ [some (.ref (12 + 3)), some (.int x1), some (.int x2)] [.int x1, .int (10 : Int32), .ref (14 + 3)] _ _ from ?_)
      refine zy_12 rfl (show zyR _ _ _ _ [some (.ref (12 + 3)), some (.int x1), some (.int x2)] [.int ((10 : Int32) * x1), .ref (14 + 3)] _ _ from ?_)
      refine zy_2 rfl rfl (show zyR _ _ _ _ [some (.ref (12 + 3)), some (.int x1), some (.int x2)] [.int x2, .int ((10 : Int32) * x1), .ref (14 + 3)] _ _ from ?_)
      refine zy_10 rfl (show zyR _ _ _ _ [some (.ref (12 + 3)), some (.int x1), some (.int x2)] [.int (((10 : Int32) * x1) + x2), .ref (14 + 3)] _ _ from ?_)
      obtain ⟨c1, h⟩ := zy_if h
      refine zy_26 (c := 14) rfl rfl c1 (show zyR _ _ _ _ [some (.ref (12 + 3)), some (.int x1), some (.int x2)] [.int (s.1 14 ((((10 : Int32) * x1) + x2)).toNatClampNeg)] _ _ from ?_)
      obtain ⟨rfl, rfl⟩ := zy_pi h
      exact zy_4 rfl ⟨rfl, rfl⟩
    · replace h := zy_ifn h b2
      refine zy_3 rfl rfl (show zyR _ _ _ _ [some (.ref (12 + 3)), some (.int x1), some (.int x2)] [.int (0 : Int32)] _ _ from ?_)
      refine zy_6 rfl (show zyR _ _ _ _ [some (.ref (12 + 3)), some (.int x1), some (.int x2)] [.int (0 : Int32)] _ _ from ?_)
      obtain ⟨rfl, rfl⟩ := zy_pi h
      exact zy_4 rfl ⟨rfl, rfl⟩
/-! NineOpinions$Thought.leastWith(III)I -/
noncomputable def zyF80   (x1 : Int32) (x2 : Int32) (x3 : Int32) (s : zy_S) : Option (Int32 × zy_S) :=
(zyF56 x1 (x2 <<< (((4 : Int32) * x1) &&& 31)) (s.1 1 3) s).bind fun p1 =>
if zy_in p1.1 1536 then
(zyF63 x2 p1.2).bind fun p3 =>
(zyF81 x1 (x3 - p3.1) p3.2).bind fun p4 =>
some (((p1.2.1 13 (p1.1).toNatClampNeg) + p4.1), p4.2)
else none
theorem zyC80 {X : zx_X}     {x1 : Int32} {x2 : Int32} {x3 : Int32} {s : zy_S} {r : Int32} {s' : zy_S}  (h : zyF80 x1 x2 x3 s = some (r, s')) : zyR X 3 80 0 [some (.ref (12 + 3)), some (.int x1), some (.int x2), some (.int x3), none] [] s (zyE (some (.int r)) s') := by
  unfold zyF80 at h
  refine zy_2 rfl rfl (show zyR _ _ _ _ [some (.ref (12 + 3)), some (.int x1), some (.int x2), some (.int x3), none] [.int x1] _ _ from ?_)
  refine zy_2 rfl rfl (show zyR _ _ _ _ [some (.ref (12 + 3)), some (.int x1), some (.int x2), some (.int x3), none] [.int x2, .int x1] _ _ from ?_)
  refine zy_3 rfl rfl (show zyR _ _ _ _ [some (.ref (12 + 3)), some (.int x1), some (.int x2), some (.int x3), none] [.int (4 : Int32), .int x2, .int x1] _ _ from ?_)
  refine zy_2 rfl rfl (show zyR _ _ _ _ [some (.ref (12 + 3)), some (.int x1), some (.int x2), some (.int x3), none] [.int x1, .int (4 : Int32), .int x2, .int x1] _ _ from ?_)
  refine zy_12 rfl (show zyR _ _ _ _ [some (.ref (12 + 3)), some (.int x1), some (.int x2), some (.int x3), none] [.int ((4 : Int32) * x1), .int x2, .int x1] _ _ from ?_)
  refine zy_16 rfl (show zyR _ _ _ _ [some (.ref (12 + 3)), some (.int x1), some (.int x2), some (.int x3), none] [.int (x2 <<< (((4 : Int32) * x1) &&& 31)), .int x1] _ _ from ?_)
  refine zy_0 rfl rfl (show zyR _ _ _ _ [some (.ref (12 + 3)), some (.int x1), some (.int x2), some (.int x3), none] [.ref (12 + 3), .int (x2 <<< (((4 : Int32) * x1) &&& 31)), .int x1] _ _ from ?_)
  refine zy_1r (c := 12) rfl rfl rfl (show zyR _ _ _ _ [some (.ref (12 + 3)), some (.int x1), some (.int x2), some (.int x3), none] [.ref (1 + 3), .int (x2 <<< (((4 : Int32) * x1) &&& 31)), .int x1] _ _ from ?_)
  refine zy_1 (c := 1) rfl rfl rfl (show zyR _ _ _ _ [some (.ref (12 + 3)), some (.int x1), some (.int x2), some (.int x3), none] [.int (s.1 1 3), .int (x2 <<< (((4 : Int32) * x1) &&& 31)), .int x1] _ _ from ?_)
  obtain ⟨p1, hp1, h⟩ := zy_bind h
  refine zy_60 (as := [.int x1, .int (x2 <<< (((4 : Int32) * x1) &&& 31)), .int (s.1 1 3)]) (rest := []) (L := [some (.int x1), some (.int (x2 <<< (((4 : Int32) * x1) &&& 31))), some (.int (s.1 1 3))]) (d' := 2) rfl rfl (Nat.le_of_ble_eq_true rfl) (Nat.le_of_ble_eq_true rfl) rfl (Nat.le_of_ble_eq_true rfl) rfl rfl (zyC56 hp1) ?_
  show zyR _ _ _ _ [some (.ref (12 + 3)), some (.int x1), some (.int x2), some (.int x3), none] [.int p1.1] _ _
  refine zy_23 rfl rfl (show zyR _ _ _ _ [some (.ref (12 + 3)), some (.int x1), some (.int x2), some (.int x3), some (.int p1.1)] [] _ _ from ?_)
  refine zy_0 rfl rfl (show zyR _ _ _ _ [some (.ref (12 + 3)), some (.int x1), some (.int x2), some (.int x3), some (.int p1.1)] [.ref (12 + 3)] _ _ from ?_)
  refine zy_1r (c := 12) rfl rfl rfl (show zyR _ _ _ _ [some (.ref (12 + 3)), some (.int x1), some (.int x2), some (.int x3), some (.int p1.1)] [.ref (13 + 3)] _ _ from ?_)
  refine zy_2 rfl rfl (show zyR _ _ _ _ [some (.ref (12 + 3)), some (.int x1), some (.int x2), some (.int x3), some (.int p1.1)] [.int p1.1, .ref (13 + 3)] _ _ from ?_)
  obtain ⟨c2, h⟩ := zy_if h
  refine zy_26 (c := 13) rfl rfl c2 (show zyR _ _ _ _ [some (.ref (12 + 3)), some (.int x1), some (.int x2), some (.int x3), some (.int p1.1)] [.int (p1.2.1 13 (p1.1).toNatClampNeg)] _ _ from ?_)
  refine zy_0 rfl rfl (show zyR _ _ _ _ [some (.ref (12 + 3)), some (.int x1), some (.int x2), some (.int x3), some (.int p1.1)] [.ref (12 + 3), .int (p1.2.1 13 (p1.1).toNatClampNeg)] _ _ from ?_)
  refine zy_2 rfl rfl (show zyR _ _ _ _ [some (.ref (12 + 3)), some (.int x1), some (.int x2), some (.int x3), some (.int p1.1)] [.int x1, .ref (12 + 3), .int (p1.2.1 13 (p1.1).toNatClampNeg)] _ _ from ?_)
  refine zy_2 rfl rfl (show zyR _ _ _ _ [some (.ref (12 + 3)), some (.int x1), some (.int x2), some (.int x3), some (.int p1.1)] [.int x3, .int x1, .ref (12 + 3), .int (p1.2.1 13 (p1.1).toNatClampNeg)] _ _ from ?_)
  refine zy_2 rfl rfl (show zyR _ _ _ _ [some (.ref (12 + 3)), some (.int x1), some (.int x2), some (.int x3), some (.int p1.1)] [.int x2, .int x3, .int x1, .ref (12 + 3), .int (p1.2.1 13 (p1.1).toNatClampNeg)] _ _ from ?_)
  obtain ⟨p3, hp3, h⟩ := zy_bind h
  refine zy_60 (as := [.int x2]) (rest := [.int x3, .int x1, .ref (12 + 3), .int (p1.2.1 13 (p1.1).toNatClampNeg)]) (L := [some (.int x2)]) (d' := 1) rfl rfl (Nat.le_of_ble_eq_true rfl) (Nat.le_of_ble_eq_true rfl) rfl (Nat.le_of_ble_eq_true rfl) rfl rfl (zyC63 hp3) ?_
  show zyR _ _ _ _ [some (.ref (12 + 3)), some (.int x1), some (.int x2), some (.int x3), some (.int p1.1)] [.int p3.1, .int x3, .int x1, .ref (12 + 3), .int (p1.2.1 13 (p1.1).toNatClampNeg)] _ _
  refine zy_11 rfl (show zyR _ _ _ _ [some (.ref (12 + 3)), some (.int x1), some (.int x2), some (.int x3), some (.int p1.1)] [.int (x3 - p3.1), .int x1, .ref (12 + 3), .int (p1.2.1 13 (p1.1).toNatClampNeg)] _ _ from ?_)
  obtain ⟨p4, hp4, h⟩ := zy_bind h
  refine zy_5 (c := 12) (as := [.int x1, .int (x3 - p3.1)]) (rest := [.int (p1.2.1 13 (p1.1).toNatClampNeg)]) (L := [some (.ref (12 + 3)), some (.int x1), some (.int (x3 - p3.1))]) (d' := 1) rfl rfl rfl (Nat.le_of_ble_eq_true rfl) (Nat.le_of_ble_eq_true rfl) rfl (Nat.le_of_ble_eq_true rfl) rfl rfl (zyC81 hp4) ?_
  show zyR _ _ _ _ [some (.ref (12 + 3)), some (.int x1), some (.int x2), some (.int x3), some (.int p1.1)] [.int p4.1, .int (p1.2.1 13 (p1.1).toNatClampNeg)] _ _
  refine zy_10 rfl (show zyR _ _ _ _ [some (.ref (12 + 3)), some (.int x1), some (.int x2), some (.int x3), some (.int p1.1)] [.int ((p1.2.1 13 (p1.1).toNatClampNeg) + p4.1)] _ _ from ?_)
  obtain ⟨rfl, rfl⟩ := zy_pi h
  exact zy_4 rfl ⟨rfl, rfl⟩
