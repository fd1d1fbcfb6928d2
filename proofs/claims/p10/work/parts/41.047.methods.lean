/-! PART 41.47: methods as functions. Made by wip/v4/dcp.py. -/
/-! NineOpinions$Turns.play(III)I -/
noncomputable def zyF104   (x1 : Int32) (x2 : Int32) (x3 : Int32) (s : zy_S) : Option (Int32 × zy_S) :=
(zyF52 ((1 : Int32) <<< (x1 &&& 31)) ((1 : Int32) <<< (x2 &&& 31)) (zy_up s 15 2 x3)).bind fun p1 =>
(zyF54 (p1.2.1 1 3) (p1.2.1 1 3) p1.2).bind fun p2 =>
(zyF105 x3 (p1.2.1 1 3) (p1.2.1 1 3) p2.1 p2.2).bind fun p3 =>
some (p3.1, p3.2)
theorem zyC104 {X : zx_X}     {x1 : Int32} {x2 : Int32} {x3 : Int32} {s : zy_S} {r : Int32} {s' : zy_S}  (h : zyF104 x1 x2 x3 s = some (r, s')) : zyR X 106 104 0 [some (.ref (15 + 3)), some (.int x1), some (.int x2), some (.int x3)] [] s (zyE (some (.int r)) s') := by
  unfold zyF104 at h
  refine zy_0 rfl rfl (show zyR _ _ _ _ [some (.ref (15 + 3)), some (.int x1), some (.int x2), some (.int x3)] [.ref (15 + 3)] _ _ from ?_)
  refine zy_2 rfl rfl (show zyR _ _ _ _ [some (.ref (15 + 3)), some (.int x1), some (.int x2), some (.int x3)] [.int x3, .ref (15 + 3)] _ _ from ?_)
  refine zy_52 (c := 15) rfl rfl rfl (show zyR _ _ _ _ [some (.ref (15 + 3)), some (.int x1), some (.int x2), some (.int x3)] [] _ _ from ?_)
  refine zy_0 rfl rfl (show zyR _ _ _ _ [some (.ref (15 + 3)), some (.int x1), some (.int x2), some (.int x3)] [.ref (15 + 3)] _ _ from ?_)
  refine zy_1r (c := 15) rfl rfl rfl (show zyR _ _ _ _ [some (.ref (15 + 3)), some (.int x1), some (.int x2), some (.int x3)] [.ref (12 + 3)] _ _ from ?_)
  refine zy_3 rfl rfl (show zyR _ _ _ _ [some (.ref (15 + 3)), some (.int x1), some (.int x2), some (.int x3)] [.int (1 : Int32), .ref (12 + 3)] _ _ from ?_)
  refine zy_2 rfl rfl (show zyR _ _ _ _ [some (.ref (15 + 3)), some (.int x1), some (.int x2), some (.int x3)] [.int x1, .int (1 : Int32), .ref (12 + 3)] _ _ from ?_)
  refine zy_16 rfl (show zyR _ _ _ _ [some (.ref (15 + 3)), some (.int x1), some (.int x2), some (.int x3)] [.int ((1 : Int32) <<< (x1 &&& 31)), .ref (12 + 3)] _ _ from ?_)
  refine zy_3 rfl rfl (show zyR _ _ _ _ [some (.ref (15 + 3)), some (.int x1), some (.int x2), some (.int x3)] [.int (1 : Int32), .int ((1 : Int32) <<< (x1 &&& 31)), .ref (12 + 3)] _ _ from ?_)
  refine zy_2 rfl rfl (show zyR _ _ _ _ [some (.ref (15 + 3)), some (.int x1), some (.int x2), some (.int x3)] [.int x2, .int (1 : Int32), .int ((1 : Int32) <<< (x1 &&& 31)), .ref (12 + 3)] _ _ from ?_)
  refine zy_16 rfl (show zyR _ _ _ _ [some (.ref (15 + 3)), some (.int x1), some (.int x2), some (.int x3)] [.int ((1 : Int32) <<< (x2 &&& 31)), .int ((1 : Int32) <<< (x1 &&& 31)), .ref (12 + 3)] _ _ from ?_)
  obtain ⟨p1, hp1, h⟩ := zy_bind h
  refine zy_5 (c := 12) (as := [.int ((1 : Int32) <<< (x1 &&& 31)), .int ((1 : Int32) <<< (x2 &&& 31))]) (rest := []) (L := [some (.ref (12 + 3)), some (.int ((1 : Int32) <<< (x1 &&& 31))), some (.int ((1 : Int32) <<< (x2 &&& 31)))]) (d' := 1) rfl rfl rfl (Nat.le_of_ble_eq_true rfl) (Nat.le_of_ble_eq_true rfl) rfl (Nat.le_of_ble_eq_true rfl) rfl rfl (zyC52 hp1) ?_
  show zyR _ _ _ _ [some (.ref (15 + 3)), some (.int x1), some (.int x2), some (.int x3)] [] _ _
  refine zy_0 rfl rfl (show zyR _ _ _ _ [some (.ref (15 + 3)), some (.int x1), some (.int x2), some (.int x3)] [.ref (15 + 3)] _ _ from ?_)
  refine zy_2 rfl rfl (show zyR _ _ _ _ [some (.ref (15 + 3)), some (.int x1), some (.int x2), some (.int x3)] [.int x3, .ref (15 + 3)] _ _ from ?_)
  refine zy_0 rfl rfl (show zyR _ _ _ _ [some (.ref (15 + 3)), some (.int x1), some (.int x2), some (.int x3)] [.ref (15 + 3), .int x3, .ref (15 + 3)] _ _ from ?_)
  refine zy_1r (c := 15) rfl rfl rfl (show zyR _ _ _ _ [some (.ref (15 + 3)), some (.int x1), some (.int x2), some (.int x3)] [.ref (1 + 3), .int x3, .ref (15 + 3)] _ _ from ?_)
  refine zy_1 (c := 1) rfl rfl rfl (show zyR _ _ _ _ [some (.ref (15 + 3)), some (.int x1), some (.int x2), some (.int x3)] [.int (p1.2.1 1 3), .int x3, .ref (15 + 3)] _ _ from ?_)
  refine zy_0 rfl rfl (show zyR _ _ _ _ [some (.ref (15 + 3)), some (.int x1), some (.int x2), some (.int x3)] [.ref (15 + 3), .int (p1.2.1 1 3), .int x3, .ref (15 + 3)] _ _ from ?_)
  refine zy_1r (c := 15) rfl rfl rfl (show zyR _ _ _ _ [some (.ref (15 + 3)), some (.int x1), some (.int x2), some (.int x3)] [.ref (1 + 3), .int (p1.2.1 1 3), .int x3, .ref (15 + 3)] _ _ from ?_)
  refine zy_1 (c := 1) rfl rfl rfl (show zyR _ _ _ _ [some (.ref (15 + 3)), some (.int x1), some (.int x2), some (.int x3)] [.int (p1.2.1 1 3), .int (p1.2.1 1 3), .int x3, .ref (15 + 3)] _ _ from ?_)
  refine zy_0 rfl rfl (show zyR _ _ _ _ [some (.ref (15 + 3)), some (.int x1), some (.int x2), some (.int x3)] [.ref (15 + 3), .int (p1.2.1 1 3), .int (p1.2.1 1 3), .int x3, .ref (15 + 3)] _ _ from ?_)
  refine zy_1r (c := 15) rfl rfl rfl (show zyR _ _ _ _ [some (.ref (15 + 3)), some (.int x1), some (.int x2), some (.int x3)] [.ref (12 + 3), .int (p1.2.1 1 3), .int (p1.2.1 1 3), .int x3, .ref (15 + 3)] _ _ from ?_)
  refine zy_0 rfl rfl (show zyR _ _ _ _ [some (.ref (15 + 3)), some (.int x1), some (.int x2), some (.int x3)] [.ref (15 + 3), .ref (12 + 3), .int (p1.2.1 1 3), .int (p1.2.1 1 3), .int x3, .ref (15 + 3)] _ _ from ?_)
  refine zy_1r (c := 15) rfl rfl rfl (show zyR _ _ _ _ [some (.ref (15 + 3)), some (.int x1), some (.int x2), some (.int x3)] [.ref (1 + 3), .ref (12 + 3), .int (p1.2.1 1 3), .int (p1.2.1 1 3), .int x3, .ref (15 + 3)] _ _ from ?_)
  refine zy_1 (c := 1) rfl rfl rfl (show zyR _ _ _ _ [some (.ref (15 + 3)), some (.int x1), some (.int x2), some (.int x3)] [.int (p1.2.1 1 3), .ref (12 + 3), .int (p1.2.1 1 3), .int (p1.2.1 1 3), .int x3, .ref (15 + 3)] _ _ from ?_)
  refine zy_0 rfl rfl (show zyR _ _ _ _ [some (.ref (15 + 3)), some (.int x1), some (.int x2), some (.int x3)] [.ref (15 + 3), .int (p1.2.1 1 3), .ref (12 + 3), .int (p1.2.1 1 3), .int (p1.2.1 1 3), .int x3, .ref (15 + 3)] _ _ from ?_)
  refine zy_1r (c := 15) rfl rfl rfl (show zyR _ _ _ _ [some (.ref (15 + 3)), some (.int x1), some (.int x2), some (.int x3)] [.ref (1 + 3), .int (p1.2.1 1 3), .ref (12 + 3), .int (p1.2.1 1 3), .int (p1.2.1 1 3), .int x3, .ref (15 + 3)] _ _ from ?_)
  refine zy_1 (c := 1) rfl rfl rfl (show zyR _ _ _ _ [some (.ref (15 + 3)), some (.int x1), some (.int x2), some (.int x3)] [.int (p1.2.1 1 3), .int (p1.2.1 1 3), .ref (12 + 3), .int (p1.2.1 1 3), .int (p1.2.1 1 3), .int x3, .ref (15 + 3)] _ _ from ?_)
  obtain ⟨p2, hp2, h⟩ := zy_bind h
  refine zy_5 (c := 12) (as := [.int (p1.2.1 1 3), .int (p1.2.1 1 3)]) (rest := [.int (p1.2.1 1 3), .int (p1.2.1 1 3), .int x3, .ref (15 + 3)]) (L := [some (.ref (12 + 3)), some (.int (p1.2.1 1 3)), some (.int (p1.2.1 1 3)), none, none]) (d' := 6) rfl rfl rfl (Nat.le_of_ble_eq_true rfl) (Nat.le_of_ble_eq_true rfl) rfl (Nat.le_of_ble_eq_true rfl) rfl rfl (zyC54 hp2) ?_
  show zyR _ _ _ _ [some (.ref (15 + 3)), some (.int x1), some (.int x2), some (.int x3)] [.int p2.1, .int (p1.2.1 1 3), .int (p1.2.1 1 3), .int x3, .ref (15 + 3)] _ _
  obtain ⟨p3, hp3, h⟩ := zy_bind h
  refine zy_5 (c := 15) (as := [.int x3, .int (p1.2.1 1 3), .int (p1.2.1 1 3), .int p2.1]) (rest := []) (L := [some (.ref (15 + 3)), some (.int x3), some (.int (p1.2.1 1 3)), some (.int (p1.2.1 1 3)), some (.int p2.1), none, none, none, none, none, none, none, none, none]) (d' := 105) rfl rfl rfl (Nat.le_of_ble_eq_true rfl) (Nat.le_of_ble_eq_true rfl) rfl (Nat.le_of_ble_eq_true rfl) rfl rfl (zyC105 hp3) ?_
  show zyR _ _ _ _ [some (.ref (15 + 3)), some (.int x1), some (.int x2), some (.int x3)] [.int p3.1] _ _
  obtain ⟨rfl, rfl⟩ := zy_pi h
  exact zy_4 rfl ⟨rfl, rfl⟩
/-! NineOpinions.byTurns(II)I -/
noncomputable def zyF103   (x1 : Int32) (x2 : Int32) (s : zy_S) : Option (Int32 × zy_S) :=
if x1 < 0 then
some ((-2000000000 : Int32), s)
else
(zyF84 x2 s).bind fun p1 =>
if p1.1 ≠ 0 then
(zyF25 (0 : Int32) (x1 / (100 : Int32)) p1.2).bind fun p2 =>
if p2.1 = 0 then
some ((-2000000000 : Int32), p2.2)
else
(zyF25 (0 : Int32) ((x1 / (10 : Int32)) - (x1 / (10 : Int32)) / (10 : Int32) * (10 : Int32)) p2.2).bind fun p3 =>
if p3.1 = 0 then
some ((-2000000000 : Int32), p3.2)
else
if (x1 / (100 : Int32)) = ((x1 / (10 : Int32)) - (x1 / (10 : Int32)) / (10 : Int32) * (10 : Int32)) then
some ((-2000000000 : Int32), p3.2)
else
if (x1 - x1 / (10 : Int32) * (10 : Int32)) < (1 : Int32) then
some ((-2000000000 : Int32), p3.2)
else
if (x1 - x1 / (10 : Int32) * (10 : Int32)) ≤ (3 : Int32) then
(zyF104 (x1 / (100 : Int32)) ((x1 / (10 : Int32)) - (x1 / (10 : Int32)) / (10 : Int32) * (10 : Int32)) (x1 - x1 / (10 : Int32) * (10 : Int32)) p3.2).bind fun p4 =>
if x2 ≠ 0 then
some ((p4.2.1 15 3), p4.2)
else
some (p4.1, p4.2)
else
some ((-2000000000 : Int32), p3.2)
else
some ((-2000000000 : Int32), p1.2)
theorem zyC103 {X : zx_X}     {x1 : Int32} {x2 : Int32} {s : zy_S} {r : Int32} {s' : zy_S}  (h : zyF103 x1 x2 s = some (r, s')) : zyR X 107 103 0 [some (.ref (0 + 3)), some (.int x1), some (.int x2), none, none, none, none] [] s (zyE (some (.int r)) s') := by
  unfold zyF103 at h
  refine zy_2 rfl rfl (show zyR _ _ _ _ [some (.ref (0 + 3)), some (.int x1), some (.int x2), none, none, none, none] [.int x1] _ _ from ?_)
  refine zy_24_2 rfl (fun b12 => (show zyR _ _ _ _ [some (.ref (0 + 3)), some (.int x1), some (.int x2), none, none, none, none] [] _ _ from ?_)) (fun b12 => (show zyR _ _ _ _ [some (.ref (0 + 3)), some (.int x1), some (.int x2), none, none, none, none] [] _ _ from ?_))
  · replace h := zy_ifp h b12
    refine zy_3c rfl rfl (show zyR _ _ _ _ [some (.ref (0 + 3)), some (.int x1), some (.int x2), none, none, none, none] [.int (-2000000000 : Int32)] _ _ from ?_)
    obtain ⟨rfl, rfl⟩ := zy_pi h
    exact zy_4 rfl ⟨rfl, rfl⟩
  · replace h := zy_ifn h b12
    refine zy_2 rfl rfl (show zyR _ _ _ _ [some (.ref (0 + 3)), some (.int x1), some (.int x2), none, none, none, none] [.int x2] _ _ from ?_)
    obtain ⟨p1, hp1, h⟩ := zy_bind h
    refine zy_60 (as := [.int x2]) (rest := []) (L := [some (.int x2)]) (d' := 1) rfl rfl (Nat.le_of_ble_eq_true rfl) (Nat.le_of_ble_eq_true rfl) rfl (Nat.le_of_ble_eq_true rfl) rfl rfl (zyC84 hp1) ?_
    show zyR _ _ _ _ [some (.ref (0 + 3)), some (.int x1), some (.int x2), none, none, none, none] [.int p1.1] _ _
    refine zy_24_1 rfl (fun b11 => (show zyR _ _ _ _ [some (.ref (0 + 3)), some (.int x1), some (.int x2), none, none, none, none] [] _ _ from ?_)) (fun b11 => (show zyR _ _ _ _ [some (.ref (0 + 3)), some (.int x1), some (.int x2), none, none, none, none] [] _ _ from ?_))
    · replace h := zy_ifp h b11
      refine zy_2 rfl rfl (show zyR _ _ _ _ [some (.ref (0 + 3)), some (.int x1), some (.int x2), none, none, none, none] [.int x1] _ _ from ?_)
      refine zy_3 rfl rfl (show zyR _ _ _ _ [some (.ref (0 + 3)), some (.int x1), some (.int x2), none, none, none, none] [.int (100 : Int32), .int x1] _ _ from ?_)
      refine zy_19 rfl (by decide) (show zyR _ _ _ _ [some (.ref (0 + 3)), some (.int x1), some (.int x2), none, none, none, none] [.int (x1 / (100 : Int32))] _ _ from ?_)
      refine zy_23 rfl rfl (show zyR _ _ _ _ [some (.ref (0 + 3)), some (.int x1), some (.int x2), some (.int (x1 / (100 : Int32))), none, none, none] [] _ _ from ?_)
      refine zy_2 rfl rfl (show zyR _ _ _ _ [some (.ref (0 + 3)), some (.int x1), some (.int x2), some (.int (x1 / (100 : Int32))), none, none, none] [.int x1] _ _ from ?_)
      refine zy_3 rfl rfl (show zyR _ _ _ _ [some (.ref (0 + 3)), some (.int x1), some (.int x2), some (.int (x1 / (100 : Int32))), none, none, none] [.int (10 : Int32), .int x1] _ _ from ?_)
      refine zy_19 rfl (by decide) (show zyR _ _ _ _ [some (.ref (0 + 3)), some (.int x1), some (.int x2), some (.int (x1 / (100 : Int32))), none, none, none] [.int (x1 / (10 : Int32))] _ _ from ?_)
      refine zy_3 rfl rfl (show zyR _ _ _ _ [some (.ref (0 + 3)), some (.int x1), some (.int x2), some (.int (x1 / (100 : Int32))), none, none, none] [.int (10 : Int32), .int (x1 / (10 : Int32))] _ _ from ?_)
      refine zy_20 rfl (by decide) (show zyR _ _ _ _ [some (.ref (0 + 3)), some (.int x1), some (.int x2), some (.int (x1 / (100 : Int32))), none, none, none] [.int ((x1 / (10 : Int32)) - (x1 / (10 : Int32)) / (10 : Int32) * (10 : Int32))] _ _ from ?_)
      refine zy_23 rfl rfl (show zyR _ _ _ _ [some (.ref (0 + 3)), some (.int x1), some (.int x2), some (.int (x1 / (100 : Int32))), some (.int ((x1 / (10 : Int32)) - (x1 / (10 : Int32)) / (10 : Int32) * (10 : Int32))), none, none] [] _ _ from ?_)
      refine zy_2 rfl rfl (show zyR _ _ _ _ [some (.ref (0 + 3)), some (.int x1), some (.int x2), some (.int (x1 / (100 : Int32))), some (.int ((x1 / (10 : Int32)) - (x1 / (10 : Int32)) / (10 : Int32) * (10 : Int32))), none, none] [.int x1] _ _ from ?_)
      refine zy_3 rfl rfl (show zyR _ _ _ _ [some (.ref (0 + 3)), some (.int x1), some (.int x2), some (.int (x1 / (100 : Int32))), some (.int ((x1 / (10 : Int32)) - (x1 / (10 : Int32)) / (10 : Int32) * (10 : Int32))), none, none] [.int (10 : Int32), .int x1] _ _ from ?_)
      refine zy_20 rfl (by decide) (show zyR _ _ _ _ [some (.ref (0 + 3)), some (.int x1), some (.int x2), some (.int (x1 / (100 : Int32))), some (.int ((x1 / (10 : Int32)) - (x1 / (10 : Int32)) / (10 : Int32) * (10 : Int32))), none, none] [.int (x1 - x1 / (10 : Int32) * (10 : Int32))] _ _ from ?_)
      refine zy_23 rfl rfl (show zyR _ _ _ _ [some (.ref (0 + 3)), some (.int x1), some (.int x2), some (.int (x1 / (100 : Int32))), some (.int ((x1 / (10 : Int32)) - (x1 / (10 : Int32)) / (10 : Int32) * (10 : Int32))), some (.int (x1 - x1 / (10 : Int32) * (10 : Int32))), none] [] _ _ from ?_)
      refine zy_0 rfl rfl (show zyR _ _ _ _ [some (.ref (0 + 3)), some (.int x1), some (.int x2), some (.int (x1 / (100 : Int32))), some (.int ((x1 / (10 : Int32)) - (x1 / (10 : Int32)) / (10 : Int32) * (10 : Int32))), some (.int (x1 - x1 / (10 : Int32) * (10 : Int32))), none] [.ref (0 + 3)] _ _ from ?_)
      refine zy_1r (c := 0) rfl rfl rfl (show zyR _ _ _ _ [some (.ref (0 + 3)), some (.int x1), some (.int x2), some (.int (x1 / (100 : Int32))), some (.int ((x1 / (10 : Int32)) - (x1 / (10 : Int32)) / (10 : Int32) * (10 : Int32))), some (.int (x1 - x1 / (10 : Int32) * (10 : Int32))), none] [.ref (1 + 3)] _ _ from ?_)
      refine zy_3 rfl rfl (show zyR _ _ _ _ [some (.ref (0 + 3)), some (.int x1), some (.int x2), some (.int (x1 / (100 : Int32))), some (.int ((x1 / (10 : Int32)) - (x1 / (10 : Int32)) / (10 : Int32) * (10 : Int32))), some (.int (x1 - x1 / (10 : Int32) * (10 : Int32))), none] [.int (0 : Int32), .ref (1 + 3)] _ _ from ?_)
      refine zy_2 rfl rfl (show zyR _ _ _ _ [some (.ref (0 + 3)), some (.int x1), some (.int x2), some (.int (x1 / (100 : Int32))), some (.int ((x1 / (10 : Int32)) - (x1 / (10 : Int32)) / (10 : Int32) * (10 : Int32))), some (.int (x1 - x1 / (10 : Int32) * (10 : Int32))), none] [.int (x1 / (100 : Int32)), .int (0 : Int32), .ref (1 + 3)] _ _ from ?_)
      obtain ⟨p2, hp2, h⟩ := zy_bind h
      refine zy_5 (c := 1) (as := [.int (0 : Int32), .int (x1 / (100 : Int32))]) (rest := []) (L := [some (.ref (1 + 3)), some (.int (0 : Int32)), some (.int (x1 / (100 : Int32)))]) (d' := 2) rfl rfl rfl (Nat.le_of_ble_eq_true rfl) (Nat.le_of_ble_eq_true rfl) rfl (Nat.le_of_ble_eq_true rfl) rfl rfl (zyC25 hp2) ?_
      show zyR _ _ _ _ [some (.ref (0 + 3)), some (.int x1), some (.int x2), some (.int (x1 / (100 : Int32))), some (.int ((x1 / (10 : Int32)) - (x1 / (10 : Int32)) / (10 : Int32) * (10 : Int32))), some (.int (x1 - x1 / (10 : Int32) * (10 : Int32))), none] [.int p2.1] _ _
      refine zy_24_0 rfl (fun b10 => (show zyR _ _ _ _ [some (.ref (0 + 3)), some (.int x1), some (.int x2), some (.int (x1 / (100 : Int32))), some (.int ((x1 / (10 : Int32)) - (x1 / (10 : Int32)) / (10 : Int32) * (10 : Int32))), some (.int (x1 - x1 / (10 : Int32) * (10 : Int32))), none] [] _ _ from ?_)) (fun b10 => (show zyR _ _ _ _ [some (.ref (0 + 3)), some (.int x1), some (.int x2), some (.int (x1 / (100 : Int32))), some (.int ((x1 / (10 : Int32)) - (x1 / (10 : Int32)) / (10 : Int32) * (10 : Int32))), some (.int (x1 - x1 / (10 : Int32) * (10 : Int32))), none] [] _ _ from ?_))
      · replace h := zy_ifp h b10
        refine zy_3c rfl rfl (show zyR _ _ _ _ [some (.ref (0 + 3)), some (.int x1), some (.int x2), some (.int (x1 / (100 : Int32))), some (.int ((x1 / (10 : Int32)) - (x1 / (10 : Int32)) / (10 : Int32) * (10 : Int32))), some (.int (x1 - x1 / (10 : Int32) * (10 : Int32))), none] [.int (-2000000000 : Int32)] _ _ from ?_)
        obtain ⟨rfl, rfl⟩ := zy_pi h
        exact zy_4 rfl ⟨rfl, rfl⟩
      · replace h := zy_ifn h b10
        refine zy_0 rfl rfl (show zyR _ _ _ _ [some (.ref (0 + 3)), some (.int x1), some (.int x2), some (.int (x1 / (100 : Int32))), some (.int ((x1 / (10 : Int32)) - (x1 / (10 : Int32)) / (10 : Int32) * (10 : Int32))), some (.int (x1 - x1 / (10 : Int32) * (10 : Int32))), none] [.ref (0 + 3)] _ _ from ?_)
        refine zy_1r (c := 0) rfl rfl rfl (show zyR _ _ _ _ [some (.ref (0 + 3)), some (.int x1), some (.int x2), some (.int (x1 / (100 : Int32))), some (.int ((x1 / (10 : Int32)) - (x1 / (10 : Int32)) / (10 : Int32) * (10 : Int32))), some (.int (x1 - x1 / (10 : Int32) * (10 : Int32))), none] [.ref (1 + 3)] _ _ from ?_)
        refine zy_3 rfl rfl (show zyR _ _ _ _ [some (.ref (0 + 3)), some (.int x1), some (.int x2), some (.int (x1 / (100 : Int32))), some (.int ((x1 / (10 : Int32)) - (x1 / (10 : Int32)) / (10 : Int32) * (10 : Int32))), some (.int (x1 - x1 / (10 : Int32) * (10 : Int32))), none] [.int (0 : Int32), .ref (1 + 3)] _ _ from ?_)
        refine zy_2 rfl rfl (show zyR _ _ _ _ [some (.ref (0 + 3)), some (.int x1), some (.int x2), some (.int (x1 / (100 : Int32))), some (.int ((x1 / (10 : Int32)) - (x1 / (10 : Int32)) / (10 : Int32) * (10 : Int32))), some (.int (x1 - x1 / (10 : Int32) * (10 : Int32))), none] [.int ((x1 / (10 : Int32)) - (x1 / (10 : Int32)) / (10 : Int32) * (10 : Int32)), .int (0 : Int32), .ref (1 + 3)] _ _ from ?_)
        obtain ⟨p3, hp3, h⟩ := zy_bind h
        refine zy_5 (c := 1) (as := [.int (0 : Int32), .int ((x1 / (10 : Int32)) - (x1 / (10 : Int32)) / (10 : Int32) * (10 : Int32))]) (rest := []) (L := [some (.ref (1 + 3)), some (.int (0 : Int32)), some (.int ((x1 / (10 : Int32)) - (x1 / (10 : Int32)) / (10 : Int32) * (10 : Int32)))]) (d' := 2) rfl rfl rfl (Nat.le_of_ble_eq_true rfl) (Nat.le_of_ble_eq_true rfl) rfl (Nat.le_of_ble_eq_true rfl) rfl rfl (zyC25 hp3) ?_
        show zyR _ _ _ _ [some (.ref (0 + 3)), some (.int x1), some (.int x2), some (.int (x1 / (100 : Int32))), some (.int ((x1 / (10 : Int32)) - (x1 / (10 : Int32)) / (10 : Int32) * (10 : Int32))), some (.int (x1 - x1 / (10 : Int32) * (10 : Int32))), none] [.int p3.1] _ _
        refine zy_24_0 rfl (fun b9 => (show zyR _ _ _ _ [some (.ref (0 + 3)), some (.int x1), some (.int x2), some (.int (x1 / (100 : Int32))), some (.int ((x1 / (10 : Int32)) - (x1 / (10 : Int32)) / (10 : Int32) * (10 : Int32))), some (.int (x1 - x1 / (10 : Int32) * (10 : Int32))), none] [] _ _ from ?_)) (fun b9 => (show zyR _ _ _ _ [some (.ref (0 + 3)), some (.int x1), some (.int x2), some (.int (x1 / (100 : Int32))), some (.int ((x1 / (10 : Int32)) - (x1 / (10 : Int32)) / (10 : Int32) * (10 : Int32))), some (.int (x1 - x1 / (10 : Int32) * (10 : Int32))), none] [] _ _ from ?_))
        · replace h := zy_ifp h b9
          refine zy_3c rfl rfl (show zyR _ _ _ _ [some (.ref (0 + 3)), some (.int x1), some (.int x2), some (.int (x1 / (100 : Int32))), some (.int ((x1 / (10 : Int32)) - (x1 / (10 : Int32)) / (10 : Int32) * (10 : Int32))), some (.int (x1 - x1 / (10 : Int32) * (10 : Int32))), none] [.int (-2000000000 : Int32)] _ _ from ?_)
          obtain ⟨rfl, rfl⟩ := zy_pi h
          exact zy_4 rfl ⟨rfl, rfl⟩
        · replace h := zy_ifn h b9
          refine zy_2 rfl rfl (show zyR _ _ _ _ [some (.ref (0 + 3)), some (.int x1), some (.int x2), some (.int (x1 / (100 : Int32))), some (.int ((x1 / (10 : Int32)) - (x1 / (10 : Int32)) / (10 : Int32) * (10 : Int32))), some (.int (x1 - x1 / (10 : Int32) * (10 : Int32))), none] [.int (x1 / (100 : Int32))] _ _ from ?_)
          refine zy_2 rfl rfl (show zyR _ _ _ _ [some (.ref (0 + 3)), some (.int x1), some (.int x2), some (.int (x1 / (100 : Int32))), some (.int ((x1 / (10 : Int32)) - (x1 / (10 : Int32)) / (10 : Int32) * (10 : Int32))), some (.int (x1 - x1 / (10 : Int32) * (10 : Int32))), none] [.int ((x1 / (10 : Int32)) - (x1 / (10 : Int32)) / (10 : Int32) * (10 : Int32)), .int (x1 / (100 : Int32))] _ _ from ?_)
          refine zy_25_0 rfl (fun b8 => (show zyR _ _ _ _ [some (.ref (0 + 3)), some (.int x1), some (.int x2), some (.int (x1 / (100 : Int32))), some (.int ((x1 / (10 : Int32)) - (x1 / (10 : Int32)) / (10 : Int32) * (10 : Int32))), some (.int (x1 - x1 / (10 : Int32) * (10 : Int32))), none] [] _ _ from ?_)) (fun b8 => (show zyR _ _ _ _ [some (.ref (0 + 3)), some (.int x1), some (.int x2), some (.int (x1 / (100 : Int32))), some (.int ((x1 / (10 : Int32)) - (x1 / (10 : Int32)) / (10 : Int32) * (10 : Int32))), some (.int (x1 - x1 / (10 : Int32) * (10 : Int32))), none] [] _ _ from ?_))
          · replace h := zy_ifp h b8
            refine zy_3c rfl rfl (show zyR _ _ _ _ [some (.ref (0 + 3)), some (.int x1), some (.int x2), some (.int (x1 / (100 : Int32))), some (.int ((x1 / (10 : Int32)) - (x1 / (10 : Int32)) / (10 : Int32) * (10 : Int32))), some (.int (x1 - x1 / (10 : Int32) * (10 : Int32))), none] [.int (-2000000000 : Int32)] _ _ from ?_)
            obtain ⟨rfl, rfl⟩ := zy_pi h
            exact zy_4 rfl ⟨rfl, rfl⟩
          · replace h := zy_ifn h b8
            refine zy_2 rfl rfl (show zyR _ _ _ _ [some (.ref (0 + 3)), some (.int x1), some (.int x2), some (.int (x1 / (100 : Int32))), some (.int ((x1 / (10 : Int32)) - (x1 / (10 : Int32)) / (10 : Int32) * (10 : Int32))), some (.int (x1 - x1 / (10 : Int32) * (10 : Int32))), none] [.int (x1 - x1 / (10 : Int32) * (10 : Int32))] _ _ from ?_)
            refine zy_3 rfl rfl (show zyR _ _ _ _ [some (.ref (0 + 3)), some (.int x1), some (.int x2), some (.int (x1 / (100 : Int32))), some (.int ((x1 / (10 : Int32)) - (x1 / (10 : Int32)) / (10 : Int32) * (10 : Int32))), some (.int (x1 - x1 / (10 : Int32) * (10 : Int32))), none] [.int (1 : Int32), .int (x1 - x1 / (10 : Int32) * (10 : Int32))] _ _ from ?_)
            refine zy_25_2 rfl (fun b7 => (show zyR _ _ _ _ [some (.ref (0 + 3)), some (.int x1), some (.int x2), some (.int (x1 / (100 : Int32))), some (.int ((x1 / (10 : Int32)) - (x1 / (10 : Int32)) / (10 : Int32) * (10 : Int32))), some (.int (x1 - x1 / (10 : Int32) * (10 : Int32))), none] [] _ _ from ?_)) (fun b7 => (show zyR _ _ _ _ [some (.ref (0 + 3)), some (.int x1), some (.int x2), some (.int (x1 / (100 : Int32))), some (.int ((x1 / (10 : Int32)) - (x1 / (10 : Int32)) / (10 : Int32) * (10 : Int32))), some (.int (x1 - x1 / (10 : Int32) * (10 : Int32))), none] [] _ _ from ?_))
            · replace h := zy_ifp h b7
              refine zy_3c rfl rfl (show zyR _ _ _ _ [some (.ref (0 + 3)), some (.int x1), some (.int x2), some (.int (x1 / (100 : Int32))), some (.int ((x1 / (10 : Int32)) - (x1 / (10 : Int32)) / (10 : Int32) * (10 : Int32))), some (.int (x1 - x1 / (10 : Int32) * (10 : Int32))), none] [.int (-2000000000 : Int32)] _ _ from ?_)
              obtain ⟨rfl, rfl⟩ := zy_pi h
              exact zy_4 rfl ⟨rfl, rfl⟩
            · replace h := zy_ifn h b7
              refine zy_2 rfl rfl (show zyR _ _ _ _ [some (.ref (0 + 3)), some (.int x1), some (.int x2), some (.int (x1 / (100 : Int32))), some (.int ((x1 / (10 : Int32)) - (x1 / (10 : Int32)) / (10 : Int32) * (10 : Int32))), some (.int (x1 - x1 / (10 : Int32) * (10 : Int32))), none] [.int (x1 - x1 / (10 : Int32) * (10 : Int32))] _ _ from ?_)
              refine zy_3 rfl rfl (show zyR _ _ _ _ [some (.ref (0 + 3)), some (.int x1), some (.int x2), some (.int (x1 / (100 : Int32))), some (.int ((x1 / (10 : Int32)) - (x1 / (10 : Int32)) / (10 : Int32) * (10 : Int32))), some (.int (x1 - x1 / (10 : Int32) * (10 : Int32))), none] [.int (3 : Int32), .int (x1 - x1 / (10 : Int32) * (10 : Int32))] _ _ from ?_)
              refine zy_25_5 rfl (fun b6 => (show zyR _ _ _ _ [some (.ref (0 + 3)), some (.int x1), some (.int x2), some (.int (x1 / (100 : Int32))), some (.int ((x1 / (10 : Int32)) - (x1 / (10 : Int32)) / (10 : Int32) * (10 : Int32))), some (.int (x1 - x1 / (10 : Int32) * (10 : Int32))), none] [] _ _ from ?_)) (fun b6 => (show zyR _ _ _ _ [some (.ref (0 + 3)), some (.int x1), some (.int x2), some (.int (x1 / (100 : Int32))), some (.int ((x1 / (10 : Int32)) - (x1 / (10 : Int32)) / (10 : Int32) * (10 : Int32))), some (.int (x1 - x1 / (10 : Int32) * (10 : Int32))), none] [] _ _ from ?_))
              · replace h := zy_ifp h b6
                refine zy_0 rfl rfl (show zyR _ _ _ _ [some (.ref (0 + 3)), some (.int x1), some (.int x2), some (.int (x1 / (100 : Int32))), some (.int ((x1 / (10 : Int32)) - (x1 / (10 : Int32)) / (10 : Int32) * (10 : Int32))), some (.int (x1 - x1 / (10 : Int32) * (10 : Int32))), none] [.ref (0 + 3)] _ _ from ?_)
                refine zy_1r (c := 0) rfl rfl rfl (show zyR _ _ _ _ [some (.ref (0 + 3)), some (.int x1), some (.int x2), some (.int (x1 / (100 : Int32))), some (.int ((x1 / (10 : Int32)) - (x1 / (10 : Int32)) / (10 : Int32) * (10 : Int32))), some (.int (x1 - x1 / (10 : Int32) * (10 : Int32))), none] [.ref (15 + 3)] _ _ from ?_)
                refine zy_2 rfl rfl (show zyR _ _ _ _ [some (.ref (0 + 3)), some (.int x1), some (.int x2), some (.int (x1 / (100 : Int32))), some (.int ((x1 / (10 : Int32)) - (x1 / (10 : Int32)) / (10 : Int32) * (10 : Int32))), some (.int (x1 - x1 / (10 : Int32) * (10 : Int32))), none] [.int (x1 / (100 : Int32)), .ref (15 + 3)] _ _ from ?_)
                refine zy_2 rfl rfl (show zyR _ _ _ _ [some (.ref (0 + 3)), some (.int x1), some (.int x2), some (.int (x1 / (100 : Int32))), some (.int ((x1 / (10 : Int32)) - (x1 / (10 : Int32)) / (10 : Int32) * (10 : Int32))), some (.int (x1 - x1 / (10 : Int32) * (10 : Int32))), none] [.int ((x1 / (10 : Int32)) - (x1 / (10 : Int32)) / (10 : Int32) * (10 : Int32)), .int (x1 / (100 : Int32)), .ref (15 + 3)] _ _ from ?_)
                refine zy_2 rfl rfl (show zyR _ _ _ _ [some (.ref (0 + 3)), some (.int x1), some (.int x2), some (.int (x1 / (100 : Int32))), some (.int ((x1 / (10 : Int32)) - (x1 / (10 : Int32)) / (10 : Int32) * (10 : Int32))), some (.int (x1 - x1 / (10 : Int32) * (10 : Int32))), none] [.int (x1 - x1 / (10 : Int32) * (10 : Int32)), .int ((x1 / (10 : Int32)) - (x1 / (10 : Int32)) / (10 : Int32) * (10 : Int32)), .int (x1 / (100 : Int32)), .ref (15 + 3)] _ _ from ?_)
                obtain ⟨p4, hp4, h⟩ := zy_bind h
                refine zy_5 (c := 15) (as := [.int (x1 / (100 : Int32)), .int ((x1 / (10 : Int32)) - (x1 / (10 : Int32)) / (10 : Int32) * (10 : Int32)), .int (x1 - x1 / (10 : Int32) * (10 : Int32))]) (rest := []) (L := [some (.ref (15 + 3)), some (.int (x1 / (100 : Int32))), some (.int ((x1 / (10 : Int32)) - (x1 / (10 : Int32)) / (10 : Int32) * (10 : Int32))), some (.int (x1 - x1 / (10 : Int32) * (10 : Int32)))]) (d' := 106) rfl rfl rfl (Nat.le_of_ble_eq_true rfl) (Nat.le_of_ble_eq_true rfl) rfl (Nat.le_of_ble_eq_true rfl) rfl rfl (zyC104 hp4) ?_
                show zyR _ _ _ _ [some (.ref (0 + 3)), some (.int x1), some (.int x2), some (.int (x1 / (100 : Int32))), some (.int ((x1 / (10 : Int32)) - (x1 / (10 : Int32)) / (10 : Int32) * (10 : Int32))), some (.int (x1 - x1 / (10 : Int32) * (10 : Int32))), none] [.int p4.1] _ _
                refine zy_23 rfl rfl (show zyR _ _ _ _ [some (.ref (0 + 3)), some (.int x1), some (.int x2), some (.int (x1 / (100 : Int32))), some (.int ((x1 / (10 : Int32)) - (x1 / (10 : Int32)) / (10 : Int32) * (10 : Int32))), some (.int (x1 - x1 / (10 : Int32) * (10 : Int32))), some (.int p4.1)] [] _ _ from ?_)
                refine zy_2 rfl rfl (show zyR _ _ _ _ [some (.ref (0 + 3)), some (.int x1), some (.int x2), some (.int (x1 / (100 : Int32))), some (.int ((x1 / (10 : Int32)) - (x1 / (10 : Int32)) / (10 : Int32) * (10 : Int32))), some (.int (x1 - x1 / (10 : Int32) * (10 : Int32))), some (.int p4.1)] [.int x2] _ _ from ?_)
                refine zy_24_1 rfl (fun b5 => (show zyR _ _ _ _ [some (.ref (0 + 3)), some (.int x1), some (.int x2), some (.int (x1 / (100 : Int32))), some (.int ((x1 / (10 : Int32)) - (x1 / (10 : Int32)) / (10 : Int32) * (10 : Int32))), some (.int (x1 - x1 / (10 : Int32) * (10 : Int32))), some (.int p4.1)] [] _ _ from ?_)) (fun b5 => (show zyR _ _ _ _ [some (.ref (0 + 3)), some (.int x1), some (.int x2), some (.int (x1 / (100 : Int32))), some (.int ((x1 / (10 : Int32)) - (x1 / (10 : Int32)) / (10 : Int32) * (10 : Int32))), some (.int (x1 - x1 / (10 : Int32) * (10 : Int32))), some (.int p4.1)] [] _ _ from ?_))
                · replace h := zy_ifp h b5
                  refine zy_0 rfl rfl (show zyR _ _ _ _ [some (.ref (0 + 3)), some (.int x1), some (.int x2), some (.int (x1 / (100 : Int32))), some (.int ((x1 / (10 : Int32)) - (x1 / (10 : Int32)) / (10 : Int32) * (10 : Int32))), some (.int (x1 - x1 / (10 : Int32) * (10 : Int32))), some (.int p4.1)] [.ref (0 + 3)] _ _ from ?_)
                  refine zy_1r (c := 0) rfl rfl rfl (show zyR _ _ _ _ [some (.ref (0 + 3)), some (.int x1), some (.int x2), some (.int (x1 / (100 : Int32))), some (.int ((x1 / (10 : Int32)) - (x1 / (10 : Int32)) / (10 : Int32) * (10 : Int32))), some (.int (x1 - x1 / (10 : Int32) * (10 : Int32))), some (.int p4.1)] [.ref (15 + 3)] _ _ from ?_)
                  refine zy_1 (c := 15) rfl rfl rfl (show zyR _ _ _ _ [some (.ref (0 + 3)), some (.int x1), some (.int x2), some (.int (x1 / (100 : Int32))), some (.int ((x1 / (10 : Int32)) - (x1 / (10 : Int32)) / (10 : Int32) * (10 : Int32))), some (.int (x1 - x1 / (10 : Int32) * (10 : Int32))), some (.int p4.1)] [.int (p4.2.1 15 3)] _ _ from ?_)
                  obtain ⟨rfl, rfl⟩ := zy_pi h
                  exact zy_4 rfl ⟨rfl, rfl⟩
                · replace h := zy_ifn h b5
                  refine zy_2 rfl rfl (show zyR _ _ _ _ [some (.ref (0 + 3)), some (.int x1), some (.int x2), some (.int (x1 / (100 : Int32))), some (.int ((x1 / (10 : Int32)) - (x1 / (10 : Int32)) / (10 : Int32) * (10 : Int32))), some (.int (x1 - x1 / (10 : Int32) * (10 : Int32))), some (.int p4.1)] [.int p4.1] _ _ from ?_)
                  refine zy_6 rfl (show zyR _ _ _ _ [some (.ref (0 + 3)), some (.int x1), some (.int x2), some (.int (x1 / (100 : Int32))), some (.int ((x1 / (10 : Int32)) - (x1 / (10 : Int32)) / (10 : Int32) * (10 : Int32))), some (.int (x1 - x1 / (10 : Int32) * (10 : Int32))), some (.int p4.1)] [.int p4.1] _ _ from ?_)
                  obtain ⟨rfl, rfl⟩ := zy_pi h
                  exact zy_4 rfl ⟨rfl, rfl⟩
              · replace h := zy_ifn h b6
                refine zy_3c rfl rfl (show zyR _ _ _ _ [some (.ref (0 + 3)), some (.int x1), some (.int x2), some (.int (x1 / (100 : Int32))), some (.int ((x1 / (10 : Int32)) - (x1 / (10 : Int32)) / (10 : Int32) * (10 : Int32))), some (.int (x1 - x1 / (10 : Int32) * (10 : Int32))), none] [.int (-2000000000 : Int32)] _ _ from ?_)
                obtain ⟨rfl, rfl⟩ := zy_pi h
                exact zy_4 rfl ⟨rfl, rfl⟩
    · replace h := zy_ifn h b11
      refine zy_3c rfl rfl (show zyR _ _ _ _ [some (.ref (0 + 3)), some (.int x1), some (.int x2), none, none, none, none] [.int (-2000000000 : Int32)] _ _ from ?_)
      obtain ⟨rfl, rfl⟩ := zy_pi h
      exact zy_4 rfl ⟨rfl, rfl⟩
