/-! PART 41.09: methods as functions. Made by wip/v4/dcp.py. -/
/-! NineOpinions.rub(I)I -/
noncomputable def zyF135   (x1 : Int32) (s : zy_S) : Option (Int32 × zy_S) :=
(zyF26 x1 s).bind fun p1 =>
if p1.1 ≠ 0 then
(zyF86 x1 p1.2).bind fun p2 =>
if p2.1 = 0 then
some ((-5 : Int32), p2.2)
else
(zyF136 x1 p2.2).bind fun p3 =>
some (p3.1, p3.2)
else
some ((-1 : Int32), p1.2)
theorem zyC135 {X : zx_X}     {x1 : Int32} {s : zy_S} {r : Int32} {s' : zy_S}  (h : zyF135 x1 s = some (r, s')) : zyR X 3 135 0 [some (.ref (0 + 3)), some (.int x1)] [] s (zyE (some (.int r)) s') := by
  unfold zyF135 at h
  refine zy_2 rfl rfl (show zyR _ _ _ _ [some (.ref (0 + 3)), some (.int x1)] [.int x1] _ _ from ?_)
  obtain ⟨p1, hp1, h⟩ := zy_bind h
  refine zy_60 (as := [.int x1]) (rest := []) (L := [some (.int x1)]) (d' := 1) rfl rfl (Nat.le_of_ble_eq_true rfl) (Nat.le_of_ble_eq_true rfl) rfl (Nat.le_of_ble_eq_true rfl) rfl rfl (zyC26 hp1) ?_
  show zyR _ _ _ _ [some (.ref (0 + 3)), some (.int x1)] [.int p1.1] _ _
  refine zy_24_1 rfl (fun b5 => (show zyR _ _ _ _ [some (.ref (0 + 3)), some (.int x1)] [] _ _ from ?_)) (fun b5 => (show zyR _ _ _ _ [some (.ref (0 + 3)), some (.int x1)] [] _ _ from ?_))
  · replace h := zy_ifp h b5
    refine zy_0 rfl rfl (show zyR _ _ _ _ [some (.ref (0 + 3)), some (.int x1)] [.ref (0 + 3)] _ _ from ?_)
    refine zy_1r (c := 0) rfl rfl rfl (show zyR _ _ _ _ [some (.ref (0 + 3)), some (.int x1)] [.ref (1 + 3)] _ _ from ?_)
    refine zy_2 rfl rfl (show zyR _ _ _ _ [some (.ref (0 + 3)), some (.int x1)] [.int x1, .ref (1 + 3)] _ _ from ?_)
    obtain ⟨p2, hp2, h⟩ := zy_bind h
    refine zy_5 (c := 1) (as := [.int x1]) (rest := []) (L := [some (.ref (1 + 3)), some (.int x1)]) (d' := 2) rfl rfl rfl (Nat.le_of_ble_eq_true rfl) (Nat.le_of_ble_eq_true rfl) rfl (Nat.le_of_ble_eq_true rfl) rfl rfl (zyC86 hp2) ?_
    show zyR _ _ _ _ [some (.ref (0 + 3)), some (.int x1)] [.int p2.1] _ _
    refine zy_24_0 rfl (fun b4 => (show zyR _ _ _ _ [some (.ref (0 + 3)), some (.int x1)] [] _ _ from ?_)) (fun b4 => (show zyR _ _ _ _ [some (.ref (0 + 3)), some (.int x1)] [] _ _ from ?_))
    · replace h := zy_ifp h b4
      refine zy_3 rfl rfl (show zyR _ _ _ _ [some (.ref (0 + 3)), some (.int x1)] [.int (-5 : Int32)] _ _ from ?_)
      obtain ⟨rfl, rfl⟩ := zy_pi h
      exact zy_4 rfl ⟨rfl, rfl⟩
    · replace h := zy_ifn h b4
      refine zy_0 rfl rfl (show zyR _ _ _ _ [some (.ref (0 + 3)), some (.int x1)] [.ref (0 + 3)] _ _ from ?_)
      refine zy_1r (c := 0) rfl rfl rfl (show zyR _ _ _ _ [some (.ref (0 + 3)), some (.int x1)] [.ref (17 + 3)] _ _ from ?_)
      refine zy_2 rfl rfl (show zyR _ _ _ _ [some (.ref (0 + 3)), some (.int x1)] [.int x1, .ref (17 + 3)] _ _ from ?_)
      obtain ⟨p3, hp3, h⟩ := zy_bind h
      refine zy_5 (c := 17) (as := [.int x1]) (rest := []) (L := [some (.ref (17 + 3)), some (.int x1)]) (d' := 1) rfl rfl rfl (Nat.le_of_ble_eq_true rfl) (Nat.le_of_ble_eq_true rfl) rfl (Nat.le_of_ble_eq_true rfl) rfl rfl (zyC136 hp3) ?_
      show zyR _ _ _ _ [some (.ref (0 + 3)), some (.int x1)] [.int p3.1] _ _
      refine zy_6 rfl (show zyR _ _ _ _ [some (.ref (0 + 3)), some (.int x1)] [.int p3.1] _ _ from ?_)
      obtain ⟨rfl, rfl⟩ := zy_pi h
      exact zy_4 rfl ⟨rfl, rfl⟩
  · replace h := zy_ifn h b5
    refine zy_3 rfl rfl (show zyR _ _ _ _ [some (.ref (0 + 3)), some (.int x1)] [.int (-1 : Int32)] _ _ from ?_)
    obtain ⟨rfl, rfl⟩ := zy_pi h
    exact zy_4 rfl ⟨rfl, rfl⟩
/-! NineOpinions.viewIn(II)I -/
noncomputable def zyF60   (x0 : Int32) (x1 : Int32) (s : zy_S) : Option (Int32 × zy_S) :=
some (((x0 >>> (((2 : Int32) * x1) &&& 31)) &&& (3 : Int32)), s)
theorem zyC60 {X : zx_X}     {x0 : Int32} {x1 : Int32} {s : zy_S} {r : Int32} {s' : zy_S}  (h : zyF60 x0 x1 s = some (r, s')) : zyR X 1 60 0 [some (.int x0), some (.int x1)] [] s (zyE (some (.int r)) s') := by
  unfold zyF60 at h
  refine zy_2 rfl rfl (show zyR _ _ _ _ [some (.int x0), some (.int x1)] [.int x0] _ _ from ?_)
  refine zy_3 rfl rfl (show zyR _ _ _ _ [some (.int x0), some (.int x1)] [.int (2 : Int32), .int x0] _ _ from ?_)
  refine zy_2 rfl rfl (show zyR _ _ _ _ [some (.int x0), some (.int x1)] [.int x1, .int (2 : Int32), .int x0] _ _ from ?_)
  refine zy_12 rfl (show zyR _ _ _ _ [some (.int x0), some (.int x1)] [.int ((2 : Int32) * x1), .int x0] _ _ from ?_)
  refine zy_17 rfl (show zyR _ _ _ _ [some (.int x0), some (.int x1)] [.int (x0 >>> (((2 : Int32) * x1) &&& 31))] _ _ from ?_)
  refine zy_3 rfl rfl (show zyR _ _ _ _ [some (.int x0), some (.int x1)] [.int (3 : Int32), .int (x0 >>> (((2 : Int32) * x1) &&& 31))] _ _ from ?_)
  refine zy_13 rfl (show zyR _ _ _ _ [some (.int x0), some (.int x1)] [.int ((x0 >>> (((2 : Int32) * x1) &&& 31)) &&& (3 : Int32))] _ _ from ?_)
  obtain ⟨rfl, rfl⟩ := zy_pi h
  exact zy_4 rfl ⟨rfl, rfl⟩
/-! NineOpinions$Town.holdsView(II)Z -/
noncomputable def zyF96   (x1 : Int32) (x2 : Int32) (s : zy_S) : Option (Int32 × zy_S) :=
if zy_in x1 8 then
(zyF60 (s.1 3 (x1).toNatClampNeg) (x2 / (4 : Int32)) s).bind fun p2 =>
if p2.1 ≠ (x2 - x2 / (4 : Int32) * (4 : Int32)) then
some ((0 : Int32), p2.2)
else
some ((1 : Int32), p2.2)
else none
theorem zyC96 {X : zx_X}     {x1 : Int32} {x2 : Int32} {s : zy_S} {r : Int32} {s' : zy_S}  (h : zyF96 x1 x2 s = some (r, s')) : zyR X 2 96 0 [some (.ref (1 + 3)), some (.int x1), some (.int x2)] [] s (zyE (some (.int r)) s') := by
  unfold zyF96 at h
  refine zy_0 rfl rfl (show zyR _ _ _ _ [some (.ref (1 + 3)), some (.int x1), some (.int x2)] [.ref (1 + 3)] _ _ from ?_)
  refine zy_1r (c := 1) rfl rfl rfl (show zyR _ _ _ _ [some (.ref (1 + 3)), some (.int x1), some (.int x2)] [.ref (3 + 3)] _ _ from ?_)
  refine zy_2 rfl rfl (show zyR _ _ _ _ [some (.ref (1 + 3)), some (.int x1), some (.int x2)] [.int x1, .ref (3 + 3)] _ _ from ?_)
  obtain ⟨c1, h⟩ := zy_if h
  refine zy_26 (c := 3) rfl rfl c1 (show zyR _ _ _ _ [some (.ref (1 + 3)), some (.int x1), some (.int x2)] [.int (s.1 3 (x1).toNatClampNeg)] _ _ from ?_)
  refine zy_2 rfl rfl (show zyR _ _ _ _ [some (.ref (1 + 3)), some (.int x1), some (.int x2)] [.int x2, .int (s.1 3 (x1).toNatClampNeg)] _ _ from ?_)
  refine zy_3 rfl rfl (show zyR _ _ _ _ [some (.ref (1 + 3)), some (.int x1), some (.int x2)] [.int (4 : Int32), .int x2, .int (s.1 3 (x1).toNatClampNeg)] _ _ from ?_)
  refine zy_19 rfl (by decide) (show zyR _ _ _ _ [some (.ref (1 + 3)), some (.int x1), some (.int x2)] [.int (x2 / (4 : Int32)), .int (s.1 3 (x1).toNatClampNeg)] _ _ from ?_)
  obtain ⟨p2, hp2, h⟩ := zy_bind h
  refine zy_61 (as := [.int (s.1 3 (x1).toNatClampNeg), .int (x2 / (4 : Int32))]) (rest := []) (L := [some (.int (s.1 3 (x1).toNatClampNeg)), some (.int (x2 / (4 : Int32)))]) (d' := 1) rfl rfl (Nat.le_of_ble_eq_true rfl) (Nat.le_of_ble_eq_true rfl) rfl (Nat.le_of_ble_eq_true rfl) rfl rfl (zyC60 hp2) ?_
  show zyR _ _ _ _ [some (.ref (1 + 3)), some (.int x1), some (.int x2)] [.int p2.1] _ _
  refine zy_2 rfl rfl (show zyR _ _ _ _ [some (.ref (1 + 3)), some (.int x1), some (.int x2)] [.int x2, .int p2.1] _ _ from ?_)
  refine zy_3 rfl rfl (show zyR _ _ _ _ [some (.ref (1 + 3)), some (.int x1), some (.int x2)] [.int (4 : Int32), .int x2, .int p2.1] _ _ from ?_)
  refine zy_20 rfl (by decide) (show zyR _ _ _ _ [some (.ref (1 + 3)), some (.int x1), some (.int x2)] [.int (x2 - x2 / (4 : Int32) * (4 : Int32)), .int p2.1] _ _ from ?_)
  refine zy_25_1 rfl (fun b3 => (show zyR _ _ _ _ [some (.ref (1 + 3)), some (.int x1), some (.int x2)] [] _ _ from ?_)) (fun b3 => (show zyR _ _ _ _ [some (.ref (1 + 3)), some (.int x1), some (.int x2)] [] _ _ from ?_))
  · replace h := zy_ifp h b3
    refine zy_3 rfl rfl (show zyR _ _ _ _ [some (.ref (1 + 3)), some (.int x1), some (.int x2)] [.int (0 : Int32)] _ _ from ?_)
    cases h
    exact zy_4b rfl ⟨rfl, rfl⟩ (Or.inl rfl)
  · replace h := zy_ifn h b3
    refine zy_3 rfl rfl (show zyR _ _ _ _ [some (.ref (1 + 3)), some (.int x1), some (.int x2)] [.int (1 : Int32)] _ _ from ?_)
    refine zy_6 rfl (show zyR _ _ _ _ [some (.ref (1 + 3)), some (.int x1), some (.int x2)] [.int (1 : Int32)] _ _ from ?_)
    cases h
    exact zy_4b rfl ⟨rfl, rfl⟩ (Or.inr rfl)
/-! NineOpinions$Deeds.doWin(II)I -/
noncomputable def zyF138   (x1 : Int32) (x2 : Int32) (s : zy_S) : Option (Int32 × zy_S) :=
if zy_in x1 8 then
if zy_in x1 8 then
if zy_in x1 8 then
some (((zy_up s 3 (x1).toNatClampNeg (((s.1 3 (x1).toNatClampNeg) &&& (((3 : Int32) <<< (((2 : Int32) * (x2 / (4 : Int32))) &&& 31)) ^^^ (-1 : Int32))) ||| ((x2 - x2 / (4 : Int32) * (4 : Int32)) <<< (((2 : Int32) * (x2 / (4 : Int32))) &&& 31)))).1 3 (x1).toNatClampNeg), (zy_up (zy_up s 3 (x1).toNatClampNeg (((s.1 3 (x1).toNatClampNeg) &&& (((3 : Int32) <<< (((2 : Int32) * (x2 / (4 : Int32))) &&& 31)) ^^^ (-1 : Int32))) ||| ((x2 - x2 / (4 : Int32) * (4 : Int32)) <<< (((2 : Int32) * (x2 / (4 : Int32))) &&& 31)))) 18 3 ((s.1 18 3) + (1 : Int32))))
else none
else none
else none
theorem zyC138 {X : zx_X}     {x1 : Int32} {x2 : Int32} {s : zy_S} {r : Int32} {s' : zy_S}  (h : zyF138 x1 x2 s = some (r, s')) : zyR X 1 138 0 [some (.ref (17 + 3)), some (.int x1), some (.int x2), none] [] s (zyE (some (.int r)) s') := by
  unfold zyF138 at h
  refine zy_3 rfl rfl (show zyR _ _ _ _ [some (.ref (17 + 3)), some (.int x1), some (.int x2), none] [.int (2 : Int32)] _ _ from ?_)
  refine zy_2 rfl rfl (show zyR _ _ _ _ [some (.ref (17 + 3)), some (.int x1), some (.int x2), none] [.int x2, .int (2 : Int32)] _ _ from ?_)
  refine zy_3 rfl rfl (show zyR _ _ _ _ [some (.ref (17 + 3)), some (.int x1), some (.int x2), none] [.int (4 : Int32), .int x2, .int (2 : Int32)] _ _ from ?_)
  refine zy_19 rfl (by decide) (show zyR _ _ _ _ [some (.ref (17 + 3)), some (.int x1), some (.int x2), none] [.int (x2 / (4 : Int32)), .int (2 : Int32)] _ _ from ?_)
  refine zy_12 rfl (show zyR _ _ _ _ [some (.ref (17 + 3)), some (.int x1), some (.int x2), none] [.int ((2 : Int32) * (x2 / (4 : Int32)))] _ _ from ?_)
  refine zy_23 rfl rfl (show zyR _ _ _ _ [some (.ref (17 + 3)), some (.int x1), some (.int x2), some (.int ((2 : Int32) * (x2 / (4 : Int32))))] [] _ _ from ?_)
  refine zy_0 rfl rfl (show zyR _ _ _ _ [some (.ref (17 + 3)), some (.int x1), some (.int x2), some (.int ((2 : Int32) * (x2 / (4 : Int32))))] [.ref (17 + 3)] _ _ from ?_)
  refine zy_1r (c := 17) rfl rfl rfl (show zyR _ _ _ _ [some (.ref (17 + 3)), some (.int x1), some (.int x2), some (.int ((2 : Int32) * (x2 / (4 : Int32))))] [.ref (1 + 3)] _ _ from ?_)
  refine zy_1r (c := 1) rfl rfl rfl (show zyR _ _ _ _ [some (.ref (17 + 3)), some (.int x1), some (.int x2), some (.int ((2 : Int32) * (x2 / (4 : Int32))))] [.ref (3 + 3)] _ _ from ?_)
  refine zy_2 rfl rfl (show zyR _ _ _ _ [some (.ref (17 + 3)), some (.int x1), some (.int x2), some (.int ((2 : Int32) * (x2 / (4 : Int32))))] [.int x1, .ref (3 + 3)] _ _ from ?_)
  refine zy_0 rfl rfl (show zyR _ _ _ _ [some (.ref (17 + 3)), some (.int x1), some (.int x2), some (.int ((2 : Int32) * (x2 / (4 : Int32))))] [.ref (17 + 3), .int x1, .ref (3 + 3)] _ _ from ?_)
  refine zy_1r (c := 17) rfl rfl rfl (show zyR _ _ _ _ [some (.ref (17 + 3)), some (.int x1), some (.int x2), some (.int ((2 : Int32) * (x2 / (4 : Int32))))] [.ref (1 + 3), .int x1, .ref (3 + 3)] _ _ from ?_)
  refine zy_1r (c := 1) rfl rfl rfl (show zyR _ _ _ _ [some (.ref (17 + 3)), some (.int x1), some (.int x2), some (.int ((2 : Int32) * (x2 / (4 : Int32))))] [.ref (3 + 3), .int x1, .ref (3 + 3)] _ _ from ?_)
  refine zy_2 rfl rfl (show zyR _ _ _ _ [some (.ref (17 + 3)), some (.int x1), some (.int x2), some (.int ((2 : Int32) * (x2 / (4 : Int32))))] [.int x1, .ref (3 + 3), .int x1, .ref (3 + 3)] _ _ from ?_)
  obtain ⟨c1, h⟩ := zy_if h
  refine zy_26 (c := 3) rfl rfl c1 (show zyR _ _ _ _ [some (.ref (17 + 3)), some (.int x1), some (.int x2), some (.int ((2 : Int32) * (x2 / (4 : Int32))))] [.int (s.1 3 (x1).toNatClampNeg), .int x1, .ref (3 + 3)] _ _ from ?_)
  refine zy_3 rfl rfl (show zyR _ _ _ _ [some (.ref (17 + 3)), some (.int x1), some (.int x2), some (.int ((2 : Int32) * (x2 / (4 : Int32))))] [.int (3 : Int32), .int (s.1 3 (x1).toNatClampNeg), .int x1, .ref (3 + 3)] _ _ from ?_)
  refine zy_2 rfl rfl (show zyR _ _ _ _ [some (.ref (17 + 3)), some (.int x1), some (.int x2), some (.int ((2 : Int32) * (x2 / (4 : Int32))))] [.int ((2 : Int32) * (x2 / (4 : Int32))), .int (3 : Int32), .int (s.1 3 (x1).toNatClampNeg), .int x1, .ref (3 + 3)] _ _ from ?_)
  refine zy_16 rfl (show zyR _ _ _ _ [some (.ref (17 + 3)), some (.int x1), some (.int x2), some (.int ((2 : Int32) * (x2 / (4 : Int32))))] [.int ((3 : Int32) <<< (((2 : Int32) * (x2 / (4 : Int32))) &&& 31)), .int (s.1 3 (x1).toNatClampNeg), .int x1, .ref (3 + 3)] _ _ from ?_)
  refine zy_3 rfl rfl (show zyR _ _ _ _ [some (.ref (17 + 3)), some (.int x1), some (.int x2), some (.int ((2 : Int32) * (x2 / (4 : Int32))))] [.int (-1 : Int32), .int ((3 : Int32) <<< (((2 : Int32) * (x2 / (4 : Int32))) &&& 31)), .int (s.1 3 (x1).toNatClampNeg), .int x1, .ref (3 + 3)] _ _ from ?_)
  refine zy_15 rfl (show zyR _ _ _ _ [some (.ref (17 + 3)), some (.int x1), some (.int x2), some (.int ((2 : Int32) * (x2 / (4 : Int32))))] [.int (((3 : Int32) <<< (((2 : Int32) * (x2 / (4 : Int32))) &&& 31)) ^^^ (-1 : Int32)), .int (s.1 3 (x1).toNatClampNeg), .int x1, .ref (3 + 3)] _ _ from ?_)
  refine zy_13 rfl (show zyR _ _ _ _ [some (.ref (17 + 3)), some (.int x1), some (.int x2), some (.int ((2 : Int32) * (x2 / (4 : Int32))))] [.int ((s.1 3 (x1).toNatClampNeg) &&& (((3 : Int32) <<< (((2 : Int32) * (x2 / (4 : Int32))) &&& 31)) ^^^ (-1 : Int32))), .int x1, .ref (3 + 3)] _ _ from ?_)
  refine zy_2 rfl rfl (show zyR _ _ _ _ [some (.ref (17 + 3)), some (.int x1), some (.int x2), some (.int ((2 : Int32) * (x2 / (4 : Int32))))] [.int x2, .int ((s.1 3 (x1).toNatClampNeg) &&& (((3 : Int32) <<< (((2 : Int32) * (x2 / (4 : Int32))) &&& 31)) ^^^ (-1 : Int32))), .int x1, .ref (3 + 3)] _ _ from ?_)
  refine zy_3 rfl rfl (show zyR _ _ _ _ [some (.ref (17 + 3)), some (.int x1), some (.int x2), some (.int ((2 : Int32) * (x2 / (4 : Int32))))] [.int (4 : Int32), .int x2, .int ((s.1 3 (x1).toNatClampNeg) &&& (((3 : Int32) <<< (((2 : Int32) * (x2 / (4 : Int32))) &&& 31)) ^^^ (-1 : Int32))), .int x1, .ref (3 + 3)] _ _ from ?_)
  refine zy_20 rfl (by decide) (show zyR _ _ _ _ [some (.ref (17 + 3)), some (.int x1), some (.int x2), some (.int ((2 : Int32) * (x2 / (4 : Int32))))] [.int (x2 - x2 / (4 : Int32) * (4 : Int32)), .int ((s.1 3 (x1).toNatClampNeg) &&& (((3 : Int32) <<< (((2 : Int32) * (x2 / (4 : Int32))) &&& 31)) ^^^ (-1 : Int32))), .int x1, .ref (3 + 3)] _ _ from ?_)
  refine zy_2 rfl rfl (show zyR _ _ _ _ [some (.ref (17 + 3)), some (.int x1), some (.int x2), some (.int ((2 : Int32) * (x2 / (4 : Int32))))] [.int ((2 : Int32) * (x2 / (4 : Int32))), .int (x2 - x2 / (4 : Int32) * (4 : Int32)), .int ((s.1 3 (x1).toNatClampNeg) &&& (((3 : Int32) <<< (((2 : Int32) * (x2 / (4 : Int32))) &&& 31)) ^^^ (-1 : Int32))), .int x1, .ref (3 + 3)] _ _ from ?_)
  refine zy_16 rfl (show zyR _ _ _ _ [some (.ref (17 + 3)), some (.int x1), some (.int x2), some (.int ((2 : Int32) * (x2 / (4 : Int32))))] [.int ((x2 - x2 / (4 : Int32) * (4 : Int32)) <<< (((2 : Int32) * (x2 / (4 : Int32))) &&& 31)), .int ((s.1 3 (x1).toNatClampNeg) &&& (((3 : Int32) <<< (((2 : Int32) * (x2 / (4 : Int32))) &&& 31)) ^^^ (-1 : Int32))), .int x1, .ref (3 + 3)] _ _ from ?_)
  refine zy_14 rfl (show zyR _ _ _ _ [some (.ref (17 + 3)), some (.int x1), some (.int x2), some (.int ((2 : Int32) * (x2 / (4 : Int32))))] [.int (((s.1 3 (x1).toNatClampNeg) &&& (((3 : Int32) <<< (((2 : Int32) * (x2 / (4 : Int32))) &&& 31)) ^^^ (-1 : Int32))) ||| ((x2 - x2 / (4 : Int32) * (4 : Int32)) <<< (((2 : Int32) * (x2 / (4 : Int32))) &&& 31))), .int x1, .ref (3 + 3)] _ _ from ?_)
  obtain ⟨c2, h⟩ := zy_if h
  refine zy_27 (c := 3) rfl rfl c2 (show zyR _ _ _ _ [some (.ref (17 + 3)), some (.int x1), some (.int x2), some (.int ((2 : Int32) * (x2 / (4 : Int32))))] [] _ _ from ?_)
  refine zy_0 rfl rfl (show zyR _ _ _ _ [some (.ref (17 + 3)), some (.int x1), some (.int x2), some (.int ((2 : Int32) * (x2 / (4 : Int32))))] [.ref (17 + 3)] _ _ from ?_)
  refine zy_1r (c := 17) rfl rfl rfl (show zyR _ _ _ _ [some (.ref (17 + 3)), some (.int x1), some (.int x2), some (.int ((2 : Int32) * (x2 / (4 : Int32))))] [.ref (18 + 3)] _ _ from ?_)
  refine zy_3 rfl rfl (show zyR _ _ _ _ [some (.ref (17 + 3)), some (.int x1), some (.int x2), some (.int ((2 : Int32) * (x2 / (4 : Int32))))] [.int (3 : Int32), .ref (18 + 3)] _ _ from ?_)
  refine zy_35 rfl rfl rfl (show zyR _ _ _ _ [some (.ref (17 + 3)), some (.int x1), some (.int x2), some (.int ((2 : Int32) * (x2 / (4 : Int32))))] [.int (3 : Int32), .ref (18 + 3), .int (3 : Int32), .ref (18 + 3)] _ _ from ?_)
  refine zy_26 (c := 18) rfl rfl (by decide) (show zyR _ _ _ _ [some (.ref (17 + 3)), some (.int x1), some (.int x2), some (.int ((2 : Int32) * (x2 / (4 : Int32))))] [.int (s.1 18 3), .int (3 : Int32), .ref (18 + 3)] _ _ from ?_)
  refine zy_3 rfl rfl (show zyR _ _ _ _ [some (.ref (17 + 3)), some (.int x1), some (.int x2), some (.int ((2 : Int32) * (x2 / (4 : Int32))))] [.int (1 : Int32), .int (s.1 18 3), .int (3 : Int32), .ref (18 + 3)] _ _ from ?_)
  refine zy_10 rfl (show zyR _ _ _ _ [some (.ref (17 + 3)), some (.int x1), some (.int x2), some (.int ((2 : Int32) * (x2 / (4 : Int32))))] [.int ((s.1 18 3) + (1 : Int32)), .int (3 : Int32), .ref (18 + 3)] _ _ from ?_)
  refine zy_27 (c := 18) rfl rfl (by decide) (show zyR _ _ _ _ [some (.ref (17 + 3)), some (.int x1), some (.int x2), some (.int ((2 : Int32) * (x2 / (4 : Int32))))] [] _ _ from ?_)
  refine zy_0 rfl rfl (show zyR _ _ _ _ [some (.ref (17 + 3)), some (.int x1), some (.int x2), some (.int ((2 : Int32) * (x2 / (4 : Int32))))] [.ref (17 + 3)] _ _ from ?_)
  refine zy_1r (c := 17) rfl rfl rfl (show zyR _ _ _ _ [some (.ref (17 + 3)), some (.int x1), some (.int x2), some (.int ((2 : Int32) * (x2 / (4 : Int32))))] [.ref (1 + 3)] _ _ from ?_)
  refine zy_1r (c := 1) rfl rfl rfl (show zyR _ _ _ _ [some (.ref (17 + 3)), some (.int x1), some (.int x2), some (.int ((2 : Int32) * (x2 / (4 : Int32))))] [.ref (3 + 3)] _ _ from ?_)
  refine zy_2 rfl rfl (show zyR _ _ _ _ [some (.ref (17 + 3)), some (.int x1), some (.int x2), some (.int ((2 : Int32) * (x2 / (4 : Int32))))] [.int x1, .ref (3 + 3)] _ _ from ?_)
  obtain ⟨c3, h⟩ := zy_if h
  refine zy_26 (c := 3) rfl rfl c3 (show zyR _ _ _ _ [some (.ref (17 + 3)), some (.int x1), some (.int x2), some (.int ((2 : Int32) * (x2 / (4 : Int32))))] [.int ((zy_up s 3 (x1).toNatClampNeg (((s.1 3 (x1).toNatClampNeg) &&& (((3 : Int32) <<< (((2 : Int32) * (x2 / (4 : Int32))) &&& 31)) ^^^ (-1 : Int32))) ||| ((x2 - x2 / (4 : Int32) * (4 : Int32)) <<< (((2 : Int32) * (x2 / (4 : Int32))) &&& 31)))).1 3 (x1).toNatClampNeg)] _ _ from ?_)
  obtain ⟨rfl, rfl⟩ := zy_pi h
  exact zy_4 rfl ⟨rfl, rfl⟩
