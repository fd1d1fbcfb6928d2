/-! more methods as functions. Made by wip/v4/dcp.py. -/
/-! NineOpinions$Shelf.refusesAsRowOf(I)I -/
noncomputable def zyF107   (x0 : Nat) (x1 : Int32) (s : zy_S) : Option (Int32 × zy_S) :=
(zyF19 x0 s).bind fun p1 =>
if p1.1 = 0 then
(zyF21 x0 x1 p1.2).bind fun p2 =>
if p2.1 = 0 then
some ((-12 : Int32), p2.2)
else
some ((0 : Int32), p2.2)
else
some ((-11 : Int32), p1.2)
theorem zyC107 {X : zx_X}     {x0 : Nat} {x1 : Int32} {s : zy_S} {r : Int32} {s' : zy_S} (hs_x0 : zy_isSh x0) (h : zyF107 x0 x1 s = some (r, s')) : zyR X 3 107 0 [some (.ref (x0 + 3)), some (.int x1)] [] s (zyE (some (.int r)) s') := by
  unfold zyF107 at h
  refine zy_0 rfl rfl (show zyR _ _ _ _ [some (.ref (x0 + 3)), some (.int x1)] [.ref (x0 + 3)] _ _ from ?_)
  obtain ⟨p1, hp1, h⟩ := zy_bind h
  refine zy_5 (c := x0) (as := []) (rest := []) (L := [some (.ref (x0 + 3))]) (d' := 2) rfl rfl hs_x0.1 (Nat.le_of_ble_eq_true rfl) (Nat.le_of_ble_eq_true rfl) rfl (Nat.le_of_ble_eq_true rfl) rfl rfl (zyC19 hs_x0 hp1) ?_
  show zyR _ _ _ _ [some (.ref (x0 + 3)), some (.int x1)] [.int p1.1] _ _
  refine zy_24_0 rfl (fun b4 => (show zyR _ _ _ _ [some (.ref (x0 + 3)), some (.int x1)] [] _ _ from ?_)) (fun b4 => (show zyR _ _ _ _ [some (.ref (x0 + 3)), some (.int x1)] [] _ _ from ?_))
  · replace h := zy_ifp h b4
    refine zy_0 rfl rfl (show zyR _ _ _ _ [some (.ref (x0 + 3)), some (.int x1)] [.ref (x0 + 3)] _ _ from ?_)
    refine zy_2 rfl rfl (show zyR _ _ _ _ [some (.ref (x0 + 3)), some (.int x1)] [.int x1, .ref (x0 + 3)] _ _ from ?_)
    obtain ⟨p2, hp2, h⟩ := zy_bind h
    refine zy_5 (c := x0) (as := [.int x1]) (rest := []) (L := [some (.ref (x0 + 3)), some (.int x1)]) (d' := 2) rfl rfl hs_x0.1 (Nat.le_of_ble_eq_true rfl) (Nat.le_of_ble_eq_true rfl) rfl (Nat.le_of_ble_eq_true rfl) rfl rfl (zyC21 hs_x0 hp2) ?_
    show zyR _ _ _ _ [some (.ref (x0 + 3)), some (.int x1)] [.int p2.1] _ _
    refine zy_24_0 rfl (fun b3 => (show zyR _ _ _ _ [some (.ref (x0 + 3)), some (.int x1)] [] _ _ from ?_)) (fun b3 => (show zyR _ _ _ _ [some (.ref (x0 + 3)), some (.int x1)] [] _ _ from ?_))
    · replace h := zy_ifp h b3
      refine zy_3 rfl rfl (show zyR _ _ _ _ [some (.ref (x0 + 3)), some (.int x1)] [.int (-12 : Int32)] _ _ from ?_)
      cases h
      exact zy_4 rfl ⟨rfl, rfl⟩
    · replace h := zy_ifn h b3
      refine zy_3 rfl rfl (show zyR _ _ _ _ [some (.ref (x0 + 3)), some (.int x1)] [.int (0 : Int32)] _ _ from ?_)
      refine zy_6 rfl (show zyR _ _ _ _ [some (.ref (x0 + 3)), some (.int x1)] [.int (0 : Int32)] _ _ from ?_)
      cases h
      exact zy_4 rfl ⟨rfl, rfl⟩
  · replace h := zy_ifn h b4
    refine zy_3 rfl rfl (show zyR _ _ _ _ [some (.ref (x0 + 3)), some (.int x1)] [.int (-11 : Int32)] _ _ from ?_)
    cases h
    exact zy_4 rfl ⟨rfl, rfl⟩
/-! NineOpinions$Book.twos(LNineOpinions$Shelf;)I -/
noncomputable def zyF109   (x0 : Nat) (s : zy_S) : Option (Int32 × zy_S) :=
some ((((s.1 x0 3) + (1 : Int32)) / (2 : Int32)), s)
theorem zyC109 {X : zx_X}     {x0 : Nat} {s : zy_S} {r : Int32} {s' : zy_S} (hs_x0 : zy_isSh x0) (h : zyF109 x0 s = some (r, s')) : zyR X 1 109 0 [some (.ref (x0 + 3))] [] s (zyE (some (.int r)) s') := by
  unfold zyF109 at h
  refine zy_0 rfl rfl (show zyR _ _ _ _ [some (.ref (x0 + 3))] [.ref (x0 + 3)] _ _ from ?_)
  refine zy_1 (c := x0) rfl hs_x0.1 rfl (show zyR _ _ _ _ [some (.ref (x0 + 3))] [.int (s.1 x0 3)] _ _ from ?_)
  refine zy_3 rfl rfl (show zyR _ _ _ _ [some (.ref (x0 + 3))] [.int (1 : Int32), .int (s.1 x0 3)] _ _ from ?_)
  refine zy_10 rfl (show zyR _ _ _ _ [some (.ref (x0 + 3))] [.int ((s.1 x0 3) + (1 : Int32))] _ _ from ?_)
  refine zy_3 rfl rfl (show zyR _ _ _ _ [some (.ref (x0 + 3))] [.int (2 : Int32), .int ((s.1 x0 3) + (1 : Int32))] _ _ from ?_)
  refine zy_19 rfl (by decide) (show zyR _ _ _ _ [some (.ref (x0 + 3))] [.int (((s.1 x0 3) + (1 : Int32)) / (2 : Int32))] _ _ from ?_)
  cases h
  exact zy_4 rfl ⟨rfl, rfl⟩
/-! NineOpinions$Book.lineOf(LNineOpinions$Shelf;I)I -/
noncomputable def zyF110   (x0 : Nat) (x1 : Int32) (s : zy_S) : Option (Int32 × zy_S) :=
if zy_in ((2 : Int32) * x1) 60 then
(zyF26 ((s.2.1 (x0 + 1) (((2 : Int32) * x1)).toNatClampNeg)).toInt32 s).bind fun p2 =>
if p2.1 = 0 then
some ((-1 : Int32), p2.2)
else
some (((s.2.1 (x0 + 1) (((2 : Int32) * x1)).toNatClampNeg)).toInt32, p2.2)
else none
theorem zyC110 {X : zx_X}     {x0 : Nat} {x1 : Int32} {s : zy_S} {r : Int32} {s' : zy_S} (hs_x0 : zy_isSh x0) (h : zyF110 x0 x1 s = some (r, s')) : zyR X 2 110 0 [some (.ref (x0 + 3)), some (.int x1), none] [] s (zyE (some (.int r)) s') := by
  unfold zyF110 at h
  refine zy_0 rfl rfl (show zyR _ _ _ _ [some (.ref (x0 + 3)), some (.int x1), none] [.ref (x0 + 3)] _ _ from ?_)
  refine zy_1r (c := x0) rfl hs_x0.1 rfl (show zyR _ _ _ _ [some (.ref (x0 + 3)), some (.int x1), none] [.ref (x0 + 1 + 3)] _ _ from ?_)
  refine zy_3 rfl rfl (show zyR _ _ _ _ [some (.ref (x0 + 3)), some (.int x1), none] [.int (2 : Int32), .ref (x0 + 1 + 3)] _ _ from ?_)
  refine zy_2 rfl rfl (show zyR _ _ _ _ [some (.ref (x0 + 3)), some (.int x1), none] [.int x1, .int (2 : Int32), .ref (x0 + 1 + 3)] _ _ from ?_)
  refine zy_12 rfl (show zyR _ _ _ _ [some (.ref (x0 + 3)), some (.int x1), none] [.int ((2 : Int32) * x1), .ref (x0 + 1 + 3)] _ _ from ?_)
  obtain ⟨c1, h⟩ := zy_if h
  refine zy_30 (c := (x0 + 1)) rfl hs_x0.2 c1 (show zyR _ _ _ _ [some (.ref (x0 + 3)), some (.int x1), none] [.long (s.2.1 (x0 + 1) (((2 : Int32) * x1)).toNatClampNeg)] _ _ from ?_)
  refine zy_41 rfl (show zyR _ _ _ _ [some (.ref (x0 + 3)), some (.int x1), none] [.int ((s.2.1 (x0 + 1) (((2 : Int32) * x1)).toNatClampNeg)).toInt32] _ _ from ?_)
  refine zy_23 rfl rfl (show zyR _ _ _ _ [some (.ref (x0 + 3)), some (.int x1), some (.int ((s.2.1 (x0 + 1) (((2 : Int32) * x1)).toNatClampNeg)).toInt32)] [] _ _ from ?_)
  refine zy_2 rfl rfl (show zyR _ _ _ _ [some (.ref (x0 + 3)), some (.int x1), some (.int ((s.2.1 (x0 + 1) (((2 : Int32) * x1)).toNatClampNeg)).toInt32)] [.int ((s.2.1 (x0 + 1) (((2 : Int32) * x1)).toNatClampNeg)).toInt32] _ _ from ?_)
  obtain ⟨p2, hp2, h⟩ := zy_bind h
  refine zy_61 (as := [.int ((s.2.1 (x0 + 1) (((2 : Int32) * x1)).toNatClampNeg)).toInt32]) (rest := []) (L := [some (.int ((s.2.1 (x0 + 1) (((2 : Int32) * x1)).toNatClampNeg)).toInt32)]) (d' := 1) rfl rfl (Nat.le_of_ble_eq_true rfl) (Nat.le_of_ble_eq_true rfl) rfl (Nat.le_of_ble_eq_true rfl) rfl rfl (zyC26 hp2) ?_
  show zyR _ _ _ _ [some (.ref (x0 + 3)), some (.int x1), some (.int ((s.2.1 (x0 + 1) (((2 : Int32) * x1)).toNatClampNeg)).toInt32)] [.int p2.1] _ _
  refine zy_24_0 rfl (fun b3 => (show zyR _ _ _ _ [some (.ref (x0 + 3)), some (.int x1), some (.int ((s.2.1 (x0 + 1) (((2 : Int32) * x1)).toNatClampNeg)).toInt32)] [] _ _ from ?_)) (fun b3 => (show zyR _ _ _ _ [some (.ref (x0 + 3)), some (.int x1), some (.int ((s.2.1 (x0 + 1) (((2 : Int32) * x1)).toNatClampNeg)).toInt32)] [] _ _ from ?_))
  · replace h := zy_ifp h b3
    refine zy_3 rfl rfl (show zyR _ _ _ _ [some (.ref (x0 + 3)), some (.int x1), some (.int ((s.2.1 (x0 + 1) (((2 : Int32) * x1)).toNatClampNeg)).toInt32)] [.int (-1 : Int32)] _ _ from ?_)
    cases h
    exact zy_4 rfl ⟨rfl, rfl⟩
  · replace h := zy_ifn h b3
    refine zy_2 rfl rfl (show zyR _ _ _ _ [some (.ref (x0 + 3)), some (.int x1), some (.int ((s.2.1 (x0 + 1) (((2 : Int32) * x1)).toNatClampNeg)).toInt32)] [.int ((s.2.1 (x0 + 1) (((2 : Int32) * x1)).toNatClampNeg)).toInt32] _ _ from ?_)
    refine zy_6 rfl (show zyR _ _ _ _ [some (.ref (x0 + 3)), some (.int x1), some (.int ((s.2.1 (x0 + 1) (((2 : Int32) * x1)).toNatClampNeg)).toInt32)] [.int ((s.2.1 (x0 + 1) (((2 : Int32) * x1)).toNatClampNeg)).toInt32] _ _ from ?_)
    cases h
    exact zy_4 rfl ⟨rfl, rfl⟩
/-! NineOpinions$Book.isSo(LNineOpinions$Shelf;II)Z -/
noncomputable def zyF111_46   (y0 : Int32) (y1 : Int64) (s : zy_S) : Option (Int32 × zy_S) :=
if (lg_cmp y1 (y0).toInt64) ≠ 0 then
some ((0 : Int32), s)
else
some ((1 : Int32), s)
theorem zyC111_46 {X : zx_X}     {y0 : Int32} {y1 : Int64} {s : zy_S} {r : Int32} {s' : zy_S}  (h : zyF111_46 y0 y1 s = some (r, s')) : zyR X 3 111 46 [none, none, none, none] [.int y0, .long y1] s (zyE (some (.int r)) s') := by
  unfold zyF111_46 at h
  refine zy_40 rfl (show zyR _ _ _ _ [none, none, none, none] [.long (y0).toInt64, .long y1] _ _ from ?_)
  refine zy_44 rfl (show zyR _ _ _ _ [none, none, none, none] [.int (lg_cmp y1 (y0).toInt64)] _ _ from ?_)
  refine zy_24_1 rfl (fun b1 => (show zyR _ _ _ _ [none, none, none, none] [] _ _ from ?_)) (fun b1 => (show zyR _ _ _ _ [none, none, none, none] [] _ _ from ?_))
  · replace h := zy_ifp h b1
    refine zy_3 rfl rfl (show zyR _ _ _ _ [none, none, none, none] [.int (0 : Int32)] _ _ from ?_)
    cases h
    exact zy_4b rfl ⟨rfl, rfl⟩ (Or.inl rfl)
  · replace h := zy_ifn h b1
    refine zy_3 rfl rfl (show zyR _ _ _ _ [none, none, none, none] [.int (1 : Int32)] _ _ from ?_)
    refine zy_6 rfl (show zyR _ _ _ _ [none, none, none, none] [.int (1 : Int32)] _ _ from ?_)
    cases h
    exact zy_4b rfl ⟨rfl, rfl⟩ (Or.inr rfl)
noncomputable def zyF111   (x0 : Nat) (x1 : Int32) (x2 : Int32) (s : zy_S) : Option (Int32 × zy_S) :=
(zyF110 x0 x1 s).bind fun p2 =>
if p2.1 = (-1 : Int32) then
some ((0 : Int32), p2.2)
else
(zyF23 x0 ((2 : Int32) * x1) (2 : Int32) p2.2).bind fun p3 =>
if p3.1 ≠ 0 then
if zy_in (((2 : Int32) * x1) + (1 : Int32)) 60 then
if (p2.1 - p2.1 / (4 : Int32) * (4 : Int32)) ≠ x2 then
zyF111_46 (1 : Int32) (p3.2.2.1 (x0 + 1) ((((2 : Int32) * x1) + (1 : Int32))).toNatClampNeg) p3.2
else
zyF111_46 (0 : Int32) (p3.2.2.1 (x0 + 1) ((((2 : Int32) * x1) + (1 : Int32))).toNatClampNeg) p3.2
else none
else
some ((0 : Int32), p3.2)
theorem zyC111 {X : zx_X}     {x0 : Nat} {x1 : Int32} {x2 : Int32} {s : zy_S} {r : Int32} {s' : zy_S} (hs_x0 : zy_isSh x0) (h : zyF111 x0 x1 x2 s = some (r, s')) : zyR X 3 111 0 [some (.ref (x0 + 3)), some (.int x1), some (.int x2), none] [] s (zyE (some (.int r)) s') := by
  unfold zyF111 at h
  refine zy_0 rfl rfl (show zyR _ _ _ _ [some (.ref (x0 + 3)), some (.int x1), some (.int x2), none] [.ref (x0 + 3)] _ _ from ?_)
  refine zy_2 rfl rfl (show zyR _ _ _ _ [some (.ref (x0 + 3)), some (.int x1), some (.int x2), none] [.int x1, .ref (x0 + 3)] _ _ from ?_)
  obtain ⟨p2, hp2, h⟩ := zy_bind h
  refine zy_60 (as := [.ref (x0 + 3), .int x1]) (rest := []) (L := [some (.ref (x0 + 3)), some (.int x1), none]) (d' := 2) rfl rfl (Nat.le_of_ble_eq_true rfl) (Nat.le_of_ble_eq_true rfl) rfl (Nat.le_of_ble_eq_true rfl) rfl rfl (zyC110 hs_x0 hp2) ?_
  show zyR _ _ _ _ [some (.ref (x0 + 3)), some (.int x1), some (.int x2), none] [.int p2.1] _ _
  refine zy_23 rfl rfl (show zyR _ _ _ _ [some (.ref (x0 + 3)), some (.int x1), some (.int x2), some (.int p2.1)] [] _ _ from ?_)
  refine zy_2 rfl rfl (show zyR _ _ _ _ [some (.ref (x0 + 3)), some (.int x1), some (.int x2), some (.int p2.1)] [.int p2.1] _ _ from ?_)
  refine zy_3 rfl rfl (show zyR _ _ _ _ [some (.ref (x0 + 3)), some (.int x1), some (.int x2), some (.int p2.1)] [.int (-1 : Int32), .int p2.1] _ _ from ?_)
  refine zy_25_0 rfl (fun b7 => (show zyR _ _ _ _ [some (.ref (x0 + 3)), some (.int x1), some (.int x2), some (.int p2.1)] [] _ _ from ?_)) (fun b7 => (show zyR _ _ _ _ [some (.ref (x0 + 3)), some (.int x1), some (.int x2), some (.int p2.1)] [] _ _ from ?_))
  · replace h := zy_ifp h b7
    refine zy_3 rfl rfl (show zyR _ _ _ _ [some (.ref (x0 + 3)), some (.int x1), some (.int x2), some (.int p2.1)] [.int (0 : Int32)] _ _ from ?_)
    cases h
    exact zy_4b rfl ⟨rfl, rfl⟩ (Or.inl rfl)
  · replace h := zy_ifn h b7
    refine zy_0 rfl rfl (show zyR _ _ _ _ [some (.ref (x0 + 3)), some (.int x1), some (.int x2), some (.int p2.1)] [.ref (x0 + 3)] _ _ from ?_)
    refine zy_3 rfl rfl (show zyR _ _ _ _ [some (.ref (x0 + 3)), some (.int x1), some (.int x2), some (.int p2.1)] [.int (2 : Int32), .ref (x0 + 3)] _ _ from ?_)
    refine zy_2 rfl rfl (show zyR _ _ _ _ [some (.ref (x0 + 3)), some (.int x1), some (.int x2), some (.int p2.1)] [.int x1, .int (2 : Int32), .ref (x0 + 3)] _ _ from ?_)
    refine zy_12 rfl (show zyR _ _ _ _ [some (.ref (x0 + 3)), some (.int x1), some (.int x2), some (.int p2.1)] [.int ((2 : Int32) * x1), .ref (x0 + 3)] _ _ from ?_)
    refine zy_3 rfl rfl (show zyR _ _ _ _ [some (.ref (x0 + 3)), some (.int x1), some (.int x2), some (.int p2.1)] [.int (2 : Int32), .int ((2 : Int32) * x1), .ref (x0 + 3)] _ _ from ?_)
    obtain ⟨p3, hp3, h⟩ := zy_bind h
    refine zy_5 (c := x0) (as := [.int ((2 : Int32) * x1), .int (2 : Int32)]) (rest := []) (L := [some (.ref (x0 + 3)), some (.int ((2 : Int32) * x1)), some (.int (2 : Int32))]) (d' := 1) rfl rfl hs_x0.1 (Nat.le_of_ble_eq_true rfl) (Nat.le_of_ble_eq_true rfl) rfl (Nat.le_of_ble_eq_true rfl) rfl rfl (zyC23 hs_x0 hp3) ?_
    show zyR _ _ _ _ [some (.ref (x0 + 3)), some (.int x1), some (.int x2), some (.int p2.1)] [.int p3.1] _ _
    refine zy_24_1 rfl (fun b6 => (show zyR _ _ _ _ [some (.ref (x0 + 3)), some (.int x1), some (.int x2), some (.int p2.1)] [] _ _ from ?_)) (fun b6 => (show zyR _ _ _ _ [some (.ref (x0 + 3)), some (.int x1), some (.int x2), some (.int p2.1)] [] _ _ from ?_))
    · replace h := zy_ifp h b6
      refine zy_0 rfl rfl (show zyR _ _ _ _ [some (.ref (x0 + 3)), some (.int x1), some (.int x2), some (.int p2.1)] [.ref (x0 + 3)] _ _ from ?_)
      refine zy_1r (c := x0) rfl hs_x0.1 rfl (show zyR _ _ _ _ [some (.ref (x0 + 3)), some (.int x1), some (.int x2), some (.int p2.1)] [.ref (x0 + 1 + 3)] _ _ from ?_)
      refine zy_3 rfl rfl (show zyR _ _ _ _ [some (.ref (x0 + 3)), some (.int x1), some (.int x2), some (.int p2.1)] [.int (2 : Int32), .ref (x0 + 1 + 3)] _ _ from ?_)
      refine zy_2 rfl rfl (show zyR _ _ _ _ [some (.ref (x0 + 3)), some (.int x1), some (.int x2), some (.int p2.1)] [.int x1, .int (2 : Int32), .ref (x0 + 1 + 3)] _ _ from ?_)
      refine zy_12 rfl (show zyR _ _ _ _ [some (.ref (x0 + 3)), some (.int x1), some (.int x2), some (.int p2.1)] [.int ((2 : Int32) * x1), .ref (x0 + 1 + 3)] _ _ from ?_)
      refine zy_3 rfl rfl (show zyR _ _ _ _ [some (.ref (x0 + 3)), some (.int x1), some (.int x2), some (.int p2.1)] [.int (1 : Int32), .int ((2 : Int32) * x1), .ref (x0 + 1 + 3)] _ _ from ?_)
      refine zy_10 rfl (show zyR _ _ _ _ [some (.ref (x0 + 3)), some (.int x1), some (.int x2), some (.int p2.1)] [.int (((2 : Int32) * x1) + (1 : Int32)), .ref (x0 + 1 + 3)] _ _ from ?_)
      obtain ⟨c4, h⟩ := zy_if h
      refine zy_30 (c := (x0 + 1)) rfl hs_x0.2 c4 (show zyR _ _ _ _ [some (.ref (x0 + 3)), some (.int x1), some (.int x2), some (.int p2.1)] [.long (p3.2.2.1 (x0 + 1) ((((2 : Int32) * x1) + (1 : Int32))).toNatClampNeg)] _ _ from ?_)
      refine zy_2 rfl rfl (show zyR _ _ _ _ [some (.ref (x0 + 3)), some (.int x1), some (.int x2), some (.int p2.1)] [.int p2.1, .long (p3.2.2.1 (x0 + 1) ((((2 : Int32) * x1) + (1 : Int32))).toNatClampNeg)] _ _ from ?_)
      refine zy_3 rfl rfl (show zyR _ _ _ _ [some (.ref (x0 + 3)), some (.int x1), some (.int x2), some (.int p2.1)] [.int (4 : Int32), .int p2.1, .long (p3.2.2.1 (x0 + 1) ((((2 : Int32) * x1) + (1 : Int32))).toNatClampNeg)] _ _ from ?_)
      refine zy_20 rfl (by decide) (show zyR _ _ _ _ [some (.ref (x0 + 3)), some (.int x1), some (.int x2), some (.int p2.1)] [.int (p2.1 - p2.1 / (4 : Int32) * (4 : Int32)), .long (p3.2.2.1 (x0 + 1) ((((2 : Int32) * x1) + (1 : Int32))).toNatClampNeg)] _ _ from ?_)
      refine zy_2 rfl rfl (show zyR _ _ _ _ [some (.ref (x0 + 3)), some (.int x1), some (.int x2), some (.int p2.1)] [.int x2, .int (p2.1 - p2.1 / (4 : Int32) * (4 : Int32)), .long (p3.2.2.1 (x0 + 1) ((((2 : Int32) * x1) + (1 : Int32))).toNatClampNeg)] _ _ from ?_)
      refine zy_25_1 rfl (fun b5 => (show zyR _ _ _ _ [some (.ref (x0 + 3)), some (.int x1), some (.int x2), some (.int p2.1)] [.long (p3.2.2.1 (x0 + 1) ((((2 : Int32) * x1) + (1 : Int32))).toNatClampNeg)] _ _ from ?_)) (fun b5 => (show zyR _ _ _ _ [some (.ref (x0 + 3)), some (.int x1), some (.int x2), some (.int p2.1)] [.long (p3.2.2.1 (x0 + 1) ((((2 : Int32) * x1) + (1 : Int32))).toNatClampNeg)] _ _ from ?_))
      · replace h := zy_ifp h b5
        refine zy_3 rfl rfl (show zyR _ _ _ _ [some (.ref (x0 + 3)), some (.int x1), some (.int x2), some (.int p2.1)] [.int (1 : Int32), .long (p3.2.2.1 (x0 + 1) ((((2 : Int32) * x1) + (1 : Int32))).toNatClampNeg)] _ _ from ?_)
        exact zy_sub (show zy_le [none, none, none, none] [some (.ref (x0 + 3)), some (.int x1), some (.int x2), some (.int p2.1)] from trivial) (zyC111_46 h)
      · replace h := zy_ifn h b5
        refine zy_3 rfl rfl (show zyR _ _ _ _ [some (.ref (x0 + 3)), some (.int x1), some (.int x2), some (.int p2.1)] [.int (0 : Int32), .long (p3.2.2.1 (x0 + 1) ((((2 : Int32) * x1) + (1 : Int32))).toNatClampNeg)] _ _ from ?_)
        refine zy_6 rfl (show zyR _ _ _ _ [some (.ref (x0 + 3)), some (.int x1), some (.int x2), some (.int p2.1)] [.int (0 : Int32), .long (p3.2.2.1 (x0 + 1) ((((2 : Int32) * x1) + (1 : Int32))).toNatClampNeg)] _ _ from ?_)
        exact zy_sub (show zy_le [none, none, none, none] [some (.ref (x0 + 3)), some (.int x1), some (.int x2), some (.int p2.1)] from trivial) (zyC111_46 h)
    · replace h := zy_ifn h b6
      refine zy_3 rfl rfl (show zyR _ _ _ _ [some (.ref (x0 + 3)), some (.int x1), some (.int x2), some (.int p2.1)] [.int (0 : Int32)] _ _ from ?_)
      cases h
      exact zy_4b rfl ⟨rfl, rfl⟩ (Or.inl rfl)
/-! NineOpinions$Book.firstWrong(LNineOpinions$Shelf;I)I -/
noncomputable def zyF108_2b  (k2 : Nat → Int32 → Int32 → zy_S → Option (Int32 × zy_S)) (x0 : Nat) (x1 : Int32) (x2 : Int32) (s : zy_S) : Option (Int32 × zy_S) :=
(zyF109 x0 s).bind fun p1 =>
if p1.1 ≤ x2 then
some ((-2 : Int32), p1.2)
else
(zyF110 x0 x2 p1.2).bind fun p2 =>
if p2.1 = (-1 : Int32) then
some (x2, p2.2)
else
(zyF60 x1 (p2.1 / (4 : Int32)) p2.2).bind fun p3 =>
(zyF111 x0 x2 p3.1 p3.2).bind fun p4 =>
if p4.1 ≠ 0 then
k2 x0 x1 (x2 + (1 : Int32)) p4.2
else
some (x2, p4.2)
theorem zyC108_2b {X : zx_X}  {k2 : Nat → Int32 → Int32 → zy_S → Option (Int32 × zy_S)}  (hk2 : ∀ (x0 : Nat) (x1 : Int32) (x2 : Int32) (s : zy_S) (r : Int32) (s' : zy_S) (hs_x0 : zy_isSh x0), k2 x0 x1 x2 s = some (r, s') → zyR X 4 108 2 [some (.ref (x0 + 3)), some (.int x1), some (.int x2), none] [] s (zyE (some (.int r)) s')) {x0 : Nat} {x1 : Int32} {x2 : Int32} {s : zy_S} {r : Int32} {s' : zy_S} (hs_x0 : zy_isSh x0) (h : zyF108_2b k2 x0 x1 x2 s = some (r, s')) : zyR X 4 108 2 [some (.ref (x0 + 3)), some (.int x1), some (.int x2), none] [] s (zyE (some (.int r)) s') := by
  unfold zyF108_2b at h
  refine zy_2 rfl rfl (show zyR _ _ _ _ [some (.ref (x0 + 3)), some (.int x1), some (.int x2), none] [.int x2] _ _ from ?_)
  refine zy_0 rfl rfl (show zyR _ _ _ _ [some (.ref (x0 + 3)), some (.int x1), some (.int x2), none] [.ref (x0 + 3), .int x2] _ _ from ?_)
  obtain ⟨p1, hp1, h⟩ := zy_bind h
  refine zy_60 (as := [.ref (x0 + 3)]) (rest := [.int x2]) (L := [some (.ref (x0 + 3))]) (d' := 1) rfl rfl (Nat.le_of_ble_eq_true rfl) (Nat.le_of_ble_eq_true rfl) rfl (Nat.le_of_ble_eq_true rfl) rfl rfl (zyC109 hs_x0 hp1) ?_
  show zyR _ _ _ _ [some (.ref (x0 + 3)), some (.int x1), some (.int x2), none] [.int p1.1, .int x2] _ _
  refine zy_25_3 rfl (fun b7 => (show zyR _ _ _ _ [some (.ref (x0 + 3)), some (.int x1), some (.int x2), none] [] _ _ from ?_)) (fun b7 => (show zyR _ _ _ _ [some (.ref (x0 + 3)), some (.int x1), some (.int x2), none] [] _ _ from ?_))
  · replace h := zy_ifp h b7
    refine zy_3 rfl rfl (show zyR _ _ _ _ [some (.ref (x0 + 3)), some (.int x1), some (.int x2), none] [.int (-2 : Int32)] _ _ from ?_)
    cases h
    exact zy_4 rfl ⟨rfl, rfl⟩
  · replace h := zy_ifn h b7
    refine zy_0 rfl rfl (show zyR _ _ _ _ [some (.ref (x0 + 3)), some (.int x1), some (.int x2), none] [.ref (x0 + 3)] _ _ from ?_)
    refine zy_2 rfl rfl (show zyR _ _ _ _ [some (.ref (x0 + 3)), some (.int x1), some (.int x2), none] [.int x2, .ref (x0 + 3)] _ _ from ?_)
    obtain ⟨p2, hp2, h⟩ := zy_bind h
    refine zy_60 (as := [.ref (x0 + 3), .int x2]) (rest := []) (L := [some (.ref (x0 + 3)), some (.int x2), none]) (d' := 2) rfl rfl (Nat.le_of_ble_eq_true rfl) (Nat.le_of_ble_eq_true rfl) rfl (Nat.le_of_ble_eq_true rfl) rfl rfl (zyC110 hs_x0 hp2) ?_
    show zyR _ _ _ _ [some (.ref (x0 + 3)), some (.int x1), some (.int x2), none] [.int p2.1] _ _
    refine zy_23 rfl rfl (show zyR _ _ _ _ [some (.ref (x0 + 3)), some (.int x1), some (.int x2), some (.int p2.1)] [] _ _ from ?_)
    refine zy_2 rfl rfl (show zyR _ _ _ _ [some (.ref (x0 + 3)), some (.int x1), some (.int x2), some (.int p2.1)] [.int p2.1] _ _ from ?_)
    refine zy_3 rfl rfl (show zyR _ _ _ _ [some (.ref (x0 + 3)), some (.int x1), some (.int x2), some (.int p2.1)] [.int (-1 : Int32), .int p2.1] _ _ from ?_)
    refine zy_25_0 rfl (fun b6 => (show zyR _ _ _ _ [some (.ref (x0 + 3)), some (.int x1), some (.int x2), some (.int p2.1)] [] _ _ from ?_)) (fun b6 => (show zyR _ _ _ _ [some (.ref (x0 + 3)), some (.int x1), some (.int x2), some (.int p2.1)] [] _ _ from ?_))
    · replace h := zy_ifp h b6
      refine zy_2 rfl rfl (show zyR _ _ _ _ [some (.ref (x0 + 3)), some (.int x1), some (.int x2), some (.int p2.1)] [.int x2] _ _ from ?_)
      cases h
      exact zy_4 rfl ⟨rfl, rfl⟩
    · replace h := zy_ifn h b6
      refine zy_0 rfl rfl (show zyR _ _ _ _ [some (.ref (x0 + 3)), some (.int x1), some (.int x2), some (.int p2.1)] [.ref (x0 + 3)] _ _ from ?_)
      refine zy_2 rfl rfl (show zyR _ _ _ _ [some (.ref (x0 + 3)), some (.int x1), some (.int x2), some (.int p2.1)] [.int x2, .ref (x0 + 3)] _ _ from ?_)
      refine zy_2 rfl rfl (show zyR _ _ _ _ [some (.ref (x0 + 3)), some (.int x1), some (.int x2), some (.int p2.1)] [.int x1, .int x2, .ref (x0 + 3)] _ _ from ?_)
      refine zy_2 rfl rfl (show zyR _ _ _ _ [some (.ref (x0 + 3)), some (.int x1), some (.int x2), some (.int p2.1)] [.int p2.1, .int x1, .int x2, .ref (x0 + 3)] _ _ from ?_)
      refine zy_3 rfl rfl (show zyR _ _ _ _ [some (.ref (x0 + 3)), some (.int x1), some (.int x2), some (.int p2.1)] [.int (4 : Int32), .int p2.1, .int x1, .int x2, .ref (x0 + 3)] _ _ from ?_)
      refine zy_19 rfl (by decide) (show zyR _ _ _ _ [some (.ref (x0 + 3)), some (.int x1), some (.int x2), some (.int p2.1)] [.int (p2.1 / (4 : Int32)), .int x1, .int x2, .ref (x0 + 3)] _ _ from ?_)
      obtain ⟨p3, hp3, h⟩ := zy_bind h
      refine zy_61 (as := [.int x1, .int (p2.1 / (4 : Int32))]) (rest := [.int x2, .ref (x0 + 3)]) (L := [some (.int x1), some (.int (p2.1 / (4 : Int32)))]) (d' := 1) rfl rfl (Nat.le_of_ble_eq_true rfl) (Nat.le_of_ble_eq_true rfl) rfl (Nat.le_of_ble_eq_true rfl) rfl rfl (zyC60 hp3) ?_
      show zyR _ _ _ _ [some (.ref (x0 + 3)), some (.int x1), some (.int x2), some (.int p2.1)] [.int p3.1, .int x2, .ref (x0 + 3)] _ _
      obtain ⟨p4, hp4, h⟩ := zy_bind h
      refine zy_60 (as := [.ref (x0 + 3), .int x2, .int p3.1]) (rest := []) (L := [some (.ref (x0 + 3)), some (.int x2), some (.int p3.1), none]) (d' := 3) rfl rfl (Nat.le_of_ble_eq_true rfl) (Nat.le_of_ble_eq_true rfl) rfl (Nat.le_of_ble_eq_true rfl) rfl rfl (zyC111 hs_x0 hp4) ?_
      show zyR _ _ _ _ [some (.ref (x0 + 3)), some (.int x1), some (.int x2), some (.int p2.1)] [.int p4.1] _ _
      refine zy_24_1 rfl (fun b5 => (show zyR _ _ _ _ [some (.ref (x0 + 3)), some (.int x1), some (.int x2), some (.int p2.1)] [] _ _ from ?_)) (fun b5 => (show zyR _ _ _ _ [some (.ref (x0 + 3)), some (.int x1), some (.int x2), some (.int p2.1)] [] _ _ from ?_))
      · replace h := zy_ifp h b5
        refine zy_22 rfl rfl rfl rfl (show zyR _ _ _ _ [some (.ref (x0 + 3)), some (.int x1), some (.int (x2 + (1 : Int32))), some (.int p2.1)] [] _ _ from ?_)
        refine zy_6 rfl (show zyR _ _ _ _ [some (.ref (x0 + 3)), some (.int x1), some (.int (x2 + (1 : Int32))), some (.int p2.1)] [] _ _ from ?_)
        exact zy_sub (show zy_le [some (.ref (x0 + 3)), some (.int x1), some (.int (x2 + (1 : Int32))), none] [some (.ref (x0 + 3)), some (.int x1), some (.int (x2 + (1 : Int32))), some (.int p2.1)] from ⟨rfl, ⟨rfl, ⟨rfl, trivial⟩⟩⟩) (hk2 x0 x1 (x2 + (1 : Int32)) p4.2 _ _ hs_x0 h)
      · replace h := zy_ifn h b5
        refine zy_2 rfl rfl (show zyR _ _ _ _ [some (.ref (x0 + 3)), some (.int x1), some (.int x2), some (.int p2.1)] [.int x2] _ _ from ?_)
        cases h
        exact zy_4 rfl ⟨rfl, rfl⟩
noncomputable def zyF108_2   (n : Nat) : Nat → Int32 → Int32 → zy_S → Option (Int32 × zy_S) := Nat.rec (fun _ _ _ _ => none) (fun _ k2 => zyF108_2b k2) n
theorem zyC108_2 {X : zx_X}     : ∀ (n : Nat) (x0 : Nat) (x1 : Int32) (x2 : Int32) (s : zy_S) (r : Int32) (s' : zy_S) (hs_x0 : zy_isSh x0), zyF108_2 n x0 x1 x2 s = some (r, s') → zyR X 4 108 2 [some (.ref (x0 + 3)), some (.int x1), some (.int x2), none] [] s (zyE (some (.int r)) s')
  | 0, _, _, _ => by
    intro s r s' hs_x0 h
    have h : (none : Option (Int32 × zy_S)) = some (r, s') := h
    cases h
  | n + 1, x0, x1, x2 => by
    intro s r s' hs_x0 h
    exact zyC108_2b (k2 := zyF108_2 n) (fun x0 x1 x2 s r s' hs_x0 h => zyC108_2  n x0 x1 x2 s r s' hs_x0 h) hs_x0 h
noncomputable def zyF108   (x0 : Nat) (x1 : Int32) (s : zy_S) : Option (Int32 × zy_S) :=
zyF108_2 zy_fu x0 x1 (0 : Int32) s
theorem zyC108 {X : zx_X}     {x0 : Nat} {x1 : Int32} {s : zy_S} {r : Int32} {s' : zy_S} (hs_x0 : zy_isSh x0) (h : zyF108 x0 x1 s = some (r, s')) : zyR X 4 108 0 [some (.ref (x0 + 3)), some (.int x1), none, none] [] s (zyE (some (.int r)) s') := by
  unfold zyF108 at h
  refine zy_3 rfl rfl (show zyR _ _ _ _ [some (.ref (x0 + 3)), some (.int x1), none, none] [.int (0 : Int32)] _ _ from ?_)
  refine zy_23 rfl rfl (show zyR _ _ _ _ [some (.ref (x0 + 3)), some (.int x1), some (.int (0 : Int32)), none] [] _ _ from ?_)
  exact zy_sub (show zy_le [some (.ref (x0 + 3)), some (.int x1), some (.int (0 : Int32)), none] [some (.ref (x0 + 3)), some (.int x1), some (.int (0 : Int32)), none] from ⟨rfl, ⟨rfl, ⟨rfl, trivial⟩⟩⟩) (zyC108_2 zy_fu x0 x1 (0 : Int32) s _ _ hs_x0 h)
/-! NineOpinions.judge(II)I -/
noncomputable def zyF106   (x1 : Int32) (x2 : Int32) (s : zy_S) : Option (Int32 × zy_S) :=
(zyF18 x1 s).bind fun p1 =>
if p1.1 = 0 then
some ((-1 : Int32), p1.2)
else
(zyF25 (0 : Int32) x2 p1.2).bind fun p2 =>
if p2.1 ≠ 0 then
if zy_in x1 6 then
if zy_Wb p2.2 then
(zyF107 (zy_sh (x1).toNatClampNeg) (0 : Int32) p2.2).bind fun p5 =>
if p5.1 = 0 then
if zy_in x1 6 then
if zy_Wb p5.2 then
if zy_in x2 8 then
(zyF108 (zy_sh (x1).toNatClampNeg) (p5.2.1 3 (x2).toNatClampNeg) p5.2).bind fun p9 =>
some (p9.1, p9.2)
else none
else none
else none
else
some (p5.1, p5.2)
else none
else none
else
some ((-1 : Int32), p2.2)
theorem zyC106 {X : zx_X}     {x1 : Int32} {x2 : Int32} {s : zy_S} {r : Int32} {s' : zy_S}  (h : zyF106 x1 x2 s = some (r, s')) : zyR X 5 106 0 [some (.ref (0 + 3)), some (.int x1), some (.int x2), none] [] s (zyE (some (.int r)) s') := by
  unfold zyF106 at h
  refine zy_2 rfl rfl (show zyR _ _ _ _ [some (.ref (0 + 3)), some (.int x1), some (.int x2), none] [.int x1] _ _ from ?_)
  obtain ⟨p1, hp1, h⟩ := zy_bind h
  refine zy_60 (as := [.int x1]) (rest := []) (L := [some (.int x1)]) (d' := 1) rfl rfl (Nat.le_of_ble_eq_true rfl) (Nat.le_of_ble_eq_true rfl) rfl (Nat.le_of_ble_eq_true rfl) rfl rfl (zyC18 hp1) ?_
  show zyR _ _ _ _ [some (.ref (0 + 3)), some (.int x1), some (.int x2), none] [.int p1.1] _ _
  refine zy_24_0 rfl (fun b12 => (show zyR _ _ _ _ [some (.ref (0 + 3)), some (.int x1), some (.int x2), none] [] _ _ from ?_)) (fun b12 => (show zyR _ _ _ _ [some (.ref (0 + 3)), some (.int x1), some (.int x2), none] [] _ _ from ?_))
  · replace h := zy_ifp h b12
    refine zy_3 rfl rfl (show zyR _ _ _ _ [some (.ref (0 + 3)), some (.int x1), some (.int x2), none] [.int (-1 : Int32)] _ _ from ?_)
    cases h
    exact zy_4 rfl ⟨rfl, rfl⟩
  · replace h := zy_ifn h b12
    refine zy_0 rfl rfl (show zyR _ _ _ _ [some (.ref (0 + 3)), some (.int x1), some (.int x2), none] [.ref (0 + 3)] _ _ from ?_)
    refine zy_1r (c := 0) rfl rfl rfl (show zyR _ _ _ _ [some (.ref (0 + 3)), some (.int x1), some (.int x2), none] [.ref (1 + 3)] _ _ from ?_)
    refine zy_3 rfl rfl (show zyR _ _ _ _ [some (.ref (0 + 3)), some (.int x1), some (.int x2), none] [.int (0 : Int32), .ref (1 + 3)] _ _ from ?_)
    refine zy_2 rfl rfl (show zyR _ _ _ _ [some (.ref (0 + 3)), some (.int x1), some (.int x2), none] [.int x2, .int (0 : Int32), .ref (1 + 3)] _ _ from ?_)
    obtain ⟨p2, hp2, h⟩ := zy_bind h
    refine zy_5 (c := 1) (as := [.int (0 : Int32), .int x2]) (rest := []) (L := [some (.ref (1 + 3)), some (.int (0 : Int32)), some (.int x2)]) (d' := 2) rfl rfl rfl (Nat.le_of_ble_eq_true rfl) (Nat.le_of_ble_eq_true rfl) rfl (Nat.le_of_ble_eq_true rfl) rfl rfl (zyC25 hp2) ?_
    show zyR _ _ _ _ [some (.ref (0 + 3)), some (.int x1), some (.int x2), none] [.int p2.1] _ _
    refine zy_24_1 rfl (fun b11 => (show zyR _ _ _ _ [some (.ref (0 + 3)), some (.int x1), some (.int x2), none] [] _ _ from ?_)) (fun b11 => (show zyR _ _ _ _ [some (.ref (0 + 3)), some (.int x1), some (.int x2), none] [] _ _ from ?_))
    · replace h := zy_ifp h b11
      refine zy_0 rfl rfl (show zyR _ _ _ _ [some (.ref (0 + 3)), some (.int x1), some (.int x2), none] [.ref (0 + 3)] _ _ from ?_)
      refine zy_1r (c := 0) rfl rfl rfl (show zyR _ _ _ _ [some (.ref (0 + 3)), some (.int x1), some (.int x2), none] [.ref (30 + 3)] _ _ from ?_)
      refine zy_2 rfl rfl (show zyR _ _ _ _ [some (.ref (0 + 3)), some (.int x1), some (.int x2), none] [.int x1, .ref (30 + 3)] _ _ from ?_)
      obtain ⟨c3, h⟩ := zy_if h
      obtain ⟨c4, h⟩ := zy_if h
      refine zy_28 rfl (zy_Wb_g c4) c3 (show zyR _ _ _ _ [some (.ref (0 + 3)), some (.int x1), some (.int x2), none] [.ref ((zy_sh (x1).toNatClampNeg) + 3)] _ _ from ?_)
      refine zy_3 rfl rfl (show zyR _ _ _ _ [some (.ref (0 + 3)), some (.int x1), some (.int x2), none] [.int (0 : Int32), .ref ((zy_sh (x1).toNatClampNeg) + 3)] _ _ from ?_)
      obtain ⟨p5, hp5, h⟩ := zy_bind h
      refine zy_5 (c := (zy_sh (x1).toNatClampNeg)) (as := [.int (0 : Int32)]) (rest := []) (L := [some (.ref ((zy_sh (x1).toNatClampNeg) + 3)), some (.int (0 : Int32))]) (d' := 3) rfl rfl (zy_isSh_of (zy_in_lt c3)).1 (Nat.le_of_ble_eq_true rfl) (Nat.le_of_ble_eq_true rfl) rfl (Nat.le_of_ble_eq_true rfl) rfl rfl (zyC107 (zy_isSh_of (zy_in_lt c3)) hp5) ?_
      show zyR _ _ _ _ [some (.ref (0 + 3)), some (.int x1), some (.int x2), none] [.int p5.1] _ _
      refine zy_23 rfl rfl (show zyR _ _ _ _ [some (.ref (0 + 3)), some (.int x1), some (.int x2), some (.int p5.1)] [] _ _ from ?_)
      refine zy_2 rfl rfl (show zyR _ _ _ _ [some (.ref (0 + 3)), some (.int x1), some (.int x2), some (.int p5.1)] [.int p5.1] _ _ from ?_)
      refine zy_24_0 rfl (fun b10 => (show zyR _ _ _ _ [some (.ref (0 + 3)), some (.int x1), some (.int x2), some (.int p5.1)] [] _ _ from ?_)) (fun b10 => (show zyR _ _ _ _ [some (.ref (0 + 3)), some (.int x1), some (.int x2), some (.int p5.1)] [] _ _ from ?_))
      · replace h := zy_ifp h b10
        refine zy_0 rfl rfl (show zyR _ _ _ _ [some (.ref (0 + 3)), some (.int x1), some (.int x2), some (.int p5.1)] [.ref (0 + 3)] _ _ from ?_)
        refine zy_1r (c := 0) rfl rfl rfl (show zyR _ _ _ _ [some (.ref (0 + 3)), some (.int x1), some (.int x2), some (.int p5.1)] [.ref (30 + 3)] _ _ from ?_)
        refine zy_2 rfl rfl (show zyR _ _ _ _ [some (.ref (0 + 3)), some (.int x1), some (.int x2), some (.int p5.1)] [.int x1, .ref (30 + 3)] _ _ from ?_)
        obtain ⟨c6, h⟩ := zy_if h
        obtain ⟨c7, h⟩ := zy_if h
        refine zy_28 rfl (zy_Wb_g c7) c6 (show zyR _ _ _ _ [some (.ref (0 + 3)), some (.int x1), some (.int x2), some (.int p5.1)] [.ref ((zy_sh (x1).toNatClampNeg) + 3)] _ _ from ?_)
        refine zy_0 rfl rfl (show zyR _ _ _ _ [some (.ref (0 + 3)), some (.int x1), some (.int x2), some (.int p5.1)] [.ref (0 + 3), .ref ((zy_sh (x1).toNatClampNeg) + 3)] _ _ from ?_)
        refine zy_1r (c := 0) rfl rfl rfl (show zyR _ _ _ _ [some (.ref (0 + 3)), some (.int x1), some (.int x2), some (.int p5.1)] [.ref (1 + 3), .ref ((zy_sh (x1).toNatClampNeg) + 3)] _ _ from ?_)
        refine zy_1r (c := 1) rfl rfl rfl (show zyR _ _ _ _ [some (.ref (0 + 3)), some (.int x1), some (.int x2), some (.int p5.1)] [.ref (3 + 3), .ref ((zy_sh (x1).toNatClampNeg) + 3)] _ _ from ?_)
        refine zy_2 rfl rfl (show zyR _ _ _ _ [some (.ref (0 + 3)), some (.int x1), some (.int x2), some (.int p5.1)] [.int x2, .ref (3 + 3), .ref ((zy_sh (x1).toNatClampNeg) + 3)] _ _ from ?_)
        obtain ⟨c8, h⟩ := zy_if h
        refine zy_26 (c := 3) rfl rfl c8 (show zyR _ _ _ _ [some (.ref (0 + 3)), some (.int x1), some (.int x2), some (.int p5.1)] [.int (p5.2.1 3 (x2).toNatClampNeg), .ref ((zy_sh (x1).toNatClampNeg) + 3)] _ _ from ?_)
        obtain ⟨p9, hp9, h⟩ := zy_bind h
        refine zy_60 (as := [.ref ((zy_sh (x1).toNatClampNeg) + 3), .int (p5.2.1 3 (x2).toNatClampNeg)]) (rest := []) (L := [some (.ref ((zy_sh (x1).toNatClampNeg) + 3)), some (.int (p5.2.1 3 (x2).toNatClampNeg)), none, none]) (d' := 4) rfl rfl (Nat.le_of_ble_eq_true rfl) (Nat.le_of_ble_eq_true rfl) rfl (Nat.le_of_ble_eq_true rfl) rfl rfl (zyC108 (zy_isSh_of (zy_in_lt c6)) hp9) ?_
        show zyR _ _ _ _ [some (.ref (0 + 3)), some (.int x1), some (.int x2), some (.int p5.1)] [.int p9.1] _ _
        cases h
        exact zy_4 rfl ⟨rfl, rfl⟩
      · replace h := zy_ifn h b10
        refine zy_2 rfl rfl (show zyR _ _ _ _ [some (.ref (0 + 3)), some (.int x1), some (.int x2), some (.int p5.1)] [.int p5.1] _ _ from ?_)
        refine zy_6 rfl (show zyR _ _ _ _ [some (.ref (0 + 3)), some (.int x1), some (.int x2), some (.int p5.1)] [.int p5.1] _ _ from ?_)
        cases h
        exact zy_4 rfl ⟨rfl, rfl⟩
    · replace h := zy_ifn h b11
      refine zy_3 rfl rfl (show zyR _ _ _ _ [some (.ref (0 + 3)), some (.int x1), some (.int x2), none] [.int (-1 : Int32)] _ _ from ?_)
      cases h
      exact zy_4 rfl ⟨rfl, rfl⟩
/-! NineOpinionsModel.bytesIs(I)I -/
noncomputable def zyF229   (x1 : Int32) (s : zy_S) : Option (Int32 × zy_S) :=
(zyF182 x1 s).bind fun p1 =>
if p1.1 ≠ 0 then
if zy_in x1 6 then
if 0 ≤ (p1.2.1 60 (x1).toNatClampNeg) then
if zy_in x1 6 then
if (p1.2.1 60 (x1).toNatClampNeg) ≠ (50 : Int32) then
some ((-12 : Int32), p1.2)
else
some ((1 : Int32), p1.2)
else none
else
some ((-11 : Int32), p1.2)
else none
else
some ((-1 : Int32), p1.2)
theorem zyC229 {X : zx_X}     {x1 : Int32} {s : zy_S} {r : Int32} {s' : zy_S}  (h : zyF229 x1 s = some (r, s')) : zyR X 3 229 0 [some (.ref (43 + 3)), some (.int x1)] [] s (zyE (some (.int r)) s') := by
  unfold zyF229 at h
  refine zy_2 rfl rfl (show zyR _ _ _ _ [some (.ref (43 + 3)), some (.int x1)] [.int x1] _ _ from ?_)
  obtain ⟨p1, hp1, h⟩ := zy_bind h
  refine zy_60 (as := [.int x1]) (rest := []) (L := [some (.int x1)]) (d' := 2) rfl rfl (Nat.le_of_ble_eq_true rfl) (Nat.le_of_ble_eq_true rfl) rfl (Nat.le_of_ble_eq_true rfl) rfl rfl (zyC182 hp1) ?_
  show zyR _ _ _ _ [some (.ref (43 + 3)), some (.int x1)] [.int p1.1] _ _
  refine zy_24_1 rfl (fun b6 => (show zyR _ _ _ _ [some (.ref (43 + 3)), some (.int x1)] [] _ _ from ?_)) (fun b6 => (show zyR _ _ _ _ [some (.ref (43 + 3)), some (.int x1)] [] _ _ from ?_))
  · replace h := zy_ifp h b6
    refine zy_0 rfl rfl (show zyR _ _ _ _ [some (.ref (43 + 3)), some (.int x1)] [.ref (43 + 3)] _ _ from ?_)
    refine zy_1r (c := 43) rfl rfl rfl (show zyR _ _ _ _ [some (.ref (43 + 3)), some (.int x1)] [.ref (60 + 3)] _ _ from ?_)
    refine zy_2 rfl rfl (show zyR _ _ _ _ [some (.ref (43 + 3)), some (.int x1)] [.int x1, .ref (60 + 3)] _ _ from ?_)
    obtain ⟨c2, h⟩ := zy_if h
    refine zy_26 (c := 60) rfl rfl c2 (show zyR _ _ _ _ [some (.ref (43 + 3)), some (.int x1)] [.int (p1.2.1 60 (x1).toNatClampNeg)] _ _ from ?_)
    refine zy_24_3 rfl (fun b5 => (show zyR _ _ _ _ [some (.ref (43 + 3)), some (.int x1)] [] _ _ from ?_)) (fun b5 => (show zyR _ _ _ _ [some (.ref (43 + 3)), some (.int x1)] [] _ _ from ?_))
    · replace h := zy_ifp h b5
      refine zy_0 rfl rfl (show zyR _ _ _ _ [some (.ref (43 + 3)), some (.int x1)] [.ref (43 + 3)] _ _ from ?_)
      refine zy_1r (c := 43) rfl rfl rfl (show zyR _ _ _ _ [some (.ref (43 + 3)), some (.int x1)] [.ref (60 + 3)] _ _ from ?_)
      refine zy_2 rfl rfl (show zyR _ _ _ _ [some (.ref (43 + 3)), some (.int x1)] [.int x1, .ref (60 + 3)] _ _ from ?_)
      obtain ⟨c3, h⟩ := zy_if h
      refine zy_26 (c := 60) rfl rfl c3 (show zyR _ _ _ _ [some (.ref (43 + 3)), some (.int x1)] [.int (p1.2.1 60 (x1).toNatClampNeg)] _ _ from ?_)
      refine zy_3 rfl rfl (show zyR _ _ _ _ [some (.ref (43 + 3)), some (.int x1)] [.int (50 : Int32), .int (p1.2.1 60 (x1).toNatClampNeg)] _ _ from ?_)
      refine zy_25_1 rfl (fun b4 => (show zyR _ _ _ _ [some (.ref (43 + 3)), some (.int x1)] [] _ _ from ?_)) (fun b4 => (show zyR _ _ _ _ [some (.ref (43 + 3)), some (.int x1)] [] _ _ from ?_))
      · replace h := zy_ifp h b4
        refine zy_3 rfl rfl (show zyR _ _ _ _ [some (.ref (43 + 3)), some (.int x1)] [.int (-12 : Int32)] _ _ from ?_)
        cases h
        exact zy_4 rfl ⟨rfl, rfl⟩
      · replace h := zy_ifn h b4
        refine zy_3 rfl rfl (show zyR _ _ _ _ [some (.ref (43 + 3)), some (.int x1)] [.int (1 : Int32)] _ _ from ?_)
        refine zy_6 rfl (show zyR _ _ _ _ [some (.ref (43 + 3)), some (.int x1)] [.int (1 : Int32)] _ _ from ?_)
        cases h
        exact zy_4 rfl ⟨rfl, rfl⟩
    · replace h := zy_ifn h b5
      refine zy_3 rfl rfl (show zyR _ _ _ _ [some (.ref (43 + 3)), some (.int x1)] [.int (-11 : Int32)] _ _ from ?_)
      refine zy_6 rfl (show zyR _ _ _ _ [some (.ref (43 + 3)), some (.int x1)] [.int (-11 : Int32)] _ _ from ?_)
      cases h
      exact zy_4 rfl ⟨rfl, rfl⟩
  · replace h := zy_ifn h b6
    refine zy_3 rfl rfl (show zyR _ _ _ _ [some (.ref (43 + 3)), some (.int x1)] [.int (-1 : Int32)] _ _ from ?_)
    refine zy_6 rfl (show zyR _ _ _ _ [some (.ref (43 + 3)), some (.int x1)] [.int (-1 : Int32)] _ _ from ?_)
    cases h
    exact zy_4 rfl ⟨rfl, rfl⟩
/-! NineOpinionsModel.firstFalse(II)I -/
noncomputable def zyF230_92  (k2 : Int32 → Int32 → Int32 → zy_S → Option (Int32 × zy_S)) (x1 : Int32) (x2 : Int32) (x3 : Int32) (y0 : Int64) (y1 : Int64) (s : zy_S) : Option (Int32 × zy_S) :=
if (lg_cmp y1 y0) = 0 then
k2 x1 x2 (x3 + (1 : Int32)) s
else
some (x3, s)
theorem zyC230_92 {X : zx_X}  {k2 : Int32 → Int32 → Int32 → zy_S → Option (Int32 × zy_S)}  (hk2 : ∀ (x1 : Int32) (x2 : Int32) (x3 : Int32) (s : zy_S) (r : Int32) (s' : zy_S), k2 x1 x2 x3 s = some (r, s') → zyR X 3 230 2 [some (.ref (43 + 3)), some (.int x1), some (.int x2), some (.int x3), none, none] [] s (zyE (some (.int r)) s')) {x1 : Int32} {x2 : Int32} {x3 : Int32} {y0 : Int64} {y1 : Int64} {s : zy_S} {r : Int32} {s' : zy_S}  (h : zyF230_92 k2 x1 x2 x3 y0 y1 s = some (r, s')) : zyR X 3 230 92 [some (.ref (43 + 3)), some (.int x1), some (.int x2), some (.int x3), none, none] [.long y0, .long y1] s (zyE (some (.int r)) s') := by
  unfold zyF230_92 at h
  refine zy_44 rfl (show zyR _ _ _ _ [some (.ref (43 + 3)), some (.int x1), some (.int x2), some (.int x3), none, none] [.int (lg_cmp y1 y0)] _ _ from ?_)
  refine zy_24_0 rfl (fun b1 => (show zyR _ _ _ _ [some (.ref (43 + 3)), some (.int x1), some (.int x2), some (.int x3), none, none] [] _ _ from ?_)) (fun b1 => (show zyR _ _ _ _ [some (.ref (43 + 3)), some (.int x1), some (.int x2), some (.int x3), none, none] [] _ _ from ?_))
  · replace h := zy_ifp h b1
    refine zy_22 rfl rfl rfl rfl (show zyR _ _ _ _ [some (.ref (43 + 3)), some (.int x1), some (.int x2), some (.int (x3 + (1 : Int32))), none, none] [] _ _ from ?_)
    refine zy_6 rfl (show zyR _ _ _ _ [some (.ref (43 + 3)), some (.int x1), some (.int x2), some (.int (x3 + (1 : Int32))), none, none] [] _ _ from ?_)
    exact zy_sub (show zy_le [some (.ref (43 + 3)), some (.int x1), some (.int x2), some (.int (x3 + (1 : Int32))), none, none] [some (.ref (43 + 3)), some (.int x1), some (.int x2), some (.int (x3 + (1 : Int32))), none, none] from ⟨rfl, ⟨rfl, ⟨rfl, ⟨rfl, trivial⟩⟩⟩⟩) (hk2 x1 x2 (x3 + (1 : Int32)) s _ _ h)
  · replace h := zy_ifn h b1
    refine zy_2 rfl rfl (show zyR _ _ _ _ [some (.ref (43 + 3)), some (.int x1), some (.int x2), some (.int x3), none, none] [.int x3] _ _ from ?_)
    cases h
    exact zy_4 rfl ⟨rfl, rfl⟩
noncomputable def zyF230_2b  (k2 : Int32 → Int32 → Int32 → zy_S → Option (Int32 × zy_S)) (x1 : Int32) (x2 : Int32) (x3 : Int32) (s : zy_S) : Option (Int32 × zy_S) :=
if zy_in x1 6 then
if (s.1 61 (x1).toNatClampNeg) ≤ ((2 : Int32) * x3) then
some ((-2 : Int32), s)
else
if zy_in x1 6 then
if (s.1 61 (x1).toNatClampNeg) ≤ (((2 : Int32) * x3) + (1 : Int32)) then
some (x3, s)
else
if zy_in (((60 : Int32) * x1) + ((2 : Int32) * x3)) 360 then
(zyF186 (s.2.1 62 ((((60 : Int32) * x1) + ((2 : Int32) * x3))).toNatClampNeg) s).bind fun p5 =>
if p5.1 ≠ 0 then
if zy_in (((60 : Int32) * x1) + ((2 : Int32) * x3)) 360 then
if zy_in ((((60 : Int32) * x1) + ((2 : Int32) * x3)) + (1 : Int32)) 360 then
(zyF206 x2 (((p5.2.2.1 62 ((((60 : Int32) * x1) + ((2 : Int32) * x3))).toNatClampNeg)).toInt32 / (4 : Int32)) p5.2).bind fun p8 =>
if p8.1 ≠ (((p5.2.2.1 62 ((((60 : Int32) * x1) + ((2 : Int32) * x3))).toNatClampNeg)).toInt32 - ((p5.2.2.1 62 ((((60 : Int32) * x1) + ((2 : Int32) * x3))).toNatClampNeg)).toInt32 / (4 : Int32) * (4 : Int32)) then
zyF230_92 k2 x1 x2 x3 (1 : Int64) (p5.2.2.1 62 (((((60 : Int32) * x1) + ((2 : Int32) * x3)) + (1 : Int32))).toNatClampNeg) p8.2
else
zyF230_92 k2 x1 x2 x3 (0 : Int64) (p5.2.2.1 62 (((((60 : Int32) * x1) + ((2 : Int32) * x3)) + (1 : Int32))).toNatClampNeg) p8.2
else none
else none
else
some (x3, p5.2)
else none
else none
else none
theorem zyC230_2b {X : zx_X}  {k2 : Int32 → Int32 → Int32 → zy_S → Option (Int32 × zy_S)}  (hk2 : ∀ (x1 : Int32) (x2 : Int32) (x3 : Int32) (s : zy_S) (r : Int32) (s' : zy_S), k2 x1 x2 x3 s = some (r, s') → zyR X 3 230 2 [some (.ref (43 + 3)), some (.int x1), some (.int x2), some (.int x3), none, none] [] s (zyE (some (.int r)) s')) {x1 : Int32} {x2 : Int32} {x3 : Int32} {s : zy_S} {r : Int32} {s' : zy_S}  (h : zyF230_2b k2 x1 x2 x3 s = some (r, s')) : zyR X 3 230 2 [some (.ref (43 + 3)), some (.int x1), some (.int x2), some (.int x3), none, none] [] s (zyE (some (.int r)) s') := by
  unfold zyF230_2b at h
  refine zy_3 rfl rfl (show zyR _ _ _ _ [some (.ref (43 + 3)), some (.int x1), some (.int x2), some (.int x3), none, none] [.int (2 : Int32)] _ _ from ?_)
  refine zy_2 rfl rfl (show zyR _ _ _ _ [some (.ref (43 + 3)), some (.int x1), some (.int x2), some (.int x3), none, none] [.int x3, .int (2 : Int32)] _ _ from ?_)
  refine zy_12 rfl (show zyR _ _ _ _ [some (.ref (43 + 3)), some (.int x1), some (.int x2), some (.int x3), none, none] [.int ((2 : Int32) * x3)] _ _ from ?_)
  refine zy_0 rfl rfl (show zyR _ _ _ _ [some (.ref (43 + 3)), some (.int x1), some (.int x2), some (.int x3), none, none] [.ref (43 + 3), .int ((2 : Int32) * x3)] _ _ from ?_)
  refine zy_1r (c := 43) rfl rfl rfl (show zyR _ _ _ _ [some (.ref (43 + 3)), some (.int x1), some (.int x2), some (.int x3), none, none] [.ref (61 + 3), .int ((2 : Int32) * x3)] _ _ from ?_)
  refine zy_2 rfl rfl (show zyR _ _ _ _ [some (.ref (43 + 3)), some (.int x1), some (.int x2), some (.int x3), none, none] [.int x1, .ref (61 + 3), .int ((2 : Int32) * x3)] _ _ from ?_)
  obtain ⟨c2, h⟩ := zy_if h
  refine zy_26 (c := 61) rfl rfl c2 (show zyR _ _ _ _ [some (.ref (43 + 3)), some (.int x1), some (.int x2), some (.int x3), none, none] [.int (s.1 61 (x1).toNatClampNeg), .int ((2 : Int32) * x3)] _ _ from ?_)
  refine zy_25_3 rfl (fun b12 => (show zyR _ _ _ _ [some (.ref (43 + 3)), some (.int x1), some (.int x2), some (.int x3), none, none] [] _ _ from ?_)) (fun b12 => (show zyR _ _ _ _ [some (.ref (43 + 3)), some (.int x1), some (.int x2), some (.int x3), none, none] [] _ _ from ?_))
  · replace h := zy_ifp h b12
    refine zy_3 rfl rfl (show zyR _ _ _ _ [some (.ref (43 + 3)), some (.int x1), some (.int x2), some (.int x3), none, none] [.int (-2 : Int32)] _ _ from ?_)
    cases h
    exact zy_4 rfl ⟨rfl, rfl⟩
  · replace h := zy_ifn h b12
    refine zy_3 rfl rfl (show zyR _ _ _ _ [some (.ref (43 + 3)), some (.int x1), some (.int x2), some (.int x3), none, none] [.int (60 : Int32)] _ _ from ?_)
    refine zy_2 rfl rfl (show zyR _ _ _ _ [some (.ref (43 + 3)), some (.int x1), some (.int x2), some (.int x3), none, none] [.int x1, .int (60 : Int32)] _ _ from ?_)
    refine zy_12 rfl (show zyR _ _ _ _ [some (.ref (43 + 3)), some (.int x1), some (.int x2), some (.int x3), none, none] [.int ((60 : Int32) * x1)] _ _ from ?_)
    refine zy_3 rfl rfl (show zyR _ _ _ _ [some (.ref (43 + 3)), some (.int x1), some (.int x2), some (.int x3), none, none] [.int (2 : Int32), .int ((60 : Int32) * x1)] _ _ from ?_)
    refine zy_2 rfl rfl (show zyR _ _ _ _ [some (.ref (43 + 3)), some (.int x1), some (.int x2), some (.int x3), none, none] [.int x3, .int (2 : Int32), .int ((60 : Int32) * x1)] _ _ from ?_)
    refine zy_12 rfl (show zyR _ _ _ _ [some (.ref (43 + 3)), some (.int x1), some (.int x2), some (.int x3), none, none] [.int ((2 : Int32) * x3), .int ((60 : Int32) * x1)] _ _ from ?_)
    refine zy_10 rfl (show zyR _ _ _ _ [some (.ref (43 + 3)), some (.int x1), some (.int x2), some (.int x3), none, none] [.int (((60 : Int32) * x1) + ((2 : Int32) * x3))] _ _ from ?_)
    refine zy_23 rfl rfl (show zyR _ _ _ _ [some (.ref (43 + 3)), some (.int x1), some (.int x2), some (.int x3), some (.int (((60 : Int32) * x1) + ((2 : Int32) * x3))), none] [] _ _ from ?_)
    refine zy_3 rfl rfl (show zyR _ _ _ _ [some (.ref (43 + 3)), some (.int x1), some (.int x2), some (.int x3), some (.int (((60 : Int32) * x1) + ((2 : Int32) * x3))), none] [.int (2 : Int32)] _ _ from ?_)
    refine zy_2 rfl rfl (show zyR _ _ _ _ [some (.ref (43 + 3)), some (.int x1), some (.int x2), some (.int x3), some (.int (((60 : Int32) * x1) + ((2 : Int32) * x3))), none] [.int x3, .int (2 : Int32)] _ _ from ?_)
    refine zy_12 rfl (show zyR _ _ _ _ [some (.ref (43 + 3)), some (.int x1), some (.int x2), some (.int x3), some (.int (((60 : Int32) * x1) + ((2 : Int32) * x3))), none] [.int ((2 : Int32) * x3)] _ _ from ?_)
    refine zy_3 rfl rfl (show zyR _ _ _ _ [some (.ref (43 + 3)), some (.int x1), some (.int x2), some (.int x3), some (.int (((60 : Int32) * x1) + ((2 : Int32) * x3))), none] [.int (1 : Int32), .int ((2 : Int32) * x3)] _ _ from ?_)
    refine zy_10 rfl (show zyR _ _ _ _ [some (.ref (43 + 3)), some (.int x1), some (.int x2), some (.int x3), some (.int (((60 : Int32) * x1) + ((2 : Int32) * x3))), none] [.int (((2 : Int32) * x3) + (1 : Int32))] _ _ from ?_)
    refine zy_0 rfl rfl (show zyR _ _ _ _ [some (.ref (43 + 3)), some (.int x1), some (.int x2), some (.int x3), some (.int (((60 : Int32) * x1) + ((2 : Int32) * x3))), none] [.ref (43 + 3), .int (((2 : Int32) * x3) + (1 : Int32))] _ _ from ?_)
    refine zy_1r (c := 43) rfl rfl rfl (show zyR _ _ _ _ [some (.ref (43 + 3)), some (.int x1), some (.int x2), some (.int x3), some (.int (((60 : Int32) * x1) + ((2 : Int32) * x3))), none] [.ref (61 + 3), .int (((2 : Int32) * x3) + (1 : Int32))] _ _ from ?_)
    refine zy_2 rfl rfl (show zyR _ _ _ _ [some (.ref (43 + 3)), some (.int x1), some (.int x2), some (.int x3), some (.int (((60 : Int32) * x1) + ((2 : Int32) * x3))), none] [.int x1, .ref (61 + 3), .int (((2 : Int32) * x3) + (1 : Int32))] _ _ from ?_)
    obtain ⟨c3, h⟩ := zy_if h
    refine zy_26 (c := 61) rfl rfl c3 (show zyR _ _ _ _ [some (.ref (43 + 3)), some (.int x1), some (.int x2), some (.int x3), some (.int (((60 : Int32) * x1) + ((2 : Int32) * x3))), none] [.int (s.1 61 (x1).toNatClampNeg), .int (((2 : Int32) * x3) + (1 : Int32))] _ _ from ?_)
    refine zy_25_3 rfl (fun b11 => (show zyR _ _ _ _ [some (.ref (43 + 3)), some (.int x1), some (.int x2), some (.int x3), some (.int (((60 : Int32) * x1) + ((2 : Int32) * x3))), none] [] _ _ from ?_)) (fun b11 => (show zyR _ _ _ _ [some (.ref (43 + 3)), some (.int x1), some (.int x2), some (.int x3), some (.int (((60 : Int32) * x1) + ((2 : Int32) * x3))), none] [] _ _ from ?_))
    · replace h := zy_ifp h b11
      refine zy_2 rfl rfl (show zyR _ _ _ _ [some (.ref (43 + 3)), some (.int x1), some (.int x2), some (.int x3), some (.int (((60 : Int32) * x1) + ((2 : Int32) * x3))), none] [.int x3] _ _ from ?_)
      cases h
      exact zy_4 rfl ⟨rfl, rfl⟩
    · replace h := zy_ifn h b11
      refine zy_0 rfl rfl (show zyR _ _ _ _ [some (.ref (43 + 3)), some (.int x1), some (.int x2), some (.int x3), some (.int (((60 : Int32) * x1) + ((2 : Int32) * x3))), none] [.ref (43 + 3)] _ _ from ?_)
      refine zy_1r (c := 43) rfl rfl rfl (show zyR _ _ _ _ [some (.ref (43 + 3)), some (.int x1), some (.int x2), some (.int x3), some (.int (((60 : Int32) * x1) + ((2 : Int32) * x3))), none] [.ref (62 + 3)] _ _ from ?_)
      refine zy_2 rfl rfl (show zyR _ _ _ _ [some (.ref (43 + 3)), some (.int x1), some (.int x2), some (.int x3), some (.int (((60 : Int32) * x1) + ((2 : Int32) * x3))), none] [.int (((60 : Int32) * x1) + ((2 : Int32) * x3)), .ref (62 + 3)] _ _ from ?_)
      obtain ⟨c4, h⟩ := zy_if h
      refine zy_30 (c := 62) rfl rfl c4 (show zyR _ _ _ _ [some (.ref (43 + 3)), some (.int x1), some (.int x2), some (.int x3), some (.int (((60 : Int32) * x1) + ((2 : Int32) * x3))), none] [.long (s.2.1 62 ((((60 : Int32) * x1) + ((2 : Int32) * x3))).toNatClampNeg)] _ _ from ?_)
      obtain ⟨p5, hp5, h⟩ := zy_bind h
      refine zy_60 (as := [.long (s.2.1 62 ((((60 : Int32) * x1) + ((2 : Int32) * x3))).toNatClampNeg)]) (rest := []) (L := [some (.long (s.2.1 62 ((((60 : Int32) * x1) + ((2 : Int32) * x3))).toNatClampNeg)), none]) (d' := 2) rfl rfl (Nat.le_of_ble_eq_true rfl) (Nat.le_of_ble_eq_true rfl) rfl (Nat.le_of_ble_eq_true rfl) rfl rfl (zyC186 hp5) ?_
      show zyR _ _ _ _ [some (.ref (43 + 3)), some (.int x1), some (.int x2), some (.int x3), some (.int (((60 : Int32) * x1) + ((2 : Int32) * x3))), none] [.int p5.1] _ _
      refine zy_24_1 rfl (fun b10 => (show zyR _ _ _ _ [some (.ref (43 + 3)), some (.int x1), some (.int x2), some (.int x3), some (.int (((60 : Int32) * x1) + ((2 : Int32) * x3))), none] [] _ _ from ?_)) (fun b10 => (show zyR _ _ _ _ [some (.ref (43 + 3)), some (.int x1), some (.int x2), some (.int x3), some (.int (((60 : Int32) * x1) + ((2 : Int32) * x3))), none] [] _ _ from ?_))
      · replace h := zy_ifp h b10
        refine zy_0 rfl rfl (show zyR _ _ _ _ [some (.ref (43 + 3)), some (.int x1), some (.int x2), some (.int x3), some (.int (((60 : Int32) * x1) + ((2 : Int32) * x3))), none] [.ref (43 + 3)] _ _ from ?_)
        refine zy_1r (c := 43) rfl rfl rfl (show zyR _ _ _ _ [some (.ref (43 + 3)), some (.int x1), some (.int x2), some (.int x3), some (.int (((60 : Int32) * x1) + ((2 : Int32) * x3))), none] [.ref (62 + 3)] _ _ from ?_)
        refine zy_2 rfl rfl (show zyR _ _ _ _ [some (.ref (43 + 3)), some (.int x1), some (.int x2), some (.int x3), some (.int (((60 : Int32) * x1) + ((2 : Int32) * x3))), none] [.int (((60 : Int32) * x1) + ((2 : Int32) * x3)), .ref (62 + 3)] _ _ from ?_)
        obtain ⟨c6, h⟩ := zy_if h
        refine zy_30 (c := 62) rfl rfl c6 (show zyR _ _ _ _ [some (.ref (43 + 3)), some (.int x1), some (.int x2), some (.int x3), some (.int (((60 : Int32) * x1) + ((2 : Int32) * x3))), none] [.long (p5.2.2.1 62 ((((60 : Int32) * x1) + ((2 : Int32) * x3))).toNatClampNeg)] _ _ from ?_)
        refine zy_41 rfl (show zyR _ _ _ _ [some (.ref (43 + 3)), some (.int x1), some (.int x2), some (.int x3), some (.int (((60 : Int32) * x1) + ((2 : Int32) * x3))), none] [.int ((p5.2.2.1 62 ((((60 : Int32) * x1) + ((2 : Int32) * x3))).toNatClampNeg)).toInt32] _ _ from ?_)
        refine zy_23 rfl rfl (show zyR _ _ _ _ [some (.ref (43 + 3)), some (.int x1), some (.int x2), some (.int x3), some (.int (((60 : Int32) * x1) + ((2 : Int32) * x3))), some (.int ((p5.2.2.1 62 ((((60 : Int32) * x1) + ((2 : Int32) * x3))).toNatClampNeg)).toInt32)] [] _ _ from ?_)
        refine zy_0 rfl rfl (show zyR _ _ _ _ [some (.ref (43 + 3)), some (.int x1), some (.int x2), some (.int x3), some (.int (((60 : Int32) * x1) + ((2 : Int32) * x3))), some (.int ((p5.2.2.1 62 ((((60 : Int32) * x1) + ((2 : Int32) * x3))).toNatClampNeg)).toInt32)] [.ref (43 + 3)] _ _ from ?_)
        refine zy_1r (c := 43) rfl rfl rfl (show zyR _ _ _ _ [some (.ref (43 + 3)), some (.int x1), some (.int x2), some (.int x3), some (.int (((60 : Int32) * x1) + ((2 : Int32) * x3))), some (.int ((p5.2.2.1 62 ((((60 : Int32) * x1) + ((2 : Int32) * x3))).toNatClampNeg)).toInt32)] [.ref (62 + 3)] _ _ from ?_)
        refine zy_2 rfl rfl (show zyR _ _ _ _ [some (.ref (43 + 3)), some (.int x1), some (.int x2), some (.int x3), some (.int (((60 : Int32) * x1) + ((2 : Int32) * x3))), some (.int ((p5.2.2.1 62 ((((60 : Int32) * x1) + ((2 : Int32) * x3))).toNatClampNeg)).toInt32)] [.int (((60 : Int32) * x1) + ((2 : Int32) * x3)), .ref (62 + 3)] _ _ from ?_)
        refine zy_3 rfl rfl (show zyR _ _ _ _ [some (.ref (43 + 3)), some (.int x1), some (.int x2), some (.int x3), some (.int (((60 : Int32) * x1) + ((2 : Int32) * x3))), some (.int ((p5.2.2.1 62 ((((60 : Int32) * x1) + ((2 : Int32) * x3))).toNatClampNeg)).toInt32)] [.int (1 : Int32), .int (((60 : Int32) * x1) + ((2 : Int32) * x3)), .ref (62 + 3)] _ _ from ?_)
        refine zy_10 rfl (show zyR _ _ _ _ [some (.ref (43 + 3)), some (.int x1), some (.int x2), some (.int x3), some (.int (((60 : Int32) * x1) + ((2 : Int32) * x3))), some (.int ((p5.2.2.1 62 ((((60 : Int32) * x1) + ((2 : Int32) * x3))).toNatClampNeg)).toInt32)] [.int ((((60 : Int32) * x1) + ((2 : Int32) * x3)) + (1 : Int32)), .ref (62 + 3)] _ _ from ?_)
        obtain ⟨c7, h⟩ := zy_if h
        refine zy_30 (c := 62) rfl rfl c7 (show zyR _ _ _ _ [some (.ref (43 + 3)), some (.int x1), some (.int x2), some (.int x3), some (.int (((60 : Int32) * x1) + ((2 : Int32) * x3))), some (.int ((p5.2.2.1 62 ((((60 : Int32) * x1) + ((2 : Int32) * x3))).toNatClampNeg)).toInt32)] [.long (p5.2.2.1 62 (((((60 : Int32) * x1) + ((2 : Int32) * x3)) + (1 : Int32))).toNatClampNeg)] _ _ from ?_)
        refine zy_2 rfl rfl (show zyR _ _ _ _ [some (.ref (43 + 3)), some (.int x1), some (.int x2), some (.int x3), some (.int (((60 : Int32) * x1) + ((2 : Int32) * x3))), some (.int ((p5.2.2.1 62 ((((60 : Int32) * x1) + ((2 : Int32) * x3))).toNatClampNeg)).toInt32)] [.int x2, .long (p5.2.2.1 62 (((((60 : Int32) * x1) + ((2 : Int32) * x3)) + (1 : Int32))).toNatClampNeg)] _ _ from ?_)
        refine zy_2 rfl rfl (show zyR _ _ _ _ [some (.ref (43 + 3)), some (.int x1), some (.int x2), some (.int x3), some (.int (((60 : Int32) * x1) + ((2 : Int32) * x3))), some (.int ((p5.2.2.1 62 ((((60 : Int32) * x1) + ((2 : Int32) * x3))).toNatClampNeg)).toInt32)] [.int ((p5.2.2.1 62 ((((60 : Int32) * x1) + ((2 : Int32) * x3))).toNatClampNeg)).toInt32, .int x2, .long (p5.2.2.1 62 (((((60 : Int32) * x1) + ((2 : Int32) * x3)) + (1 : Int32))).toNatClampNeg)] _ _ from ?_)
        refine zy_3 rfl rfl (show zyR _ _ _ _ [some (.ref (43 + 3)), some (.int x1), some (.int x2), some (.int x3), some (.int (((60 : Int32) * x1) + ((2 : Int32) * x3))), some (.int ((p5.2.2.1 62 ((((60 : Int32) * x1) + ((2 : Int32) * x3))).toNatClampNeg)).toInt32)] [.int (4 : Int32), .int ((p5.2.2.1 62 ((((60 : Int32) * x1) + ((2 : Int32) * x3))).toNatClampNeg)).toInt32, .int x2, .long (p5.2.2.1 62 (((((60 : Int32) * x1) + ((2 : Int32) * x3)) + (1 : Int32))).toNatClampNeg)] _ _ from ?_)
        refine zy_19 rfl (by decide) (show zyR _ _ _ _ [some (.ref (43 + 3)), some (.int x1), some (.int x2), some (.int x3), some (.int (((60 : Int32) * x1) + ((2 : Int32) * x3))), some (.int ((p5.2.2.1 62 ((((60 : Int32) * x1) + ((2 : Int32) * x3))).toNatClampNeg)).toInt32)] [.int (((p5.2.2.1 62 ((((60 : Int32) * x1) + ((2 : Int32) * x3))).toNatClampNeg)).toInt32 / (4 : Int32)), .int x2, .long (p5.2.2.1 62 (((((60 : Int32) * x1) + ((2 : Int32) * x3)) + (1 : Int32))).toNatClampNeg)] _ _ from ?_)
        obtain ⟨p8, hp8, h⟩ := zy_bind h
        refine zy_60 (as := [.int x2, .int (((p5.2.2.1 62 ((((60 : Int32) * x1) + ((2 : Int32) * x3))).toNatClampNeg)).toInt32 / (4 : Int32))]) (rest := [.long (p5.2.2.1 62 (((((60 : Int32) * x1) + ((2 : Int32) * x3)) + (1 : Int32))).toNatClampNeg)]) (L := [some (.int x2), some (.int (((p5.2.2.1 62 ((((60 : Int32) * x1) + ((2 : Int32) * x3))).toNatClampNeg)).toInt32 / (4 : Int32)))]) (d' := 1) rfl rfl (Nat.le_of_ble_eq_true rfl) (Nat.le_of_ble_eq_true rfl) rfl (Nat.le_of_ble_eq_true rfl) rfl rfl (zyC206 hp8) ?_
        show zyR _ _ _ _ [some (.ref (43 + 3)), some (.int x1), some (.int x2), some (.int x3), some (.int (((60 : Int32) * x1) + ((2 : Int32) * x3))), some (.int ((p5.2.2.1 62 ((((60 : Int32) * x1) + ((2 : Int32) * x3))).toNatClampNeg)).toInt32)] [.int p8.1, .long (p5.2.2.1 62 (((((60 : Int32) * x1) + ((2 : Int32) * x3)) + (1 : Int32))).toNatClampNeg)] _ _
        refine zy_2 rfl rfl (show zyR _ _ _ _ [some (.ref (43 + 3)), some (.int x1), some (.int x2), some (.int x3), some (.int (((60 : Int32) * x1) + ((2 : Int32) * x3))), some (.int ((p5.2.2.1 62 ((((60 : Int32) * x1) + ((2 : Int32) * x3))).toNatClampNeg)).toInt32)] [.int ((p5.2.2.1 62 ((((60 : Int32) * x1) + ((2 : Int32) * x3))).toNatClampNeg)).toInt32, .int p8.1, .long (p5.2.2.1 62 (((((60 : Int32) * x1) + ((2 : Int32) * x3)) + (1 : Int32))).toNatClampNeg)] _ _ from ?_)
        refine zy_3 rfl rfl (show zyR _ _ _ _ [some (.ref (43 + 3)), some (.int x1), some (.int x2), some (.int x3), some (.int (((60 : Int32) * x1) + ((2 : Int32) * x3))), some (.int ((p5.2.2.1 62 ((((60 : Int32) * x1) + ((2 : Int32) * x3))).toNatClampNeg)).toInt32)] [.int (4 : Int32), .int ((p5.2.2.1 62 ((((60 : Int32) * x1) + ((2 : Int32) * x3))).toNatClampNeg)).toInt32, .int p8.1, .long (p5.2.2.1 62 (((((60 : Int32) * x1) + ((2 : Int32) * x3)) + (1 : Int32))).toNatClampNeg)] _ _ from ?_)
        refine zy_20 rfl (by decide) (show zyR _ _ _ _ [some (.ref (43 + 3)), some (.int x1), some (.int x2), some (.int x3), some (.int (((60 : Int32) * x1) + ((2 : Int32) * x3))), some (.int ((p5.2.2.1 62 ((((60 : Int32) * x1) + ((2 : Int32) * x3))).toNatClampNeg)).toInt32)] [.int (((p5.2.2.1 62 ((((60 : Int32) * x1) + ((2 : Int32) * x3))).toNatClampNeg)).toInt32 - ((p5.2.2.1 62 ((((60 : Int32) * x1) + ((2 : Int32) * x3))).toNatClampNeg)).toInt32 / (4 : Int32) * (4 : Int32)), .int p8.1, .long (p5.2.2.1 62 (((((60 : Int32) * x1) + ((2 : Int32) * x3)) + (1 : Int32))).toNatClampNeg)] _ _ from ?_)
        refine zy_25_1 rfl (fun b9 => (show zyR _ _ _ _ [some (.ref (43 + 3)), some (.int x1), some (.int x2), some (.int x3), some (.int (((60 : Int32) * x1) + ((2 : Int32) * x3))), some (.int ((p5.2.2.1 62 ((((60 : Int32) * x1) + ((2 : Int32) * x3))).toNatClampNeg)).toInt32)] [.long (p5.2.2.1 62 (((((60 : Int32) * x1) + ((2 : Int32) * x3)) + (1 : Int32))).toNatClampNeg)] _ _ from ?_)) (fun b9 => (show zyR _ _ _ _ [some (.ref (43 + 3)), some (.int x1), some (.int x2), some (.int x3), some (.int (((60 : Int32) * x1) + ((2 : Int32) * x3))), some (.int ((p5.2.2.1 62 ((((60 : Int32) * x1) + ((2 : Int32) * x3))).toNatClampNeg)).toInt32)] [.long (p5.2.2.1 62 (((((60 : Int32) * x1) + ((2 : Int32) * x3)) + (1 : Int32))).toNatClampNeg)] _ _ from ?_))
        · replace h := zy_ifp h b9
          refine zy_36 rfl rfl (show zyR _ _ _ _ [some (.ref (43 + 3)), some (.int x1), some (.int x2), some (.int x3), some (.int (((60 : Int32) * x1) + ((2 : Int32) * x3))), some (.int ((p5.2.2.1 62 ((((60 : Int32) * x1) + ((2 : Int32) * x3))).toNatClampNeg)).toInt32)] [.long (1 : Int64), .long (p5.2.2.1 62 (((((60 : Int32) * x1) + ((2 : Int32) * x3)) + (1 : Int32))).toNatClampNeg)] _ _ from ?_)
          exact zy_sub (show zy_le [some (.ref (43 + 3)), some (.int x1), some (.int x2), some (.int x3), none, none] [some (.ref (43 + 3)), some (.int x1), some (.int x2), some (.int x3), some (.int (((60 : Int32) * x1) + ((2 : Int32) * x3))), some (.int ((p5.2.2.1 62 ((((60 : Int32) * x1) + ((2 : Int32) * x3))).toNatClampNeg)).toInt32)] from ⟨rfl, ⟨rfl, ⟨rfl, ⟨rfl, trivial⟩⟩⟩⟩) (zyC230_92 hk2 h)
        · replace h := zy_ifn h b9
          refine zy_36 rfl rfl (show zyR _ _ _ _ [some (.ref (43 + 3)), some (.int x1), some (.int x2), some (.int x3), some (.int (((60 : Int32) * x1) + ((2 : Int32) * x3))), some (.int ((p5.2.2.1 62 ((((60 : Int32) * x1) + ((2 : Int32) * x3))).toNatClampNeg)).toInt32)] [.long (0 : Int64), .long (p5.2.2.1 62 (((((60 : Int32) * x1) + ((2 : Int32) * x3)) + (1 : Int32))).toNatClampNeg)] _ _ from ?_)
          refine zy_6 rfl (show zyR _ _ _ _ [some (.ref (43 + 3)), some (.int x1), some (.int x2), some (.int x3), some (.int (((60 : Int32) * x1) + ((2 : Int32) * x3))), some (.int ((p5.2.2.1 62 ((((60 : Int32) * x1) + ((2 : Int32) * x3))).toNatClampNeg)).toInt32)] [.long (0 : Int64), .long (p5.2.2.1 62 (((((60 : Int32) * x1) + ((2 : Int32) * x3)) + (1 : Int32))).toNatClampNeg)] _ _ from ?_)
          exact zy_sub (show zy_le [some (.ref (43 + 3)), some (.int x1), some (.int x2), some (.int x3), none, none] [some (.ref (43 + 3)), some (.int x1), some (.int x2), some (.int x3), some (.int (((60 : Int32) * x1) + ((2 : Int32) * x3))), some (.int ((p5.2.2.1 62 ((((60 : Int32) * x1) + ((2 : Int32) * x3))).toNatClampNeg)).toInt32)] from ⟨rfl, ⟨rfl, ⟨rfl, ⟨rfl, trivial⟩⟩⟩⟩) (zyC230_92 hk2 h)
      · replace h := zy_ifn h b10
        refine zy_2 rfl rfl (show zyR _ _ _ _ [some (.ref (43 + 3)), some (.int x1), some (.int x2), some (.int x3), some (.int (((60 : Int32) * x1) + ((2 : Int32) * x3))), none] [.int x3] _ _ from ?_)
        cases h
        exact zy_4 rfl ⟨rfl, rfl⟩
noncomputable def zyF230_2   (n : Nat) : Int32 → Int32 → Int32 → zy_S → Option (Int32 × zy_S) := Nat.rec (fun _ _ _ _ => none) (fun _ k2 => zyF230_2b k2) n
theorem zyC230_2 {X : zx_X}     : ∀ (n : Nat) (x1 : Int32) (x2 : Int32) (x3 : Int32) (s : zy_S) (r : Int32) (s' : zy_S), zyF230_2 n x1 x2 x3 s = some (r, s') → zyR X 3 230 2 [some (.ref (43 + 3)), some (.int x1), some (.int x2), some (.int x3), none, none] [] s (zyE (some (.int r)) s')
  | 0, _, _, _ => by
    intro s r s'  h
    have h : (none : Option (Int32 × zy_S)) = some (r, s') := h
    cases h
  | n + 1, x1, x2, x3 => by
    intro s r s'  h
    exact zyC230_2b (k2 := zyF230_2 n) (fun x1 x2 x3 s r s'  h => zyC230_2  n x1 x2 x3 s r s'  h) h
noncomputable def zyF230   (x1 : Int32) (x2 : Int32) (s : zy_S) : Option (Int32 × zy_S) :=
zyF230_2 zy_fu x1 x2 (0 : Int32) s
theorem zyC230 {X : zx_X}     {x1 : Int32} {x2 : Int32} {s : zy_S} {r : Int32} {s' : zy_S}  (h : zyF230 x1 x2 s = some (r, s')) : zyR X 3 230 0 [some (.ref (43 + 3)), some (.int x1), some (.int x2), none, none, none] [] s (zyE (some (.int r)) s') := by
  unfold zyF230 at h
  refine zy_3 rfl rfl (show zyR _ _ _ _ [some (.ref (43 + 3)), some (.int x1), some (.int x2), none, none, none] [.int (0 : Int32)] _ _ from ?_)
  refine zy_23 rfl rfl (show zyR _ _ _ _ [some (.ref (43 + 3)), some (.int x1), some (.int x2), some (.int (0 : Int32)), none, none] [] _ _ from ?_)
  exact zy_sub (show zy_le [some (.ref (43 + 3)), some (.int x1), some (.int x2), some (.int (0 : Int32)), none, none] [some (.ref (43 + 3)), some (.int x1), some (.int x2), some (.int (0 : Int32)), none, none] from ⟨rfl, ⟨rfl, ⟨rfl, ⟨rfl, trivial⟩⟩⟩⟩) (zyC230_2 zy_fu x1 x2 (0 : Int32) s _ _ h)
/-! NineOpinionsModel.judge(II)I -/
noncomputable def zyF228   (x1 : Int32) (x2 : Int32) (s : zy_S) : Option (Int32 × zy_S) :=
(zyF229 x1 s).bind fun p1 =>
if p1.1 = (-1 : Int32) then
some ((-1 : Int32), p1.2)
else
(zyF185 (x2).toInt64 p1.2).bind fun p2 =>
if p2.1 ≠ 0 then
(zyF229 x1 p2.2).bind fun p3 =>
if 0 ≤ p3.1 then
if zy_in x2 41 then
(zyF230 x1 (p3.2.1 44 (x2).toNatClampNeg) p3.2).bind fun p5 =>
some (p5.1, p5.2)
else none
else
(zyF229 x1 p3.2).bind fun p6 =>
some (p6.1, p6.2)
else
some ((-1 : Int32), p2.2)
theorem zyC228 {X : zx_X}     {x1 : Int32} {x2 : Int32} {s : zy_S} {r : Int32} {s' : zy_S}  (h : zyF228 x1 x2 s = some (r, s')) : zyR X 4 228 0 [some (.ref (43 + 3)), some (.int x1), some (.int x2)] [] s (zyE (some (.int r)) s') := by
  unfold zyF228 at h
  refine zy_0 rfl rfl (show zyR _ _ _ _ [some (.ref (43 + 3)), some (.int x1), some (.int x2)] [.ref (43 + 3)] _ _ from ?_)
  refine zy_2 rfl rfl (show zyR _ _ _ _ [some (.ref (43 + 3)), some (.int x1), some (.int x2)] [.int x1, .ref (43 + 3)] _ _ from ?_)
  obtain ⟨p1, hp1, h⟩ := zy_bind h
  refine zy_5 (c := 43) (as := [.int x1]) (rest := []) (L := [some (.ref (43 + 3)), some (.int x1)]) (d' := 3) rfl rfl rfl (Nat.le_of_ble_eq_true rfl) (Nat.le_of_ble_eq_true rfl) rfl (Nat.le_of_ble_eq_true rfl) rfl rfl (zyC229 hp1) ?_
  show zyR _ _ _ _ [some (.ref (43 + 3)), some (.int x1), some (.int x2)] [.int p1.1] _ _
  refine zy_3 rfl rfl (show zyR _ _ _ _ [some (.ref (43 + 3)), some (.int x1), some (.int x2)] [.int (-1 : Int32), .int p1.1] _ _ from ?_)
  refine zy_25_0 rfl (fun b9 => (show zyR _ _ _ _ [some (.ref (43 + 3)), some (.int x1), some (.int x2)] [] _ _ from ?_)) (fun b9 => (show zyR _ _ _ _ [some (.ref (43 + 3)), some (.int x1), some (.int x2)] [] _ _ from ?_))
  · replace h := zy_ifp h b9
    refine zy_3 rfl rfl (show zyR _ _ _ _ [some (.ref (43 + 3)), some (.int x1), some (.int x2)] [.int (-1 : Int32)] _ _ from ?_)
    refine zy_6 rfl (show zyR _ _ _ _ [some (.ref (43 + 3)), some (.int x1), some (.int x2)] [.int (-1 : Int32)] _ _ from ?_)
    cases h
    exact zy_4 rfl ⟨rfl, rfl⟩
  · replace h := zy_ifn h b9
    refine zy_0 rfl rfl (show zyR _ _ _ _ [some (.ref (43 + 3)), some (.int x1), some (.int x2)] [.ref (43 + 3)] _ _ from ?_)
    refine zy_2 rfl rfl (show zyR _ _ _ _ [some (.ref (43 + 3)), some (.int x1), some (.int x2)] [.int x2, .ref (43 + 3)] _ _ from ?_)
    refine zy_40 rfl (show zyR _ _ _ _ [some (.ref (43 + 3)), some (.int x1), some (.int x2)] [.long (x2).toInt64, .ref (43 + 3)] _ _ from ?_)
    obtain ⟨p2, hp2, h⟩ := zy_bind h
    refine zy_5 (c := 43) (as := [.long (x2).toInt64]) (rest := []) (L := [some (.ref (43 + 3)), some (.long (x2).toInt64), none]) (d' := 2) rfl rfl rfl (Nat.le_of_ble_eq_true rfl) (Nat.le_of_ble_eq_true rfl) rfl (Nat.le_of_ble_eq_true rfl) rfl rfl (zyC185 hp2) ?_
    show zyR _ _ _ _ [some (.ref (43 + 3)), some (.int x1), some (.int x2)] [.int p2.1] _ _
    refine zy_24_1 rfl (fun b8 => (show zyR _ _ _ _ [some (.ref (43 + 3)), some (.int x1), some (.int x2)] [] _ _ from ?_)) (fun b8 => (show zyR _ _ _ _ [some (.ref (43 + 3)), some (.int x1), some (.int x2)] [] _ _ from ?_))
    · replace h := zy_ifp h b8
      refine zy_0 rfl rfl (show zyR _ _ _ _ [some (.ref (43 + 3)), some (.int x1), some (.int x2)] [.ref (43 + 3)] _ _ from ?_)
      refine zy_2 rfl rfl (show zyR _ _ _ _ [some (.ref (43 + 3)), some (.int x1), some (.int x2)] [.int x1, .ref (43 + 3)] _ _ from ?_)
      obtain ⟨p3, hp3, h⟩ := zy_bind h
      refine zy_5 (c := 43) (as := [.int x1]) (rest := []) (L := [some (.ref (43 + 3)), some (.int x1)]) (d' := 3) rfl rfl rfl (Nat.le_of_ble_eq_true rfl) (Nat.le_of_ble_eq_true rfl) rfl (Nat.le_of_ble_eq_true rfl) rfl rfl (zyC229 hp3) ?_
      show zyR _ _ _ _ [some (.ref (43 + 3)), some (.int x1), some (.int x2)] [.int p3.1] _ _
      refine zy_24_3 rfl (fun b7 => (show zyR _ _ _ _ [some (.ref (43 + 3)), some (.int x1), some (.int x2)] [] _ _ from ?_)) (fun b7 => (show zyR _ _ _ _ [some (.ref (43 + 3)), some (.int x1), some (.int x2)] [] _ _ from ?_))
      · replace h := zy_ifp h b7
        refine zy_0 rfl rfl (show zyR _ _ _ _ [some (.ref (43 + 3)), some (.int x1), some (.int x2)] [.ref (43 + 3)] _ _ from ?_)
        refine zy_2 rfl rfl (show zyR _ _ _ _ [some (.ref (43 + 3)), some (.int x1), some (.int x2)] [.int x1, .ref (43 + 3)] _ _ from ?_)
        refine zy_0 rfl rfl (show zyR _ _ _ _ [some (.ref (43 + 3)), some (.int x1), some (.int x2)] [.ref (43 + 3), .int x1, .ref (43 + 3)] _ _ from ?_)
        refine zy_1r (c := 43) rfl rfl rfl (show zyR _ _ _ _ [some (.ref (43 + 3)), some (.int x1), some (.int x2)] [.ref (44 + 3), .int x1, .ref (43 + 3)] _ _ from ?_)
        refine zy_2 rfl rfl (show zyR _ _ _ _ [some (.ref (43 + 3)), some (.int x1), some (.int x2)] [.int x2, .ref (44 + 3), .int x1, .ref (43 + 3)] _ _ from ?_)
        obtain ⟨c4, h⟩ := zy_if h
        refine zy_26 (c := 44) rfl rfl c4 (show zyR _ _ _ _ [some (.ref (43 + 3)), some (.int x1), some (.int x2)] [.int (p3.2.1 44 (x2).toNatClampNeg), .int x1, .ref (43 + 3)] _ _ from ?_)
        obtain ⟨p5, hp5, h⟩ := zy_bind h
        refine zy_5 (c := 43) (as := [.int x1, .int (p3.2.1 44 (x2).toNatClampNeg)]) (rest := []) (L := [some (.ref (43 + 3)), some (.int x1), some (.int (p3.2.1 44 (x2).toNatClampNeg)), none, none, none]) (d' := 3) rfl rfl rfl (Nat.le_of_ble_eq_true rfl) (Nat.le_of_ble_eq_true rfl) rfl (Nat.le_of_ble_eq_true rfl) rfl rfl (zyC230 hp5) ?_
        show zyR _ _ _ _ [some (.ref (43 + 3)), some (.int x1), some (.int x2)] [.int p5.1] _ _
        cases h
        exact zy_4 rfl ⟨rfl, rfl⟩
      · replace h := zy_ifn h b7
        refine zy_0 rfl rfl (show zyR _ _ _ _ [some (.ref (43 + 3)), some (.int x1), some (.int x2)] [.ref (43 + 3)] _ _ from ?_)
        refine zy_2 rfl rfl (show zyR _ _ _ _ [some (.ref (43 + 3)), some (.int x1), some (.int x2)] [.int x1, .ref (43 + 3)] _ _ from ?_)
        obtain ⟨p6, hp6, h⟩ := zy_bind h
        refine zy_5 (c := 43) (as := [.int x1]) (rest := []) (L := [some (.ref (43 + 3)), some (.int x1)]) (d' := 3) rfl rfl rfl (Nat.le_of_ble_eq_true rfl) (Nat.le_of_ble_eq_true rfl) rfl (Nat.le_of_ble_eq_true rfl) rfl rfl (zyC229 hp6) ?_
        show zyR _ _ _ _ [some (.ref (43 + 3)), some (.int x1), some (.int x2)] [.int p6.1] _ _
        refine zy_6 rfl (show zyR _ _ _ _ [some (.ref (43 + 3)), some (.int x1), some (.int x2)] [.int p6.1] _ _ from ?_)
        cases h
        exact zy_4 rfl ⟨rfl, rfl⟩
    · replace h := zy_ifn h b8
      refine zy_3 rfl rfl (show zyR _ _ _ _ [some (.ref (43 + 3)), some (.int x1), some (.int x2)] [.int (-1 : Int32)] _ _ from ?_)
      refine zy_6 rfl (show zyR _ _ _ _ [some (.ref (43 + 3)), some (.int x1), some (.int x2)] [.int (-1 : Int32)] _ _ from ?_)
      cases h
      exact zy_4 rfl ⟨rfl, rfl⟩
/-! NineOpinions.isOneOfTwo(I)Z -/
noncomputable def zyF84   (x0 : Int32) (s : zy_S) : Option (Int32 × zy_S) :=
if x0 = 0 then
some ((1 : Int32), s)
else
if x0 ≠ (1 : Int32) then
some ((0 : Int32), s)
else
some ((1 : Int32), s)
theorem zyC84 {X : zx_X}     {x0 : Int32} {s : zy_S} {r : Int32} {s' : zy_S}  (h : zyF84 x0 s = some (r, s')) : zyR X 1 84 0 [some (.int x0)] [] s (zyE (some (.int r)) s') := by
  unfold zyF84 at h
  refine zy_2 rfl rfl (show zyR _ _ _ _ [some (.int x0)] [.int x0] _ _ from ?_)
  refine zy_24_0 rfl (fun b2 => (show zyR _ _ _ _ [some (.int x0)] [] _ _ from ?_)) (fun b2 => (show zyR _ _ _ _ [some (.int x0)] [] _ _ from ?_))
  · replace h := zy_ifp h b2
    refine zy_3 rfl rfl (show zyR _ _ _ _ [some (.int x0)] [.int (1 : Int32)] _ _ from ?_)
    refine zy_6 rfl (show zyR _ _ _ _ [some (.int x0)] [.int (1 : Int32)] _ _ from ?_)
    cases h
    exact zy_4b rfl ⟨rfl, rfl⟩ (Or.inr rfl)
  · replace h := zy_ifn h b2
    refine zy_2 rfl rfl (show zyR _ _ _ _ [some (.int x0)] [.int x0] _ _ from ?_)
    refine zy_3 rfl rfl (show zyR _ _ _ _ [some (.int x0)] [.int (1 : Int32), .int x0] _ _ from ?_)
    refine zy_25_1 rfl (fun b1 => (show zyR _ _ _ _ [some (.int x0)] [] _ _ from ?_)) (fun b1 => (show zyR _ _ _ _ [some (.int x0)] [] _ _ from ?_))
    · replace h := zy_ifp h b1
      refine zy_3 rfl rfl (show zyR _ _ _ _ [some (.int x0)] [.int (0 : Int32)] _ _ from ?_)
      cases h
      exact zy_4b rfl ⟨rfl, rfl⟩ (Or.inl rfl)
    · replace h := zy_ifn h b1
      refine zy_3 rfl rfl (show zyR _ _ _ _ [some (.int x0)] [.int (1 : Int32)] _ _ from ?_)
      refine zy_6 rfl (show zyR _ _ _ _ [some (.int x0)] [.int (1 : Int32)] _ _ from ?_)
      cases h
      exact zy_4b rfl ⟨rfl, rfl⟩ (Or.inr rfl)
/-! NineOpinions$Book.fits(LNineOpinions$Shelf;II)Z -/
noncomputable def zyF114_67  (k5 : Nat → Int32 → Int32 → Int32 → Int32 → zy_S → Option (Int32 × zy_S)) (x0 : Nat) (x1 : Int32) (x2 : Int32) (x4 : Int32) (y0 : Int32) (s : zy_S) : Option (Int32 × zy_S) :=
k5 x0 x1 x2 y0 (x4 + (1 : Int32)) s
theorem zyC114_67 {X : zx_X}  {k5 : Nat → Int32 → Int32 → Int32 → Int32 → zy_S → Option (Int32 × zy_S)}  (hk5 : ∀ (x0 : Nat) (x1 : Int32) (x2 : Int32) (x3 : Int32) (x4 : Int32) (s : zy_S) (r : Int32) (s' : zy_S) (hs_x0 : zy_isSh x0), k5 x0 x1 x2 x3 x4 s = some (r, s') → zyR X 4 114 5 [some (.ref (x0 + 3)), some (.int x1), some (.int x2), some (.int x3), some (.int x4), none, none] [] s (zyE (some (.int r)) s')) {x0 : Nat} {x1 : Int32} {x2 : Int32} {x4 : Int32} {y0 : Int32} {s : zy_S} {r : Int32} {s' : zy_S} (hs_x0 : zy_isSh x0) (h : zyF114_67 k5 x0 x1 x2 x4 y0 s = some (r, s')) : zyR X 4 114 67 [some (.ref (x0 + 3)), some (.int x1), some (.int x2), none, some (.int x4), none, none] [.int y0] s (zyE (some (.int r)) s') := by
  unfold zyF114_67 at h
  refine zy_23 rfl rfl (show zyR _ _ _ _ [some (.ref (x0 + 3)), some (.int x1), some (.int x2), some (.int y0), some (.int x4), none, none] [] _ _ from ?_)
  refine zy_22 rfl rfl rfl rfl (show zyR _ _ _ _ [some (.ref (x0 + 3)), some (.int x1), some (.int x2), some (.int y0), some (.int (x4 + (1 : Int32))), none, none] [] _ _ from ?_)
  refine zy_6 rfl (show zyR _ _ _ _ [some (.ref (x0 + 3)), some (.int x1), some (.int x2), some (.int y0), some (.int (x4 + (1 : Int32))), none, none] [] _ _ from ?_)
  exact zy_sub (show zy_le [some (.ref (x0 + 3)), some (.int x1), some (.int x2), some (.int y0), some (.int (x4 + (1 : Int32))), none, none] [some (.ref (x0 + 3)), some (.int x1), some (.int x2), some (.int y0), some (.int (x4 + (1 : Int32))), none, none] from ⟨rfl, ⟨rfl, ⟨rfl, ⟨rfl, ⟨rfl, trivial⟩⟩⟩⟩⟩) (hk5 x0 x1 x2 y0 (x4 + (1 : Int32)) s _ _ hs_x0 h)
noncomputable def zyF114_66  (k5 : Nat → Int32 → Int32 → Int32 → Int32 → zy_S → Option (Int32 × zy_S)) (x0 : Nat) (x1 : Int32) (x2 : Int32) (x4 : Int32) (s : zy_S) : Option (Int32 × zy_S) :=
zyF114_67 k5 x0 x1 x2 x4 (0 : Int32) s
theorem zyC114_66 {X : zx_X}  {k5 : Nat → Int32 → Int32 → Int32 → Int32 → zy_S → Option (Int32 × zy_S)}  (hk5 : ∀ (x0 : Nat) (x1 : Int32) (x2 : Int32) (x3 : Int32) (x4 : Int32) (s : zy_S) (r : Int32) (s' : zy_S) (hs_x0 : zy_isSh x0), k5 x0 x1 x2 x3 x4 s = some (r, s') → zyR X 4 114 5 [some (.ref (x0 + 3)), some (.int x1), some (.int x2), some (.int x3), some (.int x4), none, none] [] s (zyE (some (.int r)) s')) {x0 : Nat} {x1 : Int32} {x2 : Int32} {x4 : Int32} {s : zy_S} {r : Int32} {s' : zy_S} (hs_x0 : zy_isSh x0) (h : zyF114_66 k5 x0 x1 x2 x4 s = some (r, s')) : zyR X 4 114 66 [some (.ref (x0 + 3)), some (.int x1), some (.int x2), none, some (.int x4), none, none] [] s (zyE (some (.int r)) s') := by
  unfold zyF114_66 at h
  refine zy_3 rfl rfl (show zyR _ _ _ _ [some (.ref (x0 + 3)), some (.int x1), some (.int x2), none, some (.int x4), none, none] [.int (0 : Int32)] _ _ from ?_)
  exact zy_sub (show zy_le [some (.ref (x0 + 3)), some (.int x1), some (.int x2), none, some (.int x4), none, none] [some (.ref (x0 + 3)), some (.int x1), some (.int x2), none, some (.int x4), none, none] from ⟨rfl, ⟨rfl, ⟨rfl, ⟨rfl, trivial⟩⟩⟩⟩) (zyC114_67 hk5 hs_x0 h)
noncomputable def zyF114_62  (k5 : Nat → Int32 → Int32 → Int32 → Int32 → zy_S → Option (Int32 × zy_S)) (x0 : Nat) (x1 : Int32) (x2 : Int32) (x4 : Int32) (s : zy_S) : Option (Int32 × zy_S) :=
zyF114_67 k5 x0 x1 x2 x4 (1 : Int32) s
theorem zyC114_62 {X : zx_X}  {k5 : Nat → Int32 → Int32 → Int32 → Int32 → zy_S → Option (Int32 × zy_S)}  (hk5 : ∀ (x0 : Nat) (x1 : Int32) (x2 : Int32) (x3 : Int32) (x4 : Int32) (s : zy_S) (r : Int32) (s' : zy_S) (hs_x0 : zy_isSh x0), k5 x0 x1 x2 x3 x4 s = some (r, s') → zyR X 4 114 5 [some (.ref (x0 + 3)), some (.int x1), some (.int x2), some (.int x3), some (.int x4), none, none] [] s (zyE (some (.int r)) s')) {x0 : Nat} {x1 : Int32} {x2 : Int32} {x4 : Int32} {s : zy_S} {r : Int32} {s' : zy_S} (hs_x0 : zy_isSh x0) (h : zyF114_62 k5 x0 x1 x2 x4 s = some (r, s')) : zyR X 4 114 62 [some (.ref (x0 + 3)), some (.int x1), some (.int x2), none, some (.int x4), none, none] [] s (zyE (some (.int r)) s') := by
  unfold zyF114_62 at h
  refine zy_3 rfl rfl (show zyR _ _ _ _ [some (.ref (x0 + 3)), some (.int x1), some (.int x2), none, some (.int x4), none, none] [.int (1 : Int32)] _ _ from ?_)
  refine zy_6 rfl (show zyR _ _ _ _ [some (.ref (x0 + 3)), some (.int x1), some (.int x2), none, some (.int x4), none, none] [.int (1 : Int32)] _ _ from ?_)
  exact zy_sub (show zy_le [some (.ref (x0 + 3)), some (.int x1), some (.int x2), none, some (.int x4), none, none] [some (.ref (x0 + 3)), some (.int x1), some (.int x2), none, some (.int x4), none, none] from ⟨rfl, ⟨rfl, ⟨rfl, ⟨rfl, trivial⟩⟩⟩⟩) (zyC114_67 hk5 hs_x0 h)
noncomputable def zyF114_41  (k5 : Nat → Int32 → Int32 → Int32 → Int32 → zy_S → Option (Int32 × zy_S)) (x0 : Nat) (x1 : Int32) (x2 : Int32) (x3 : Int32) (x4 : Int32) (y0 : Int32) (s : zy_S) : Option (Int32 × zy_S) :=
if x3 = 0 then
zyF114_66 k5 x0 x1 x2 x4 s
else
if y0 = 0 then
zyF114_62 k5 x0 x1 x2 x4 s
else
(zyF111 x0 x4 x2 s).bind fun p1 =>
if p1.1 = 0 then
zyF114_66 k5 x0 x1 x2 x4 p1.2
else
zyF114_62 k5 x0 x1 x2 x4 p1.2
theorem zyC114_41 {X : zx_X}  {k5 : Nat → Int32 → Int32 → Int32 → Int32 → zy_S → Option (Int32 × zy_S)}  (hk5 : ∀ (x0 : Nat) (x1 : Int32) (x2 : Int32) (x3 : Int32) (x4 : Int32) (s : zy_S) (r : Int32) (s' : zy_S) (hs_x0 : zy_isSh x0), k5 x0 x1 x2 x3 x4 s = some (r, s') → zyR X 4 114 5 [some (.ref (x0 + 3)), some (.int x1), some (.int x2), some (.int x3), some (.int x4), none, none] [] s (zyE (some (.int r)) s')) {x0 : Nat} {x1 : Int32} {x2 : Int32} {x3 : Int32} {x4 : Int32} {y0 : Int32} {s : zy_S} {r : Int32} {s' : zy_S} (hs_x0 : zy_isSh x0) (h : zyF114_41 k5 x0 x1 x2 x3 x4 y0 s = some (r, s')) : zyR X 4 114 41 [some (.ref (x0 + 3)), some (.int x1), some (.int x2), some (.int x3), some (.int x4), none, none] [.int y0] s (zyE (some (.int r)) s') := by
  unfold zyF114_41 at h
  refine zy_23 rfl rfl (show zyR _ _ _ _ [some (.ref (x0 + 3)), some (.int x1), some (.int x2), some (.int x3), some (.int x4), none, some (.int y0)] [] _ _ from ?_)
  refine zy_2 rfl rfl (show zyR _ _ _ _ [some (.ref (x0 + 3)), some (.int x1), some (.int x2), some (.int x3), some (.int x4), none, some (.int y0)] [.int x3] _ _ from ?_)
  refine zy_24_0 rfl (fun b4 => (show zyR _ _ _ _ [some (.ref (x0 + 3)), some (.int x1), some (.int x2), some (.int x3), some (.int x4), none, some (.int y0)] [] _ _ from ?_)) (fun b4 => (show zyR _ _ _ _ [some (.ref (x0 + 3)), some (.int x1), some (.int x2), some (.int x3), some (.int x4), none, some (.int y0)] [] _ _ from ?_))
  · replace h := zy_ifp h b4
    exact zy_sub (show zy_le [some (.ref (x0 + 3)), some (.int x1), some (.int x2), none, some (.int x4), none, none] [some (.ref (x0 + 3)), some (.int x1), some (.int x2), some (.int x3), some (.int x4), none, some (.int y0)] from ⟨rfl, ⟨rfl, ⟨rfl, ⟨rfl, trivial⟩⟩⟩⟩) (zyC114_66 hk5 hs_x0 h)
  · replace h := zy_ifn h b4
    refine zy_2 rfl rfl (show zyR _ _ _ _ [some (.ref (x0 + 3)), some (.int x1), some (.int x2), some (.int x3), some (.int x4), none, some (.int y0)] [.int y0] _ _ from ?_)
    refine zy_24_0 rfl (fun b3 => (show zyR _ _ _ _ [some (.ref (x0 + 3)), some (.int x1), some (.int x2), some (.int x3), some (.int x4), none, some (.int y0)] [] _ _ from ?_)) (fun b3 => (show zyR _ _ _ _ [some (.ref (x0 + 3)), some (.int x1), some (.int x2), some (.int x3), some (.int x4), none, some (.int y0)] [] _ _ from ?_))
    · replace h := zy_ifp h b3
      exact zy_sub (show zy_le [some (.ref (x0 + 3)), some (.int x1), some (.int x2), none, some (.int x4), none, none] [some (.ref (x0 + 3)), some (.int x1), some (.int x2), some (.int x3), some (.int x4), none, some (.int y0)] from ⟨rfl, ⟨rfl, ⟨rfl, ⟨rfl, trivial⟩⟩⟩⟩) (zyC114_62 hk5 hs_x0 h)
    · replace h := zy_ifn h b3
      refine zy_0 rfl rfl (show zyR _ _ _ _ [some (.ref (x0 + 3)), some (.int x1), some (.int x2), some (.int x3), some (.int x4), none, some (.int y0)] [.ref (x0 + 3)] _ _ from ?_)
      refine zy_2 rfl rfl (show zyR _ _ _ _ [some (.ref (x0 + 3)), some (.int x1), some (.int x2), some (.int x3), some (.int x4), none, some (.int y0)] [.int x4, .ref (x0 + 3)] _ _ from ?_)
      refine zy_2 rfl rfl (show zyR _ _ _ _ [some (.ref (x0 + 3)), some (.int x1), some (.int x2), some (.int x3), some (.int x4), none, some (.int y0)] [.int x2, .int x4, .ref (x0 + 3)] _ _ from ?_)
      obtain ⟨p1, hp1, h⟩ := zy_bind h
      refine zy_60 (as := [.ref (x0 + 3), .int x4, .int x2]) (rest := []) (L := [some (.ref (x0 + 3)), some (.int x4), some (.int x2), none]) (d' := 3) rfl rfl (Nat.le_of_ble_eq_true rfl) (Nat.le_of_ble_eq_true rfl) rfl (Nat.le_of_ble_eq_true rfl) rfl rfl (zyC111 hs_x0 hp1) ?_
      show zyR _ _ _ _ [some (.ref (x0 + 3)), some (.int x1), some (.int x2), some (.int x3), some (.int x4), none, some (.int y0)] [.int p1.1] _ _
      refine zy_24_0 rfl (fun b2 => (show zyR _ _ _ _ [some (.ref (x0 + 3)), some (.int x1), some (.int x2), some (.int x3), some (.int x4), none, some (.int y0)] [] _ _ from ?_)) (fun b2 => (show zyR _ _ _ _ [some (.ref (x0 + 3)), some (.int x1), some (.int x2), some (.int x3), some (.int x4), none, some (.int y0)] [] _ _ from ?_))
      · replace h := zy_ifp h b2
        exact zy_sub (show zy_le [some (.ref (x0 + 3)), some (.int x1), some (.int x2), none, some (.int x4), none, none] [some (.ref (x0 + 3)), some (.int x1), some (.int x2), some (.int x3), some (.int x4), none, some (.int y0)] from ⟨rfl, ⟨rfl, ⟨rfl, ⟨rfl, trivial⟩⟩⟩⟩) (zyC114_66 hk5 hs_x0 h)
      · replace h := zy_ifn h b2
        exact zy_sub (show zy_le [some (.ref (x0 + 3)), some (.int x1), some (.int x2), none, some (.int x4), none, none] [some (.ref (x0 + 3)), some (.int x1), some (.int x2), some (.int x3), some (.int x4), none, some (.int y0)] from ⟨rfl, ⟨rfl, ⟨rfl, ⟨rfl, trivial⟩⟩⟩⟩) (zyC114_62 hk5 hs_x0 h)
noncomputable def zyF114_40  (k5 : Nat → Int32 → Int32 → Int32 → Int32 → zy_S → Option (Int32 × zy_S)) (x0 : Nat) (x1 : Int32) (x2 : Int32) (x3 : Int32) (x4 : Int32) (s : zy_S) : Option (Int32 × zy_S) :=
zyF114_41 k5 x0 x1 x2 x3 x4 (0 : Int32) s
theorem zyC114_40 {X : zx_X}  {k5 : Nat → Int32 → Int32 → Int32 → Int32 → zy_S → Option (Int32 × zy_S)}  (hk5 : ∀ (x0 : Nat) (x1 : Int32) (x2 : Int32) (x3 : Int32) (x4 : Int32) (s : zy_S) (r : Int32) (s' : zy_S) (hs_x0 : zy_isSh x0), k5 x0 x1 x2 x3 x4 s = some (r, s') → zyR X 4 114 5 [some (.ref (x0 + 3)), some (.int x1), some (.int x2), some (.int x3), some (.int x4), none, none] [] s (zyE (some (.int r)) s')) {x0 : Nat} {x1 : Int32} {x2 : Int32} {x3 : Int32} {x4 : Int32} {s : zy_S} {r : Int32} {s' : zy_S} (hs_x0 : zy_isSh x0) (h : zyF114_40 k5 x0 x1 x2 x3 x4 s = some (r, s')) : zyR X 4 114 40 [some (.ref (x0 + 3)), some (.int x1), some (.int x2), some (.int x3), some (.int x4), none, none] [] s (zyE (some (.int r)) s') := by
  unfold zyF114_40 at h
  refine zy_3 rfl rfl (show zyR _ _ _ _ [some (.ref (x0 + 3)), some (.int x1), some (.int x2), some (.int x3), some (.int x4), none, none] [.int (0 : Int32)] _ _ from ?_)
  exact zy_sub (show zy_le [some (.ref (x0 + 3)), some (.int x1), some (.int x2), some (.int x3), some (.int x4), none, none] [some (.ref (x0 + 3)), some (.int x1), some (.int x2), some (.int x3), some (.int x4), none, none] from ⟨rfl, ⟨rfl, ⟨rfl, ⟨rfl, ⟨rfl, trivial⟩⟩⟩⟩⟩) (zyC114_41 hk5 hs_x0 h)
noncomputable def zyF114_5b  (k5 : Nat → Int32 → Int32 → Int32 → Int32 → zy_S → Option (Int32 × zy_S)) (x0 : Nat) (x1 : Int32) (x2 : Int32) (x3 : Int32) (x4 : Int32) (s : zy_S) : Option (Int32 × zy_S) :=
(zyF109 x0 s).bind fun p5 =>
if p5.1 ≤ x4 then
if x3 = 0 ∨ x3 = 1 then
some (x3, p5.2)
else none
else
(zyF110 x0 x4 p5.2).bind fun p7 =>
if p7.1 = (-1 : Int32) then
zyF114_40 k5 x0 x1 x2 x3 x4 p7.2
else
if (p7.1 / (4 : Int32)) ≠ x1 then
zyF114_40 k5 x0 x1 x2 x3 x4 p7.2
else
zyF114_41 k5 x0 x1 x2 x3 x4 (1 : Int32) p7.2
theorem zyC114_5b {X : zx_X}  {k5 : Nat → Int32 → Int32 → Int32 → Int32 → zy_S → Option (Int32 × zy_S)}  (hk5 : ∀ (x0 : Nat) (x1 : Int32) (x2 : Int32) (x3 : Int32) (x4 : Int32) (s : zy_S) (r : Int32) (s' : zy_S) (hs_x0 : zy_isSh x0), k5 x0 x1 x2 x3 x4 s = some (r, s') → zyR X 4 114 5 [some (.ref (x0 + 3)), some (.int x1), some (.int x2), some (.int x3), some (.int x4), none, none] [] s (zyE (some (.int r)) s')) {x0 : Nat} {x1 : Int32} {x2 : Int32} {x3 : Int32} {x4 : Int32} {s : zy_S} {r : Int32} {s' : zy_S} (hs_x0 : zy_isSh x0) (h : zyF114_5b k5 x0 x1 x2 x3 x4 s = some (r, s')) : zyR X 4 114 5 [some (.ref (x0 + 3)), some (.int x1), some (.int x2), some (.int x3), some (.int x4), none, none] [] s (zyE (some (.int r)) s') := by
  unfold zyF114_5b at h
  refine zy_2 rfl rfl (show zyR _ _ _ _ [some (.ref (x0 + 3)), some (.int x1), some (.int x2), some (.int x3), some (.int x4), none, none] [.int x4] _ _ from ?_)
  refine zy_0 rfl rfl (show zyR _ _ _ _ [some (.ref (x0 + 3)), some (.int x1), some (.int x2), some (.int x3), some (.int x4), none, none] [.ref (x0 + 3), .int x4] _ _ from ?_)
  obtain ⟨p5, hp5, h⟩ := zy_bind h
  refine zy_60 (as := [.ref (x0 + 3)]) (rest := [.int x4]) (L := [some (.ref (x0 + 3))]) (d' := 1) rfl rfl (Nat.le_of_ble_eq_true rfl) (Nat.le_of_ble_eq_true rfl) rfl (Nat.le_of_ble_eq_true rfl) rfl rfl (zyC109 hs_x0 hp5) ?_
  show zyR _ _ _ _ [some (.ref (x0 + 3)), some (.int x1), some (.int x2), some (.int x3), some (.int x4), none, none] [.int p5.1, .int x4] _ _
  refine zy_25_3 rfl (fun b10 => (show zyR _ _ _ _ [some (.ref (x0 + 3)), some (.int x1), some (.int x2), some (.int x3), some (.int x4), none, none] [] _ _ from ?_)) (fun b10 => (show zyR _ _ _ _ [some (.ref (x0 + 3)), some (.int x1), some (.int x2), some (.int x3), some (.int x4), none, none] [] _ _ from ?_))
  · replace h := zy_ifp h b10
    refine zy_2 rfl rfl (show zyR _ _ _ _ [some (.ref (x0 + 3)), some (.int x1), some (.int x2), some (.int x3), some (.int x4), none, none] [.int x3] _ _ from ?_)
    obtain ⟨c6, h⟩ := zy_if h
    cases h
    exact zy_4b rfl ⟨rfl, rfl⟩ c6
  · replace h := zy_ifn h b10
    refine zy_0 rfl rfl (show zyR _ _ _ _ [some (.ref (x0 + 3)), some (.int x1), some (.int x2), some (.int x3), some (.int x4), none, none] [.ref (x0 + 3)] _ _ from ?_)
    refine zy_2 rfl rfl (show zyR _ _ _ _ [some (.ref (x0 + 3)), some (.int x1), some (.int x2), some (.int x3), some (.int x4), none, none] [.int x4, .ref (x0 + 3)] _ _ from ?_)
    obtain ⟨p7, hp7, h⟩ := zy_bind h
    refine zy_60 (as := [.ref (x0 + 3), .int x4]) (rest := []) (L := [some (.ref (x0 + 3)), some (.int x4), none]) (d' := 2) rfl rfl (Nat.le_of_ble_eq_true rfl) (Nat.le_of_ble_eq_true rfl) rfl (Nat.le_of_ble_eq_true rfl) rfl rfl (zyC110 hs_x0 hp7) ?_
    show zyR _ _ _ _ [some (.ref (x0 + 3)), some (.int x1), some (.int x2), some (.int x3), some (.int x4), none, none] [.int p7.1] _ _
    refine zy_23 rfl rfl (show zyR _ _ _ _ [some (.ref (x0 + 3)), some (.int x1), some (.int x2), some (.int x3), some (.int x4), some (.int p7.1), none] [] _ _ from ?_)
    refine zy_2 rfl rfl (show zyR _ _ _ _ [some (.ref (x0 + 3)), some (.int x1), some (.int x2), some (.int x3), some (.int x4), some (.int p7.1), none] [.int p7.1] _ _ from ?_)
    refine zy_3 rfl rfl (show zyR _ _ _ _ [some (.ref (x0 + 3)), some (.int x1), some (.int x2), some (.int x3), some (.int x4), some (.int p7.1), none] [.int (-1 : Int32), .int p7.1] _ _ from ?_)
    refine zy_25_0 rfl (fun b9 => (show zyR _ _ _ _ [some (.ref (x0 + 3)), some (.int x1), some (.int x2), some (.int x3), some (.int x4), some (.int p7.1), none] [] _ _ from ?_)) (fun b9 => (show zyR _ _ _ _ [some (.ref (x0 + 3)), some (.int x1), some (.int x2), some (.int x3), some (.int x4), some (.int p7.1), none] [] _ _ from ?_))
    · replace h := zy_ifp h b9
      exact zy_sub (show zy_le [some (.ref (x0 + 3)), some (.int x1), some (.int x2), some (.int x3), some (.int x4), none, none] [some (.ref (x0 + 3)), some (.int x1), some (.int x2), some (.int x3), some (.int x4), some (.int p7.1), none] from ⟨rfl, ⟨rfl, ⟨rfl, ⟨rfl, ⟨rfl, trivial⟩⟩⟩⟩⟩) (zyC114_40 hk5 hs_x0 h)
    · replace h := zy_ifn h b9
      refine zy_2 rfl rfl (show zyR _ _ _ _ [some (.ref (x0 + 3)), some (.int x1), some (.int x2), some (.int x3), some (.int x4), some (.int p7.1), none] [.int p7.1] _ _ from ?_)
      refine zy_3 rfl rfl (show zyR _ _ _ _ [some (.ref (x0 + 3)), some (.int x1), some (.int x2), some (.int x3), some (.int x4), some (.int p7.1), none] [.int (4 : Int32), .int p7.1] _ _ from ?_)
      refine zy_19 rfl (by decide) (show zyR _ _ _ _ [some (.ref (x0 + 3)), some (.int x1), some (.int x2), some (.int x3), some (.int x4), some (.int p7.1), none] [.int (p7.1 / (4 : Int32))] _ _ from ?_)
      refine zy_2 rfl rfl (show zyR _ _ _ _ [some (.ref (x0 + 3)), some (.int x1), some (.int x2), some (.int x3), some (.int x4), some (.int p7.1), none] [.int x1, .int (p7.1 / (4 : Int32))] _ _ from ?_)
      refine zy_25_1 rfl (fun b8 => (show zyR _ _ _ _ [some (.ref (x0 + 3)), some (.int x1), some (.int x2), some (.int x3), some (.int x4), some (.int p7.1), none] [] _ _ from ?_)) (fun b8 => (show zyR _ _ _ _ [some (.ref (x0 + 3)), some (.int x1), some (.int x2), some (.int x3), some (.int x4), some (.int p7.1), none] [] _ _ from ?_))
      · replace h := zy_ifp h b8
        exact zy_sub (show zy_le [some (.ref (x0 + 3)), some (.int x1), some (.int x2), some (.int x3), some (.int x4), none, none] [some (.ref (x0 + 3)), some (.int x1), some (.int x2), some (.int x3), some (.int x4), some (.int p7.1), none] from ⟨rfl, ⟨rfl, ⟨rfl, ⟨rfl, ⟨rfl, trivial⟩⟩⟩⟩⟩) (zyC114_40 hk5 hs_x0 h)
      · replace h := zy_ifn h b8
        refine zy_3 rfl rfl (show zyR _ _ _ _ [some (.ref (x0 + 3)), some (.int x1), some (.int x2), some (.int x3), some (.int x4), some (.int p7.1), none] [.int (1 : Int32)] _ _ from ?_)
        refine zy_6 rfl (show zyR _ _ _ _ [some (.ref (x0 + 3)), some (.int x1), some (.int x2), some (.int x3), some (.int x4), some (.int p7.1), none] [.int (1 : Int32)] _ _ from ?_)
        exact zy_sub (show zy_le [some (.ref (x0 + 3)), some (.int x1), some (.int x2), some (.int x3), some (.int x4), none, none] [some (.ref (x0 + 3)), some (.int x1), some (.int x2), some (.int x3), some (.int x4), some (.int p7.1), none] from ⟨rfl, ⟨rfl, ⟨rfl, ⟨rfl, ⟨rfl, trivial⟩⟩⟩⟩⟩) (zyC114_41 hk5 hs_x0 h)
noncomputable def zyF114_5   (n : Nat) : Nat → Int32 → Int32 → Int32 → Int32 → zy_S → Option (Int32 × zy_S) := Nat.rec (fun _ _ _ _ _ _ => none) (fun _ k5 => zyF114_5b k5) n
theorem zyC114_5 {X : zx_X}     : ∀ (n : Nat) (x0 : Nat) (x1 : Int32) (x2 : Int32) (x3 : Int32) (x4 : Int32) (s : zy_S) (r : Int32) (s' : zy_S) (hs_x0 : zy_isSh x0), zyF114_5 n x0 x1 x2 x3 x4 s = some (r, s') → zyR X 4 114 5 [some (.ref (x0 + 3)), some (.int x1), some (.int x2), some (.int x3), some (.int x4), none, none] [] s (zyE (some (.int r)) s')
  | 0, _, _, _, _, _ => by
    intro s r s' hs_x0 h
    have h : (none : Option (Int32 × zy_S)) = some (r, s') := h
    cases h
  | n + 1, x0, x1, x2, x3, x4 => by
    intro s r s' hs_x0 h
    exact zyC114_5b (k5 := zyF114_5 n) (fun x0 x1 x2 x3 x4 s r s' hs_x0 h => zyC114_5  n x0 x1 x2 x3 x4 s r s' hs_x0 h) hs_x0 h
noncomputable def zyF114   (x0 : Nat) (x1 : Int32) (x2 : Int32) (s : zy_S) : Option (Int32 × zy_S) :=
zyF114_5 zy_fu x0 x1 x2 (1 : Int32) (0 : Int32) s
theorem zyC114 {X : zx_X}     {x0 : Nat} {x1 : Int32} {x2 : Int32} {s : zy_S} {r : Int32} {s' : zy_S} (hs_x0 : zy_isSh x0) (h : zyF114 x0 x1 x2 s = some (r, s')) : zyR X 4 114 0 [some (.ref (x0 + 3)), some (.int x1), some (.int x2), none, none, none, none] [] s (zyE (some (.int r)) s') := by
  unfold zyF114 at h
  refine zy_3 rfl rfl (show zyR _ _ _ _ [some (.ref (x0 + 3)), some (.int x1), some (.int x2), none, none, none, none] [.int (1 : Int32)] _ _ from ?_)
  refine zy_23 rfl rfl (show zyR _ _ _ _ [some (.ref (x0 + 3)), some (.int x1), some (.int x2), some (.int (1 : Int32)), none, none, none] [] _ _ from ?_)
  refine zy_3 rfl rfl (show zyR _ _ _ _ [some (.ref (x0 + 3)), some (.int x1), some (.int x2), some (.int (1 : Int32)), none, none, none] [.int (0 : Int32)] _ _ from ?_)
  refine zy_23 rfl rfl (show zyR _ _ _ _ [some (.ref (x0 + 3)), some (.int x1), some (.int x2), some (.int (1 : Int32)), some (.int (0 : Int32)), none, none] [] _ _ from ?_)
  exact zy_sub (show zy_le [some (.ref (x0 + 3)), some (.int x1), some (.int x2), some (.int (1 : Int32)), some (.int (0 : Int32)), none, none] [some (.ref (x0 + 3)), some (.int x1), some (.int x2), some (.int (1 : Int32)), some (.int (0 : Int32)), none, none] from ⟨rfl, ⟨rfl, ⟨rfl, ⟨rfl, ⟨rfl, trivial⟩⟩⟩⟩⟩) (zyC114_5 zy_fu x0 x1 x2 (1 : Int32) (0 : Int32) s _ _ hs_x0 h)
/-! NineOpinions$Book.viewsFor(LNineOpinions$Shelf;I)I -/
noncomputable def zyF113_26  (k4 : Nat → Int32 → Int32 → Int32 → zy_S → Option (Int32 × zy_S)) (x0 : Nat) (x1 : Int32) (x3 : Int32) (y0 : Int32) (y1 : Int32) (s : zy_S) : Option (Int32 × zy_S) :=
k4 x0 x1 (y1 ||| y0) (x3 + (1 : Int32)) s
theorem zyC113_26 {X : zx_X}  {k4 : Nat → Int32 → Int32 → Int32 → zy_S → Option (Int32 × zy_S)}  (hk4 : ∀ (x0 : Nat) (x1 : Int32) (x2 : Int32) (x3 : Int32) (s : zy_S) (r : Int32) (s' : zy_S) (hs_x0 : zy_isSh x0), k4 x0 x1 x2 x3 s = some (r, s') → zyR X 5 113 4 [some (.ref (x0 + 3)), some (.int x1), some (.int x2), some (.int x3)] [] s (zyE (some (.int r)) s')) {x0 : Nat} {x1 : Int32} {x3 : Int32} {y0 : Int32} {y1 : Int32} {s : zy_S} {r : Int32} {s' : zy_S} (hs_x0 : zy_isSh x0) (h : zyF113_26 k4 x0 x1 x3 y0 y1 s = some (r, s')) : zyR X 5 113 26 [some (.ref (x0 + 3)), some (.int x1), none, some (.int x3)] [.int y0, .int y1] s (zyE (some (.int r)) s') := by
  unfold zyF113_26 at h
  refine zy_14 rfl (show zyR _ _ _ _ [some (.ref (x0 + 3)), some (.int x1), none, some (.int x3)] [.int (y1 ||| y0)] _ _ from ?_)
  refine zy_23 rfl rfl (show zyR _ _ _ _ [some (.ref (x0 + 3)), some (.int x1), some (.int (y1 ||| y0)), some (.int x3)] [] _ _ from ?_)
  refine zy_22 rfl rfl rfl rfl (show zyR _ _ _ _ [some (.ref (x0 + 3)), some (.int x1), some (.int (y1 ||| y0)), some (.int (x3 + (1 : Int32)))] [] _ _ from ?_)
  refine zy_6 rfl (show zyR _ _ _ _ [some (.ref (x0 + 3)), some (.int x1), some (.int (y1 ||| y0)), some (.int (x3 + (1 : Int32)))] [] _ _ from ?_)
  exact zy_sub (show zy_le [some (.ref (x0 + 3)), some (.int x1), some (.int (y1 ||| y0)), some (.int (x3 + (1 : Int32)))] [some (.ref (x0 + 3)), some (.int x1), some (.int (y1 ||| y0)), some (.int (x3 + (1 : Int32)))] from ⟨rfl, ⟨rfl, ⟨rfl, ⟨rfl, trivial⟩⟩⟩⟩) (hk4 x0 x1 (y1 ||| y0) (x3 + (1 : Int32)) s _ _ hs_x0 h)
noncomputable def zyF113_4b  (k4 : Nat → Int32 → Int32 → Int32 → zy_S → Option (Int32 × zy_S)) (x0 : Nat) (x1 : Int32) (x2 : Int32) (x3 : Int32) (s : zy_S) : Option (Int32 × zy_S) :=
if (4 : Int32) ≤ x3 then
some (x2, s)
else
(zyF114 x0 x1 x3 s).bind fun p1 =>
if p1.1 = 0 then
zyF113_26 k4 x0 x1 x3 (0 : Int32) x2 p1.2
else
zyF113_26 k4 x0 x1 x3 ((1 : Int32) <<< (x3 &&& 31)) x2 p1.2
theorem zyC113_4b {X : zx_X}  {k4 : Nat → Int32 → Int32 → Int32 → zy_S → Option (Int32 × zy_S)}  (hk4 : ∀ (x0 : Nat) (x1 : Int32) (x2 : Int32) (x3 : Int32) (s : zy_S) (r : Int32) (s' : zy_S) (hs_x0 : zy_isSh x0), k4 x0 x1 x2 x3 s = some (r, s') → zyR X 5 113 4 [some (.ref (x0 + 3)), some (.int x1), some (.int x2), some (.int x3)] [] s (zyE (some (.int r)) s')) {x0 : Nat} {x1 : Int32} {x2 : Int32} {x3 : Int32} {s : zy_S} {r : Int32} {s' : zy_S} (hs_x0 : zy_isSh x0) (h : zyF113_4b k4 x0 x1 x2 x3 s = some (r, s')) : zyR X 5 113 4 [some (.ref (x0 + 3)), some (.int x1), some (.int x2), some (.int x3)] [] s (zyE (some (.int r)) s') := by
  unfold zyF113_4b at h
  refine zy_2 rfl rfl (show zyR _ _ _ _ [some (.ref (x0 + 3)), some (.int x1), some (.int x2), some (.int x3)] [.int x3] _ _ from ?_)
  refine zy_3 rfl rfl (show zyR _ _ _ _ [some (.ref (x0 + 3)), some (.int x1), some (.int x2), some (.int x3)] [.int (4 : Int32), .int x3] _ _ from ?_)
  refine zy_25_3 rfl (fun b3 => (show zyR _ _ _ _ [some (.ref (x0 + 3)), some (.int x1), some (.int x2), some (.int x3)] [] _ _ from ?_)) (fun b3 => (show zyR _ _ _ _ [some (.ref (x0 + 3)), some (.int x1), some (.int x2), some (.int x3)] [] _ _ from ?_))
  · replace h := zy_ifp h b3
    refine zy_2 rfl rfl (show zyR _ _ _ _ [some (.ref (x0 + 3)), some (.int x1), some (.int x2), some (.int x3)] [.int x2] _ _ from ?_)
    cases h
    exact zy_4 rfl ⟨rfl, rfl⟩
  · replace h := zy_ifn h b3
    refine zy_2 rfl rfl (show zyR _ _ _ _ [some (.ref (x0 + 3)), some (.int x1), some (.int x2), some (.int x3)] [.int x2] _ _ from ?_)
    refine zy_0 rfl rfl (show zyR _ _ _ _ [some (.ref (x0 + 3)), some (.int x1), some (.int x2), some (.int x3)] [.ref (x0 + 3), .int x2] _ _ from ?_)
    refine zy_2 rfl rfl (show zyR _ _ _ _ [some (.ref (x0 + 3)), some (.int x1), some (.int x2), some (.int x3)] [.int x1, .ref (x0 + 3), .int x2] _ _ from ?_)
    refine zy_2 rfl rfl (show zyR _ _ _ _ [some (.ref (x0 + 3)), some (.int x1), some (.int x2), some (.int x3)] [.int x3, .int x1, .ref (x0 + 3), .int x2] _ _ from ?_)
    obtain ⟨p1, hp1, h⟩ := zy_bind h
    refine zy_60 (as := [.ref (x0 + 3), .int x1, .int x3]) (rest := [.int x2]) (L := [some (.ref (x0 + 3)), some (.int x1), some (.int x3), none, none, none, none]) (d' := 4) rfl rfl (Nat.le_of_ble_eq_true rfl) (Nat.le_of_ble_eq_true rfl) rfl (Nat.le_of_ble_eq_true rfl) rfl rfl (zyC114 hs_x0 hp1) ?_
    show zyR _ _ _ _ [some (.ref (x0 + 3)), some (.int x1), some (.int x2), some (.int x3)] [.int p1.1, .int x2] _ _
    refine zy_24_0 rfl (fun b2 => (show zyR _ _ _ _ [some (.ref (x0 + 3)), some (.int x1), some (.int x2), some (.int x3)] [.int x2] _ _ from ?_)) (fun b2 => (show zyR _ _ _ _ [some (.ref (x0 + 3)), some (.int x1), some (.int x2), some (.int x3)] [.int x2] _ _ from ?_))
    · replace h := zy_ifp h b2
      refine zy_3 rfl rfl (show zyR _ _ _ _ [some (.ref (x0 + 3)), some (.int x1), some (.int x2), some (.int x3)] [.int (0 : Int32), .int x2] _ _ from ?_)
      exact zy_sub (show zy_le [some (.ref (x0 + 3)), some (.int x1), none, some (.int x3)] [some (.ref (x0 + 3)), some (.int x1), some (.int x2), some (.int x3)] from ⟨rfl, ⟨rfl, ⟨rfl, trivial⟩⟩⟩) (zyC113_26 hk4 hs_x0 h)
    · replace h := zy_ifn h b2
      refine zy_3 rfl rfl (show zyR _ _ _ _ [some (.ref (x0 + 3)), some (.int x1), some (.int x2), some (.int x3)] [.int (1 : Int32), .int x2] _ _ from ?_)
      refine zy_2 rfl rfl (show zyR _ _ _ _ [some (.ref (x0 + 3)), some (.int x1), some (.int x2), some (.int x3)] [.int x3, .int (1 : Int32), .int x2] _ _ from ?_)
      refine zy_16 rfl (show zyR _ _ _ _ [some (.ref (x0 + 3)), some (.int x1), some (.int x2), some (.int x3)] [.int ((1 : Int32) <<< (x3 &&& 31)), .int x2] _ _ from ?_)
      refine zy_6 rfl (show zyR _ _ _ _ [some (.ref (x0 + 3)), some (.int x1), some (.int x2), some (.int x3)] [.int ((1 : Int32) <<< (x3 &&& 31)), .int x2] _ _ from ?_)
      exact zy_sub (show zy_le [some (.ref (x0 + 3)), some (.int x1), none, some (.int x3)] [some (.ref (x0 + 3)), some (.int x1), some (.int x2), some (.int x3)] from ⟨rfl, ⟨rfl, ⟨rfl, trivial⟩⟩⟩) (zyC113_26 hk4 hs_x0 h)
noncomputable def zyF113_4   (n : Nat) : Nat → Int32 → Int32 → Int32 → zy_S → Option (Int32 × zy_S) := Nat.rec (fun _ _ _ _ _ => none) (fun _ k4 => zyF113_4b k4) n
theorem zyC113_4 {X : zx_X}     : ∀ (n : Nat) (x0 : Nat) (x1 : Int32) (x2 : Int32) (x3 : Int32) (s : zy_S) (r : Int32) (s' : zy_S) (hs_x0 : zy_isSh x0), zyF113_4 n x0 x1 x2 x3 s = some (r, s') → zyR X 5 113 4 [some (.ref (x0 + 3)), some (.int x1), some (.int x2), some (.int x3)] [] s (zyE (some (.int r)) s')
  | 0, _, _, _, _ => by
    intro s r s' hs_x0 h
    have h : (none : Option (Int32 × zy_S)) = some (r, s') := h
    cases h
  | n + 1, x0, x1, x2, x3 => by
    intro s r s' hs_x0 h
    exact zyC113_4b (k4 := zyF113_4 n) (fun x0 x1 x2 x3 s r s' hs_x0 h => zyC113_4  n x0 x1 x2 x3 s r s' hs_x0 h) hs_x0 h
noncomputable def zyF113   (x0 : Nat) (x1 : Int32) (s : zy_S) : Option (Int32 × zy_S) :=
zyF113_4 zy_fu x0 x1 (0 : Int32) (0 : Int32) s
theorem zyC113 {X : zx_X}     {x0 : Nat} {x1 : Int32} {s : zy_S} {r : Int32} {s' : zy_S} (hs_x0 : zy_isSh x0) (h : zyF113 x0 x1 s = some (r, s')) : zyR X 5 113 0 [some (.ref (x0 + 3)), some (.int x1), none, none] [] s (zyE (some (.int r)) s') := by
  unfold zyF113 at h
  refine zy_3 rfl rfl (show zyR _ _ _ _ [some (.ref (x0 + 3)), some (.int x1), none, none] [.int (0 : Int32)] _ _ from ?_)
  refine zy_23 rfl rfl (show zyR _ _ _ _ [some (.ref (x0 + 3)), some (.int x1), some (.int (0 : Int32)), none] [] _ _ from ?_)
  refine zy_3 rfl rfl (show zyR _ _ _ _ [some (.ref (x0 + 3)), some (.int x1), some (.int (0 : Int32)), none] [.int (0 : Int32)] _ _ from ?_)
  refine zy_23 rfl rfl (show zyR _ _ _ _ [some (.ref (x0 + 3)), some (.int x1), some (.int (0 : Int32)), some (.int (0 : Int32))] [] _ _ from ?_)
  exact zy_sub (show zy_le [some (.ref (x0 + 3)), some (.int x1), some (.int (0 : Int32)), some (.int (0 : Int32))] [some (.ref (x0 + 3)), some (.int x1), some (.int (0 : Int32)), some (.int (0 : Int32))] from ⟨rfl, ⟨rfl, ⟨rfl, ⟨rfl, trivial⟩⟩⟩⟩) (zyC113_4 zy_fu x0 x1 (0 : Int32) (0 : Int32) s _ _ hs_x0 h)
/-! NineOpinions.lowestViewOrNot(I)I -/
noncomputable def zyF115_2b  (k2 : Int32 → Int32 → zy_S → Option (Int32 × zy_S)) (x0 : Int32) (x1 : Int32) (s : zy_S) : Option (Int32 × zy_S) :=
if (4 : Int32) ≤ x1 then
some ((-2 : Int32), s)
else
(zyF32 x0 x1 s).bind fun p1 =>
if p1.1 ≠ (1 : Int32) then
k2 x0 (x1 + (1 : Int32)) p1.2
else
some (x1, p1.2)
theorem zyC115_2b {X : zx_X}  {k2 : Int32 → Int32 → zy_S → Option (Int32 × zy_S)}  (hk2 : ∀ (x0 : Int32) (x1 : Int32) (s : zy_S) (r : Int32) (s' : zy_S), k2 x0 x1 s = some (r, s') → zyR X 2 115 2 [some (.int x0), some (.int x1)] [] s (zyE (some (.int r)) s')) {x0 : Int32} {x1 : Int32} {s : zy_S} {r : Int32} {s' : zy_S}  (h : zyF115_2b k2 x0 x1 s = some (r, s')) : zyR X 2 115 2 [some (.int x0), some (.int x1)] [] s (zyE (some (.int r)) s') := by
  unfold zyF115_2b at h
  refine zy_2 rfl rfl (show zyR _ _ _ _ [some (.int x0), some (.int x1)] [.int x1] _ _ from ?_)
  refine zy_3 rfl rfl (show zyR _ _ _ _ [some (.int x0), some (.int x1)] [.int (4 : Int32), .int x1] _ _ from ?_)
  refine zy_25_3 rfl (fun b3 => (show zyR _ _ _ _ [some (.int x0), some (.int x1)] [] _ _ from ?_)) (fun b3 => (show zyR _ _ _ _ [some (.int x0), some (.int x1)] [] _ _ from ?_))
  · replace h := zy_ifp h b3
    refine zy_3 rfl rfl (show zyR _ _ _ _ [some (.int x0), some (.int x1)] [.int (-2 : Int32)] _ _ from ?_)
    cases h
    exact zy_4 rfl ⟨rfl, rfl⟩
  · replace h := zy_ifn h b3
    refine zy_2 rfl rfl (show zyR _ _ _ _ [some (.int x0), some (.int x1)] [.int x0] _ _ from ?_)
    refine zy_2 rfl rfl (show zyR _ _ _ _ [some (.int x0), some (.int x1)] [.int x1, .int x0] _ _ from ?_)
    obtain ⟨p1, hp1, h⟩ := zy_bind h
    refine zy_60 (as := [.int x0, .int x1]) (rest := []) (L := [some (.int x0), some (.int x1)]) (d' := 1) rfl rfl (Nat.le_of_ble_eq_true rfl) (Nat.le_of_ble_eq_true rfl) rfl (Nat.le_of_ble_eq_true rfl) rfl rfl (zyC32 hp1) ?_
    show zyR _ _ _ _ [some (.int x0), some (.int x1)] [.int p1.1] _ _
    refine zy_3 rfl rfl (show zyR _ _ _ _ [some (.int x0), some (.int x1)] [.int (1 : Int32), .int p1.1] _ _ from ?_)
    refine zy_25_1 rfl (fun b2 => (show zyR _ _ _ _ [some (.int x0), some (.int x1)] [] _ _ from ?_)) (fun b2 => (show zyR _ _ _ _ [some (.int x0), some (.int x1)] [] _ _ from ?_))
    · replace h := zy_ifp h b2
      refine zy_22 rfl rfl rfl rfl (show zyR _ _ _ _ [some (.int x0), some (.int (x1 + (1 : Int32)))] [] _ _ from ?_)
      refine zy_6 rfl (show zyR _ _ _ _ [some (.int x0), some (.int (x1 + (1 : Int32)))] [] _ _ from ?_)
      exact zy_sub (show zy_le [some (.int x0), some (.int (x1 + (1 : Int32)))] [some (.int x0), some (.int (x1 + (1 : Int32)))] from ⟨rfl, ⟨rfl, trivial⟩⟩) (hk2 x0 (x1 + (1 : Int32)) p1.2 _ _ h)
    · replace h := zy_ifn h b2
      refine zy_2 rfl rfl (show zyR _ _ _ _ [some (.int x0), some (.int x1)] [.int x1] _ _ from ?_)
      cases h
      exact zy_4 rfl ⟨rfl, rfl⟩
noncomputable def zyF115_2   (n : Nat) : Int32 → Int32 → zy_S → Option (Int32 × zy_S) := Nat.rec (fun _ _ _ => none) (fun _ k2 => zyF115_2b k2) n
theorem zyC115_2 {X : zx_X}     : ∀ (n : Nat) (x0 : Int32) (x1 : Int32) (s : zy_S) (r : Int32) (s' : zy_S), zyF115_2 n x0 x1 s = some (r, s') → zyR X 2 115 2 [some (.int x0), some (.int x1)] [] s (zyE (some (.int r)) s')
  | 0, _, _ => by
    intro s r s'  h
    have h : (none : Option (Int32 × zy_S)) = some (r, s') := h
    cases h
  | n + 1, x0, x1 => by
    intro s r s'  h
    exact zyC115_2b (k2 := zyF115_2 n) (fun x0 x1 s r s'  h => zyC115_2  n x0 x1 s r s'  h) h
noncomputable def zyF115   (x0 : Int32) (s : zy_S) : Option (Int32 × zy_S) :=
zyF115_2 zy_fu x0 (0 : Int32) s
theorem zyC115 {X : zx_X}     {x0 : Int32} {s : zy_S} {r : Int32} {s' : zy_S}  (h : zyF115 x0 s = some (r, s')) : zyR X 2 115 0 [some (.int x0), none] [] s (zyE (some (.int r)) s') := by
  unfold zyF115 at h
  refine zy_3 rfl rfl (show zyR _ _ _ _ [some (.int x0), none] [.int (0 : Int32)] _ _ from ?_)
  refine zy_23 rfl rfl (show zyR _ _ _ _ [some (.int x0), some (.int (0 : Int32))] [] _ _ from ?_)
  exact zy_sub (show zy_le [some (.int x0), some (.int (0 : Int32))] [some (.int x0), some (.int (0 : Int32))] from ⟨rfl, ⟨rfl, trivial⟩⟩) (zyC115_2 zy_fu x0 (0 : Int32) s _ _ h)
/-! NineOpinions.believes(III)I -/
noncomputable def zyF112   (x1 : Int32) (x2 : Int32) (x3 : Int32) (s : zy_S) : Option (Int32 × zy_S) :=
(zyF18 x1 s).bind fun p1 =>
if p1.1 = 0 then
some ((-1 : Int32), p1.2)
else
if x2 < 0 then
some ((-1 : Int32), p1.2)
else
if (6 : Int32) ≤ x2 then
some ((-1 : Int32), p1.2)
else
(zyF84 x3 p1.2).bind fun p2 =>
if p2.1 ≠ 0 then
if zy_in x1 6 then
if zy_Wb p2.2 then
(zyF107 (zy_sh (x1).toNatClampNeg) (0 : Int32) p2.2).bind fun p5 =>
if p5.1 = 0 then
if zy_in x1 6 then
if zy_Wb p5.2 then
(zyF113 (zy_sh (x1).toNatClampNeg) x2 p5.2).bind fun p8 =>
if x3 ≠ 0 then
(zyF115 p8.1 p8.2).bind fun p9 =>
some (p9.1, p9.2)
else
(zyF63 p8.1 p8.2).bind fun p10 =>
some (p10.1, p10.2)
else none
else none
else
some (p5.1, p5.2)
else none
else none
else
some ((-1 : Int32), p2.2)
theorem zyC112 {X : zx_X}     {x1 : Int32} {x2 : Int32} {x3 : Int32} {s : zy_S} {r : Int32} {s' : zy_S}  (h : zyF112 x1 x2 x3 s = some (r, s')) : zyR X 6 112 0 [some (.ref (0 + 3)), some (.int x1), some (.int x2), some (.int x3), none, none] [] s (zyE (some (.int r)) s') := by
  unfold zyF112 at h
  refine zy_2 rfl rfl (show zyR _ _ _ _ [some (.ref (0 + 3)), some (.int x1), some (.int x2), some (.int x3), none, none] [.int x1] _ _ from ?_)
  obtain ⟨p1, hp1, h⟩ := zy_bind h
  refine zy_60 (as := [.int x1]) (rest := []) (L := [some (.int x1)]) (d' := 1) rfl rfl (Nat.le_of_ble_eq_true rfl) (Nat.le_of_ble_eq_true rfl) rfl (Nat.le_of_ble_eq_true rfl) rfl rfl (zyC18 hp1) ?_
  show zyR _ _ _ _ [some (.ref (0 + 3)), some (.int x1), some (.int x2), some (.int x3), none, none] [.int p1.1] _ _
  refine zy_24_0 rfl (fun b16 => (show zyR _ _ _ _ [some (.ref (0 + 3)), some (.int x1), some (.int x2), some (.int x3), none, none] [] _ _ from ?_)) (fun b16 => (show zyR _ _ _ _ [some (.ref (0 + 3)), some (.int x1), some (.int x2), some (.int x3), none, none] [] _ _ from ?_))
  · replace h := zy_ifp h b16
    refine zy_3 rfl rfl (show zyR _ _ _ _ [some (.ref (0 + 3)), some (.int x1), some (.int x2), some (.int x3), none, none] [.int (-1 : Int32)] _ _ from ?_)
    cases h
    exact zy_4 rfl ⟨rfl, rfl⟩
  · replace h := zy_ifn h b16
    refine zy_2 rfl rfl (show zyR _ _ _ _ [some (.ref (0 + 3)), some (.int x1), some (.int x2), some (.int x3), none, none] [.int x2] _ _ from ?_)
    refine zy_24_2 rfl (fun b15 => (show zyR _ _ _ _ [some (.ref (0 + 3)), some (.int x1), some (.int x2), some (.int x3), none, none] [] _ _ from ?_)) (fun b15 => (show zyR _ _ _ _ [some (.ref (0 + 3)), some (.int x1), some (.int x2), some (.int x3), none, none] [] _ _ from ?_))
    · replace h := zy_ifp h b15
      refine zy_3 rfl rfl (show zyR _ _ _ _ [some (.ref (0 + 3)), some (.int x1), some (.int x2), some (.int x3), none, none] [.int (-1 : Int32)] _ _ from ?_)
      cases h
      exact zy_4 rfl ⟨rfl, rfl⟩
    · replace h := zy_ifn h b15
      refine zy_2 rfl rfl (show zyR _ _ _ _ [some (.ref (0 + 3)), some (.int x1), some (.int x2), some (.int x3), none, none] [.int x2] _ _ from ?_)
      refine zy_3 rfl rfl (show zyR _ _ _ _ [some (.ref (0 + 3)), some (.int x1), some (.int x2), some (.int x3), none, none] [.int (6 : Int32), .int x2] _ _ from ?_)
      refine zy_25_3 rfl (fun b14 => (show zyR _ _ _ _ [some (.ref (0 + 3)), some (.int x1), some (.int x2), some (.int x3), none, none] [] _ _ from ?_)) (fun b14 => (show zyR _ _ _ _ [some (.ref (0 + 3)), some (.int x1), some (.int x2), some (.int x3), none, none] [] _ _ from ?_))
      · replace h := zy_ifp h b14
        refine zy_3 rfl rfl (show zyR _ _ _ _ [some (.ref (0 + 3)), some (.int x1), some (.int x2), some (.int x3), none, none] [.int (-1 : Int32)] _ _ from ?_)
        cases h
        exact zy_4 rfl ⟨rfl, rfl⟩
      · replace h := zy_ifn h b14
        refine zy_2 rfl rfl (show zyR _ _ _ _ [some (.ref (0 + 3)), some (.int x1), some (.int x2), some (.int x3), none, none] [.int x3] _ _ from ?_)
        obtain ⟨p2, hp2, h⟩ := zy_bind h
        refine zy_60 (as := [.int x3]) (rest := []) (L := [some (.int x3)]) (d' := 1) rfl rfl (Nat.le_of_ble_eq_true rfl) (Nat.le_of_ble_eq_true rfl) rfl (Nat.le_of_ble_eq_true rfl) rfl rfl (zyC84 hp2) ?_
        show zyR _ _ _ _ [some (.ref (0 + 3)), some (.int x1), some (.int x2), some (.int x3), none, none] [.int p2.1] _ _
        refine zy_24_1 rfl (fun b13 => (show zyR _ _ _ _ [some (.ref (0 + 3)), some (.int x1), some (.int x2), some (.int x3), none, none] [] _ _ from ?_)) (fun b13 => (show zyR _ _ _ _ [some (.ref (0 + 3)), some (.int x1), some (.int x2), some (.int x3), none, none] [] _ _ from ?_))
        · replace h := zy_ifp h b13
          refine zy_0 rfl rfl (show zyR _ _ _ _ [some (.ref (0 + 3)), some (.int x1), some (.int x2), some (.int x3), none, none] [.ref (0 + 3)] _ _ from ?_)
          refine zy_1r (c := 0) rfl rfl rfl (show zyR _ _ _ _ [some (.ref (0 + 3)), some (.int x1), some (.int x2), some (.int x3), none, none] [.ref (30 + 3)] _ _ from ?_)
          refine zy_2 rfl rfl (show zyR _ _ _ _ [some (.ref (0 + 3)), some (.int x1), some (.int x2), some (.int x3), none, none] [.int x1, .ref (30 + 3)] _ _ from ?_)
          obtain ⟨c3, h⟩ := zy_if h
          obtain ⟨c4, h⟩ := zy_if h
          refine zy_28 rfl (zy_Wb_g c4) c3 (show zyR _ _ _ _ [some (.ref (0 + 3)), some (.int x1), some (.int x2), some (.int x3), none, none] [.ref ((zy_sh (x1).toNatClampNeg) + 3)] _ _ from ?_)
          refine zy_3 rfl rfl (show zyR _ _ _ _ [some (.ref (0 + 3)), some (.int x1), some (.int x2), some (.int x3), none, none] [.int (0 : Int32), .ref ((zy_sh (x1).toNatClampNeg) + 3)] _ _ from ?_)
          obtain ⟨p5, hp5, h⟩ := zy_bind h
          refine zy_5 (c := (zy_sh (x1).toNatClampNeg)) (as := [.int (0 : Int32)]) (rest := []) (L := [some (.ref ((zy_sh (x1).toNatClampNeg) + 3)), some (.int (0 : Int32))]) (d' := 3) rfl rfl (zy_isSh_of (zy_in_lt c3)).1 (Nat.le_of_ble_eq_true rfl) (Nat.le_of_ble_eq_true rfl) rfl (Nat.le_of_ble_eq_true rfl) rfl rfl (zyC107 (zy_isSh_of (zy_in_lt c3)) hp5) ?_
          show zyR _ _ _ _ [some (.ref (0 + 3)), some (.int x1), some (.int x2), some (.int x3), none, none] [.int p5.1] _ _
          refine zy_23 rfl rfl (show zyR _ _ _ _ [some (.ref (0 + 3)), some (.int x1), some (.int x2), some (.int x3), some (.int p5.1), none] [] _ _ from ?_)
          refine zy_2 rfl rfl (show zyR _ _ _ _ [some (.ref (0 + 3)), some (.int x1), some (.int x2), some (.int x3), some (.int p5.1), none] [.int p5.1] _ _ from ?_)
          refine zy_24_0 rfl (fun b12 => (show zyR _ _ _ _ [some (.ref (0 + 3)), some (.int x1), some (.int x2), some (.int x3), some (.int p5.1), none] [] _ _ from ?_)) (fun b12 => (show zyR _ _ _ _ [some (.ref (0 + 3)), some (.int x1), some (.int x2), some (.int x3), some (.int p5.1), none] [] _ _ from ?_))
          · replace h := zy_ifp h b12
            refine zy_0 rfl rfl (show zyR _ _ _ _ [some (.ref (0 + 3)), some (.int x1), some (.int x2), some (.int x3), some (.int p5.1), none] [.ref (0 + 3)] _ _ from ?_)
            refine zy_1r (c := 0) rfl rfl rfl (show zyR _ _ _ _ [some (.ref (0 + 3)), some (.int x1), some (.int x2), some (.int x3), some (.int p5.1), none] [.ref (30 + 3)] _ _ from ?_)
            refine zy_2 rfl rfl (show zyR _ _ _ _ [some (.ref (0 + 3)), some (.int x1), some (.int x2), some (.int x3), some (.int p5.1), none] [.int x1, .ref (30 + 3)] _ _ from ?_)
            obtain ⟨c6, h⟩ := zy_if h
            obtain ⟨c7, h⟩ := zy_if h
            refine zy_28 rfl (zy_Wb_g c7) c6 (show zyR _ _ _ _ [some (.ref (0 + 3)), some (.int x1), some (.int x2), some (.int x3), some (.int p5.1), none] [.ref ((zy_sh (x1).toNatClampNeg) + 3)] _ _ from ?_)
            refine zy_2 rfl rfl (show zyR _ _ _ _ [some (.ref (0 + 3)), some (.int x1), some (.int x2), some (.int x3), some (.int p5.1), none] [.int x2, .ref ((zy_sh (x1).toNatClampNeg) + 3)] _ _ from ?_)
            obtain ⟨p8, hp8, h⟩ := zy_bind h
            refine zy_60 (as := [.ref ((zy_sh (x1).toNatClampNeg) + 3), .int x2]) (rest := []) (L := [some (.ref ((zy_sh (x1).toNatClampNeg) + 3)), some (.int x2), none, none]) (d' := 5) rfl rfl (Nat.le_of_ble_eq_true rfl) (Nat.le_of_ble_eq_true rfl) rfl (Nat.le_of_ble_eq_true rfl) rfl rfl (zyC113 (zy_isSh_of (zy_in_lt c6)) hp8) ?_
            show zyR _ _ _ _ [some (.ref (0 + 3)), some (.int x1), some (.int x2), some (.int x3), some (.int p5.1), none] [.int p8.1] _ _
            refine zy_23 rfl rfl (show zyR _ _ _ _ [some (.ref (0 + 3)), some (.int x1), some (.int x2), some (.int x3), some (.int p5.1), some (.int p8.1)] [] _ _ from ?_)
            refine zy_2 rfl rfl (show zyR _ _ _ _ [some (.ref (0 + 3)), some (.int x1), some (.int x2), some (.int x3), some (.int p5.1), some (.int p8.1)] [.int x3] _ _ from ?_)
            refine zy_24_1 rfl (fun b11 => (show zyR _ _ _ _ [some (.ref (0 + 3)), some (.int x1), some (.int x2), some (.int x3), some (.int p5.1), some (.int p8.1)] [] _ _ from ?_)) (fun b11 => (show zyR _ _ _ _ [some (.ref (0 + 3)), some (.int x1), some (.int x2), some (.int x3), some (.int p5.1), some (.int p8.1)] [] _ _ from ?_))
            · replace h := zy_ifp h b11
              refine zy_2 rfl rfl (show zyR _ _ _ _ [some (.ref (0 + 3)), some (.int x1), some (.int x2), some (.int x3), some (.int p5.1), some (.int p8.1)] [.int p8.1] _ _ from ?_)
              obtain ⟨p9, hp9, h⟩ := zy_bind h
              refine zy_60 (as := [.int p8.1]) (rest := []) (L := [some (.int p8.1), none]) (d' := 2) rfl rfl (Nat.le_of_ble_eq_true rfl) (Nat.le_of_ble_eq_true rfl) rfl (Nat.le_of_ble_eq_true rfl) rfl rfl (zyC115 hp9) ?_
              show zyR _ _ _ _ [some (.ref (0 + 3)), some (.int x1), some (.int x2), some (.int x3), some (.int p5.1), some (.int p8.1)] [.int p9.1] _ _
              cases h
              exact zy_4 rfl ⟨rfl, rfl⟩
            · replace h := zy_ifn h b11
              refine zy_2 rfl rfl (show zyR _ _ _ _ [some (.ref (0 + 3)), some (.int x1), some (.int x2), some (.int x3), some (.int p5.1), some (.int p8.1)] [.int p8.1] _ _ from ?_)
              obtain ⟨p10, hp10, h⟩ := zy_bind h
              refine zy_60 (as := [.int p8.1]) (rest := []) (L := [some (.int p8.1)]) (d' := 1) rfl rfl (Nat.le_of_ble_eq_true rfl) (Nat.le_of_ble_eq_true rfl) rfl (Nat.le_of_ble_eq_true rfl) rfl rfl (zyC63 hp10) ?_
              show zyR _ _ _ _ [some (.ref (0 + 3)), some (.int x1), some (.int x2), some (.int x3), some (.int p5.1), some (.int p8.1)] [.int p10.1] _ _
              cases h
              exact zy_4 rfl ⟨rfl, rfl⟩
          · replace h := zy_ifn h b12
            refine zy_2 rfl rfl (show zyR _ _ _ _ [some (.ref (0 + 3)), some (.int x1), some (.int x2), some (.int x3), some (.int p5.1), none] [.int p5.1] _ _ from ?_)
            cases h
            exact zy_4 rfl ⟨rfl, rfl⟩
        · replace h := zy_ifn h b13
          refine zy_3 rfl rfl (show zyR _ _ _ _ [some (.ref (0 + 3)), some (.int x1), some (.int x2), some (.int x3), none, none] [.int (-1 : Int32)] _ _ from ?_)
          cases h
          exact zy_4 rfl ⟨rfl, rfl⟩
/-! NineOpinionsModel.fitsView(III)Z -/
noncomputable def zyF232_96  (k3 : Int32 → Int32 → Int32 → Int32 → zy_S → Option (Int32 × zy_S)) (x1 : Int32) (x2 : Int32) (x3 : Int32) (x4 : Int32) (s : zy_S) : Option (Int32 × zy_S) :=
k3 x1 x2 x3 (x4 + (1 : Int32)) s
theorem zyC232_96 {X : zx_X}  {k3 : Int32 → Int32 → Int32 → Int32 → zy_S → Option (Int32 × zy_S)}  (hk3 : ∀ (x1 : Int32) (x2 : Int32) (x3 : Int32) (x4 : Int32) (s : zy_S) (r : Int32) (s' : zy_S), k3 x1 x2 x3 x4 s = some (r, s') → zyR X 3 232 3 [some (.ref (43 + 3)), some (.int x1), some (.int x2), some (.int x3), some (.int x4), none] [] s (zyE (some (.int r)) s')) {x1 : Int32} {x2 : Int32} {x3 : Int32} {x4 : Int32} {s : zy_S} {r : Int32} {s' : zy_S}  (h : zyF232_96 k3 x1 x2 x3 x4 s = some (r, s')) : zyR X 3 232 96 [some (.ref (43 + 3)), some (.int x1), some (.int x2), some (.int x3), some (.int x4), none] [] s (zyE (some (.int r)) s') := by
  unfold zyF232_96 at h
  refine zy_22 rfl rfl rfl rfl (show zyR _ _ _ _ [some (.ref (43 + 3)), some (.int x1), some (.int x2), some (.int x3), some (.int (x4 + (1 : Int32))), none] [] _ _ from ?_)
  refine zy_6 rfl (show zyR _ _ _ _ [some (.ref (43 + 3)), some (.int x1), some (.int x2), some (.int x3), some (.int (x4 + (1 : Int32))), none] [] _ _ from ?_)
  exact zy_sub (show zy_le [some (.ref (43 + 3)), some (.int x1), some (.int x2), some (.int x3), some (.int (x4 + (1 : Int32))), none] [some (.ref (43 + 3)), some (.int x1), some (.int x2), some (.int x3), some (.int (x4 + (1 : Int32))), none] from ⟨rfl, ⟨rfl, ⟨rfl, ⟨rfl, ⟨rfl, trivial⟩⟩⟩⟩⟩) (hk3 x1 x2 x3 (x4 + (1 : Int32)) s _ _ h)
noncomputable def zyF232_90  (k3 : Int32 → Int32 → Int32 → Int32 → zy_S → Option (Int32 × zy_S)) (x1 : Int32) (x2 : Int32) (x3 : Int32) (x4 : Int32) (y0 : Int64) (y1 : Int64) (s : zy_S) : Option (Int32 × zy_S) :=
if (lg_cmp y1 y0) = 0 then
zyF232_96 k3 x1 x2 x3 x4 s
else
some ((0 : Int32), s)
theorem zyC232_90 {X : zx_X}  {k3 : Int32 → Int32 → Int32 → Int32 → zy_S → Option (Int32 × zy_S)}  (hk3 : ∀ (x1 : Int32) (x2 : Int32) (x3 : Int32) (x4 : Int32) (s : zy_S) (r : Int32) (s' : zy_S), k3 x1 x2 x3 x4 s = some (r, s') → zyR X 3 232 3 [some (.ref (43 + 3)), some (.int x1), some (.int x2), some (.int x3), some (.int x4), none] [] s (zyE (some (.int r)) s')) {x1 : Int32} {x2 : Int32} {x3 : Int32} {x4 : Int32} {y0 : Int64} {y1 : Int64} {s : zy_S} {r : Int32} {s' : zy_S}  (h : zyF232_90 k3 x1 x2 x3 x4 y0 y1 s = some (r, s')) : zyR X 3 232 90 [some (.ref (43 + 3)), some (.int x1), some (.int x2), some (.int x3), some (.int x4), none] [.long y0, .long y1] s (zyE (some (.int r)) s') := by
  unfold zyF232_90 at h
  refine zy_44 rfl (show zyR _ _ _ _ [some (.ref (43 + 3)), some (.int x1), some (.int x2), some (.int x3), some (.int x4), none] [.int (lg_cmp y1 y0)] _ _ from ?_)
  refine zy_24_0 rfl (fun b1 => (show zyR _ _ _ _ [some (.ref (43 + 3)), some (.int x1), some (.int x2), some (.int x3), some (.int x4), none] [] _ _ from ?_)) (fun b1 => (show zyR _ _ _ _ [some (.ref (43 + 3)), some (.int x1), some (.int x2), some (.int x3), some (.int x4), none] [] _ _ from ?_))
  · replace h := zy_ifp h b1
    exact zy_sub (show zy_le [some (.ref (43 + 3)), some (.int x1), some (.int x2), some (.int x3), some (.int x4), none] [some (.ref (43 + 3)), some (.int x1), some (.int x2), some (.int x3), some (.int x4), none] from ⟨rfl, ⟨rfl, ⟨rfl, ⟨rfl, ⟨rfl, trivial⟩⟩⟩⟩⟩) (zyC232_96 hk3 h)
  · replace h := zy_ifn h b1
    refine zy_3 rfl rfl (show zyR _ _ _ _ [some (.ref (43 + 3)), some (.int x1), some (.int x2), some (.int x3), some (.int x4), none] [.int (0 : Int32)] _ _ from ?_)
    cases h
    exact zy_4b rfl ⟨rfl, rfl⟩ (Or.inl rfl)
noncomputable def zyF232_3b  (k3 : Int32 → Int32 → Int32 → Int32 → zy_S → Option (Int32 × zy_S)) (x1 : Int32) (x2 : Int32) (x3 : Int32) (x4 : Int32) (s : zy_S) : Option (Int32 × zy_S) :=
if zy_in x1 6 then
if (s.1 61 (x1).toNatClampNeg) ≤ (((2 : Int32) * x4) + (1 : Int32)) then
some ((1 : Int32), s)
else
if zy_in (((60 : Int32) * x1) + ((2 : Int32) * x4)) 360 then
(zyF186 (s.2.1 62 ((((60 : Int32) * x1) + ((2 : Int32) * x4))).toNatClampNeg) s).bind fun p4 =>
if p4.1 = 0 then
zyF232_96 k3 x1 x2 x3 x4 p4.2
else
if zy_in (((60 : Int32) * x1) + ((2 : Int32) * x4)) 360 then
if (lg_cmp ((p4.2.2.1 62 ((((60 : Int32) * x1) + ((2 : Int32) * x4))).toNatClampNeg) / (4 : Int64)) (x2).toInt64) ≠ 0 then
zyF232_96 k3 x1 x2 x3 x4 p4.2
else
if zy_in ((((60 : Int32) * x1) + ((2 : Int32) * x4)) + (1 : Int32)) 360 then
if zy_in (((60 : Int32) * x1) + ((2 : Int32) * x4)) 360 then
if (lg_cmp ((p4.2.2.1 62 ((((60 : Int32) * x1) + ((2 : Int32) * x4))).toNatClampNeg) - (p4.2.2.1 62 ((((60 : Int32) * x1) + ((2 : Int32) * x4))).toNatClampNeg) / (4 : Int64) * (4 : Int64)) (x3).toInt64) ≠ 0 then
zyF232_90 k3 x1 x2 x3 x4 (1 : Int64) (p4.2.2.1 62 (((((60 : Int32) * x1) + ((2 : Int32) * x4)) + (1 : Int32))).toNatClampNeg) p4.2
else
zyF232_90 k3 x1 x2 x3 x4 (0 : Int64) (p4.2.2.1 62 (((((60 : Int32) * x1) + ((2 : Int32) * x4)) + (1 : Int32))).toNatClampNeg) p4.2
else none
else none
else none
else none
else none
theorem zyC232_3b {X : zx_X}  {k3 : Int32 → Int32 → Int32 → Int32 → zy_S → Option (Int32 × zy_S)}  (hk3 : ∀ (x1 : Int32) (x2 : Int32) (x3 : Int32) (x4 : Int32) (s : zy_S) (r : Int32) (s' : zy_S), k3 x1 x2 x3 x4 s = some (r, s') → zyR X 3 232 3 [some (.ref (43 + 3)), some (.int x1), some (.int x2), some (.int x3), some (.int x4), none] [] s (zyE (some (.int r)) s')) {x1 : Int32} {x2 : Int32} {x3 : Int32} {x4 : Int32} {s : zy_S} {r : Int32} {s' : zy_S}  (h : zyF232_3b k3 x1 x2 x3 x4 s = some (r, s')) : zyR X 3 232 3 [some (.ref (43 + 3)), some (.int x1), some (.int x2), some (.int x3), some (.int x4), none] [] s (zyE (some (.int r)) s') := by
  unfold zyF232_3b at h
  refine zy_3 rfl rfl (show zyR _ _ _ _ [some (.ref (43 + 3)), some (.int x1), some (.int x2), some (.int x3), some (.int x4), none] [.int (2 : Int32)] _ _ from ?_)
  refine zy_2 rfl rfl (show zyR _ _ _ _ [some (.ref (43 + 3)), some (.int x1), some (.int x2), some (.int x3), some (.int x4), none] [.int x4, .int (2 : Int32)] _ _ from ?_)
  refine zy_12 rfl (show zyR _ _ _ _ [some (.ref (43 + 3)), some (.int x1), some (.int x2), some (.int x3), some (.int x4), none] [.int ((2 : Int32) * x4)] _ _ from ?_)
  refine zy_3 rfl rfl (show zyR _ _ _ _ [some (.ref (43 + 3)), some (.int x1), some (.int x2), some (.int x3), some (.int x4), none] [.int (1 : Int32), .int ((2 : Int32) * x4)] _ _ from ?_)
  refine zy_10 rfl (show zyR _ _ _ _ [some (.ref (43 + 3)), some (.int x1), some (.int x2), some (.int x3), some (.int x4), none] [.int (((2 : Int32) * x4) + (1 : Int32))] _ _ from ?_)
  refine zy_0 rfl rfl (show zyR _ _ _ _ [some (.ref (43 + 3)), some (.int x1), some (.int x2), some (.int x3), some (.int x4), none] [.ref (43 + 3), .int (((2 : Int32) * x4) + (1 : Int32))] _ _ from ?_)
  refine zy_1r (c := 43) rfl rfl rfl (show zyR _ _ _ _ [some (.ref (43 + 3)), some (.int x1), some (.int x2), some (.int x3), some (.int x4), none] [.ref (61 + 3), .int (((2 : Int32) * x4) + (1 : Int32))] _ _ from ?_)
  refine zy_2 rfl rfl (show zyR _ _ _ _ [some (.ref (43 + 3)), some (.int x1), some (.int x2), some (.int x3), some (.int x4), none] [.int x1, .ref (61 + 3), .int (((2 : Int32) * x4) + (1 : Int32))] _ _ from ?_)
  obtain ⟨c2, h⟩ := zy_if h
  refine zy_26 (c := 61) rfl rfl c2 (show zyR _ _ _ _ [some (.ref (43 + 3)), some (.int x1), some (.int x2), some (.int x3), some (.int x4), none] [.int (s.1 61 (x1).toNatClampNeg), .int (((2 : Int32) * x4) + (1 : Int32))] _ _ from ?_)
  refine zy_25_3 rfl (fun b11 => (show zyR _ _ _ _ [some (.ref (43 + 3)), some (.int x1), some (.int x2), some (.int x3), some (.int x4), none] [] _ _ from ?_)) (fun b11 => (show zyR _ _ _ _ [some (.ref (43 + 3)), some (.int x1), some (.int x2), some (.int x3), some (.int x4), none] [] _ _ from ?_))
  · replace h := zy_ifp h b11
    refine zy_3 rfl rfl (show zyR _ _ _ _ [some (.ref (43 + 3)), some (.int x1), some (.int x2), some (.int x3), some (.int x4), none] [.int (1 : Int32)] _ _ from ?_)
    cases h
    exact zy_4b rfl ⟨rfl, rfl⟩ (Or.inr rfl)
  · replace h := zy_ifn h b11
    refine zy_3 rfl rfl (show zyR _ _ _ _ [some (.ref (43 + 3)), some (.int x1), some (.int x2), some (.int x3), some (.int x4), none] [.int (60 : Int32)] _ _ from ?_)
    refine zy_2 rfl rfl (show zyR _ _ _ _ [some (.ref (43 + 3)), some (.int x1), some (.int x2), some (.int x3), some (.int x4), none] [.int x1, .int (60 : Int32)] _ _ from ?_)
    refine zy_12 rfl (show zyR _ _ _ _ [some (.ref (43 + 3)), some (.int x1), some (.int x2), some (.int x3), some (.int x4), none] [.int ((60 : Int32) * x1)] _ _ from ?_)
    refine zy_3 rfl rfl (show zyR _ _ _ _ [some (.ref (43 + 3)), some (.int x1), some (.int x2), some (.int x3), some (.int x4), none] [.int (2 : Int32), .int ((60 : Int32) * x1)] _ _ from ?_)
    refine zy_2 rfl rfl (show zyR _ _ _ _ [some (.ref (43 + 3)), some (.int x1), some (.int x2), some (.int x3), some (.int x4), none] [.int x4, .int (2 : Int32), .int ((60 : Int32) * x1)] _ _ from ?_)
    refine zy_12 rfl (show zyR _ _ _ _ [some (.ref (43 + 3)), some (.int x1), some (.int x2), some (.int x3), some (.int x4), none] [.int ((2 : Int32) * x4), .int ((60 : Int32) * x1)] _ _ from ?_)
    refine zy_10 rfl (show zyR _ _ _ _ [some (.ref (43 + 3)), some (.int x1), some (.int x2), some (.int x3), some (.int x4), none] [.int (((60 : Int32) * x1) + ((2 : Int32) * x4))] _ _ from ?_)
    refine zy_23 rfl rfl (show zyR _ _ _ _ [some (.ref (43 + 3)), some (.int x1), some (.int x2), some (.int x3), some (.int x4), some (.int (((60 : Int32) * x1) + ((2 : Int32) * x4)))] [] _ _ from ?_)
    refine zy_0 rfl rfl (show zyR _ _ _ _ [some (.ref (43 + 3)), some (.int x1), some (.int x2), some (.int x3), some (.int x4), some (.int (((60 : Int32) * x1) + ((2 : Int32) * x4)))] [.ref (43 + 3)] _ _ from ?_)
    refine zy_1r (c := 43) rfl rfl rfl (show zyR _ _ _ _ [some (.ref (43 + 3)), some (.int x1), some (.int x2), some (.int x3), some (.int x4), some (.int (((60 : Int32) * x1) + ((2 : Int32) * x4)))] [.ref (62 + 3)] _ _ from ?_)
    refine zy_2 rfl rfl (show zyR _ _ _ _ [some (.ref (43 + 3)), some (.int x1), some (.int x2), some (.int x3), some (.int x4), some (.int (((60 : Int32) * x1) + ((2 : Int32) * x4)))] [.int (((60 : Int32) * x1) + ((2 : Int32) * x4)), .ref (62 + 3)] _ _ from ?_)
    obtain ⟨c3, h⟩ := zy_if h
    refine zy_30 (c := 62) rfl rfl c3 (show zyR _ _ _ _ [some (.ref (43 + 3)), some (.int x1), some (.int x2), some (.int x3), some (.int x4), some (.int (((60 : Int32) * x1) + ((2 : Int32) * x4)))] [.long (s.2.1 62 ((((60 : Int32) * x1) + ((2 : Int32) * x4))).toNatClampNeg)] _ _ from ?_)
    obtain ⟨p4, hp4, h⟩ := zy_bind h
    refine zy_60 (as := [.long (s.2.1 62 ((((60 : Int32) * x1) + ((2 : Int32) * x4))).toNatClampNeg)]) (rest := []) (L := [some (.long (s.2.1 62 ((((60 : Int32) * x1) + ((2 : Int32) * x4))).toNatClampNeg)), none]) (d' := 2) rfl rfl (Nat.le_of_ble_eq_true rfl) (Nat.le_of_ble_eq_true rfl) rfl (Nat.le_of_ble_eq_true rfl) rfl rfl (zyC186 hp4) ?_
    show zyR _ _ _ _ [some (.ref (43 + 3)), some (.int x1), some (.int x2), some (.int x3), some (.int x4), some (.int (((60 : Int32) * x1) + ((2 : Int32) * x4)))] [.int p4.1] _ _
    refine zy_24_0 rfl (fun b10 => (show zyR _ _ _ _ [some (.ref (43 + 3)), some (.int x1), some (.int x2), some (.int x3), some (.int x4), some (.int (((60 : Int32) * x1) + ((2 : Int32) * x4)))] [] _ _ from ?_)) (fun b10 => (show zyR _ _ _ _ [some (.ref (43 + 3)), some (.int x1), some (.int x2), some (.int x3), some (.int x4), some (.int (((60 : Int32) * x1) + ((2 : Int32) * x4)))] [] _ _ from ?_))
    · replace h := zy_ifp h b10
      exact zy_sub (show zy_le [some (.ref (43 + 3)), some (.int x1), some (.int x2), some (.int x3), some (.int x4), none] [some (.ref (43 + 3)), some (.int x1), some (.int x2), some (.int x3), some (.int x4), some (.int (((60 : Int32) * x1) + ((2 : Int32) * x4)))] from ⟨rfl, ⟨rfl, ⟨rfl, ⟨rfl, ⟨rfl, trivial⟩⟩⟩⟩⟩) (zyC232_96 hk3 h)
    · replace h := zy_ifn h b10
      refine zy_0 rfl rfl (show zyR _ _ _ _ [some (.ref (43 + 3)), some (.int x1), some (.int x2), some (.int x3), some (.int x4), some (.int (((60 : Int32) * x1) + ((2 : Int32) * x4)))] [.ref (43 + 3)] _ _ from ?_)
      refine zy_1r (c := 43) rfl rfl rfl (show zyR _ _ _ _ [some (.ref (43 + 3)), some (.int x1), some (.int x2), some (.int x3), some (.int x4), some (.int (((60 : Int32) * x1) + ((2 : Int32) * x4)))] [.ref (62 + 3)] _ _ from ?_)
      refine zy_2 rfl rfl (show zyR _ _ _ _ [some (.ref (43 + 3)), some (.int x1), some (.int x2), some (.int x3), some (.int x4), some (.int (((60 : Int32) * x1) + ((2 : Int32) * x4)))] [.int (((60 : Int32) * x1) + ((2 : Int32) * x4)), .ref (62 + 3)] _ _ from ?_)
      obtain ⟨c5, h⟩ := zy_if h
      refine zy_30 (c := 62) rfl rfl c5 (show zyR _ _ _ _ [some (.ref (43 + 3)), some (.int x1), some (.int x2), some (.int x3), some (.int x4), some (.int (((60 : Int32) * x1) + ((2 : Int32) * x4)))] [.long (p4.2.2.1 62 ((((60 : Int32) * x1) + ((2 : Int32) * x4))).toNatClampNeg)] _ _ from ?_)
      refine zy_36c rfl rfl (show zyR _ _ _ _ [some (.ref (43 + 3)), some (.int x1), some (.int x2), some (.int x3), some (.int x4), some (.int (((60 : Int32) * x1) + ((2 : Int32) * x4)))] [.long (4 : Int64), .long (p4.2.2.1 62 ((((60 : Int32) * x1) + ((2 : Int32) * x4))).toNatClampNeg)] _ _ from ?_)
      refine zy_48 rfl (by decide) (show zyR _ _ _ _ [some (.ref (43 + 3)), some (.int x1), some (.int x2), some (.int x3), some (.int x4), some (.int (((60 : Int32) * x1) + ((2 : Int32) * x4)))] [.long ((p4.2.2.1 62 ((((60 : Int32) * x1) + ((2 : Int32) * x4))).toNatClampNeg) / (4 : Int64))] _ _ from ?_)
      refine zy_2 rfl rfl (show zyR _ _ _ _ [some (.ref (43 + 3)), some (.int x1), some (.int x2), some (.int x3), some (.int x4), some (.int (((60 : Int32) * x1) + ((2 : Int32) * x4)))] [.int x2, .long ((p4.2.2.1 62 ((((60 : Int32) * x1) + ((2 : Int32) * x4))).toNatClampNeg) / (4 : Int64))] _ _ from ?_)
      refine zy_40 rfl (show zyR _ _ _ _ [some (.ref (43 + 3)), some (.int x1), some (.int x2), some (.int x3), some (.int x4), some (.int (((60 : Int32) * x1) + ((2 : Int32) * x4)))] [.long (x2).toInt64, .long ((p4.2.2.1 62 ((((60 : Int32) * x1) + ((2 : Int32) * x4))).toNatClampNeg) / (4 : Int64))] _ _ from ?_)
      refine zy_44 rfl (show zyR _ _ _ _ [some (.ref (43 + 3)), some (.int x1), some (.int x2), some (.int x3), some (.int x4), some (.int (((60 : Int32) * x1) + ((2 : Int32) * x4)))] [.int (lg_cmp ((p4.2.2.1 62 ((((60 : Int32) * x1) + ((2 : Int32) * x4))).toNatClampNeg) / (4 : Int64)) (x2).toInt64)] _ _ from ?_)
      refine zy_24_1 rfl (fun b9 => (show zyR _ _ _ _ [some (.ref (43 + 3)), some (.int x1), some (.int x2), some (.int x3), some (.int x4), some (.int (((60 : Int32) * x1) + ((2 : Int32) * x4)))] [] _ _ from ?_)) (fun b9 => (show zyR _ _ _ _ [some (.ref (43 + 3)), some (.int x1), some (.int x2), some (.int x3), some (.int x4), some (.int (((60 : Int32) * x1) + ((2 : Int32) * x4)))] [] _ _ from ?_))
      · replace h := zy_ifp h b9
        exact zy_sub (show zy_le [some (.ref (43 + 3)), some (.int x1), some (.int x2), some (.int x3), some (.int x4), none] [some (.ref (43 + 3)), some (.int x1), some (.int x2), some (.int x3), some (.int x4), some (.int (((60 : Int32) * x1) + ((2 : Int32) * x4)))] from ⟨rfl, ⟨rfl, ⟨rfl, ⟨rfl, ⟨rfl, trivial⟩⟩⟩⟩⟩) (zyC232_96 hk3 h)
      · replace h := zy_ifn h b9
        refine zy_0 rfl rfl (show zyR _ _ _ _ [some (.ref (43 + 3)), some (.int x1), some (.int x2), some (.int x3), some (.int x4), some (.int (((60 : Int32) * x1) + ((2 : Int32) * x4)))] [.ref (43 + 3)] _ _ from ?_)
        refine zy_1r (c := 43) rfl rfl rfl (show zyR _ _ _ _ [some (.ref (43 + 3)), some (.int x1), some (.int x2), some (.int x3), some (.int x4), some (.int (((60 : Int32) * x1) + ((2 : Int32) * x4)))] [.ref (62 + 3)] _ _ from ?_)
        refine zy_2 rfl rfl (show zyR _ _ _ _ [some (.ref (43 + 3)), some (.int x1), some (.int x2), some (.int x3), some (.int x4), some (.int (((60 : Int32) * x1) + ((2 : Int32) * x4)))] [.int (((60 : Int32) * x1) + ((2 : Int32) * x4)), .ref (62 + 3)] _ _ from ?_)
        refine zy_3 rfl rfl (show zyR _ _ _ _ [some (.ref (43 + 3)), some (.int x1), some (.int x2), some (.int x3), some (.int x4), some (.int (((60 : Int32) * x1) + ((2 : Int32) * x4)))] [.int (1 : Int32), .int (((60 : Int32) * x1) + ((2 : Int32) * x4)), .ref (62 + 3)] _ _ from ?_)
        refine zy_10 rfl (show zyR _ _ _ _ [some (.ref (43 + 3)), some (.int x1), some (.int x2), some (.int x3), some (.int x4), some (.int (((60 : Int32) * x1) + ((2 : Int32) * x4)))] [.int ((((60 : Int32) * x1) + ((2 : Int32) * x4)) + (1 : Int32)), .ref (62 + 3)] _ _ from ?_)
        obtain ⟨c6, h⟩ := zy_if h
        refine zy_30 (c := 62) rfl rfl c6 (show zyR _ _ _ _ [some (.ref (43 + 3)), some (.int x1), some (.int x2), some (.int x3), some (.int x4), some (.int (((60 : Int32) * x1) + ((2 : Int32) * x4)))] [.long (p4.2.2.1 62 (((((60 : Int32) * x1) + ((2 : Int32) * x4)) + (1 : Int32))).toNatClampNeg)] _ _ from ?_)
        refine zy_0 rfl rfl (show zyR _ _ _ _ [some (.ref (43 + 3)), some (.int x1), some (.int x2), some (.int x3), some (.int x4), some (.int (((60 : Int32) * x1) + ((2 : Int32) * x4)))] [.ref (43 + 3), .long (p4.2.2.1 62 (((((60 : Int32) * x1) + ((2 : Int32) * x4)) + (1 : Int32))).toNatClampNeg)] _ _ from ?_)
        refine zy_1r (c := 43) rfl rfl rfl (show zyR _ _ _ _ [some (.ref (43 + 3)), some (.int x1), some (.int x2), some (.int x3), some (.int x4), some (.int (((60 : Int32) * x1) + ((2 : Int32) * x4)))] [.ref (62 + 3), .long (p4.2.2.1 62 (((((60 : Int32) * x1) + ((2 : Int32) * x4)) + (1 : Int32))).toNatClampNeg)] _ _ from ?_)
        refine zy_2 rfl rfl (show zyR _ _ _ _ [some (.ref (43 + 3)), some (.int x1), some (.int x2), some (.int x3), some (.int x4), some (.int (((60 : Int32) * x1) + ((2 : Int32) * x4)))] [.int (((60 : Int32) * x1) + ((2 : Int32) * x4)), .ref (62 + 3), .long (p4.2.2.1 62 (((((60 : Int32) * x1) + ((2 : Int32) * x4)) + (1 : Int32))).toNatClampNeg)] _ _ from ?_)
        obtain ⟨c7, h⟩ := zy_if h
        refine zy_30 (c := 62) rfl rfl c7 (show zyR _ _ _ _ [some (.ref (43 + 3)), some (.int x1), some (.int x2), some (.int x3), some (.int x4), some (.int (((60 : Int32) * x1) + ((2 : Int32) * x4)))] [.long (p4.2.2.1 62 ((((60 : Int32) * x1) + ((2 : Int32) * x4))).toNatClampNeg), .long (p4.2.2.1 62 (((((60 : Int32) * x1) + ((2 : Int32) * x4)) + (1 : Int32))).toNatClampNeg)] _ _ from ?_)
        refine zy_36c rfl rfl (show zyR _ _ _ _ [some (.ref (43 + 3)), some (.int x1), some (.int x2), some (.int x3), some (.int x4), some (.int (((60 : Int32) * x1) + ((2 : Int32) * x4)))] [.long (4 : Int64), .long (p4.2.2.1 62 ((((60 : Int32) * x1) + ((2 : Int32) * x4))).toNatClampNeg), .long (p4.2.2.1 62 (((((60 : Int32) * x1) + ((2 : Int32) * x4)) + (1 : Int32))).toNatClampNeg)] _ _ from ?_)
        refine zy_49 rfl (by decide) (show zyR _ _ _ _ [some (.ref (43 + 3)), some (.int x1), some (.int x2), some (.int x3), some (.int x4), some (.int (((60 : Int32) * x1) + ((2 : Int32) * x4)))] [.long ((p4.2.2.1 62 ((((60 : Int32) * x1) + ((2 : Int32) * x4))).toNatClampNeg) - (p4.2.2.1 62 ((((60 : Int32) * x1) + ((2 : Int32) * x4))).toNatClampNeg) / (4 : Int64) * (4 : Int64)), .long (p4.2.2.1 62 (((((60 : Int32) * x1) + ((2 : Int32) * x4)) + (1 : Int32))).toNatClampNeg)] _ _ from ?_)
        refine zy_2 rfl rfl (show zyR _ _ _ _ [some (.ref (43 + 3)), some (.int x1), some (.int x2), some (.int x3), some (.int x4), some (.int (((60 : Int32) * x1) + ((2 : Int32) * x4)))] [.int x3, .long ((p4.2.2.1 62 ((((60 : Int32) * x1) + ((2 : Int32) * x4))).toNatClampNeg) - (p4.2.2.1 62 ((((60 : Int32) * x1) + ((2 : Int32) * x4))).toNatClampNeg) / (4 : Int64) * (4 : Int64)), .long (p4.2.2.1 62 (((((60 : Int32) * x1) + ((2 : Int32) * x4)) + (1 : Int32))).toNatClampNeg)] _ _ from ?_)
        refine zy_40 rfl (show zyR _ _ _ _ [some (.ref (43 + 3)), some (.int x1), some (.int x2), some (.int x3), some (.int x4), some (.int (((60 : Int32) * x1) + ((2 : Int32) * x4)))] [.long (x3).toInt64, .long ((p4.2.2.1 62 ((((60 : Int32) * x1) + ((2 : Int32) * x4))).toNatClampNeg) - (p4.2.2.1 62 ((((60 : Int32) * x1) + ((2 : Int32) * x4))).toNatClampNeg) / (4 : Int64) * (4 : Int64)), .long (p4.2.2.1 62 (((((60 : Int32) * x1) + ((2 : Int32) * x4)) + (1 : Int32))).toNatClampNeg)] _ _ from ?_)
        refine zy_44 rfl (show zyR _ _ _ _ [some (.ref (43 + 3)), some (.int x1), some (.int x2), some (.int x3), some (.int x4), some (.int (((60 : Int32) * x1) + ((2 : Int32) * x4)))] [.int (lg_cmp ((p4.2.2.1 62 ((((60 : Int32) * x1) + ((2 : Int32) * x4))).toNatClampNeg) - (p4.2.2.1 62 ((((60 : Int32) * x1) + ((2 : Int32) * x4))).toNatClampNeg) / (4 : Int64) * (4 : Int64)) (x3).toInt64), .long (p4.2.2.1 62 (((((60 : Int32) * x1) + ((2 : Int32) * x4)) + (1 : Int32))).toNatClampNeg)] _ _ from ?_)
        refine zy_24_1 rfl (fun b8 => (show zyR _ _ _ _ [some (.ref (43 + 3)), some (.int x1), some (.int x2), some (.int x3), some (.int x4), some (.int (((60 : Int32) * x1) + ((2 : Int32) * x4)))] [.long (p4.2.2.1 62 (((((60 : Int32) * x1) + ((2 : Int32) * x4)) + (1 : Int32))).toNatClampNeg)] _ _ from ?_)) (fun b8 => (show zyR _ _ _ _ [some (.ref (43 + 3)), some (.int x1), some (.int x2), some (.int x3), some (.int x4), some (.int (((60 : Int32) * x1) + ((2 : Int32) * x4)))] [.long (p4.2.2.1 62 (((((60 : Int32) * x1) + ((2 : Int32) * x4)) + (1 : Int32))).toNatClampNeg)] _ _ from ?_))
        · replace h := zy_ifp h b8
          refine zy_36 rfl rfl (show zyR _ _ _ _ [some (.ref (43 + 3)), some (.int x1), some (.int x2), some (.int x3), some (.int x4), some (.int (((60 : Int32) * x1) + ((2 : Int32) * x4)))] [.long (1 : Int64), .long (p4.2.2.1 62 (((((60 : Int32) * x1) + ((2 : Int32) * x4)) + (1 : Int32))).toNatClampNeg)] _ _ from ?_)
          exact zy_sub (show zy_le [some (.ref (43 + 3)), some (.int x1), some (.int x2), some (.int x3), some (.int x4), none] [some (.ref (43 + 3)), some (.int x1), some (.int x2), some (.int x3), some (.int x4), some (.int (((60 : Int32) * x1) + ((2 : Int32) * x4)))] from ⟨rfl, ⟨rfl, ⟨rfl, ⟨rfl, ⟨rfl, trivial⟩⟩⟩⟩⟩) (zyC232_90 hk3 h)
        · replace h := zy_ifn h b8
          refine zy_36 rfl rfl (show zyR _ _ _ _ [some (.ref (43 + 3)), some (.int x1), some (.int x2), some (.int x3), some (.int x4), some (.int (((60 : Int32) * x1) + ((2 : Int32) * x4)))] [.long (0 : Int64), .long (p4.2.2.1 62 (((((60 : Int32) * x1) + ((2 : Int32) * x4)) + (1 : Int32))).toNatClampNeg)] _ _ from ?_)
          refine zy_6 rfl (show zyR _ _ _ _ [some (.ref (43 + 3)), some (.int x1), some (.int x2), some (.int x3), some (.int x4), some (.int (((60 : Int32) * x1) + ((2 : Int32) * x4)))] [.long (0 : Int64), .long (p4.2.2.1 62 (((((60 : Int32) * x1) + ((2 : Int32) * x4)) + (1 : Int32))).toNatClampNeg)] _ _ from ?_)
          exact zy_sub (show zy_le [some (.ref (43 + 3)), some (.int x1), some (.int x2), some (.int x3), some (.int x4), none] [some (.ref (43 + 3)), some (.int x1), some (.int x2), some (.int x3), some (.int x4), some (.int (((60 : Int32) * x1) + ((2 : Int32) * x4)))] from ⟨rfl, ⟨rfl, ⟨rfl, ⟨rfl, ⟨rfl, trivial⟩⟩⟩⟩⟩) (zyC232_90 hk3 h)
noncomputable def zyF232_3   (n : Nat) : Int32 → Int32 → Int32 → Int32 → zy_S → Option (Int32 × zy_S) := Nat.rec (fun _ _ _ _ _ => none) (fun _ k3 => zyF232_3b k3) n
theorem zyC232_3 {X : zx_X}     : ∀ (n : Nat) (x1 : Int32) (x2 : Int32) (x3 : Int32) (x4 : Int32) (s : zy_S) (r : Int32) (s' : zy_S), zyF232_3 n x1 x2 x3 x4 s = some (r, s') → zyR X 3 232 3 [some (.ref (43 + 3)), some (.int x1), some (.int x2), some (.int x3), some (.int x4), none] [] s (zyE (some (.int r)) s')
  | 0, _, _, _, _ => by
    intro s r s'  h
    have h : (none : Option (Int32 × zy_S)) = some (r, s') := h
    cases h
  | n + 1, x1, x2, x3, x4 => by
    intro s r s'  h
    exact zyC232_3b (k3 := zyF232_3 n) (fun x1 x2 x3 x4 s r s'  h => zyC232_3  n x1 x2 x3 x4 s r s'  h) h
noncomputable def zyF232   (x1 : Int32) (x2 : Int32) (x3 : Int32) (s : zy_S) : Option (Int32 × zy_S) :=
zyF232_3 zy_fu x1 x2 x3 (0 : Int32) s
theorem zyC232 {X : zx_X}     {x1 : Int32} {x2 : Int32} {x3 : Int32} {s : zy_S} {r : Int32} {s' : zy_S}  (h : zyF232 x1 x2 x3 s = some (r, s')) : zyR X 3 232 0 [some (.ref (43 + 3)), some (.int x1), some (.int x2), some (.int x3), none, none] [] s (zyE (some (.int r)) s') := by
  unfold zyF232 at h
  refine zy_3 rfl rfl (show zyR _ _ _ _ [some (.ref (43 + 3)), some (.int x1), some (.int x2), some (.int x3), none, none] [.int (0 : Int32)] _ _ from ?_)
  refine zy_23 rfl rfl (show zyR _ _ _ _ [some (.ref (43 + 3)), some (.int x1), some (.int x2), some (.int x3), some (.int (0 : Int32)), none] [] _ _ from ?_)
  exact zy_sub (show zy_le [some (.ref (43 + 3)), some (.int x1), some (.int x2), some (.int x3), some (.int (0 : Int32)), none] [some (.ref (43 + 3)), some (.int x1), some (.int x2), some (.int x3), some (.int (0 : Int32)), none] from ⟨rfl, ⟨rfl, ⟨rfl, ⟨rfl, ⟨rfl, trivial⟩⟩⟩⟩⟩) (zyC232_3 zy_fu x1 x2 x3 (0 : Int32) s _ _ h)
/-! NineOpinionsModel.believes(III)I -/
noncomputable def zyF231_91  (k57 : Int32 → Int32 → Int32 → Int32 → Int32 → Int32 → zy_S → Option (Int32 × zy_S)) (x1 : Int32) (x2 : Int32) (x3 : Int32) (x4 : Int32) (x5 : Int32) (x6 : Int32) (s : zy_S) : Option (Int32 × zy_S) :=
k57 x1 x2 x3 x4 x5 (x6 + (1 : Int32)) s
theorem zyC231_91 {X : zx_X}  {k57 : Int32 → Int32 → Int32 → Int32 → Int32 → Int32 → zy_S → Option (Int32 × zy_S)}  (hk57 : ∀ (x1 : Int32) (x2 : Int32) (x3 : Int32) (x4 : Int32) (x5 : Int32) (x6 : Int32) (s : zy_S) (r : Int32) (s' : zy_S), k57 x1 x2 x3 x4 x5 x6 s = some (r, s') → zyR X 4 231 57 [some (.ref (43 + 3)), some (.int x1), some (.int x2), some (.int x3), some (.int x4), some (.int x5), some (.int x6)] [] s (zyE (some (.int r)) s')) {x1 : Int32} {x2 : Int32} {x3 : Int32} {x4 : Int32} {x5 : Int32} {x6 : Int32} {s : zy_S} {r : Int32} {s' : zy_S}  (h : zyF231_91 k57 x1 x2 x3 x4 x5 x6 s = some (r, s')) : zyR X 4 231 91 [some (.ref (43 + 3)), some (.int x1), some (.int x2), some (.int x3), some (.int x4), some (.int x5), some (.int x6)] [] s (zyE (some (.int r)) s') := by
  unfold zyF231_91 at h
  refine zy_22 rfl rfl rfl rfl (show zyR _ _ _ _ [some (.ref (43 + 3)), some (.int x1), some (.int x2), some (.int x3), some (.int x4), some (.int x5), some (.int (x6 + (1 : Int32)))] [] _ _ from ?_)
  refine zy_6 rfl (show zyR _ _ _ _ [some (.ref (43 + 3)), some (.int x1), some (.int x2), some (.int x3), some (.int x4), some (.int x5), some (.int (x6 + (1 : Int32)))] [] _ _ from ?_)
  exact zy_sub (show zy_le [some (.ref (43 + 3)), some (.int x1), some (.int x2), some (.int x3), some (.int x4), some (.int x5), some (.int (x6 + (1 : Int32)))] [some (.ref (43 + 3)), some (.int x1), some (.int x2), some (.int x3), some (.int x4), some (.int x5), some (.int (x6 + (1 : Int32)))] from ⟨rfl, ⟨rfl, ⟨rfl, ⟨rfl, ⟨rfl, ⟨rfl, ⟨rfl, trivial⟩⟩⟩⟩⟩⟩⟩) (hk57 x1 x2 x3 x4 x5 (x6 + (1 : Int32)) s _ _ h)
noncomputable def zyF231_86  (k57 : Int32 → Int32 → Int32 → Int32 → Int32 → Int32 → zy_S → Option (Int32 × zy_S)) (x1 : Int32) (x2 : Int32) (x3 : Int32) (x4 : Int32) (x6 : Int32) (y0 : Int32) (s : zy_S) : Option (Int32 × zy_S) :=
zyF231_91 k57 x1 x2 x3 (x4 + (1 : Int32)) y0 x6 s
theorem zyC231_86 {X : zx_X}  {k57 : Int32 → Int32 → Int32 → Int32 → Int32 → Int32 → zy_S → Option (Int32 × zy_S)}  (hk57 : ∀ (x1 : Int32) (x2 : Int32) (x3 : Int32) (x4 : Int32) (x5 : Int32) (x6 : Int32) (s : zy_S) (r : Int32) (s' : zy_S), k57 x1 x2 x3 x4 x5 x6 s = some (r, s') → zyR X 4 231 57 [some (.ref (43 + 3)), some (.int x1), some (.int x2), some (.int x3), some (.int x4), some (.int x5), some (.int x6)] [] s (zyE (some (.int r)) s')) {x1 : Int32} {x2 : Int32} {x3 : Int32} {x4 : Int32} {x6 : Int32} {y0 : Int32} {s : zy_S} {r : Int32} {s' : zy_S}  (h : zyF231_86 k57 x1 x2 x3 x4 x6 y0 s = some (r, s')) : zyR X 4 231 86 [some (.ref (43 + 3)), some (.int x1), some (.int x2), some (.int x3), some (.int x4), none, some (.int x6)] [.int y0] s (zyE (some (.int r)) s') := by
  unfold zyF231_86 at h
  refine zy_23 rfl rfl (show zyR _ _ _ _ [some (.ref (43 + 3)), some (.int x1), some (.int x2), some (.int x3), some (.int x4), some (.int y0), some (.int x6)] [] _ _ from ?_)
  refine zy_22 rfl rfl rfl rfl (show zyR _ _ _ _ [some (.ref (43 + 3)), some (.int x1), some (.int x2), some (.int x3), some (.int (x4 + (1 : Int32))), some (.int y0), some (.int x6)] [] _ _ from ?_)
  exact zy_sub (show zy_le [some (.ref (43 + 3)), some (.int x1), some (.int x2), some (.int x3), some (.int (x4 + (1 : Int32))), some (.int y0), some (.int x6)] [some (.ref (43 + 3)), some (.int x1), some (.int x2), some (.int x3), some (.int (x4 + (1 : Int32))), some (.int y0), some (.int x6)] from ⟨rfl, ⟨rfl, ⟨rfl, ⟨rfl, ⟨rfl, ⟨rfl, ⟨rfl, trivial⟩⟩⟩⟩⟩⟩⟩) (zyC231_91 hk57 h)
noncomputable def zyF231_57b  (k57 : Int32 → Int32 → Int32 → Int32 → Int32 → Int32 → zy_S → Option (Int32 × zy_S)) (x1 : Int32) (x2 : Int32) (x3 : Int32) (x4 : Int32) (x5 : Int32) (x6 : Int32) (s : zy_S) : Option (Int32 × zy_S) :=
if (4 : Int32) ≤ x6 then
if x3 ≠ 0 then
some (x5, s)
else
some (x4, s)
else
(zyF232 x1 x2 x6 s).bind fun p2 =>
if p2.1 = 0 then
zyF231_91 k57 x1 x2 x3 x4 x5 x6 p2.2
else
if x4 ≠ 0 then
zyF231_86 k57 x1 x2 x3 x4 x6 x5 p2.2
else
zyF231_86 k57 x1 x2 x3 x4 x6 x6 p2.2
theorem zyC231_57b {X : zx_X}  {k57 : Int32 → Int32 → Int32 → Int32 → Int32 → Int32 → zy_S → Option (Int32 × zy_S)}  (hk57 : ∀ (x1 : Int32) (x2 : Int32) (x3 : Int32) (x4 : Int32) (x5 : Int32) (x6 : Int32) (s : zy_S) (r : Int32) (s' : zy_S), k57 x1 x2 x3 x4 x5 x6 s = some (r, s') → zyR X 4 231 57 [some (.ref (43 + 3)), some (.int x1), some (.int x2), some (.int x3), some (.int x4), some (.int x5), some (.int x6)] [] s (zyE (some (.int r)) s')) {x1 : Int32} {x2 : Int32} {x3 : Int32} {x4 : Int32} {x5 : Int32} {x6 : Int32} {s : zy_S} {r : Int32} {s' : zy_S}  (h : zyF231_57b k57 x1 x2 x3 x4 x5 x6 s = some (r, s')) : zyR X 4 231 57 [some (.ref (43 + 3)), some (.int x1), some (.int x2), some (.int x3), some (.int x4), some (.int x5), some (.int x6)] [] s (zyE (some (.int r)) s') := by
  unfold zyF231_57b at h
  refine zy_2 rfl rfl (show zyR _ _ _ _ [some (.ref (43 + 3)), some (.int x1), some (.int x2), some (.int x3), some (.int x4), some (.int x5), some (.int x6)] [.int x6] _ _ from ?_)
  refine zy_3 rfl rfl (show zyR _ _ _ _ [some (.ref (43 + 3)), some (.int x1), some (.int x2), some (.int x3), some (.int x4), some (.int x5), some (.int x6)] [.int (4 : Int32), .int x6] _ _ from ?_)
  refine zy_25_3 rfl (fun b5 => (show zyR _ _ _ _ [some (.ref (43 + 3)), some (.int x1), some (.int x2), some (.int x3), some (.int x4), some (.int x5), some (.int x6)] [] _ _ from ?_)) (fun b5 => (show zyR _ _ _ _ [some (.ref (43 + 3)), some (.int x1), some (.int x2), some (.int x3), some (.int x4), some (.int x5), some (.int x6)] [] _ _ from ?_))
  · replace h := zy_ifp h b5
    refine zy_2 rfl rfl (show zyR _ _ _ _ [some (.ref (43 + 3)), some (.int x1), some (.int x2), some (.int x3), some (.int x4), some (.int x5), some (.int x6)] [.int x3] _ _ from ?_)
    refine zy_24_1 rfl (fun b1 => (show zyR _ _ _ _ [some (.ref (43 + 3)), some (.int x1), some (.int x2), some (.int x3), some (.int x4), some (.int x5), some (.int x6)] [] _ _ from ?_)) (fun b1 => (show zyR _ _ _ _ [some (.ref (43 + 3)), some (.int x1), some (.int x2), some (.int x3), some (.int x4), some (.int x5), some (.int x6)] [] _ _ from ?_))
    · replace h := zy_ifp h b1
      refine zy_2 rfl rfl (show zyR _ _ _ _ [some (.ref (43 + 3)), some (.int x1), some (.int x2), some (.int x3), some (.int x4), some (.int x5), some (.int x6)] [.int x5] _ _ from ?_)
      cases h
      exact zy_4 rfl ⟨rfl, rfl⟩
    · replace h := zy_ifn h b1
      refine zy_2 rfl rfl (show zyR _ _ _ _ [some (.ref (43 + 3)), some (.int x1), some (.int x2), some (.int x3), some (.int x4), some (.int x5), some (.int x6)] [.int x4] _ _ from ?_)
      refine zy_6 rfl (show zyR _ _ _ _ [some (.ref (43 + 3)), some (.int x1), some (.int x2), some (.int x3), some (.int x4), some (.int x5), some (.int x6)] [.int x4] _ _ from ?_)
      cases h
      exact zy_4 rfl ⟨rfl, rfl⟩
  · replace h := zy_ifn h b5
    refine zy_0 rfl rfl (show zyR _ _ _ _ [some (.ref (43 + 3)), some (.int x1), some (.int x2), some (.int x3), some (.int x4), some (.int x5), some (.int x6)] [.ref (43 + 3)] _ _ from ?_)
    refine zy_2 rfl rfl (show zyR _ _ _ _ [some (.ref (43 + 3)), some (.int x1), some (.int x2), some (.int x3), some (.int x4), some (.int x5), some (.int x6)] [.int x1, .ref (43 + 3)] _ _ from ?_)
    refine zy_2 rfl rfl (show zyR _ _ _ _ [some (.ref (43 + 3)), some (.int x1), some (.int x2), some (.int x3), some (.int x4), some (.int x5), some (.int x6)] [.int x2, .int x1, .ref (43 + 3)] _ _ from ?_)
    refine zy_2 rfl rfl (show zyR _ _ _ _ [some (.ref (43 + 3)), some (.int x1), some (.int x2), some (.int x3), some (.int x4), some (.int x5), some (.int x6)] [.int x6, .int x2, .int x1, .ref (43 + 3)] _ _ from ?_)
    obtain ⟨p2, hp2, h⟩ := zy_bind h
    refine zy_5 (c := 43) (as := [.int x1, .int x2, .int x6]) (rest := []) (L := [some (.ref (43 + 3)), some (.int x1), some (.int x2), some (.int x6), none, none]) (d' := 3) rfl rfl rfl (Nat.le_of_ble_eq_true rfl) (Nat.le_of_ble_eq_true rfl) rfl (Nat.le_of_ble_eq_true rfl) rfl rfl (zyC232 hp2) ?_
    show zyR _ _ _ _ [some (.ref (43 + 3)), some (.int x1), some (.int x2), some (.int x3), some (.int x4), some (.int x5), some (.int x6)] [.int p2.1] _ _
    refine zy_24_0 rfl (fun b4 => (show zyR _ _ _ _ [some (.ref (43 + 3)), some (.int x1), some (.int x2), some (.int x3), some (.int x4), some (.int x5), some (.int x6)] [] _ _ from ?_)) (fun b4 => (show zyR _ _ _ _ [some (.ref (43 + 3)), some (.int x1), some (.int x2), some (.int x3), some (.int x4), some (.int x5), some (.int x6)] [] _ _ from ?_))
    · replace h := zy_ifp h b4
      exact zy_sub (show zy_le [some (.ref (43 + 3)), some (.int x1), some (.int x2), some (.int x3), some (.int x4), some (.int x5), some (.int x6)] [some (.ref (43 + 3)), some (.int x1), some (.int x2), some (.int x3), some (.int x4), some (.int x5), some (.int x6)] from ⟨rfl, ⟨rfl, ⟨rfl, ⟨rfl, ⟨rfl, ⟨rfl, ⟨rfl, trivial⟩⟩⟩⟩⟩⟩⟩) (zyC231_91 hk57 h)
    · replace h := zy_ifn h b4
      refine zy_2 rfl rfl (show zyR _ _ _ _ [some (.ref (43 + 3)), some (.int x1), some (.int x2), some (.int x3), some (.int x4), some (.int x5), some (.int x6)] [.int x4] _ _ from ?_)
      refine zy_24_1 rfl (fun b3 => (show zyR _ _ _ _ [some (.ref (43 + 3)), some (.int x1), some (.int x2), some (.int x3), some (.int x4), some (.int x5), some (.int x6)] [] _ _ from ?_)) (fun b3 => (show zyR _ _ _ _ [some (.ref (43 + 3)), some (.int x1), some (.int x2), some (.int x3), some (.int x4), some (.int x5), some (.int x6)] [] _ _ from ?_))
      · replace h := zy_ifp h b3
        refine zy_2 rfl rfl (show zyR _ _ _ _ [some (.ref (43 + 3)), some (.int x1), some (.int x2), some (.int x3), some (.int x4), some (.int x5), some (.int x6)] [.int x5] _ _ from ?_)
        exact zy_sub (show zy_le [some (.ref (43 + 3)), some (.int x1), some (.int x2), some (.int x3), some (.int x4), none, some (.int x6)] [some (.ref (43 + 3)), some (.int x1), some (.int x2), some (.int x3), some (.int x4), some (.int x5), some (.int x6)] from ⟨rfl, ⟨rfl, ⟨rfl, ⟨rfl, ⟨rfl, ⟨rfl, trivial⟩⟩⟩⟩⟩⟩) (zyC231_86 hk57 h)
      · replace h := zy_ifn h b3
        refine zy_2 rfl rfl (show zyR _ _ _ _ [some (.ref (43 + 3)), some (.int x1), some (.int x2), some (.int x3), some (.int x4), some (.int x5), some (.int x6)] [.int x6] _ _ from ?_)
        refine zy_6 rfl (show zyR _ _ _ _ [some (.ref (43 + 3)), some (.int x1), some (.int x2), some (.int x3), some (.int x4), some (.int x5), some (.int x6)] [.int x6] _ _ from ?_)
        exact zy_sub (show zy_le [some (.ref (43 + 3)), some (.int x1), some (.int x2), some (.int x3), some (.int x4), none, some (.int x6)] [some (.ref (43 + 3)), some (.int x1), some (.int x2), some (.int x3), some (.int x4), some (.int x5), some (.int x6)] from ⟨rfl, ⟨rfl, ⟨rfl, ⟨rfl, ⟨rfl, ⟨rfl, trivial⟩⟩⟩⟩⟩⟩) (zyC231_86 hk57 h)
noncomputable def zyF231_57   (n : Nat) : Int32 → Int32 → Int32 → Int32 → Int32 → Int32 → zy_S → Option (Int32 × zy_S) := Nat.rec (fun _ _ _ _ _ _ _ => none) (fun _ k57 => zyF231_57b k57) n
theorem zyC231_57 {X : zx_X}     : ∀ (n : Nat) (x1 : Int32) (x2 : Int32) (x3 : Int32) (x4 : Int32) (x5 : Int32) (x6 : Int32) (s : zy_S) (r : Int32) (s' : zy_S), zyF231_57 n x1 x2 x3 x4 x5 x6 s = some (r, s') → zyR X 4 231 57 [some (.ref (43 + 3)), some (.int x1), some (.int x2), some (.int x3), some (.int x4), some (.int x5), some (.int x6)] [] s (zyE (some (.int r)) s')
  | 0, _, _, _, _, _, _ => by
    intro s r s'  h
    have h : (none : Option (Int32 × zy_S)) = some (r, s') := h
    cases h
  | n + 1, x1, x2, x3, x4, x5, x6 => by
    intro s r s'  h
    exact zyC231_57b (k57 := zyF231_57 n) (fun x1 x2 x3 x4 x5 x6 s r s'  h => zyC231_57  n x1 x2 x3 x4 x5 x6 s r s'  h) h
noncomputable def zyF231   (x1 : Int32) (x2 : Int32) (x3 : Int32) (s : zy_S) : Option (Int32 × zy_S) :=
(zyF229 x1 s).bind fun p6 =>
if p6.1 = (-1 : Int32) then
some ((-1 : Int32), p6.2)
else
(zyF179 (x2).toInt64 (0 : Int64) (5 : Int64) p6.2).bind fun p7 =>
if p7.1 = 0 then
some ((-1 : Int32), p7.2)
else
(zyF179 (x3).toInt64 (0 : Int64) (1 : Int64) p7.2).bind fun p8 =>
if p8.1 ≠ 0 then
(zyF229 x1 p8.2).bind fun p9 =>
if 0 ≤ p9.1 then
zyF231_57 zy_fu x1 x2 x3 (0 : Int32) (-2 : Int32) (0 : Int32) p9.2
else
(zyF229 x1 p9.2).bind fun p10 =>
some (p10.1, p10.2)
else
some ((-1 : Int32), p8.2)
theorem zyC231 {X : zx_X}     {x1 : Int32} {x2 : Int32} {x3 : Int32} {s : zy_S} {r : Int32} {s' : zy_S}  (h : zyF231 x1 x2 x3 s = some (r, s')) : zyR X 4 231 0 [some (.ref (43 + 3)), some (.int x1), some (.int x2), some (.int x3), none, none, none] [] s (zyE (some (.int r)) s') := by
  unfold zyF231 at h
  refine zy_0 rfl rfl (show zyR _ _ _ _ [some (.ref (43 + 3)), some (.int x1), some (.int x2), some (.int x3), none, none, none] [.ref (43 + 3)] _ _ from ?_)
  refine zy_2 rfl rfl (show zyR _ _ _ _ [some (.ref (43 + 3)), some (.int x1), some (.int x2), some (.int x3), none, none, none] [.int x1, .ref (43 + 3)] _ _ from ?_)
  obtain ⟨p6, hp6, h⟩ := zy_bind h
  refine zy_5 (c := 43) (as := [.int x1]) (rest := []) (L := [some (.ref (43 + 3)), some (.int x1)]) (d' := 3) rfl rfl rfl (Nat.le_of_ble_eq_true rfl) (Nat.le_of_ble_eq_true rfl) rfl (Nat.le_of_ble_eq_true rfl) rfl rfl (zyC229 hp6) ?_
  show zyR _ _ _ _ [some (.ref (43 + 3)), some (.int x1), some (.int x2), some (.int x3), none, none, none] [.int p6.1] _ _
  refine zy_3 rfl rfl (show zyR _ _ _ _ [some (.ref (43 + 3)), some (.int x1), some (.int x2), some (.int x3), none, none, none] [.int (-1 : Int32), .int p6.1] _ _ from ?_)
  refine zy_25_0 rfl (fun b14 => (show zyR _ _ _ _ [some (.ref (43 + 3)), some (.int x1), some (.int x2), some (.int x3), none, none, none] [] _ _ from ?_)) (fun b14 => (show zyR _ _ _ _ [some (.ref (43 + 3)), some (.int x1), some (.int x2), some (.int x3), none, none, none] [] _ _ from ?_))
  · replace h := zy_ifp h b14
    refine zy_3 rfl rfl (show zyR _ _ _ _ [some (.ref (43 + 3)), some (.int x1), some (.int x2), some (.int x3), none, none, none] [.int (-1 : Int32)] _ _ from ?_)
    cases h
    exact zy_4 rfl ⟨rfl, rfl⟩
  · replace h := zy_ifn h b14
    refine zy_2 rfl rfl (show zyR _ _ _ _ [some (.ref (43 + 3)), some (.int x1), some (.int x2), some (.int x3), none, none, none] [.int x2] _ _ from ?_)
    refine zy_40 rfl (show zyR _ _ _ _ [some (.ref (43 + 3)), some (.int x1), some (.int x2), some (.int x3), none, none, none] [.long (x2).toInt64] _ _ from ?_)
    refine zy_36 rfl rfl (show zyR _ _ _ _ [some (.ref (43 + 3)), some (.int x1), some (.int x2), some (.int x3), none, none, none] [.long (0 : Int64), .long (x2).toInt64] _ _ from ?_)
    refine zy_36c rfl rfl (show zyR _ _ _ _ [some (.ref (43 + 3)), some (.int x1), some (.int x2), some (.int x3), none, none, none] [.long (5 : Int64), .long (0 : Int64), .long (x2).toInt64] _ _ from ?_)
    obtain ⟨p7, hp7, h⟩ := zy_bind h
    refine zy_60 (as := [.long (x2).toInt64, .long (0 : Int64), .long (5 : Int64)]) (rest := []) (L := [some (.long (x2).toInt64), none, some (.long (0 : Int64)), none, some (.long (5 : Int64)), none]) (d' := 1) rfl rfl (Nat.le_of_ble_eq_true rfl) (Nat.le_of_ble_eq_true rfl) rfl (Nat.le_of_ble_eq_true rfl) rfl rfl (zyC179 hp7) ?_
    show zyR _ _ _ _ [some (.ref (43 + 3)), some (.int x1), some (.int x2), some (.int x3), none, none, none] [.int p7.1] _ _
    refine zy_24_0 rfl (fun b13 => (show zyR _ _ _ _ [some (.ref (43 + 3)), some (.int x1), some (.int x2), some (.int x3), none, none, none] [] _ _ from ?_)) (fun b13 => (show zyR _ _ _ _ [some (.ref (43 + 3)), some (.int x1), some (.int x2), some (.int x3), none, none, none] [] _ _ from ?_))
    · replace h := zy_ifp h b13
      refine zy_3 rfl rfl (show zyR _ _ _ _ [some (.ref (43 + 3)), some (.int x1), some (.int x2), some (.int x3), none, none, none] [.int (-1 : Int32)] _ _ from ?_)
      cases h
      exact zy_4 rfl ⟨rfl, rfl⟩
    · replace h := zy_ifn h b13
      refine zy_2 rfl rfl (show zyR _ _ _ _ [some (.ref (43 + 3)), some (.int x1), some (.int x2), some (.int x3), none, none, none] [.int x3] _ _ from ?_)
      refine zy_40 rfl (show zyR _ _ _ _ [some (.ref (43 + 3)), some (.int x1), some (.int x2), some (.int x3), none, none, none] [.long (x3).toInt64] _ _ from ?_)
      refine zy_36 rfl rfl (show zyR _ _ _ _ [some (.ref (43 + 3)), some (.int x1), some (.int x2), some (.int x3), none, none, none] [.long (0 : Int64), .long (x3).toInt64] _ _ from ?_)
      refine zy_36 rfl rfl (show zyR _ _ _ _ [some (.ref (43 + 3)), some (.int x1), some (.int x2), some (.int x3), none, none, none] [.long (1 : Int64), .long (0 : Int64), .long (x3).toInt64] _ _ from ?_)
      obtain ⟨p8, hp8, h⟩ := zy_bind h
      refine zy_60 (as := [.long (x3).toInt64, .long (0 : Int64), .long (1 : Int64)]) (rest := []) (L := [some (.long (x3).toInt64), none, some (.long (0 : Int64)), none, some (.long (1 : Int64)), none]) (d' := 1) rfl rfl (Nat.le_of_ble_eq_true rfl) (Nat.le_of_ble_eq_true rfl) rfl (Nat.le_of_ble_eq_true rfl) rfl rfl (zyC179 hp8) ?_
      show zyR _ _ _ _ [some (.ref (43 + 3)), some (.int x1), some (.int x2), some (.int x3), none, none, none] [.int p8.1] _ _
      refine zy_24_1 rfl (fun b12 => (show zyR _ _ _ _ [some (.ref (43 + 3)), some (.int x1), some (.int x2), some (.int x3), none, none, none] [] _ _ from ?_)) (fun b12 => (show zyR _ _ _ _ [some (.ref (43 + 3)), some (.int x1), some (.int x2), some (.int x3), none, none, none] [] _ _ from ?_))
      · replace h := zy_ifp h b12
        refine zy_0 rfl rfl (show zyR _ _ _ _ [some (.ref (43 + 3)), some (.int x1), some (.int x2), some (.int x3), none, none, none] [.ref (43 + 3)] _ _ from ?_)
        refine zy_2 rfl rfl (show zyR _ _ _ _ [some (.ref (43 + 3)), some (.int x1), some (.int x2), some (.int x3), none, none, none] [.int x1, .ref (43 + 3)] _ _ from ?_)
        obtain ⟨p9, hp9, h⟩ := zy_bind h
        refine zy_5 (c := 43) (as := [.int x1]) (rest := []) (L := [some (.ref (43 + 3)), some (.int x1)]) (d' := 3) rfl rfl rfl (Nat.le_of_ble_eq_true rfl) (Nat.le_of_ble_eq_true rfl) rfl (Nat.le_of_ble_eq_true rfl) rfl rfl (zyC229 hp9) ?_
        show zyR _ _ _ _ [some (.ref (43 + 3)), some (.int x1), some (.int x2), some (.int x3), none, none, none] [.int p9.1] _ _
        refine zy_24_3 rfl (fun b11 => (show zyR _ _ _ _ [some (.ref (43 + 3)), some (.int x1), some (.int x2), some (.int x3), none, none, none] [] _ _ from ?_)) (fun b11 => (show zyR _ _ _ _ [some (.ref (43 + 3)), some (.int x1), some (.int x2), some (.int x3), none, none, none] [] _ _ from ?_))
        · replace h := zy_ifp h b11
          refine zy_3 rfl rfl (show zyR _ _ _ _ [some (.ref (43 + 3)), some (.int x1), some (.int x2), some (.int x3), none, none, none] [.int (0 : Int32)] _ _ from ?_)
          refine zy_23 rfl rfl (show zyR _ _ _ _ [some (.ref (43 + 3)), some (.int x1), some (.int x2), some (.int x3), some (.int (0 : Int32)), none, none] [] _ _ from ?_)
          refine zy_3 rfl rfl (show zyR _ _ _ _ [some (.ref (43 + 3)), some (.int x1), some (.int x2), some (.int x3), some (.int (0 : Int32)), none, none] [.int (-2 : Int32)] _ _ from ?_)
          refine zy_23 rfl rfl (show zyR _ _ _ _ [some (.ref (43 + 3)), some (.int x1), some (.int x2), some (.int x3), some (.int (0 : Int32)), some (.int (-2 : Int32)), none] [] _ _ from ?_)
          refine zy_3 rfl rfl (show zyR _ _ _ _ [some (.ref (43 + 3)), some (.int x1), some (.int x2), some (.int x3), some (.int (0 : Int32)), some (.int (-2 : Int32)), none] [.int (0 : Int32)] _ _ from ?_)
          refine zy_23 rfl rfl (show zyR _ _ _ _ [some (.ref (43 + 3)), some (.int x1), some (.int x2), some (.int x3), some (.int (0 : Int32)), some (.int (-2 : Int32)), some (.int (0 : Int32))] [] _ _ from ?_)
          exact zy_sub (show zy_le [some (.ref (43 + 3)), some (.int x1), some (.int x2), some (.int x3), some (.int (0 : Int32)), some (.int (-2 : Int32)), some (.int (0 : Int32))] [some (.ref (43 + 3)), some (.int x1), some (.int x2), some (.int x3), some (.int (0 : Int32)), some (.int (-2 : Int32)), some (.int (0 : Int32))] from ⟨rfl, ⟨rfl, ⟨rfl, ⟨rfl, ⟨rfl, ⟨rfl, ⟨rfl, trivial⟩⟩⟩⟩⟩⟩⟩) (zyC231_57 zy_fu x1 x2 x3 (0 : Int32) (-2 : Int32) (0 : Int32) p9.2 _ _ h)
        · replace h := zy_ifn h b11
          refine zy_0 rfl rfl (show zyR _ _ _ _ [some (.ref (43 + 3)), some (.int x1), some (.int x2), some (.int x3), none, none, none] [.ref (43 + 3)] _ _ from ?_)
          refine zy_2 rfl rfl (show zyR _ _ _ _ [some (.ref (43 + 3)), some (.int x1), some (.int x2), some (.int x3), none, none, none] [.int x1, .ref (43 + 3)] _ _ from ?_)
          obtain ⟨p10, hp10, h⟩ := zy_bind h
          refine zy_5 (c := 43) (as := [.int x1]) (rest := []) (L := [some (.ref (43 + 3)), some (.int x1)]) (d' := 3) rfl rfl rfl (Nat.le_of_ble_eq_true rfl) (Nat.le_of_ble_eq_true rfl) rfl (Nat.le_of_ble_eq_true rfl) rfl rfl (zyC229 hp10) ?_
          show zyR _ _ _ _ [some (.ref (43 + 3)), some (.int x1), some (.int x2), some (.int x3), none, none, none] [.int p10.1] _ _
          cases h
          exact zy_4 rfl ⟨rfl, rfl⟩
      · replace h := zy_ifn h b12
        refine zy_3 rfl rfl (show zyR _ _ _ _ [some (.ref (43 + 3)), some (.int x1), some (.int x2), some (.int x3), none, none, none] [.int (-1 : Int32)] _ _ from ?_)
        cases h
        exact zy_4 rfl ⟨rfl, rfl⟩

