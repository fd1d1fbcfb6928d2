/-! PART 41.33: methods as functions. Made by wip/v4/dcp.py. -/
/-! NineOpinions.taken(II)I -/
noncomputable def zyF172   (x1 : Int32) (x2 : Int32) (s : zy_S) : Option (Int32 × zy_S) :=
(zyF18 x1 s).bind fun p1 =>
if p1.1 = 0 then
some ((-1 : Int32), p1.2)
else
(zyF149 x2 p1.2).bind fun p2 =>
if p2.1 ≠ 0 then
if zy_in x1 6 then
if zy_Wb p2.2 then
(zyF19 (zy_sh (x1).toNatClampNeg) p2.2).bind fun p5 =>
if p5.1 = 0 then
if zy_in x1 6 then
if zy_Wb p5.2 then
(zyF154 (p5.2.1 (zy_sh (x1).toNatClampNeg) 1) p5.2).bind fun p8 =>
if p8.1 = 0 then
some ((-12 : Int32), p8.2)
else
if zy_in (p5.2.1 (zy_sh (x1).toNatClampNeg) 1) 50 then
(zyF173 (p8.2.1 28 ((p5.2.1 (zy_sh (x1).toNatClampNeg) 1)).toNatClampNeg) x2 p8.2).bind fun p10 =>
if p10.1 = 0 then
some ((-12 : Int32), p10.2)
else
if zy_in (p5.2.1 (zy_sh (x1).toNatClampNeg) 1) 50 then
some ((p10.2.1 28 ((p5.2.1 (zy_sh (x1).toNatClampNeg) 1)).toNatClampNeg), p10.2)
else none
else none
else none
else none
else
some ((-11 : Int32), p5.2)
else none
else none
else
some ((-1 : Int32), p2.2)
theorem zyC172 {X : zx_X}     {x1 : Int32} {x2 : Int32} {s : zy_S} {r : Int32} {s' : zy_S}  (h : zyF172 x1 x2 s = some (r, s')) : zyR X 3 172 0 [some (.ref (0 + 3)), some (.int x1), some (.int x2), none] [] s (zyE (some (.int r)) s') := by
  unfold zyF172 at h
  refine zy_2 rfl rfl (show zyR _ _ _ _ [some (.ref (0 + 3)), some (.int x1), some (.int x2), none] [.int x1] _ _ from ?_)
  obtain ⟨p1, hp1, h⟩ := zy_bind h
  refine zy_60 (as := [.int x1]) (rest := []) (L := [some (.int x1)]) (d' := 1) rfl rfl (Nat.le_of_ble_eq_true rfl) (Nat.le_of_ble_eq_true rfl) rfl (Nat.le_of_ble_eq_true rfl) rfl rfl (zyC18 hp1) ?_
  show zyR _ _ _ _ [some (.ref (0 + 3)), some (.int x1), some (.int x2), none] [.int p1.1] _ _
  refine zy_24_0 rfl (fun b16 => (show zyR _ _ _ _ [some (.ref (0 + 3)), some (.int x1), some (.int x2), none] [] _ _ from ?_)) (fun b16 => (show zyR _ _ _ _ [some (.ref (0 + 3)), some (.int x1), some (.int x2), none] [] _ _ from ?_))
  · replace h := zy_ifp h b16
    refine zy_3 rfl rfl (show zyR _ _ _ _ [some (.ref (0 + 3)), some (.int x1), some (.int x2), none] [.int (-1 : Int32)] _ _ from ?_)
    obtain ⟨rfl, rfl⟩ := zy_pi h
    exact zy_4 rfl ⟨rfl, rfl⟩
  · replace h := zy_ifn h b16
    refine zy_2 rfl rfl (show zyR _ _ _ _ [some (.ref (0 + 3)), some (.int x1), some (.int x2), none] [.int x2] _ _ from ?_)
    obtain ⟨p2, hp2, h⟩ := zy_bind h
    refine zy_60 (as := [.int x2]) (rest := []) (L := [some (.int x2)]) (d' := 1) rfl rfl (Nat.le_of_ble_eq_true rfl) (Nat.le_of_ble_eq_true rfl) rfl (Nat.le_of_ble_eq_true rfl) rfl rfl (zyC149 hp2) ?_
    show zyR _ _ _ _ [some (.ref (0 + 3)), some (.int x1), some (.int x2), none] [.int p2.1] _ _
    refine zy_24_1 rfl (fun b15 => (show zyR _ _ _ _ [some (.ref (0 + 3)), some (.int x1), some (.int x2), none] [] _ _ from ?_)) (fun b15 => (show zyR _ _ _ _ [some (.ref (0 + 3)), some (.int x1), some (.int x2), none] [] _ _ from ?_))
    · replace h := zy_ifp h b15
      refine zy_0 rfl rfl (show zyR _ _ _ _ [some (.ref (0 + 3)), some (.int x1), some (.int x2), none] [.ref (0 + 3)] _ _ from ?_)
      refine zy_1r (c := 0) rfl rfl rfl (show zyR _ _ _ _ [some (.ref (0 + 3)), some (.int x1), some (.int x2), none] [.ref (30 + 3)] _ _ from ?_)
      refine zy_2 rfl rfl (show zyR _ _ _ _ [some (.ref (0 + 3)), some (.int x1), some (.int x2), none] [.int x1, .ref (30 + 3)] _ _ from ?_)
      obtain ⟨c3, h⟩ := zy_if h
      obtain ⟨c4, h⟩ := zy_if h
      refine zy_28 rfl (zy_Wb_g c4) c3 (show zyR _ _ _ _ [some (.ref (0 + 3)), some (.int x1), some (.int x2), none] [.ref ((zy_sh (x1).toNatClampNeg) + 3)] _ _ from ?_)
      obtain ⟨p5, hp5, h⟩ := zy_bind h
      refine zy_5 (c := (zy_sh (x1).toNatClampNeg)) (as := []) (rest := []) (L := [some (.ref ((zy_sh (x1).toNatClampNeg) + 3))]) (d' := 2) rfl rfl (zy_isSh_of (zy_in_lt c3)).1 (Nat.le_of_ble_eq_true rfl) (Nat.le_of_ble_eq_true rfl) rfl (Nat.le_of_ble_eq_true rfl) rfl rfl (zyC19 (zy_isSh_of (zy_in_lt c3)) hp5) ?_
      show zyR _ _ _ _ [some (.ref (0 + 3)), some (.int x1), some (.int x2), none] [.int p5.1] _ _
      refine zy_24_0 rfl (fun b14 => (show zyR _ _ _ _ [some (.ref (0 + 3)), some (.int x1), some (.int x2), none] [] _ _ from ?_)) (fun b14 => (show zyR _ _ _ _ [some (.ref (0 + 3)), some (.int x1), some (.int x2), none] [] _ _ from ?_))
      · replace h := zy_ifp h b14
        refine zy_0 rfl rfl (show zyR _ _ _ _ [some (.ref (0 + 3)), some (.int x1), some (.int x2), none] [.ref (0 + 3)] _ _ from ?_)
        refine zy_1r (c := 0) rfl rfl rfl (show zyR _ _ _ _ [some (.ref (0 + 3)), some (.int x1), some (.int x2), none] [.ref (30 + 3)] _ _ from ?_)
        refine zy_2 rfl rfl (show zyR _ _ _ _ [some (.ref (0 + 3)), some (.int x1), some (.int x2), none] [.int x1, .ref (30 + 3)] _ _ from ?_)
        obtain ⟨c6, h⟩ := zy_if h
        obtain ⟨c7, h⟩ := zy_if h
        refine zy_28 rfl (zy_Wb_g c7) c6 (show zyR _ _ _ _ [some (.ref (0 + 3)), some (.int x1), some (.int x2), none] [.ref ((zy_sh (x1).toNatClampNeg) + 3)] _ _ from ?_)
        refine zy_1 (c := (zy_sh (x1).toNatClampNeg)) rfl (zy_isSh_of (zy_in_lt c6)).1 rfl (show zyR _ _ _ _ [some (.ref (0 + 3)), some (.int x1), some (.int x2), none] [.int (p5.2.1 (zy_sh (x1).toNatClampNeg) 1)] _ _ from ?_)
        refine zy_23 rfl rfl (show zyR _ _ _ _ [some (.ref (0 + 3)), some (.int x1), some (.int x2), some (.int (p5.2.1 (zy_sh (x1).toNatClampNeg) 1))] [] _ _ from ?_)
        refine zy_0 rfl rfl (show zyR _ _ _ _ [some (.ref (0 + 3)), some (.int x1), some (.int x2), some (.int (p5.2.1 (zy_sh (x1).toNatClampNeg) 1))] [.ref (0 + 3)] _ _ from ?_)
        refine zy_1r (c := 0) rfl rfl rfl (show zyR _ _ _ _ [some (.ref (0 + 3)), some (.int x1), some (.int x2), some (.int (p5.2.1 (zy_sh (x1).toNatClampNeg) 1))] [.ref (27 + 3)] _ _ from ?_)
        refine zy_2 rfl rfl (show zyR _ _ _ _ [some (.ref (0 + 3)), some (.int x1), some (.int x2), some (.int (p5.2.1 (zy_sh (x1).toNatClampNeg) 1))] [.int (p5.2.1 (zy_sh (x1).toNatClampNeg) 1), .ref (27 + 3)] _ _ from ?_)
        obtain ⟨p8, hp8, h⟩ := zy_bind h
        refine zy_5 (c := 27) (as := [.int (p5.2.1 (zy_sh (x1).toNatClampNeg) 1)]) (rest := []) (L := [some (.ref (27 + 3)), some (.int (p5.2.1 (zy_sh (x1).toNatClampNeg) 1))]) (d' := 1) rfl rfl rfl (Nat.le_of_ble_eq_true rfl) (Nat.le_of_ble_eq_true rfl) rfl (Nat.le_of_ble_eq_true rfl) rfl rfl (zyC154 hp8) ?_
        show zyR _ _ _ _ [some (.ref (0 + 3)), some (.int x1), some (.int x2), some (.int (p5.2.1 (zy_sh (x1).toNatClampNeg) 1))] [.int p8.1] _ _
        refine zy_24_0 rfl (fun b13 => (show zyR _ _ _ _ [some (.ref (0 + 3)), some (.int x1), some (.int x2), some (.int (p5.2.1 (zy_sh (x1).toNatClampNeg) 1))] [] _ _ from ?_)) (fun b13 => (show zyR _ _ _ _ [some (.ref (0 + 3)), some (.int x1), some (.int x2), some (.int (p5.2.1 (zy_sh (x1).toNatClampNeg) 1))] [] _ _ from ?_))
        · replace h := zy_ifp h b13
          refine zy_3 rfl rfl (show zyR _ _ _ _ [some (.ref (0 + 3)), some (.int x1), some (.int x2), some (.int (p5.2.1 (zy_sh (x1).toNatClampNeg) 1))] [.int (-12 : Int32)] _ _ from ?_)
          obtain ⟨rfl, rfl⟩ := zy_pi h
          exact zy_4 rfl ⟨rfl, rfl⟩
        · replace h := zy_ifn h b13
          refine zy_0 rfl rfl (show zyR _ _ _ _ [some (.ref (0 + 3)), some (.int x1), some (.int x2), some (.int (p5.2.1 (zy_sh (x1).toNatClampNeg) 1))] [.ref (0 + 3)] _ _ from ?_)
          refine zy_1r (c := 0) rfl rfl rfl (show zyR _ _ _ _ [some (.ref (0 + 3)), some (.int x1), some (.int x2), some (.int (p5.2.1 (zy_sh (x1).toNatClampNeg) 1))] [.ref (27 + 3)] _ _ from ?_)
          refine zy_1r (c := 27) rfl rfl rfl (show zyR _ _ _ _ [some (.ref (0 + 3)), some (.int x1), some (.int x2), some (.int (p5.2.1 (zy_sh (x1).toNatClampNeg) 1))] [.ref (28 + 3)] _ _ from ?_)
          refine zy_2 rfl rfl (show zyR _ _ _ _ [some (.ref (0 + 3)), some (.int x1), some (.int x2), some (.int (p5.2.1 (zy_sh (x1).toNatClampNeg) 1))] [.int (p5.2.1 (zy_sh (x1).toNatClampNeg) 1), .ref (28 + 3)] _ _ from ?_)
          obtain ⟨c9, h⟩ := zy_if h
          refine zy_26 (c := 28) rfl rfl c9 (show zyR _ _ _ _ [some (.ref (0 + 3)), some (.int x1), some (.int x2), some (.int (p5.2.1 (zy_sh (x1).toNatClampNeg) 1))] [.int (p8.2.1 28 ((p5.2.1 (zy_sh (x1).toNatClampNeg) 1)).toNatClampNeg)] _ _ from ?_)
          refine zy_2 rfl rfl (show zyR _ _ _ _ [some (.ref (0 + 3)), some (.int x1), some (.int x2), some (.int (p5.2.1 (zy_sh (x1).toNatClampNeg) 1))] [.int x2, .int (p8.2.1 28 ((p5.2.1 (zy_sh (x1).toNatClampNeg) 1)).toNatClampNeg)] _ _ from ?_)
          obtain ⟨p10, hp10, h⟩ := zy_bind h
          refine zy_60 (as := [.int (p8.2.1 28 ((p5.2.1 (zy_sh (x1).toNatClampNeg) 1)).toNatClampNeg), .int x2]) (rest := []) (L := [some (.int (p8.2.1 28 ((p5.2.1 (zy_sh (x1).toNatClampNeg) 1)).toNatClampNeg)), some (.int x2), none, none]) (d' := 2) rfl rfl (Nat.le_of_ble_eq_true rfl) (Nat.le_of_ble_eq_true rfl) rfl (Nat.le_of_ble_eq_true rfl) rfl rfl (zyC173 hp10) ?_
          show zyR _ _ _ _ [some (.ref (0 + 3)), some (.int x1), some (.int x2), some (.int (p5.2.1 (zy_sh (x1).toNatClampNeg) 1))] [.int p10.1] _ _
          refine zy_24_0 rfl (fun b12 => (show zyR _ _ _ _ [some (.ref (0 + 3)), some (.int x1), some (.int x2), some (.int (p5.2.1 (zy_sh (x1).toNatClampNeg) 1))] [] _ _ from ?_)) (fun b12 => (show zyR _ _ _ _ [some (.ref (0 + 3)), some (.int x1), some (.int x2), some (.int (p5.2.1 (zy_sh (x1).toNatClampNeg) 1))] [] _ _ from ?_))
          · replace h := zy_ifp h b12
            refine zy_3 rfl rfl (show zyR _ _ _ _ [some (.ref (0 + 3)), some (.int x1), some (.int x2), some (.int (p5.2.1 (zy_sh (x1).toNatClampNeg) 1))] [.int (-12 : Int32)] _ _ from ?_)
            obtain ⟨rfl, rfl⟩ := zy_pi h
            exact zy_4 rfl ⟨rfl, rfl⟩
          · replace h := zy_ifn h b12
            refine zy_0 rfl rfl (show zyR _ _ _ _ [some (.ref (0 + 3)), some (.int x1), some (.int x2), some (.int (p5.2.1 (zy_sh (x1).toNatClampNeg) 1))] [.ref (0 + 3)] _ _ from ?_)
            refine zy_1r (c := 0) rfl rfl rfl (show zyR _ _ _ _ [some (.ref (0 + 3)), some (.int x1), some (.int x2), some (.int (p5.2.1 (zy_sh (x1).toNatClampNeg) 1))] [.ref (27 + 3)] _ _ from ?_)
            refine zy_1r (c := 27) rfl rfl rfl (show zyR _ _ _ _ [some (.ref (0 + 3)), some (.int x1), some (.int x2), some (.int (p5.2.1 (zy_sh (x1).toNatClampNeg) 1))] [.ref (28 + 3)] _ _ from ?_)
            refine zy_2 rfl rfl (show zyR _ _ _ _ [some (.ref (0 + 3)), some (.int x1), some (.int x2), some (.int (p5.2.1 (zy_sh (x1).toNatClampNeg) 1))] [.int (p5.2.1 (zy_sh (x1).toNatClampNeg) 1), .ref (28 + 3)] _ _ from ?_)
            obtain ⟨c11, h⟩ := zy_if h
            refine zy_26 (c := 28) rfl rfl c11 (show zyR _ _ _ _ [some (.ref (0 + 3)), some (.int x1), some (.int x2), some (.int (p5.2.1 (zy_sh (x1).toNatClampNeg) 1))] [.int (p10.2.1 28 ((p5.2.1 (zy_sh (x1).toNatClampNeg) 1)).toNatClampNeg)] _ _ from ?_)
            refine zy_6 rfl (show zyR _ _ _ _ [some (.ref (0 + 3)), some (.int x1), some (.int x2), some (.int (p5.2.1 (zy_sh (x1).toNatClampNeg) 1))] [.int (p10.2.1 28 ((p5.2.1 (zy_sh (x1).toNatClampNeg) 1)).toNatClampNeg)] _ _ from ?_)
            obtain ⟨rfl, rfl⟩ := zy_pi h
            exact zy_4 rfl ⟨rfl, rfl⟩
      · replace h := zy_ifn h b14
        refine zy_3 rfl rfl (show zyR _ _ _ _ [some (.ref (0 + 3)), some (.int x1), some (.int x2), none] [.int (-11 : Int32)] _ _ from ?_)
        obtain ⟨rfl, rfl⟩ := zy_pi h
        exact zy_4 rfl ⟨rfl, rfl⟩
    · replace h := zy_ifn h b15
      refine zy_3 rfl rfl (show zyR _ _ _ _ [some (.ref (0 + 3)), some (.int x1), some (.int x2), none] [.int (-1 : Int32)] _ _ from ?_)
      obtain ⟨rfl, rfl⟩ := zy_pi h
      exact zy_4 rfl ⟨rfl, rfl⟩
/-! NineOpinionsModel.kindOf(I)I -/
noncomputable def zyF264   (x1 : Int32) (s : zy_S) : Option (Int32 × zy_S) :=
if zy_in x1 50 then
some ((s.1 58 (x1).toNatClampNeg), s)
else none
theorem zyC264 {X : zx_X}     {x1 : Int32} {s : zy_S} {r : Int32} {s' : zy_S}  (h : zyF264 x1 s = some (r, s')) : zyR X 1 264 0 [some (.ref (43 + 3)), some (.int x1)] [] s (zyE (some (.int r)) s') := by
  unfold zyF264 at h
  refine zy_0 rfl rfl (show zyR _ _ _ _ [some (.ref (43 + 3)), some (.int x1)] [.ref (43 + 3)] _ _ from ?_)
  refine zy_1r (c := 43) rfl rfl rfl (show zyR _ _ _ _ [some (.ref (43 + 3)), some (.int x1)] [.ref (58 + 3)] _ _ from ?_)
  refine zy_2 rfl rfl (show zyR _ _ _ _ [some (.ref (43 + 3)), some (.int x1)] [.int x1, .ref (58 + 3)] _ _ from ?_)
  obtain ⟨c1, h⟩ := zy_if h
  refine zy_26 (c := 58) rfl rfl c1 (show zyR _ _ _ _ [some (.ref (43 + 3)), some (.int x1)] [.int (s.1 58 (x1).toNatClampNeg)] _ _ from ?_)
  obtain ⟨rfl, rfl⟩ := zy_pi h
  exact zy_4 rfl ⟨rfl, rfl⟩
/-! NineOpinionsModel.above(I)I -/
noncomputable def zyF265   (x0 : Int32) (s : zy_S) : Option (Int32 × zy_S) :=
if x0 ≠ (3 : Int32) then
if x0 ≠ (4 : Int32) then
if x0 ≠ (5 : Int32) then
if x0 ≠ (7 : Int32) then
some ((0 : Int32), s)
else
some ((4 : Int32), s)
else
some ((3 : Int32), s)
else
some ((1 : Int32), s)
else
some ((2 : Int32), s)
theorem zyC265 {X : zx_X}     {x0 : Int32} {s : zy_S} {r : Int32} {s' : zy_S}  (h : zyF265 x0 s = some (r, s')) : zyR X 1 265 0 [some (.int x0)] [] s (zyE (some (.int r)) s') := by
  unfold zyF265 at h
  refine zy_2 rfl rfl (show zyR _ _ _ _ [some (.int x0)] [.int x0] _ _ from ?_)
  refine zy_3 rfl rfl (show zyR _ _ _ _ [some (.int x0)] [.int (3 : Int32), .int x0] _ _ from ?_)
  refine zy_25_1 rfl (fun b4 => (show zyR _ _ _ _ [some (.int x0)] [] _ _ from ?_)) (fun b4 => (show zyR _ _ _ _ [some (.int x0)] [] _ _ from ?_))
  · replace h := zy_ifp h b4
    refine zy_2 rfl rfl (show zyR _ _ _ _ [some (.int x0)] [.int x0] _ _ from ?_)
    refine zy_3 rfl rfl (show zyR _ _ _ _ [some (.int x0)] [.int (4 : Int32), .int x0] _ _ from ?_)
    refine zy_25_1 rfl (fun b3 => (show zyR _ _ _ _ [some (.int x0)] [] _ _ from ?_)) (fun b3 => (show zyR _ _ _ _ [some (.int x0)] [] _ _ from ?_))
    · replace h := zy_ifp h b3
      refine zy_2 rfl rfl (show zyR _ _ _ _ [some (.int x0)] [.int x0] _ _ from ?_)
      refine zy_3 rfl rfl (show zyR _ _ _ _ [some (.int x0)] [.int (5 : Int32), .int x0] _ _ from ?_)
      refine zy_25_1 rfl (fun b2 => (show zyR _ _ _ _ [some (.int x0)] [] _ _ from ?_)) (fun b2 => (show zyR _ _ _ _ [some (.int x0)] [] _ _ from ?_))
      · replace h := zy_ifp h b2
        refine zy_2 rfl rfl (show zyR _ _ _ _ [some (.int x0)] [.int x0] _ _ from ?_)
        refine zy_3 rfl rfl (show zyR _ _ _ _ [some (.int x0)] [.int (7 : Int32), .int x0] _ _ from ?_)
        refine zy_25_1 rfl (fun b1 => (show zyR _ _ _ _ [some (.int x0)] [] _ _ from ?_)) (fun b1 => (show zyR _ _ _ _ [some (.int x0)] [] _ _ from ?_))
        · replace h := zy_ifp h b1
          refine zy_3 rfl rfl (show zyR _ _ _ _ [some (.int x0)] [.int (0 : Int32)] _ _ from ?_)
          obtain ⟨rfl, rfl⟩ := zy_pi h
          exact zy_4 rfl ⟨rfl, rfl⟩
        · replace h := zy_ifn h b1
          refine zy_3 rfl rfl (show zyR _ _ _ _ [some (.int x0)] [.int (4 : Int32)] _ _ from ?_)
          refine zy_6 rfl (show zyR _ _ _ _ [some (.int x0)] [.int (4 : Int32)] _ _ from ?_)
          obtain ⟨rfl, rfl⟩ := zy_pi h
          exact zy_4 rfl ⟨rfl, rfl⟩
      · replace h := zy_ifn h b2
        refine zy_3 rfl rfl (show zyR _ _ _ _ [some (.int x0)] [.int (3 : Int32)] _ _ from ?_)
        refine zy_6 rfl (show zyR _ _ _ _ [some (.int x0)] [.int (3 : Int32)] _ _ from ?_)
        obtain ⟨rfl, rfl⟩ := zy_pi h
        exact zy_4 rfl ⟨rfl, rfl⟩
    · replace h := zy_ifn h b3
      refine zy_3 rfl rfl (show zyR _ _ _ _ [some (.int x0)] [.int (1 : Int32)] _ _ from ?_)
      refine zy_6 rfl (show zyR _ _ _ _ [some (.int x0)] [.int (1 : Int32)] _ _ from ?_)
      obtain ⟨rfl, rfl⟩ := zy_pi h
      exact zy_4 rfl ⟨rfl, rfl⟩
  · replace h := zy_ifn h b4
    refine zy_3 rfl rfl (show zyR _ _ _ _ [some (.int x0)] [.int (2 : Int32)] _ _ from ?_)
    refine zy_6 rfl (show zyR _ _ _ _ [some (.int x0)] [.int (2 : Int32)] _ _ from ?_)
    obtain ⟨rfl, rfl⟩ := zy_pi h
    exact zy_4 rfl ⟨rfl, rfl⟩
