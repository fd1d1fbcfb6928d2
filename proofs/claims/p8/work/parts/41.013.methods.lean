/-! PART 41.13: methods as functions. Made by wip/v4/dcp.py. -/
/-! NineOpinions.row(III)I -/
noncomputable def zyF163   (x1 : Int32) (x2 : Int32) (x3 : Int32) (s : zy_S) : Option (Int32 × zy_S) :=
(zyF18 x1 s).bind fun p1 =>
if p1.1 = 0 then
some ((-1 : Int32), p1.2)
else
if x2 < 0 then
some ((-1 : Int32), p1.2)
else
if (4 : Int32) < x2 then
some ((-1 : Int32), p1.2)
else
if x3 ≤ (60 : Int32) then
if 0 ≤ x3 then
if zy_in x1 6 then
if zy_Wb p1.2 then
(zyF164 (zy_sh (x1).toNatClampNeg) x2 x3 p1.2).bind fun p4 =>
some ((1 : Int32), p4.2)
else none
else none
else
some ((-14 : Int32), p1.2)
else
some ((-1 : Int32), p1.2)
theorem zyC163 {X : zx_X}     {x1 : Int32} {x2 : Int32} {x3 : Int32} {s : zy_S} {r : Int32} {s' : zy_S}  (h : zyF163 x1 x2 x3 s = some (r, s')) : zyR X 2 163 0 [some (.ref (0 + 3)), some (.int x1), some (.int x2), some (.int x3)] [] s (zyE (some (.int r)) s') := by
  unfold zyF163 at h
  refine zy_2 rfl rfl (show zyR _ _ _ _ [some (.ref (0 + 3)), some (.int x1), some (.int x2), some (.int x3)] [.int x1] _ _ from ?_)
  obtain ⟨p1, hp1, h⟩ := zy_bind h
  refine zy_60 (as := [.int x1]) (rest := []) (L := [some (.int x1)]) (d' := 1) rfl rfl (Nat.le_of_ble_eq_true rfl) (Nat.le_of_ble_eq_true rfl) rfl (Nat.le_of_ble_eq_true rfl) rfl rfl (zyC18 hp1) ?_
  show zyR _ _ _ _ [some (.ref (0 + 3)), some (.int x1), some (.int x2), some (.int x3)] [.int p1.1] _ _
  refine zy_24_0 rfl (fun b9 => (show zyR _ _ _ _ [some (.ref (0 + 3)), some (.int x1), some (.int x2), some (.int x3)] [] _ _ from ?_)) (fun b9 => (show zyR _ _ _ _ [some (.ref (0 + 3)), some (.int x1), some (.int x2), some (.int x3)] [] _ _ from ?_))
  · replace h := zy_ifp h b9
    refine zy_3 rfl rfl (show zyR _ _ _ _ [some (.ref (0 + 3)), some (.int x1), some (.int x2), some (.int x3)] [.int (-1 : Int32)] _ _ from ?_)
    obtain ⟨rfl, rfl⟩ := zy_pi h
    exact zy_4 rfl ⟨rfl, rfl⟩
  · replace h := zy_ifn h b9
    refine zy_2 rfl rfl (show zyR _ _ _ _ [some (.ref (0 + 3)), some (.int x1), some (.int x2), some (.int x3)] [.int x2] _ _ from ?_)
    refine zy_24_2 rfl (fun b8 => (show zyR _ _ _ _ [some (.ref (0 + 3)), some (.int x1), some (.int x2), some (.int x3)] [] _ _ from ?_)) (fun b8 => (show zyR _ _ _ _ [some (.ref (0 + 3)), some (.int x1), some (.int x2), some (.int x3)] [] _ _ from ?_))
    · replace h := zy_ifp h b8
      refine zy_3 rfl rfl (show zyR _ _ _ _ [some (.ref (0 + 3)), some (.int x1), some (.int x2), some (.int x3)] [.int (-1 : Int32)] _ _ from ?_)
      obtain ⟨rfl, rfl⟩ := zy_pi h
      exact zy_4 rfl ⟨rfl, rfl⟩
    · replace h := zy_ifn h b8
      refine zy_2 rfl rfl (show zyR _ _ _ _ [some (.ref (0 + 3)), some (.int x1), some (.int x2), some (.int x3)] [.int x2] _ _ from ?_)
      refine zy_3 rfl rfl (show zyR _ _ _ _ [some (.ref (0 + 3)), some (.int x1), some (.int x2), some (.int x3)] [.int (4 : Int32), .int x2] _ _ from ?_)
      refine zy_25_4 rfl (fun b7 => (show zyR _ _ _ _ [some (.ref (0 + 3)), some (.int x1), some (.int x2), some (.int x3)] [] _ _ from ?_)) (fun b7 => (show zyR _ _ _ _ [some (.ref (0 + 3)), some (.int x1), some (.int x2), some (.int x3)] [] _ _ from ?_))
      · replace h := zy_ifp h b7
        refine zy_3 rfl rfl (show zyR _ _ _ _ [some (.ref (0 + 3)), some (.int x1), some (.int x2), some (.int x3)] [.int (-1 : Int32)] _ _ from ?_)
        obtain ⟨rfl, rfl⟩ := zy_pi h
        exact zy_4 rfl ⟨rfl, rfl⟩
      · replace h := zy_ifn h b7
        refine zy_2 rfl rfl (show zyR _ _ _ _ [some (.ref (0 + 3)), some (.int x1), some (.int x2), some (.int x3)] [.int x3] _ _ from ?_)
        refine zy_3 rfl rfl (show zyR _ _ _ _ [some (.ref (0 + 3)), some (.int x1), some (.int x2), some (.int x3)] [.int (60 : Int32), .int x3] _ _ from ?_)
        refine zy_25_5 rfl (fun b6 => (show zyR _ _ _ _ [some (.ref (0 + 3)), some (.int x1), some (.int x2), some (.int x3)] [] _ _ from ?_)) (fun b6 => (show zyR _ _ _ _ [some (.ref (0 + 3)), some (.int x1), some (.int x2), some (.int x3)] [] _ _ from ?_))
        · replace h := zy_ifp h b6
          refine zy_2 rfl rfl (show zyR _ _ _ _ [some (.ref (0 + 3)), some (.int x1), some (.int x2), some (.int x3)] [.int x3] _ _ from ?_)
          refine zy_24_3 rfl (fun b5 => (show zyR _ _ _ _ [some (.ref (0 + 3)), some (.int x1), some (.int x2), some (.int x3)] [] _ _ from ?_)) (fun b5 => (show zyR _ _ _ _ [some (.ref (0 + 3)), some (.int x1), some (.int x2), some (.int x3)] [] _ _ from ?_))
          · replace h := zy_ifp h b5
            refine zy_0 rfl rfl (show zyR _ _ _ _ [some (.ref (0 + 3)), some (.int x1), some (.int x2), some (.int x3)] [.ref (0 + 3)] _ _ from ?_)
            refine zy_1r (c := 0) rfl rfl rfl (show zyR _ _ _ _ [some (.ref (0 + 3)), some (.int x1), some (.int x2), some (.int x3)] [.ref (30 + 3)] _ _ from ?_)
            refine zy_2 rfl rfl (show zyR _ _ _ _ [some (.ref (0 + 3)), some (.int x1), some (.int x2), some (.int x3)] [.int x1, .ref (30 + 3)] _ _ from ?_)
            obtain ⟨c2, h⟩ := zy_if h
            obtain ⟨c3, h⟩ := zy_if h
            refine zy_28 rfl (zy_Wb_g c3) c2 (show zyR _ _ _ _ [some (.ref (0 + 3)), some (.int x1), some (.int x2), some (.int x3)] [.ref ((zy_sh (x1).toNatClampNeg) + 3)] _ _ from ?_)
            refine zy_2 rfl rfl (show zyR _ _ _ _ [some (.ref (0 + 3)), some (.int x1), some (.int x2), some (.int x3)] [.int x2, .ref ((zy_sh (x1).toNatClampNeg) + 3)] _ _ from ?_)
            refine zy_2 rfl rfl (show zyR _ _ _ _ [some (.ref (0 + 3)), some (.int x1), some (.int x2), some (.int x3)] [.int x3, .int x2, .ref ((zy_sh (x1).toNatClampNeg) + 3)] _ _ from ?_)
            obtain ⟨p4, hp4, h⟩ := zy_bind h
            refine zy_5 (c := (zy_sh (x1).toNatClampNeg)) (as := [.int x2, .int x3]) (rest := []) (L := [some (.ref ((zy_sh (x1).toNatClampNeg) + 3)), some (.int x2), some (.int x3)]) (d' := 1) rfl rfl (zy_isSh_of (zy_in_lt c2)).1 (Nat.le_of_ble_eq_true rfl) (Nat.le_of_ble_eq_true rfl) rfl (Nat.le_of_ble_eq_true rfl) rfl rfl (zyC164 (zy_isSh_of (zy_in_lt c2)) hp4) ?_
            show zyR _ _ _ _ [some (.ref (0 + 3)), some (.int x1), some (.int x2), some (.int x3)] [] _ _
            refine zy_3 rfl rfl (show zyR _ _ _ _ [some (.ref (0 + 3)), some (.int x1), some (.int x2), some (.int x3)] [.int (1 : Int32)] _ _ from ?_)
            obtain ⟨rfl, rfl⟩ := zy_pi h
            exact zy_4 rfl ⟨rfl, rfl⟩
          · replace h := zy_ifn h b5
            refine zy_3 rfl rfl (show zyR _ _ _ _ [some (.ref (0 + 3)), some (.int x1), some (.int x2), some (.int x3)] [.int (-14 : Int32)] _ _ from ?_)
            obtain ⟨rfl, rfl⟩ := zy_pi h
            exact zy_4 rfl ⟨rfl, rfl⟩
        · replace h := zy_ifn h b6
          refine zy_3 rfl rfl (show zyR _ _ _ _ [some (.ref (0 + 3)), some (.int x1), some (.int x2), some (.int x3)] [.int (-1 : Int32)] _ _ from ?_)
          obtain ⟨rfl, rfl⟩ := zy_pi h
          exact zy_4 rfl ⟨rfl, rfl⟩
/-! NineOpinions$Shelf.refusesPlace(I)I -/
noncomputable def zyF167   (x0 : Nat) (x1 : Int32) (s : zy_S) : Option (Int32 × zy_S) :=
(zyF19 x0 s).bind fun p1 =>
if p1.1 = 0 then
(zyF20 x0 p1.2).bind fun p2 =>
if p2.1 ≠ 0 then
(zyF23 x0 x1 (1 : Int32) p2.2).bind fun p3 =>
if p3.1 = 0 then
some ((-13 : Int32), p3.2)
else
some ((0 : Int32), p3.2)
else
some ((-12 : Int32), p2.2)
else
some ((-11 : Int32), p1.2)
theorem zyC167 {X : zx_X}     {x0 : Nat} {x1 : Int32} {s : zy_S} {r : Int32} {s' : zy_S} (hs_x0 : zy_isSh x0) (h : zyF167 x0 x1 s = some (r, s')) : zyR X 3 167 0 [some (.ref (x0 + 3)), some (.int x1)] [] s (zyE (some (.int r)) s') := by
  unfold zyF167 at h
  refine zy_0 rfl rfl (show zyR _ _ _ _ [some (.ref (x0 + 3)), some (.int x1)] [.ref (x0 + 3)] _ _ from ?_)
  obtain ⟨p1, hp1, h⟩ := zy_bind h
  refine zy_5 (c := x0) (as := []) (rest := []) (L := [some (.ref (x0 + 3))]) (d' := 2) rfl rfl hs_x0.1 (Nat.le_of_ble_eq_true rfl) (Nat.le_of_ble_eq_true rfl) rfl (Nat.le_of_ble_eq_true rfl) rfl rfl (zyC19 hs_x0 hp1) ?_
  show zyR _ _ _ _ [some (.ref (x0 + 3)), some (.int x1)] [.int p1.1] _ _
  refine zy_24_0 rfl (fun b6 => (show zyR _ _ _ _ [some (.ref (x0 + 3)), some (.int x1)] [] _ _ from ?_)) (fun b6 => (show zyR _ _ _ _ [some (.ref (x0 + 3)), some (.int x1)] [] _ _ from ?_))
  · replace h := zy_ifp h b6
    refine zy_0 rfl rfl (show zyR _ _ _ _ [some (.ref (x0 + 3)), some (.int x1)] [.ref (x0 + 3)] _ _ from ?_)
    obtain ⟨p2, hp2, h⟩ := zy_bind h
    refine zy_5 (c := x0) (as := []) (rest := []) (L := [some (.ref (x0 + 3))]) (d' := 1) rfl rfl hs_x0.1 (Nat.le_of_ble_eq_true rfl) (Nat.le_of_ble_eq_true rfl) rfl (Nat.le_of_ble_eq_true rfl) rfl rfl (zyC20 hs_x0 hp2) ?_
    show zyR _ _ _ _ [some (.ref (x0 + 3)), some (.int x1)] [.int p2.1] _ _
    refine zy_24_1 rfl (fun b5 => (show zyR _ _ _ _ [some (.ref (x0 + 3)), some (.int x1)] [] _ _ from ?_)) (fun b5 => (show zyR _ _ _ _ [some (.ref (x0 + 3)), some (.int x1)] [] _ _ from ?_))
    · replace h := zy_ifp h b5
      refine zy_0 rfl rfl (show zyR _ _ _ _ [some (.ref (x0 + 3)), some (.int x1)] [.ref (x0 + 3)] _ _ from ?_)
      refine zy_2 rfl rfl (show zyR _ _ _ _ [some (.ref (x0 + 3)), some (.int x1)] [.int x1, .ref (x0 + 3)] _ _ from ?_)
      refine zy_3 rfl rfl (show zyR _ _ _ _ [some (.ref (x0 + 3)), some (.int x1)] [.int (1 : Int32), .int x1, .ref (x0 + 3)] _ _ from ?_)
      obtain ⟨p3, hp3, h⟩ := zy_bind h
      refine zy_5 (c := x0) (as := [.int x1, .int (1 : Int32)]) (rest := []) (L := [some (.ref (x0 + 3)), some (.int x1), some (.int (1 : Int32))]) (d' := 1) rfl rfl hs_x0.1 (Nat.le_of_ble_eq_true rfl) (Nat.le_of_ble_eq_true rfl) rfl (Nat.le_of_ble_eq_true rfl) rfl rfl (zyC23 hs_x0 hp3) ?_
      show zyR _ _ _ _ [some (.ref (x0 + 3)), some (.int x1)] [.int p3.1] _ _
      refine zy_24_0 rfl (fun b4 => (show zyR _ _ _ _ [some (.ref (x0 + 3)), some (.int x1)] [] _ _ from ?_)) (fun b4 => (show zyR _ _ _ _ [some (.ref (x0 + 3)), some (.int x1)] [] _ _ from ?_))
      · replace h := zy_ifp h b4
        refine zy_3 rfl rfl (show zyR _ _ _ _ [some (.ref (x0 + 3)), some (.int x1)] [.int (-13 : Int32)] _ _ from ?_)
        obtain ⟨rfl, rfl⟩ := zy_pi h
        exact zy_4 rfl ⟨rfl, rfl⟩
      · replace h := zy_ifn h b4
        refine zy_3 rfl rfl (show zyR _ _ _ _ [some (.ref (x0 + 3)), some (.int x1)] [.int (0 : Int32)] _ _ from ?_)
        refine zy_6 rfl (show zyR _ _ _ _ [some (.ref (x0 + 3)), some (.int x1)] [.int (0 : Int32)] _ _ from ?_)
        obtain ⟨rfl, rfl⟩ := zy_pi h
        exact zy_4 rfl ⟨rfl, rfl⟩
    · replace h := zy_ifn h b5
      refine zy_3 rfl rfl (show zyR _ _ _ _ [some (.ref (x0 + 3)), some (.int x1)] [.int (-12 : Int32)] _ _ from ?_)
      obtain ⟨rfl, rfl⟩ := zy_pi h
      exact zy_4 rfl ⟨rfl, rfl⟩
  · replace h := zy_ifn h b6
    refine zy_3 rfl rfl (show zyR _ _ _ _ [some (.ref (x0 + 3)), some (.int x1)] [.int (-11 : Int32)] _ _ from ?_)
    obtain ⟨rfl, rfl⟩ := zy_pi h
    exact zy_4 rfl ⟨rfl, rfl⟩
/-! NineOpinions$Shelf.lowestBits(J)J -/
noncomputable def zyF169   (x0 : Nat) (x1 : Int64) (s : zy_S) : Option (Int64 × zy_S) :=
if (s.1 x0 2) = (0 : Int32) then
some ((((x1).toInt32).toInt8.toInt32).toInt64, s)
else
if (s.1 x0 2) = (1 : Int32) then
some ((((x1).toInt32).toInt16.toInt32).toInt64, s)
else
if (s.1 x0 2) = (2 : Int32) then
some (((x1).toInt32).toInt64, s)
else
if (s.1 x0 2) = (3 : Int32) then
some (x1, s)
else
if (lg_cmp x1 (0 : Int64)) = 0 then
some ((0 : Int64), s)
else
some ((1 : Int64), s)
theorem zyC169 {X : zx_X}     {x0 : Nat} {x1 : Int64} {s : zy_S} {r : Int64} {s' : zy_S} (hs_x0 : zy_isSh x0) (h : zyF169 x0 x1 s = some (r, s')) : zyR X 1 169 0 [some (.ref (x0 + 3)), some (.long x1), none] [] s (zyE (some (.long r)) s') := by
  unfold zyF169 at h
  refine zy_0 rfl rfl (show zyR _ _ _ _ [some (.ref (x0 + 3)), some (.long x1), none] [.ref (x0 + 3)] _ _ from ?_)
  refine zy_1 (c := x0) rfl hs_x0.1 rfl (show zyR _ _ _ _ [some (.ref (x0 + 3)), some (.long x1), none] [.int (s.1 x0 2)] _ _ from ?_)
  refine zy_50 rfl (by decide) ?_
  refine zy_swp (fun b1 => (show zyR _ _ _ _ [some (.ref (x0 + 3)), some (.long x1), none] [] _ _ from ?_)) (fun b1 => ?_)
  · replace h := zy_ifp h b1
    refine zy_37 rfl rfl (show zyR _ _ _ _ [some (.ref (x0 + 3)), some (.long x1), none] [.long x1] _ _ from ?_)
    refine zy_41 rfl (show zyR _ _ _ _ [some (.ref (x0 + 3)), some (.long x1), none] [.int (x1).toInt32] _ _ from ?_)
    refine zy_42 rfl (show zyR _ _ _ _ [some (.ref (x0 + 3)), some (.long x1), none] [.int ((x1).toInt32).toInt8.toInt32] _ _ from ?_)
    refine zy_40 rfl (show zyR _ _ _ _ [some (.ref (x0 + 3)), some (.long x1), none] [.long (((x1).toInt32).toInt8.toInt32).toInt64] _ _ from ?_)
    cases h
    exact zy_65 rfl ⟨rfl, rfl⟩
  replace h := zy_ifn h b1
  refine zy_swp (fun b2 => (show zyR _ _ _ _ [some (.ref (x0 + 3)), some (.long x1), none] [] _ _ from ?_)) (fun b2 => ?_)
  · replace h := zy_ifp h b2
    refine zy_37 rfl rfl (show zyR _ _ _ _ [some (.ref (x0 + 3)), some (.long x1), none] [.long x1] _ _ from ?_)
    refine zy_41 rfl (show zyR _ _ _ _ [some (.ref (x0 + 3)), some (.long x1), none] [.int (x1).toInt32] _ _ from ?_)
    refine zy_43 rfl (show zyR _ _ _ _ [some (.ref (x0 + 3)), some (.long x1), none] [.int ((x1).toInt32).toInt16.toInt32] _ _ from ?_)
    refine zy_40 rfl (show zyR _ _ _ _ [some (.ref (x0 + 3)), some (.long x1), none] [.long (((x1).toInt32).toInt16.toInt32).toInt64] _ _ from ?_)
    cases h
    exact zy_65 rfl ⟨rfl, rfl⟩
  replace h := zy_ifn h b2
  refine zy_swp (fun b3 => (show zyR _ _ _ _ [some (.ref (x0 + 3)), some (.long x1), none] [] _ _ from ?_)) (fun b3 => ?_)
  · replace h := zy_ifp h b3
    refine zy_37 rfl rfl (show zyR _ _ _ _ [some (.ref (x0 + 3)), some (.long x1), none] [.long x1] _ _ from ?_)
    refine zy_41 rfl (show zyR _ _ _ _ [some (.ref (x0 + 3)), some (.long x1), none] [.int (x1).toInt32] _ _ from ?_)
    refine zy_40 rfl (show zyR _ _ _ _ [some (.ref (x0 + 3)), some (.long x1), none] [.long ((x1).toInt32).toInt64] _ _ from ?_)
    cases h
    exact zy_65 rfl ⟨rfl, rfl⟩
  replace h := zy_ifn h b3
  refine zy_swp (fun b4 => (show zyR _ _ _ _ [some (.ref (x0 + 3)), some (.long x1), none] [] _ _ from ?_)) (fun b4 => ?_)
  · replace h := zy_ifp h b4
    refine zy_37 rfl rfl (show zyR _ _ _ _ [some (.ref (x0 + 3)), some (.long x1), none] [.long x1] _ _ from ?_)
    cases h
    exact zy_65 rfl ⟨rfl, rfl⟩
  replace h := zy_ifn h b4
  show zyR _ _ _ _ [some (.ref (x0 + 3)), some (.long x1), none] [] _ _
  refine zy_37 rfl rfl (show zyR _ _ _ _ [some (.ref (x0 + 3)), some (.long x1), none] [.long x1] _ _ from ?_)
  refine zy_36 rfl rfl (show zyR _ _ _ _ [some (.ref (x0 + 3)), some (.long x1), none] [.long (0 : Int64), .long x1] _ _ from ?_)
  refine zy_44 rfl (show zyR _ _ _ _ [some (.ref (x0 + 3)), some (.long x1), none] [.int (lg_cmp x1 (0 : Int64))] _ _ from ?_)
  refine zy_24_0 rfl (fun b5 => (show zyR _ _ _ _ [some (.ref (x0 + 3)), some (.long x1), none] [] _ _ from ?_)) (fun b5 => (show zyR _ _ _ _ [some (.ref (x0 + 3)), some (.long x1), none] [] _ _ from ?_))
  · replace h := zy_ifp h b5
    refine zy_36 rfl rfl (show zyR _ _ _ _ [some (.ref (x0 + 3)), some (.long x1), none] [.long (0 : Int64)] _ _ from ?_)
    cases h
    exact zy_65 rfl ⟨rfl, rfl⟩
  · replace h := zy_ifn h b5
    refine zy_36 rfl rfl (show zyR _ _ _ _ [some (.ref (x0 + 3)), some (.long x1), none] [.long (1 : Int64)] _ _ from ?_)
    refine zy_6 rfl (show zyR _ _ _ _ [some (.ref (x0 + 3)), some (.long x1), none] [.long (1 : Int64)] _ _ from ?_)
    cases h
    exact zy_65 rfl ⟨rfl, rfl⟩
/-! NineOpinions$Shelf.lay(IJ)V -/
noncomputable def zyF168   (x0 : Nat) (x1 : Int32) (x2 : Int64) (s : zy_S) : Option (Int32 × zy_S) :=
(zyF169 x0 x2 s).bind fun p1 =>
if zy_in x1 60 then
some ((0 : Int32), (zy_uj p1.2 (x0 + 1) (x1).toNatClampNeg p1.1))
else none
theorem zyC168 {X : zx_X}     {x0 : Nat} {x1 : Int32} {x2 : Int64} {s : zy_S} {r : Int32} {s' : zy_S} (hs_x0 : zy_isSh x0) (h : zyF168 x0 x1 x2 s = some (r, s')) : zyR X 2 168 0 [some (.ref (x0 + 3)), some (.int x1), some (.long x2), none] [] s (zyE none s') := by
  unfold zyF168 at h
  refine zy_0 rfl rfl (show zyR _ _ _ _ [some (.ref (x0 + 3)), some (.int x1), some (.long x2), none] [.ref (x0 + 3)] _ _ from ?_)
  refine zy_1r (c := x0) rfl hs_x0.1 rfl (show zyR _ _ _ _ [some (.ref (x0 + 3)), some (.int x1), some (.long x2), none] [.ref (x0 + 1 + 3)] _ _ from ?_)
  refine zy_2 rfl rfl (show zyR _ _ _ _ [some (.ref (x0 + 3)), some (.int x1), some (.long x2), none] [.int x1, .ref (x0 + 1 + 3)] _ _ from ?_)
  refine zy_0 rfl rfl (show zyR _ _ _ _ [some (.ref (x0 + 3)), some (.int x1), some (.long x2), none] [.ref (x0 + 3), .int x1, .ref (x0 + 1 + 3)] _ _ from ?_)
  refine zy_37 rfl rfl (show zyR _ _ _ _ [some (.ref (x0 + 3)), some (.int x1), some (.long x2), none] [.long x2, .ref (x0 + 3), .int x1, .ref (x0 + 1 + 3)] _ _ from ?_)
  obtain ⟨p1, hp1, h⟩ := zy_bind h
  refine zy_5 (c := x0) (as := [.long x2]) (rest := [.int x1, .ref (x0 + 1 + 3)]) (L := [some (.ref (x0 + 3)), some (.long x2), none]) (d' := 1) rfl rfl hs_x0.1 (Nat.le_of_ble_eq_true rfl) (Nat.le_of_ble_eq_true rfl) rfl (Nat.le_of_ble_eq_true rfl) rfl rfl (zyC169 hs_x0 hp1) ?_
  show zyR _ _ _ _ [some (.ref (x0 + 3)), some (.int x1), some (.long x2), none] [.long p1.1, .int x1, .ref (x0 + 1 + 3)] _ _
  obtain ⟨c2, h⟩ := zy_if h
  refine zy_31 (c := (x0 + 1)) rfl hs_x0.2 c2 (show zyR _ _ _ _ [some (.ref (x0 + 3)), some (.int x1), some (.long x2), none] [] _ _ from ?_)
  cases h
  exact zy_66 rfl ⟨rfl, rfl⟩
