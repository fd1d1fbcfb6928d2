/-! PART 41.04: methods as functions. Made by wip/v4/dcp.py. -/
/-! NineOpinions.row(III)I -/
noncomputable def zyF163   (x1 : Int32) (x2 : Int32) (x3 : Int32) (s : zy_S) : Option (Int32 × zy_S) :=
(zyF18 x1 s).bind fun p1 =>
if p1.1 = 0 then
some ((-1 : Int32), p1.2)
else
if x2 < 0 then
some ((-1 : Int32), p1.2)
else
if (4 : Int32) < x2 then
some ((-1 : Int32), p1.2)
else
if x3 ≤ (60 : Int32) then
if 0 ≤ x3 then
if zy_in x1 6 then
if zy_Wb p1.2 then
(zyF164 (zy_sh (x1).toNatClampNeg) x2 x3 p1.2).bind fun p4 =>
some ((1 : Int32), p4.2)
else none
else none
else
some ((-14 : Int32), p1.2)
else
some ((-1 : Int32), p1.2)
theorem zyC163 {X : zx_X}     {x1 : Int32} {x2 : Int32} {x3 : Int32} {s : zy_S} {r : Int32} {s' : zy_S}  (h : zyF163 x1 x2 x3 s = some (r, s')) : zyR X 2 163 0 [some (.ref (0 + 3)), some (.int x1), some (.int x2), some (.int x3)] [] s (zyE (some (.int r)) s') := by
  unfold zyF163 at h
  refine zy_2 rfl rfl (show zyR _ _ _ _ [some (.ref (0 + 3)), some (.int x1), some (.int x2), some (.int x3)] [.int x1] _ _ from ?_)
  obtain ⟨p1, hp1, h⟩ := zy_bind h
  refine zy_60 (as := [.int x1]) (rest := []) (L := [some (.int x1)]) (d' := 1) rfl rfl (Nat.le_of_ble_eq_true rfl) (Nat.le_of_ble_eq_true rfl) rfl (Nat.le_of_ble_eq_true rfl) rfl rfl (zyC18 hp1) ?_
  show zyR _ _ _ _ [some (.ref (0 + 3)), some (.int x1), some (.int x2), some (.int x3)] [.int p1.1] _ _
  refine zy_24_0 rfl (fun b9 => (show zyR _ _ _ _ [some (.ref (0 + 3)), some (.int x1), some (.int x2), some (.int x3)] [] _ _ from ?_)) (fun b9 => (show zyR _ _ _ _ [some (.ref (0 + 3)), some (.int x1), some (.int x2), some (.int x3)] [] _ _ from ?_))
  · replace h := zy_ifp h b9
    refine zy_3 rfl rfl (show zyR _ _ _ _ [some (.ref (0 + 3)), some (.int x1), some (.int x2), some (.int x3)] [.int (-1 : Int32)] _ _ from ?_)
    obtain ⟨rfl, rfl⟩ := zy_pi h
    exact zy_4 rfl ⟨rfl, rfl⟩
  · replace h := zy_ifn h b9
    refine zy_2 rfl rfl (show zyR _ _ _ _ [some (.ref (0 + 3)), some (.int x1), some (.int x2), some (.int x3)] [.int x2] _ _ from ?_)
    refine zy_24_2 rfl (fun b8 => (show zyR _ _ _ _ [some (.ref (0 + 3)), some (.int x1), some (.int x2), some (.int x3)] [] _ _ from ?_)) (fun b8 => (show zyR _ _ _ _ [some (.ref (0 + 3)), some (.int x1), some (.int x2), some (.int x3)] [] _ _ from ?_))
    · replace h := zy_ifp h b8
      refine zy_3 rfl rfl (show zyR _ _ _ _ [some (.ref (0 + 3)), some (.int x1), some (.int x2), some (.int x3)] [.int (-1 : Int32)] _ _ from ?_)
      obtain ⟨rfl, rfl⟩ := zy_pi h
      exact zy_4 rfl ⟨rfl, rfl⟩
    · replace h := zy_ifn h b8
      refine zy_2 rfl rfl (show zyR _ _ _ _ [some (.ref (0 + 3)), some (.int x1), some (.int x2), some (.int x3)] [.int x2] _ _ from ?_)
      refine zy_3 rfl rfl (show zyR _ _ _ _ [some (.ref (0 + 3)), some (.int x1), some (.int x2), some (.int x3)] [.int (4 : Int32), .int x2] _ _ from ?_)
      refine zy_25_4 rfl (fun b7 => (show zyR _ _ _ _ [some (.ref (0 + 3)), some (.int x1), some (.int x2), some (.int x3)] [] _ _ from ?_)) (fun b7 => (show zyR _ _ _ _ [some (.ref (0 + 3)), some (.int x1), some (.int x2), some (.int x3)] [] _ _ from ?_))
      · replace h := zy_ifp h b7
        refine zy_3 rfl rfl (show zyR _ _ _ _ [some (.ref (0 + 3)), some (.int x1), some (.int x2), some (.int x3)] [.int (-1 : Int32)] _ _ from ?_)
        obtain ⟨rfl, rfl⟩ := zy_pi h
        exact zy_4 rfl ⟨rfl, rfl⟩
      · replace h := zy_ifn h b7
        refine zy_2 rfl rfl (show zyR _ _ _ _ [some (.ref (0 + 3)), some (.int x1), some (.int x2), some (.int x3)] [.int x3] _ _ from ?_)
        refine zy_3 rfl rfl (show zyR _ _ _ _ [some (.ref (0 + 3)), some (.int x1), some (.int x2), some (.int x3)] [.int (60 : Int32), .int x3] _ _ from ?_)
        refine zy_25_5 rfl (fun b6 => (show zyR _ _ _ _ [some (.ref (0 + 3)), some (.int x1), some (.int x2), some (.int x3)] [] _ _ from ?_)) (fun b6 => (show zyR _ _ _ _ [some (.ref (0 + 3)), some (.int x1), some (.int x2), some (.int x3)] [] _ _ from ?_))
        · replace h := zy_ifp h b6
          refine zy_2 rfl rfl (show zyR _ _ _ _ [some (.ref (0 + 3)), some (.int x1), some (.int x2), some (.int x3)] [.int x3] _ _ from ?_)
          refine zy_24_3 rfl (fun b5 => (show zyR _ _ _ _ [some (.ref (0 + 3)), some (.int x1), some (.int x2), some (.int x3)] [] _ _ from ?_)) (fun b5 => (show zyR _ _ _ _ [some (.ref (0 + 3)), some (.int x1), some (.int x2), some (.int x3)] [] _ _ from ?_))
          · replace h := zy_ifp h b5
            refine zy_0 rfl rfl (show zyR _ _ _ _ [some (.ref (0 + 3)), some (.int x1), some (.int x2), some (.int x3)] [.ref (0 + 3)] _ _ from ?_)
            refine zy_1r (c := 0) rfl rfl rfl (show zyR _ _ _ _ [some (.ref (0 + 3)), some (.int x1), some (.int x2), some (.int x3)] [.ref (30 + 3)] _ _ from ?_)
            refine zy_2 rfl rfl (show zyR _ _ _ _ [some (.ref (0 + 3)), some (.int x1), some (.int x2), some (.int x3)] [.int x1, .ref (30 + 3)] _ _ from ?_)
            obtain ⟨c2, h⟩ := zy_if h
            obtain ⟨c3, h⟩ := zy_if h
            refine zy_28 rfl (zy_Wb_g c3) c2 (show zyR _ _ _ _ [some (.ref (0 + 3)), some (.int x1), some (.int x2), some (.int x3)] [.ref ((zy_sh (x1).toNatClampNeg) + 3)] _ _ from ?_)
            refine zy_2 rfl rfl (show zyR _ _ _ _ [some (.ref (0 + 3)), some (.int x1), some (.int x2), some (.int x3)] [.int x2, .ref ((zy_sh (x1).toNatClampNeg) + 3)] _ _ from ?_)
            refine zy_2 rfl rfl (show zyR _ _ _ _ [some (.ref (0 + 3)), some (.int x1), some (.int x2), some (.int x3)] [.int x3, .int x2, .ref ((zy_sh (x1).toNatClampNeg) + 3)] _ _ from ?_)
            obtain ⟨p4, hp4, h⟩ := zy_bind h
            refine zy_5 (c := (zy_sh (x1).toNatClampNeg)) (as := [.int x2, .int x3]) (rest := []) (L := [some (.ref ((zy_sh (x1).toNatClampNeg) + 3)), some (.int x2), some (.int x3)]) (d' := 1) rfl rfl (zy_isSh_of (zy_in_lt c2)).1 (Nat.le_of_ble_eq_true rfl) (Nat.le_of_ble_eq_true rfl) rfl (Nat.le_of_ble_eq_true rfl) rfl rfl (zyC164 (zy_isSh_of (zy_in_lt c2)) hp4) ?_
            show zyR _ _ _ _ [some (.ref (0 + 3)), some (.int x1), some (.int x2), some (.int x3)] [] _ _
            refine zy_3 rfl rfl (show zyR _ _ _ _ [some (.ref (0 + 3)), some (.int x1), some (.int x2), some (.int x3)] [.int (1 : Int32)] _ _ from ?_)
            obtain ⟨rfl, rfl⟩ := zy_pi h
            exact zy_4 rfl ⟨rfl, rfl⟩
          · replace h := zy_ifn h b5
            refine zy_3 rfl rfl (show zyR _ _ _ _ [some (.ref (0 + 3)), some (.int x1), some (.int x2), some (.int x3)] [.int (-14 : Int32)] _ _ from ?_)
            obtain ⟨rfl, rfl⟩ := zy_pi h
            exact zy_4 rfl ⟨rfl, rfl⟩
        · replace h := zy_ifn h b6
          refine zy_3 rfl rfl (show zyR _ _ _ _ [some (.ref (0 + 3)), some (.int x1), some (.int x2), some (.int x3)] [.int (-1 : Int32)] _ _ from ?_)
          obtain ⟨rfl, rfl⟩ := zy_pi h
          exact zy_4 rfl ⟨rfl, rfl⟩
/-! NineOpinions$Shelf.refusesPlace(I)I -/
noncomputable def zyF167   (x0 : Nat) (x1 : Int32) (s : zy_S) : Option (Int32 × zy_S) :=
(zyF19 x0 s).bind fun p1 =>
if p1.1 = 0 then
(zyF20 x0 p1.2).bind fun p2 =>
if p2.1 ≠ 0 then
(zyF23 x0 x1 (1 : Int32) p2.2).bind fun p3 =>
if p3.1 = 0 then
some ((-13 : Int32), p3.2)
else
some ((0 : Int32), p3.2)
else
some ((-12 : Int32), p2.2)
else
some ((-11 : Int32), p1.2)
theorem zyC167 {X : zx_X}     {x0 : Nat} {x1 : Int32} {s : zy_S} {r : Int32} {s' : zy_S} (hs_x0 : zy_isSh x0) (h : zyF167 x0 x1 s = some (r, s')) : zyR X 3 167 0 [some (.ref (x0 + 3)), some (.int x1)] [] s (zyE (some (.int r)) s') := by
  unfold zyF167 at h
  refine zy_0 rfl rfl (show zyR _ _ _ _ [some (.ref (x0 + 3)), some (.int x1)] [.ref (x0 + 3)] _ _ from ?_)
  obtain ⟨p1, hp1, h⟩ := zy_bind h
  refine zy_5 (c := x0) (as := []) (rest := []) (L := [some (.ref (x0 + 3))]) (d' := 2) rfl rfl hs_x0.1 (Nat.le_of_ble_eq_true rfl) (Nat.le_of_ble_eq_true rfl) rfl (Nat.le_of_ble_eq_true rfl) rfl rfl (zyC19 hs_x0 hp1) ?_
  show zyR _ _ _ _ [some (.ref (x0 + 3)), some (.int x1)] [.int p1.1] _ _
  refine zy_24_0 rfl (fun b6 => (show zyR _ _ _ _ [some (.ref (x0 + 3)), some (.int x1)] [] _ _ from ?_)) (fun b6 => (show zyR _ _ _ _ [some (.ref (x0 + 3)), some (.int x1)] [] _ _ from ?_))
  · replace h := zy_ifp h b6
    refine zy_0 rfl rfl (show zyR _ _ _ _ [some (.ref (x0 + 3)), some (.int x1)] [.ref (x0 + 3)] _ _ from ?_)
    obtain ⟨p2, hp2, h⟩ := zy_bind h
    refine zy_5 (c := x0) (as := []) (rest := []) (L := [some (.ref (x0 + 3))]) (d' := 1) rfl rfl hs_x0.1 (Nat.le_of_ble_eq_true rfl) (Nat.le_of_ble_eq_true rfl) rfl (Nat.le_of_ble_eq_true rfl) rfl rfl (zyC20 hs_x0 hp2) ?_
    show zyR _ _ _ _ [some (.ref (x0 + 3)), some (.int x1)] [.int p2.1] _ _
    refine zy_24_1 rfl (fun b5 => (show zyR _ _ _ _ [some (.ref (x0 + 3)), some (.int x1)] [] _ _ from ?_)) (fun b5 => (show zyR _ _ _ _ [some (.ref (x0 + 3)), some (.int x1)] [] _ _ from ?_))
    · replace h := zy_ifp h b5
      refine zy_0 rfl rfl (show zyR _ _ _ _ [some (.ref (x0 + 3)), some (.int x1)] [.ref (x0 + 3)] _ _ from ?_)
      refine zy_2 rfl rfl (show zyR _ _ _ _ [some (.ref (x0 + 3)), some (.int x1)] [.int x1, .ref (x0 + 3)] _ _ from ?_)
      refine zy_3 rfl rfl (show zyR _ _ _ _ [some (.ref (x0 + 3)), some (.int x1)] [.int (1 : Int32), .int x1, .ref (x0 + 3)] _ _ from ?_)
      obtain ⟨p3, hp3, h⟩ := zy_bind h
      refine zy_5 (c := x0) (as := [.int x1, .int (1 : Int32)]) (rest := []) (L := [some (.ref (x0 + 3)), some (.int x1), some (.int (1 : Int32))]) (d' := 1) rfl rfl hs_x0.1 (Nat.le_of_ble_eq_true rfl) (Nat.le_of_ble_eq_true rfl) rfl (Nat.le_of_ble_eq_true rfl) rfl rfl (zyC23 hs_x0 hp3) ?_
      show zyR _ _ _ _ [some (.ref (x0 + 3)), some (.int x1)] [.int p3.1] _ _
      refine zy_24_0 rfl (fun b4 => (show zyR _ _ _ _ [some (.ref (x0 + 3)), some (.int x1)] [] _ _ from ?_)) (fun b4 => (show zyR _ _ _ _ [some (.ref (x0 + 3)), some (.int x1)] [] _ _ from ?_))
      · replace h := zy_ifp h b4
        refine zy_3 rfl rfl (show zyR _ _ _ _ [some (.ref (x0 + 3)), some (.int x1)] [.int (-13 : Int32)] _ _ from ?_)
        obtain ⟨rfl, rfl⟩ := zy_pi h
        exact zy_4 rfl ⟨rfl, rfl⟩
      · replace h := zy_ifn h b4
        refine zy_3 rfl rfl (show zyR _ _ _ _ [some (.ref (x0 + 3)), some (.int x1)] [.int (0 : Int32)] _ _ from ?_)
        refine zy_6 rfl (show zyR _ _ _ _ [some (.ref (x0 + 3)), some (.int x1)] [.int (0 : Int32)] _ _ from ?_)
        obtain ⟨rfl, rfl⟩ := zy_pi h
        exact zy_4 rfl ⟨rfl, rfl⟩
    · replace h := zy_ifn h b5
      refine zy_3 rfl rfl (show zyR _ _ _ _ [some (.ref (x0 + 3)), some (.int x1)] [.int (-12 : Int32)] _ _ from ?_)
      obtain ⟨rfl, rfl⟩ := zy_pi h
      exact zy_4 rfl ⟨rfl, rfl⟩
  · replace h := zy_ifn h b6
    refine zy_3 rfl rfl (show zyR _ _ _ _ [some (.ref (x0 + 3)), some (.int x1)] [.int (-11 : Int32)] _ _ from ?_)
    obtain ⟨rfl, rfl⟩ := zy_pi h
    exact zy_4 rfl ⟨rfl, rfl⟩
/-! NineOpinions$Shelf.lowestBits(J)J -/
noncomputable def zyF169   (x0 : Nat) (x1 : Int64) (s : zy_S) : Option (Int64 × zy_S) :=
if (s.1 x0 2) = (0 : Int32) then
some ((((x1).toInt32).toInt8.toInt32).toInt64, s)
else
if (s.1 x0 2) = (1 : Int32) then
some ((((x1).toInt32).toInt16.toInt32).toInt64, s)
else
if (s.1 x0 2) = (2 : Int32) then
some (((x1).toInt32).toInt64, s)
else
if (s.1 x0 2) = (3 : Int32) then
some (x1, s)
else
if (lg_cmp x1 (0 : Int64)) = 0 then
some ((0 : Int64), s)
else
some ((1 : Int64), s)
theorem zyC169 {X : zx_X}     {x0 : Nat} {x1 : Int64} {s : zy_S} {r : Int64} {s' : zy_S} (hs_x0 : zy_isSh x0) (h : zyF169 x0 x1 s = some (r, s')) : zyR X 1 169 0 [some (.ref (x0 + 3)), some (.long x1), none] [] s (zyE (some (.long r)) s') := by
  unfold zyF169 at h
  refine zy_0 rfl rfl (show zyR _ _ _ _ [some (.ref (x0 + 3)), some (.long x1), none] [.ref (x0 + 3)] _ _ from ?_)
  refine zy_1 (c := x0) rfl hs_x0.1 rfl (show zyR _ _ _ _ [some (.ref (x0 + 3)), some (.long x1), none] [.int (s.1 x0 2)] _ _ from ?_)
  refine zy_50 rfl (by decide) ?_
  refine zy_swp (fun b1 => (show zyR _ _ _ _ [some (.ref (x0 + 3)), some (.long x1), none] [] _ _ from ?_)) (fun b1 => ?_)
  · replace h := zy_ifp h b1
    refine zy_37 rfl rfl (show zyR _ _ _ _ [some (.ref (x0 + 3)), some (.long x1), none] [.long x1] _ _ from ?_)
    refine zy_41 rfl (show zyR _ _ _ _ [some (.ref (x0 + 3)), some (.long x1), none] [.int (x1).toInt32] _ _ from ?_)
    refine zy_42 rfl (show zyR _ _ _ _ [some (.ref (x0 + 3)), some (.long x1), none] [.int ((x1).toInt32).toInt8.toInt32] _ _ from ?_)
    refine zy_40 rfl (show zyR _ _ _ _ [some (.ref (x0 + 3)), some (.long x1), none] [.long (((x1).toInt32).toInt8.toInt32).toInt64] _ _ from ?_)
    cases h
    exact zy_65 rfl ⟨rfl, rfl⟩
  replace h := zy_ifn h b1
  refine zy_swp (fun b2 => (show zyR _ _ _ _ [some (.ref (x0 + 3)), some (.long x1), none] [] _ _ from ?_)) (fun b2 => ?_)
  · replace h := zy_ifp h b2
    refine zy_37 rfl rfl (show zyR _ _ _ _ [some (.ref (x0 + 3)), some (.long x1), none] [.long x1] _ _ from ?_)
    refine zy_41 rfl (show zyR _ _ _ _ [some (.ref (x0 + 3)), some (.long x1), none] [.int (x1).toInt32] _ _ from ?_)
    refine zy_43 rfl (show zyR _ _ _ _ [some (.ref (x0 + 3)), some (.long x1), none] [.int ((x1).toInt32).toInt16.toInt32] _ _ from ?_)
    refine zy_40 rfl (show zyR _ _ _ _ [some (.ref (x0 + 3)), some (.long x1), none] [.long (((x1).toInt32).toInt16.toInt32).toInt64] _ _ from ?_)
    cases h
    exact zy_65 rfl ⟨rfl, rfl⟩
  replace h := zy_ifn h b2
  refine zy_swp (fun b3 => (show zyR _ _ _ _ [some (.ref (x0 + 3)), some (.long x1), none] [] _ _ from ?_)) (fun b3 => ?_)
  · replace h := zy_ifp h b3
    refine zy_37 rfl rfl (show zyR _ _ _ _ [some (.ref (x0 + 3)), some (.long x1), none] [.long x1] _ _ from ?_)
    refine zy_41 rfl (show zyR _ _ _ _ [some (.ref (x0 + 3)), some (.long x1), none] [.int (x1).toInt32] _ _ from ?_)
    refine zy_40 rfl (show zyR _ _ _ _ [some (.ref (x0 + 3)), some (.long x1), none] [.long ((x1).toInt32).toInt64] _ _ from ?_)
    cases h
    exact zy_65 rfl ⟨rfl, rfl⟩
  replace h := zy_ifn h b3
  refine zy_swp (fun b4 => (show zyR _ _ _ _ [some (.ref (x0 + 3)), some (.long x1), none] [] _ _ from ?_)) (fun b4 => ?_)
  · replace h := zy_ifp h b4
    refine zy_37 rfl rfl (show zyR _ _ _ _ [some (.ref (x0 + 3)), some (.long x1), none] [.long x1] _ _ from ?_)
    cases h
    exact zy_65 rfl ⟨rfl, rfl⟩
  replace h := zy_ifn h b4
  show zyR _ _ _ _ [some (.ref (x0 + 3)), some (.long x1), none] [] _ _
  refine zy_37 rfl rfl (show zyR _ _ _ _ [some (.ref (x0 + 3)), some (.long x1), none] [.long x1] _ _ from ?_)
  refine zy_36 rfl rfl (show zyR _ _ _ _ [some (.ref (x0 + 3)), some (.long x1), none] [.long (0 : Int64), .long x1] _ _ from ?_)
  refine zy_44 rfl (show zyR _ _ _ _ [some (.ref (x0 + 3)), some (.long x1), none] [.int (lg_cmp x1 (0 : Int64))] _ _ from ?_)
  refine zy_24_0 rfl (fun b5 => (show zyR _ _ _ _ [some (.ref (x0 + 3)), some (.long x1), none] [] _ _ from ?_)) (fun b5 => (show zyR _ _ _ _ [some (.ref (x0 + 3)), some (.long x1), none] [] _ _ from ?_))
  · replace h := zy_ifp h b5
    refine zy_36 rfl rfl (show zyR _ _ _ _ [some (.ref (x0 + 3)), some (.long x1), none] [.long (0 : Int64)] _ _ from ?_)
    cases h
    exact zy_65 rfl ⟨rfl, rfl⟩
  · replace h := zy_ifn h b5
    refine zy_36 rfl rfl (show zyR _ _ _ _ [some (.ref (x0 + 3)), some (.long x1), none] [.long (1 : Int64)] _ _ from ?_)
    refine zy_6 rfl (show zyR _ _ _ _ [some (.ref (x0 + 3)), some (.long x1), none] [.long (1 : Int64)] _ _ from ?_)
    cases h
    exact zy_65 rfl ⟨rfl, rfl⟩
/-! NineOpinions$Shelf.lay(IJ)V -/
noncomputable def zyF168   (x0 : Nat) (x1 : Int32) (x2 : Int64) (s : zy_S) : Option (Int32 × zy_S) :=
(zyF169 x0 x2 s).bind fun p1 =>
if zy_in x1 60 then
some ((0 : Int32), (zy_uj p1.2 (x0 + 1) (x1).toNatClampNeg p1.1))
else none
theorem zyC168 {X : zx_X}     {x0 : Nat} {x1 : Int32} {x2 : Int64} {s : zy_S} {r : Int32} {s' : zy_S} (hs_x0 : zy_isSh x0) (h : zyF168 x0 x1 x2 s = some (r, s')) : zyR X 2 168 0 [some (.ref (x0 + 3)), some (.int x1), some (.long x2), none] [] s (zyE none s') := by
  unfold zyF168 at h
  refine zy_0 rfl rfl (show zyR _ _ _ _ [some (.ref (x0 + 3)), some (.int x1), some (.long x2), none] [.ref (x0 + 3)] _ _ from ?_)
  refine zy_1r (c := x0) rfl hs_x0.1 rfl (show zyR _ _ _ _ [some (.ref (x0 + 3)), some (.int x1), some (.long x2), none] [.ref (x0 + 1 + 3)] _ _ from ?_)
  refine zy_2 rfl rfl (show zyR _ _ _ _ [some (.ref (x0 + 3)), some (.int x1), some (.long x2), none] [.int x1, .ref (x0 + 1 + 3)] _ _ from ?_)
  refine zy_0 rfl rfl (show zyR _ _ _ _ [some (.ref (x0 + 3)), some (.int x1), some (.long x2), none] [.ref (x0 + 3), .int x1, .ref (x0 + 1 + 3)] _ _ from ?_)
  refine zy_37 rfl rfl (show zyR _ _ _ _ [some (.ref (x0 + 3)), some (.int x1), some (.long x2), none] [.long x2, .ref (x0 + 3), .int x1, .ref (x0 + 1 + 3)] _ _ from ?_)
  obtain ⟨p1, hp1, h⟩ := zy_bind h
  refine zy_5 (c := x0) (as := [.long x2]) (rest := [.int x1, .ref (x0 + 1 + 3)]) (L := [some (.ref (x0 + 3)), some (.long x2), none]) (d' := 1) rfl rfl hs_x0.1 (Nat.le_of_ble_eq_true rfl) (Nat.le_of_ble_eq_true rfl) rfl (Nat.le_of_ble_eq_true rfl) rfl rfl (zyC169 hs_x0 hp1) ?_
  show zyR _ _ _ _ [some (.ref (x0 + 3)), some (.int x1), some (.long x2), none] [.long p1.1, .int x1, .ref (x0 + 1 + 3)] _ _
  obtain ⟨c2, h⟩ := zy_if h
  refine zy_31 (c := (x0 + 1)) rfl hs_x0.2 c2 (show zyR _ _ _ _ [some (.ref (x0 + 3)), some (.int x1), some (.long x2), none] [] _ _ from ?_)
  cases h
  exact zy_66 rfl ⟨rfl, rfl⟩
/-! NineOpinions.put(IIJ)I -/
noncomputable def zyF166_37   (x5 : Int32) (s : zy_S) : Option (Int32 × zy_S) :=
if x5 ≠ 0 then
some (x5, s)
else
some ((1 : Int32), s)
theorem zyC166_37 {X : zx_X}     {x5 : Int32} {s : zy_S} {r : Int32} {s' : zy_S}  (h : zyF166_37 x5 s = some (r, s')) : zyR X 4 166 37 [none, none, none, none, none, some (.int x5)] [] s (zyE (some (.int r)) s') := by
  unfold zyF166_37 at h
  refine zy_2 rfl rfl (show zyR _ _ _ _ [none, none, none, none, none, some (.int x5)] [.int x5] _ _ from ?_)
  refine zy_24_1 rfl (fun b1 => (show zyR _ _ _ _ [none, none, none, none, none, some (.int x5)] [] _ _ from ?_)) (fun b1 => (show zyR _ _ _ _ [none, none, none, none, none, some (.int x5)] [] _ _ from ?_))
  · replace h := zy_ifp h b1
    refine zy_2 rfl rfl (show zyR _ _ _ _ [none, none, none, none, none, some (.int x5)] [.int x5] _ _ from ?_)
    obtain ⟨rfl, rfl⟩ := zy_pi h
    exact zy_4 rfl ⟨rfl, rfl⟩
  · replace h := zy_ifn h b1
    refine zy_3 rfl rfl (show zyR _ _ _ _ [none, none, none, none, none, some (.int x5)] [.int (1 : Int32)] _ _ from ?_)
    refine zy_6 rfl (show zyR _ _ _ _ [none, none, none, none, none, some (.int x5)] [.int (1 : Int32)] _ _ from ?_)
    obtain ⟨rfl, rfl⟩ := zy_pi h
    exact zy_4 rfl ⟨rfl, rfl⟩
noncomputable def zyF166   (x1 : Int32) (x2 : Int32) (x3 : Int64) (s : zy_S) : Option (Int32 × zy_S) :=
(zyF18 x1 s).bind fun p2 =>
if p2.1 ≠ 0 then
if zy_in x1 6 then
if zy_Wb p2.2 then
(zyF167 (zy_sh (x1).toNatClampNeg) x2 p2.2).bind fun p5 =>
if p5.1 ≠ 0 then
zyF166_37 p5.1 p5.2
else
if zy_in x1 6 then
if zy_Wb p5.2 then
(zyF168 (zy_sh (x1).toNatClampNeg) x2 x3 p5.2).bind fun p8 =>
zyF166_37 p5.1 p8.2
else none
else none
else none
else none
else
some ((-1 : Int32), p2.2)
theorem zyC166 {X : zx_X}     {x1 : Int32} {x2 : Int32} {x3 : Int64} {s : zy_S} {r : Int32} {s' : zy_S}  (h : zyF166 x1 x2 x3 s = some (r, s')) : zyR X 4 166 0 [some (.ref (0 + 3)), some (.int x1), some (.int x2), some (.long x3), none, none] [] s (zyE (some (.int r)) s') := by
  unfold zyF166 at h
  refine zy_2 rfl rfl (show zyR _ _ _ _ [some (.ref (0 + 3)), some (.int x1), some (.int x2), some (.long x3), none, none] [.int x1] _ _ from ?_)
  obtain ⟨p2, hp2, h⟩ := zy_bind h
  refine zy_60 (as := [.int x1]) (rest := []) (L := [some (.int x1)]) (d' := 1) rfl rfl (Nat.le_of_ble_eq_true rfl) (Nat.le_of_ble_eq_true rfl) rfl (Nat.le_of_ble_eq_true rfl) rfl rfl (zyC18 hp2) ?_
  show zyR _ _ _ _ [some (.ref (0 + 3)), some (.int x1), some (.int x2), some (.long x3), none, none] [.int p2.1] _ _
  refine zy_24_1 rfl (fun b10 => (show zyR _ _ _ _ [some (.ref (0 + 3)), some (.int x1), some (.int x2), some (.long x3), none, none] [] _ _ from ?_)) (fun b10 => (show zyR _ _ _ _ [some (.ref (0 + 3)), some (.int x1), some (.int x2), some (.long x3), none, none] [] _ _ from ?_))
  · replace h := zy_ifp h b10
    refine zy_0 rfl rfl (show zyR _ _ _ _ [some (.ref (0 + 3)), some (.int x1), some (.int x2), some (.long x3), none, none] [.ref (0 + 3)] _ _ from ?_)
    refine zy_1r (c := 0) rfl rfl rfl (show zyR _ _ _ _ [some (.ref (0 + 3)), some (.int x1), some (.int x2), some (.long x3), none, none] [.ref (30 + 3)] _ _ from ?_)
    refine zy_2 rfl rfl (show zyR _ _ _ _ [some (.ref (0 + 3)), some (.int x1), some (.int x2), some (.long x3), none, none] [.int x1, .ref (30 + 3)] _ _ from ?_)
    obtain ⟨c3, h⟩ := zy_if h
    obtain ⟨c4, h⟩ := zy_if h
    refine zy_28 rfl (zy_Wb_g c4) c3 (show zyR _ _ _ _ [some (.ref (0 + 3)), some (.int x1), some (.int x2), some (.long x3), none, none] [.ref ((zy_sh (x1).toNatClampNeg) + 3)] _ _ from ?_)
    refine zy_2 rfl rfl (show zyR _ _ _ _ [some (.ref (0 + 3)), some (.int x1), some (.int x2), some (.long x3), none, none] [.int x2, .ref ((zy_sh (x1).toNatClampNeg) + 3)] _ _ from ?_)
    obtain ⟨p5, hp5, h⟩ := zy_bind h
    refine zy_5 (c := (zy_sh (x1).toNatClampNeg)) (as := [.int x2]) (rest := []) (L := [some (.ref ((zy_sh (x1).toNatClampNeg) + 3)), some (.int x2)]) (d' := 3) rfl rfl (zy_isSh_of (zy_in_lt c3)).1 (Nat.le_of_ble_eq_true rfl) (Nat.le_of_ble_eq_true rfl) rfl (Nat.le_of_ble_eq_true rfl) rfl rfl (zyC167 (zy_isSh_of (zy_in_lt c3)) hp5) ?_
    show zyR _ _ _ _ [some (.ref (0 + 3)), some (.int x1), some (.int x2), some (.long x3), none, none] [.int p5.1] _ _
    refine zy_23 rfl rfl (show zyR _ _ _ _ [some (.ref (0 + 3)), some (.int x1), some (.int x2), some (.long x3), none, some (.int p5.1)] [] _ _ from ?_)
    refine zy_2 rfl rfl (show zyR _ _ _ _ [some (.ref (0 + 3)), some (.int x1), some (.int x2), some (.long x3), none, some (.int p5.1)] [.int p5.1] _ _ from ?_)
    refine zy_24_1 rfl (fun b9 => (show zyR _ _ _ _ [some (.ref (0 + 3)), some (.int x1), some (.int x2), some (.long x3), none, some (.int p5.1)] [] _ _ from ?_)) (fun b9 => (show zyR _ _ _ _ [some (.ref (0 + 3)), some (.int x1), some (.int x2), some (.long x3), none, some (.int p5.1)] [] _ _ from ?_))
    · replace h := zy_ifp h b9
      exact zy_sub (show zy_le [none, none, none, none, none, some (.int p5.1)] [some (.ref (0 + 3)), some (.int x1), some (.int x2), some (.long x3), none, some (.int p5.1)] from ⟨rfl, trivial⟩) (zyC166_37 h)
    · replace h := zy_ifn h b9
      refine zy_0 rfl rfl (show zyR _ _ _ _ [some (.ref (0 + 3)), some (.int x1), some (.int x2), some (.long x3), none, some (.int p5.1)] [.ref (0 + 3)] _ _ from ?_)
      refine zy_1r (c := 0) rfl rfl rfl (show zyR _ _ _ _ [some (.ref (0 + 3)), some (.int x1), some (.int x2), some (.long x3), none, some (.int p5.1)] [.ref (30 + 3)] _ _ from ?_)
      refine zy_2 rfl rfl (show zyR _ _ _ _ [some (.ref (0 + 3)), some (.int x1), some (.int x2), some (.long x3), none, some (.int p5.1)] [.int x1, .ref (30 + 3)] _ _ from ?_)
      obtain ⟨c6, h⟩ := zy_if h
      obtain ⟨c7, h⟩ := zy_if h
      refine zy_28 rfl (zy_Wb_g c7) c6 (show zyR _ _ _ _ [some (.ref (0 + 3)), some (.int x1), some (.int x2), some (.long x3), none, some (.int p5.1)] [.ref ((zy_sh (x1).toNatClampNeg) + 3)] _ _ from ?_)
      refine zy_2 rfl rfl (show zyR _ _ _ _ [some (.ref (0 + 3)), some (.int x1), some (.int x2), some (.long x3), none, some (.int p5.1)] [.int x2, .ref ((zy_sh (x1).toNatClampNeg) + 3)] _ _ from ?_)
      refine zy_37 rfl rfl (show zyR _ _ _ _ [some (.ref (0 + 3)), some (.int x1), some (.int x2), some (.long x3), none, some (.int p5.1)] [.long x3, .int x2, .ref ((zy_sh (x1).toNatClampNeg) + 3)] _ _ from ?_)
      obtain ⟨p8, hp8, h⟩ := zy_bind h
      refine zy_5 (c := (zy_sh (x1).toNatClampNeg)) (as := [.int x2, .long x3]) (rest := []) (L := [some (.ref ((zy_sh (x1).toNatClampNeg) + 3)), some (.int x2), some (.long x3), none]) (d' := 2) rfl rfl (zy_isSh_of (zy_in_lt c6)).1 (Nat.le_of_ble_eq_true rfl) (Nat.le_of_ble_eq_true rfl) rfl (Nat.le_of_ble_eq_true rfl) rfl rfl (zyC168 (zy_isSh_of (zy_in_lt c6)) hp8) ?_
      show zyR _ _ _ _ [some (.ref (0 + 3)), some (.int x1), some (.int x2), some (.long x3), none, some (.int p5.1)] [] _ _
      exact zy_sub (show zy_le [none, none, none, none, none, some (.int p5.1)] [some (.ref (0 + 3)), some (.int x1), some (.int x2), some (.long x3), none, some (.int p5.1)] from ⟨rfl, trivial⟩) (zyC166_37 h)
  · replace h := zy_ifn h b10
    refine zy_3 rfl rfl (show zyR _ _ _ _ [some (.ref (0 + 3)), some (.int x1), some (.int x2), some (.long x3), none, none] [.int (-1 : Int32)] _ _ from ?_)
    obtain ⟨rfl, rfl⟩ := zy_pi h
    exact zy_4 rfl ⟨rfl, rfl⟩
/-! NineOpinions.shift(IIIII)I -/
noncomputable def zyF171   (x1 : Int32) (x2 : Int32) (x3 : Int32) (x4 : Int32) (x5 : Int32) (s : zy_S) : Option (Int32 × zy_S) :=
(zyF18 x1 s).bind fun p1 =>
if p1.1 = 0 then
some ((-1 : Int32), p1.2)
else
(zyF18 x3 p1.2).bind fun p2 =>
if p2.1 ≠ 0 then
if zy_in x1 6 then
if zy_Wb p2.2 then
if zy_in x3 6 then
if zy_Wb p2.2 then
(zyF19 (zy_sh (x1).toNatClampNeg) p2.2).bind fun p7 =>
if p7.1 ≠ 0 then
some ((-11 : Int32), p7.2)
else
(zyF19 (zy_sh (x3).toNatClampNeg) p7.2).bind fun p8 =>
if p8.1 = 0 then
(zyF20 (zy_sh (x1).toNatClampNeg) p8.2).bind fun p9 =>
if p9.1 = 0 then
some ((-12 : Int32), p9.2)
else
(zyF21 (zy_sh (x3).toNatClampNeg) (p9.2.1 (zy_sh (x1).toNatClampNeg) 2) p9.2).bind fun p10 =>
if p10.1 ≠ 0 then
(zyF23 (zy_sh (x1).toNatClampNeg) x2 x5 p10.2).bind fun p11 =>
if p11.1 = 0 then
some ((-13 : Int32), p11.2)
else
(zyF23 (zy_sh (x3).toNatClampNeg) x4 x5 p11.2).bind fun p12 =>
if p12.1 ≠ 0 then
if zy_cpB x2 x4 x5 60 60 then
some (x5, (zy_ub p12.2 ((zy_sh (x3).toNatClampNeg) + 1) (va_cpy (p12.2.2.1 ((zy_sh (x1).toNatClampNeg) + 1)) (p12.2.2.1 ((zy_sh (x3).toNatClampNeg) + 1)) (x2).toNatClampNeg (x4).toNatClampNeg (x5).toNatClampNeg)))
else none
else
some ((-13 : Int32), p12.2)
else
some ((-12 : Int32), p10.2)
else
some ((-11 : Int32), p8.2)
else none
else none
else none
else none
else
some ((-1 : Int32), p2.2)
theorem zyC171 {X : zx_X}     {x1 : Int32} {x2 : Int32} {x3 : Int32} {x4 : Int32} {x5 : Int32} {s : zy_S} {r : Int32} {s' : zy_S}  (h : zyF171 x1 x2 x3 x4 x5 s = some (r, s')) : zyR X 3 171 0 [some (.ref (0 + 3)), some (.int x1), some (.int x2), some (.int x3), some (.int x4), some (.int x5), none, none] [] s (zyE (some (.int r)) s') := by
  unfold zyF171 at h
  refine zy_2 rfl rfl (show zyR _ _ _ _ [some (.ref (0 + 3)), some (.int x1), some (.int x2), some (.int x3), some (.int x4), some (.int x5), none, none] [.int x1] _ _ from ?_)
  obtain ⟨p1, hp1, h⟩ := zy_bind h
  refine zy_60 (as := [.int x1]) (rest := []) (L := [some (.int x1)]) (d' := 1) rfl rfl (Nat.le_of_ble_eq_true rfl) (Nat.le_of_ble_eq_true rfl) rfl (Nat.le_of_ble_eq_true rfl) rfl rfl (zyC18 hp1) ?_
  show zyR _ _ _ _ [some (.ref (0 + 3)), some (.int x1), some (.int x2), some (.int x3), some (.int x4), some (.int x5), none, none] [.int p1.1] _ _
  refine zy_24_0 rfl (fun b21 => (show zyR _ _ _ _ [some (.ref (0 + 3)), some (.int x1), some (.int x2), some (.int x3), some (.int x4), some (.int x5), none, none] [] _ _ from ?_)) (fun b21 => (show zyR _ _ _ _ [some (.ref (0 + 3)), some (.int x1), some (.int x2), some (.int x3), some (.int x4), some (.int x5), none, none] [] _ _ from ?_))
  · replace h := zy_ifp h b21
    refine zy_3 rfl rfl (show zyR _ _ _ _ [some (.ref (0 + 3)), some (.int x1), some (.int x2), some (.int x3), some (.int x4), some (.int x5), none, none] [.int (-1 : Int32)] _ _ from ?_)
    obtain ⟨rfl, rfl⟩ := zy_pi h
    exact zy_4 rfl ⟨rfl, rfl⟩
  · replace h := zy_ifn h b21
    refine zy_2 rfl rfl (show zyR _ _ _ _ [some (.ref (0 + 3)), some (.int x1), some (.int x2), some (.int x3), some (.int x4), some (.int x5), none, none] [.int x3] _ _ from ?_)
    obtain ⟨p2, hp2, h⟩ := zy_bind h
    refine zy_60 (as := [.int x3]) (rest := []) (L := [some (.int x3)]) (d' := 1) rfl rfl (Nat.le_of_ble_eq_true rfl) (Nat.le_of_ble_eq_true rfl) rfl (Nat.le_of_ble_eq_true rfl) rfl rfl (zyC18 hp2) ?_
    show zyR _ _ _ _ [some (.ref (0 + 3)), some (.int x1), some (.int x2), some (.int x3), some (.int x4), some (.int x5), none, none] [.int p2.1] _ _
    refine zy_24_1 rfl (fun b20 => (show zyR _ _ _ _ [some (.ref (0 + 3)), some (.int x1), some (.int x2), some (.int x3), some (.int x4), some (.int x5), none, none] [] _ _ from ?_)) (fun b20 => (show zyR _ _ _ _ [some (.ref (0 + 3)), some (.int x1), some (.int x2), some (.int x3), some (.int x4), some (.int x5), none, none] [] _ _ from ?_))
    · replace h := zy_ifp h b20
      refine zy_0 rfl rfl (show zyR _ _ _ _ [some (.ref (0 + 3)), some (.int x1), some (.int x2), some (.int x3), some (.int x4), some (.int x5), none, none] [.ref (0 + 3)] _ _ from ?_)
      refine zy_1r (c := 0) rfl rfl rfl (show zyR _ _ _ _ [some (.ref (0 + 3)), some (.int x1), some (.int x2), some (.int x3), some (.int x4), some (.int x5), none, none] [.ref (30 + 3)] _ _ from ?_)
      refine zy_2 rfl rfl (show zyR _ _ _ _ [some (.ref (0 + 3)), some (.int x1), some (.int x2), some (.int x3), some (.int x4), some (.int x5), none, none] [.int x1, .ref (30 + 3)] _ _ from ?_)
      obtain ⟨c3, h⟩ := zy_if h
      obtain ⟨c4, h⟩ := zy_if h
      refine zy_28 rfl (zy_Wb_g c4) c3 (show zyR _ _ _ _ [some (.ref (0 + 3)), some (.int x1), some (.int x2), some (.int x3), some (.int x4), some (.int x5), none, none] [.ref ((zy_sh (x1).toNatClampNeg) + 3)] _ _ from ?_)
      refine zy_39 rfl rfl (show zyR _ _ _ _ [some (.ref (0 + 3)), some (.int x1), some (.int x2), some (.int x3), some (.int x4), some (.int x5), some (.ref ((zy_sh (x1).toNatClampNeg) + 3)), none] [] _ _ from ?_)
      refine zy_0 rfl rfl (show zyR _ _ _ _ [some (.ref (0 + 3)), some (.int x1), some (.int x2), some (.int x3), some (.int x4), some (.int x5), some (.ref ((zy_sh (x1).toNatClampNeg) + 3)), none] [.ref (0 + 3)] _ _ from ?_)
      refine zy_1r (c := 0) rfl rfl rfl (show zyR _ _ _ _ [some (.ref (0 + 3)), some (.int x1), some (.int x2), some (.int x3), some (.int x4), some (.int x5), some (.ref ((zy_sh (x1).toNatClampNeg) + 3)), none] [.ref (30 + 3)] _ _ from ?_)
      refine zy_2 rfl rfl (show zyR _ _ _ _ [some (.ref (0 + 3)), some (.int x1), some (.int x2), some (.int x3), some (.int x4), some (.int x5), some (.ref ((zy_sh (x1).toNatClampNeg) + 3)), none] [.int x3, .ref (30 + 3)] _ _ from ?_)
      obtain ⟨c5, h⟩ := zy_if h
      obtain ⟨c6, h⟩ := zy_if h
      refine zy_28 rfl (zy_Wb_g c6) c5 (show zyR _ _ _ _ [some (.ref (0 + 3)), some (.int x1), some (.int x2), some (.int x3), some (.int x4), some (.int x5), some (.ref ((zy_sh (x1).toNatClampNeg) + 3)), none] [.ref ((zy_sh (x3).toNatClampNeg) + 3)] _ _ from ?_)
      refine zy_39 rfl rfl (show zyR _ _ _ _ [some (.ref (0 + 3)), some (.int x1), some (.int x2), some (.int x3), some (.int x4), some (.int x5), some (.ref ((zy_sh (x1).toNatClampNeg) + 3)), some (.ref ((zy_sh (x3).toNatClampNeg) + 3))] [] _ _ from ?_)
      refine zy_0 rfl rfl (show zyR _ _ _ _ [some (.ref (0 + 3)), some (.int x1), some (.int x2), some (.int x3), some (.int x4), some (.int x5), some (.ref ((zy_sh (x1).toNatClampNeg) + 3)), some (.ref ((zy_sh (x3).toNatClampNeg) + 3))] [.ref ((zy_sh (x1).toNatClampNeg) + 3)] _ _ from ?_)
      obtain ⟨p7, hp7, h⟩ := zy_bind h
      refine zy_5 (c := (zy_sh (x1).toNatClampNeg)) (as := []) (rest := []) (L := [some (.ref ((zy_sh (x1).toNatClampNeg) + 3))]) (d' := 2) rfl rfl (zy_isSh_of (zy_in_lt c3)).1 (Nat.le_of_ble_eq_true rfl) (Nat.le_of_ble_eq_true rfl) rfl (Nat.le_of_ble_eq_true rfl) rfl rfl (zyC19 (zy_isSh_of (zy_in_lt c3)) hp7) ?_
      show zyR _ _ _ _ [some (.ref (0 + 3)), some (.int x1), some (.int x2), some (.int x3), some (.int x4), some (.int x5), some (.ref ((zy_sh (x1).toNatClampNeg) + 3)), some (.ref ((zy_sh (x3).toNatClampNeg) + 3))] [.int p7.1] _ _
      refine zy_24_1 rfl (fun b19 => (show zyR _ _ _ _ [some (.ref (0 + 3)), some (.int x1), some (.int x2), some (.int x3), some (.int x4), some (.int x5), some (.ref ((zy_sh (x1).toNatClampNeg) + 3)), some (.ref ((zy_sh (x3).toNatClampNeg) + 3))] [] _ _ from ?_)) (fun b19 => (show zyR _ _ _ _ [some (.ref (0 + 3)), some (.int x1), some (.int x2), some (.int x3), some (.int x4), some (.int x5), some (.ref ((zy_sh (x1).toNatClampNeg) + 3)), some (.ref ((zy_sh (x3).toNatClampNeg) + 3))] [] _ _ from ?_))
      · replace h := zy_ifp h b19
        refine zy_3 rfl rfl (show zyR _ _ _ _ [some (.ref (0 + 3)), some (.int x1), some (.int x2), some (.int x3), some (.int x4), some (.int x5), some (.ref ((zy_sh (x1).toNatClampNeg) + 3)), some (.ref ((zy_sh (x3).toNatClampNeg) + 3))] [.int (-11 : Int32)] _ _ from ?_)
        obtain ⟨rfl, rfl⟩ := zy_pi h
        exact zy_4 rfl ⟨rfl, rfl⟩
      · replace h := zy_ifn h b19
        refine zy_0 rfl rfl (show zyR _ _ _ _ [some (.ref (0 + 3)), some (.int x1), some (.int x2), some (.int x3), some (.int x4), some (.int x5), some (.ref ((zy_sh (x1).toNatClampNeg) + 3)), some (.ref ((zy_sh (x3).toNatClampNeg) + 3))] [.ref ((zy_sh (x3).toNatClampNeg) + 3)] _ _ from ?_)
        obtain ⟨p8, hp8, h⟩ := zy_bind h
        refine zy_5 (c := (zy_sh (x3).toNatClampNeg)) (as := []) (rest := []) (L := [some (.ref ((zy_sh (x3).toNatClampNeg) + 3))]) (d' := 2) rfl rfl (zy_isSh_of (zy_in_lt c5)).1 (Nat.le_of_ble_eq_true rfl) (Nat.le_of_ble_eq_true rfl) rfl (Nat.le_of_ble_eq_true rfl) rfl rfl (zyC19 (zy_isSh_of (zy_in_lt c5)) hp8) ?_
        show zyR _ _ _ _ [some (.ref (0 + 3)), some (.int x1), some (.int x2), some (.int x3), some (.int x4), some (.int x5), some (.ref ((zy_sh (x1).toNatClampNeg) + 3)), some (.ref ((zy_sh (x3).toNatClampNeg) + 3))] [.int p8.1] _ _
        refine zy_24_0 rfl (fun b18 => (show zyR _ _ _ _ [some (.ref (0 + 3)), some (.int x1), some (.int x2), some (.int x3), some (.int x4), some (.int x5), some (.ref ((zy_sh (x1).toNatClampNeg) + 3)), some (.ref ((zy_sh (x3).toNatClampNeg) + 3))] [] _ _ from ?_)) (fun b18 => (show zyR _ _ _ _ [some (.ref (0 + 3)), some (.int x1), some (.int x2), some (.int x3), some (.int x4), some (.int x5), some (.ref ((zy_sh (x1).toNatClampNeg) + 3)), some (.ref ((zy_sh (x3).toNatClampNeg) + 3))] [] _ _ from ?_))
        · replace h := zy_ifp h b18
          refine zy_0 rfl rfl (show zyR _ _ _ _ [some (.ref (0 + 3)), some (.int x1), some (.int x2), some (.int x3), some (.int x4), some (.int x5), some (.ref ((zy_sh (x1).toNatClampNeg) + 3)), some (.ref ((zy_sh (x3).toNatClampNeg) + 3))] [.ref ((zy_sh (x1).toNatClampNeg) + 3)] _ _ from ?_)
          obtain ⟨p9, hp9, h⟩ := zy_bind h
          refine zy_5 (c := (zy_sh (x1).toNatClampNeg)) (as := []) (rest := []) (L := [some (.ref ((zy_sh (x1).toNatClampNeg) + 3))]) (d' := 1) rfl rfl (zy_isSh_of (zy_in_lt c3)).1 (Nat.le_of_ble_eq_true rfl) (Nat.le_of_ble_eq_true rfl) rfl (Nat.le_of_ble_eq_true rfl) rfl rfl (zyC20 (zy_isSh_of (zy_in_lt c3)) hp9) ?_
          show zyR _ _ _ _ [some (.ref (0 + 3)), some (.int x1), some (.int x2), some (.int x3), some (.int x4), some (.int x5), some (.ref ((zy_sh (x1).toNatClampNeg) + 3)), some (.ref ((zy_sh (x3).toNatClampNeg) + 3))] [.int p9.1] _ _
          refine zy_24_0 rfl (fun b17 => (show zyR _ _ _ _ [some (.ref (0 + 3)), some (.int x1), some (.int x2), some (.int x3), some (.int x4), some (.int x5), some (.ref ((zy_sh (x1).toNatClampNeg) + 3)), some (.ref ((zy_sh (x3).toNatClampNeg) + 3))] [] _ _ from ?_)) (fun b17 => (show zyR _ _ _ _ [some (.ref (0 + 3)), some (.int x1), some (.int x2), some (.int x3), some (.int x4), some (.int x5), some (.ref ((zy_sh (x1).toNatClampNeg) + 3)), some (.ref ((zy_sh (x3).toNatClampNeg) + 3))] [] _ _ from ?_))
          · replace h := zy_ifp h b17
            refine zy_3 rfl rfl (show zyR _ _ _ _ [some (.ref (0 + 3)), some (.int x1), some (.int x2), some (.int x3), some (.int x4), some (.int x5), some (.ref ((zy_sh (x1).toNatClampNeg) + 3)), some (.ref ((zy_sh (x3).toNatClampNeg) + 3))] [.int (-12 : Int32)] _ _ from ?_)
            obtain ⟨rfl, rfl⟩ := zy_pi h
            exact zy_4 rfl ⟨rfl, rfl⟩
          · replace h := zy_ifn h b17
            refine zy_0 rfl rfl (show zyR _ _ _ _ [some (.ref (0 + 3)), some (.int x1), some (.int x2), some (.int x3), some (.int x4), some (.int x5), some (.ref ((zy_sh (x1).toNatClampNeg) + 3)), some (.ref ((zy_sh (x3).toNatClampNeg) + 3))] [.ref ((zy_sh (x3).toNatClampNeg) + 3)] _ _ from ?_)
            refine zy_0 rfl rfl (show zyR _ _ _ _ [some (.ref (0 + 3)), some (.int x1), some (.int x2), some (.int x3), some (.int x4), some (.int x5), some (.ref ((zy_sh (x1).toNatClampNeg) + 3)), some (.ref ((zy_sh (x3).toNatClampNeg) + 3))] [.ref ((zy_sh (x1).toNatClampNeg) + 3), .ref ((zy_sh (x3).toNatClampNeg) + 3)] _ _ from ?_)
            refine zy_1 (c := (zy_sh (x1).toNatClampNeg)) rfl (zy_isSh_of (zy_in_lt c3)).1 rfl (show zyR _ _ _ _ [some (.ref (0 + 3)), some (.int x1), some (.int x2), some (.int x3), some (.int x4), some (.int x5), some (.ref ((zy_sh (x1).toNatClampNeg) + 3)), some (.ref ((zy_sh (x3).toNatClampNeg) + 3))] [.int (p9.2.1 (zy_sh (x1).toNatClampNeg) 2), .ref ((zy_sh (x3).toNatClampNeg) + 3)] _ _ from ?_)
            obtain ⟨p10, hp10, h⟩ := zy_bind h
            refine zy_5 (c := (zy_sh (x3).toNatClampNeg)) (as := [.int (p9.2.1 (zy_sh (x1).toNatClampNeg) 2)]) (rest := []) (L := [some (.ref ((zy_sh (x3).toNatClampNeg) + 3)), some (.int (p9.2.1 (zy_sh (x1).toNatClampNeg) 2))]) (d' := 2) rfl rfl (zy_isSh_of (zy_in_lt c5)).1 (Nat.le_of_ble_eq_true rfl) (Nat.le_of_ble_eq_true rfl) rfl (Nat.le_of_ble_eq_true rfl) rfl rfl (zyC21 (zy_isSh_of (zy_in_lt c5)) hp10) ?_
            show zyR _ _ _ _ [some (.ref (0 + 3)), some (.int x1), some (.int x2), some (.int x3), some (.int x4), some (.int x5), some (.ref ((zy_sh (x1).toNatClampNeg) + 3)), some (.ref ((zy_sh (x3).toNatClampNeg) + 3))] [.int p10.1] _ _
            refine zy_24_1 rfl (fun b16 => (show zyR _ _ _ _ [some (.ref (0 + 3)), some (.int x1), some (.int x2), some (.int x3), some (.int x4), some (.int x5), some (.ref ((zy_sh (x1).toNatClampNeg) + 3)), some (.ref ((zy_sh (x3).toNatClampNeg) + 3))] [] _ _ from ?_)) (fun b16 => (show zyR _ _ _ _ [some (.ref (0 + 3)), some (.int x1), some (.int x2), some (.int x3), some (.int x4), some (.int x5), some (.ref ((zy_sh (x1).toNatClampNeg) + 3)), some (.ref ((zy_sh (x3).toNatClampNeg) + 3))] [] _ _ from ?_))
            · replace h := zy_ifp h b16
              refine zy_0 rfl rfl (show zyR _ _ _ _ [some (.ref (0 + 3)), some (.int x1), some (.int x2), some (.int x3), some (.int x4), some (.int x5), some (.ref ((zy_sh (x1).toNatClampNeg) + 3)), some (.ref ((zy_sh (x3).toNatClampNeg) + 3))] [.ref ((zy_sh (x1).toNatClampNeg) + 3)] _ _ from ?_)
              refine zy_2 rfl rfl (show zyR _ _ _ _ [some (.ref (0 + 3)), some (.int x1), some (.int x2), some (.int x3), some (.int x4), some (.int x5), some (.ref ((zy_sh (x1).toNatClampNeg) + 3)), some (.ref ((zy_sh (x3).toNatClampNeg) + 3))] [.int x2, .ref ((zy_sh (x1).toNatClampNeg) + 3)] _ _ from ?_)
              refine zy_2 rfl rfl (show zyR _ _ _ _ [some (.ref (0 + 3)), some (.int x1), some (.int x2), some (.int x3), some (.int x4), some (.int x5), some (.ref ((zy_sh (x1).toNatClampNeg) + 3)), some (.ref ((zy_sh (x3).toNatClampNeg) + 3))] [.int x5, .int x2, .ref ((zy_sh (x1).toNatClampNeg) + 3)] _ _ from ?_)
              obtain ⟨p11, hp11, h⟩ := zy_bind h
              refine zy_5 (c := (zy_sh (x1).toNatClampNeg)) (as := [.int x2, .int x5]) (rest := []) (L := [some (.ref ((zy_sh (x1).toNatClampNeg) + 3)), some (.int x2), some (.int x5)]) (d' := 1) rfl rfl (zy_isSh_of (zy_in_lt c3)).1 (Nat.le_of_ble_eq_true rfl) (Nat.le_of_ble_eq_true rfl) rfl (Nat.le_of_ble_eq_true rfl) rfl rfl (zyC23 (zy_isSh_of (zy_in_lt c3)) hp11) ?_
              show zyR _ _ _ _ [some (.ref (0 + 3)), some (.int x1), some (.int x2), some (.int x3), some (.int x4), some (.int x5), some (.ref ((zy_sh (x1).toNatClampNeg) + 3)), some (.ref ((zy_sh (x3).toNatClampNeg) + 3))] [.int p11.1] _ _
              refine zy_24_0 rfl (fun b15 => (show zyR _ _ _ _ [some (.ref (0 + 3)), some (.int x1), some (.int x2), some (.int x3), some (.int x4), some (.int x5), some (.ref ((zy_sh (x1).toNatClampNeg) + 3)), some (.ref ((zy_sh (x3).toNatClampNeg) + 3))] [] _ _ from ?_)) (fun b15 => (show zyR _ _ _ _ [some (.ref (0 + 3)), some (.int x1), some (.int x2), some (.int x3), some (.int x4), some (.int x5), some (.ref ((zy_sh (x1).toNatClampNeg) + 3)), some (.ref ((zy_sh (x3).toNatClampNeg) + 3))] [] _ _ from ?_))
              · replace h := zy_ifp h b15
                refine zy_3 rfl rfl (show zyR _ _ _ _ [some (.ref (0 + 3)), some (.int x1), some (.int x2), some (.int x3), some (.int x4), some (.int x5), some (.ref ((zy_sh (x1).toNatClampNeg) + 3)), some (.ref ((zy_sh (x3).toNatClampNeg) + 3))] [.int (-13 : Int32)] _ _ from ?_)
                obtain ⟨rfl, rfl⟩ := zy_pi h
                exact zy_4 rfl ⟨rfl, rfl⟩
              · replace h := zy_ifn h b15
                refine zy_0 rfl rfl (show zyR _ _ _ _ [some (.ref (0 + 3)), some (.int x1), some (.int x2), some (.int x3), some (.int x4), some (.int x5), some (.ref ((zy_sh (x1).toNatClampNeg) + 3)), some (.ref ((zy_sh (x3).toNatClampNeg) + 3))] [.ref ((zy_sh (x3).toNatClampNeg) + 3)] _ _ from ?_)
                refine zy_2 rfl rfl (show zyR _ _ _ _ [some (.ref (0 + 3)), some (.int x1), some (.int x2), some (.int x3), some (.int x4), some (.int x5), some (.ref ((zy_sh (x1).toNatClampNeg) + 3)), some (.ref ((zy_sh (x3).toNatClampNeg) + 3))] [.int x4, .ref ((zy_sh (x3).toNatClampNeg) + 3)] _ _ from ?_)
                refine zy_2 rfl rfl (show zyR _ _ _ _ [some (.ref (0 + 3)), some (.int x1), some (.int x2), some (.int x3), some (.int x4), some (.int x5), some (.ref ((zy_sh (x1).toNatClampNeg) + 3)), some (.ref ((zy_sh (x3).toNatClampNeg) + 3))] [.int x5, .int x4, .ref ((zy_sh (x3).toNatClampNeg) + 3)] _ _ from ?_)
                obtain ⟨p12, hp12, h⟩ := zy_bind h
                refine zy_5 (c := (zy_sh (x3).toNatClampNeg)) (as := [.int x4, .int x5]) (rest := []) (L := [some (.ref ((zy_sh (x3).toNatClampNeg) + 3)), some (.int x4), some (.int x5)]) (d' := 1) rfl rfl (zy_isSh_of (zy_in_lt c5)).1 (Nat.le_of_ble_eq_true rfl) (Nat.le_of_ble_eq_true rfl) rfl (Nat.le_of_ble_eq_true rfl) rfl rfl (zyC23 (zy_isSh_of (zy_in_lt c5)) hp12) ?_
                show zyR _ _ _ _ [some (.ref (0 + 3)), some (.int x1), some (.int x2), some (.int x3), some (.int x4), some (.int x5), some (.ref ((zy_sh (x1).toNatClampNeg) + 3)), some (.ref ((zy_sh (x3).toNatClampNeg) + 3))] [.int p12.1] _ _
                refine zy_24_1 rfl (fun b14 => (show zyR _ _ _ _ [some (.ref (0 + 3)), some (.int x1), some (.int x2), some (.int x3), some (.int x4), some (.int x5), some (.ref ((zy_sh (x1).toNatClampNeg) + 3)), some (.ref ((zy_sh (x3).toNatClampNeg) + 3))] [] _ _ from ?_)) (fun b14 => (show zyR _ _ _ _ [some (.ref (0 + 3)), some (.int x1), some (.int x2), some (.int x3), some (.int x4), some (.int x5), some (.ref ((zy_sh (x1).toNatClampNeg) + 3)), some (.ref ((zy_sh (x3).toNatClampNeg) + 3))] [] _ _ from ?_))
                · replace h := zy_ifp h b14
                  refine zy_0 rfl rfl (show zyR _ _ _ _ [some (.ref (0 + 3)), some (.int x1), some (.int x2), some (.int x3), some (.int x4), some (.int x5), some (.ref ((zy_sh (x1).toNatClampNeg) + 3)), some (.ref ((zy_sh (x3).toNatClampNeg) + 3))] [.ref ((zy_sh (x1).toNatClampNeg) + 3)] _ _ from ?_)
                  refine zy_1r (c := (zy_sh (x1).toNatClampNeg)) rfl (zy_isSh_of (zy_in_lt c3)).1 rfl (show zyR _ _ _ _ [some (.ref (0 + 3)), some (.int x1), some (.int x2), some (.int x3), some (.int x4), some (.int x5), some (.ref ((zy_sh (x1).toNatClampNeg) + 3)), some (.ref ((zy_sh (x3).toNatClampNeg) + 3))] [.ref ((zy_sh (x1).toNatClampNeg) + 1 + 3)] _ _ from ?_)
                  refine zy_2 rfl rfl (show zyR _ _ _ _ [some (.ref (0 + 3)), some (.int x1), some (.int x2), some (.int x3), some (.int x4), some (.int x5), some (.ref ((zy_sh (x1).toNatClampNeg) + 3)), some (.ref ((zy_sh (x3).toNatClampNeg) + 3))] [.int x2, .ref ((zy_sh (x1).toNatClampNeg) + 1 + 3)] _ _ from ?_)
                  refine zy_0 rfl rfl (show zyR _ _ _ _ [some (.ref (0 + 3)), some (.int x1), some (.int x2), some (.int x3), some (.int x4), some (.int x5), some (.ref ((zy_sh (x1).toNatClampNeg) + 3)), some (.ref ((zy_sh (x3).toNatClampNeg) + 3))] [.ref ((zy_sh (x3).toNatClampNeg) + 3), .int x2, .ref ((zy_sh (x1).toNatClampNeg) + 1 + 3)] _ _ from ?_)
                  refine zy_1r (c := (zy_sh (x3).toNatClampNeg)) rfl (zy_isSh_of (zy_in_lt c5)).1 rfl (show zyR _ _ _ _ [some (.ref (0 + 3)), some (.int x1), some (.int x2), some (.int x3), some (.int x4), some (.int x5), some (.ref ((zy_sh (x1).toNatClampNeg) + 3)), some (.ref ((zy_sh (x3).toNatClampNeg) + 3))] [.ref ((zy_sh (x3).toNatClampNeg) + 1 + 3), .int x2, .ref ((zy_sh (x1).toNatClampNeg) + 1 + 3)] _ _ from ?_)
                  refine zy_2 rfl rfl (show zyR _ _ _ _ [some (.ref (0 + 3)), some (.int x1), some (.int x2), some (.int x3), some (.int x4), some (.int x5), some (.ref ((zy_sh (x1).toNatClampNeg) + 3)), some (.ref ((zy_sh (x3).toNatClampNeg) + 3))] [.int x4, .ref ((zy_sh (x3).toNatClampNeg) + 1 + 3), .int x2, .ref ((zy_sh (x1).toNatClampNeg) + 1 + 3)] _ _ from ?_)
                  refine zy_2 rfl rfl (show zyR _ _ _ _ [some (.ref (0 + 3)), some (.int x1), some (.int x2), some (.int x3), some (.int x4), some (.int x5), some (.ref ((zy_sh (x1).toNatClampNeg) + 3)), some (.ref ((zy_sh (x3).toNatClampNeg) + 3))] [.int x5, .int x4, .ref ((zy_sh (x3).toNatClampNeg) + 1 + 3), .int x2, .ref ((zy_sh (x1).toNatClampNeg) + 1 + 3)] _ _ from ?_)
                  obtain ⟨c13, h⟩ := zy_if h
                  refine zy_64j (c0 := ((zy_sh (x1).toNatClampNeg) + 1)) (c1 := ((zy_sh (x3).toNatClampNeg) + 1)) rfl (zy_isSh_of (zy_in_lt c3)).2 (zy_isSh_of (zy_in_lt c5)).2 c13 (Nat.le_of_ble_eq_true rfl) (Nat.le_of_ble_eq_true rfl) (show zyR _ _ _ _ [some (.ref (0 + 3)), some (.int x1), some (.int x2), some (.int x3), some (.int x4), some (.int x5), some (.ref ((zy_sh (x1).toNatClampNeg) + 3)), some (.ref ((zy_sh (x3).toNatClampNeg) + 3))] [] _ _ from ?_)
                  refine zy_2 rfl rfl (show zyR _ _ _ _ [some (.ref (0 + 3)), some (.int x1), some (.int x2), some (.int x3), some (.int x4), some (.int x5), some (.ref ((zy_sh (x1).toNatClampNeg) + 3)), some (.ref ((zy_sh (x3).toNatClampNeg) + 3))] [.int x5] _ _ from ?_)
                  obtain ⟨rfl, rfl⟩ := zy_pi h
                  exact zy_4 rfl ⟨rfl, rfl⟩
                · replace h := zy_ifn h b14
                  refine zy_3 rfl rfl (show zyR _ _ _ _ [some (.ref (0 + 3)), some (.int x1), some (.int x2), some (.int x3), some (.int x4), some (.int x5), some (.ref ((zy_sh (x1).toNatClampNeg) + 3)), some (.ref ((zy_sh (x3).toNatClampNeg) + 3))] [.int (-13 : Int32)] _ _ from ?_)
                  obtain ⟨rfl, rfl⟩ := zy_pi h
                  exact zy_4 rfl ⟨rfl, rfl⟩
            · replace h := zy_ifn h b16
              refine zy_3 rfl rfl (show zyR _ _ _ _ [some (.ref (0 + 3)), some (.int x1), some (.int x2), some (.int x3), some (.int x4), some (.int x5), some (.ref ((zy_sh (x1).toNatClampNeg) + 3)), some (.ref ((zy_sh (x3).toNatClampNeg) + 3))] [.int (-12 : Int32)] _ _ from ?_)
              obtain ⟨rfl, rfl⟩ := zy_pi h
              exact zy_4 rfl ⟨rfl, rfl⟩
        · replace h := zy_ifn h b18
          refine zy_3 rfl rfl (show zyR _ _ _ _ [some (.ref (0 + 3)), some (.int x1), some (.int x2), some (.int x3), some (.int x4), some (.int x5), some (.ref ((zy_sh (x1).toNatClampNeg) + 3)), some (.ref ((zy_sh (x3).toNatClampNeg) + 3))] [.int (-11 : Int32)] _ _ from ?_)
          obtain ⟨rfl, rfl⟩ := zy_pi h
          exact zy_4 rfl ⟨rfl, rfl⟩
    · replace h := zy_ifn h b20
      refine zy_3 rfl rfl (show zyR _ _ _ _ [some (.ref (0 + 3)), some (.int x1), some (.int x2), some (.int x3), some (.int x4), some (.int x5), none, none] [.int (-1 : Int32)] _ _ from ?_)
      obtain ⟨rfl, rfl⟩ := zy_pi h
      exact zy_4 rfl ⟨rfl, rfl⟩
/-! NineOpinionsModel.undo()I -/
noncomputable def zyF176    (s : zy_S) : Option (Int32 × zy_S) :=
if (s.1 43 5) ≠ 0 then
if zy_in ((s.1 43 5) - (1 : Int32)) 40 then
if zy_in ((s.1 43 5) - (1 : Int32)) 40 then
if zy_in (s.1 45 (((s.1 43 5) - (1 : Int32))).toNatClampNeg) 41 then
some (((s.1 43 5) - (1 : Int32)), (zy_up (zy_up s 43 5 ((s.1 43 5) - (1 : Int32))) 44 ((s.1 45 (((s.1 43 5) - (1 : Int32))).toNatClampNeg)).toNatClampNeg (s.1 46 (((s.1 43 5) - (1 : Int32))).toNatClampNeg)))
else none
else none
else none
else
some ((-5 : Int32), s)
theorem zyC176 {X : zx_X}      {s : zy_S} {r : Int32} {s' : zy_S}  (h : zyF176 s = some (r, s')) : zyR X 1 176 0 [some (.ref (43 + 3))] [] s (zyE (some (.int r)) s') := by
  unfold zyF176 at h
  refine zy_0 rfl rfl (show zyR _ _ _ _ [some (.ref (43 + 3))] [.ref (43 + 3)] _ _ from ?_)
  refine zy_1 (c := 43) rfl rfl rfl (show zyR _ _ _ _ [some (.ref (43 + 3))] [.int (s.1 43 5)] _ _ from ?_)
  refine zy_24_1 rfl (fun b4 => (show zyR _ _ _ _ [some (.ref (43 + 3))] [] _ _ from ?_)) (fun b4 => (show zyR _ _ _ _ [some (.ref (43 + 3))] [] _ _ from ?_))
  · replace h := zy_ifp h b4
    refine zy_0 rfl rfl (show zyR _ _ _ _ [some (.ref (43 + 3))] [.ref (43 + 3)] _ _ from ?_)
    refine zy_33 rfl rfl (show zyR _ _ _ _ [some (.ref (43 + 3))] [.ref (43 + 3), .ref (43 + 3)] _ _ from ?_)
    refine zy_1 (c := 43) rfl rfl rfl (show zyR _ _ _ _ [some (.ref (43 + 3))] [.int (s.1 43 5), .ref (43 + 3)] _ _ from ?_)
    refine zy_3 rfl rfl (show zyR _ _ _ _ [some (.ref (43 + 3))] [.int (1 : Int32), .int (s.1 43 5), .ref (43 + 3)] _ _ from ?_)
    refine zy_11 rfl (show zyR _ _ _ _ [some (.ref (43 + 3))] [.int ((s.1 43 5) - (1 : Int32)), .ref (43 + 3)] _ _ from ?_)
    refine zy_52 (c := 43) rfl rfl rfl (show zyR _ _ _ _ [some (.ref (43 + 3))] [] _ _ from ?_)
    refine zy_0 rfl rfl (show zyR _ _ _ _ [some (.ref (43 + 3))] [.ref (43 + 3)] _ _ from ?_)
    refine zy_1r (c := 43) rfl rfl rfl (show zyR _ _ _ _ [some (.ref (43 + 3))] [.ref (44 + 3)] _ _ from ?_)
    refine zy_0 rfl rfl (show zyR _ _ _ _ [some (.ref (43 + 3))] [.ref (43 + 3), .ref (44 + 3)] _ _ from ?_)
    refine zy_1r (c := 43) rfl rfl rfl (show zyR _ _ _ _ [some (.ref (43 + 3))] [.ref (45 + 3), .ref (44 + 3)] _ _ from ?_)
    refine zy_0 rfl rfl (show zyR _ _ _ _ [some (.ref (43 + 3))] [.ref (43 + 3), .ref (45 + 3), .ref (44 + 3)] _ _ from ?_)
    refine zy_1 (c := 43) rfl rfl rfl (show zyR _ _ _ _ [some (.ref (43 + 3))] [.int ((s.1 43 5) - (1 : Int32)), .ref (45 + 3), .ref (44 + 3)] _ _ from ?_)
    obtain ⟨c1, h⟩ := zy_if h
    refine zy_26 (c := 45) rfl rfl c1 (show zyR _ _ _ _ [some (.ref (43 + 3))] [.int (s.1 45 (((s.1 43 5) - (1 : Int32))).toNatClampNeg), .ref (44 + 3)] _ _ from ?_)
    refine zy_0 rfl rfl (show zyR _ _ _ _ [some (.ref (43 + 3))] [.ref (43 + 3), .int (s.1 45 (((s.1 43 5) - (1 : Int32))).toNatClampNeg), .ref (44 + 3)] _ _ from ?_)
    refine zy_1r (c := 43) rfl rfl rfl (show zyR _ _ _ _ [some (.ref (43 + 3))] [.ref (46 + 3), .int (s.1 45 (((s.1 43 5) - (1 : Int32))).toNatClampNeg), .ref (44 + 3)] _ _ from ?_)
    refine zy_0 rfl rfl (show zyR _ _ _ _ [some (.ref (43 + 3))] [.ref (43 + 3), .ref (46 + 3), .int (s.1 45 (((s.1 43 5) - (1 : Int32))).toNatClampNeg), .ref (44 + 3)] _ _ from ?_)
    refine zy_1 (c := 43) rfl rfl rfl (show zyR _ _ _ _ [some (.ref (43 + 3))] [.int ((s.1 43 5) - (1 : Int32)), .ref (46 + 3), .int (s.1 45 (((s.1 43 5) - (1 : Int32))).toNatClampNeg), .ref (44 + 3)] _ _ from ?_)
    obtain ⟨c2, h⟩ := zy_if h
    refine zy_26 (c := 46) rfl rfl c2 (show zyR _ _ _ _ [some (.ref (43 + 3))] [.int (s.1 46 (((s.1 43 5) - (1 : Int32))).toNatClampNeg), .int (s.1 45 (((s.1 43 5) - (1 : Int32))).toNatClampNeg), .ref (44 + 3)] _ _ from ?_)
    obtain ⟨c3, h⟩ := zy_if h
    refine zy_27 (c := 44) rfl rfl c3 (show zyR _ _ _ _ [some (.ref (43 + 3))] [] _ _ from ?_)
    refine zy_0 rfl rfl (show zyR _ _ _ _ [some (.ref (43 + 3))] [.ref (43 + 3)] _ _ from ?_)
    refine zy_1 (c := 43) rfl rfl rfl (show zyR _ _ _ _ [some (.ref (43 + 3))] [.int ((s.1 43 5) - (1 : Int32))] _ _ from ?_)
    obtain ⟨rfl, rfl⟩ := zy_pi h
    exact zy_4 rfl ⟨rfl, rfl⟩
  · replace h := zy_ifn h b4
    refine zy_3 rfl rfl (show zyR _ _ _ _ [some (.ref (43 + 3))] [.int (-5 : Int32)] _ _ from ?_)
    obtain ⟨rfl, rfl⟩ := zy_pi h
    exact zy_4 rfl ⟨rfl, rfl⟩
/-! NineOpinionsModel.redo()I -/
noncomputable def zyF177    (s : zy_S) : Option (Int32 × zy_S) :=
if (s.1 43 5) ≠ (s.1 43 4) then
if zy_in (s.1 43 5) 40 then
if zy_in (s.1 43 5) 40 then
if zy_in (s.1 45 ((s.1 43 5)).toNatClampNeg) 41 then
some (((s.1 43 4) - ((s.1 43 5) + (1 : Int32))), (zy_up (zy_up s 44 ((s.1 45 ((s.1 43 5)).toNatClampNeg)).toNatClampNeg (s.1 47 ((s.1 43 5)).toNatClampNeg)) 43 5 ((s.1 43 5) + (1 : Int32))))
else none
else none
else none
else
some ((-5 : Int32), s)
theorem zyC177 {X : zx_X}      {s : zy_S} {r : Int32} {s' : zy_S}  (h : zyF177 s = some (r, s')) : zyR X 1 177 0 [some (.ref (43 + 3))] [] s (zyE (some (.int r)) s') := by
  unfold zyF177 at h
  refine zy_0 rfl rfl (show zyR _ _ _ _ [some (.ref (43 + 3))] [.ref (43 + 3)] _ _ from ?_)
  refine zy_1 (c := 43) rfl rfl rfl (show zyR _ _ _ _ [some (.ref (43 + 3))] [.int (s.1 43 5)] _ _ from ?_)
  refine zy_0 rfl rfl (show zyR _ _ _ _ [some (.ref (43 + 3))] [.ref (43 + 3), .int (s.1 43 5)] _ _ from ?_)
  refine zy_1 (c := 43) rfl rfl rfl (show zyR _ _ _ _ [some (.ref (43 + 3))] [.int (s.1 43 4), .int (s.1 43 5)] _ _ from ?_)
  refine zy_25_1 rfl (fun b4 => (show zyR _ _ _ _ [some (.ref (43 + 3))] [] _ _ from ?_)) (fun b4 => (show zyR _ _ _ _ [some (.ref (43 + 3))] [] _ _ from ?_))
  · replace h := zy_ifp h b4
    refine zy_0 rfl rfl (show zyR _ _ _ _ [some (.ref (43 + 3))] [.ref (43 + 3)] _ _ from ?_)
    refine zy_1r (c := 43) rfl rfl rfl (show zyR _ _ _ _ [some (.ref (43 + 3))] [.ref (44 + 3)] _ _ from ?_)
    refine zy_0 rfl rfl (show zyR _ _ _ _ [some (.ref (43 + 3))] [.ref (43 + 3), .ref (44 + 3)] _ _ from ?_)
    refine zy_1r (c := 43) rfl rfl rfl (show zyR _ _ _ _ [some (.ref (43 + 3))] [.ref (45 + 3), .ref (44 + 3)] _ _ from ?_)
    refine zy_0 rfl rfl (show zyR _ _ _ _ [some (.ref (43 + 3))] [.ref (43 + 3), .ref (45 + 3), .ref (44 + 3)] _ _ from ?_)
    refine zy_1 (c := 43) rfl rfl rfl (show zyR _ _ _ _ [some (.ref (43 + 3))] [.int (s.1 43 5), .ref (45 + 3), .ref (44 + 3)] _ _ from ?_)
    obtain ⟨c1, h⟩ := zy_if h
    refine zy_26 (c := 45) rfl rfl c1 (show zyR _ _ _ _ [some (.ref (43 + 3))] [.int (s.1 45 ((s.1 43 5)).toNatClampNeg), .ref (44 + 3)] _ _ from ?_)
    refine zy_0 rfl rfl (show zyR _ _ _ _ [some (.ref (43 + 3))] [.ref (43 + 3), .int (s.1 45 ((s.1 43 5)).toNatClampNeg), .ref (44 + 3)] _ _ from ?_)
    refine zy_1r (c := 43) rfl rfl rfl (show zyR _ _ _ _ [some (.ref (43 + 3))] [.ref (47 + 3), .int (s.1 45 ((s.1 43 5)).toNatClampNeg), .ref (44 + 3)] _ _ from ?_)
    refine zy_0 rfl rfl (show zyR _ _ _ _ [some (.ref (43 + 3))] [.ref (43 + 3), .ref (47 + 3), .int (s.1 45 ((s.1 43 5)).toNatClampNeg), .ref (44 + 3)] _ _ from ?_)
    refine zy_1 (c := 43) rfl rfl rfl (show zyR _ _ _ _ [some (.ref (43 + 3))] [.int (s.1 43 5), .ref (47 + 3), .int (s.1 45 ((s.1 43 5)).toNatClampNeg), .ref (44 + 3)] _ _ from ?_)
    obtain ⟨c2, h⟩ := zy_if h
    refine zy_26 (c := 47) rfl rfl c2 (show zyR _ _ _ _ [some (.ref (43 + 3))] [.int (s.1 47 ((s.1 43 5)).toNatClampNeg), .int (s.1 45 ((s.1 43 5)).toNatClampNeg), .ref (44 + 3)] _ _ from ?_)
    obtain ⟨c3, h⟩ := zy_if h
    refine zy_27 (c := 44) rfl rfl c3 (show zyR _ _ _ _ [some (.ref (43 + 3))] [] _ _ from ?_)
    refine zy_0 rfl rfl (show zyR _ _ _ _ [some (.ref (43 + 3))] [.ref (43 + 3)] _ _ from ?_)
    refine zy_33 rfl rfl (show zyR _ _ _ _ [some (.ref (43 + 3))] [.ref (43 + 3), .ref (43 + 3)] _ _ from ?_)
    refine zy_1 (c := 43) rfl rfl rfl (show zyR _ _ _ _ [some (.ref (43 + 3))] [.int (s.1 43 5), .ref (43 + 3)] _ _ from ?_)
    refine zy_3 rfl rfl (show zyR _ _ _ _ [some (.ref (43 + 3))] [.int (1 : Int32), .int (s.1 43 5), .ref (43 + 3)] _ _ from ?_)
    refine zy_10 rfl (show zyR _ _ _ _ [some (.ref (43 + 3))] [.int ((s.1 43 5) + (1 : Int32)), .ref (43 + 3)] _ _ from ?_)
    refine zy_52 (c := 43) rfl rfl rfl (show zyR _ _ _ _ [some (.ref (43 + 3))] [] _ _ from ?_)
    refine zy_0 rfl rfl (show zyR _ _ _ _ [some (.ref (43 + 3))] [.ref (43 + 3)] _ _ from ?_)
    refine zy_1 (c := 43) rfl rfl rfl (show zyR _ _ _ _ [some (.ref (43 + 3))] [.int (s.1 43 4)] _ _ from ?_)
    refine zy_0 rfl rfl (show zyR _ _ _ _ [some (.ref (43 + 3))] [.ref (43 + 3), .int (s.1 43 4)] _ _ from ?_)
    refine zy_1 (c := 43) rfl rfl rfl (show zyR _ _ _ _ [some (.ref (43 + 3))] [.int ((s.1 43 5) + (1 : Int32)), .int (s.1 43 4)] _ _ from ?_)
    refine zy_11 rfl (show zyR _ _ _ _ [some (.ref (43 + 3))] [.int ((s.1 43 4) - ((s.1 43 5) + (1 : Int32)))] _ _ from ?_)
    obtain ⟨rfl, rfl⟩ := zy_pi h
    exact zy_4 rfl ⟨rfl, rfl⟩
  · replace h := zy_ifn h b4
    refine zy_3 rfl rfl (show zyR _ _ _ _ [some (.ref (43 + 3))] [.int (-5 : Int32)] _ _ from ?_)
    obtain ⟨rfl, rfl⟩ := zy_pi h
    exact zy_4 rfl ⟨rfl, rfl⟩
/-! NineOpinionsModel.within(JJJ)Z -/
noncomputable def zyF179   (x0 : Int64) (x2 : Int64) (x4 : Int64) (s : zy_S) : Option (Int32 × zy_S) :=
if (lg_cmp x0 x2) < 0 then
some ((0 : Int32), s)
else
if 0 < (lg_cmp x0 x4) then
some ((0 : Int32), s)
else
some ((1 : Int32), s)
theorem zyC179 {X : zx_X}     {x0 : Int64} {x2 : Int64} {x4 : Int64} {s : zy_S} {r : Int32} {s' : zy_S}  (h : zyF179 x0 x2 x4 s = some (r, s')) : zyR X 1 179 0 [some (.long x0), none, some (.long x2), none, some (.long x4), none] [] s (zyE (some (.int r)) s') := by
  unfold zyF179 at h
  refine zy_37 rfl rfl (show zyR _ _ _ _ [some (.long x0), none, some (.long x2), none, some (.long x4), none] [.long x0] _ _ from ?_)
  refine zy_37 rfl rfl (show zyR _ _ _ _ [some (.long x0), none, some (.long x2), none, some (.long x4), none] [.long x2, .long x0] _ _ from ?_)
  refine zy_44 rfl (show zyR _ _ _ _ [some (.long x0), none, some (.long x2), none, some (.long x4), none] [.int (lg_cmp x0 x2)] _ _ from ?_)
  refine zy_24_2 rfl (fun b2 => (show zyR _ _ _ _ [some (.long x0), none, some (.long x2), none, some (.long x4), none] [] _ _ from ?_)) (fun b2 => (show zyR _ _ _ _ [some (.long x0), none, some (.long x2), none, some (.long x4), none] [] _ _ from ?_))
  · replace h := zy_ifp h b2
    refine zy_3 rfl rfl (show zyR _ _ _ _ [some (.long x0), none, some (.long x2), none, some (.long x4), none] [.int (0 : Int32)] _ _ from ?_)
    cases h
    exact zy_4b rfl ⟨rfl, rfl⟩ (Or.inl rfl)
  · replace h := zy_ifn h b2
    refine zy_37 rfl rfl (show zyR _ _ _ _ [some (.long x0), none, some (.long x2), none, some (.long x4), none] [.long x0] _ _ from ?_)
    refine zy_37 rfl rfl (show zyR _ _ _ _ [some (.long x0), none, some (.long x2), none, some (.long x4), none] [.long x4, .long x0] _ _ from ?_)
    refine zy_44 rfl (show zyR _ _ _ _ [some (.long x0), none, some (.long x2), none, some (.long x4), none] [.int (lg_cmp x0 x4)] _ _ from ?_)
    refine zy_24_4 rfl (fun b1 => (show zyR _ _ _ _ [some (.long x0), none, some (.long x2), none, some (.long x4), none] [] _ _ from ?_)) (fun b1 => (show zyR _ _ _ _ [some (.long x0), none, some (.long x2), none, some (.long x4), none] [] _ _ from ?_))
    · replace h := zy_ifp h b1
      refine zy_3 rfl rfl (show zyR _ _ _ _ [some (.long x0), none, some (.long x2), none, some (.long x4), none] [.int (0 : Int32)] _ _ from ?_)
      cases h
      exact zy_4b rfl ⟨rfl, rfl⟩ (Or.inl rfl)
    · replace h := zy_ifn h b1
      refine zy_3 rfl rfl (show zyR _ _ _ _ [some (.long x0), none, some (.long x2), none, some (.long x4), none] [.int (1 : Int32)] _ _ from ?_)
      refine zy_6 rfl (show zyR _ _ _ _ [some (.long x0), none, some (.long x2), none, some (.long x4), none] [.int (1 : Int32)] _ _ from ?_)
      cases h
      exact zy_4b rfl ⟨rfl, rfl⟩ (Or.inr rfl)
