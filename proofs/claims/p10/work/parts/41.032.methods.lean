/-! PART 41.32: methods as functions. Made by wip/v4/dcp.py. -/
/-! NineOpinions$Thought.tellLaw(IIII)V -/
noncomputable def zyF59_90   (x1 : Int32) (x2 : Int32) (x3 : Int32) (x5 : Int32) (x7 : Int32) (y0 : Int32) (s : zy_S) : Option (Int32 × zy_S) :=
if zy_in x1 8 then
(zyF63 x3 s).bind fun p2 =>
(zyF64 x7 (s.1 4 (x1).toNatClampNeg) x2 y0 p2.1 x5 p2.2).bind fun p3 =>
some ((0 : Int32), p3.2)
else none
theorem zyC59_90 {X : zx_X}     {x1 : Int32} {x2 : Int32} {x3 : Int32} {x5 : Int32} {x7 : Int32} {y0 : Int32} {s : zy_S} {r : Int32} {s' : zy_S}  (h : zyF59_90 x1 x2 x3 x5 x7 y0 s = some (r, s')) : zyR X 3 59 90 [some (.ref (12 + 3)), some (.int x1), some (.int x2), some (.int x3), none, some (.int x5), none, some (.int x7), none, none] [.int y0] s (zyE none s') := by
  unfold zyF59_90 at h
  refine zy_23 rfl rfl (show zyR _ _ _ _ [some (.ref (12 + 3)), some (.int x1), some (.int x2), some (.int x3), none, some (.int x5), none, some (.int x7), none, some (.int y0)] [] _ _ from ?_)
  refine zy_0 rfl rfl (show zyR _ _ _ _ [some (.ref (12 + 3)), some (.int x1), some (.int x2), some (.int x3), none, some (.int x5), none, some (.int x7), none, some (.int y0)] [.ref (12 + 3)] _ _ from ?_)
  refine zy_1r (c := 12) rfl rfl rfl (show zyR _ _ _ _ [some (.ref (12 + 3)), some (.int x1), some (.int x2), some (.int x3), none, some (.int x5), none, some (.int x7), none, some (.int y0)] [.ref (5 + 3)] _ _ from ?_)
  refine zy_2 rfl rfl (show zyR _ _ _ _ [some (.ref (12 + 3)), some (.int x1), some (.int x2), some (.int x3), none, some (.int x5), none, some (.int x7), none, some (.int y0)] [.int x7, .ref (5 + 3)] _ _ from ?_)
  refine zy_0 rfl rfl (show zyR _ _ _ _ [some (.ref (12 + 3)), some (.int x1), some (.int x2), some (.int x3), none, some (.int x5), none, some (.int x7), none, some (.int y0)] [.ref (12 + 3), .int x7, .ref (5 + 3)] _ _ from ?_)
  refine zy_1r (c := 12) rfl rfl rfl (show zyR _ _ _ _ [some (.ref (12 + 3)), some (.int x1), some (.int x2), some (.int x3), none, some (.int x5), none, some (.int x7), none, some (.int y0)] [.ref (1 + 3), .int x7, .ref (5 + 3)] _ _ from ?_)
  refine zy_1r (c := 1) rfl rfl rfl (show zyR _ _ _ _ [some (.ref (12 + 3)), some (.int x1), some (.int x2), some (.int x3), none, some (.int x5), none, some (.int x7), none, some (.int y0)] [.ref (4 + 3), .int x7, .ref (5 + 3)] _ _ from ?_)
  refine zy_2 rfl rfl (show zyR _ _ _ _ [some (.ref (12 + 3)), some (.int x1), some (.int x2), some (.int x3), none, some (.int x5), none, some (.int x7), none, some (.int y0)] [.int x1, .ref (4 + 3), .int x7, .ref (5 + 3)] _ _ from ?_)
  obtain ⟨c1, h⟩ := zy_if h
  refine zy_26 (c := 4) rfl rfl c1 (show zyR _ _ _ _ [some (.ref (12 + 3)), some (.int x1), some (.int x2), some (.int x3), none, some (.int x5), none, some (.int x7), none, some (.int y0)] [.int (s.1 4 (x1).toNatClampNeg), .int x7, .ref (5 + 3)] _ _ from ?_)
  refine zy_2 rfl rfl (show zyR _ _ _ _ [some (.ref (12 + 3)), some (.int x1), some (.int x2), some (.int x3), none, some (.int x5), none, some (.int x7), none, some (.int y0)] [.int x2, .int (s.1 4 (x1).toNatClampNeg), .int x7, .ref (5 + 3)] _ _ from ?_)
  refine zy_2 rfl rfl (show zyR _ _ _ _ [some (.ref (12 + 3)), some (.int x1), some (.int x2), some (.int x3), none, some (.int x5), none, some (.int x7), none, some (.int y0)] [.int y0, .int x2, .int (s.1 4 (x1).toNatClampNeg), .int x7, .ref (5 + 3)] _ _ from ?_)
  refine zy_2 rfl rfl (show zyR _ _ _ _ [some (.ref (12 + 3)), some (.int x1), some (.int x2), some (.int x3), none, some (.int x5), none, some (.int x7), none, some (.int y0)] [.int x3, .int y0, .int x2, .int (s.1 4 (x1).toNatClampNeg), .int x7, .ref (5 + 3)] _ _ from ?_)
  obtain ⟨p2, hp2, h⟩ := zy_bind h
  refine zy_60 (as := [.int x3]) (rest := [.int y0, .int x2, .int (s.1 4 (x1).toNatClampNeg), .int x7, .ref (5 + 3)]) (L := [some (.int x3)]) (d' := 1) rfl rfl (Nat.le_of_ble_eq_true rfl) (Nat.le_of_ble_eq_true rfl) rfl (Nat.le_of_ble_eq_true rfl) rfl rfl (zyC63 hp2) ?_
  show zyR _ _ _ _ [some (.ref (12 + 3)), some (.int x1), some (.int x2), some (.int x3), none, some (.int x5), none, some (.int x7), none, some (.int y0)] [.int p2.1, .int y0, .int x2, .int (s.1 4 (x1).toNatClampNeg), .int x7, .ref (5 + 3)] _ _
  refine zy_2 rfl rfl (show zyR _ _ _ _ [some (.ref (12 + 3)), some (.int x1), some (.int x2), some (.int x3), none, some (.int x5), none, some (.int x7), none, some (.int y0)] [.int x5, .int p2.1, .int y0, .int x2, .int (s.1 4 (x1).toNatClampNeg), .int x7, .ref (5 + 3)] _ _ from ?_)
  obtain ⟨p3, hp3, h⟩ := zy_bind h
  refine zy_5 (c := 5) (as := [.int x7, .int (s.1 4 (x1).toNatClampNeg), .int x2, .int y0, .int p2.1, .int x5]) (rest := []) (L := [some (.ref (5 + 3)), some (.int x7), some (.int (s.1 4 (x1).toNatClampNeg)), some (.int x2), some (.int y0), some (.int p2.1), some (.int x5)]) (d' := 1) rfl rfl rfl (Nat.le_of_ble_eq_true rfl) (Nat.le_of_ble_eq_true rfl) rfl (Nat.le_of_ble_eq_true rfl) rfl rfl (zyC64 hp3) ?_
  show zyR _ _ _ _ [some (.ref (12 + 3)), some (.int x1), some (.int x2), some (.int x3), none, some (.int x5), none, some (.int x7), none, some (.int y0)] [] _ _
  cases h
  exact zy_66 rfl ⟨rfl, rfl⟩
noncomputable def zyF59_65   (x1 : Int32) (x2 : Int32) (x3 : Int32) (x5 : Int32) (x6 : Int32) (x7 : Int32) (y0 : Int32) (s : zy_S) : Option (Int32 × zy_S) :=
if y0 = 0 then
zyF59_90 x1 x2 x3 x5 x7 (0 : Int32) s
else
if zy_in (((4 : Int32) * x2) + x6) 24 then
zyF59_90 x1 x2 x3 x5 x7 (s.1 2 ((((4 : Int32) * x2) + x6)).toNatClampNeg) s
else none
theorem zyC59_65 {X : zx_X}     {x1 : Int32} {x2 : Int32} {x3 : Int32} {x5 : Int32} {x6 : Int32} {x7 : Int32} {y0 : Int32} {s : zy_S} {r : Int32} {s' : zy_S}  (h : zyF59_65 x1 x2 x3 x5 x6 x7 y0 s = some (r, s')) : zyR X 3 59 65 [some (.ref (12 + 3)), some (.int x1), some (.int x2), some (.int x3), none, some (.int x5), some (.int x6), some (.int x7), none, none] [.int y0] s (zyE none s') := by
  unfold zyF59_65 at h
  refine zy_23 rfl rfl (show zyR _ _ _ _ [some (.ref (12 + 3)), some (.int x1), some (.int x2), some (.int x3), none, some (.int x5), some (.int x6), some (.int x7), some (.int y0), none] [] _ _ from ?_)
  refine zy_2 rfl rfl (show zyR _ _ _ _ [some (.ref (12 + 3)), some (.int x1), some (.int x2), some (.int x3), none, some (.int x5), some (.int x6), some (.int x7), some (.int y0), none] [.int y0] _ _ from ?_)
  refine zy_24_0 rfl (fun b5 => (show zyR _ _ _ _ [some (.ref (12 + 3)), some (.int x1), some (.int x2), some (.int x3), none, some (.int x5), some (.int x6), some (.int x7), some (.int y0), none] [] _ _ from ?_)) (fun b5 => (show zyR _ _ _ _ [some (.ref (12 + 3)), some (.int x1), some (.int x2), some (.int x3), none, some (.int x5), some (.int x6), some (.int x7), some (.int y0), none] [] _ _ from ?_))
  · replace h := zy_ifp h b5
    refine zy_3 rfl rfl (show zyR _ _ _ _ [some (.ref (12 + 3)), some (.int x1), some (.int x2), some (.int x3), none, some (.int x5), some (.int x6), some (.int x7), some (.int y0), none] [.int (0 : Int32)] _ _ from ?_)
    exact zy_sub (show zy_le [some (.ref (12 + 3)), some (.int x1), some (.int x2), some (.int x3), none, some (.int x5), none, some (.int x7), none, none] [some (.ref (12 + 3)), some (.int x1), some (.int x2), some (.int x3), none, some (.int x5), some (.int x6), some (.int x7), some (.int y0), none] from ⟨rfl, ⟨rfl, ⟨rfl, ⟨rfl, ⟨rfl, ⟨rfl, trivial⟩⟩⟩⟩⟩⟩) (zyC59_90 h)
  · replace h := zy_ifn h b5
    refine zy_0 rfl rfl (show zyR _ _ _ _ [some (.ref (12 + 3)), some (.int x1), some (.int x2), some (.int x3), none, some (.int x5), some (.int x6), some (.int x7), some (.int y0), none] [.ref (12 + 3)] _ _ from ?_)
    refine zy_1r (c := 12) rfl rfl rfl (show zyR _ _ _ _ [some (.ref (12 + 3)), some (.int x1), some (.int x2), some (.int x3), none, some (.int x5), some (.int x6), some (.int x7), some (.int y0), none] [.ref (1 + 3)] _ _ from ?_)
    refine zy_1r (c := 1) rfl rfl rfl (show zyR _ _ _ _ [some (.ref (12 + 3)), some (.int x1), some (.int x2), some (.int x3), none, some (.int x5), some (.int x6), some (.int x7), some (.int y0), none] [.ref (2 + 3)] _ _ from ?_)
    refine zy_3 rfl rfl (show zyR _ _ _ _ [some (.ref (12 + 3)), some (.int x1), some (.int x2), some (.int x3), none, some (.int x5), some (.int x6), some (.int x7), some (.int y0), none] [.int (4 : Int32), .ref (2 + 3)] _ _ from ?_)
    refine zy_2 rfl rfl (show zyR _ _ _ _ [some (.ref (12 + 3)), some (.int x1), some (.int x2), some (.int x3), none, some (.int x5), some (.int x6), some (.int x7), some (.int y0), none] [.int x2, .int (4 : Int32), .ref (2 + 3)] _ _ from ?_)
    refine zy_12 rfl (show zyR _ _ _ _ [some (.ref (12 + 3)), some (.int x1), some (.int x2), some (.int x3), none, some (.int x5), some (.int x6), some (.int x7), some (.int y0), none] [.int ((4 : Int32) * x2), .ref (2 + 3)] _ _ from ?_)
    refine zy_2 rfl rfl (show zyR _ _ _ _ [some (.ref (12 + 3)), some (.int x1), some (.int x2), some (.int x3), none, some (.int x5), some (.int x6), some (.int x7), some (.int y0), none] [.int x6, .int ((4 : Int32) * x2), .ref (2 + 3)] _ _ from ?_)
    refine zy_10 rfl (show zyR _ _ _ _ [some (.ref (12 + 3)), some (.int x1), some (.int x2), some (.int x3), none, some (.int x5), some (.int x6), some (.int x7), some (.int y0), none] [.int (((4 : Int32) * x2) + x6), .ref (2 + 3)] _ _ from ?_)
    obtain ⟨c4, h⟩ := zy_if h
    refine zy_26 (c := 2) rfl rfl c4 (show zyR _ _ _ _ [some (.ref (12 + 3)), some (.int x1), some (.int x2), some (.int x3), none, some (.int x5), some (.int x6), some (.int x7), some (.int y0), none] [.int (s.1 2 ((((4 : Int32) * x2) + x6)).toNatClampNeg)] _ _ from ?_)
    refine zy_6 rfl (show zyR _ _ _ _ [some (.ref (12 + 3)), some (.int x1), some (.int x2), some (.int x3), none, some (.int x5), some (.int x6), some (.int x7), some (.int y0), none] [.int (s.1 2 ((((4 : Int32) * x2) + x6)).toNatClampNeg)] _ _ from ?_)
    exact zy_sub (show zy_le [some (.ref (12 + 3)), some (.int x1), some (.int x2), some (.int x3), none, some (.int x5), none, some (.int x7), none, none] [some (.ref (12 + 3)), some (.int x1), some (.int x2), some (.int x3), none, some (.int x5), some (.int x6), some (.int x7), some (.int y0), none] from ⟨rfl, ⟨rfl, ⟨rfl, ⟨rfl, ⟨rfl, ⟨rfl, trivial⟩⟩⟩⟩⟩⟩) (zyC59_90 h)
noncomputable def zyF59_64   (x1 : Int32) (x2 : Int32) (x3 : Int32) (x5 : Int32) (x6 : Int32) (x7 : Int32) (s : zy_S) : Option (Int32 × zy_S) :=
zyF59_65 x1 x2 x3 x5 x6 x7 (0 : Int32) s
theorem zyC59_64 {X : zx_X}     {x1 : Int32} {x2 : Int32} {x3 : Int32} {x5 : Int32} {x6 : Int32} {x7 : Int32} {s : zy_S} {r : Int32} {s' : zy_S}  (h : zyF59_64 x1 x2 x3 x5 x6 x7 s = some (r, s')) : zyR X 3 59 64 [some (.ref (12 + 3)), some (.int x1), some (.int x2), some (.int x3), none, some (.int x5), some (.int x6), some (.int x7), none, none] [] s (zyE none s') := by
  unfold zyF59_64 at h
  refine zy_3 rfl rfl (show zyR _ _ _ _ [some (.ref (12 + 3)), some (.int x1), some (.int x2), some (.int x3), none, some (.int x5), some (.int x6), some (.int x7), none, none] [.int (0 : Int32)] _ _ from ?_)
  exact zy_sub (show zy_le [some (.ref (12 + 3)), some (.int x1), some (.int x2), some (.int x3), none, some (.int x5), some (.int x6), some (.int x7), none, none] [some (.ref (12 + 3)), some (.int x1), some (.int x2), some (.int x3), none, some (.int x5), some (.int x6), some (.int x7), none, none] from ⟨rfl, ⟨rfl, ⟨rfl, ⟨rfl, ⟨rfl, ⟨rfl, ⟨rfl, trivial⟩⟩⟩⟩⟩⟩⟩) (zyC59_65 h)
noncomputable def zyF59_41   (x1 : Int32) (x2 : Int32) (x3 : Int32) (x4 : Int32) (x5 : Int32) (x6 : Int32) (y0 : Int32) (s : zy_S) : Option (Int32 × zy_S) :=
if x6 = (-1 : Int32) then
zyF59_64 x1 x2 x3 x5 x6 y0 s
else
(zyF32 x4 x6 s).bind fun p6 =>
if p6.1 ≠ (1 : Int32) then
zyF59_64 x1 x2 x3 x5 x6 y0 p6.2
else
zyF59_65 x1 x2 x3 x5 x6 y0 (1 : Int32) p6.2
theorem zyC59_41 {X : zx_X}     {x1 : Int32} {x2 : Int32} {x3 : Int32} {x4 : Int32} {x5 : Int32} {x6 : Int32} {y0 : Int32} {s : zy_S} {r : Int32} {s' : zy_S}  (h : zyF59_41 x1 x2 x3 x4 x5 x6 y0 s = some (r, s')) : zyR X 3 59 41 [some (.ref (12 + 3)), some (.int x1), some (.int x2), some (.int x3), some (.int x4), some (.int x5), some (.int x6), none, none, none] [.int y0] s (zyE none s') := by
  unfold zyF59_41 at h
  refine zy_23 rfl rfl (show zyR _ _ _ _ [some (.ref (12 + 3)), some (.int x1), some (.int x2), some (.int x3), some (.int x4), some (.int x5), some (.int x6), some (.int y0), none, none] [] _ _ from ?_)
  refine zy_2 rfl rfl (show zyR _ _ _ _ [some (.ref (12 + 3)), some (.int x1), some (.int x2), some (.int x3), some (.int x4), some (.int x5), some (.int x6), some (.int y0), none, none] [.int x6] _ _ from ?_)
  refine zy_3 rfl rfl (show zyR _ _ _ _ [some (.ref (12 + 3)), some (.int x1), some (.int x2), some (.int x3), some (.int x4), some (.int x5), some (.int x6), some (.int y0), none, none] [.int (-1 : Int32), .int x6] _ _ from ?_)
  refine zy_25_0 rfl (fun b8 => (show zyR _ _ _ _ [some (.ref (12 + 3)), some (.int x1), some (.int x2), some (.int x3), some (.int x4), some (.int x5), some (.int x6), some (.int y0), none, none] [] _ _ from ?_)) (fun b8 => (show zyR _ _ _ _ [some (.ref (12 + 3)), some (.int x1), some (.int x2), some (.int x3), some (.int x4), some (.int x5), some (.int x6), some (.int y0), none, none] [] _ _ from ?_))
  · replace h := zy_ifp h b8
    exact zy_sub (show zy_le [some (.ref (12 + 3)), some (.int x1), some (.int x2), some (.int x3), none, some (.int x5), some (.int x6), some (.int y0), none, none] [some (.ref (12 + 3)), some (.int x1), some (.int x2), some (.int x3), some (.int x4), some (.int x5), some (.int x6), some (.int y0), none, none] from ⟨rfl, ⟨rfl, ⟨rfl, ⟨rfl, ⟨rfl, ⟨rfl, ⟨rfl, trivial⟩⟩⟩⟩⟩⟩⟩) (zyC59_64 h)
  · replace h := zy_ifn h b8
    refine zy_2 rfl rfl (show zyR _ _ _ _ [some (.ref (12 + 3)), some (.int x1), some (.int x2), some (.int x3), some (.int x4), some (.int x5), some (.int x6), some (.int y0), none, none] [.int x4] _ _ from ?_)
    refine zy_2 rfl rfl (show zyR _ _ _ _ [some (.ref (12 + 3)), some (.int x1), some (.int x2), some (.int x3), some (.int x4), some (.int x5), some (.int x6), some (.int y0), none, none] [.int x6, .int x4] _ _ from ?_)
    obtain ⟨p6, hp6, h⟩ := zy_bind h
    refine zy_61 (as := [.int x4, .int x6]) (rest := []) (L := [some (.int x4), some (.int x6)]) (d' := 1) rfl rfl (Nat.le_of_ble_eq_true rfl) (Nat.le_of_ble_eq_true rfl) rfl (Nat.le_of_ble_eq_true rfl) rfl rfl (zyC32 hp6) ?_
    show zyR _ _ _ _ [some (.ref (12 + 3)), some (.int x1), some (.int x2), some (.int x3), some (.int x4), some (.int x5), some (.int x6), some (.int y0), none, none] [.int p6.1] _ _
    refine zy_3 rfl rfl (show zyR _ _ _ _ [some (.ref (12 + 3)), some (.int x1), some (.int x2), some (.int x3), some (.int x4), some (.int x5), some (.int x6), some (.int y0), none, none] [.int (1 : Int32), .int p6.1] _ _ from ?_)
    refine zy_25_1 rfl (fun b7 => (show zyR _ _ _ _ [some (.ref (12 + 3)), some (.int x1), some (.int x2), some (.int x3), some (.int x4), some (.int x5), some (.int x6), some (.int y0), none, none] [] _ _ from ?_)) (fun b7 => (show zyR _ _ _ _ [some (.ref (12 + 3)), some (.int x1), some (.int x2), some (.int x3), some (.int x4), some (.int x5), some (.int x6), some (.int y0), none, none] [] _ _ from ?_))
    · replace h := zy_ifp h b7
      exact zy_sub (show zy_le [some (.ref (12 + 3)), some (.int x1), some (.int x2), some (.int x3), none, some (.int x5), some (.int x6), some (.int y0), none, none] [some (.ref (12 + 3)), some (.int x1), some (.int x2), some (.int x3), some (.int x4), some (.int x5), some (.int x6), some (.int y0), none, none] from ⟨rfl, ⟨rfl, ⟨rfl, ⟨rfl, ⟨rfl, ⟨rfl, ⟨rfl, trivial⟩⟩⟩⟩⟩⟩⟩) (zyC59_64 h)
    · replace h := zy_ifn h b7
      refine zy_3 rfl rfl (show zyR _ _ _ _ [some (.ref (12 + 3)), some (.int x1), some (.int x2), some (.int x3), some (.int x4), some (.int x5), some (.int x6), some (.int y0), none, none] [.int (1 : Int32)] _ _ from ?_)
      refine zy_6 rfl (show zyR _ _ _ _ [some (.ref (12 + 3)), some (.int x1), some (.int x2), some (.int x3), some (.int x4), some (.int x5), some (.int x6), some (.int y0), none, none] [.int (1 : Int32)] _ _ from ?_)
      exact zy_sub (show zy_le [some (.ref (12 + 3)), some (.int x1), some (.int x2), some (.int x3), none, some (.int x5), some (.int x6), some (.int y0), none, none] [some (.ref (12 + 3)), some (.int x1), some (.int x2), some (.int x3), some (.int x4), some (.int x5), some (.int x6), some (.int y0), none, none] from ⟨rfl, ⟨rfl, ⟨rfl, ⟨rfl, ⟨rfl, ⟨rfl, ⟨rfl, trivial⟩⟩⟩⟩⟩⟩⟩) (zyC59_65 h)
noncomputable def zyF59   (x1 : Int32) (x2 : Int32) (x3 : Int32) (x4 : Int32) (s : zy_S) : Option (Int32 × zy_S) :=
if zy_in x1 8 then
(zyF60 (s.1 3 (x1).toNatClampNeg) x2 s).bind fun p10 =>
(zyF61 p10.1 x3 p10.2).bind fun p11 =>
if p11.1 ≠ (-1 : Int32) then
(zyF62 (p11.1 - p10.1) p11.2).bind fun p12 =>
zyF59_41 x1 x2 x3 x4 p10.1 p11.1 p12.1 p12.2
else
zyF59_41 x1 x2 x3 x4 p10.1 p11.1 (4 : Int32) p11.2
else none
theorem zyC59 {X : zx_X}     {x1 : Int32} {x2 : Int32} {x3 : Int32} {x4 : Int32} {s : zy_S} {r : Int32} {s' : zy_S}  (h : zyF59 x1 x2 x3 x4 s = some (r, s')) : zyR X 3 59 0 [some (.ref (12 + 3)), some (.int x1), some (.int x2), some (.int x3), some (.int x4), none, none, none, none, none] [] s (zyE none s') := by
  unfold zyF59 at h
  refine zy_0 rfl rfl (show zyR _ _ _ _ [some (.ref (12 + 3)), some (.int x1), some (.int x2), some (.int x3), some (.int x4), none, none, none, none, none] [.ref (12 + 3)] _ _ from ?_)
  refine zy_1r (c := 12) rfl rfl rfl (show zyR _ _ _ _ [some (.ref (12 + 3)), some (.int x1), some (.int x2), some (.int x3), some (.int x4), none, none, none, none, none] [.ref (1 + 3)] _ _ from ?_)
  refine zy_1r (c := 1) rfl rfl rfl (show zyR _ _ _ _ [some (.ref (12 + 3)), some (.int x1), some (.int x2), some (.int x3), some (.int x4), none, none, none, none, none] [.ref (3 + 3)] _ _ from ?_)
  refine zy_2 rfl rfl (show zyR _ _ _ _ [some (.ref (12 + 3)), some (.int x1), some (.int x2), some (.int x3), some (.int x4), none, none, none, none, none] [.int x1, .ref (3 + 3)] _ _ from ?_)
  obtain ⟨c9, h⟩ := zy_if h
  refine zy_26 (c := 3) rfl rfl c9 (show zyR _ _ _ _ [some (.ref (12 + 3)), some (.int x1), some (.int x2), some (.int x3), some (.int x4), none, none, none, none, none] [.int (s.1 3 (x1).toNatClampNeg)] _ _ from ?_)
  refine zy_2 rfl rfl (show zyR _ _ _ _ [some (.ref (12 + 3)), some (.int x1), some (.int x2), some (.int x3), some (.int x4), none, none, none, none, none] [.int x2, .int (s.1 3 (x1).toNatClampNeg)] _ _ from ?_)
  obtain ⟨p10, hp10, h⟩ := zy_bind h
  refine zy_61 (as := [.int (s.1 3 (x1).toNatClampNeg), .int x2]) (rest := []) (L := [some (.int (s.1 3 (x1).toNatClampNeg)), some (.int x2)]) (d' := 1) rfl rfl (Nat.le_of_ble_eq_true rfl) (Nat.le_of_ble_eq_true rfl) rfl (Nat.le_of_ble_eq_true rfl) rfl rfl (zyC60 hp10) ?_
  show zyR _ _ _ _ [some (.ref (12 + 3)), some (.int x1), some (.int x2), some (.int x3), some (.int x4), none, none, none, none, none] [.int p10.1] _ _
  refine zy_23 rfl rfl (show zyR _ _ _ _ [some (.ref (12 + 3)), some (.int x1), some (.int x2), some (.int x3), some (.int x4), some (.int p10.1), none, none, none, none] [] _ _ from ?_)
  refine zy_2 rfl rfl (show zyR _ _ _ _ [some (.ref (12 + 3)), some (.int x1), some (.int x2), some (.int x3), some (.int x4), some (.int p10.1), none, none, none, none] [.int p10.1] _ _ from ?_)
  refine zy_2 rfl rfl (show zyR _ _ _ _ [some (.ref (12 + 3)), some (.int x1), some (.int x2), some (.int x3), some (.int x4), some (.int p10.1), none, none, none, none] [.int x3, .int p10.1] _ _ from ?_)
  obtain ⟨p11, hp11, h⟩ := zy_bind h
  refine zy_60 (as := [.int p10.1, .int x3]) (rest := []) (L := [some (.int p10.1), some (.int x3), none, none, none]) (d' := 2) rfl rfl (Nat.le_of_ble_eq_true rfl) (Nat.le_of_ble_eq_true rfl) rfl (Nat.le_of_ble_eq_true rfl) rfl rfl (zyC61 hp11) ?_
  show zyR _ _ _ _ [some (.ref (12 + 3)), some (.int x1), some (.int x2), some (.int x3), some (.int x4), some (.int p10.1), none, none, none, none] [.int p11.1] _ _
  refine zy_23 rfl rfl (show zyR _ _ _ _ [some (.ref (12 + 3)), some (.int x1), some (.int x2), some (.int x3), some (.int x4), some (.int p10.1), some (.int p11.1), none, none, none] [] _ _ from ?_)
  refine zy_2 rfl rfl (show zyR _ _ _ _ [some (.ref (12 + 3)), some (.int x1), some (.int x2), some (.int x3), some (.int x4), some (.int p10.1), some (.int p11.1), none, none, none] [.int p11.1] _ _ from ?_)
  refine zy_3 rfl rfl (show zyR _ _ _ _ [some (.ref (12 + 3)), some (.int x1), some (.int x2), some (.int x3), some (.int x4), some (.int p10.1), some (.int p11.1), none, none, none] [.int (-1 : Int32), .int p11.1] _ _ from ?_)
  refine zy_25_1 rfl (fun b13 => (show zyR _ _ _ _ [some (.ref (12 + 3)), some (.int x1), some (.int x2), some (.int x3), some (.int x4), some (.int p10.1), some (.int p11.1), none, none, none] [] _ _ from ?_)) (fun b13 => (show zyR _ _ _ _ [some (.ref (12 + 3)), some (.int x1), some (.int x2), some (.int x3), some (.int x4), some (.int p10.1), some (.int p11.1), none, none, none] [] _ _ from ?_))
  · replace h := zy_ifp h b13
    refine zy_2 rfl rfl (show zyR _ _ _ _ [some (.ref (12 + 3)), some (.int x1), some (.int x2), some (.int x3), some (.int x4), some (.int p10.1), some (.int p11.1), none, none, none] [.int p11.1] _ _ from ?_)
    refine zy_2 rfl rfl (show zyR _ _ _ _ [some (.ref (12 + 3)), some (.int x1), some (.int x2), some (.int x3), some (.int x4), some (.int p10.1), some (.int p11.1), none, none, none] [.int p10.1, .int p11.1] _ _ from ?_)
    refine zy_11 rfl (show zyR _ _ _ _ [some (.ref (12 + 3)), some (.int x1), some (.int x2), some (.int x3), some (.int x4), some (.int p10.1), some (.int p11.1), none, none, none] [.int (p11.1 - p10.1)] _ _ from ?_)
    obtain ⟨p12, hp12, h⟩ := zy_bind h
    refine zy_60 (as := [.int (p11.1 - p10.1)]) (rest := []) (L := [some (.int (p11.1 - p10.1))]) (d' := 1) rfl rfl (Nat.le_of_ble_eq_true rfl) (Nat.le_of_ble_eq_true rfl) rfl (Nat.le_of_ble_eq_true rfl) rfl rfl (zyC62 hp12) ?_
    show zyR _ _ _ _ [some (.ref (12 + 3)), some (.int x1), some (.int x2), some (.int x3), some (.int x4), some (.int p10.1), some (.int p11.1), none, none, none] [.int p12.1] _ _
    exact zy_sub (show zy_le [some (.ref (12 + 3)), some (.int x1), some (.int x2), some (.int x3), some (.int x4), some (.int p10.1), some (.int p11.1), none, none, none] [some (.ref (12 + 3)), some (.int x1), some (.int x2), some (.int x3), some (.int x4), some (.int p10.1), some (.int p11.1), none, none, none] from ⟨rfl, ⟨rfl, ⟨rfl, ⟨rfl, ⟨rfl, ⟨rfl, ⟨rfl, trivial⟩⟩⟩⟩⟩⟩⟩) (zyC59_41 h)
  · replace h := zy_ifn h b13
    refine zy_3 rfl rfl (show zyR _ _ _ _ [some (.ref (12 + 3)), some (.int x1), some (.int x2), some (.int x3), some (.int x4), some (.int p10.1), some (.int p11.1), none, none, none] [.int (4 : Int32)] _ _ from ?_)
    refine zy_6 rfl (show zyR _ _ _ _ [some (.ref (12 + 3)), some (.int x1), some (.int x2), some (.int x3), some (.int x4), some (.int p10.1), some (.int p11.1), none, none, none] [.int (4 : Int32)] _ _ from ?_)
    exact zy_sub (show zy_le [some (.ref (12 + 3)), some (.int x1), some (.int x2), some (.int x3), some (.int x4), some (.int p10.1), some (.int p11.1), none, none, none] [some (.ref (12 + 3)), some (.int x1), some (.int x2), some (.int x3), some (.int x4), some (.int p10.1), some (.int p11.1), none, none, none] from ⟨rfl, ⟨rfl, ⟨rfl, ⟨rfl, ⟨rfl, ⟨rfl, ⟨rfl, trivial⟩⟩⟩⟩⟩⟩⟩) (zyC59_41 h)
/-! NineOpinions$Law.push(I)V -/
noncomputable def zyF66   (x1 : Int32) (s : zy_S) : Option (Int32 × zy_S) :=
if (128 : Int32) ≤ (s.1 5 4) then
some ((0 : Int32), s)
else
if zy_in (s.1 5 4) 128 then
some ((0 : Int32), (zy_up (zy_up s 7 ((s.1 5 4)).toNatClampNeg x1) 5 4 ((s.1 5 4) + (1 : Int32))))
else none
theorem zyC66 {X : zx_X}     {x1 : Int32} {s : zy_S} {r : Int32} {s' : zy_S}  (h : zyF66 x1 s = some (r, s')) : zyR X 1 66 0 [some (.ref (5 + 3)), some (.int x1)] [] s (zyE none s') := by
  unfold zyF66 at h
  refine zy_0 rfl rfl (show zyR _ _ _ _ [some (.ref (5 + 3)), some (.int x1)] [.ref (5 + 3)] _ _ from ?_)
  refine zy_1 (c := 5) rfl rfl rfl (show zyR _ _ _ _ [some (.ref (5 + 3)), some (.int x1)] [.int (s.1 5 4)] _ _ from ?_)
  refine zy_3 rfl rfl (show zyR _ _ _ _ [some (.ref (5 + 3)), some (.int x1)] [.int (128 : Int32), .int (s.1 5 4)] _ _ from ?_)
  refine zy_25_3 rfl (fun b2 => (show zyR _ _ _ _ [some (.ref (5 + 3)), some (.int x1)] [] _ _ from ?_)) (fun b2 => (show zyR _ _ _ _ [some (.ref (5 + 3)), some (.int x1)] [] _ _ from ?_))
  · replace h := zy_ifp h b2
    cases h
    exact zy_66 rfl ⟨rfl, rfl⟩
  · replace h := zy_ifn h b2
    refine zy_0 rfl rfl (show zyR _ _ _ _ [some (.ref (5 + 3)), some (.int x1)] [.ref (5 + 3)] _ _ from ?_)
    refine zy_1r (c := 5) rfl rfl rfl (show zyR _ _ _ _ [some (.ref (5 + 3)), some (.int x1)] [.ref (7 + 3)] _ _ from ?_)
    refine zy_0 rfl rfl (show zyR _ _ _ _ [some (.ref (5 + 3)), some (.int x1)] [.ref (5 + 3), .ref (7 + 3)] _ _ from ?_)
    refine zy_1 (c := 5) rfl rfl rfl (show zyR _ _ _ _ [some (.ref (5 + 3)), some (.int x1)] [.int (s.1 5 4), .ref (7 + 3)] _ _ from ?_)
    refine zy_2 rfl rfl (show zyR _ _ _ _ [some (.ref (5 + 3)), some (.int x1)] [.int x1, .int (s.1 5 4), .ref (7 + 3)] _ _ from ?_)
    obtain ⟨c1, h⟩ := zy_if h
    refine zy_27 (c := 7) rfl rfl c1 (show zyR _ _ _ _ [some (.ref (5 + 3)), some (.int x1)] [] _ _ from ?_)
    refine zy_0 rfl rfl (show zyR _ _ _ _ [some (.ref (5 + 3)), some (.int x1)] [.ref (5 + 3)] _ _ from ?_)
    refine zy_33 rfl rfl (show zyR _ _ _ _ [some (.ref (5 + 3)), some (.int x1)] [.ref (5 + 3), .ref (5 + 3)] _ _ from ?_)
    refine zy_1 (c := 5) rfl rfl rfl (show zyR _ _ _ _ [some (.ref (5 + 3)), some (.int x1)] [.int (s.1 5 4), .ref (5 + 3)] _ _ from ?_)
    refine zy_3 rfl rfl (show zyR _ _ _ _ [some (.ref (5 + 3)), some (.int x1)] [.int (1 : Int32), .int (s.1 5 4), .ref (5 + 3)] _ _ from ?_)
    refine zy_10 rfl (show zyR _ _ _ _ [some (.ref (5 + 3)), some (.int x1)] [.int ((s.1 5 4) + (1 : Int32)), .ref (5 + 3)] _ _ from ?_)
    refine zy_52 (c := 5) rfl rfl rfl (show zyR _ _ _ _ [some (.ref (5 + 3)), some (.int x1)] [] _ _ from ?_)
    cases h
    exact zy_66 rfl ⟨rfl, rfl⟩
/-! NineOpinions$Law.pop()I -/
noncomputable def zyF67    (s : zy_S) : Option (Int32 × zy_S) :=
if 0 < (s.1 5 4) then
if zy_in ((s.1 5 4) - (1 : Int32)) 128 then
some ((s.1 7 (((s.1 5 4) - (1 : Int32))).toNatClampNeg), (zy_up s 5 4 ((s.1 5 4) - (1 : Int32))))
else none
else
some ((0 : Int32), s)
theorem zyC67 {X : zx_X}      {s : zy_S} {r : Int32} {s' : zy_S}  (h : zyF67 s = some (r, s')) : zyR X 1 67 0 [some (.ref (5 + 3))] [] s (zyE (some (.int r)) s') := by
  unfold zyF67 at h
  refine zy_0 rfl rfl (show zyR _ _ _ _ [some (.ref (5 + 3))] [.ref (5 + 3)] _ _ from ?_)
  refine zy_1 (c := 5) rfl rfl rfl (show zyR _ _ _ _ [some (.ref (5 + 3))] [.int (s.1 5 4)] _ _ from ?_)
  refine zy_24_4 rfl (fun b2 => (show zyR _ _ _ _ [some (.ref (5 + 3))] [] _ _ from ?_)) (fun b2 => (show zyR _ _ _ _ [some (.ref (5 + 3))] [] _ _ from ?_))
  · replace h := zy_ifp h b2
    refine zy_0 rfl rfl (show zyR _ _ _ _ [some (.ref (5 + 3))] [.ref (5 + 3)] _ _ from ?_)
    refine zy_33 rfl rfl (show zyR _ _ _ _ [some (.ref (5 + 3))] [.ref (5 + 3), .ref (5 + 3)] _ _ from ?_)
    refine zy_1 (c := 5) rfl rfl rfl (show zyR _ _ _ _ [some (.ref (5 + 3))] [.int (s.1 5 4), .ref (5 + 3)] _ _ from ?_)
    refine zy_3 rfl rfl (show zyR _ _ _ _ [some (.ref (5 + 3))] [.int (1 : Int32), .int (s.1 5 4), .ref (5 + 3)] _ _ from ?_)
    refine zy_11 rfl (show zyR _ _ _ _ [some (.ref (5 + 3))] [.int ((s.1 5 4) - (1 : Int32)), .ref (5 + 3)] _ _ from ?_)
    refine zy_52 (c := 5) rfl rfl rfl (show zyR _ _ _ _ [some (.ref (5 + 3))] [] _ _ from ?_)
    refine zy_0 rfl rfl (show zyR _ _ _ _ [some (.ref (5 + 3))] [.ref (5 + 3)] _ _ from ?_)
    refine zy_1r (c := 5) rfl rfl rfl (show zyR _ _ _ _ [some (.ref (5 + 3))] [.ref (7 + 3)] _ _ from ?_)
    refine zy_0 rfl rfl (show zyR _ _ _ _ [some (.ref (5 + 3))] [.ref (5 + 3), .ref (7 + 3)] _ _ from ?_)
    refine zy_1 (c := 5) rfl rfl rfl (show zyR _ _ _ _ [some (.ref (5 + 3))] [.int ((s.1 5 4) - (1 : Int32)), .ref (7 + 3)] _ _ from ?_)
    obtain ⟨c1, h⟩ := zy_if h
    refine zy_26 (c := 7) rfl rfl c1 (show zyR _ _ _ _ [some (.ref (5 + 3))] [.int (s.1 7 (((s.1 5 4) - (1 : Int32))).toNatClampNeg)] _ _ from ?_)
    obtain ⟨rfl, rfl⟩ := zy_pi h
    exact zy_4 rfl ⟨rfl, rfl⟩
  · replace h := zy_ifn h b2
    refine zy_3 rfl rfl (show zyR _ _ _ _ [some (.ref (5 + 3))] [.int (0 : Int32)] _ _ from ?_)
    obtain ⟨rfl, rfl⟩ := zy_pi h
    exact zy_4 rfl ⟨rfl, rfl⟩
/-! java/lang/Math.max(II)I -/
noncomputable def zyF69   (x0 : Int32) (x1 : Int32) (s : zy_S) : Option (Int32 × zy_S) :=
if x0 < x1 then
some (x1, s)
else
some (x0, s)
theorem zyC69 {X : zx_X}     {x0 : Int32} {x1 : Int32} {s : zy_S} {r : Int32} {s' : zy_S}  (h : zyF69 x0 x1 s = some (r, s')) : zyR X 1 69 0 [some (.int x0), some (.int x1)] [] s (zyE (some (.int r)) s') := by
  unfold zyF69 at h
  refine zy_2 rfl rfl (show zyR _ _ _ _ [some (.int x0), some (.int x1)] [.int x0] _ _ from ?_)
  refine zy_2 rfl rfl (show zyR _ _ _ _ [some (.int x0), some (.int x1)] [.int x1, .int x0] _ _ from ?_)
  refine zy_25_2 rfl (fun b1 => (show zyR _ _ _ _ [some (.int x0), some (.int x1)] [] _ _ from ?_)) (fun b1 => (show zyR _ _ _ _ [some (.int x0), some (.int x1)] [] _ _ from ?_))
  · replace h := zy_ifp h b1
    refine zy_2 rfl rfl (show zyR _ _ _ _ [some (.int x0), some (.int x1)] [.int x1] _ _ from ?_)
    obtain ⟨rfl, rfl⟩ := zy_pi h
    exact zy_4 rfl ⟨rfl, rfl⟩
  · replace h := zy_ifn h b1
    refine zy_2 rfl rfl (show zyR _ _ _ _ [some (.int x0), some (.int x1)] [.int x0] _ _ from ?_)
    refine zy_6 rfl (show zyR _ _ _ _ [some (.int x0), some (.int x1)] [.int x0] _ _ from ?_)
    obtain ⟨rfl, rfl⟩ := zy_pi h
    exact zy_4 rfl ⟨rfl, rfl⟩
/-! NineOpinions$Law.joined(III)I -/
noncomputable def zyF71   (x0 : Int32) (x1 : Int32) (x2 : Int32) (s : zy_S) : Option (Int32 × zy_S) :=
if x1 = (38 : Int32) then
if x0 = 0 then
some ((0 : Int32), s)
else
if x2 = 0 then
some ((0 : Int32), s)
else
some ((1 : Int32), s)
else
if x1 = (42 : Int32) then
some ((x0 * x2), s)
else
if x1 = (43 : Int32) then
some ((x0 + x2), s)
else
if x1 = (45 : Int32) then
some ((x0 - x2), s)
else
if x1 = (47 : Int32) then
if x2 ≠ 0 then
if ¬ x2 = 0 then
some ((x0 / x2), s)
else none
else
some ((0 : Int32), s)
else
if x1 = (60 : Int32) then
if x2 ≤ x0 then
some ((0 : Int32), s)
else
some ((1 : Int32), s)
else
if x1 = (61 : Int32) then
if x0 ≠ x2 then
some ((0 : Int32), s)
else
some ((1 : Int32), s)
else
if x1 = (62 : Int32) then
if x0 ≤ x2 then
some ((0 : Int32), s)
else
some ((1 : Int32), s)
else
if x1 = (124 : Int32) then
if x0 ≠ 0 then
some ((1 : Int32), s)
else
if x2 = 0 then
some ((0 : Int32), s)
else
some ((1 : Int32), s)
else
if x2 ≠ 0 then
if ¬ x2 = 0 then
some ((x0 - x0 / x2 * x2), s)
else none
else
some ((0 : Int32), s)
theorem zyC71 {X : zx_X}     {x0 : Int32} {x1 : Int32} {x2 : Int32} {s : zy_S} {r : Int32} {s' : zy_S}  (h : zyF71 x0 x1 x2 s = some (r, s')) : zyR X 1 71 0 [some (.int x0), some (.int x1), some (.int x2)] [] s (zyE (some (.int r)) s') := by
  unfold zyF71 at h
  refine zy_2 rfl rfl (show zyR _ _ _ _ [some (.int x0), some (.int x1), some (.int x2)] [.int x1] _ _ from ?_)
  refine zy_51 rfl (by decide) ?_
  refine zy_swp (fun b3 => (show zyR _ _ _ _ [some (.int x0), some (.int x1), some (.int x2)] [] _ _ from ?_)) (fun b3 => ?_)
  · replace h := zy_ifp h b3
    refine zy_2 rfl rfl (show zyR _ _ _ _ [some (.int x0), some (.int x1), some (.int x2)] [.int x0] _ _ from ?_)
    refine zy_24_0 rfl (fun b2 => (show zyR _ _ _ _ [some (.int x0), some (.int x1), some (.int x2)] [] _ _ from ?_)) (fun b2 => (show zyR _ _ _ _ [some (.int x0), some (.int x1), some (.int x2)] [] _ _ from ?_))
    · replace h := zy_ifp h b2
      refine zy_3 rfl rfl (show zyR _ _ _ _ [some (.int x0), some (.int x1), some (.int x2)] [.int (0 : Int32)] _ _ from ?_)
      obtain ⟨rfl, rfl⟩ := zy_pi h
      exact zy_4 rfl ⟨rfl, rfl⟩
    · replace h := zy_ifn h b2
      refine zy_2 rfl rfl (show zyR _ _ _ _ [some (.int x0), some (.int x1), some (.int x2)] [.int x2] _ _ from ?_)
      refine zy_24_0 rfl (fun b1 => (show zyR _ _ _ _ [some (.int x0), some (.int x1), some (.int x2)] [] _ _ from ?_)) (fun b1 => (show zyR _ _ _ _ [some (.int x0), some (.int x1), some (.int x2)] [] _ _ from ?_))
      · replace h := zy_ifp h b1
        refine zy_3 rfl rfl (show zyR _ _ _ _ [some (.int x0), some (.int x1), some (.int x2)] [.int (0 : Int32)] _ _ from ?_)
        obtain ⟨rfl, rfl⟩ := zy_pi h
        exact zy_4 rfl ⟨rfl, rfl⟩
      · replace h := zy_ifn h b1
        refine zy_3 rfl rfl (show zyR _ _ _ _ [some (.int x0), some (.int x1), some (.int x2)] [.int (1 : Int32)] _ _ from ?_)
        refine zy_6 rfl (show zyR _ _ _ _ [some (.int x0), some (.int x1), some (.int x2)] [.int (1 : Int32)] _ _ from ?_)
        obtain ⟨rfl, rfl⟩ := zy_pi h
        exact zy_4 rfl ⟨rfl, rfl⟩
  replace h := zy_ifn h b3
  refine zy_swp (fun b4 => (show zyR _ _ _ _ [some (.int x0), some (.int x1), some (.int x2)] [] _ _ from ?_)) (fun b4 => ?_)
  · replace h := zy_ifp h b4
    refine zy_2 rfl rfl (show zyR _ _ _ _ [some (.int x0), some (.int x1), some (.int x2)] [.int x0] _ _ from ?_)
    refine zy_2 rfl rfl (show zyR _ _ _ _ [some (.int x0), some (.int x1), some (.int x2)] [.int x2, .int x0] _ _ from ?_)
    refine zy_12 rfl (show zyR _ _ _ _ [some (.int x0), some (.int x1), some (.int x2)] [.int (x0 * x2)] _ _ from ?_)
    obtain ⟨rfl, rfl⟩ := zy_pi h
    exact zy_4 rfl ⟨rfl, rfl⟩
  replace h := zy_ifn h b4
  refine zy_swp (fun b5 => (show zyR _ _ _ _ [some (.int x0), some (.int x1), some (.int x2)] [] _ _ from ?_)) (fun b5 => ?_)
  · replace h := zy_ifp h b5
    refine zy_2 rfl rfl (show zyR _ _ _ _ [some (.int x0), some (.int x1), some (.int x2)] [.int x0] _ _ from ?_)
    refine zy_2 rfl rfl (show zyR _ _ _ _ [some (.int x0), some (.int x1), some (.int x2)] [.int x2, .int x0] _ _ from ?_)
    refine zy_10 rfl (show zyR _ _ _ _ [some (.int x0), some (.int x1), some (.int x2)] [.int (x0 + x2)] _ _ from ?_)
    obtain ⟨rfl, rfl⟩ := zy_pi h
    exact zy_4 rfl ⟨rfl, rfl⟩
  replace h := zy_ifn h b5
  refine zy_swp (fun b6 => (show zyR _ _ _ _ [some (.int x0), some (.int x1), some (.int x2)] [] _ _ from ?_)) (fun b6 => ?_)
  · replace h := zy_ifp h b6
    refine zy_2 rfl rfl (show zyR _ _ _ _ [some (.int x0), some (.int x1), some (.int x2)] [.int x0] _ _ from ?_)
    refine zy_2 rfl rfl (show zyR _ _ _ _ [some (.int x0), some (.int x1), some (.int x2)] [.int x2, .int x0] _ _ from ?_)
    refine zy_11 rfl (show zyR _ _ _ _ [some (.int x0), some (.int x1), some (.int x2)] [.int (x0 - x2)] _ _ from ?_)
    obtain ⟨rfl, rfl⟩ := zy_pi h
    exact zy_4 rfl ⟨rfl, rfl⟩
  replace h := zy_ifn h b6
  refine zy_swp (fun b9 => (show zyR _ _ _ _ [some (.int x0), some (.int x1), some (.int x2)] [] _ _ from ?_)) (fun b9 => ?_)
  · replace h := zy_ifp h b9
    refine zy_2 rfl rfl (show zyR _ _ _ _ [some (.int x0), some (.int x1), some (.int x2)] [.int x2] _ _ from ?_)
    refine zy_24_1 rfl (fun b8 => (show zyR _ _ _ _ [some (.int x0), some (.int x1), some (.int x2)] [] _ _ from ?_)) (fun b8 => (show zyR _ _ _ _ [some (.int x0), some (.int x1), some (.int x2)] [] _ _ from ?_))
    · replace h := zy_ifp h b8
      refine zy_2 rfl rfl (show zyR _ _ _ _ [some (.int x0), some (.int x1), some (.int x2)] [.int x0] _ _ from ?_)
      refine zy_2 rfl rfl (show zyR _ _ _ _ [some (.int x0), some (.int x1), some (.int x2)] [.int x2, .int x0] _ _ from ?_)
      obtain ⟨c7, h⟩ := zy_if h
      refine zy_19 rfl c7 (show zyR _ _ _ _ [some (.int x0), some (.int x1), some (.int x2)] [.int (x0 / x2)] _ _ from ?_)
      obtain ⟨rfl, rfl⟩ := zy_pi h
      exact zy_4 rfl ⟨rfl, rfl⟩
    · replace h := zy_ifn h b8
      refine zy_3 rfl rfl (show zyR _ _ _ _ [some (.int x0), some (.int x1), some (.int x2)] [.int (0 : Int32)] _ _ from ?_)
      refine zy_6 rfl (show zyR _ _ _ _ [some (.int x0), some (.int x1), some (.int x2)] [.int (0 : Int32)] _ _ from ?_)
      obtain ⟨rfl, rfl⟩ := zy_pi h
      exact zy_4 rfl ⟨rfl, rfl⟩
  replace h := zy_ifn h b9
  refine zy_swp (fun b11 => (show zyR _ _ _ _ [some (.int x0), some (.int x1), some (.int x2)] [] _ _ from ?_)) (fun b11 => ?_)
  · replace h := zy_ifp h b11
    refine zy_2 rfl rfl (show zyR _ _ _ _ [some (.int x0), some (.int x1), some (.int x2)] [.int x0] _ _ from ?_)
    refine zy_2 rfl rfl (show zyR _ _ _ _ [some (.int x0), some (.int x1), some (.int x2)] [.int x2, .int x0] _ _ from ?_)
    refine zy_25_3 rfl (fun b10 => (show zyR _ _ _ _ [some (.int x0), some (.int x1), some (.int x2)] [] _ _ from ?_)) (fun b10 => (show zyR _ _ _ _ [some (.int x0), some (.int x1), some (.int x2)] [] _ _ from ?_))
    · replace h := zy_ifp h b10
      refine zy_3 rfl rfl (show zyR _ _ _ _ [some (.int x0), some (.int x1), some (.int x2)] [.int (0 : Int32)] _ _ from ?_)
      obtain ⟨rfl, rfl⟩ := zy_pi h
      exact zy_4 rfl ⟨rfl, rfl⟩
    · replace h := zy_ifn h b10
      refine zy_3 rfl rfl (show zyR _ _ _ _ [some (.int x0), some (.int x1), some (.int x2)] [.int (1 : Int32)] _ _ from ?_)
      refine zy_6 rfl (show zyR _ _ _ _ [some (.int x0), some (.int x1), some (.int x2)] [.int (1 : Int32)] _ _ from ?_)
      obtain ⟨rfl, rfl⟩ := zy_pi h
      exact zy_4 rfl ⟨rfl, rfl⟩
  replace h := zy_ifn h b11
  refine zy_swp (fun b13 => (show zyR _ _ _ _ [some (.int x0), some (.int x1), some (.int x2)] [] _ _ from ?_)) (fun b13 => ?_)
  · replace h := zy_ifp h b13
    refine zy_2 rfl rfl (show zyR _ _ _ _ [some (.int x0), some (.int x1), some (.int x2)] [.int x0] _ _ from ?_)
    refine zy_2 rfl rfl (show zyR _ _ _ _ [some (.int x0), some (.int x1), some (.int x2)] [.int x2, .int x0] _ _ from ?_)
    refine zy_25_1 rfl (fun b12 => (show zyR _ _ _ _ [some (.int x0), some (.int x1), some (.int x2)] [] _ _ from ?_)) (fun b12 => (show zyR _ _ _ _ [some (.int x0), some (.int x1), some (.int x2)] [] _ _ from ?_))
    · replace h := zy_ifp h b12
      refine zy_3 rfl rfl (show zyR _ _ _ _ [some (.int x0), some (.int x1), some (.int x2)] [.int (0 : Int32)] _ _ from ?_)
      obtain ⟨rfl, rfl⟩ := zy_pi h
      exact zy_4 rfl ⟨rfl, rfl⟩
    · replace h := zy_ifn h b12
      refine zy_3 rfl rfl (show zyR _ _ _ _ [some (.int x0), some (.int x1), some (.int x2)] [.int (1 : Int32)] _ _ from ?_)
      refine zy_6 rfl (show zyR _ _ _ _ [some (.int x0), some (.int x1), some (.int x2)] [.int (1 : Int32)] _ _ from ?_)
      obtain ⟨rfl, rfl⟩ := zy_pi h
      exact zy_4 rfl ⟨rfl, rfl⟩
  replace h := zy_ifn h b13
  refine zy_swp (fun b15 => (show zyR _ _ _ _ [some (.int x0), some (.int x1), some (.int x2)] [] _ _ from ?_)) (fun b15 => ?_)
  · replace h := zy_ifp h b15
    refine zy_2 rfl rfl (show zyR _ _ _ _ [some (.int x0), some (.int x1), some (.int x2)] [.int x0] _ _ from ?_)
    refine zy_2 rfl rfl (show zyR _ _ _ _ [some (.int x0), some (.int x1), some (.int x2)] [.int x2, .int x0] _ _ from ?_)
    refine zy_25_5 rfl (fun b14 => (show zyR _ _ _ _ [some (.int x0), some (.int x1), some (.int x2)] [] _ _ from ?_)) (fun b14 => (show zyR _ _ _ _ [some (.int x0), some (.int x1), some (.int x2)] [] _ _ from ?_))
    · replace h := zy_ifp h b14
      refine zy_3 rfl rfl (show zyR _ _ _ _ [some (.int x0), some (.int x1), some (.int x2)] [.int (0 : Int32)] _ _ from ?_)
      obtain ⟨rfl, rfl⟩ := zy_pi h
      exact zy_4 rfl ⟨rfl, rfl⟩
    · replace h := zy_ifn h b14
      refine zy_3 rfl rfl (show zyR _ _ _ _ [some (.int x0), some (.int x1), some (.int x2)] [.int (1 : Int32)] _ _ from ?_)
      refine zy_6 rfl (show zyR _ _ _ _ [some (.int x0), some (.int x1), some (.int x2)] [.int (1 : Int32)] _ _ from ?_)
      obtain ⟨rfl, rfl⟩ := zy_pi h
      exact zy_4 rfl ⟨rfl, rfl⟩
  replace h := zy_ifn h b15
  refine zy_swp (fun b18 => (show zyR _ _ _ _ [some (.int x0), some (.int x1), some (.int x2)] [] _ _ from ?_)) (fun b18 => ?_)
  · replace h := zy_ifp h b18
    refine zy_2 rfl rfl (show zyR _ _ _ _ [some (.int x0), some (.int x1), some (.int x2)] [.int x0] _ _ from ?_)
    refine zy_24_1 rfl (fun b17 => (show zyR _ _ _ _ [some (.int x0), some (.int x1), some (.int x2)] [] _ _ from ?_)) (fun b17 => (show zyR _ _ _ _ [some (.int x0), some (.int x1), some (.int x2)] [] _ _ from ?_))
    · replace h := zy_ifp h b17
      refine zy_3 rfl rfl (show zyR _ _ _ _ [some (.int x0), some (.int x1), some (.int x2)] [.int (1 : Int32)] _ _ from ?_)
      refine zy_6 rfl (show zyR _ _ _ _ [some (.int x0), some (.int x1), some (.int x2)] [.int (1 : Int32)] _ _ from ?_)
      obtain ⟨rfl, rfl⟩ := zy_pi h
      exact zy_4 rfl ⟨rfl, rfl⟩
    · replace h := zy_ifn h b17
      refine zy_2 rfl rfl (show zyR _ _ _ _ [some (.int x0), some (.int x1), some (.int x2)] [.int x2] _ _ from ?_)
      refine zy_24_0 rfl (fun b16 => (show zyR _ _ _ _ [some (.int x0), some (.int x1), some (.int x2)] [] _ _ from ?_)) (fun b16 => (show zyR _ _ _ _ [some (.int x0), some (.int x1), some (.int x2)] [] _ _ from ?_))
      · replace h := zy_ifp h b16
        refine zy_3 rfl rfl (show zyR _ _ _ _ [some (.int x0), some (.int x1), some (.int x2)] [.int (0 : Int32)] _ _ from ?_)
        obtain ⟨rfl, rfl⟩ := zy_pi h
        exact zy_4 rfl ⟨rfl, rfl⟩
      · replace h := zy_ifn h b16
        refine zy_3 rfl rfl (show zyR _ _ _ _ [some (.int x0), some (.int x1), some (.int x2)] [.int (1 : Int32)] _ _ from ?_)
        refine zy_6 rfl (show zyR _ _ _ _ [some (.int x0), some (.int x1), some (.int x2)] [.int (1 : Int32)] _ _ from ?_)
        obtain ⟨rfl, rfl⟩ := zy_pi h
        exact zy_4 rfl ⟨rfl, rfl⟩
  replace h := zy_ifn h b18
  show zyR _ _ _ _ [some (.int x0), some (.int x1), some (.int x2)] [] _ _
  refine zy_2 rfl rfl (show zyR _ _ _ _ [some (.int x0), some (.int x1), some (.int x2)] [.int x2] _ _ from ?_)
  refine zy_24_1 rfl (fun b20 => (show zyR _ _ _ _ [some (.int x0), some (.int x1), some (.int x2)] [] _ _ from ?_)) (fun b20 => (show zyR _ _ _ _ [some (.int x0), some (.int x1), some (.int x2)] [] _ _ from ?_))
  · replace h := zy_ifp h b20
    refine zy_2 rfl rfl (show zyR _ _ _ _ [some (.int x0), some (.int x1), some (.int x2)] [.int x0] _ _ from ?_)
    refine zy_2 rfl rfl (show zyR _ _ _ _ [some (.int x0), some (.int x1), some (.int x2)] [.int x2, .int x0] _ _ from ?_)
    obtain ⟨c19, h⟩ := zy_if h
    refine zy_20 rfl c19 (show zyR _ _ _ _ [some (.int x0), some (.int x1), some (.int x2)] [.int (x0 - x0 / x2 * x2)] _ _ from ?_)
    obtain ⟨rfl, rfl⟩ := zy_pi h
    exact zy_4 rfl ⟨rfl, rfl⟩
  · replace h := zy_ifn h b20
    refine zy_3 rfl rfl (show zyR _ _ _ _ [some (.int x0), some (.int x1), some (.int x2)] [.int (0 : Int32)] _ _ from ?_)
    refine zy_6 rfl (show zyR _ _ _ _ [some (.int x0), some (.int x1), some (.int x2)] [.int (0 : Int32)] _ _ from ?_)
    obtain ⟨rfl, rfl⟩ := zy_pi h
    exact zy_4 rfl ⟨rfl, rfl⟩
/-! NineOpinions$Law.worked(II)I -/
noncomputable def zyF70   (x1 : Int32) (x2 : Int32) (s : zy_S) : Option (Int32 × zy_S) :=
if x1 = (33 : Int32) then
if x2 ≠ 0 then
some ((0 : Int32), s)
else
some ((1 : Int32), s)
else
if x1 = (126 : Int32) then
some ((-x2), s)
else
(zyF67 s).bind fun p4 =>
(zyF71 p4.1 x1 x2 p4.2).bind fun p5 =>
some (p5.1, p5.2)
theorem zyC70 {X : zx_X}     {x1 : Int32} {x2 : Int32} {s : zy_S} {r : Int32} {s' : zy_S}  (h : zyF70 x1 x2 s = some (r, s')) : zyR X 2 70 0 [some (.ref (5 + 3)), some (.int x1), some (.int x2)] [] s (zyE (some (.int r)) s') := by
  unfold zyF70 at h
  refine zy_2 rfl rfl (show zyR _ _ _ _ [some (.ref (5 + 3)), some (.int x1), some (.int x2)] [.int x1] _ _ from ?_)
  refine zy_51 rfl (by decide) ?_
  refine zy_swp (fun b2 => (show zyR _ _ _ _ [some (.ref (5 + 3)), some (.int x1), some (.int x2)] [] _ _ from ?_)) (fun b2 => ?_)
  · replace h := zy_ifp h b2
    refine zy_2 rfl rfl (show zyR _ _ _ _ [some (.ref (5 + 3)), some (.int x1), some (.int x2)] [.int x2] _ _ from ?_)
    refine zy_24_1 rfl (fun b1 => (show zyR _ _ _ _ [some (.ref (5 + 3)), some (.int x1), some (.int x2)] [] _ _ from ?_)) (fun b1 => (show zyR _ _ _ _ [some (.ref (5 + 3)), some (.int x1), some (.int x2)] [] _ _ from ?_))
    · replace h := zy_ifp h b1
      refine zy_3 rfl rfl (show zyR _ _ _ _ [some (.ref (5 + 3)), some (.int x1), some (.int x2)] [.int (0 : Int32)] _ _ from ?_)
      obtain ⟨rfl, rfl⟩ := zy_pi h
      exact zy_4 rfl ⟨rfl, rfl⟩
    · replace h := zy_ifn h b1
      refine zy_3 rfl rfl (show zyR _ _ _ _ [some (.ref (5 + 3)), some (.int x1), some (.int x2)] [.int (1 : Int32)] _ _ from ?_)
      refine zy_6 rfl (show zyR _ _ _ _ [some (.ref (5 + 3)), some (.int x1), some (.int x2)] [.int (1 : Int32)] _ _ from ?_)
      obtain ⟨rfl, rfl⟩ := zy_pi h
      exact zy_4 rfl ⟨rfl, rfl⟩
  replace h := zy_ifn h b2
  refine zy_swp (fun b3 => (show zyR _ _ _ _ [some (.ref (5 + 3)), some (.int x1), some (.int x2)] [] _ _ from ?_)) (fun b3 => ?_)
  · replace h := zy_ifp h b3
    refine zy_2 rfl rfl (show zyR _ _ _ _ [some (.ref (5 + 3)), some (.int x1), some (.int x2)] [.int x2] _ _ from ?_)
    refine zy_21 rfl (show zyR _ _ _ _ [some (.ref (5 + 3)), some (.int x1), some (.int x2)] [.int (-x2)] _ _ from ?_)
    obtain ⟨rfl, rfl⟩ := zy_pi h
    exact zy_4 rfl ⟨rfl, rfl⟩
  replace h := zy_ifn h b3
  show zyR _ _ _ _ [some (.ref (5 + 3)), some (.int x1), some (.int x2)] [] _ _
  refine zy_0 rfl rfl (show zyR _ _ _ _ [some (.ref (5 + 3)), some (.int x1), some (.int x2)] [.ref (5 + 3)] _ _ from ?_)
  obtain ⟨p4, hp4, h⟩ := zy_bind h
  refine zy_5 (c := 5) (as := []) (rest := []) (L := [some (.ref (5 + 3))]) (d' := 1) rfl rfl rfl (Nat.le_of_ble_eq_true rfl) (Nat.le_of_ble_eq_true rfl) rfl (Nat.le_of_ble_eq_true rfl) rfl rfl (zyC67 hp4) ?_
  show zyR _ _ _ _ [some (.ref (5 + 3)), some (.int x1), some (.int x2)] [.int p4.1] _ _
  refine zy_2 rfl rfl (show zyR _ _ _ _ [some (.ref (5 + 3)), some (.int x1), some (.int x2)] [.int x1, .int p4.1] _ _ from ?_)
  refine zy_2 rfl rfl (show zyR _ _ _ _ [some (.ref (5 + 3)), some (.int x1), some (.int x2)] [.int x2, .int x1, .int p4.1] _ _ from ?_)
  obtain ⟨p5, hp5, h⟩ := zy_bind h
  refine zy_60 (as := [.int p4.1, .int x1, .int x2]) (rest := []) (L := [some (.int p4.1), some (.int x1), some (.int x2)]) (d' := 1) rfl rfl (Nat.le_of_ble_eq_true rfl) (Nat.le_of_ble_eq_true rfl) rfl (Nat.le_of_ble_eq_true rfl) rfl rfl (zyC71 hp5) ?_
  show zyR _ _ _ _ [some (.ref (5 + 3)), some (.int x1), some (.int x2)] [.int p5.1] _ _
  obtain ⟨rfl, rfl⟩ := zy_pi h
  exact zy_4 rfl ⟨rfl, rfl⟩
