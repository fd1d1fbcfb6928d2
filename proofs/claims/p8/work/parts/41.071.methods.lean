/-! PART 41.71: methods as functions. Made by wip/v4/dcp.py. -/
/-! NineOpinions$Tape.nameOf(I)I -/
noncomputable def zyF45   (x0 : Int32) (s : zy_S) : Option (Int32 × zy_S) :=
if x0 = (100 : Int32) then
some ((0 : Int32), s)
else
if x0 = (101 : Int32) then
some ((-1 : Int32), s)
else
if x0 = (102 : Int32) then
some ((-1 : Int32), s)
else
if x0 = (103 : Int32) then
some ((-1 : Int32), s)
else
if x0 = (104 : Int32) then
some ((-1 : Int32), s)
else
if x0 = (105 : Int32) then
some ((-1 : Int32), s)
else
if x0 = (106 : Int32) then
some ((-1 : Int32), s)
else
if x0 = (107 : Int32) then
some ((4 : Int32), s)
else
if x0 = (108 : Int32) then
some ((-1 : Int32), s)
else
if x0 = (109 : Int32) then
some ((2 : Int32), s)
else
if x0 = (110 : Int32) then
some ((-1 : Int32), s)
else
if x0 = (111 : Int32) then
some ((-1 : Int32), s)
else
if x0 = (112 : Int32) then
some ((-1 : Int32), s)
else
if x0 = (113 : Int32) then
some ((-1 : Int32), s)
else
if x0 = (114 : Int32) then
some ((-1 : Int32), s)
else
if x0 = (115 : Int32) then
some ((1 : Int32), s)
else
if x0 = (116 : Int32) then
some ((-1 : Int32), s)
else
if x0 = (117 : Int32) then
some ((-1 : Int32), s)
else
if x0 = (118 : Int32) then
some ((5 : Int32), s)
else
if x0 = (119 : Int32) then
some ((3 : Int32), s)
else
some ((-1 : Int32), s)
theorem zyC45 {X : zx_X}     {x0 : Int32} {s : zy_S} {r : Int32} {s' : zy_S}  (h : zyF45 x0 s = some (r, s')) : zyR X 1 45 0 [some (.int x0)] [] s (zyE (some (.int r)) s') := by
  unfold zyF45 at h
  refine zy_2 rfl rfl (show zyR _ _ _ _ [some (.int x0)] [.int x0] _ _ from ?_)
  refine zy_50 rfl (by decide) ?_
  refine zy_swp (fun b1 => (show zyR _ _ _ _ [some (.int x0)] [] _ _ from ?_)) (fun b1 => ?_)
  · replace h := zy_ifp h b1
    refine zy_3 rfl rfl (show zyR _ _ _ _ [some (.int x0)] [.int (0 : Int32)] _ _ from ?_)
    obtain ⟨rfl, rfl⟩ := zy_pi h
    exact zy_4 rfl ⟨rfl, rfl⟩
  replace h := zy_ifn h b1
  refine zy_swp (fun b2 => (show zyR _ _ _ _ [some (.int x0)] [] _ _ from ?_)) (fun b2 => ?_)
  · replace h := zy_ifp h b2
    refine zy_3 rfl rfl (show zyR _ _ _ _ [some (.int x0)] [.int (-1 : Int32)] _ _ from ?_)
    obtain ⟨rfl, rfl⟩ := zy_pi h
    exact zy_4 rfl ⟨rfl, rfl⟩
  replace h := zy_ifn h b2
  refine zy_swp (fun b3 => (show zyR _ _ _ _ [some (.int x0)] [] _ _ from ?_)) (fun b3 => ?_)
  · replace h := zy_ifp h b3
    refine zy_3 rfl rfl (show zyR _ _ _ _ [some (.int x0)] [.int (-1 : Int32)] _ _ from ?_)
    obtain ⟨rfl, rfl⟩ := zy_pi h
    exact zy_4 rfl ⟨rfl, rfl⟩
  replace h := zy_ifn h b3
  refine zy_swp (fun b4 => (show zyR _ _ _ _ [some (.int x0)] [] _ _ from ?_)) (fun b4 => ?_)
  · replace h := zy_ifp h b4
    refine zy_3 rfl rfl (show zyR _ _ _ _ [some (.int x0)] [.int (-1 : Int32)] _ _ from ?_)
    obtain ⟨rfl, rfl⟩ := zy_pi h
    exact zy_4 rfl ⟨rfl, rfl⟩
  replace h := zy_ifn h b4
  refine zy_swp (fun b5 => (show zyR _ _ _ _ [some (.int x0)] [] _ _ from ?_)) (fun b5 => ?_)
  · replace h := zy_ifp h b5
    refine zy_3 rfl rfl (show zyR _ _ _ _ [some (.int x0)] [.int (-1 : Int32)] _ _ from ?_)
    obtain ⟨rfl, rfl⟩ := zy_pi h
    exact zy_4 rfl ⟨rfl, rfl⟩
  replace h := zy_ifn h b5
  refine zy_swp (fun b6 => (show zyR _ _ _ _ [some (.int x0)] [] _ _ from ?_)) (fun b6 => ?_)
  · replace h := zy_ifp h b6
    refine zy_3 rfl rfl (show zyR _ _ _ _ [some (.int x0)] [.int (-1 : Int32)] _ _ from ?_)
    obtain ⟨rfl, rfl⟩ := zy_pi h
    exact zy_4 rfl ⟨rfl, rfl⟩
  replace h := zy_ifn h b6
  refine zy_swp (fun b7 => (show zyR _ _ _ _ [some (.int x0)] [] _ _ from ?_)) (fun b7 => ?_)
  · replace h := zy_ifp h b7
    refine zy_3 rfl rfl (show zyR _ _ _ _ [some (.int x0)] [.int (-1 : Int32)] _ _ from ?_)
    obtain ⟨rfl, rfl⟩ := zy_pi h
    exact zy_4 rfl ⟨rfl, rfl⟩
  replace h := zy_ifn h b7
  refine zy_swp (fun b8 => (show zyR _ _ _ _ [some (.int x0)] [] _ _ from ?_)) (fun b8 => ?_)
  · replace h := zy_ifp h b8
    refine zy_3 rfl rfl (show zyR _ _ _ _ [some (.int x0)] [.int (4 : Int32)] _ _ from ?_)
    obtain ⟨rfl, rfl⟩ := zy_pi h
    exact zy_4 rfl ⟨rfl, rfl⟩
  replace h := zy_ifn h b8
  refine zy_swp (fun b9 => (show zyR _ _ _ _ [some (.int x0)] [] _ _ from ?_)) (fun b9 => ?_)
  · replace h := zy_ifp h b9
    refine zy_3 rfl rfl (show zyR _ _ _ _ [some (.int x0)] [.int (-1 : Int32)] _ _ from ?_)
    obtain ⟨rfl, rfl⟩ := zy_pi h
    exact zy_4 rfl ⟨rfl, rfl⟩
  replace h := zy_ifn h b9
  refine zy_swp (fun b10 => (show zyR _ _ _ _ [some (.int x0)] [] _ _ from ?_)) (fun b10 => ?_)
  · replace h := zy_ifp h b10
    refine zy_3 rfl rfl (show zyR _ _ _ _ [some (.int x0)] [.int (2 : Int32)] _ _ from ?_)
    obtain ⟨rfl, rfl⟩ := zy_pi h
    exact zy_4 rfl ⟨rfl, rfl⟩
  replace h := zy_ifn h b10
  refine zy_swp (fun b11 => (show zyR _ _ _ _ [some (.int x0)] [] _ _ from ?_)) (fun b11 => ?_)
  · replace h := zy_ifp h b11
    refine zy_3 rfl rfl (show zyR _ _ _ _ [some (.int x0)] [.int (-1 : Int32)] _ _ from ?_)
    obtain ⟨rfl, rfl⟩ := zy_pi h
    exact zy_4 rfl ⟨rfl, rfl⟩
  replace h := zy_ifn h b11
  refine zy_swp (fun b12 => (show zyR _ _ _ _ [some (.int x0)] [] _ _ from ?_)) (fun b12 => ?_)
  · replace h := zy_ifp h b12
    refine zy_3 rfl rfl (show zyR _ _ _ _ [some (.int x0)] [.int (-1 : Int32)] _ _ from ?_)
    obtain ⟨rfl, rfl⟩ := zy_pi h
    exact zy_4 rfl ⟨rfl, rfl⟩
  replace h := zy_ifn h b12
  refine zy_swp (fun b13 => (show zyR _ _ _ _ [some (.int x0)] [] _ _ from ?_)) (fun b13 => ?_)
  · replace h := zy_ifp h b13
    refine zy_3 rfl rfl (show zyR _ _ _ _ [some (.int x0)] [.int (-1 : Int32)] _ _ from ?_)
    obtain ⟨rfl, rfl⟩ := zy_pi h
    exact zy_4 rfl ⟨rfl, rfl⟩
  replace h := zy_ifn h b13
  refine zy_swp (fun b14 => (show zyR _ _ _ _ [some (.int x0)] [] _ _ from ?_)) (fun b14 => ?_)
  · replace h := zy_ifp h b14
    refine zy_3 rfl rfl (show zyR _ _ _ _ [some (.int x0)] [.int (-1 : Int32)] _ _ from ?_)
    obtain ⟨rfl, rfl⟩ := zy_pi h
    exact zy_4 rfl ⟨rfl, rfl⟩
  replace h := zy_ifn h b14
  refine zy_swp (fun b15 => (show zyR _ _ _ _ [some (.int x0)] [] _ _ from ?_)) (fun b15 => ?_)
  · replace h := zy_ifp h b15
    refine zy_3 rfl rfl (show zyR _ _ _ _ [some (.int x0)] [.int (-1 : Int32)] _ _ from ?_)
    obtain ⟨rfl, rfl⟩ := zy_pi h
    exact zy_4 rfl ⟨rfl, rfl⟩
  replace h := zy_ifn h b15
  refine zy_swp (fun b16 => (show zyR _ _ _ _ [some (.int x0)] [] _ _ from ?_)) (fun b16 => ?_)
  · replace h := zy_ifp h b16
    refine zy_3 rfl rfl (show zyR _ _ _ _ [some (.int x0)] [.int (1 : Int32)] _ _ from ?_)
    obtain ⟨rfl, rfl⟩ := zy_pi h
    exact zy_4 rfl ⟨rfl, rfl⟩
  replace h := zy_ifn h b16
  refine zy_swp (fun b17 => (show zyR _ _ _ _ [some (.int x0)] [] _ _ from ?_)) (fun b17 => ?_)
  · replace h := zy_ifp h b17
    refine zy_3 rfl rfl (show zyR _ _ _ _ [some (.int x0)] [.int (-1 : Int32)] _ _ from ?_)
    obtain ⟨rfl, rfl⟩ := zy_pi h
    exact zy_4 rfl ⟨rfl, rfl⟩
  replace h := zy_ifn h b17
  refine zy_swp (fun b18 => (show zyR _ _ _ _ [some (.int x0)] [] _ _ from ?_)) (fun b18 => ?_)
  · replace h := zy_ifp h b18
    refine zy_3 rfl rfl (show zyR _ _ _ _ [some (.int x0)] [.int (-1 : Int32)] _ _ from ?_)
    obtain ⟨rfl, rfl⟩ := zy_pi h
    exact zy_4 rfl ⟨rfl, rfl⟩
  replace h := zy_ifn h b18
  refine zy_swp (fun b19 => (show zyR _ _ _ _ [some (.int x0)] [] _ _ from ?_)) (fun b19 => ?_)
  · replace h := zy_ifp h b19
    refine zy_3 rfl rfl (show zyR _ _ _ _ [some (.int x0)] [.int (5 : Int32)] _ _ from ?_)
    obtain ⟨rfl, rfl⟩ := zy_pi h
    exact zy_4 rfl ⟨rfl, rfl⟩
  replace h := zy_ifn h b19
  refine zy_swp (fun b20 => (show zyR _ _ _ _ [some (.int x0)] [] _ _ from ?_)) (fun b20 => ?_)
  · replace h := zy_ifp h b20
    refine zy_3 rfl rfl (show zyR _ _ _ _ [some (.int x0)] [.int (3 : Int32)] _ _ from ?_)
    obtain ⟨rfl, rfl⟩ := zy_pi h
    exact zy_4 rfl ⟨rfl, rfl⟩
  replace h := zy_ifn h b20
  show zyR _ _ _ _ [some (.int x0)] [] _ _
  refine zy_3 rfl rfl (show zyR _ _ _ _ [some (.int x0)] [.int (-1 : Int32)] _ _ from ?_)
  obtain ⟨rfl, rfl⟩ := zy_pi h
  exact zy_4 rfl ⟨rfl, rfl⟩
/-! NineOpinions$Tape.goesOnWith(C)Z -/
noncomputable def zyF46_35   (x2 : Int32) (y0 : Int32) (y1 : Int32) (s : zy_S) : Option (Int32 × zy_S) :=
if x2 = 0 ∨ x2 = 1 then
some (x2, (zy_up s 9 4 (y1 + y0)))
else none
theorem zyC46_35 {X : zx_X}     {x2 : Int32} {y0 : Int32} {y1 : Int32} {s : zy_S} {r : Int32} {s' : zy_S}  (h : zyF46_35 x2 y0 y1 s = some (r, s')) : zyR X 2 46 35 [none, none, some (.int x2)] [.int y0, .int y1, .ref (9 + 3)] s (zyE (some (.int r)) s') := by
  unfold zyF46_35 at h
  refine zy_10 rfl (show zyR _ _ _ _ [none, none, some (.int x2)] [.int (y1 + y0), .ref (9 + 3)] _ _ from ?_)
  refine zy_52 (c := 9) rfl rfl rfl (show zyR _ _ _ _ [none, none, some (.int x2)] [] _ _ from ?_)
  refine zy_2 rfl rfl (show zyR _ _ _ _ [none, none, some (.int x2)] [.int x2] _ _ from ?_)
  obtain ⟨c1, h⟩ := zy_if h
  cases h
  exact zy_4b rfl ⟨rfl, rfl⟩ c1
noncomputable def zyF46_20   (y0 : Int32) (s : zy_S) : Option (Int32 × zy_S) :=
if y0 = 0 then
zyF46_35 y0 (0 : Int32) (s.1 9 4) s
else
zyF46_35 y0 (1 : Int32) (s.1 9 4) s
theorem zyC46_20 {X : zx_X}     {y0 : Int32} {s : zy_S} {r : Int32} {s' : zy_S}  (h : zyF46_20 y0 s = some (r, s')) : zyR X 2 46 20 [some (.ref (9 + 3)), none, none] [.int y0] s (zyE (some (.int r)) s') := by
  unfold zyF46_20 at h
  refine zy_23 rfl rfl (show zyR _ _ _ _ [some (.ref (9 + 3)), none, some (.int y0)] [] _ _ from ?_)
  refine zy_0 rfl rfl (show zyR _ _ _ _ [some (.ref (9 + 3)), none, some (.int y0)] [.ref (9 + 3)] _ _ from ?_)
  refine zy_33 rfl rfl (show zyR _ _ _ _ [some (.ref (9 + 3)), none, some (.int y0)] [.ref (9 + 3), .ref (9 + 3)] _ _ from ?_)
  refine zy_1 (c := 9) rfl rfl rfl (show zyR _ _ _ _ [some (.ref (9 + 3)), none, some (.int y0)] [.int (s.1 9 4), .ref (9 + 3)] _ _ from ?_)
  refine zy_2 rfl rfl (show zyR _ _ _ _ [some (.ref (9 + 3)), none, some (.int y0)] [.int y0, .int (s.1 9 4), .ref (9 + 3)] _ _ from ?_)
  refine zy_24_0 rfl (fun b2 => (show zyR _ _ _ _ [some (.ref (9 + 3)), none, some (.int y0)] [.int (s.1 9 4), .ref (9 + 3)] _ _ from ?_)) (fun b2 => (show zyR _ _ _ _ [some (.ref (9 + 3)), none, some (.int y0)] [.int (s.1 9 4), .ref (9 + 3)] _ _ from ?_))
  · replace h := zy_ifp h b2
    refine zy_3 rfl rfl (show zyR _ _ _ _ [some (.ref (9 + 3)), none, some (.int y0)] [.int (0 : Int32), .int (s.1 9 4), .ref (9 + 3)] _ _ from ?_)
    exact zy_sub (show zy_le [none, none, some (.int y0)] [some (.ref (9 + 3)), none, some (.int y0)] from ⟨rfl, trivial⟩) (zyC46_35 h)
  · replace h := zy_ifn h b2
    refine zy_3 rfl rfl (show zyR _ _ _ _ [some (.ref (9 + 3)), none, some (.int y0)] [.int (1 : Int32), .int (s.1 9 4), .ref (9 + 3)] _ _ from ?_)
    refine zy_6 rfl (show zyR _ _ _ _ [some (.ref (9 + 3)), none, some (.int y0)] [.int (1 : Int32), .int (s.1 9 4), .ref (9 + 3)] _ _ from ?_)
    exact zy_sub (show zy_le [none, none, some (.int y0)] [some (.ref (9 + 3)), none, some (.int y0)] from ⟨rfl, trivial⟩) (zyC46_35 h)
noncomputable def zyF46_19    (s : zy_S) : Option (Int32 × zy_S) :=
zyF46_20 (0 : Int32) s
theorem zyC46_19 {X : zx_X}      {s : zy_S} {r : Int32} {s' : zy_S}  (h : zyF46_19 s = some (r, s')) : zyR X 2 46 19 [some (.ref (9 + 3)), none, none] [] s (zyE (some (.int r)) s') := by
  unfold zyF46_19 at h
  refine zy_3 rfl rfl (show zyR _ _ _ _ [some (.ref (9 + 3)), none, none] [.int (0 : Int32)] _ _ from ?_)
  exact zy_sub (show zy_le [some (.ref (9 + 3)), none, none] [some (.ref (9 + 3)), none, none] from ⟨rfl, trivial⟩) (zyC46_20 h)
noncomputable def zyF46   (x1 : Int32) (s : zy_S) : Option (Int32 × zy_S) :=
if (s.1 9 5) ≠ 0 then
zyF46_19 s
else
(zyF41 s).bind fun p3 =>
if p3.1 ≠ x1 then
zyF46_19 p3.2
else
zyF46_20 (1 : Int32) p3.2
theorem zyC46 {X : zx_X}     {x1 : Int32} {s : zy_S} {r : Int32} {s' : zy_S}  (h : zyF46 x1 s = some (r, s')) : zyR X 2 46 0 [some (.ref (9 + 3)), some (.int x1), none] [] s (zyE (some (.int r)) s') := by
  unfold zyF46 at h
  refine zy_0 rfl rfl (show zyR _ _ _ _ [some (.ref (9 + 3)), some (.int x1), none] [.ref (9 + 3)] _ _ from ?_)
  refine zy_1 (c := 9) rfl rfl rfl (show zyR _ _ _ _ [some (.ref (9 + 3)), some (.int x1), none] [.int (s.1 9 5)] _ _ from ?_)
  refine zy_24_1 rfl (fun b5 => (show zyR _ _ _ _ [some (.ref (9 + 3)), some (.int x1), none] [] _ _ from ?_)) (fun b5 => (show zyR _ _ _ _ [some (.ref (9 + 3)), some (.int x1), none] [] _ _ from ?_))
  · replace h := zy_ifp h b5
    exact zy_sub (show zy_le [some (.ref (9 + 3)), none, none] [some (.ref (9 + 3)), some (.int x1), none] from ⟨rfl, trivial⟩) (zyC46_19 h)
  · replace h := zy_ifn h b5
    refine zy_0 rfl rfl (show zyR _ _ _ _ [some (.ref (9 + 3)), some (.int x1), none] [.ref (9 + 3)] _ _ from ?_)
    obtain ⟨p3, hp3, h⟩ := zy_bind h
    refine zy_5 (c := 9) (as := []) (rest := []) (L := [some (.ref (9 + 3))]) (d' := 1) rfl rfl rfl (Nat.le_of_ble_eq_true rfl) (Nat.le_of_ble_eq_true rfl) rfl (Nat.le_of_ble_eq_true rfl) rfl rfl (zyC41 hp3) ?_
    show zyR _ _ _ _ [some (.ref (9 + 3)), some (.int x1), none] [.int p3.1] _ _
    refine zy_2 rfl rfl (show zyR _ _ _ _ [some (.ref (9 + 3)), some (.int x1), none] [.int x1, .int p3.1] _ _ from ?_)
    refine zy_25_1 rfl (fun b4 => (show zyR _ _ _ _ [some (.ref (9 + 3)), some (.int x1), none] [] _ _ from ?_)) (fun b4 => (show zyR _ _ _ _ [some (.ref (9 + 3)), some (.int x1), none] [] _ _ from ?_))
    · replace h := zy_ifp h b4
      exact zy_sub (show zy_le [some (.ref (9 + 3)), none, none] [some (.ref (9 + 3)), some (.int x1), none] from ⟨rfl, trivial⟩) (zyC46_19 h)
    · replace h := zy_ifn h b4
      refine zy_3 rfl rfl (show zyR _ _ _ _ [some (.ref (9 + 3)), some (.int x1), none] [.int (1 : Int32)] _ _ from ?_)
      refine zy_6 rfl (show zyR _ _ _ _ [some (.ref (9 + 3)), some (.int x1), none] [.int (1 : Int32)] _ _ from ?_)
      exact zy_sub (show zy_le [some (.ref (9 + 3)), none, none] [some (.ref (9 + 3)), some (.int x1), none] from ⟨rfl, trivial⟩) (zyC46_20 h)
