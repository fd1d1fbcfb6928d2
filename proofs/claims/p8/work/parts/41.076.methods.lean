/-! PART 41.76: methods as functions. Made by wip/v4/dcp.py. -/
/-! NineOpinionsModel.nameOf(I)I -/
noncomputable def zyF201   (x0 : Int32) (s : zy_S) : Option (Int32 × zy_S) :=
if x0 = (100 : Int32) then
some ((0 : Int32), s)
else
if x0 = (101 : Int32) then
some ((-1 : Int32), s)
else
if x0 = (102 : Int32) then
some ((-1 : Int32), s)
else
if x0 = (103 : Int32) then
some ((-1 : Int32), s)
else
if x0 = (104 : Int32) then
some ((-1 : Int32), s)
else
if x0 = (105 : Int32) then
some ((-1 : Int32), s)
else
if x0 = (106 : Int32) then
some ((-1 : Int32), s)
else
if x0 = (107 : Int32) then
some ((4 : Int32), s)
else
if x0 = (108 : Int32) then
some ((-1 : Int32), s)
else
if x0 = (109 : Int32) then
some ((2 : Int32), s)
else
if x0 = (110 : Int32) then
some ((-1 : Int32), s)
else
if x0 = (111 : Int32) then
some ((-1 : Int32), s)
else
if x0 = (112 : Int32) then
some ((-1 : Int32), s)
else
if x0 = (113 : Int32) then
some ((-1 : Int32), s)
else
if x0 = (114 : Int32) then
some ((-1 : Int32), s)
else
if x0 = (115 : Int32) then
some ((1 : Int32), s)
else
if x0 = (116 : Int32) then
some ((-1 : Int32), s)
else
if x0 = (117 : Int32) then
some ((-1 : Int32), s)
else
if x0 = (118 : Int32) then
some ((5 : Int32), s)
else
if x0 = (119 : Int32) then
some ((3 : Int32), s)
else
some ((-1 : Int32), s)
theorem zyC201 {X : zx_X}     {x0 : Int32} {s : zy_S} {r : Int32} {s' : zy_S}  (h : zyF201 x0 s = some (r, s')) : zyR X 1 201 0 [some (.int x0)] [] s (zyE (some (.int r)) s') := by
  unfold zyF201 at h
  refine zy_2 rfl rfl (show zyR _ _ _ _ [some (.int x0)] [.int x0] _ _ from ?_)
  refine zy_50 rfl (by decide) ?_
  refine zy_swp (fun b1 => (show zyR _ _ _ _ [some (.int x0)] [] _ _ from ?_)) (fun b1 => ?_)
  · replace h := zy_ifp h b1
    refine zy_3 rfl rfl (show zyR _ _ _ _ [some (.int x0)] [.int (0 : Int32)] _ _ from ?_)
    obtain ⟨rfl, rfl⟩ := zy_pi h
    exact zy_4 rfl ⟨rfl, rfl⟩
  replace h := zy_ifn h b1
  refine zy_swp (fun b2 => (show zyR _ _ _ _ [some (.int x0)] [] _ _ from ?_)) (fun b2 => ?_)
  · replace h := zy_ifp h b2
    refine zy_3 rfl rfl (show zyR _ _ _ _ [some (.int x0)] [.int (-1 : Int32)] _ _ from ?_)
    obtain ⟨rfl, rfl⟩ := zy_pi h
    exact zy_4 rfl ⟨rfl, rfl⟩
  replace h := zy_ifn h b2
  refine zy_swp (fun b3 => (show zyR _ _ _ _ [some (.int x0)] [] _ _ from ?_)) (fun b3 => ?_)
  · replace h := zy_ifp h b3
    refine zy_3 rfl rfl (show zyR _ _ _ _ [some (.int x0)] [.int (-1 : Int32)] _ _ from ?_)
    obtain ⟨rfl, rfl⟩ := zy_pi h
    exact zy_4 rfl ⟨rfl, rfl⟩
  replace h := zy_ifn h b3
  refine zy_swp (fun b4 => (show zyR _ _ _ _ [some (.int x0)] [] _ _ from ?_)) (fun b4 => ?_)
  · replace h := zy_ifp h b4
    refine zy_3 rfl rfl (show zyR _ _ _ _ [some (.int x0)] [.int (-1 : Int32)] _ _ from ?_)
    obtain ⟨rfl, rfl⟩ := zy_pi h
    exact zy_4 rfl ⟨rfl, rfl⟩
  replace h := zy_ifn h b4
  refine zy_swp (fun b5 => (show zyR _ _ _ _ [some (.int x0)] [] _ _ from ?_)) (fun b5 => ?_)
  · replace h := zy_ifp h b5
    refine zy_3 rfl rfl (show zyR _ _ _ _ [some (.int x0)] [.int (-1 : Int32)] _ _ from ?_)
    obtain ⟨rfl, rfl⟩ := zy_pi h
    exact zy_4 rfl ⟨rfl, rfl⟩
  replace h := zy_ifn h b5
  refine zy_swp (fun b6 => (show zyR _ _ _ _ [some (.int x0)] [] _ _ from ?_)) (fun b6 => ?_)
  · replace h := zy_ifp h b6
    refine zy_3 rfl rfl (show zyR _ _ _ _ [some (.int x0)] [.int (-1 : Int32)] _ _ from ?_)
    obtain ⟨rfl, rfl⟩ := zy_pi h
    exact zy_4 rfl ⟨rfl, rfl⟩
  replace h := zy_ifn h b6
  refine zy_swp (fun b7 => (show zyR _ _ _ _ [some (.int x0)] [] _ _ from ?_)) (fun b7 => ?_)
  · replace h := zy_ifp h b7
    refine zy_3 rfl rfl (show zyR _ _ _ _ [some (.int x0)] [.int (-1 : Int32)] _ _ from ?_)
    obtain ⟨rfl, rfl⟩ := zy_pi h
    exact zy_4 rfl ⟨rfl, rfl⟩
  replace h := zy_ifn h b7
  refine zy_swp (fun b8 => (show zyR _ _ _ _ [some (.int x0)] [] _ _ from ?_)) (fun b8 => ?_)
  · replace h := zy_ifp h b8
    refine zy_3 rfl rfl (show zyR _ _ _ _ [some (.int x0)] [.int (4 : Int32)] _ _ from ?_)
    obtain ⟨rfl, rfl⟩ := zy_pi h
    exact zy_4 rfl ⟨rfl, rfl⟩
  replace h := zy_ifn h b8
  refine zy_swp (fun b9 => (show zyR _ _ _ _ [some (.int x0)] [] _ _ from ?_)) (fun b9 => ?_)
  · replace h := zy_ifp h b9
    refine zy_3 rfl rfl (show zyR _ _ _ _ [some (.int x0)] [.int (-1 : Int32)] _ _ from ?_)
    obtain ⟨rfl, rfl⟩ := zy_pi h
    exact zy_4 rfl ⟨rfl, rfl⟩
  replace h := zy_ifn h b9
  refine zy_swp (fun b10 => (show zyR _ _ _ _ [some (.int x0)] [] _ _ from ?_)) (fun b10 => ?_)
  · replace h := zy_ifp h b10
    refine zy_3 rfl rfl (show zyR _ _ _ _ [some (.int x0)] [.int (2 : Int32)] _ _ from ?_)
    obtain ⟨rfl, rfl⟩ := zy_pi h
    exact zy_4 rfl ⟨rfl, rfl⟩
  replace h := zy_ifn h b10
  refine zy_swp (fun b11 => (show zyR _ _ _ _ [some (.int x0)] [] _ _ from ?_)) (fun b11 => ?_)
  · replace h := zy_ifp h b11
    refine zy_3 rfl rfl (show zyR _ _ _ _ [some (.int x0)] [.int (-1 : Int32)] _ _ from ?_)
    obtain ⟨rfl, rfl⟩ := zy_pi h
    exact zy_4 rfl ⟨rfl, rfl⟩
  replace h := zy_ifn h b11
  refine zy_swp (fun b12 => (show zyR _ _ _ _ [some (.int x0)] [] _ _ from ?_)) (fun b12 => ?_)
  · replace h := zy_ifp h b12
    refine zy_3 rfl rfl (show zyR _ _ _ _ [some (.int x0)] [.int (-1 : Int32)] _ _ from ?_)
    obtain ⟨rfl, rfl⟩ := zy_pi h
    exact zy_4 rfl ⟨rfl, rfl⟩
  replace h := zy_ifn h b12
  refine zy_swp (fun b13 => (show zyR _ _ _ _ [some (.int x0)] [] _ _ from ?_)) (fun b13 => ?_)
  · replace h := zy_ifp h b13
    refine zy_3 rfl rfl (show zyR _ _ _ _ [some (.int x0)] [.int (-1 : Int32)] _ _ from ?_)
    obtain ⟨rfl, rfl⟩ := zy_pi h
    exact zy_4 rfl ⟨rfl, rfl⟩
  replace h := zy_ifn h b13
  refine zy_swp (fun b14 => (show zyR _ _ _ _ [some (.int x0)] [] _ _ from ?_)) (fun b14 => ?_)
  · replace h := zy_ifp h b14
    refine zy_3 rfl rfl (show zyR _ _ _ _ [some (.int x0)] [.int (-1 : Int32)] _ _ from ?_)
    obtain ⟨rfl, rfl⟩ := zy_pi h
    exact zy_4 rfl ⟨rfl, rfl⟩
  replace h := zy_ifn h b14
  refine zy_swp (fun b15 => (show zyR _ _ _ _ [some (.int x0)] [] _ _ from ?_)) (fun b15 => ?_)
  · replace h := zy_ifp h b15
    refine zy_3 rfl rfl (show zyR _ _ _ _ [some (.int x0)] [.int (-1 : Int32)] _ _ from ?_)
    obtain ⟨rfl, rfl⟩ := zy_pi h
    exact zy_4 rfl ⟨rfl, rfl⟩
  replace h := zy_ifn h b15
  refine zy_swp (fun b16 => (show zyR _ _ _ _ [some (.int x0)] [] _ _ from ?_)) (fun b16 => ?_)
  · replace h := zy_ifp h b16
    refine zy_3 rfl rfl (show zyR _ _ _ _ [some (.int x0)] [.int (1 : Int32)] _ _ from ?_)
    obtain ⟨rfl, rfl⟩ := zy_pi h
    exact zy_4 rfl ⟨rfl, rfl⟩
  replace h := zy_ifn h b16
  refine zy_swp (fun b17 => (show zyR _ _ _ _ [some (.int x0)] [] _ _ from ?_)) (fun b17 => ?_)
  · replace h := zy_ifp h b17
    refine zy_3 rfl rfl (show zyR _ _ _ _ [some (.int x0)] [.int (-1 : Int32)] _ _ from ?_)
    obtain ⟨rfl, rfl⟩ := zy_pi h
    exact zy_4 rfl ⟨rfl, rfl⟩
  replace h := zy_ifn h b17
  refine zy_swp (fun b18 => (show zyR _ _ _ _ [some (.int x0)] [] _ _ from ?_)) (fun b18 => ?_)
  · replace h := zy_ifp h b18
    refine zy_3 rfl rfl (show zyR _ _ _ _ [some (.int x0)] [.int (-1 : Int32)] _ _ from ?_)
    obtain ⟨rfl, rfl⟩ := zy_pi h
    exact zy_4 rfl ⟨rfl, rfl⟩
  replace h := zy_ifn h b18
  refine zy_swp (fun b19 => (show zyR _ _ _ _ [some (.int x0)] [] _ _ from ?_)) (fun b19 => ?_)
  · replace h := zy_ifp h b19
    refine zy_3 rfl rfl (show zyR _ _ _ _ [some (.int x0)] [.int (5 : Int32)] _ _ from ?_)
    obtain ⟨rfl, rfl⟩ := zy_pi h
    exact zy_4 rfl ⟨rfl, rfl⟩
  replace h := zy_ifn h b19
  refine zy_swp (fun b20 => (show zyR _ _ _ _ [some (.int x0)] [] _ _ from ?_)) (fun b20 => ?_)
  · replace h := zy_ifp h b20
    refine zy_3 rfl rfl (show zyR _ _ _ _ [some (.int x0)] [.int (3 : Int32)] _ _ from ?_)
    obtain ⟨rfl, rfl⟩ := zy_pi h
    exact zy_4 rfl ⟨rfl, rfl⟩
  replace h := zy_ifn h b20
  show zyR _ _ _ _ [some (.int x0)] [] _ _
  refine zy_3 rfl rfl (show zyR _ _ _ _ [some (.int x0)] [.int (-1 : Int32)] _ _ from ?_)
  obtain ⟨rfl, rfl⟩ := zy_pi h
  exact zy_4 rfl ⟨rfl, rfl⟩
