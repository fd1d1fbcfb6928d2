/-! PART 41.24: methods as functions. Made by wip/v4/dcp.py. -/
/-! NineOpinionsModel.nameOf(I)I -/
noncomputable def zyF201   (x0 : Int32) (s : zy_S) : Option (Int32 × zy_S) :=
if x0 = (100 : Int32) then
some ((0 : Int32), s)
else
if x0 = (101 : Int32) then
some ((-1 : Int32), s)
else
if x0 = (102 : Int32) then
some ((-1 : Int32), s)
else
if x0 = (103 : Int32) then
some ((-1 : Int32), s)
else
if x0 = (104 : Int32) then
some ((-1 : Int32), s)
else
if x0 = (105 : Int32) then
some ((-1 : Int32), s)
else
if x0 = (106 : Int32) then
some ((-1 : Int32), s)
else
if x0 = (107 : Int32) then
some ((4 : Int32), s)
else
if x0 = (108 : Int32) then
some ((-1 : Int32), s)
else
if x0 = (109 : Int32) then
some ((2 : Int32), s)
else
if x0 = (110 : Int32) then
some ((-1 : Int32), s)
else
if x0 = (111 : Int32) then
some ((-1 : Int32), s)
else
if x0 = (112 : Int32) then
some ((-1 : Int32), s)
else
if x0 = (113 : Int32) then
some ((-1 : Int32), s)
else
if x0 = (114 : Int32) then
some ((-1 : Int32), s)
else
if x0 = (115 : Int32) then
some ((1 : Int32), s)
else
if x0 = (116 : Int32) then
some ((-1 : Int32), s)
else
if x0 = (117 : Int32) then
some ((-1 : Int32), s)
else
if x0 = (118 : Int32) then
some ((5 : Int32), s)
else
if x0 = (119 : Int32) then
some ((3 : Int32), s)
else
some ((-1 : Int32), s)
theorem zyC201 {X : zx_X}     {x0 : Int32} {s : zy_S} {r : Int32} {s' : zy_S}  (h : zyF201 x0 s = some (r, s')) : zyR X 1 201 0 [some (.int x0)] [] s (zyE (some (.int r)) s') := by
  unfold zyF201 at h
  refine zy_2 rfl rfl (show zyR _ _ _ _ [some (.int x0)] [.int x0] _ _ from ?_)
  refine zy_50 rfl (by decide) ?_
  refine zy_swp (fun b1 => (show zyR _ _ _ _ [some (.int x0)] [] _ _ from ?_)) (fun b1 => ?_)
  · replace h := zy_ifp h b1
    refine zy_3 rfl rfl (show zyR _ _ _ _ [some (.int x0)] [.int (0 : Int32)] _ _ from ?_)
    obtain ⟨rfl, rfl⟩ := zy_pi h
    exact zy_4 rfl ⟨rfl, rfl⟩
  replace h := zy_ifn h b1
  refine zy_swp (fun b2 => (show zyR _ _ _ _ [some (.int x0)] [] _ _ from ?_)) (fun b2 => ?_)
  · replace h := zy_ifp h b2
    refine zy_3 rfl rfl (show zyR _ _ _ _ [some (.int x0)] [.int (-1 : Int32)] _ _ from ?_)
    obtain ⟨rfl, rfl⟩ := zy_pi h
    exact zy_4 rfl ⟨rfl, rfl⟩
  replace h := zy_ifn h b2
  refine zy_swp (fun b3 => (show zyR _ _ _ _ [some (.int x0)] [] _ _ from ?_)) (fun b3 => ?_)
  · replace h := zy_ifp h b3
    refine zy_3 rfl rfl (show zyR _ _ _ _ [some (.int x0)] [.int (-1 : Int32)] _ _ from ?_)
    obtain ⟨rfl, rfl⟩ := zy_pi h
    exact zy_4 rfl ⟨rfl, rfl⟩
  replace h := zy_ifn h b3
  refine zy_swp (fun b4 => (show zyR _ _ _ _ [some (.int x0)] [] _ _ from ?_)) (fun b4 => ?_)
  · replace h := zy_ifp h b4
    refine zy_3 rfl rfl (show zyR _ _ _ _ [some (.int x0)] [.int (-1 : Int32)] _ _ from ?_)
    obtain ⟨rfl, rfl⟩ := zy_pi h
    exact zy_4 rfl ⟨rfl, rfl⟩
  replace h := zy_ifn h b4
  refine zy_swp (fun b5 => (show zyR _ _ _ _ [some (.int x0)] [] _ _ from ?_)) (fun b5 => ?_)
  · replace h := zy_ifp h b5
    refine zy_3 rfl rfl (show zyR _ _ _ _ [some (.int x0)] [.int (-1 : Int32)] _ _ from ?_)
    obtain ⟨rfl, rfl⟩ := zy_pi h
    exact zy_4 rfl ⟨rfl, rfl⟩
  replace h := zy_ifn h b5
  refine zy_swp (fun b6 => (show zyR _ _ _ _ [some (.int x0)] [] _ _ from ?_)) (fun b6 => ?_)
  · replace h := zy_ifp h b6
    refine zy_3 rfl rfl (show zyR _ _ _ _ [some (.int x0)] [.int (-1 : Int32)] _ _ from ?_)
    obtain ⟨rfl, rfl⟩ := zy_pi h
    exact zy_4 rfl ⟨rfl, rfl⟩
  replace h := zy_ifn h b6
  refine zy_swp (fun b7 => (show zyR _ _ _ _ [some (.int x0)] [] _ _ from ?_)) (fun b7 => ?_)
  · replace h := zy_ifp h b7
    refine zy_3 rfl rfl (show zyR _ _ _ _ [some (.int x0)] [.int (-1 : Int32)] _ _ from ?_)
    obtain ⟨rfl, rfl⟩ := zy_pi h
    exact zy_4 rfl ⟨rfl, rfl⟩
  replace h := zy_ifn h b7
  refine zy_swp (fun b8 => (show zyR _ _ _ _ [some (.int x0)] [] _ _ from ?_)) (fun b8 => ?_)
  · replace h := zy_ifp h b8
    refine zy_3 rfl rfl (show zyR _ _ _ _ [some (.int x0)] [.int (4 : Int32)] _ _ from ?_)
    obtain ⟨rfl, rfl⟩ := zy_pi h
    exact zy_4 rfl ⟨rfl, rfl⟩
  replace h := zy_ifn h b8
  refine zy_swp (fun b9 => (show zyR _ _ _ _ [some (.int x0)] [] _ _ from ?_)) (fun b9 => ?_)
  · replace h := zy_ifp h b9
    refine zy_3 rfl rfl (show zyR _ _ _ _ [some (.int x0)] [.int (-1 : Int32)] _ _ from ?_)
    obtain ⟨rfl, rfl⟩ := zy_pi h
    exact zy_4 rfl ⟨rfl, rfl⟩
  replace h := zy_ifn h b9
  refine zy_swp (fun b10 => (show zyR _ _ _ _ [some (.int x0)] [] _ _ from ?_)) (fun b10 => ?_)
  · replace h := zy_ifp h b10
    refine zy_3 rfl rfl (show zyR _ _ _ _ [some (.int x0)] [.int (2 : Int32)] _ _ from ?_)
    obtain ⟨rfl, rfl⟩ := zy_pi h
    exact zy_4 rfl ⟨rfl, rfl⟩
  replace h := zy_ifn h b10
  refine zy_swp (fun b11 => (show zyR _ _ _ _ [some (.int x0)] [] _ _ from ?_)) (fun b11 => ?_)
  · replace h := zy_ifp h b11
    refine zy_3 rfl rfl (show zyR _ _ _ _ [some (.int x0)] [.int (-1 : Int32)] _ _ from ?_)
    obtain ⟨rfl, rfl⟩ := zy_pi h
    exact zy_4 rfl ⟨rfl, rfl⟩
  replace h := zy_ifn h b11
  refine zy_swp (fun b12 => (show zyR _ _ _ _ [some (.int x0)] [] _ _ from ?_)) (fun b12 => ?_)
  · replace h := zy_ifp h b12
    refine zy_3 rfl rfl (show zyR _ _ _ _ [some (.int x0)] [.int (-1 : Int32)] _ _ from ?_)
    obtain ⟨rfl, rfl⟩ := zy_pi h
    exact zy_4 rfl ⟨rfl, rfl⟩
  replace h := zy_ifn h b12
  refine zy_swp (fun b13 => (show zyR _ _ _ _ [some (.int x0)] [] _ _ from ?_)) (fun b13 => ?_)
  · replace h := zy_ifp h b13
    refine zy_3 rfl rfl (show zyR _ _ _ _ [some (.int x0)] [.int (-1 : Int32)] _ _ from ?_)
    obtain ⟨rfl, rfl⟩ := zy_pi h
    exact zy_4 rfl ⟨rfl, rfl⟩
  replace h := zy_ifn h b13
  refine zy_swp (fun b14 => (show zyR _ _ _ _ [some (.int x0)] [] _ _ from ?_)) (fun b14 => ?_)
  · replace h := zy_ifp h b14
    refine zy_3 rfl rfl (show zyR _ _ _ _ [some (.int x0)] [.int (-1 : Int32)] _ _ from ?_)
    obtain ⟨rfl, rfl⟩ := zy_pi h
    exact zy_4 rfl ⟨rfl, rfl⟩
  replace h := zy_ifn h b14
  refine zy_swp (fun b15 => (show zyR _ _ _ _ [some (.int x0)] [] _ _ from ?_)) (fun b15 => ?_)
  · replace h := zy_ifp h b15
    refine zy_3 rfl rfl (show zyR _ _ _ _ [some (.int x0)] [.int (-1 : Int32)] _ _ from ?_)
    obtain ⟨rfl, rfl⟩ := zy_pi h
    exact zy_4 rfl ⟨rfl, rfl⟩
  replace h := zy_ifn h b15
  refine zy_swp (fun b16 => (show zyR _ _ _ _ [some (.int x0)] [] _ _ from ?_)) (fun b16 => ?_)
  · replace h := zy_ifp h b16
    refine zy_3 rfl rfl (show zyR _ _ _ _ [some (.int x0)] [.int (1 : Int32)] _ _ from ?_)
    obtain ⟨rfl, rfl⟩ := zy_pi h
    exact zy_4 rfl ⟨rfl, rfl⟩
  replace h := zy_ifn h b16
  refine zy_swp (fun b17 => (show zyR _ _ _ _ [some (.int x0)] [] _ _ from ?_)) (fun b17 => ?_)
  · replace h := zy_ifp h b17
    refine zy_3 rfl rfl (show zyR _ _ _ _ [some (.int x0)] [.int (-1 : Int32)] _ _ from ?_)
    obtain ⟨rfl, rfl⟩ := zy_pi h
    exact zy_4 rfl ⟨rfl, rfl⟩
  replace h := zy_ifn h b17
  refine zy_swp (fun b18 => (show zyR _ _ _ _ [some (.int x0)] [] _ _ from ?_)) (fun b18 => ?_)
  · replace h := zy_ifp h b18
    refine zy_3 rfl rfl (show zyR _ _ _ _ [some (.int x0)] [.int (-1 : Int32)] _ _ from ?_)
    obtain ⟨rfl, rfl⟩ := zy_pi h
    exact zy_4 rfl ⟨rfl, rfl⟩
  replace h := zy_ifn h b18
  refine zy_swp (fun b19 => (show zyR _ _ _ _ [some (.int x0)] [] _ _ from ?_)) (fun b19 => ?_)
  · replace h := zy_ifp h b19
    refine zy_3 rfl rfl (show zyR _ _ _ _ [some (.int x0)] [.int (5 : Int32)] _ _ from ?_)
    obtain ⟨rfl, rfl⟩ := zy_pi h
    exact zy_4 rfl ⟨rfl, rfl⟩
  replace h := zy_ifn h b19
  refine zy_swp (fun b20 => (show zyR _ _ _ _ [some (.int x0)] [] _ _ from ?_)) (fun b20 => ?_)
  · replace h := zy_ifp h b20
    refine zy_3 rfl rfl (show zyR _ _ _ _ [some (.int x0)] [.int (3 : Int32)] _ _ from ?_)
    obtain ⟨rfl, rfl⟩ := zy_pi h
    exact zy_4 rfl ⟨rfl, rfl⟩
  replace h := zy_ifn h b20
  show zyR _ _ _ _ [some (.int x0)] [] _ _
  refine zy_3 rfl rfl (show zyR _ _ _ _ [some (.int x0)] [.int (-1 : Int32)] _ _ from ?_)
  obtain ⟨rfl, rfl⟩ := zy_pi h
  exact zy_4 rfl ⟨rfl, rfl⟩
/-! NineOpinionsModel.either()I, over what it calls -/
noncomputable def zyF192_32 (g192 : zy_S → Option (Int32 × zy_S)) (g193 : zy_S → Option (Int32 × zy_S)) (g194 : zy_S → Option (Int32 × zy_S)) (g195 : zy_S → Option (Int32 × zy_S)) (g196 : zy_S → Option (Int32 × zy_S)) (g197 : zy_S → Option (Int32 × zy_S)) (k5 : Int32 → zy_S → Option (Int32 × zy_S)) (y0 : Int32) (s : zy_S) : Option (Int32 × zy_S) :=
k5 y0 s
theorem zyC192_32 {X : zx_X} {d : Nat} {g192 : zy_S → Option (Int32 × zy_S)} {g193 : zy_S → Option (Int32 × zy_S)} {g194 : zy_S → Option (Int32 × zy_S)} {g195 : zy_S → Option (Int32 × zy_S)} {g196 : zy_S → Option (Int32 × zy_S)} {g197 : zy_S → Option (Int32 × zy_S)} {k5 : Int32 → zy_S → Option (Int32 × zy_S)} (hd : 2 ≤ d) (hg192 : ∀  (s : zy_S) (r : Int32) (s' : zy_S), g192 s = some (r, s') → zyR X d 192 0 [some (.ref (43 + 3)), none, none] [] s (zyE (some (.int r)) s')) (hg193 : ∀  (s : zy_S) (r : Int32) (s' : zy_S), g193 s = some (r, s') → zyR X d 193 0 [some (.ref (43 + 3)), none, none] [] s (zyE (some (.int r)) s')) (hg194 : ∀  (s : zy_S) (r : Int32) (s' : zy_S), g194 s = some (r, s') → zyR X d 194 0 [some (.ref (43 + 3)), none, none, none] [] s (zyE (some (.int r)) s')) (hg195 : ∀  (s : zy_S) (r : Int32) (s' : zy_S), g195 s = some (r, s') → zyR X d 195 0 [some (.ref (43 + 3)), none, none, none] [] s (zyE (some (.int r)) s')) (hg196 : ∀  (s : zy_S) (r : Int32) (s' : zy_S), g196 s = some (r, s') → zyR X d 196 0 [some (.ref (43 + 3)), none, none, none] [] s (zyE (some (.int r)) s')) (hg197 : ∀  (s : zy_S) (r : Int32) (s' : zy_S), g197 s = some (r, s') → zyR X d 197 0 [some (.ref (43 + 3)), none, none, none, none] [] s (zyE (some (.int r)) s')) (hk5 : ∀ (x1 : Int32) (s : zy_S) (r : Int32) (s' : zy_S), k5 x1 s = some (r, s') → zyR X (d + 1) 192 5 [some (.ref (43 + 3)), some (.int x1), none] [] s (zyE (some (.int r)) s')) {y0 : Int32} {s : zy_S} {r : Int32} {s' : zy_S}  (h : zyF192_32 g192 g193 g194 g195 g196 g197 k5 y0 s = some (r, s')) : zyR X (d + 1) 192 32 [some (.ref (43 + 3)), none, none] [.int y0] s (zyE (some (.int r)) s') := by
  unfold zyF192_32 at h
  refine zy_23 rfl rfl (show zyR _ _ _ _ [some (.ref (43 + 3)), some (.int y0), none] [] _ _ from ?_)
  refine zy_6 rfl (show zyR _ _ _ _ [some (.ref (43 + 3)), some (.int y0), none] [] _ _ from ?_)
  exact zy_sub (show zy_le [some (.ref (43 + 3)), some (.int y0), none] [some (.ref (43 + 3)), some (.int y0), none] from ⟨rfl, ⟨rfl, trivial⟩⟩) (hk5 y0 s _ _ h)
noncomputable def zyF192_27 (g192 : zy_S → Option (Int32 × zy_S)) (g193 : zy_S → Option (Int32 × zy_S)) (g194 : zy_S → Option (Int32 × zy_S)) (g195 : zy_S → Option (Int32 × zy_S)) (g196 : zy_S → Option (Int32 × zy_S)) (g197 : zy_S → Option (Int32 × zy_S)) (k5 : Int32 → zy_S → Option (Int32 × zy_S))  (s : zy_S) : Option (Int32 × zy_S) :=
zyF192_32 g192 g193 g194 g195 g196 g197 k5 (1 : Int32) s
theorem zyC192_27 {X : zx_X} {d : Nat} {g192 : zy_S → Option (Int32 × zy_S)} {g193 : zy_S → Option (Int32 × zy_S)} {g194 : zy_S → Option (Int32 × zy_S)} {g195 : zy_S → Option (Int32 × zy_S)} {g196 : zy_S → Option (Int32 × zy_S)} {g197 : zy_S → Option (Int32 × zy_S)} {k5 : Int32 → zy_S → Option (Int32 × zy_S)} (hd : 2 ≤ d) (hg192 : ∀  (s : zy_S) (r : Int32) (s' : zy_S), g192 s = some (r, s') → zyR X d 192 0 [some (.ref (43 + 3)), none, none] [] s (zyE (some (.int r)) s')) (hg193 : ∀  (s : zy_S) (r : Int32) (s' : zy_S), g193 s = some (r, s') → zyR X d 193 0 [some (.ref (43 + 3)), none, none] [] s (zyE (some (.int r)) s')) (hg194 : ∀  (s : zy_S) (r : Int32) (s' : zy_S), g194 s = some (r, s') → zyR X d 194 0 [some (.ref (43 + 3)), none, none, none] [] s (zyE (some (.int r)) s')) (hg195 : ∀  (s : zy_S) (r : Int32) (s' : zy_S), g195 s = some (r, s') → zyR X d 195 0 [some (.ref (43 + 3)), none, none, none] [] s (zyE (some (.int r)) s')) (hg196 : ∀  (s : zy_S) (r : Int32) (s' : zy_S), g196 s = some (r, s') → zyR X d 196 0 [some (.ref (43 + 3)), none, none, none] [] s (zyE (some (.int r)) s')) (hg197 : ∀  (s : zy_S) (r : Int32) (s' : zy_S), g197 s = some (r, s') → zyR X d 197 0 [some (.ref (43 + 3)), none, none, none, none] [] s (zyE (some (.int r)) s')) (hk5 : ∀ (x1 : Int32) (s : zy_S) (r : Int32) (s' : zy_S), k5 x1 s = some (r, s') → zyR X (d + 1) 192 5 [some (.ref (43 + 3)), some (.int x1), none] [] s (zyE (some (.int r)) s'))  {s : zy_S} {r : Int32} {s' : zy_S}  (h : zyF192_27 g192 g193 g194 g195 g196 g197 k5 s = some (r, s')) : zyR X (d + 1) 192 27 [some (.ref (43 + 3)), none, none] [] s (zyE (some (.int r)) s') := by
  unfold zyF192_27 at h
  refine zy_3 rfl rfl (show zyR _ _ _ _ [some (.ref (43 + 3)), none, none] [.int (1 : Int32)] _ _ from ?_)
  refine zy_6 rfl (show zyR _ _ _ _ [some (.ref (43 + 3)), none, none] [.int (1 : Int32)] _ _ from ?_)
  exact zy_sub (show zy_le [some (.ref (43 + 3)), none, none] [some (.ref (43 + 3)), none, none] from ⟨rfl, trivial⟩) (zyC192_32 hd hg192 hg193 hg194 hg195 hg196 hg197 hk5 h)
noncomputable def zyF192_5b (g192 : zy_S → Option (Int32 × zy_S)) (g193 : zy_S → Option (Int32 × zy_S)) (g194 : zy_S → Option (Int32 × zy_S)) (g195 : zy_S → Option (Int32 × zy_S)) (g196 : zy_S → Option (Int32 × zy_S)) (g197 : zy_S → Option (Int32 × zy_S)) (k5 : Int32 → zy_S → Option (Int32 × zy_S)) (x1 : Int32) (s : zy_S) : Option (Int32 × zy_S) :=
(zyF200 (124 : Int32) s).bind fun p1 =>
if p1.1 = 0 then
some (x1, p1.2)
else
(g193 p1.2).bind fun p2 =>
if x1 ≠ 0 then
zyF192_27 g192 g193 g194 g195 g196 g197 k5 p2.2
else
if p2.1 = 0 then
zyF192_32 g192 g193 g194 g195 g196 g197 k5 (0 : Int32) p2.2
else
zyF192_27 g192 g193 g194 g195 g196 g197 k5 p2.2
theorem zyC192_5b {X : zx_X} {d : Nat} {g192 : zy_S → Option (Int32 × zy_S)} {g193 : zy_S → Option (Int32 × zy_S)} {g194 : zy_S → Option (Int32 × zy_S)} {g195 : zy_S → Option (Int32 × zy_S)} {g196 : zy_S → Option (Int32 × zy_S)} {g197 : zy_S → Option (Int32 × zy_S)} {k5 : Int32 → zy_S → Option (Int32 × zy_S)} (hd : 2 ≤ d) (hg192 : ∀  (s : zy_S) (r : Int32) (s' : zy_S), g192 s = some (r, s') → zyR X d 192 0 [some (.ref (43 + 3)), none, none] [] s (zyE (some (.int r)) s')) (hg193 : ∀  (s : zy_S) (r : Int32) (s' : zy_S), g193 s = some (r, s') → zyR X d 193 0 [some (.ref (43 + 3)), none, none] [] s (zyE (some (.int r)) s')) (hg194 : ∀  (s : zy_S) (r : Int32) (s' : zy_S), g194 s = some (r, s') → zyR X d 194 0 [some (.ref (43 + 3)), none, none, none] [] s (zyE (some (.int r)) s')) (hg195 : ∀  (s : zy_S) (r : Int32) (s' : zy_S), g195 s = some (r, s') → zyR X d 195 0 [some (.ref (43 + 3)), none, none, none] [] s (zyE (some (.int r)) s')) (hg196 : ∀  (s : zy_S) (r : Int32) (s' : zy_S), g196 s = some (r, s') → zyR X d 196 0 [some (.ref (43 + 3)), none, none, none] [] s (zyE (some (.int r)) s')) (hg197 : ∀  (s : zy_S) (r : Int32) (s' : zy_S), g197 s = some (r, s') → zyR X d 197 0 [some (.ref (43 + 3)), none, none, none, none] [] s (zyE (some (.int r)) s')) (hk5 : ∀ (x1 : Int32) (s : zy_S) (r : Int32) (s' : zy_S), k5 x1 s = some (r, s') → zyR X (d + 1) 192 5 [some (.ref (43 + 3)), some (.int x1), none] [] s (zyE (some (.int r)) s')) {x1 : Int32} {s : zy_S} {r : Int32} {s' : zy_S}  (h : zyF192_5b g192 g193 g194 g195 g196 g197 k5 x1 s = some (r, s')) : zyR X (d + 1) 192 5 [some (.ref (43 + 3)), some (.int x1), none] [] s (zyE (some (.int r)) s') := by
  unfold zyF192_5b at h
  refine zy_0 rfl rfl (show zyR _ _ _ _ [some (.ref (43 + 3)), some (.int x1), none] [.ref (43 + 3)] _ _ from ?_)
  refine zy_3 rfl rfl (show zyR _ _ _ _ [some (.ref (43 + 3)), some (.int x1), none] [.int (124 : Int32), .ref (43 + 3)] _ _ from ?_)
  obtain ⟨p1, hp1, h⟩ := zy_bind h
  refine zy_5 (c := 43) (as := [.int (124 : Int32)]) (rest := []) (L := [some (.ref (43 + 3)), some (.int (124 : Int32))]) (d' := 2) rfl rfl rfl (Nat.le_of_ble_eq_true rfl) (by omega) rfl (Nat.le_of_ble_eq_true rfl) rfl rfl (zyC200 hp1) ?_
  show zyR _ _ _ _ [some (.ref (43 + 3)), some (.int x1), none] [.int p1.1] _ _
  refine zy_24_0 rfl (fun b5 => (show zyR _ _ _ _ [some (.ref (43 + 3)), some (.int x1), none] [] _ _ from ?_)) (fun b5 => (show zyR _ _ _ _ [some (.ref (43 + 3)), some (.int x1), none] [] _ _ from ?_))
  · replace h := zy_ifp h b5
    refine zy_2 rfl rfl (show zyR _ _ _ _ [some (.ref (43 + 3)), some (.int x1), none] [.int x1] _ _ from ?_)
    obtain ⟨rfl, rfl⟩ := zy_pi h
    exact zy_4 rfl ⟨rfl, rfl⟩
  · replace h := zy_ifn h b5
    refine zy_0 rfl rfl (show zyR _ _ _ _ [some (.ref (43 + 3)), some (.int x1), none] [.ref (43 + 3)] _ _ from ?_)
    obtain ⟨p2, hp2, h⟩ := zy_bind h
    refine zy_5 (c := 43) (as := []) (rest := []) (L := [some (.ref (43 + 3)), none, none]) (d' := d) rfl rfl rfl (Nat.le_of_ble_eq_true rfl) (by omega) rfl (Nat.le_of_ble_eq_true rfl) rfl rfl (hg193 p1.2 _ _ hp2) ?_
    show zyR _ _ _ _ [some (.ref (43 + 3)), some (.int x1), none] [.int p2.1] _ _
    refine zy_23 rfl rfl (show zyR _ _ _ _ [some (.ref (43 + 3)), some (.int x1), some (.int p2.1)] [] _ _ from ?_)
    refine zy_2 rfl rfl (show zyR _ _ _ _ [some (.ref (43 + 3)), some (.int x1), some (.int p2.1)] [.int x1] _ _ from ?_)
    refine zy_24_1 rfl (fun b4 => (show zyR _ _ _ _ [some (.ref (43 + 3)), some (.int x1), some (.int p2.1)] [] _ _ from ?_)) (fun b4 => (show zyR _ _ _ _ [some (.ref (43 + 3)), some (.int x1), some (.int p2.1)] [] _ _ from ?_))
    · replace h := zy_ifp h b4
      exact zy_sub (show zy_le [some (.ref (43 + 3)), none, none] [some (.ref (43 + 3)), some (.int x1), some (.int p2.1)] from ⟨rfl, trivial⟩) (zyC192_27 hd hg192 hg193 hg194 hg195 hg196 hg197 hk5 h)
    · replace h := zy_ifn h b4
      refine zy_2 rfl rfl (show zyR _ _ _ _ [some (.ref (43 + 3)), some (.int x1), some (.int p2.1)] [.int p2.1] _ _ from ?_)
      refine zy_24_0 rfl (fun b3 => (show zyR _ _ _ _ [some (.ref (43 + 3)), some (.int x1), some (.int p2.1)] [] _ _ from ?_)) (fun b3 => (show zyR _ _ _ _ [some (.ref (43 + 3)), some (.int x1), some (.int p2.1)] [] _ _ from ?_))
      · replace h := zy_ifp h b3
        refine zy_3 rfl rfl (show zyR _ _ _ _ [some (.ref (43 + 3)), some (.int x1), some (.int p2.1)] [.int (0 : Int32)] _ _ from ?_)
        exact zy_sub (show zy_le [some (.ref (43 + 3)), none, none] [some (.ref (43 + 3)), some (.int x1), some (.int p2.1)] from ⟨rfl, trivial⟩) (zyC192_32 hd hg192 hg193 hg194 hg195 hg196 hg197 hk5 h)
      · replace h := zy_ifn h b3
        exact zy_sub (show zy_le [some (.ref (43 + 3)), none, none] [some (.ref (43 + 3)), some (.int x1), some (.int p2.1)] from ⟨rfl, trivial⟩) (zyC192_27 hd hg192 hg193 hg194 hg195 hg196 hg197 hk5 h)
noncomputable def zyF192_5 (g192 : zy_S → Option (Int32 × zy_S)) (g193 : zy_S → Option (Int32 × zy_S)) (g194 : zy_S → Option (Int32 × zy_S)) (g195 : zy_S → Option (Int32 × zy_S)) (g196 : zy_S → Option (Int32 × zy_S)) (g197 : zy_S → Option (Int32 × zy_S))  (n : Nat) : Int32 → zy_S → Option (Int32 × zy_S) := Nat.rec (fun _ _ => none) (fun _ k5 => zyF192_5b g192 g193 g194 g195 g196 g197 k5) n
theorem zyC192_5 {X : zx_X} {d : Nat} {g192 : zy_S → Option (Int32 × zy_S)} {g193 : zy_S → Option (Int32 × zy_S)} {g194 : zy_S → Option (Int32 × zy_S)} {g195 : zy_S → Option (Int32 × zy_S)} {g196 : zy_S → Option (Int32 × zy_S)} {g197 : zy_S → Option (Int32 × zy_S)}  (hd : 2 ≤ d) (hg192 : ∀  (s : zy_S) (r : Int32) (s' : zy_S), g192 s = some (r, s') → zyR X d 192 0 [some (.ref (43 + 3)), none, none] [] s (zyE (some (.int r)) s')) (hg193 : ∀  (s : zy_S) (r : Int32) (s' : zy_S), g193 s = some (r, s') → zyR X d 193 0 [some (.ref (43 + 3)), none, none] [] s (zyE (some (.int r)) s')) (hg194 : ∀  (s : zy_S) (r : Int32) (s' : zy_S), g194 s = some (r, s') → zyR X d 194 0 [some (.ref (43 + 3)), none, none, none] [] s (zyE (some (.int r)) s')) (hg195 : ∀  (s : zy_S) (r : Int32) (s' : zy_S), g195 s = some (r, s') → zyR X d 195 0 [some (.ref (43 + 3)), none, none, none] [] s (zyE (some (.int r)) s')) (hg196 : ∀  (s : zy_S) (r : Int32) (s' : zy_S), g196 s = some (r, s') → zyR X d 196 0 [some (.ref (43 + 3)), none, none, none] [] s (zyE (some (.int r)) s')) (hg197 : ∀  (s : zy_S) (r : Int32) (s' : zy_S), g197 s = some (r, s') → zyR X d 197 0 [some (.ref (43 + 3)), none, none, none, none] [] s (zyE (some (.int r)) s'))  : ∀ (n : Nat) (x1 : Int32) (s : zy_S) (r : Int32) (s' : zy_S), zyF192_5 g192 g193 g194 g195 g196 g197 n x1 s = some (r, s') → zyR X (d + 1) 192 5 [some (.ref (43 + 3)), some (.int x1), none] [] s (zyE (some (.int r)) s')
  | 0, _ => by
    intro s r s'  h
    have h : (none : Option (Int32 × zy_S)) = some (r, s') := h
    cases h
  | n + 1, x1 => by
    intro s r s'  h
    exact zyC192_5b hd hg192 hg193 hg194 hg195 hg196 hg197 (k5 := zyF192_5 g192 g193 g194 g195 g196 g197 n) (fun x1 s r s'  h => zyC192_5 hd hg192 hg193 hg194 hg195 hg196 hg197 n x1 s r s'  h) h
noncomputable def zyF192_0 (g192 : zy_S → Option (Int32 × zy_S)) (g193 : zy_S → Option (Int32 × zy_S)) (g194 : zy_S → Option (Int32 × zy_S)) (g195 : zy_S → Option (Int32 × zy_S)) (g196 : zy_S → Option (Int32 × zy_S)) (g197 : zy_S → Option (Int32 × zy_S))   (s : zy_S) : Option (Int32 × zy_S) :=
(g193 s).bind fun p6 =>
zyF192_5 g192 g193 g194 g195 g196 g197 zy_fu p6.1 p6.2
theorem zyC192_0 {X : zx_X} {d : Nat} {g192 : zy_S → Option (Int32 × zy_S)} {g193 : zy_S → Option (Int32 × zy_S)} {g194 : zy_S → Option (Int32 × zy_S)} {g195 : zy_S → Option (Int32 × zy_S)} {g196 : zy_S → Option (Int32 × zy_S)} {g197 : zy_S → Option (Int32 × zy_S)}  (hd : 2 ≤ d) (hg192 : ∀  (s : zy_S) (r : Int32) (s' : zy_S), g192 s = some (r, s') → zyR X d 192 0 [some (.ref (43 + 3)), none, none] [] s (zyE (some (.int r)) s')) (hg193 : ∀  (s : zy_S) (r : Int32) (s' : zy_S), g193 s = some (r, s') → zyR X d 193 0 [some (.ref (43 + 3)), none, none] [] s (zyE (some (.int r)) s')) (hg194 : ∀  (s : zy_S) (r : Int32) (s' : zy_S), g194 s = some (r, s') → zyR X d 194 0 [some (.ref (43 + 3)), none, none, none] [] s (zyE (some (.int r)) s')) (hg195 : ∀  (s : zy_S) (r : Int32) (s' : zy_S), g195 s = some (r, s') → zyR X d 195 0 [some (.ref (43 + 3)), none, none, none] [] s (zyE (some (.int r)) s')) (hg196 : ∀  (s : zy_S) (r : Int32) (s' : zy_S), g196 s = some (r, s') → zyR X d 196 0 [some (.ref (43 + 3)), none, none, none] [] s (zyE (some (.int r)) s')) (hg197 : ∀  (s : zy_S) (r : Int32) (s' : zy_S), g197 s = some (r, s') → zyR X d 197 0 [some (.ref (43 + 3)), none, none, none, none] [] s (zyE (some (.int r)) s'))   {s : zy_S} {r : Int32} {s' : zy_S}  (h : zyF192_0 g192 g193 g194 g195 g196 g197 s = some (r, s')) : zyR X (d + 1) 192 0 [some (.ref (43 + 3)), none, none] [] s (zyE (some (.int r)) s') := by
  unfold zyF192_0 at h
  refine zy_0 rfl rfl (show zyR _ _ _ _ [some (.ref (43 + 3)), none, none] [.ref (43 + 3)] _ _ from ?_)
  obtain ⟨p6, hp6, h⟩ := zy_bind h
  refine zy_5 (c := 43) (as := []) (rest := []) (L := [some (.ref (43 + 3)), none, none]) (d' := d) rfl rfl rfl (Nat.le_of_ble_eq_true rfl) (by omega) rfl (Nat.le_of_ble_eq_true rfl) rfl rfl (hg193 s _ _ hp6) ?_
  show zyR _ _ _ _ [some (.ref (43 + 3)), none, none] [.int p6.1] _ _
  refine zy_23 rfl rfl (show zyR _ _ _ _ [some (.ref (43 + 3)), some (.int p6.1), none] [] _ _ from ?_)
  exact zy_sub (show zy_le [some (.ref (43 + 3)), some (.int p6.1), none] [some (.ref (43 + 3)), some (.int p6.1), none] from ⟨rfl, ⟨rfl, trivial⟩⟩) (zyC192_5 hd hg192 hg193 hg194 hg195 hg196 hg197 zy_fu p6.1 p6.2 _ _ h)
/-! NineOpinionsModel.both()I, over what it calls -/
noncomputable def zyF193_32 (g192 : zy_S → Option (Int32 × zy_S)) (g193 : zy_S → Option (Int32 × zy_S)) (g194 : zy_S → Option (Int32 × zy_S)) (g195 : zy_S → Option (Int32 × zy_S)) (g196 : zy_S → Option (Int32 × zy_S)) (g197 : zy_S → Option (Int32 × zy_S)) (k5 : Int32 → zy_S → Option (Int32 × zy_S)) (y0 : Int32) (s : zy_S) : Option (Int32 × zy_S) :=
k5 y0 s
theorem zyC193_32 {X : zx_X} {d : Nat} {g192 : zy_S → Option (Int32 × zy_S)} {g193 : zy_S → Option (Int32 × zy_S)} {g194 : zy_S → Option (Int32 × zy_S)} {g195 : zy_S → Option (Int32 × zy_S)} {g196 : zy_S → Option (Int32 × zy_S)} {g197 : zy_S → Option (Int32 × zy_S)} {k5 : Int32 → zy_S → Option (Int32 × zy_S)} (hd : 2 ≤ d) (hg192 : ∀  (s : zy_S) (r : Int32) (s' : zy_S), g192 s = some (r, s') → zyR X d 192 0 [some (.ref (43 + 3)), none, none] [] s (zyE (some (.int r)) s')) (hg193 : ∀  (s : zy_S) (r : Int32) (s' : zy_S), g193 s = some (r, s') → zyR X d 193 0 [some (.ref (43 + 3)), none, none] [] s (zyE (some (.int r)) s')) (hg194 : ∀  (s : zy_S) (r : Int32) (s' : zy_S), g194 s = some (r, s') → zyR X d 194 0 [some (.ref (43 + 3)), none, none, none] [] s (zyE (some (.int r)) s')) (hg195 : ∀  (s : zy_S) (r : Int32) (s' : zy_S), g195 s = some (r, s') → zyR X d 195 0 [some (.ref (43 + 3)), none, none, none] [] s (zyE (some (.int r)) s')) (hg196 : ∀  (s : zy_S) (r : Int32) (s' : zy_S), g196 s = some (r, s') → zyR X d 196 0 [some (.ref (43 + 3)), none, none, none] [] s (zyE (some (.int r)) s')) (hg197 : ∀  (s : zy_S) (r : Int32) (s' : zy_S), g197 s = some (r, s') → zyR X d 197 0 [some (.ref (43 + 3)), none, none, none, none] [] s (zyE (some (.int r)) s')) (hk5 : ∀ (x1 : Int32) (s : zy_S) (r : Int32) (s' : zy_S), k5 x1 s = some (r, s') → zyR X (d + 1) 193 5 [some (.ref (43 + 3)), some (.int x1), none] [] s (zyE (some (.int r)) s')) {y0 : Int32} {s : zy_S} {r : Int32} {s' : zy_S}  (h : zyF193_32 g192 g193 g194 g195 g196 g197 k5 y0 s = some (r, s')) : zyR X (d + 1) 193 32 [some (.ref (43 + 3)), none, none] [.int y0] s (zyE (some (.int r)) s') := by
  unfold zyF193_32 at h
  refine zy_23 rfl rfl (show zyR _ _ _ _ [some (.ref (43 + 3)), some (.int y0), none] [] _ _ from ?_)
  refine zy_6 rfl (show zyR _ _ _ _ [some (.ref (43 + 3)), some (.int y0), none] [] _ _ from ?_)
  exact zy_sub (show zy_le [some (.ref (43 + 3)), some (.int y0), none] [some (.ref (43 + 3)), some (.int y0), none] from ⟨rfl, ⟨rfl, trivial⟩⟩) (hk5 y0 s _ _ h)
noncomputable def zyF193_31 (g192 : zy_S → Option (Int32 × zy_S)) (g193 : zy_S → Option (Int32 × zy_S)) (g194 : zy_S → Option (Int32 × zy_S)) (g195 : zy_S → Option (Int32 × zy_S)) (g196 : zy_S → Option (Int32 × zy_S)) (g197 : zy_S → Option (Int32 × zy_S)) (k5 : Int32 → zy_S → Option (Int32 × zy_S))  (s : zy_S) : Option (Int32 × zy_S) :=
zyF193_32 g192 g193 g194 g195 g196 g197 k5 (0 : Int32) s
theorem zyC193_31 {X : zx_X} {d : Nat} {g192 : zy_S → Option (Int32 × zy_S)} {g193 : zy_S → Option (Int32 × zy_S)} {g194 : zy_S → Option (Int32 × zy_S)} {g195 : zy_S → Option (Int32 × zy_S)} {g196 : zy_S → Option (Int32 × zy_S)} {g197 : zy_S → Option (Int32 × zy_S)} {k5 : Int32 → zy_S → Option (Int32 × zy_S)} (hd : 2 ≤ d) (hg192 : ∀  (s : zy_S) (r : Int32) (s' : zy_S), g192 s = some (r, s') → zyR X d 192 0 [some (.ref (43 + 3)), none, none] [] s (zyE (some (.int r)) s')) (hg193 : ∀  (s : zy_S) (r : Int32) (s' : zy_S), g193 s = some (r, s') → zyR X d 193 0 [some (.ref (43 + 3)), none, none] [] s (zyE (some (.int r)) s')) (hg194 : ∀  (s : zy_S) (r : Int32) (s' : zy_S), g194 s = some (r, s') → zyR X d 194 0 [some (.ref (43 + 3)), none, none, none] [] s (zyE (some (.int r)) s')) (hg195 : ∀  (s : zy_S) (r : Int32) (s' : zy_S), g195 s = some (r, s') → zyR X d 195 0 [some (.ref (43 + 3)), none, none, none] [] s (zyE (some (.int r)) s')) (hg196 : ∀  (s : zy_S) (r : Int32) (s' : zy_S), g196 s = some (r, s') → zyR X d 196 0 [some (.ref (43 + 3)), none, none, none] [] s (zyE (some (.int r)) s')) (hg197 : ∀  (s : zy_S) (r : Int32) (s' : zy_S), g197 s = some (r, s') → zyR X d 197 0 [some (.ref (43 + 3)), none, none, none, none] [] s (zyE (some (.int r)) s')) (hk5 : ∀ (x1 : Int32) (s : zy_S) (r : Int32) (s' : zy_S), k5 x1 s = some (r, s') → zyR X (d + 1) 193 5 [some (.ref (43 + 3)), some (.int x1), none] [] s (zyE (some (.int r)) s'))  {s : zy_S} {r : Int32} {s' : zy_S}  (h : zyF193_31 g192 g193 g194 g195 g196 g197 k5 s = some (r, s')) : zyR X (d + 1) 193 31 [some (.ref (43 + 3)), none, none] [] s (zyE (some (.int r)) s') := by
  unfold zyF193_31 at h
  refine zy_3 rfl rfl (show zyR _ _ _ _ [some (.ref (43 + 3)), none, none] [.int (0 : Int32)] _ _ from ?_)
  exact zy_sub (show zy_le [some (.ref (43 + 3)), none, none] [some (.ref (43 + 3)), none, none] from ⟨rfl, trivial⟩) (zyC193_32 hd hg192 hg193 hg194 hg195 hg196 hg197 hk5 h)
noncomputable def zyF193_5b (g192 : zy_S → Option (Int32 × zy_S)) (g193 : zy_S → Option (Int32 × zy_S)) (g194 : zy_S → Option (Int32 × zy_S)) (g195 : zy_S → Option (Int32 × zy_S)) (g196 : zy_S → Option (Int32 × zy_S)) (g197 : zy_S → Option (Int32 × zy_S)) (k5 : Int32 → zy_S → Option (Int32 × zy_S)) (x1 : Int32) (s : zy_S) : Option (Int32 × zy_S) :=
(zyF200 (38 : Int32) s).bind fun p1 =>
if p1.1 = 0 then
some (x1, p1.2)
else
(g194 p1.2).bind fun p2 =>
if x1 = 0 then
zyF193_31 g192 g193 g194 g195 g196 g197 k5 p2.2
else
if p2.1 = 0 then
zyF193_31 g192 g193 g194 g195 g196 g197 k5 p2.2
else
zyF193_32 g192 g193 g194 g195 g196 g197 k5 (1 : Int32) p2.2
theorem zyC193_5b {X : zx_X} {d : Nat} {g192 : zy_S → Option (Int32 × zy_S)} {g193 : zy_S → Option (Int32 × zy_S)} {g194 : zy_S → Option (Int32 × zy_S)} {g195 : zy_S → Option (Int32 × zy_S)} {g196 : zy_S → Option (Int32 × zy_S)} {g197 : zy_S → Option (Int32 × zy_S)} {k5 : Int32 → zy_S → Option (Int32 × zy_S)} (hd : 2 ≤ d) (hg192 : ∀  (s : zy_S) (r : Int32) (s' : zy_S), g192 s = some (r, s') → zyR X d 192 0 [some (.ref (43 + 3)), none, none] [] s (zyE (some (.int r)) s')) (hg193 : ∀  (s : zy_S) (r : Int32) (s' : zy_S), g193 s = some (r, s') → zyR X d 193 0 [some (.ref (43 + 3)), none, none] [] s (zyE (some (.int r)) s')) (hg194 : ∀  (s : zy_S) (r : Int32) (s' : zy_S), g194 s = some (r, s') → zyR X d 194 0 [some (.ref (43 + 3)), none, none, none] [] s (zyE (some (.int r)) s')) (hg195 : ∀  (s : zy_S) (r : Int32) (s' : zy_S), g195 s = some (r, s') → zyR X d 195 0 [some (.ref (43 + 3)), none, none, none] [] s (zyE (some (.int r)) s')) (hg196 : ∀  (s : zy_S) (r : Int32) (s' : zy_S), g196 s = some (r, s') → zyR X d 196 0 [some (.ref (43 + 3)), none, none, none] [] s (zyE (some (.int r)) s')) (hg197 : ∀  (s : zy_S) (r : Int32) (s' : zy_S), g197 s = some (r, s') → zyR X d 197 0 [some (.ref (43 + 3)), none, none, none, none] [] s (zyE (some (.int r)) s')) (hk5 : ∀ (x1 : Int32) (s : zy_S) (r : Int32) (s' : zy_S), k5 x1 s = some (r, s') → zyR X (d + 1) 193 5 [some (.ref (43 + 3)), some (.int x1), none] [] s (zyE (some (.int r)) s')) {x1 : Int32} {s : zy_S} {r : Int32} {s' : zy_S}  (h : zyF193_5b g192 g193 g194 g195 g196 g197 k5 x1 s = some (r, s')) : zyR X (d + 1) 193 5 [some (.ref (43 + 3)), some (.int x1), none] [] s (zyE (some (.int r)) s') := by
  unfold zyF193_5b at h
  refine zy_0 rfl rfl (show zyR _ _ _ _ [some (.ref (43 + 3)), some (.int x1), none] [.ref (43 + 3)] _ _ from ?_)
  refine zy_3 rfl rfl (show zyR _ _ _ _ [some (.ref (43 + 3)), some (.int x1), none] [.int (38 : Int32), .ref (43 + 3)] _ _ from ?_)
  obtain ⟨p1, hp1, h⟩ := zy_bind h
  refine zy_5 (c := 43) (as := [.int (38 : Int32)]) (rest := []) (L := [some (.ref (43 + 3)), some (.int (38 : Int32))]) (d' := 2) rfl rfl rfl (Nat.le_of_ble_eq_true rfl) (by omega) rfl (Nat.le_of_ble_eq_true rfl) rfl rfl (zyC200 hp1) ?_
  show zyR _ _ _ _ [some (.ref (43 + 3)), some (.int x1), none] [.int p1.1] _ _
  refine zy_24_0 rfl (fun b5 => (show zyR _ _ _ _ [some (.ref (43 + 3)), some (.int x1), none] [] _ _ from ?_)) (fun b5 => (show zyR _ _ _ _ [some (.ref (43 + 3)), some (.int x1), none] [] _ _ from ?_))
  · replace h := zy_ifp h b5
    refine zy_2 rfl rfl (show zyR _ _ _ _ [some (.ref (43 + 3)), some (.int x1), none] [.int x1] _ _ from ?_)
    obtain ⟨rfl, rfl⟩ := zy_pi h
    exact zy_4 rfl ⟨rfl, rfl⟩
  · replace h := zy_ifn h b5
    refine zy_0 rfl rfl (show zyR _ _ _ _ [some (.ref (43 + 3)), some (.int x1), none] [.ref (43 + 3)] _ _ from ?_)
    obtain ⟨p2, hp2, h⟩ := zy_bind h
    refine zy_5 (c := 43) (as := []) (rest := []) (L := [some (.ref (43 + 3)), none, none, none]) (d' := d) rfl rfl rfl (Nat.le_of_ble_eq_true rfl) (by omega) rfl (Nat.le_of_ble_eq_true rfl) rfl rfl (hg194 p1.2 _ _ hp2) ?_
    show zyR _ _ _ _ [some (.ref (43 + 3)), some (.int x1), none] [.int p2.1] _ _
    refine zy_23 rfl rfl (show zyR _ _ _ _ [some (.ref (43 + 3)), some (.int x1), some (.int p2.1)] [] _ _ from ?_)
    refine zy_2 rfl rfl (show zyR _ _ _ _ [some (.ref (43 + 3)), some (.int x1), some (.int p2.1)] [.int x1] _ _ from ?_)
    refine zy_24_0 rfl (fun b4 => (show zyR _ _ _ _ [some (.ref (43 + 3)), some (.int x1), some (.int p2.1)] [] _ _ from ?_)) (fun b4 => (show zyR _ _ _ _ [some (.ref (43 + 3)), some (.int x1), some (.int p2.1)] [] _ _ from ?_))
    · replace h := zy_ifp h b4
      exact zy_sub (show zy_le [some (.ref (43 + 3)), none, none] [some (.ref (43 + 3)), some (.int x1), some (.int p2.1)] from ⟨rfl, trivial⟩) (zyC193_31 hd hg192 hg193 hg194 hg195 hg196 hg197 hk5 h)
    · replace h := zy_ifn h b4
      refine zy_2 rfl rfl (show zyR _ _ _ _ [some (.ref (43 + 3)), some (.int x1), some (.int p2.1)] [.int p2.1] _ _ from ?_)
      refine zy_24_0 rfl (fun b3 => (show zyR _ _ _ _ [some (.ref (43 + 3)), some (.int x1), some (.int p2.1)] [] _ _ from ?_)) (fun b3 => (show zyR _ _ _ _ [some (.ref (43 + 3)), some (.int x1), some (.int p2.1)] [] _ _ from ?_))
      · replace h := zy_ifp h b3
        exact zy_sub (show zy_le [some (.ref (43 + 3)), none, none] [some (.ref (43 + 3)), some (.int x1), some (.int p2.1)] from ⟨rfl, trivial⟩) (zyC193_31 hd hg192 hg193 hg194 hg195 hg196 hg197 hk5 h)
      · replace h := zy_ifn h b3
        refine zy_3 rfl rfl (show zyR _ _ _ _ [some (.ref (43 + 3)), some (.int x1), some (.int p2.1)] [.int (1 : Int32)] _ _ from ?_)
        refine zy_6 rfl (show zyR _ _ _ _ [some (.ref (43 + 3)), some (.int x1), some (.int p2.1)] [.int (1 : Int32)] _ _ from ?_)
        exact zy_sub (show zy_le [some (.ref (43 + 3)), none, none] [some (.ref (43 + 3)), some (.int x1), some (.int p2.1)] from ⟨rfl, trivial⟩) (zyC193_32 hd hg192 hg193 hg194 hg195 hg196 hg197 hk5 h)
noncomputable def zyF193_5 (g192 : zy_S → Option (Int32 × zy_S)) (g193 : zy_S → Option (Int32 × zy_S)) (g194 : zy_S → Option (Int32 × zy_S)) (g195 : zy_S → Option (Int32 × zy_S)) (g196 : zy_S → Option (Int32 × zy_S)) (g197 : zy_S → Option (Int32 × zy_S))  (n : Nat) : Int32 → zy_S → Option (Int32 × zy_S) := Nat.rec (fun _ _ => none) (fun _ k5 => zyF193_5b g192 g193 g194 g195 g196 g197 k5) n
theorem zyC193_5 {X : zx_X} {d : Nat} {g192 : zy_S → Option (Int32 × zy_S)} {g193 : zy_S → Option (Int32 × zy_S)} {g194 : zy_S → Option (Int32 × zy_S)} {g195 : zy_S → Option (Int32 × zy_S)} {g196 : zy_S → Option (Int32 × zy_S)} {g197 : zy_S → Option (Int32 × zy_S)}  (hd : 2 ≤ d) (hg192 : ∀  (s : zy_S) (r : Int32) (s' : zy_S), g192 s = some (r, s') → zyR X d 192 0 [some (.ref (43 + 3)), none, none] [] s (zyE (some (.int r)) s')) (hg193 : ∀  (s : zy_S) (r : Int32) (s' : zy_S), g193 s = some (r, s') → zyR X d 193 0 [some (.ref (43 + 3)), none, none] [] s (zyE (some (.int r)) s')) (hg194 : ∀  (s : zy_S) (r : Int32) (s' : zy_S), g194 s = some (r, s') → zyR X d 194 0 [some (.ref (43 + 3)), none, none, none] [] s (zyE (some (.int r)) s')) (hg195 : ∀  (s : zy_S) (r : Int32) (s' : zy_S), g195 s = some (r, s') → zyR X d 195 0 [some (.ref (43 + 3)), none, none, none] [] s (zyE (some (.int r)) s')) (hg196 : ∀  (s : zy_S) (r : Int32) (s' : zy_S), g196 s = some (r, s') → zyR X d 196 0 [some (.ref (43 + 3)), none, none, none] [] s (zyE (some (.int r)) s')) (hg197 : ∀  (s : zy_S) (r : Int32) (s' : zy_S), g197 s = some (r, s') → zyR X d 197 0 [some (.ref (43 + 3)), none, none, none, none] [] s (zyE (some (.int r)) s'))  : ∀ (n : Nat) (x1 : Int32) (s : zy_S) (r : Int32) (s' : zy_S), zyF193_5 g192 g193 g194 g195 g196 g197 n x1 s = some (r, s') → zyR X (d + 1) 193 5 [some (.ref (43 + 3)), some (.int x1), none] [] s (zyE (some (.int r)) s')
  | 0, _ => by
    intro s r s'  h
    have h : (none : Option (Int32 × zy_S)) = some (r, s') := h
    cases h
  | n + 1, x1 => by
    intro s r s'  h
    exact zyC193_5b hd hg192 hg193 hg194 hg195 hg196 hg197 (k5 := zyF193_5 g192 g193 g194 g195 g196 g197 n) (fun x1 s r s'  h => zyC193_5 hd hg192 hg193 hg194 hg195 hg196 hg197 n x1 s r s'  h) h
noncomputable def zyF193_0 (g192 : zy_S → Option (Int32 × zy_S)) (g193 : zy_S → Option (Int32 × zy_S)) (g194 : zy_S → Option (Int32 × zy_S)) (g195 : zy_S → Option (Int32 × zy_S)) (g196 : zy_S → Option (Int32 × zy_S)) (g197 : zy_S → Option (Int32 × zy_S))   (s : zy_S) : Option (Int32 × zy_S) :=
(g194 s).bind fun p6 =>
zyF193_5 g192 g193 g194 g195 g196 g197 zy_fu p6.1 p6.2
theorem zyC193_0 {X : zx_X} {d : Nat} {g192 : zy_S → Option (Int32 × zy_S)} {g193 : zy_S → Option (Int32 × zy_S)} {g194 : zy_S → Option (Int32 × zy_S)} {g195 : zy_S → Option (Int32 × zy_S)} {g196 : zy_S → Option (Int32 × zy_S)} {g197 : zy_S → Option (Int32 × zy_S)}  (hd : 2 ≤ d) (hg192 : ∀  (s : zy_S) (r : Int32) (s' : zy_S), g192 s = some (r, s') → zyR X d 192 0 [some (.ref (43 + 3)), none, none] [] s (zyE (some (.int r)) s')) (hg193 : ∀  (s : zy_S) (r : Int32) (s' : zy_S), g193 s = some (r, s') → zyR X d 193 0 [some (.ref (43 + 3)), none, none] [] s (zyE (some (.int r)) s')) (hg194 : ∀  (s : zy_S) (r : Int32) (s' : zy_S), g194 s = some (r, s') → zyR X d 194 0 [some (.ref (43 + 3)), none, none, none] [] s (zyE (some (.int r)) s')) (hg195 : ∀  (s : zy_S) (r : Int32) (s' : zy_S), g195 s = some (r, s') → zyR X d 195 0 [some (.ref (43 + 3)), none, none, none] [] s (zyE (some (.int r)) s')) (hg196 : ∀  (s : zy_S) (r : Int32) (s' : zy_S), g196 s = some (r, s') → zyR X d 196 0 [some (.ref (43 + 3)), none, none, none] [] s (zyE (some (.int r)) s')) (hg197 : ∀  (s : zy_S) (r : Int32) (s' : zy_S), g197 s = some (r, s') → zyR X d 197 0 [some (.ref (43 + 3)), none, none, none, none] [] s (zyE (some (.int r)) s'))   {s : zy_S} {r : Int32} {s' : zy_S}  (h : zyF193_0 g192 g193 g194 g195 g196 g197 s = some (r, s')) : zyR X (d + 1) 193 0 [some (.ref (43 + 3)), none, none] [] s (zyE (some (.int r)) s') := by
  unfold zyF193_0 at h
  refine zy_0 rfl rfl (show zyR _ _ _ _ [some (.ref (43 + 3)), none, none] [.ref (43 + 3)] _ _ from ?_)
  obtain ⟨p6, hp6, h⟩ := zy_bind h
  refine zy_5 (c := 43) (as := []) (rest := []) (L := [some (.ref (43 + 3)), none, none, none]) (d' := d) rfl rfl rfl (Nat.le_of_ble_eq_true rfl) (by omega) rfl (Nat.le_of_ble_eq_true rfl) rfl rfl (hg194 s _ _ hp6) ?_
  show zyR _ _ _ _ [some (.ref (43 + 3)), none, none] [.int p6.1] _ _
  refine zy_23 rfl rfl (show zyR _ _ _ _ [some (.ref (43 + 3)), some (.int p6.1), none] [] _ _ from ?_)
  exact zy_sub (show zy_le [some (.ref (43 + 3)), some (.int p6.1), none] [some (.ref (43 + 3)), some (.int p6.1), none] from ⟨rfl, ⟨rfl, trivial⟩⟩) (zyC193_5 hd hg192 hg193 hg194 hg195 hg196 hg197 zy_fu p6.1 p6.2 _ _ h)
/-! NineOpinionsModel.compared()I, over what it calls -/
noncomputable def zyF194_37 (g192 : zy_S → Option (Int32 × zy_S)) (g193 : zy_S → Option (Int32 × zy_S)) (g194 : zy_S → Option (Int32 × zy_S)) (g195 : zy_S → Option (Int32 × zy_S)) (g196 : zy_S → Option (Int32 × zy_S)) (g197 : zy_S → Option (Int32 × zy_S))  (x1 : Int32) (x2 : Int32) (s : zy_S) : Option (Int32 × zy_S) :=
(g195 (zy_up s 43 13 ((s.1 43 13) + (1 : Int32)))).bind fun p1 =>
if x2 ≠ (60 : Int32) then
if x2 ≠ (61 : Int32) then
if x1 ≤ p1.1 then
some ((0 : Int32), p1.2)
else
some ((1 : Int32), p1.2)
else
if x1 ≠ p1.1 then
some ((0 : Int32), p1.2)
else
some ((1 : Int32), p1.2)
else
if p1.1 ≤ x1 then
some ((0 : Int32), p1.2)
else
some ((1 : Int32), p1.2)
theorem zyC194_37 {X : zx_X} {d : Nat} {g192 : zy_S → Option (Int32 × zy_S)} {g193 : zy_S → Option (Int32 × zy_S)} {g194 : zy_S → Option (Int32 × zy_S)} {g195 : zy_S → Option (Int32 × zy_S)} {g196 : zy_S → Option (Int32 × zy_S)} {g197 : zy_S → Option (Int32 × zy_S)}  (hd : 1 ≤ d) (hg192 : ∀  (s : zy_S) (r : Int32) (s' : zy_S), g192 s = some (r, s') → zyR X d 192 0 [some (.ref (43 + 3)), none, none] [] s (zyE (some (.int r)) s')) (hg193 : ∀  (s : zy_S) (r : Int32) (s' : zy_S), g193 s = some (r, s') → zyR X d 193 0 [some (.ref (43 + 3)), none, none] [] s (zyE (some (.int r)) s')) (hg194 : ∀  (s : zy_S) (r : Int32) (s' : zy_S), g194 s = some (r, s') → zyR X d 194 0 [some (.ref (43 + 3)), none, none, none] [] s (zyE (some (.int r)) s')) (hg195 : ∀  (s : zy_S) (r : Int32) (s' : zy_S), g195 s = some (r, s') → zyR X d 195 0 [some (.ref (43 + 3)), none, none, none] [] s (zyE (some (.int r)) s')) (hg196 : ∀  (s : zy_S) (r : Int32) (s' : zy_S), g196 s = some (r, s') → zyR X d 196 0 [some (.ref (43 + 3)), none, none, none] [] s (zyE (some (.int r)) s')) (hg197 : ∀  (s : zy_S) (r : Int32) (s' : zy_S), g197 s = some (r, s') → zyR X d 197 0 [some (.ref (43 + 3)), none, none, none, none] [] s (zyE (some (.int r)) s'))  {x1 : Int32} {x2 : Int32} {s : zy_S} {r : Int32} {s' : zy_S}  (h : zyF194_37 g192 g193 g194 g195 g196 g197 x1 x2 s = some (r, s')) : zyR X (d + 1) 194 37 [some (.ref (43 + 3)), some (.int x1), some (.int x2), none] [] s (zyE (some (.int r)) s') := by
  unfold zyF194_37 at h
  refine zy_0 rfl rfl (show zyR _ _ _ _ [some (.ref (43 + 3)), some (.int x1), some (.int x2), none] [.ref (43 + 3)] _ _ from ?_)
  refine zy_33 rfl rfl (show zyR _ _ _ _ [some (.ref (43 + 3)), some (.int x1), some (.int x2), none] [.ref (43 + 3), .ref (43 + 3)] _ _ from ?_)
  refine zy_1 (c := 43) rfl rfl rfl (show zyR _ _ _ _ [some (.ref (43 + 3)), some (.int x1), some (.int x2), none] [.int (s.1 43 13), .ref (43 + 3)] _ _ from ?_)
  refine zy_3 rfl rfl (show zyR _ _ _ _ [some (.ref (43 + 3)), some (.int x1), some (.int x2), none] [.int (1 : Int32), .int (s.1 43 13), .ref (43 + 3)] _ _ from ?_)
  refine zy_10 rfl (show zyR _ _ _ _ [some (.ref (43 + 3)), some (.int x1), some (.int x2), none] [.int ((s.1 43 13) + (1 : Int32)), .ref (43 + 3)] _ _ from ?_)
  refine zy_52 (c := 43) rfl rfl rfl (show zyR _ _ _ _ [some (.ref (43 + 3)), some (.int x1), some (.int x2), none] [] _ _ from ?_)
  refine zy_0 rfl rfl (show zyR _ _ _ _ [some (.ref (43 + 3)), some (.int x1), some (.int x2), none] [.ref (43 + 3)] _ _ from ?_)
  obtain ⟨p1, hp1, h⟩ := zy_bind h
  refine zy_5 (c := 43) (as := []) (rest := []) (L := [some (.ref (43 + 3)), none, none, none]) (d' := d) rfl rfl rfl (Nat.le_of_ble_eq_true rfl) (by omega) rfl (Nat.le_of_ble_eq_true rfl) rfl rfl (hg195 (zy_up s 43 13 ((s.1 43 13) + (1 : Int32))) _ _ hp1) ?_
  show zyR _ _ _ _ [some (.ref (43 + 3)), some (.int x1), some (.int x2), none] [.int p1.1] _ _
  refine zy_23 rfl rfl (show zyR _ _ _ _ [some (.ref (43 + 3)), some (.int x1), some (.int x2), some (.int p1.1)] [] _ _ from ?_)
  refine zy_2 rfl rfl (show zyR _ _ _ _ [some (.ref (43 + 3)), some (.int x1), some (.int x2), some (.int p1.1)] [.int x2] _ _ from ?_)
  refine zy_3 rfl rfl (show zyR _ _ _ _ [some (.ref (43 + 3)), some (.int x1), some (.int x2), some (.int p1.1)] [.int (60 : Int32), .int x2] _ _ from ?_)
  refine zy_25_1 rfl (fun b6 => (show zyR _ _ _ _ [some (.ref (43 + 3)), some (.int x1), some (.int x2), some (.int p1.1)] [] _ _ from ?_)) (fun b6 => (show zyR _ _ _ _ [some (.ref (43 + 3)), some (.int x1), some (.int x2), some (.int p1.1)] [] _ _ from ?_))
  · replace h := zy_ifp h b6
    refine zy_2 rfl rfl (show zyR _ _ _ _ [some (.ref (43 + 3)), some (.int x1), some (.int x2), some (.int p1.1)] [.int x2] _ _ from ?_)
    refine zy_3 rfl rfl (show zyR _ _ _ _ [some (.ref (43 + 3)), some (.int x1), some (.int x2), some (.int p1.1)] [.int (61 : Int32), .int x2] _ _ from ?_)
    refine zy_25_1 rfl (fun b4 => (show zyR _ _ _ _ [some (.ref (43 + 3)), some (.int x1), some (.int x2), some (.int p1.1)] [] _ _ from ?_)) (fun b4 => (show zyR _ _ _ _ [some (.ref (43 + 3)), some (.int x1), some (.int x2), some (.int p1.1)] [] _ _ from ?_))
    · replace h := zy_ifp h b4
      refine zy_2 rfl rfl (show zyR _ _ _ _ [some (.ref (43 + 3)), some (.int x1), some (.int x2), some (.int p1.1)] [.int x1] _ _ from ?_)
      refine zy_2 rfl rfl (show zyR _ _ _ _ [some (.ref (43 + 3)), some (.int x1), some (.int x2), some (.int p1.1)] [.int p1.1, .int x1] _ _ from ?_)
      refine zy_25_5 rfl (fun b2 => (show zyR _ _ _ _ [some (.ref (43 + 3)), some (.int x1), some (.int x2), some (.int p1.1)] [] _ _ from ?_)) (fun b2 => (show zyR _ _ _ _ [some (.ref (43 + 3)), some (.int x1), some (.int x2), some (.int p1.1)] [] _ _ from ?_))
      · replace h := zy_ifp h b2
        refine zy_3 rfl rfl (show zyR _ _ _ _ [some (.ref (43 + 3)), some (.int x1), some (.int x2), some (.int p1.1)] [.int (0 : Int32)] _ _ from ?_)
        obtain ⟨rfl, rfl⟩ := zy_pi h
        exact zy_4 rfl ⟨rfl, rfl⟩
      · replace h := zy_ifn h b2
        refine zy_3 rfl rfl (show zyR _ _ _ _ [some (.ref (43 + 3)), some (.int x1), some (.int x2), some (.int p1.1)] [.int (1 : Int32)] _ _ from ?_)
        refine zy_6 rfl (show zyR _ _ _ _ [some (.ref (43 + 3)), some (.int x1), some (.int x2), some (.int p1.1)] [.int (1 : Int32)] _ _ from ?_)
        obtain ⟨rfl, rfl⟩ := zy_pi h
        exact zy_4 rfl ⟨rfl, rfl⟩
    · replace h := zy_ifn h b4
      refine zy_2 rfl rfl (show zyR _ _ _ _ [some (.ref (43 + 3)), some (.int x1), some (.int x2), some (.int p1.1)] [.int x1] _ _ from ?_)
      refine zy_2 rfl rfl (show zyR _ _ _ _ [some (.ref (43 + 3)), some (.int x1), some (.int x2), some (.int p1.1)] [.int p1.1, .int x1] _ _ from ?_)
      refine zy_25_1 rfl (fun b3 => (show zyR _ _ _ _ [some (.ref (43 + 3)), some (.int x1), some (.int x2), some (.int p1.1)] [] _ _ from ?_)) (fun b3 => (show zyR _ _ _ _ [some (.ref (43 + 3)), some (.int x1), some (.int x2), some (.int p1.1)] [] _ _ from ?_))
      · replace h := zy_ifp h b3
        refine zy_3 rfl rfl (show zyR _ _ _ _ [some (.ref (43 + 3)), some (.int x1), some (.int x2), some (.int p1.1)] [.int (0 : Int32)] _ _ from ?_)
        obtain ⟨rfl, rfl⟩ := zy_pi h
        exact zy_4 rfl ⟨rfl, rfl⟩
      · replace h := zy_ifn h b3
        refine zy_6 rfl (show zyR _ _ _ _ [some (.ref (43 + 3)), some (.int x1), some (.int x2), some (.int p1.1)] [] _ _ from ?_)
        refine zy_3 rfl rfl (show zyR _ _ _ _ [some (.ref (43 + 3)), some (.int x1), some (.int x2), some (.int p1.1)] [.int (1 : Int32)] _ _ from ?_)
        refine zy_6 rfl (show zyR _ _ _ _ [some (.ref (43 + 3)), some (.int x1), some (.int x2), some (.int p1.1)] [.int (1 : Int32)] _ _ from ?_)
        obtain ⟨rfl, rfl⟩ := zy_pi h
        exact zy_4 rfl ⟨rfl, rfl⟩
  · replace h := zy_ifn h b6
    refine zy_2 rfl rfl (show zyR _ _ _ _ [some (.ref (43 + 3)), some (.int x1), some (.int x2), some (.int p1.1)] [.int x1] _ _ from ?_)
    refine zy_2 rfl rfl (show zyR _ _ _ _ [some (.ref (43 + 3)), some (.int x1), some (.int x2), some (.int p1.1)] [.int p1.1, .int x1] _ _ from ?_)
    refine zy_25_3 rfl (fun b5 => (show zyR _ _ _ _ [some (.ref (43 + 3)), some (.int x1), some (.int x2), some (.int p1.1)] [] _ _ from ?_)) (fun b5 => (show zyR _ _ _ _ [some (.ref (43 + 3)), some (.int x1), some (.int x2), some (.int p1.1)] [] _ _ from ?_))
    · replace h := zy_ifp h b5
      refine zy_3 rfl rfl (show zyR _ _ _ _ [some (.ref (43 + 3)), some (.int x1), some (.int x2), some (.int p1.1)] [.int (0 : Int32)] _ _ from ?_)
      obtain ⟨rfl, rfl⟩ := zy_pi h
      exact zy_4 rfl ⟨rfl, rfl⟩
    · replace h := zy_ifn h b5
      refine zy_6 rfl (show zyR _ _ _ _ [some (.ref (43 + 3)), some (.int x1), some (.int x2), some (.int p1.1)] [] _ _ from ?_)
      refine zy_3 rfl rfl (show zyR _ _ _ _ [some (.ref (43 + 3)), some (.int x1), some (.int x2), some (.int p1.1)] [.int (1 : Int32)] _ _ from ?_)
      refine zy_6 rfl (show zyR _ _ _ _ [some (.ref (43 + 3)), some (.int x1), some (.int x2), some (.int p1.1)] [.int (1 : Int32)] _ _ from ?_)
      obtain ⟨rfl, rfl⟩ := zy_pi h
      exact zy_4 rfl ⟨rfl, rfl⟩
noncomputable def zyF194_0 (g192 : zy_S → Option (Int32 × zy_S)) (g193 : zy_S → Option (Int32 × zy_S)) (g194 : zy_S → Option (Int32 × zy_S)) (g195 : zy_S → Option (Int32 × zy_S)) (g196 : zy_S → Option (Int32 × zy_S)) (g197 : zy_S → Option (Int32 × zy_S))   (s : zy_S) : Option (Int32 × zy_S) :=
(g195 s).bind fun p7 =>
(zyF198 p7.2).bind fun p8 =>
if 0 ≤ (p8.2.1 43 15) then
some (p7.1, p8.2)
else
if p8.1 = (60 : Int32) then
zyF194_37 g192 g193 g194 g195 g196 g197 p7.1 p8.1 p8.2
else
if p8.1 = (61 : Int32) then
zyF194_37 g192 g193 g194 g195 g196 g197 p7.1 p8.1 p8.2
else
if p8.1 = (62 : Int32) then
zyF194_37 g192 g193 g194 g195 g196 g197 p7.1 p8.1 p8.2
else
some (p7.1, p8.2)
theorem zyC194_0 {X : zx_X} {d : Nat} {g192 : zy_S → Option (Int32 × zy_S)} {g193 : zy_S → Option (Int32 × zy_S)} {g194 : zy_S → Option (Int32 × zy_S)} {g195 : zy_S → Option (Int32 × zy_S)} {g196 : zy_S → Option (Int32 × zy_S)} {g197 : zy_S → Option (Int32 × zy_S)}  (hd : 1 ≤ d) (hg192 : ∀  (s : zy_S) (r : Int32) (s' : zy_S), g192 s = some (r, s') → zyR X d 192 0 [some (.ref (43 + 3)), none, none] [] s (zyE (some (.int r)) s')) (hg193 : ∀  (s : zy_S) (r : Int32) (s' : zy_S), g193 s = some (r, s') → zyR X d 193 0 [some (.ref (43 + 3)), none, none] [] s (zyE (some (.int r)) s')) (hg194 : ∀  (s : zy_S) (r : Int32) (s' : zy_S), g194 s = some (r, s') → zyR X d 194 0 [some (.ref (43 + 3)), none, none, none] [] s (zyE (some (.int r)) s')) (hg195 : ∀  (s : zy_S) (r : Int32) (s' : zy_S), g195 s = some (r, s') → zyR X d 195 0 [some (.ref (43 + 3)), none, none, none] [] s (zyE (some (.int r)) s')) (hg196 : ∀  (s : zy_S) (r : Int32) (s' : zy_S), g196 s = some (r, s') → zyR X d 196 0 [some (.ref (43 + 3)), none, none, none] [] s (zyE (some (.int r)) s')) (hg197 : ∀  (s : zy_S) (r : Int32) (s' : zy_S), g197 s = some (r, s') → zyR X d 197 0 [some (.ref (43 + 3)), none, none, none, none] [] s (zyE (some (.int r)) s'))   {s : zy_S} {r : Int32} {s' : zy_S}  (h : zyF194_0 g192 g193 g194 g195 g196 g197 s = some (r, s')) : zyR X (d + 1) 194 0 [some (.ref (43 + 3)), none, none, none] [] s (zyE (some (.int r)) s') := by
  unfold zyF194_0 at h
  refine zy_0 rfl rfl (show zyR _ _ _ _ [some (.ref (43 + 3)), none, none, none] [.ref (43 + 3)] _ _ from ?_)
  obtain ⟨p7, hp7, h⟩ := zy_bind h
  refine zy_5 (c := 43) (as := []) (rest := []) (L := [some (.ref (43 + 3)), none, none, none]) (d' := d) rfl rfl rfl (Nat.le_of_ble_eq_true rfl) (by omega) rfl (Nat.le_of_ble_eq_true rfl) rfl rfl (hg195 s _ _ hp7) ?_
  show zyR _ _ _ _ [some (.ref (43 + 3)), none, none, none] [.int p7.1] _ _
  refine zy_23 rfl rfl (show zyR _ _ _ _ [some (.ref (43 + 3)), some (.int p7.1), none, none] [] _ _ from ?_)
  refine zy_0 rfl rfl (show zyR _ _ _ _ [some (.ref (43 + 3)), some (.int p7.1), none, none] [.ref (43 + 3)] _ _ from ?_)
  obtain ⟨p8, hp8, h⟩ := zy_bind h
  refine zy_5 (c := 43) (as := []) (rest := []) (L := [some (.ref (43 + 3))]) (d' := 1) rfl rfl rfl (Nat.le_of_ble_eq_true rfl) (by omega) rfl (Nat.le_of_ble_eq_true rfl) rfl rfl (zyC198 hp8) ?_
  show zyR _ _ _ _ [some (.ref (43 + 3)), some (.int p7.1), none, none] [.int p8.1] _ _
  refine zy_23 rfl rfl (show zyR _ _ _ _ [some (.ref (43 + 3)), some (.int p7.1), some (.int p8.1), none] [] _ _ from ?_)
  refine zy_0 rfl rfl (show zyR _ _ _ _ [some (.ref (43 + 3)), some (.int p7.1), some (.int p8.1), none] [.ref (43 + 3)] _ _ from ?_)
  refine zy_1 (c := 43) rfl rfl rfl (show zyR _ _ _ _ [some (.ref (43 + 3)), some (.int p7.1), some (.int p8.1), none] [.int (p8.2.1 43 15)] _ _ from ?_)
  refine zy_24_3 rfl (fun b12 => (show zyR _ _ _ _ [some (.ref (43 + 3)), some (.int p7.1), some (.int p8.1), none] [] _ _ from ?_)) (fun b12 => (show zyR _ _ _ _ [some (.ref (43 + 3)), some (.int p7.1), some (.int p8.1), none] [] _ _ from ?_))
  · replace h := zy_ifp h b12
    refine zy_2 rfl rfl (show zyR _ _ _ _ [some (.ref (43 + 3)), some (.int p7.1), some (.int p8.1), none] [.int p7.1] _ _ from ?_)
    obtain ⟨rfl, rfl⟩ := zy_pi h
    exact zy_4 rfl ⟨rfl, rfl⟩
  · replace h := zy_ifn h b12
    refine zy_2 rfl rfl (show zyR _ _ _ _ [some (.ref (43 + 3)), some (.int p7.1), some (.int p8.1), none] [.int p8.1] _ _ from ?_)
    refine zy_3 rfl rfl (show zyR _ _ _ _ [some (.ref (43 + 3)), some (.int p7.1), some (.int p8.1), none] [.int (60 : Int32), .int p8.1] _ _ from ?_)
    refine zy_25_0 rfl (fun b11 => (show zyR _ _ _ _ [some (.ref (43 + 3)), some (.int p7.1), some (.int p8.1), none] [] _ _ from ?_)) (fun b11 => (show zyR _ _ _ _ [some (.ref (43 + 3)), some (.int p7.1), some (.int p8.1), none] [] _ _ from ?_))
    · replace h := zy_ifp h b11
      exact zy_sub (show zy_le [some (.ref (43 + 3)), some (.int p7.1), some (.int p8.1), none] [some (.ref (43 + 3)), some (.int p7.1), some (.int p8.1), none] from ⟨rfl, ⟨rfl, ⟨rfl, trivial⟩⟩⟩) (zyC194_37 hd hg192 hg193 hg194 hg195 hg196 hg197 h)
    · replace h := zy_ifn h b11
      refine zy_2 rfl rfl (show zyR _ _ _ _ [some (.ref (43 + 3)), some (.int p7.1), some (.int p8.1), none] [.int p8.1] _ _ from ?_)
      refine zy_3 rfl rfl (show zyR _ _ _ _ [some (.ref (43 + 3)), some (.int p7.1), some (.int p8.1), none] [.int (61 : Int32), .int p8.1] _ _ from ?_)
      refine zy_25_0 rfl (fun b10 => (show zyR _ _ _ _ [some (.ref (43 + 3)), some (.int p7.1), some (.int p8.1), none] [] _ _ from ?_)) (fun b10 => (show zyR _ _ _ _ [some (.ref (43 + 3)), some (.int p7.1), some (.int p8.1), none] [] _ _ from ?_))
      · replace h := zy_ifp h b10
        exact zy_sub (show zy_le [some (.ref (43 + 3)), some (.int p7.1), some (.int p8.1), none] [some (.ref (43 + 3)), some (.int p7.1), some (.int p8.1), none] from ⟨rfl, ⟨rfl, ⟨rfl, trivial⟩⟩⟩) (zyC194_37 hd hg192 hg193 hg194 hg195 hg196 hg197 h)
      · replace h := zy_ifn h b10
        refine zy_2 rfl rfl (show zyR _ _ _ _ [some (.ref (43 + 3)), some (.int p7.1), some (.int p8.1), none] [.int p8.1] _ _ from ?_)
        refine zy_3 rfl rfl (show zyR _ _ _ _ [some (.ref (43 + 3)), some (.int p7.1), some (.int p8.1), none] [.int (62 : Int32), .int p8.1] _ _ from ?_)
        refine zy_25_0 rfl (fun b9 => (show zyR _ _ _ _ [some (.ref (43 + 3)), some (.int p7.1), some (.int p8.1), none] [] _ _ from ?_)) (fun b9 => (show zyR _ _ _ _ [some (.ref (43 + 3)), some (.int p7.1), some (.int p8.1), none] [] _ _ from ?_))
        · replace h := zy_ifp h b9
          exact zy_sub (show zy_le [some (.ref (43 + 3)), some (.int p7.1), some (.int p8.1), none] [some (.ref (43 + 3)), some (.int p7.1), some (.int p8.1), none] from ⟨rfl, ⟨rfl, ⟨rfl, trivial⟩⟩⟩) (zyC194_37 hd hg192 hg193 hg194 hg195 hg196 hg197 h)
        · replace h := zy_ifn h b9
          refine zy_2 rfl rfl (show zyR _ _ _ _ [some (.ref (43 + 3)), some (.int p7.1), some (.int p8.1), none] [.int p7.1] _ _ from ?_)
          obtain ⟨rfl, rfl⟩ := zy_pi h
          exact zy_4 rfl ⟨rfl, rfl⟩
