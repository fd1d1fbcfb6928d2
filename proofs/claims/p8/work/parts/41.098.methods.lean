/-! PART 41.98: methods as functions. Made by wip/v4/dcp.py. -/
/-! NineOpinions$Law.push(I)V -/
noncomputable def zyF66   (x1 : Int32) (s : zy_S) : Option (Int32 × zy_S) :=
if (128 : Int32) ≤ (s.1 5 4) then
some ((0 : Int32), s)
else
if zy_in (s.1 5 4) 128 then
some ((0 : Int32), (zy_up (zy_up s 7 ((s.1 5 4)).toNatClampNeg x1) 5 4 ((s.1 5 4) + (1 : Int32))))
else none
theorem zyC66 {X : zx_X}     {x1 : Int32} {s : zy_S} {r : Int32} {s' : zy_S}  (h : zyF66 x1 s = some (r, s')) : zyR X 1 66 0 [some (.ref (5 + 3)), some (.int x1)] [] s (zyE none s') := by
  unfold zyF66 at h
  refine zy_0 rfl rfl (show zyR _ _ _ _ [some (.ref (5 + 3)), some (.int x1)] [.ref (5 + 3)] _ _ from ?_)
  refine zy_1 (c := 5) rfl rfl rfl (show zyR _ _ _ _ [some (.ref (5 + 3)), some (.int x1)] [.int (s.1 5 4)] _ _ from ?_)
  refine zy_3 rfl rfl (show zyR _ _ _ _ [some (.ref (5 + 3)), some (.int x1)] [.int (128 : Int32), .int (s.1 5 4)] _ _ from ?_)
  refine zy_25_3 rfl (fun b2 => (show zyR _ _ _ _ [some (.ref (5 + 3)), some (.int x1)] [] _ _ from ?_)) (fun b2 => (show zyR _ _ _ _ [some (.ref (5 + 3)), some (.int x1)] [] _ _ from ?_))
  · replace h := zy_ifp h b2
    cases h
    exact zy_66 rfl ⟨rfl, rfl⟩
  · replace h := zy_ifn h b2
    refine zy_0 rfl rfl (show zyR _ _ _ _ [some (.ref (5 + 3)), some (.int x1)] [.ref (5 + 3)] _ _ from ?_)
    refine zy_1r (c := 5) rfl rfl rfl (show zyR _ _ _ _ [some (.ref (5 + 3)), some (.int x1)] [.ref (7 + 3)] _ _ from ?_)
    refine zy_0 rfl rfl (show zyR _ _ _ _ [some (.ref (5 + 3)), some (.int x1)] [.ref (5 + 3), .ref (7 + 3)] _ _ from ?_)
    refine zy_1 (c := 5) rfl rfl rfl (show zyR _ _ _ _ [some (.ref (5 + 3)), some (.int x1)] [.int (s.1 5 4), .ref (7 + 3)] _ _ from ?_)
    refine zy_2 rfl rfl (show zyR _ _ _ _ [some (.ref (5 + 3)), some (.int x1)] [.int x1, .int (s.1 5 4), .ref (7 + 3)] _ _ from ?_)
    obtain ⟨c1, h⟩ := zy_if h
    refine zy_27 (c := 7) rfl rfl c1 (show zyR _ _ _ _ [some (.ref (5 + 3)), some (.int x1)] [] _ _ from ?_)
    refine zy_0 rfl rfl (show zyR _ _ _ _ [some (.ref (5 + 3)), some (.int x1)] [.ref (5 + 3)] _ _ from ?_)
    refine zy_33 rfl rfl (show zyR _ _ _ _ [some (.ref (5 + 3)), some (.int x1)] [.ref (5 + 3), .ref (5 + 3)] _ _ from ?_)
    refine zy_1 (c := 5) rfl rfl rfl (show zyR _ _ _ _ [some (.ref (5 + 3)), some (.int x1)] [.int (s.1 5 4), .ref (5 + 3)] _ _ from ?_)
    refine zy_3 rfl rfl (show zyR _ _ _ _ [some (.ref (5 + 3)), some (.int x1)] [.int (1 : Int32), .int (s.1 5 4), .ref (5 + 3)] _ _ from ?_)
    refine zy_10 rfl (show zyR _ _ _ _ [some (.ref (5 + 3)), some (.int x1)] [.int ((s.1 5 4) + (1 : Int32)), .ref (5 + 3)] _ _ from ?_)
    refine zy_52 (c := 5) rfl rfl rfl (show zyR _ _ _ _ [some (.ref (5 + 3)), some (.int x1)] [] _ _ from ?_)
    cases h
    exact zy_66 rfl ⟨rfl, rfl⟩
/-! NineOpinions$Law.pop()I -/
noncomputable def zyF67    (s : zy_S) : Option (Int32 × zy_S) :=
if 0 < (s.1 5 4) then
if zy_in ((s.1 5 4) - (1 : Int32)) 128 then
some ((s.1 7 (((s.1 5 4) - (1 : Int32))).toNatClampNeg), (zy_up s 5 4 ((s.1 5 4) - (1 : Int32))))
else none
else
some ((0 : Int32), s)
theorem zyC67 {X : zx_X}      {s : zy_S} {r : Int32} {s' : zy_S}  (h : zyF67 s = some (r, s')) : zyR X 1 67 0 [some (.ref (5 + 3))] [] s (zyE (some (.int r)) s') := by
  unfold zyF67 at h
  refine zy_0 rfl rfl (show zyR _ _ _ _ [some (.ref (5 + 3))] [.ref (5 + 3)] _ _ from ?_)
  refine zy_1 (c := 5) rfl rfl rfl (show zyR _ _ _ _ [some (.ref (5 + 3))] [.int (s.1 5 4)] _ _ from ?_)
  refine zy_24_4 rfl (fun b2 => (show zyR _ _ _ _ [some (.ref (5 + 3))] [] _ _ from ?_)) (fun b2 => (show zyR _ _ _ _ [some (.ref (5 + 3))] [] _ _ from ?_))
  · replace h := zy_ifp h b2
    refine zy_0 rfl rfl (show zyR _ _ _ _ [some (.ref (5 + 3))] [.ref (5 + 3)] _ _ from ?_)
    refine zy_33 rfl rfl (show zyR _ _ _ _ [some (.ref (5 + 3))] [.ref (5 + 3), .ref (5 + 3)] _ _ from ?_)
    refine zy_1 (c := 5) rfl rfl rfl (show zyR _ _ _ _ [some (.ref (5 + 3))] [.int (s.1 5 4), .ref (5 + 3)] _ _ from ?_)
    refine zy_3 rfl rfl (show zyR _ _ _ _ [some (.ref (5 + 3))] [.int (1 : Int32), .int (s.1 5 4), .ref (5 + 3)] _ _ from ?_)
    refine zy_11 rfl (show zyR _ _ _ _ [some (.ref (5 + 3))] [.int ((s.1 5 4) - (1 : Int32)), .ref (5 + 3)] _ _ from ?_)
    refine zy_52 (c := 5) rfl rfl rfl (show zyR _ _ _ _ [some (.ref (5 + 3))] [] _ _ from ?_)
    refine zy_0 rfl rfl (show zyR _ _ _ _ [some (.ref (5 + 3))] [.ref (5 + 3)] _ _ from ?_)
    refine zy_1r (c := 5) rfl rfl rfl (show zyR _ _ _ _ [some (.ref (5 + 3))] [.ref (7 + 3)] _ _ from ?_)
    refine zy_0 rfl rfl (show zyR _ _ _ _ [some (.ref (5 + 3))] [.ref (5 + 3), .ref (7 + 3)] _ _ from ?_)
    refine zy_1 (c := 5) rfl rfl rfl (show zyR _ _ _ _ [some (.ref (5 + 3))] [.int ((s.1 5 4) - (1 : Int32)), .ref (7 + 3)] _ _ from ?_)
    obtain ⟨c1, h⟩ := zy_if h
    refine zy_26 (c := 7) rfl rfl c1 (show zyR _ _ _ _ [some (.ref (5 + 3))] [.int (s.1 7 (((s.1 5 4) - (1 : Int32))).toNatClampNeg)] _ _ from ?_)
    obtain ⟨rfl, rfl⟩ := zy_pi h
    exact zy_4 rfl ⟨rfl, rfl⟩
  · replace h := zy_ifn h b2
    refine zy_3 rfl rfl (show zyR _ _ _ _ [some (.ref (5 + 3))] [.int (0 : Int32)] _ _ from ?_)
    obtain ⟨rfl, rfl⟩ := zy_pi h
    exact zy_4 rfl ⟨rfl, rfl⟩
/-! java/lang/Math.max(II)I -/
noncomputable def zyF69   (x0 : Int32) (x1 : Int32) (s : zy_S) : Option (Int32 × zy_S) :=
if x0 < x1 then
some (x1, s)
else
some (x0, s)
theorem zyC69 {X : zx_X}     {x0 : Int32} {x1 : Int32} {s : zy_S} {r : Int32} {s' : zy_S}  (h : zyF69 x0 x1 s = some (r, s')) : zyR X 1 69 0 [some (.int x0), some (.int x1)] [] s (zyE (some (.int r)) s') := by
  unfold zyF69 at h
  refine zy_2 rfl rfl (show zyR _ _ _ _ [some (.int x0), some (.int x1)] [.int x0] _ _ from ?_)
  refine zy_2 rfl rfl (show zyR _ _ _ _ [some (.int x0), some (.int x1)] [.int x1, .int x0] _ _ from ?_)
  refine zy_25_2 rfl (fun b1 => (show zyR _ _ _ _ [some (.int x0), some (.int x1)] [] _ _ from ?_)) (fun b1 => (show zyR _ _ _ _ [some (.int x0), some (.int x1)] [] _ _ from ?_))
  · replace h := zy_ifp h b1
    refine zy_2 rfl rfl (show zyR _ _ _ _ [some (.int x0), some (.int x1)] [.int x1] _ _ from ?_)
    obtain ⟨rfl, rfl⟩ := zy_pi h
    exact zy_4 rfl ⟨rfl, rfl⟩
  · replace h := zy_ifn h b1
    refine zy_2 rfl rfl (show zyR _ _ _ _ [some (.int x0), some (.int x1)] [.int x0] _ _ from ?_)
    refine zy_6 rfl (show zyR _ _ _ _ [some (.int x0), some (.int x1)] [.int x0] _ _ from ?_)
    obtain ⟨rfl, rfl⟩ := zy_pi h
    exact zy_4 rfl ⟨rfl, rfl⟩
/-! NineOpinions$Law.joined(III)I -/
noncomputable def zyF71   (x0 : Int32) (x1 : Int32) (x2 : Int32) (s : zy_S) : Option (Int32 × zy_S) :=
if x1 = (38 : Int32) then
if x0 = 0 then
some ((0 : Int32), s)
else
if x2 = 0 then
some ((0 : Int32), s)
else
some ((1 : Int32), s)
else
if x1 = (42 : Int32) then
some ((x0 * x2), s)
else
if x1 = (43 : Int32) then
some ((x0 + x2), s)
else
if x1 = (45 : Int32) then
some ((x0 - x2), s)
else
if x1 = (47 : Int32) then
if x2 ≠ 0 then
if ¬ x2 = 0 then
some ((x0 / x2), s)
else none
else
some ((0 : Int32), s)
else
if x1 = (60 : Int32) then
if x2 ≤ x0 then
some ((0 : Int32), s)
else
some ((1 : Int32), s)
else
if x1 = (61 : Int32) then
if x0 ≠ x2 then
some ((0 : Int32), s)
else
some ((1 : Int32), s)
else
if x1 = (62 : Int32) then
if x0 ≤ x2 then
some ((0 : Int32), s)
else
some ((1 : Int32), s)
else
if x1 = (124 : Int32) then
if x0 ≠ 0 then
some ((1 : Int32), s)
else
if x2 = 0 then
some ((0 : Int32), s)
else
some ((1 : Int32), s)
else
if x2 ≠ 0 then
if ¬ x2 = 0 then
some ((x0 - x0 / x2 * x2), s)
else none
else
some ((0 : Int32), s)
theorem zyC71 {X : zx_X}     {x0 : Int32} {x1 : Int32} {x2 : Int32} {s : zy_S} {r : Int32} {s' : zy_S}  (h : zyF71 x0 x1 x2 s = some (r, s')) : zyR X 1 71 0 [some (.int x0), some (.int x1), some (.int x2)] [] s (zyE (some (.int r)) s') := by
  unfold zyF71 at h
  refine zy_2 rfl rfl (show zyR _ _ _ _ [some (.int x0), some (.int x1), some (.int x2)] [.int x1] _ _ from ?_)
  refine zy_51 rfl (by decide) ?_
  refine zy_swp (fun b3 => (show zyR _ _ _ _ [some (.int x0), some (.int x1), some (.int x2)] [] _ _ from ?_)) (fun b3 => ?_)
  · replace h := zy_ifp h b3
    refine zy_2 rfl rfl (show zyR _ _ _ _ [some (.int x0), some (.int x1), some (.int x2)] [.int x0] _ _ from ?_)
    refine zy_24_0 rfl (fun b2 => (show zyR _ _ _ _ [some (.int x0), some (.int x1), some (.int x2)] [] _ _ from ?_)) (fun b2 => (show zyR _ _ _ _ [some (.int x0), some (.int x1), some (.int x2)] [] _ _ from ?_))
    · replace h := zy_ifp h b2
      refine zy_3 rfl rfl (show zyR _ _ _ _ [some (.int x0), some (.int x1), some (.int x2)] [.int (0 : Int32)] _ _ from ?_)
      obtain ⟨rfl, rfl⟩ := zy_pi h
      exact zy_4 rfl ⟨rfl, rfl⟩
    · replace h := zy_ifn h b2
      refine zy_2 rfl rfl (show zyR _ _ _ _ [some (.int x0), some (.int x1), some (.int x2)] [.int x2] _ _ from ?_)
      refine zy_24_0 rfl (fun b1 => (show zyR _ _ _ _ [some (.int x0), some (.int x1), some (.int x2)] [] _ _ from ?_)) (fun b1 => (show zyR _ _ _ _ [some (.int x0), some (.int x1), some (.int x2)] [] _ _ from ?_))
      · replace h := zy_ifp h b1
        refine zy_3 rfl rfl (show zyR _ _ _ _ [some (.int x0), some (.int x1), some (.int x2)] [.int (0 : Int32)] _ _ from ?_)
        obtain ⟨rfl, rfl⟩ := zy_pi h
        exact zy_4 rfl ⟨rfl, rfl⟩
      · replace h := zy_ifn h b1
        refine zy_3 rfl rfl (show zyR _ _ _ _ [some (.int x0), some (.int x1), some (.int x2)] [.int (1 : Int32)] _ _ from ?_)
        refine zy_6 rfl (show zyR _ _ _ _ [some (.int x0), some (.int x1), some (.int x2)] [.int (1 : Int32)] _ _ from ?_)
        obtain ⟨rfl, rfl⟩ := zy_pi h
        exact zy_4 rfl ⟨rfl, rfl⟩
  replace h := zy_ifn h b3
  refine zy_swp (fun b4 => (show zyR _ _ _ _ [some (.int x0), some (.int x1), some (.int x2)] [] _ _ from ?_)) (fun b4 => ?_)
  · replace h := zy_ifp h b4
    refine zy_2 rfl rfl (show zyR _ _ _ _ [some (.int x0), some (.int x1), some (.int x2)] [.int x0] _ _ from ?_)
    refine zy_2 rfl rfl (show zyR _ _ _ _ [some (.int x0), some (.int x1), some (.int x2)] [.int x2, .int x0] _ _ from ?_)
    refine zy_12 rfl (show zyR _ _ _ _ [some (.int x0), some (.int x1), some (.int x2)] [.int (x0 * x2)] _ _ from ?_)
    obtain ⟨rfl, rfl⟩ := zy_pi h
    exact zy_4 rfl ⟨rfl, rfl⟩
  replace h := zy_ifn h b4
  refine zy_swp (fun b5 => (show zyR _ _ _ _ [some (.int x0), some (.int x1), some (.int x2)] [] _ _ from ?_)) (fun b5 => ?_)
  · replace h := zy_ifp h b5
    refine zy_2 rfl rfl (show zyR _ _ _ _ [some (.int x0), some (.int x1), some (.int x2)] [.int x0] _ _ from ?_)
    refine zy_2 rfl rfl (show zyR _ _ _ _ [some (.int x0), some (.int x1), some (.int x2)] [.int x2, .int x0] _ _ from ?_)
    refine zy_10 rfl (show zyR _ _ _ _ [some (.int x0), some (.int x1), some (.int x2)] [.int (x0 + x2)] _ _ from ?_)
    obtain ⟨rfl, rfl⟩ := zy_pi h
    exact zy_4 rfl ⟨rfl, rfl⟩
  replace h := zy_ifn h b5
  refine zy_swp (fun b6 => (show zyR _ _ _ _ [some (.int x0), some (.int x1), some (.int x2)] [] _ _ from ?_)) (fun b6 => ?_)
  · replace h := zy_ifp h b6
    refine zy_2 rfl rfl (show zyR _ _ _ _ [some (.int x0), some (.int x1), some (.int x2)] [.int x0] _ _ from ?_)
    refine zy_2 rfl rfl (show zyR _ _ _ _ [some (.int x0), some (.int x1), some (.int x2)] [.int x2, .int x0] _ _ from ?_)
    refine zy_11 rfl (show zyR _ _ _ _ [some (.int x0), some (.int x1), some (.int x2)] [.int (x0 - x2)] _ _ from ?_)
    obtain ⟨rfl, rfl⟩ := zy_pi h
    exact zy_4 rfl ⟨rfl, rfl⟩
  replace h := zy_ifn h b6
  refine zy_swp (fun b9 => (show zyR _ _ _ _ [some (.int x0), some (.int x1), some (.int x2)] [] _ _ from ?_)) (fun b9 => ?_)
  · replace h := zy_ifp h b9
    refine zy_2 rfl rfl (show zyR _ _ _ _ [some (.int x0), some (.int x1), some (.int x2)] [.int x2] _ _ from ?_)
    refine zy_24_1 rfl (fun b8 => (show zyR _ _ _ _ [some (.int x0), some (.int x1), some (.int x2)] [] _ _ from ?_)) (fun b8 => (show zyR _ _ _ _ [some (.int x0), some (.int x1), some (.int x2)] [] _ _ from ?_))
    · replace h := zy_ifp h b8
      refine zy_2 rfl rfl (show zyR _ _ _ _ [some (.int x0), some (.int x1), some (.int x2)] [.int x0] _ _ from ?_)
      refine zy_2 rfl rfl (show zyR _ _ _ _ [some (.int x0), some (.int x1), some (.int x2)] [.int x2, .int x0] _ _ from ?_)
      obtain ⟨c7, h⟩ := zy_if h
      refine zy_19 rfl c7 (show zyR _ _ _ _ [some (.int x0), some (.int x1), some (.int x2)] [.int (x0 / x2)] _ _ from ?_)
      obtain ⟨rfl, rfl⟩ := zy_pi h
      exact zy_4 rfl ⟨rfl, rfl⟩
    · replace h := zy_ifn h b8
      refine zy_3 rfl rfl (show zyR _ _ _ _ [some (.int x0), some (.int x1), some (.int x2)] [.int (0 : Int32)] _ _ from ?_)
      refine zy_6 rfl (show zyR _ _ _ _ [some (.int x0), some (.int x1), some (.int x2)] [.int (0 : Int32)] _ _ from ?_)
      obtain ⟨rfl, rfl⟩ := zy_pi h
      exact zy_4 rfl ⟨rfl, rfl⟩
  replace h := zy_ifn h b9
  refine zy_swp (fun b11 => (show zyR _ _ _ _ [some (.int x0), some (.int x1), some (.int x2)] [] _ _ from ?_)) (fun b11 => ?_)
  · replace h := zy_ifp h b11
    refine zy_2 rfl rfl (show zyR _ _ _ _ [some (.int x0), some (.int x1), some (.int x2)] [.int x0] _ _ from ?_)
    refine zy_2 rfl rfl (show zyR _ _ _ _ [some (.int x0), some (.int x1), some (.int x2)] [.int x2, .int x0] _ _ from ?_)
    refine zy_25_3 rfl (fun b10 => (show zyR _ _ _ _ [some (.int x0), some (.int x1), some (.int x2)] [] _ _ from ?_)) (fun b10 => (show zyR _ _ _ _ [some (.int x0), some (.int x1), some (.int x2)] [] _ _ from ?_))
    · replace h := zy_ifp h b10
      refine zy_3 rfl rfl (show zyR _ _ _ _ [some (.int x0), some (.int x1), some (.int x2)] [.int (0 : Int32)] _ _ from ?_)
      obtain ⟨rfl, rfl⟩ := zy_pi h
      exact zy_4 rfl ⟨rfl, rfl⟩
    · replace h := zy_ifn h b10
      refine zy_3 rfl rfl (show zyR _ _ _ _ [some (.int x0), some (.int x1), some (.int x2)] [.int (1 : Int32)] _ _ from ?_)
      refine zy_6 rfl (show zyR _ _ _ _ [some (.int x0), some (.int x1), some (.int x2)] [.int (1 : Int32)] _ _ from ?_)
      obtain ⟨rfl, rfl⟩ := zy_pi h
      exact zy_4 rfl ⟨rfl, rfl⟩
  replace h := zy_ifn h b11
  refine zy_swp (fun b13 => (show zyR _ _ _ _ [some (.int x0), some (.int x1), some (.int x2)] [] _ _ from ?_)) (fun b13 => ?_)
  · replace h := zy_ifp h b13
    refine zy_2 rfl rfl (show zyR _ _ _ _ [some (.int x0), some (.int x1), some (.int x2)] [.int x0] _ _ from ?_)
    refine zy_2 rfl rfl (show zyR _ _ _ _ [some (.int x0), some (.int x1), some (.int x2)] [.int x2, .int x0] _ _ from ?_)
    refine zy_25_1 rfl (fun b12 => (show zyR _ _ _ _ [some (.int x0), some (.int x1), some (.int x2)] [] _ _ from ?_)) (fun b12 => (show zyR _ _ _ _ [some (.int x0), some (.int x1), some (.int x2)] [] _ _ from ?_))
    · replace h := zy_ifp h b12
      refine zy_3 rfl rfl (show zyR _ _ _ _ [some (.int x0), some (.int x1), some (.int x2)] [.int (0 : Int32)] _ _ from ?_)
      obtain ⟨rfl, rfl⟩ := zy_pi h
      exact zy_4 rfl ⟨rfl, rfl⟩
    · replace h := zy_ifn h b12
      refine zy_3 rfl rfl (show zyR _ _ _ _ [some (.int x0), some (.int x1), some (.int x2)] [.int (1 : Int32)] _ _ from ?_)
      refine zy_6 rfl (show zyR _ _ _ _ [some (.int x0), some (.int x1), some (.int x2)] [.int (1 : Int32)] _ _ from ?_)
      obtain ⟨rfl, rfl⟩ := zy_pi h
      exact zy_4 rfl ⟨rfl, rfl⟩
  replace h := zy_ifn h b13
  refine zy_swp (fun b15 => (show zyR _ _ _ _ [some (.int x0), some (.int x1), some (.int x2)] [] _ _ from ?_)) (fun b15 => ?_)
  · replace h := zy_ifp h b15
    refine zy_2 rfl rfl (show zyR _ _ _ _ [some (.int x0), some (.int x1), some (.int x2)] [.int x0] _ _ from ?_)
    refine zy_2 rfl rfl (show zyR _ _ _ _ [some (.int x0), some (.int x1), some (.int x2)] [.int x2, .int x0] _ _ from ?_)
    refine zy_25_5 rfl (fun b14 => (show zyR _ _ _ _ [some (.int x0), some (.int x1), some (.int x2)] [] _ _ from ?_)) (fun b14 => (show zyR _ _ _ _ [some (.int x0), some (.int x1), some (.int x2)] [] _ _ from ?_))
    · replace h := zy_ifp h b14
      refine zy_3 rfl rfl (show zyR _ _ _ _ [some (.int x0), some (.int x1), some (.int x2)] [.int (0 : Int32)] _ _ from ?_)
      obtain ⟨rfl, rfl⟩ := zy_pi h
      exact zy_4 rfl ⟨rfl, rfl⟩
    · replace h := zy_ifn h b14
      refine zy_3 rfl rfl (show zyR _ _ _ _ [some (.int x0), some (.int x1), some (.int x2)] [.int (1 : Int32)] _ _ from ?_)
      refine zy_6 rfl (show zyR _ _ _ _ [some (.int x0), some (.int x1), some (.int x2)] [.int (1 : Int32)] _ _ from ?_)
      obtain ⟨rfl, rfl⟩ := zy_pi h
      exact zy_4 rfl ⟨rfl, rfl⟩
  replace h := zy_ifn h b15
  refine zy_swp (fun b18 => (show zyR _ _ _ _ [some (.int x0), some (.int x1), some (.int x2)] [] _ _ from ?_)) (fun b18 => ?_)
  · replace h := zy_ifp h b18
    refine zy_2 rfl rfl (show zyR _ _ _ _ [some (.int x0), some (.int x1), some (.int x2)] [.int x0] _ _ from ?_)
    refine zy_24_1 rfl (fun b17 => (show zyR _ _ _ _ [some (.int x0), some (.int x1), some (.int x2)] [] _ _ from ?_)) (fun b17 => (show zyR _ _ _ _ [some (.int x0), some (.int x1), some (.int x2)] [] _ _ from ?_))
    · replace h := zy_ifp h b17
      refine zy_3 rfl rfl (show zyR _ _ _ _ [some (.int x0), some (.int x1), some (.int x2)] [.int (1 : Int32)] _ _ from ?_)
      refine zy_6 rfl (show zyR _ _ _ _ [some (.int x0), some (.int x1), some (.int x2)] [.int (1 : Int32)] _ _ from ?_)
      obtain ⟨rfl, rfl⟩ := zy_pi h
      exact zy_4 rfl ⟨rfl, rfl⟩
    · replace h := zy_ifn h b17
      refine zy_2 rfl rfl (show zyR _ _ _ _ [some (.int x0), some (.int x1), some (.int x2)] [.int x2] _ _ from ?_)
      refine zy_24_0 rfl (fun b16 => (show zyR _ _ _ _ [some (.int x0), some (.int x1), some (.int x2)] [] _ _ from ?_)) (fun b16 => (show zyR _ _ _ _ [some (.int x0), some (.int x1), some (.int x2)] [] _ _ from ?_))
      · replace h := zy_ifp h b16
        refine zy_3 rfl rfl (show zyR _ _ _ _ [some (.int x0), some (.int x1), some (.int x2)] [.int (0 : Int32)] _ _ from ?_)
        obtain ⟨rfl, rfl⟩ := zy_pi h
        exact zy_4 rfl ⟨rfl, rfl⟩
      · replace h := zy_ifn h b16
        refine zy_3 rfl rfl (show zyR _ _ _ _ [some (.int x0), some (.int x1), some (.int x2)] [.int (1 : Int32)] _ _ from ?_)
        refine zy_6 rfl (show zyR _ _ _ _ [some (.int x0), some (.int x1), some (.int x2)] [.int (1 : Int32)] _ _ from ?_)
        obtain ⟨rfl, rfl⟩ := zy_pi h
        exact zy_4 rfl ⟨rfl, rfl⟩
  replace h := zy_ifn h b18
  show zyR _ _ _ _ [some (.int x0), some (.int x1), some (.int x2)] [] _ _
  refine zy_2 rfl rfl (show zyR _ _ _ _ [some (.int x0), some (.int x1), some (.int x2)] [.int x2] _ _ from ?_)
  refine zy_24_1 rfl (fun b20 => (show zyR _ _ _ _ [some (.int x0), some (.int x1), some (.int x2)] [] _ _ from ?_)) (fun b20 => (show zyR _ _ _ _ [some (.int x0), some (.int x1), some (.int x2)] [] _ _ from ?_))
  · replace h := zy_ifp h b20
    refine zy_2 rfl rfl (show zyR _ _ _ _ [some (.int x0), some (.int x1), some (.int x2)] [.int x0] _ _ from ?_)
    refine zy_2 rfl rfl (show zyR _ _ _ _ [some (.int x0), some (.int x1), some (.int x2)] [.int x2, .int x0] _ _ from ?_)
    obtain ⟨c19, h⟩ := zy_if h
    refine zy_20 rfl c19 (show zyR _ _ _ _ [some (.int x0), some (.int x1), some (.int x2)] [.int (x0 - x0 / x2 * x2)] _ _ from ?_)
    obtain ⟨rfl, rfl⟩ := zy_pi h
    exact zy_4 rfl ⟨rfl, rfl⟩
  · replace h := zy_ifn h b20
    refine zy_3 rfl rfl (show zyR _ _ _ _ [some (.int x0), some (.int x1), some (.int x2)] [.int (0 : Int32)] _ _ from ?_)
    refine zy_6 rfl (show zyR _ _ _ _ [some (.int x0), some (.int x1), some (.int x2)] [.int (0 : Int32)] _ _ from ?_)
    obtain ⟨rfl, rfl⟩ := zy_pi h
    exact zy_4 rfl ⟨rfl, rfl⟩
