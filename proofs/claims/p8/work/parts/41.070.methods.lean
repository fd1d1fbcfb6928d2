/-! PART 41.70: methods as functions. Made by wip/v4/dcp.py. -/
/-! NineOpinions$Tape.next()I -/
noncomputable def zyF41    (s : zy_S) : Option (Int32 × zy_S) :=
if (s.1 9 2) ≤ (s.1 9 4) then
some ((-1 : Int32), s)
else
if zy_in (s.1 9 4) 120 then
some ((s.1 10 ((s.1 9 4)).toNatClampNeg), s)
else none
theorem zyC41 {X : zx_X}      {s : zy_S} {r : Int32} {s' : zy_S}  (h : zyF41 s = some (r, s')) : zyR X 1 41 0 [some (.ref (9 + 3))] [] s (zyE (some (.int r)) s') := by
  unfold zyF41 at h
  refine zy_0 rfl rfl (show zyR _ _ _ _ [some (.ref (9 + 3))] [.ref (9 + 3)] _ _ from ?_)
  refine zy_1 (c := 9) rfl rfl rfl (show zyR _ _ _ _ [some (.ref (9 + 3))] [.int (s.1 9 4)] _ _ from ?_)
  refine zy_0 rfl rfl (show zyR _ _ _ _ [some (.ref (9 + 3))] [.ref (9 + 3), .int (s.1 9 4)] _ _ from ?_)
  refine zy_1 (c := 9) rfl rfl rfl (show zyR _ _ _ _ [some (.ref (9 + 3))] [.int (s.1 9 2), .int (s.1 9 4)] _ _ from ?_)
  refine zy_25_3 rfl (fun b2 => (show zyR _ _ _ _ [some (.ref (9 + 3))] [] _ _ from ?_)) (fun b2 => (show zyR _ _ _ _ [some (.ref (9 + 3))] [] _ _ from ?_))
  · replace h := zy_ifp h b2
    refine zy_3 rfl rfl (show zyR _ _ _ _ [some (.ref (9 + 3))] [.int (-1 : Int32)] _ _ from ?_)
    obtain ⟨rfl, rfl⟩ := zy_pi h
    exact zy_4 rfl ⟨rfl, rfl⟩
  · replace h := zy_ifn h b2
    refine zy_0 rfl rfl (show zyR _ _ _ _ [some (.ref (9 + 3))] [.ref (9 + 3)] _ _ from ?_)
    refine zy_1r (c := 9) rfl rfl rfl (show zyR _ _ _ _ [some (.ref (9 + 3))] [.ref (10 + 3)] _ _ from ?_)
    refine zy_0 rfl rfl (show zyR _ _ _ _ [some (.ref (9 + 3))] [.ref (9 + 3), .ref (10 + 3)] _ _ from ?_)
    refine zy_1 (c := 9) rfl rfl rfl (show zyR _ _ _ _ [some (.ref (9 + 3))] [.int (s.1 9 4), .ref (10 + 3)] _ _ from ?_)
    obtain ⟨c1, h⟩ := zy_if h
    refine zy_26 (c := 10) rfl rfl c1 (show zyR _ _ _ _ [some (.ref (9 + 3))] [.int (s.1 10 ((s.1 9 4)).toNatClampNeg)] _ _ from ?_)
    refine zy_6 rfl (show zyR _ _ _ _ [some (.ref (9 + 3))] [.int (s.1 10 ((s.1 9 4)).toNatClampNeg)] _ _ from ?_)
    obtain ⟨rfl, rfl⟩ := zy_pi h
    exact zy_4 rfl ⟨rfl, rfl⟩
/-! NineOpinions$Tape.make(I)V -/
noncomputable def zyF44   (x1 : Int32) (s : zy_S) : Option (Int32 × zy_S) :=
if (128 : Int32) ≤ (s.1 9 3) then
some ((0 : Int32), s)
else
if zy_in (s.1 9 3) 128 then
some ((0 : Int32), (zy_up (zy_up s 11 ((s.1 9 3)).toNatClampNeg x1) 9 3 ((s.1 9 3) + (1 : Int32))))
else none
theorem zyC44 {X : zx_X}     {x1 : Int32} {s : zy_S} {r : Int32} {s' : zy_S}  (h : zyF44 x1 s = some (r, s')) : zyR X 1 44 0 [some (.ref (9 + 3)), some (.int x1)] [] s (zyE none s') := by
  unfold zyF44 at h
  refine zy_0 rfl rfl (show zyR _ _ _ _ [some (.ref (9 + 3)), some (.int x1)] [.ref (9 + 3)] _ _ from ?_)
  refine zy_1 (c := 9) rfl rfl rfl (show zyR _ _ _ _ [some (.ref (9 + 3)), some (.int x1)] [.int (s.1 9 3)] _ _ from ?_)
  refine zy_3 rfl rfl (show zyR _ _ _ _ [some (.ref (9 + 3)), some (.int x1)] [.int (128 : Int32), .int (s.1 9 3)] _ _ from ?_)
  refine zy_25_3 rfl (fun b2 => (show zyR _ _ _ _ [some (.ref (9 + 3)), some (.int x1)] [] _ _ from ?_)) (fun b2 => (show zyR _ _ _ _ [some (.ref (9 + 3)), some (.int x1)] [] _ _ from ?_))
  · replace h := zy_ifp h b2
    cases h
    exact zy_66 rfl ⟨rfl, rfl⟩
  · replace h := zy_ifn h b2
    refine zy_0 rfl rfl (show zyR _ _ _ _ [some (.ref (9 + 3)), some (.int x1)] [.ref (9 + 3)] _ _ from ?_)
    refine zy_1r (c := 9) rfl rfl rfl (show zyR _ _ _ _ [some (.ref (9 + 3)), some (.int x1)] [.ref (11 + 3)] _ _ from ?_)
    refine zy_0 rfl rfl (show zyR _ _ _ _ [some (.ref (9 + 3)), some (.int x1)] [.ref (9 + 3), .ref (11 + 3)] _ _ from ?_)
    refine zy_1 (c := 9) rfl rfl rfl (show zyR _ _ _ _ [some (.ref (9 + 3)), some (.int x1)] [.int (s.1 9 3), .ref (11 + 3)] _ _ from ?_)
    refine zy_2 rfl rfl (show zyR _ _ _ _ [some (.ref (9 + 3)), some (.int x1)] [.int x1, .int (s.1 9 3), .ref (11 + 3)] _ _ from ?_)
    obtain ⟨c1, h⟩ := zy_if h
    refine zy_27 (c := 11) rfl rfl c1 (show zyR _ _ _ _ [some (.ref (9 + 3)), some (.int x1)] [] _ _ from ?_)
    refine zy_0 rfl rfl (show zyR _ _ _ _ [some (.ref (9 + 3)), some (.int x1)] [.ref (9 + 3)] _ _ from ?_)
    refine zy_33 rfl rfl (show zyR _ _ _ _ [some (.ref (9 + 3)), some (.int x1)] [.ref (9 + 3), .ref (9 + 3)] _ _ from ?_)
    refine zy_1 (c := 9) rfl rfl rfl (show zyR _ _ _ _ [some (.ref (9 + 3)), some (.int x1)] [.int (s.1 9 3), .ref (9 + 3)] _ _ from ?_)
    refine zy_3 rfl rfl (show zyR _ _ _ _ [some (.ref (9 + 3)), some (.int x1)] [.int (1 : Int32), .int (s.1 9 3), .ref (9 + 3)] _ _ from ?_)
    refine zy_10 rfl (show zyR _ _ _ _ [some (.ref (9 + 3)), some (.int x1)] [.int ((s.1 9 3) + (1 : Int32)), .ref (9 + 3)] _ _ from ?_)
    refine zy_52 (c := 9) rfl rfl rfl (show zyR _ _ _ _ [some (.ref (9 + 3)), some (.int x1)] [] _ _ from ?_)
    cases h
    exact zy_66 rfl ⟨rfl, rfl⟩
/-! NineOpinions$Tape.levelOf(I)I -/
noncomputable def zyF47   (x0 : Int32) (s : zy_S) : Option (Int32 × zy_S) :=
if x0 = (37 : Int32) then
some ((4 : Int32), s)
else
if x0 = (38 : Int32) then
some ((1 : Int32), s)
else
if x0 = (42 : Int32) then
some ((4 : Int32), s)
else
if x0 = (43 : Int32) then
some ((3 : Int32), s)
else
if x0 = (45 : Int32) then
some ((3 : Int32), s)
else
if x0 = (47 : Int32) then
some ((4 : Int32), s)
else
if x0 = (60 : Int32) then
some ((2 : Int32), s)
else
if x0 = (61 : Int32) then
some ((2 : Int32), s)
else
if x0 = (62 : Int32) then
some ((2 : Int32), s)
else
if x0 = (124 : Int32) then
some ((0 : Int32), s)
else
some ((-1 : Int32), s)
theorem zyC47 {X : zx_X}     {x0 : Int32} {s : zy_S} {r : Int32} {s' : zy_S}  (h : zyF47 x0 s = some (r, s')) : zyR X 1 47 0 [some (.int x0)] [] s (zyE (some (.int r)) s') := by
  unfold zyF47 at h
  refine zy_2 rfl rfl (show zyR _ _ _ _ [some (.int x0)] [.int x0] _ _ from ?_)
  refine zy_51 rfl (by decide) ?_
  refine zy_swp (fun b1 => (show zyR _ _ _ _ [some (.int x0)] [] _ _ from ?_)) (fun b1 => ?_)
  · replace h := zy_ifp h b1
    refine zy_3 rfl rfl (show zyR _ _ _ _ [some (.int x0)] [.int (4 : Int32)] _ _ from ?_)
    obtain ⟨rfl, rfl⟩ := zy_pi h
    exact zy_4 rfl ⟨rfl, rfl⟩
  replace h := zy_ifn h b1
  refine zy_swp (fun b2 => (show zyR _ _ _ _ [some (.int x0)] [] _ _ from ?_)) (fun b2 => ?_)
  · replace h := zy_ifp h b2
    refine zy_3 rfl rfl (show zyR _ _ _ _ [some (.int x0)] [.int (1 : Int32)] _ _ from ?_)
    obtain ⟨rfl, rfl⟩ := zy_pi h
    exact zy_4 rfl ⟨rfl, rfl⟩
  replace h := zy_ifn h b2
  refine zy_swp (fun b3 => (show zyR _ _ _ _ [some (.int x0)] [] _ _ from ?_)) (fun b3 => ?_)
  · replace h := zy_ifp h b3
    refine zy_3 rfl rfl (show zyR _ _ _ _ [some (.int x0)] [.int (4 : Int32)] _ _ from ?_)
    obtain ⟨rfl, rfl⟩ := zy_pi h
    exact zy_4 rfl ⟨rfl, rfl⟩
  replace h := zy_ifn h b3
  refine zy_swp (fun b4 => (show zyR _ _ _ _ [some (.int x0)] [] _ _ from ?_)) (fun b4 => ?_)
  · replace h := zy_ifp h b4
    refine zy_3 rfl rfl (show zyR _ _ _ _ [some (.int x0)] [.int (3 : Int32)] _ _ from ?_)
    obtain ⟨rfl, rfl⟩ := zy_pi h
    exact zy_4 rfl ⟨rfl, rfl⟩
  replace h := zy_ifn h b4
  refine zy_swp (fun b5 => (show zyR _ _ _ _ [some (.int x0)] [] _ _ from ?_)) (fun b5 => ?_)
  · replace h := zy_ifp h b5
    refine zy_3 rfl rfl (show zyR _ _ _ _ [some (.int x0)] [.int (3 : Int32)] _ _ from ?_)
    obtain ⟨rfl, rfl⟩ := zy_pi h
    exact zy_4 rfl ⟨rfl, rfl⟩
  replace h := zy_ifn h b5
  refine zy_swp (fun b6 => (show zyR _ _ _ _ [some (.int x0)] [] _ _ from ?_)) (fun b6 => ?_)
  · replace h := zy_ifp h b6
    refine zy_3 rfl rfl (show zyR _ _ _ _ [some (.int x0)] [.int (4 : Int32)] _ _ from ?_)
    obtain ⟨rfl, rfl⟩ := zy_pi h
    exact zy_4 rfl ⟨rfl, rfl⟩
  replace h := zy_ifn h b6
  refine zy_swp (fun b7 => (show zyR _ _ _ _ [some (.int x0)] [] _ _ from ?_)) (fun b7 => ?_)
  · replace h := zy_ifp h b7
    refine zy_3 rfl rfl (show zyR _ _ _ _ [some (.int x0)] [.int (2 : Int32)] _ _ from ?_)
    obtain ⟨rfl, rfl⟩ := zy_pi h
    exact zy_4 rfl ⟨rfl, rfl⟩
  replace h := zy_ifn h b7
  refine zy_swp (fun b8 => (show zyR _ _ _ _ [some (.int x0)] [] _ _ from ?_)) (fun b8 => ?_)
  · replace h := zy_ifp h b8
    refine zy_3 rfl rfl (show zyR _ _ _ _ [some (.int x0)] [.int (2 : Int32)] _ _ from ?_)
    obtain ⟨rfl, rfl⟩ := zy_pi h
    exact zy_4 rfl ⟨rfl, rfl⟩
  replace h := zy_ifn h b8
  refine zy_swp (fun b9 => (show zyR _ _ _ _ [some (.int x0)] [] _ _ from ?_)) (fun b9 => ?_)
  · replace h := zy_ifp h b9
    refine zy_3 rfl rfl (show zyR _ _ _ _ [some (.int x0)] [.int (2 : Int32)] _ _ from ?_)
    obtain ⟨rfl, rfl⟩ := zy_pi h
    exact zy_4 rfl ⟨rfl, rfl⟩
  replace h := zy_ifn h b9
  refine zy_swp (fun b10 => (show zyR _ _ _ _ [some (.int x0)] [] _ _ from ?_)) (fun b10 => ?_)
  · replace h := zy_ifp h b10
    refine zy_3 rfl rfl (show zyR _ _ _ _ [some (.int x0)] [.int (0 : Int32)] _ _ from ?_)
    obtain ⟨rfl, rfl⟩ := zy_pi h
    exact zy_4 rfl ⟨rfl, rfl⟩
  replace h := zy_ifn h b10
  show zyR _ _ _ _ [some (.int x0)] [] _ _
  refine zy_3 rfl rfl (show zyR _ _ _ _ [some (.int x0)] [.int (-1 : Int32)] _ _ from ?_)
  obtain ⟨rfl, rfl⟩ := zy_pi h
  exact zy_4 rfl ⟨rfl, rfl⟩
/-! NineOpinions$Tape.isDigit(I)Z -/
noncomputable def zyF42   (x0 : Int32) (s : zy_S) : Option (Int32 × zy_S) :=
if x0 < (48 : Int32) then
some ((0 : Int32), s)
else
if (57 : Int32) < x0 then
some ((0 : Int32), s)
else
some ((1 : Int32), s)
theorem zyC42 {X : zx_X}     {x0 : Int32} {s : zy_S} {r : Int32} {s' : zy_S}  (h : zyF42 x0 s = some (r, s')) : zyR X 1 42 0 [some (.int x0)] [] s (zyE (some (.int r)) s') := by
  unfold zyF42 at h
  refine zy_2 rfl rfl (show zyR _ _ _ _ [some (.int x0)] [.int x0] _ _ from ?_)
  refine zy_3 rfl rfl (show zyR _ _ _ _ [some (.int x0)] [.int (48 : Int32), .int x0] _ _ from ?_)
  refine zy_25_2 rfl (fun b2 => (show zyR _ _ _ _ [some (.int x0)] [] _ _ from ?_)) (fun b2 => (show zyR _ _ _ _ [some (.int x0)] [] _ _ from ?_))
  · replace h := zy_ifp h b2
    refine zy_3 rfl rfl (show zyR _ _ _ _ [some (.int x0)] [.int (0 : Int32)] _ _ from ?_)
    cases h
    exact zy_4b rfl ⟨rfl, rfl⟩ (Or.inl rfl)
  · replace h := zy_ifn h b2
    refine zy_2 rfl rfl (show zyR _ _ _ _ [some (.int x0)] [.int x0] _ _ from ?_)
    refine zy_3 rfl rfl (show zyR _ _ _ _ [some (.int x0)] [.int (57 : Int32), .int x0] _ _ from ?_)
    refine zy_25_4 rfl (fun b1 => (show zyR _ _ _ _ [some (.int x0)] [] _ _ from ?_)) (fun b1 => (show zyR _ _ _ _ [some (.int x0)] [] _ _ from ?_))
    · replace h := zy_ifp h b1
      refine zy_3 rfl rfl (show zyR _ _ _ _ [some (.int x0)] [.int (0 : Int32)] _ _ from ?_)
      cases h
      exact zy_4b rfl ⟨rfl, rfl⟩ (Or.inl rfl)
    · replace h := zy_ifn h b1
      refine zy_3 rfl rfl (show zyR _ _ _ _ [some (.int x0)] [.int (1 : Int32)] _ _ from ?_)
      refine zy_6 rfl (show zyR _ _ _ _ [some (.int x0)] [.int (1 : Int32)] _ _ from ?_)
      cases h
      exact zy_4b rfl ⟨rfl, rfl⟩ (Or.inr rfl)
/-! NineOpinions$Tape.readNumber()V -/
noncomputable def zyF43_48   (x1 : Int32) (s : zy_S) : Option (Int32 × zy_S) :=
(zyF44 x1 s).bind fun p1 =>
some ((0 : Int32), p1.2)
theorem zyC43_48 {X : zx_X}     {x1 : Int32} {s : zy_S} {r : Int32} {s' : zy_S}  (h : zyF43_48 x1 s = some (r, s')) : zyR X 2 43 48 [some (.ref (9 + 3)), some (.int x1), none] [] s (zyE none s') := by
  unfold zyF43_48 at h
  refine zy_0 rfl rfl (show zyR _ _ _ _ [some (.ref (9 + 3)), some (.int x1), none] [.ref (9 + 3)] _ _ from ?_)
  refine zy_2 rfl rfl (show zyR _ _ _ _ [some (.ref (9 + 3)), some (.int x1), none] [.int x1, .ref (9 + 3)] _ _ from ?_)
  obtain ⟨p1, hp1, h⟩ := zy_bind h
  refine zy_5 (c := 9) (as := [.int x1]) (rest := []) (L := [some (.ref (9 + 3)), some (.int x1)]) (d' := 1) rfl rfl rfl (Nat.le_of_ble_eq_true rfl) (Nat.le_of_ble_eq_true rfl) rfl (Nat.le_of_ble_eq_true rfl) rfl rfl (zyC44 hp1) ?_
  show zyR _ _ _ _ [some (.ref (9 + 3)), some (.int x1), none] [] _ _
  cases h
  exact zy_66 rfl ⟨rfl, rfl⟩
noncomputable def zyF43_4b  (k4 : Int32 → Int32 → zy_S → Option (Int32 × zy_S)) (x1 : Int32) (x2 : Int32) (s : zy_S) : Option (Int32 × zy_S) :=
if (4 : Int32) ≤ x2 then
zyF43_48 x1 s
else
(zyF41 s).bind fun p2 =>
(zyF42 p2.1 p2.2).bind fun p3 =>
if p3.1 = 0 then
zyF43_48 x1 p3.2
else
(zyF41 p3.2).bind fun p4 =>
k4 ((((10 : Int32) * x1) + p4.1) - (48 : Int32)) (x2 + (1 : Int32)) (zy_up p4.2 9 4 ((p4.2.1 9 4) + (1 : Int32)))
theorem zyC43_4b {X : zx_X}  {k4 : Int32 → Int32 → zy_S → Option (Int32 × zy_S)}  (hk4 : ∀ (x1 : Int32) (x2 : Int32) (s : zy_S) (r : Int32) (s' : zy_S), k4 x1 x2 s = some (r, s') → zyR X 2 43 4 [some (.ref (9 + 3)), some (.int x1), some (.int x2)] [] s (zyE none s')) {x1 : Int32} {x2 : Int32} {s : zy_S} {r : Int32} {s' : zy_S}  (h : zyF43_4b k4 x1 x2 s = some (r, s')) : zyR X 2 43 4 [some (.ref (9 + 3)), some (.int x1), some (.int x2)] [] s (zyE none s') := by
  unfold zyF43_4b at h
  refine zy_2 rfl rfl (show zyR _ _ _ _ [some (.ref (9 + 3)), some (.int x1), some (.int x2)] [.int x2] _ _ from ?_)
  refine zy_3 rfl rfl (show zyR _ _ _ _ [some (.ref (9 + 3)), some (.int x1), some (.int x2)] [.int (4 : Int32), .int x2] _ _ from ?_)
  refine zy_25_3 rfl (fun b6 => (show zyR _ _ _ _ [some (.ref (9 + 3)), some (.int x1), some (.int x2)] [] _ _ from ?_)) (fun b6 => (show zyR _ _ _ _ [some (.ref (9 + 3)), some (.int x1), some (.int x2)] [] _ _ from ?_))
  · replace h := zy_ifp h b6
    exact zy_sub (show zy_le [some (.ref (9 + 3)), some (.int x1), none] [some (.ref (9 + 3)), some (.int x1), some (.int x2)] from ⟨rfl, ⟨rfl, trivial⟩⟩) (zyC43_48 h)
  · replace h := zy_ifn h b6
    refine zy_0 rfl rfl (show zyR _ _ _ _ [some (.ref (9 + 3)), some (.int x1), some (.int x2)] [.ref (9 + 3)] _ _ from ?_)
    obtain ⟨p2, hp2, h⟩ := zy_bind h
    refine zy_5 (c := 9) (as := []) (rest := []) (L := [some (.ref (9 + 3))]) (d' := 1) rfl rfl rfl (Nat.le_of_ble_eq_true rfl) (Nat.le_of_ble_eq_true rfl) rfl (Nat.le_of_ble_eq_true rfl) rfl rfl (zyC41 hp2) ?_
    show zyR _ _ _ _ [some (.ref (9 + 3)), some (.int x1), some (.int x2)] [.int p2.1] _ _
    obtain ⟨p3, hp3, h⟩ := zy_bind h
    refine zy_60 (as := [.int p2.1]) (rest := []) (L := [some (.int p2.1)]) (d' := 1) rfl rfl (Nat.le_of_ble_eq_true rfl) (Nat.le_of_ble_eq_true rfl) rfl (Nat.le_of_ble_eq_true rfl) rfl rfl (zyC42 hp3) ?_
    show zyR _ _ _ _ [some (.ref (9 + 3)), some (.int x1), some (.int x2)] [.int p3.1] _ _
    refine zy_24_0 rfl (fun b5 => (show zyR _ _ _ _ [some (.ref (9 + 3)), some (.int x1), some (.int x2)] [] _ _ from ?_)) (fun b5 => (show zyR _ _ _ _ [some (.ref (9 + 3)), some (.int x1), some (.int x2)] [] _ _ from ?_))
    · replace h := zy_ifp h b5
      exact zy_sub (show zy_le [some (.ref (9 + 3)), some (.int x1), none] [some (.ref (9 + 3)), some (.int x1), some (.int x2)] from ⟨rfl, ⟨rfl, trivial⟩⟩) (zyC43_48 h)
    · replace h := zy_ifn h b5
      refine zy_3 rfl rfl (show zyR _ _ _ _ [some (.ref (9 + 3)), some (.int x1), some (.int x2)] [.int (10 : Int32)] _ _ from ?_)
      refine zy_2 rfl rfl (show zyR _ _ _ _ [some (.ref (9 + 3)), some (.int x1), some (.int x2)] [.int x1, .int (10 : Int32)] _ _ from ?_)
      refine zy_12 rfl (show zyR _ _ _ _ [some (.ref (9 + 3)), some (.int x1), some (.int x2)] [.int ((10 : Int32) * x1)] _ _ from ?_)
      refine zy_0 rfl rfl (show zyR _ _ _ _ [some (.ref (9 + 3)), some (.int x1), some (.int x2)] [.ref (9 + 3), .int ((10 : Int32) * x1)] _ _ from ?_)
      obtain ⟨p4, hp4, h⟩ := zy_bind h
      refine zy_5 (c := 9) (as := []) (rest := [.int ((10 : Int32) * x1)]) (L := [some (.ref (9 + 3))]) (d' := 1) rfl rfl rfl (Nat.le_of_ble_eq_true rfl) (Nat.le_of_ble_eq_true rfl) rfl (Nat.le_of_ble_eq_true rfl) rfl rfl (zyC41 hp4) ?_
      show zyR _ _ _ _ [some (.ref (9 + 3)), some (.int x1), some (.int x2)] [.int p4.1, .int ((10 : Int32) * x1)] _ _
      refine zy_10 rfl (show zyR _ _ _ _ [some (.ref (9 + 3)), some (.int x1), some (.int x2)] [.int (((10 : Int32) * x1) + p4.1)] _ _ from ?_)
      refine zy_3 rfl rfl (show zyR _ _ _ _ [some (.ref (9 + 3)), some (.int x1), some (.int x2)] [.int (48 : Int32), .int (((10 : Int32) * x1) + p4.1)] _ _ from ?_)
      refine zy_11 rfl (show zyR _ _ _ _ [some (.ref (9 + 3)), some (.int x1), some (.int x2)] [.int ((((10 : Int32) * x1) + p4.1) - (48 : Int32))] _ _ from ?_)
      refine zy_23 rfl rfl (show zyR _ _ _ _ [some (.ref (9 + 3)), some (.int ((((10 : Int32) * x1) + p4.1) - (48 : Int32))), some (.int x2)] [] _ _ from ?_)
      refine zy_0 rfl rfl (show zyR _ _ _ _ [some (.ref (9 + 3)), some (.int ((((10 : Int32) * x1) + p4.1) - (48 : Int32))), some (.int x2)] [.ref (9 + 3)] _ _ from ?_)
      refine zy_33 rfl rfl (show zyR _ _ _ _ [some (.ref (9 + 3)), some (.int ((((10 : Int32) * x1) + p4.1) - (48 : Int32))), some (.int x2)] [.ref (9 + 3), .ref (9 + 3)] _ _ from ?_)
      refine zy_1 (c := 9) rfl rfl rfl (show zyR _ _ _ _ [some (.ref (9 + 3)), some (.int ((((10 : Int32) * x1) + p4.1) - (48 : Int32))), some (.int x2)] [.int (p4.2.1 9 4), .ref (9 + 3)] _ _ from ?_)
      refine zy_3 rfl rfl (show zyR _ _ _ _ [some (.ref (9 + 3)), some (.int ((((10 : Int32) * x1) + p4.1) - (48 : Int32))), some (.int x2)] [.int (1 : Int32), .int (p4.2.1 9 4), .ref (9 + 3)] _ _ from ?_)
      refine zy_10 rfl (show zyR _ _ _ _ [some (.ref (9 + 3)), some (.int ((((10 : Int32) * x1) + p4.1) - (48 : Int32))), some (.int x2)] [.int ((p4.2.1 9 4) + (1 : Int32)), .ref (9 + 3)] _ _ from ?_)
      refine zy_52 (c := 9) rfl rfl rfl (show zyR _ _ _ _ [some (.ref (9 + 3)), some (.int ((((10 : Int32) * x1) + p4.1) - (48 : Int32))), some (.int x2)] [] _ _ from ?_)
      refine zy_22 rfl rfl rfl rfl (show zyR _ _ _ _ [some (.ref (9 + 3)), some (.int ((((10 : Int32) * x1) + p4.1) - (48 : Int32))), some (.int (x2 + (1 : Int32)))] [] _ _ from ?_)
      refine zy_6 rfl (show zyR _ _ _ _ [some (.ref (9 + 3)), some (.int ((((10 : Int32) * x1) + p4.1) - (48 : Int32))), some (.int (x2 + (1 : Int32)))] [] _ _ from ?_)
      exact zy_sub (show zy_le [some (.ref (9 + 3)), some (.int ((((10 : Int32) * x1) + p4.1) - (48 : Int32))), some (.int (x2 + (1 : Int32)))] [some (.ref (9 + 3)), some (.int ((((10 : Int32) * x1) + p4.1) - (48 : Int32))), some (.int (x2 + (1 : Int32)))] from ⟨rfl, ⟨rfl, ⟨rfl, trivial⟩⟩⟩) (hk4 ((((10 : Int32) * x1) + p4.1) - (48 : Int32)) (x2 + (1 : Int32)) (zy_up p4.2 9 4 ((p4.2.1 9 4) + (1 : Int32))) _ _ h)
noncomputable def zyF43_4   (n : Nat) : Int32 → Int32 → zy_S → Option (Int32 × zy_S) := Nat.rec (fun _ _ _ => none) (fun _ k4 => zyF43_4b k4) n
theorem zyC43_4 {X : zx_X}     : ∀ (n : Nat) (x1 : Int32) (x2 : Int32) (s : zy_S) (r : Int32) (s' : zy_S), zyF43_4 n x1 x2 s = some (r, s') → zyR X 2 43 4 [some (.ref (9 + 3)), some (.int x1), some (.int x2)] [] s (zyE none s')
  | 0, _, _ => by
    intro s r s'  h
    have h : (none : Option (Int32 × zy_S)) = some (r, s') := h
    cases h
  | n + 1, x1, x2 => by
    intro s r s'  h
    exact zyC43_4b (k4 := zyF43_4 n) (fun x1 x2 s r s'  h => zyC43_4  n x1 x2 s r s'  h) h
noncomputable def zyF43    (s : zy_S) : Option (Int32 × zy_S) :=
zyF43_4 zy_fu (0 : Int32) (0 : Int32) s
theorem zyC43 {X : zx_X}      {s : zy_S} {r : Int32} {s' : zy_S}  (h : zyF43 s = some (r, s')) : zyR X 2 43 0 [some (.ref (9 + 3)), none, none] [] s (zyE none s') := by
  unfold zyF43 at h
  refine zy_3 rfl rfl (show zyR _ _ _ _ [some (.ref (9 + 3)), none, none] [.int (0 : Int32)] _ _ from ?_)
  refine zy_23 rfl rfl (show zyR _ _ _ _ [some (.ref (9 + 3)), some (.int (0 : Int32)), none] [] _ _ from ?_)
  refine zy_3 rfl rfl (show zyR _ _ _ _ [some (.ref (9 + 3)), some (.int (0 : Int32)), none] [.int (0 : Int32)] _ _ from ?_)
  refine zy_23 rfl rfl (show zyR _ _ _ _ [some (.ref (9 + 3)), some (.int (0 : Int32)), some (.int (0 : Int32))] [] _ _ from ?_)
  exact zy_sub (show zy_le [some (.ref (9 + 3)), some (.int (0 : Int32)), some (.int (0 : Int32))] [some (.ref (9 + 3)), some (.int (0 : Int32)), some (.int (0 : Int32))] from ⟨rfl, ⟨rfl, ⟨rfl, trivial⟩⟩⟩) (zyC43_4 zy_fu (0 : Int32) (0 : Int32) s _ _ h)
