/-! PART 41.22: methods as functions. Made by wip/v4/dcp.py. -/
/-! NineOpinions$Tape.levelOf(I)I -/
noncomputable def zyF47   (x0 : Int32) (s : zy_S) : Option (Int32 × zy_S) :=
if x0 = (37 : Int32) then
some ((4 : Int32), s)
else
if x0 = (38 : Int32) then
some ((1 : Int32), s)
else
if x0 = (42 : Int32) then
some ((4 : Int32), s)
else
if x0 = (43 : Int32) then
some ((3 : Int32), s)
else
if x0 = (45 : Int32) then
some ((3 : Int32), s)
else
if x0 = (47 : Int32) then
some ((4 : Int32), s)
else
if x0 = (60 : Int32) then
some ((2 : Int32), s)
else
if x0 = (61 : Int32) then
some ((2 : Int32), s)
else
if x0 = (62 : Int32) then
some ((2 : Int32), s)
else
if x0 = (124 : Int32) then
some ((0 : Int32), s)
else
some ((-1 : Int32), s)
theorem zyC47 {X : zx_X}     {x0 : Int32} {s : zy_S} {r : Int32} {s' : zy_S}  (h : zyF47 x0 s = some (r, s')) : zyR X 1 47 0 [some (.int x0)] [] s (zyE (some (.int r)) s') := by
  unfold zyF47 at h
  refine zy_2 rfl rfl (show zyR _ _ _ _ [some (.int x0)] [.int x0] _ _ from ?_)
  refine zy_51 rfl (by decide) ?_
  refine zy_swp (fun b1 => (show zyR _ _ _ _ [some (.int x0)] [] _ _ from ?_)) (fun b1 => ?_)
  · replace h := zy_ifp h b1
    refine zy_3 rfl rfl (show zyR _ _ _ _ [some (.int x0)] [.int (4 : Int32)] _ _ from ?_)
    obtain ⟨rfl, rfl⟩ := zy_pi h
    exact zy_4 rfl ⟨rfl, rfl⟩
  replace h := zy_ifn h b1
  refine zy_swp (fun b2 => (show zyR _ _ _ _ [some (.int x0)] [] _ _ from ?_)) (fun b2 => ?_)
  · replace h := zy_ifp h b2
    refine zy_3 rfl rfl (show zyR _ _ _ _ [some (.int x0)] [.int (1 : Int32)] _ _ from ?_)
    obtain ⟨rfl, rfl⟩ := zy_pi h
    exact zy_4 rfl ⟨rfl, rfl⟩
  replace h := zy_ifn h b2
  refine zy_swp (fun b3 => (show zyR _ _ _ _ [some (.int x0)] [] _ _ from ?_)) (fun b3 => ?_)
  · replace h := zy_ifp h b3
    refine zy_3 rfl rfl (show zyR _ _ _ _ [some (.int x0)] [.int (4 : Int32)] _ _ from ?_)
    obtain ⟨rfl, rfl⟩ := zy_pi h
    exact zy_4 rfl ⟨rfl, rfl⟩
  replace h := zy_ifn h b3
  refine zy_swp (fun b4 => (show zyR _ _ _ _ [some (.int x0)] [] _ _ from ?_)) (fun b4 => ?_)
  · replace h := zy_ifp h b4
    refine zy_3 rfl rfl (show zyR _ _ _ _ [some (.int x0)] [.int (3 : Int32)] _ _ from ?_)
    obtain ⟨rfl, rfl⟩ := zy_pi h
    exact zy_4 rfl ⟨rfl, rfl⟩
  replace h := zy_ifn h b4
  refine zy_swp (fun b5 => (show zyR _ _ _ _ [some (.int x0)] [] _ _ from ?_)) (fun b5 => ?_)
  · replace h := zy_ifp h b5
    refine zy_3 rfl rfl (show zyR _ _ _ _ [some (.int x0)] [.int (3 : Int32)] _ _ from ?_)
    obtain ⟨rfl, rfl⟩ := zy_pi h
    exact zy_4 rfl ⟨rfl, rfl⟩
  replace h := zy_ifn h b5
  refine zy_swp (fun b6 => (show zyR _ _ _ _ [some (.int x0)] [] _ _ from ?_)) (fun b6 => ?_)
  · replace h := zy_ifp h b6
    refine zy_3 rfl rfl (show zyR _ _ _ _ [some (.int x0)] [.int (4 : Int32)] _ _ from ?_)
    obtain ⟨rfl, rfl⟩ := zy_pi h
    exact zy_4 rfl ⟨rfl, rfl⟩
  replace h := zy_ifn h b6
  refine zy_swp (fun b7 => (show zyR _ _ _ _ [some (.int x0)] [] _ _ from ?_)) (fun b7 => ?_)
  · replace h := zy_ifp h b7
    refine zy_3 rfl rfl (show zyR _ _ _ _ [some (.int x0)] [.int (2 : Int32)] _ _ from ?_)
    obtain ⟨rfl, rfl⟩ := zy_pi h
    exact zy_4 rfl ⟨rfl, rfl⟩
  replace h := zy_ifn h b7
  refine zy_swp (fun b8 => (show zyR _ _ _ _ [some (.int x0)] [] _ _ from ?_)) (fun b8 => ?_)
  · replace h := zy_ifp h b8
    refine zy_3 rfl rfl (show zyR _ _ _ _ [some (.int x0)] [.int (2 : Int32)] _ _ from ?_)
    obtain ⟨rfl, rfl⟩ := zy_pi h
    exact zy_4 rfl ⟨rfl, rfl⟩
  replace h := zy_ifn h b8
  refine zy_swp (fun b9 => (show zyR _ _ _ _ [some (.int x0)] [] _ _ from ?_)) (fun b9 => ?_)
  · replace h := zy_ifp h b9
    refine zy_3 rfl rfl (show zyR _ _ _ _ [some (.int x0)] [.int (2 : Int32)] _ _ from ?_)
    obtain ⟨rfl, rfl⟩ := zy_pi h
    exact zy_4 rfl ⟨rfl, rfl⟩
  replace h := zy_ifn h b9
  refine zy_swp (fun b10 => (show zyR _ _ _ _ [some (.int x0)] [] _ _ from ?_)) (fun b10 => ?_)
  · replace h := zy_ifp h b10
    refine zy_3 rfl rfl (show zyR _ _ _ _ [some (.int x0)] [.int (0 : Int32)] _ _ from ?_)
    obtain ⟨rfl, rfl⟩ := zy_pi h
    exact zy_4 rfl ⟨rfl, rfl⟩
  replace h := zy_ifn h b10
  show zyR _ _ _ _ [some (.int x0)] [] _ _
  refine zy_3 rfl rfl (show zyR _ _ _ _ [some (.int x0)] [.int (-1 : Int32)] _ _ from ?_)
  obtain ⟨rfl, rfl⟩ := zy_pi h
  exact zy_4 rfl ⟨rfl, rfl⟩
/-! NineOpinions$Tape.isDigit(I)Z -/
noncomputable def zyF42   (x0 : Int32) (s : zy_S) : Option (Int32 × zy_S) :=
if x0 < (48 : Int32) then
some ((0 : Int32), s)
else
if (57 : Int32) < x0 then
some ((0 : Int32), s)
else
some ((1 : Int32), s)
theorem zyC42 {X : zx_X}     {x0 : Int32} {s : zy_S} {r : Int32} {s' : zy_S}  (h : zyF42 x0 s = some (r, s')) : zyR X 1 42 0 [some (.int x0)] [] s (zyE (some (.int r)) s') := by
  unfold zyF42 at h
  refine zy_2 rfl rfl (show zyR _ _ _ _ [some (.int x0)] [.int x0] _ _ from ?_)
  refine zy_3 rfl rfl (show zyR _ _ _ _ [some (.int x0)] [.int (48 : Int32), .int x0] _ _ from ?_)
  refine zy_25_2 rfl (fun b2 => (show zyR _ _ _ _ [some (.int x0)] [] _ _ from ?_)) (fun b2 => (show zyR _ _ _ _ [some (.int x0)] [] _ _ from ?_))
  · replace h := zy_ifp h b2
    refine zy_3 rfl rfl (show zyR _ _ _ _ [some (.int x0)] [.int (0 : Int32)] _ _ from ?_)
    cases h
    exact zy_4b rfl ⟨rfl, rfl⟩ (Or.inl rfl)
  · replace h := zy_ifn h b2
    refine zy_2 rfl rfl (show zyR _ _ _ _ [some (.int x0)] [.int x0] _ _ from ?_)
    refine zy_3 rfl rfl (show zyR _ _ _ _ [some (.int x0)] [.int (57 : Int32), .int x0] _ _ from ?_)
    refine zy_25_4 rfl (fun b1 => (show zyR _ _ _ _ [some (.int x0)] [] _ _ from ?_)) (fun b1 => (show zyR _ _ _ _ [some (.int x0)] [] _ _ from ?_))
    · replace h := zy_ifp h b1
      refine zy_3 rfl rfl (show zyR _ _ _ _ [some (.int x0)] [.int (0 : Int32)] _ _ from ?_)
      cases h
      exact zy_4b rfl ⟨rfl, rfl⟩ (Or.inl rfl)
    · replace h := zy_ifn h b1
      refine zy_3 rfl rfl (show zyR _ _ _ _ [some (.int x0)] [.int (1 : Int32)] _ _ from ?_)
      refine zy_6 rfl (show zyR _ _ _ _ [some (.int x0)] [.int (1 : Int32)] _ _ from ?_)
      cases h
      exact zy_4b rfl ⟨rfl, rfl⟩ (Or.inr rfl)
/-! NineOpinions$Tape.readNumber()V -/
noncomputable def zyF43_48   (x1 : Int32) (s : zy_S) : Option (Int32 × zy_S) :=
(zyF44 x1 s).bind fun p1 =>
some ((0 : Int32), p1.2)
theorem zyC43_48 {X : zx_X}     {x1 : Int32} {s : zy_S} {r : Int32} {s' : zy_S}  (h : zyF43_48 x1 s = some (r, s')) : zyR X 2 43 48 [some (.ref (9 + 3)), some (.int x1), none] [] s (zyE none s') := by
  unfold zyF43_48 at h
  refine zy_0 rfl rfl (show zyR _ _ _ _ [some (.ref (9 + 3)), some (.int x1), none] [.ref (9 + 3)] _ _ from ?_)
  refine zy_2 rfl rfl (show zyR _ _ _ _ [some (.ref (9 + 3)), some (.int x1), none] [.int x1, .ref (9 + 3)] _ _ from ?_)
  obtain ⟨p1, hp1, h⟩ := zy_bind h
  refine zy_5 (c := 9) (as := [.int x1]) (rest := []) (L := [some (.ref (9 + 3)), some (.int x1)]) (d' := 1) rfl rfl rfl (Nat.le_of_ble_eq_true rfl) (Nat.le_of_ble_eq_true rfl) rfl (Nat.le_of_ble_eq_true rfl) rfl rfl (zyC44 hp1) ?_
  show zyR _ _ _ _ [some (.ref (9 + 3)), some (.int x1), none] [] _ _
  cases h
  exact zy_66 rfl ⟨rfl, rfl⟩
noncomputable def zyF43_4b  (k4 : Int32 → Int32 → zy_S → Option (Int32 × zy_S)) (x1 : Int32) (x2 : Int32) (s : zy_S) : Option (Int32 × zy_S) :=
if (4 : Int32) ≤ x2 then
zyF43_48 x1 s
else
(zyF41 s).bind fun p2 =>
(zyF42 p2.1 p2.2).bind fun p3 =>
if p3.1 = 0 then
zyF43_48 x1 p3.2
else
(zyF41 p3.2).bind fun p4 =>
k4 ((((10 : Int32) * x1) + p4.1) - (48 : Int32)) (x2 + (1 : Int32)) (zy_up p4.2 9 4 ((p4.2.1 9 4) + (1 : Int32)))
theorem zyC43_4b {X : zx_X}  {k4 : Int32 → Int32 → zy_S → Option (Int32 × zy_S)}  (hk4 : ∀ (x1 : Int32) (x2 : Int32) (s : zy_S) (r : Int32) (s' : zy_S), k4 x1 x2 s = some (r, s') → zyR X 2 43 4 [some (.ref (9 + 3)), some (.int x1), some (.int x2)] [] s (zyE none s')) {x1 : Int32} {x2 : Int32} {s : zy_S} {r : Int32} {s' : zy_S}  (h : zyF43_4b k4 x1 x2 s = some (r, s')) : zyR X 2 43 4 [some (.ref (9 + 3)), some (.int x1), some (.int x2)] [] s (zyE none s') := by
  unfold zyF43_4b at h
  refine zy_2 rfl rfl (show zyR _ _ _ _ [some (.ref (9 + 3)), some (.int x1), some (.int x2)] [.int x2] _ _ from ?_)
  refine zy_3 rfl rfl (show zyR _ _ _ _ [some (.ref (9 + 3)), some (.int x1), some (.int x2)] [.int (4 : Int32), .int x2] _ _ from ?_)
  refine zy_25_3 rfl (fun b6 => (show zyR _ _ _ _ [some (.ref (9 + 3)), some (.int x1), some (.int x2)] [] _ _ from ?_)) (fun b6 => (show zyR _ _ _ _ [some (.ref (9 + 3)), some (.int x1), some (.int x2)] [] _ _ from ?_))
  · replace h := zy_ifp h b6
    exact zy_sub (show zy_le [some (.ref (9 + 3)), some (.int x1), none] [some (.ref (9 + 3)), some (.int x1), some (.int x2)] from ⟨rfl, ⟨rfl, trivial⟩⟩) (zyC43_48 h)
  · replace h := zy_ifn h b6
    refine zy_0 rfl rfl (show zyR _ _ _ _ [some (.ref (9 + 3)), some (.int x1), some (.int x2)] [.ref (9 + 3)] _ _ from ?_)
    obtain ⟨p2, hp2, h⟩ := zy_bind h
    refine zy_5 (c := 9) (as := []) (rest := []) (L := [some (.ref (9 + 3))]) (d' := 1) rfl rfl rfl (Nat.le_of_ble_eq_true rfl) (Nat.le_of_ble_eq_true rfl) rfl (Nat.le_of_ble_eq_true rfl) rfl rfl (zyC41 hp2) ?_
    show zyR _ _ _ _ [some (.ref (9 + 3)), some (.int x1), some (.int x2)] [.int p2.1] _ _
    obtain ⟨p3, hp3, h⟩ := zy_bind h
    refine zy_60 (as := [.int p2.1]) (rest := []) (L := [some (.int p2.1)]) (d' := 1) rfl rfl (Nat.le_of_ble_eq_true rfl) (Nat.le_of_ble_eq_true rfl) rfl (Nat.le_of_ble_eq_true rfl) rfl rfl (zyC42 hp3) ?_
    show zyR _ _ _ _ [some (.ref (9 + 3)), some (.int x1), some (.int x2)] [.int p3.1] _ _
    refine zy_24_0 rfl (fun b5 => (show zyR _ _ _ _ [some (.ref (9 + 3)), some (.int x1), some (.int x2)] [] _ _ from ?_)) (fun b5 => (show zyR _ _ _ _ [some (.ref (9 + 3)), some (.int x1), some (.int x2)] [] _ _ from ?_))
    · replace h := zy_ifp h b5
      exact zy_sub (show zy_le [some (.ref (9 + 3)), some (.int x1), none] [some (.ref (9 + 3)), some (.int x1), some (.int x2)] from ⟨rfl, ⟨rfl, trivial⟩⟩) (zyC43_48 h)
    · replace h := zy_ifn h b5
      refine zy_3 rfl rfl (show zyR _ _ _ _ [some (.ref (9 + 3)), some (.int x1), some (.int x2)] [.int (10 : Int32)] _ _ from ?_)
      refine zy_2 rfl rfl (show zyR _ _ _ _ [some (.ref (9 + 3)), some (.int x1), some (.int x2)] [.int x1, .int (10 : Int32)] _ _ from ?_)
      refine zy_12 rfl (show zyR _ _ _ _ [some (.ref (9 + 3)), some (.int x1), some (.int x2)] [.int ((10 : Int32) * x1)] _ _ from ?_)
      refine zy_0 rfl rfl (show zyR _ _ _ _ [some (.ref (9 + 3)), some (.int x1), some (.int x2)] [.ref (9 + 3), .int ((10 : Int32) * x1)] _ _ from ?_)
      obtain ⟨p4, hp4, h⟩ := zy_bind h
      refine zy_5 (c := 9) (as := []) (rest := [.int ((10 : Int32) * x1)]) (L := [some (.ref (9 + 3))]) (d' := 1) rfl rfl rfl (Nat.le_of_ble_eq_true rfl) (Nat.le_of_ble_eq_true rfl) rfl (Nat.le_of_ble_eq_true rfl) rfl rfl (zyC41 hp4) ?_
      show zyR _ _ _ _ [some (.ref (9 + 3)), some (.int x1), some (.int x2)] [.int p4.1, .int ((10 : Int32) * x1)] _ _
      refine zy_10 rfl (show zyR _ _ _ _ [some (.ref (9 + 3)), some (.int x1), some (.int x2)] [.int (((10 : Int32) * x1) + p4.1)] _ _ from ?_)
      refine zy_3 rfl rfl (show zyR _ _ _ _ [some (.ref (9 + 3)), some (.int x1), some (.int x2)] [.int (48 : Int32), .int (((10 : Int32) * x1) + p4.1)] _ _ from ?_)
      refine zy_11 rfl (show zyR _ _ _ _ [some (.ref (9 + 3)), some (.int x1), some (.int x2)] [.int ((((10 : Int32) * x1) + p4.1) - (48 : Int32))] _ _ from ?_)
      refine zy_23 rfl rfl (show zyR _ _ _ _ [some (.ref (9 + 3)), some (.int ((((10 : Int32) * x1) + p4.1) - (48 : Int32))), some (.int x2)] [] _ _ from ?_)
      refine zy_0 rfl rfl (show zyR _ _ _ _ [some (.ref (9 + 3)), some (.int ((((10 : Int32) * x1) + p4.1) - (48 : Int32))), some (.int x2)] [.ref (9 + 3)] _ _ from ?_)
      refine zy_33 rfl rfl (show zyR _ _ _ _ [some (.ref (9 + 3)), some (.int ((((10 : Int32) * x1) + p4.1) - (48 : Int32))), some (.int x2)] [.ref (9 + 3), .ref (9 + 3)] _ _ from ?_)
      refine zy_1 (c := 9) rfl rfl rfl (show zyR _ _ _ _ [some (.ref (9 + 3)), some (.int ((((10 : Int32) * x1) + p4.1) - (48 : Int32))), some (.int x2)] [.int (p4.2.1 9 4), .ref (9 + 3)] _ _ from ?_)
      refine zy_3 rfl rfl (show zyR _ _ _ _ [some (.ref (9 + 3)), some (.int ((((10 : Int32) * x1) + p4.1) - (48 : Int32))), some (.int x2)] [.int (1 : Int32), .int (p4.2.1 9 4), .ref (9 + 3)] _ _ from ?_)
      refine zy_10 rfl (show zyR _ _ _ _ [some (.ref (9 + 3)), some (.int ((((10 : Int32) * x1) + p4.1) - (48 : Int32))), some (.int x2)] [.int ((p4.2.1 9 4) + (1 : Int32)), .ref (9 + 3)] _ _ from ?_)
      refine zy_52 (c := 9) rfl rfl rfl (show zyR _ _ _ _ [some (.ref (9 + 3)), some (.int ((((10 : Int32) * x1) + p4.1) - (48 : Int32))), some (.int x2)] [] _ _ from ?_)
      refine zy_22 rfl rfl rfl rfl (show zyR _ _ _ _ [some (.ref (9 + 3)), some (.int ((((10 : Int32) * x1) + p4.1) - (48 : Int32))), some (.int (x2 + (1 : Int32)))] [] _ _ from ?_)
      refine zy_6 rfl (show zyR _ _ _ _ [some (.ref (9 + 3)), some (.int ((((10 : Int32) * x1) + p4.1) - (48 : Int32))), some (.int (x2 + (1 : Int32)))] [] _ _ from ?_)
      exact zy_sub (show zy_le [some (.ref (9 + 3)), some (.int ((((10 : Int32) * x1) + p4.1) - (48 : Int32))), some (.int (x2 + (1 : Int32)))] [some (.ref (9 + 3)), some (.int ((((10 : Int32) * x1) + p4.1) - (48 : Int32))), some (.int (x2 + (1 : Int32)))] from ⟨rfl, ⟨rfl, ⟨rfl, trivial⟩⟩⟩) (hk4 ((((10 : Int32) * x1) + p4.1) - (48 : Int32)) (x2 + (1 : Int32)) (zy_up p4.2 9 4 ((p4.2.1 9 4) + (1 : Int32))) _ _ h)
noncomputable def zyF43_4   (n : Nat) : Int32 → Int32 → zy_S → Option (Int32 × zy_S) := Nat.rec (fun _ _ _ => none) (fun _ k4 => zyF43_4b k4) n
theorem zyC43_4 {X : zx_X}     : ∀ (n : Nat) (x1 : Int32) (x2 : Int32) (s : zy_S) (r : Int32) (s' : zy_S), zyF43_4 n x1 x2 s = some (r, s') → zyR X 2 43 4 [some (.ref (9 + 3)), some (.int x1), some (.int x2)] [] s (zyE none s')
  | 0, _, _ => by
    intro s r s'  h
    have h : (none : Option (Int32 × zy_S)) = some (r, s') := h
    cases h
  | n + 1, x1, x2 => by
    intro s r s'  h
    exact zyC43_4b (k4 := zyF43_4 n) (fun x1 x2 s r s'  h => zyC43_4  n x1 x2 s r s'  h) h
noncomputable def zyF43    (s : zy_S) : Option (Int32 × zy_S) :=
zyF43_4 zy_fu (0 : Int32) (0 : Int32) s
theorem zyC43 {X : zx_X}      {s : zy_S} {r : Int32} {s' : zy_S}  (h : zyF43 s = some (r, s')) : zyR X 2 43 0 [some (.ref (9 + 3)), none, none] [] s (zyE none s') := by
  unfold zyF43 at h
  refine zy_3 rfl rfl (show zyR _ _ _ _ [some (.ref (9 + 3)), none, none] [.int (0 : Int32)] _ _ from ?_)
  refine zy_23 rfl rfl (show zyR _ _ _ _ [some (.ref (9 + 3)), some (.int (0 : Int32)), none] [] _ _ from ?_)
  refine zy_3 rfl rfl (show zyR _ _ _ _ [some (.ref (9 + 3)), some (.int (0 : Int32)), none] [.int (0 : Int32)] _ _ from ?_)
  refine zy_23 rfl rfl (show zyR _ _ _ _ [some (.ref (9 + 3)), some (.int (0 : Int32)), some (.int (0 : Int32))] [] _ _ from ?_)
  exact zy_sub (show zy_le [some (.ref (9 + 3)), some (.int (0 : Int32)), some (.int (0 : Int32))] [some (.ref (9 + 3)), some (.int (0 : Int32)), some (.int (0 : Int32))] from ⟨rfl, ⟨rfl, ⟨rfl, trivial⟩⟩⟩) (zyC43_4 zy_fu (0 : Int32) (0 : Int32) s _ _ h)
/-! NineOpinions$Tape.nameOf(I)I -/
noncomputable def zyF45   (x0 : Int32) (s : zy_S) : Option (Int32 × zy_S) :=
if x0 = (100 : Int32) then
some ((0 : Int32), s)
else
if x0 = (101 : Int32) then
some ((-1 : Int32), s)
else
if x0 = (102 : Int32) then
some ((-1 : Int32), s)
else
if x0 = (103 : Int32) then
some ((-1 : Int32), s)
else
if x0 = (104 : Int32) then
some ((-1 : Int32), s)
else
if x0 = (105 : Int32) then
some ((-1 : Int32), s)
else
if x0 = (106 : Int32) then
some ((-1 : Int32), s)
else
if x0 = (107 : Int32) then
some ((4 : Int32), s)
else
if x0 = (108 : Int32) then
some ((-1 : Int32), s)
else
if x0 = (109 : Int32) then
some ((2 : Int32), s)
else
if x0 = (110 : Int32) then
some ((-1 : Int32), s)
else
if x0 = (111 : Int32) then
some ((-1 : Int32), s)
else
if x0 = (112 : Int32) then
some ((-1 : Int32), s)
else
if x0 = (113 : Int32) then
some ((-1 : Int32), s)
else
if x0 = (114 : Int32) then
some ((-1 : Int32), s)
else
if x0 = (115 : Int32) then
some ((1 : Int32), s)
else
if x0 = (116 : Int32) then
some ((-1 : Int32), s)
else
if x0 = (117 : Int32) then
some ((-1 : Int32), s)
else
if x0 = (118 : Int32) then
some ((5 : Int32), s)
else
if x0 = (119 : Int32) then
some ((3 : Int32), s)
else
some ((-1 : Int32), s)
theorem zyC45 {X : zx_X}     {x0 : Int32} {s : zy_S} {r : Int32} {s' : zy_S}  (h : zyF45 x0 s = some (r, s')) : zyR X 1 45 0 [some (.int x0)] [] s (zyE (some (.int r)) s') := by
  unfold zyF45 at h
  refine zy_2 rfl rfl (show zyR _ _ _ _ [some (.int x0)] [.int x0] _ _ from ?_)
  refine zy_50 rfl (by decide) ?_
  refine zy_swp (fun b1 => (show zyR _ _ _ _ [some (.int x0)] [] _ _ from ?_)) (fun b1 => ?_)
  · replace h := zy_ifp h b1
    refine zy_3 rfl rfl (show zyR _ _ _ _ [some (.int x0)] [.int (0 : Int32)] _ _ from ?_)
    obtain ⟨rfl, rfl⟩ := zy_pi h
    exact zy_4 rfl ⟨rfl, rfl⟩
  replace h := zy_ifn h b1
  refine zy_swp (fun b2 => (show zyR _ _ _ _ [some (.int x0)] [] _ _ from ?_)) (fun b2 => ?_)
  · replace h := zy_ifp h b2
    refine zy_3 rfl rfl (show zyR _ _ _ _ [some (.int x0)] [.int (-1 : Int32)] _ _ from ?_)
    obtain ⟨rfl, rfl⟩ := zy_pi h
    exact zy_4 rfl ⟨rfl, rfl⟩
  replace h := zy_ifn h b2
  refine zy_swp (fun b3 => (show zyR _ _ _ _ [some (.int x0)] [] _ _ from ?_)) (fun b3 => ?_)
  · replace h := zy_ifp h b3
    refine zy_3 rfl rfl (show zyR _ _ _ _ [some (.int x0)] [.int (-1 : Int32)] _ _ from ?_)
    obtain ⟨rfl, rfl⟩ := zy_pi h
    exact zy_4 rfl ⟨rfl, rfl⟩
  replace h := zy_ifn h b3
  refine zy_swp (fun b4 => (show zyR _ _ _ _ [some (.int x0)] [] _ _ from ?_)) (fun b4 => ?_)
  · replace h := zy_ifp h b4
    refine zy_3 rfl rfl (show zyR _ _ _ _ [some (.int x0)] [.int (-1 : Int32)] _ _ from ?_)
    obtain ⟨rfl, rfl⟩ := zy_pi h
    exact zy_4 rfl ⟨rfl, rfl⟩
  replace h := zy_ifn h b4
  refine zy_swp (fun b5 => (show zyR _ _ _ _ [some (.int x0)] [] _ _ from ?_)) (fun b5 => ?_)
  · replace h := zy_ifp h b5
    refine zy_3 rfl rfl (show zyR _ _ _ _ [some (.int x0)] [.int (-1 : Int32)] _ _ from ?_)
    obtain ⟨rfl, rfl⟩ := zy_pi h
    exact zy_4 rfl ⟨rfl, rfl⟩
  replace h := zy_ifn h b5
  refine zy_swp (fun b6 => (show zyR _ _ _ _ [some (.int x0)] [] _ _ from ?_)) (fun b6 => ?_)
  · replace h := zy_ifp h b6
    refine zy_3 rfl rfl (show zyR _ _ _ _ [some (.int x0)] [.int (-1 : Int32)] _ _ from ?_)
    obtain ⟨rfl, rfl⟩ := zy_pi h
    exact zy_4 rfl ⟨rfl, rfl⟩
  replace h := zy_ifn h b6
  refine zy_swp (fun b7 => (show zyR _ _ _ _ [some (.int x0)] [] _ _ from ?_)) (fun b7 => ?_)
  · replace h := zy_ifp h b7
    refine zy_3 rfl rfl (show zyR _ _ _ _ [some (.int x0)] [.int (-1 : Int32)] _ _ from ?_)
    obtain ⟨rfl, rfl⟩ := zy_pi h
    exact zy_4 rfl ⟨rfl, rfl⟩
  replace h := zy_ifn h b7
  refine zy_swp (fun b8 => (show zyR _ _ _ _ [some (.int x0)] [] _ _ from ?_)) (fun b8 => ?_)
  · replace h := zy_ifp h b8
    refine zy_3 rfl rfl (show zyR _ _ _ _ [some (.int x0)] [.int (4 : Int32)] _ _ from ?_)
    obtain ⟨rfl, rfl⟩ := zy_pi h
    exact zy_4 rfl ⟨rfl, rfl⟩
  replace h := zy_ifn h b8
  refine zy_swp (fun b9 => (show zyR _ _ _ _ [some (.int x0)] [] _ _ from ?_)) (fun b9 => ?_)
  · replace h := zy_ifp h b9
    refine zy_3 rfl rfl (show zyR _ _ _ _ [some (.int x0)] [.int (-1 : Int32)] _ _ from ?_)
    obtain ⟨rfl, rfl⟩ := zy_pi h
    exact zy_4 rfl ⟨rfl, rfl⟩
  replace h := zy_ifn h b9
  refine zy_swp (fun b10 => (show zyR _ _ _ _ [some (.int x0)] [] _ _ from ?_)) (fun b10 => ?_)
  · replace h := zy_ifp h b10
    refine zy_3 rfl rfl (show zyR _ _ _ _ [some (.int x0)] [.int (2 : Int32)] _ _ from ?_)
    obtain ⟨rfl, rfl⟩ := zy_pi h
    exact zy_4 rfl ⟨rfl, rfl⟩
  replace h := zy_ifn h b10
  refine zy_swp (fun b11 => (show zyR _ _ _ _ [some (.int x0)] [] _ _ from ?_)) (fun b11 => ?_)
  · replace h := zy_ifp h b11
    refine zy_3 rfl rfl (show zyR _ _ _ _ [some (.int x0)] [.int (-1 : Int32)] _ _ from ?_)
    obtain ⟨rfl, rfl⟩ := zy_pi h
    exact zy_4 rfl ⟨rfl, rfl⟩
  replace h := zy_ifn h b11
  refine zy_swp (fun b12 => (show zyR _ _ _ _ [some (.int x0)] [] _ _ from ?_)) (fun b12 => ?_)
  · replace h := zy_ifp h b12
    refine zy_3 rfl rfl (show zyR _ _ _ _ [some (.int x0)] [.int (-1 : Int32)] _ _ from ?_)
    obtain ⟨rfl, rfl⟩ := zy_pi h
    exact zy_4 rfl ⟨rfl, rfl⟩
  replace h := zy_ifn h b12
  refine zy_swp (fun b13 => (show zyR _ _ _ _ [some (.int x0)] [] _ _ from ?_)) (fun b13 => ?_)
  · replace h := zy_ifp h b13
    refine zy_3 rfl rfl (show zyR _ _ _ _ [some (.int x0)] [.int (-1 : Int32)] _ _ from ?_)
    obtain ⟨rfl, rfl⟩ := zy_pi h
    exact zy_4 rfl ⟨rfl, rfl⟩
  replace h := zy_ifn h b13
  refine zy_swp (fun b14 => (show zyR _ _ _ _ [some (.int x0)] [] _ _ from ?_)) (fun b14 => ?_)
  · replace h := zy_ifp h b14
    refine zy_3 rfl rfl (show zyR _ _ _ _ [some (.int x0)] [.int (-1 : Int32)] _ _ from ?_)
    obtain ⟨rfl, rfl⟩ := zy_pi h
    exact zy_4 rfl ⟨rfl, rfl⟩
  replace h := zy_ifn h b14
  refine zy_swp (fun b15 => (show zyR _ _ _ _ [some (.int x0)] [] _ _ from ?_)) (fun b15 => ?_)
  · replace h := zy_ifp h b15
    refine zy_3 rfl rfl (show zyR _ _ _ _ [some (.int x0)] [.int (-1 : Int32)] _ _ from ?_)
    obtain ⟨rfl, rfl⟩ := zy_pi h
    exact zy_4 rfl ⟨rfl, rfl⟩
  replace h := zy_ifn h b15
  refine zy_swp (fun b16 => (show zyR _ _ _ _ [some (.int x0)] [] _ _ from ?_)) (fun b16 => ?_)
  · replace h := zy_ifp h b16
    refine zy_3 rfl rfl (show zyR _ _ _ _ [some (.int x0)] [.int (1 : Int32)] _ _ from ?_)
    obtain ⟨rfl, rfl⟩ := zy_pi h
    exact zy_4 rfl ⟨rfl, rfl⟩
  replace h := zy_ifn h b16
  refine zy_swp (fun b17 => (show zyR _ _ _ _ [some (.int x0)] [] _ _ from ?_)) (fun b17 => ?_)
  · replace h := zy_ifp h b17
    refine zy_3 rfl rfl (show zyR _ _ _ _ [some (.int x0)] [.int (-1 : Int32)] _ _ from ?_)
    obtain ⟨rfl, rfl⟩ := zy_pi h
    exact zy_4 rfl ⟨rfl, rfl⟩
  replace h := zy_ifn h b17
  refine zy_swp (fun b18 => (show zyR _ _ _ _ [some (.int x0)] [] _ _ from ?_)) (fun b18 => ?_)
  · replace h := zy_ifp h b18
    refine zy_3 rfl rfl (show zyR _ _ _ _ [some (.int x0)] [.int (-1 : Int32)] _ _ from ?_)
    obtain ⟨rfl, rfl⟩ := zy_pi h
    exact zy_4 rfl ⟨rfl, rfl⟩
  replace h := zy_ifn h b18
  refine zy_swp (fun b19 => (show zyR _ _ _ _ [some (.int x0)] [] _ _ from ?_)) (fun b19 => ?_)
  · replace h := zy_ifp h b19
    refine zy_3 rfl rfl (show zyR _ _ _ _ [some (.int x0)] [.int (5 : Int32)] _ _ from ?_)
    obtain ⟨rfl, rfl⟩ := zy_pi h
    exact zy_4 rfl ⟨rfl, rfl⟩
  replace h := zy_ifn h b19
  refine zy_swp (fun b20 => (show zyR _ _ _ _ [some (.int x0)] [] _ _ from ?_)) (fun b20 => ?_)
  · replace h := zy_ifp h b20
    refine zy_3 rfl rfl (show zyR _ _ _ _ [some (.int x0)] [.int (3 : Int32)] _ _ from ?_)
    obtain ⟨rfl, rfl⟩ := zy_pi h
    exact zy_4 rfl ⟨rfl, rfl⟩
  replace h := zy_ifn h b20
  show zyR _ _ _ _ [some (.int x0)] [] _ _
  refine zy_3 rfl rfl (show zyR _ _ _ _ [some (.int x0)] [.int (-1 : Int32)] _ _ from ?_)
  obtain ⟨rfl, rfl⟩ := zy_pi h
  exact zy_4 rfl ⟨rfl, rfl⟩
/-! NineOpinions$Tape.goesOnWith(C)Z -/
noncomputable def zyF46_35   (x2 : Int32) (y0 : Int32) (y1 : Int32) (s : zy_S) : Option (Int32 × zy_S) :=
if x2 = 0 ∨ x2 = 1 then
some (x2, (zy_up s 9 4 (y1 + y0)))
else none
theorem zyC46_35 {X : zx_X}     {x2 : Int32} {y0 : Int32} {y1 : Int32} {s : zy_S} {r : Int32} {s' : zy_S}  (h : zyF46_35 x2 y0 y1 s = some (r, s')) : zyR X 2 46 35 [none, none, some (.int x2)] [.int y0, .int y1, .ref (9 + 3)] s (zyE (some (.int r)) s') := by
  unfold zyF46_35 at h
  refine zy_10 rfl (show zyR _ _ _ _ [none, none, some (.int x2)] [.int (y1 + y0), .ref (9 + 3)] _ _ from ?_)
  refine zy_52 (c := 9) rfl rfl rfl (show zyR _ _ _ _ [none, none, some (.int x2)] [] _ _ from ?_)
  refine zy_2 rfl rfl (show zyR _ _ _ _ [none, none, some (.int x2)] [.int x2] _ _ from ?_)
  obtain ⟨c1, h⟩ := zy_if h
  cases h
  exact zy_4b rfl ⟨rfl, rfl⟩ c1
noncomputable def zyF46_20   (y0 : Int32) (s : zy_S) : Option (Int32 × zy_S) :=
if y0 = 0 then
zyF46_35 y0 (0 : Int32) (s.1 9 4) s
else
zyF46_35 y0 (1 : Int32) (s.1 9 4) s
theorem zyC46_20 {X : zx_X}     {y0 : Int32} {s : zy_S} {r : Int32} {s' : zy_S}  (h : zyF46_20 y0 s = some (r, s')) : zyR X 2 46 20 [some (.ref (9 + 3)), none, none] [.int y0] s (zyE (some (.int r)) s') := by
  unfold zyF46_20 at h
  refine zy_23 rfl rfl (show zyR _ _ _ _ [some (.ref (9 + 3)), none, some (.int y0)] [] _ _ from ?_)
  refine zy_0 rfl rfl (show zyR _ _ _ _ [some (.ref (9 + 3)), none, some (.int y0)] [.ref (9 + 3)] _ _ from ?_)
  refine zy_33 rfl rfl (show zyR _ _ _ _ [some (.ref (9 + 3)), none, some (.int y0)] [.ref (9 + 3), .ref (9 + 3)] _ _ from ?_)
  refine zy_1 (c := 9) rfl rfl rfl (show zyR _ _ _ _ [some (.ref (9 + 3)), none, some (.int y0)] [.int (s.1 9 4), .ref (9 + 3)] _ _ from ?_)
  refine zy_2 rfl rfl (show zyR _ _ _ _ [some (.ref (9 + 3)), none, some (.int y0)] [.int y0, .int (s.1 9 4), .ref (9 + 3)] _ _ from ?_)
  refine zy_24_0 rfl (fun b2 => (show zyR _ _ _ _ [some (.ref (9 + 3)), none, some (.int y0)] [.int (s.1 9 4), .ref (9 + 3)] _ _ from ?_)) (fun b2 => (show zyR _ _ _ _ [some (.ref (9 + 3)), none, some (.int y0)] [.int (s.1 9 4), .ref (9 + 3)] _ _ from ?_))
  · replace h := zy_ifp h b2
    refine zy_3 rfl rfl (show zyR _ _ _ _ [some (.ref (9 + 3)), none, some (.int y0)] [.int (0 : Int32), .int (s.1 9 4), .ref (9 + 3)] _ _ from ?_)
    exact zy_sub (show zy_le [none, none, some (.int y0)] [some (.ref (9 + 3)), none, some (.int y0)] from ⟨rfl, trivial⟩) (zyC46_35 h)
  · replace h := zy_ifn h b2
    refine zy_3 rfl rfl (show zyR _ _ _ _ [some (.ref (9 + 3)), none, some (.int y0)] [.int (1 : Int32), .int (s.1 9 4), .ref (9 + 3)] _ _ from ?_)
    refine zy_6 rfl (show zyR _ _ _ _ [some (.ref (9 + 3)), none, some (.int y0)] [.int (1 : Int32), .int (s.1 9 4), .ref (9 + 3)] _ _ from ?_)
    exact zy_sub (show zy_le [none, none, some (.int y0)] [some (.ref (9 + 3)), none, some (.int y0)] from ⟨rfl, trivial⟩) (zyC46_35 h)
noncomputable def zyF46_19    (s : zy_S) : Option (Int32 × zy_S) :=
zyF46_20 (0 : Int32) s
theorem zyC46_19 {X : zx_X}      {s : zy_S} {r : Int32} {s' : zy_S}  (h : zyF46_19 s = some (r, s')) : zyR X 2 46 19 [some (.ref (9 + 3)), none, none] [] s (zyE (some (.int r)) s') := by
  unfold zyF46_19 at h
  refine zy_3 rfl rfl (show zyR _ _ _ _ [some (.ref (9 + 3)), none, none] [.int (0 : Int32)] _ _ from ?_)
  exact zy_sub (show zy_le [some (.ref (9 + 3)), none, none] [some (.ref (9 + 3)), none, none] from ⟨rfl, trivial⟩) (zyC46_20 h)
noncomputable def zyF46   (x1 : Int32) (s : zy_S) : Option (Int32 × zy_S) :=
if (s.1 9 5) ≠ 0 then
zyF46_19 s
else
(zyF41 s).bind fun p3 =>
if p3.1 ≠ x1 then
zyF46_19 p3.2
else
zyF46_20 (1 : Int32) p3.2
theorem zyC46 {X : zx_X}     {x1 : Int32} {s : zy_S} {r : Int32} {s' : zy_S}  (h : zyF46 x1 s = some (r, s')) : zyR X 2 46 0 [some (.ref (9 + 3)), some (.int x1), none] [] s (zyE (some (.int r)) s') := by
  unfold zyF46 at h
  refine zy_0 rfl rfl (show zyR _ _ _ _ [some (.ref (9 + 3)), some (.int x1), none] [.ref (9 + 3)] _ _ from ?_)
  refine zy_1 (c := 9) rfl rfl rfl (show zyR _ _ _ _ [some (.ref (9 + 3)), some (.int x1), none] [.int (s.1 9 5)] _ _ from ?_)
  refine zy_24_1 rfl (fun b5 => (show zyR _ _ _ _ [some (.ref (9 + 3)), some (.int x1), none] [] _ _ from ?_)) (fun b5 => (show zyR _ _ _ _ [some (.ref (9 + 3)), some (.int x1), none] [] _ _ from ?_))
  · replace h := zy_ifp h b5
    exact zy_sub (show zy_le [some (.ref (9 + 3)), none, none] [some (.ref (9 + 3)), some (.int x1), none] from ⟨rfl, trivial⟩) (zyC46_19 h)
  · replace h := zy_ifn h b5
    refine zy_0 rfl rfl (show zyR _ _ _ _ [some (.ref (9 + 3)), some (.int x1), none] [.ref (9 + 3)] _ _ from ?_)
    obtain ⟨p3, hp3, h⟩ := zy_bind h
    refine zy_5 (c := 9) (as := []) (rest := []) (L := [some (.ref (9 + 3))]) (d' := 1) rfl rfl rfl (Nat.le_of_ble_eq_true rfl) (Nat.le_of_ble_eq_true rfl) rfl (Nat.le_of_ble_eq_true rfl) rfl rfl (zyC41 hp3) ?_
    show zyR _ _ _ _ [some (.ref (9 + 3)), some (.int x1), none] [.int p3.1] _ _
    refine zy_2 rfl rfl (show zyR _ _ _ _ [some (.ref (9 + 3)), some (.int x1), none] [.int x1, .int p3.1] _ _ from ?_)
    refine zy_25_1 rfl (fun b4 => (show zyR _ _ _ _ [some (.ref (9 + 3)), some (.int x1), none] [] _ _ from ?_)) (fun b4 => (show zyR _ _ _ _ [some (.ref (9 + 3)), some (.int x1), none] [] _ _ from ?_))
    · replace h := zy_ifp h b4
      exact zy_sub (show zy_le [some (.ref (9 + 3)), none, none] [some (.ref (9 + 3)), some (.int x1), none] from ⟨rfl, trivial⟩) (zyC46_19 h)
    · replace h := zy_ifn h b4
      refine zy_3 rfl rfl (show zyR _ _ _ _ [some (.ref (9 + 3)), some (.int x1), none] [.int (1 : Int32)] _ _ from ?_)
      refine zy_6 rfl (show zyR _ _ _ _ [some (.ref (9 + 3)), some (.int x1), none] [.int (1 : Int32)] _ _ from ?_)
      exact zy_sub (show zy_le [some (.ref (9 + 3)), none, none] [some (.ref (9 + 3)), some (.int x1), none] from ⟨rfl, trivial⟩) (zyC46_20 h)
/-! NineOpinions$Tape.readLevel(II)V, over what it calls -/
noncomputable def zyF39_34b (g39 : Int32 → Int32 → zy_S → Option (Int32 × zy_S)) (g40 : Int32 → zy_S → Option (Int32 × zy_S)) (k34 : Int32 → Int32 → Int32 → Int32 → zy_S → Option (Int32 × zy_S)) (x1 : Int32) (x2 : Int32) (x3 : Int32) (x4 : Int32) (s : zy_S) : Option (Int32 × zy_S) :=
if x3 ≤ x4 then
some ((0 : Int32), s)
else
if (s.1 9 5) ≠ 0 then
some ((0 : Int32), s)
else
(zyF41 s).bind fun p1 =>
(zyF47 p1.1 p1.2).bind fun p2 =>
if p2.1 ≠ x1 then
some ((0 : Int32), p2.2)
else
(zyF41 p2.2).bind fun p3 =>
(g39 (x1 + (1 : Int32)) x2 (zy_up p3.2 9 4 ((p3.2.1 9 4) + (1 : Int32)))).bind fun p4 =>
(zyF44 (-p3.1) p4.2).bind fun p5 =>
k34 x1 x2 x3 (x4 + (1 : Int32)) p5.2
theorem zyC39_34b {X : zx_X} {d : Nat} {g39 : Int32 → Int32 → zy_S → Option (Int32 × zy_S)} {g40 : Int32 → zy_S → Option (Int32 × zy_S)} {k34 : Int32 → Int32 → Int32 → Int32 → zy_S → Option (Int32 × zy_S)} (hd : 1 ≤ d) (hg39 : ∀ (x1 : Int32) (x2 : Int32) (s : zy_S) (r : Int32) (s' : zy_S), g39 x1 x2 s = some (r, s') → zyR X d 39 0 [some (.ref (9 + 3)), some (.int x1), some (.int x2), none, none, none] [] s (zyE none s')) (hg40 : ∀ (x1 : Int32) (s : zy_S) (r : Int32) (s' : zy_S), g40 x1 s = some (r, s') → zyR X d 40 0 [some (.ref (9 + 3)), some (.int x1), none] [] s (zyE none s')) (hk34 : ∀ (x1 : Int32) (x2 : Int32) (x3 : Int32) (x4 : Int32) (s : zy_S) (r : Int32) (s' : zy_S), k34 x1 x2 x3 x4 s = some (r, s') → zyR X (d + 1) 39 34 [some (.ref (9 + 3)), some (.int x1), some (.int x2), some (.int x3), some (.int x4), none] [] s (zyE none s')) {x1 : Int32} {x2 : Int32} {x3 : Int32} {x4 : Int32} {s : zy_S} {r : Int32} {s' : zy_S}  (h : zyF39_34b g39 g40 k34 x1 x2 x3 x4 s = some (r, s')) : zyR X (d + 1) 39 34 [some (.ref (9 + 3)), some (.int x1), some (.int x2), some (.int x3), some (.int x4), none] [] s (zyE none s') := by
  unfold zyF39_34b at h
  refine zy_2 rfl rfl (show zyR _ _ _ _ [some (.ref (9 + 3)), some (.int x1), some (.int x2), some (.int x3), some (.int x4), none] [.int x4] _ _ from ?_)
  refine zy_2 rfl rfl (show zyR _ _ _ _ [some (.ref (9 + 3)), some (.int x1), some (.int x2), some (.int x3), some (.int x4), none] [.int x3, .int x4] _ _ from ?_)
  refine zy_25_3 rfl (fun b8 => (show zyR _ _ _ _ [some (.ref (9 + 3)), some (.int x1), some (.int x2), some (.int x3), some (.int x4), none] [] _ _ from ?_)) (fun b8 => (show zyR _ _ _ _ [some (.ref (9 + 3)), some (.int x1), some (.int x2), some (.int x3), some (.int x4), none] [] _ _ from ?_))
  · replace h := zy_ifp h b8
    cases h
    exact zy_66 rfl ⟨rfl, rfl⟩
  · replace h := zy_ifn h b8
    refine zy_0 rfl rfl (show zyR _ _ _ _ [some (.ref (9 + 3)), some (.int x1), some (.int x2), some (.int x3), some (.int x4), none] [.ref (9 + 3)] _ _ from ?_)
    refine zy_1 (c := 9) rfl rfl rfl (show zyR _ _ _ _ [some (.ref (9 + 3)), some (.int x1), some (.int x2), some (.int x3), some (.int x4), none] [.int (s.1 9 5)] _ _ from ?_)
    refine zy_24_1 rfl (fun b7 => (show zyR _ _ _ _ [some (.ref (9 + 3)), some (.int x1), some (.int x2), some (.int x3), some (.int x4), none] [] _ _ from ?_)) (fun b7 => (show zyR _ _ _ _ [some (.ref (9 + 3)), some (.int x1), some (.int x2), some (.int x3), some (.int x4), none] [] _ _ from ?_))
    · replace h := zy_ifp h b7
      cases h
      exact zy_66 rfl ⟨rfl, rfl⟩
    · replace h := zy_ifn h b7
      refine zy_0 rfl rfl (show zyR _ _ _ _ [some (.ref (9 + 3)), some (.int x1), some (.int x2), some (.int x3), some (.int x4), none] [.ref (9 + 3)] _ _ from ?_)
      obtain ⟨p1, hp1, h⟩ := zy_bind h
      refine zy_5 (c := 9) (as := []) (rest := []) (L := [some (.ref (9 + 3))]) (d' := 1) rfl rfl rfl (Nat.le_of_ble_eq_true rfl) (by omega) rfl (Nat.le_of_ble_eq_true rfl) rfl rfl (zyC41 hp1) ?_
      show zyR _ _ _ _ [some (.ref (9 + 3)), some (.int x1), some (.int x2), some (.int x3), some (.int x4), none] [.int p1.1] _ _
      obtain ⟨p2, hp2, h⟩ := zy_bind h
      refine zy_60 (as := [.int p1.1]) (rest := []) (L := [some (.int p1.1)]) (d' := 1) rfl rfl (Nat.le_of_ble_eq_true rfl) (by omega) rfl (Nat.le_of_ble_eq_true rfl) rfl rfl (zyC47 hp2) ?_
      show zyR _ _ _ _ [some (.ref (9 + 3)), some (.int x1), some (.int x2), some (.int x3), some (.int x4), none] [.int p2.1] _ _
      refine zy_2 rfl rfl (show zyR _ _ _ _ [some (.ref (9 + 3)), some (.int x1), some (.int x2), some (.int x3), some (.int x4), none] [.int x1, .int p2.1] _ _ from ?_)
      refine zy_25_1 rfl (fun b6 => (show zyR _ _ _ _ [some (.ref (9 + 3)), some (.int x1), some (.int x2), some (.int x3), some (.int x4), none] [] _ _ from ?_)) (fun b6 => (show zyR _ _ _ _ [some (.ref (9 + 3)), some (.int x1), some (.int x2), some (.int x3), some (.int x4), none] [] _ _ from ?_))
      · replace h := zy_ifp h b6
        cases h
        exact zy_66 rfl ⟨rfl, rfl⟩
      · replace h := zy_ifn h b6
        refine zy_0 rfl rfl (show zyR _ _ _ _ [some (.ref (9 + 3)), some (.int x1), some (.int x2), some (.int x3), some (.int x4), none] [.ref (9 + 3)] _ _ from ?_)
        obtain ⟨p3, hp3, h⟩ := zy_bind h
        refine zy_5 (c := 9) (as := []) (rest := []) (L := [some (.ref (9 + 3))]) (d' := 1) rfl rfl rfl (Nat.le_of_ble_eq_true rfl) (by omega) rfl (Nat.le_of_ble_eq_true rfl) rfl rfl (zyC41 hp3) ?_
        show zyR _ _ _ _ [some (.ref (9 + 3)), some (.int x1), some (.int x2), some (.int x3), some (.int x4), none] [.int p3.1] _ _
        refine zy_23 rfl rfl (show zyR _ _ _ _ [some (.ref (9 + 3)), some (.int x1), some (.int x2), some (.int x3), some (.int x4), some (.int p3.1)] [] _ _ from ?_)
        refine zy_0 rfl rfl (show zyR _ _ _ _ [some (.ref (9 + 3)), some (.int x1), some (.int x2), some (.int x3), some (.int x4), some (.int p3.1)] [.ref (9 + 3)] _ _ from ?_)
        refine zy_33 rfl rfl (show zyR _ _ _ _ [some (.ref (9 + 3)), some (.int x1), some (.int x2), some (.int x3), some (.int x4), some (.int p3.1)] [.ref (9 + 3), .ref (9 + 3)] _ _ from ?_)
        refine zy_1 (c := 9) rfl rfl rfl (show zyR _ _ _ _ [some (.ref (9 + 3)), some (.int x1), some (.int x2), some (.int x3), some (.int x4), some (.int p3.1)] [.int (p3.2.1 9 4), .ref (9 + 3)] _ _ from ?_)
        refine zy_3 rfl rfl (show zyR _ _ _ _ [some (.ref (9 + 3)), some (.int x1), some (.int x2), some (.int x3), some (.int x4), some (.int p3.1)] [.int (1 : Int32), .int (p3.2.1 9 4), .ref (9 + 3)] _ _ from ?_)
        refine zy_10 rfl (show zyR _ _ _ _ [some (.ref (9 + 3)), some (.int x1), some (.int x2), some (.int x3), some (.int x4), some (.int p3.1)] [.int ((p3.2.1 9 4) + (1 : Int32)), .ref (9 + 3)] _ _ from ?_)
        refine zy_52 (c := 9) rfl rfl rfl (show zyR _ _ _ _ [some (.ref (9 + 3)), some (.int x1), some (.int x2), some (.int x3), some (.int x4), some (.int p3.1)] [] _ _ from ?_)
        refine zy_0 rfl rfl (show zyR _ _ _ _ [some (.ref (9 + 3)), some (.int x1), some (.int x2), some (.int x3), some (.int x4), some (.int p3.1)] [.ref (9 + 3)] _ _ from ?_)
        refine zy_2 rfl rfl (show zyR _ _ _ _ [some (.ref (9 + 3)), some (.int x1), some (.int x2), some (.int x3), some (.int x4), some (.int p3.1)] [.int x1, .ref (9 + 3)] _ _ from ?_)
        refine zy_3 rfl rfl (show zyR _ _ _ _ [some (.ref (9 + 3)), some (.int x1), some (.int x2), some (.int x3), some (.int x4), some (.int p3.1)] [.int (1 : Int32), .int x1, .ref (9 + 3)] _ _ from ?_)
        refine zy_10 rfl (show zyR _ _ _ _ [some (.ref (9 + 3)), some (.int x1), some (.int x2), some (.int x3), some (.int x4), some (.int p3.1)] [.int (x1 + (1 : Int32)), .ref (9 + 3)] _ _ from ?_)
        refine zy_2 rfl rfl (show zyR _ _ _ _ [some (.ref (9 + 3)), some (.int x1), some (.int x2), some (.int x3), some (.int x4), some (.int p3.1)] [.int x2, .int (x1 + (1 : Int32)), .ref (9 + 3)] _ _ from ?_)
        obtain ⟨p4, hp4, h⟩ := zy_bind h
        refine zy_5 (c := 9) (as := [.int (x1 + (1 : Int32)), .int x2]) (rest := []) (L := [some (.ref (9 + 3)), some (.int (x1 + (1 : Int32))), some (.int x2), none, none, none]) (d' := d) rfl rfl rfl (Nat.le_of_ble_eq_true rfl) (by omega) rfl (Nat.le_of_ble_eq_true rfl) rfl rfl (hg39 (x1 + (1 : Int32)) x2 (zy_up p3.2 9 4 ((p3.2.1 9 4) + (1 : Int32))) _ _ hp4) ?_
        show zyR _ _ _ _ [some (.ref (9 + 3)), some (.int x1), some (.int x2), some (.int x3), some (.int x4), some (.int p3.1)] [] _ _
        refine zy_0 rfl rfl (show zyR _ _ _ _ [some (.ref (9 + 3)), some (.int x1), some (.int x2), some (.int x3), some (.int x4), some (.int p3.1)] [.ref (9 + 3)] _ _ from ?_)
        refine zy_2 rfl rfl (show zyR _ _ _ _ [some (.ref (9 + 3)), some (.int x1), some (.int x2), some (.int x3), some (.int x4), some (.int p3.1)] [.int p3.1, .ref (9 + 3)] _ _ from ?_)
        refine zy_21 rfl (show zyR _ _ _ _ [some (.ref (9 + 3)), some (.int x1), some (.int x2), some (.int x3), some (.int x4), some (.int p3.1)] [.int (-p3.1), .ref (9 + 3)] _ _ from ?_)
        obtain ⟨p5, hp5, h⟩ := zy_bind h
        refine zy_5 (c := 9) (as := [.int (-p3.1)]) (rest := []) (L := [some (.ref (9 + 3)), some (.int (-p3.1))]) (d' := 1) rfl rfl rfl (Nat.le_of_ble_eq_true rfl) (by omega) rfl (Nat.le_of_ble_eq_true rfl) rfl rfl (zyC44 hp5) ?_
        show zyR _ _ _ _ [some (.ref (9 + 3)), some (.int x1), some (.int x2), some (.int x3), some (.int x4), some (.int p3.1)] [] _ _
        refine zy_22 rfl rfl rfl rfl (show zyR _ _ _ _ [some (.ref (9 + 3)), some (.int x1), some (.int x2), some (.int x3), some (.int (x4 + (1 : Int32))), some (.int p3.1)] [] _ _ from ?_)
        refine zy_6 rfl (show zyR _ _ _ _ [some (.ref (9 + 3)), some (.int x1), some (.int x2), some (.int x3), some (.int (x4 + (1 : Int32))), some (.int p3.1)] [] _ _ from ?_)
        exact zy_sub (show zy_le [some (.ref (9 + 3)), some (.int x1), some (.int x2), some (.int x3), some (.int (x4 + (1 : Int32))), none] [some (.ref (9 + 3)), some (.int x1), some (.int x2), some (.int x3), some (.int (x4 + (1 : Int32))), some (.int p3.1)] from ⟨rfl, ⟨rfl, ⟨rfl, ⟨rfl, ⟨rfl, trivial⟩⟩⟩⟩⟩) (hk34 x1 x2 x3 (x4 + (1 : Int32)) p5.2 _ _ h)
noncomputable def zyF39_34 (g39 : Int32 → Int32 → zy_S → Option (Int32 × zy_S)) (g40 : Int32 → zy_S → Option (Int32 × zy_S))  (n : Nat) : Int32 → Int32 → Int32 → Int32 → zy_S → Option (Int32 × zy_S) := Nat.rec (fun _ _ _ _ _ => none) (fun _ k34 => zyF39_34b g39 g40 k34) n
theorem zyC39_34 {X : zx_X} {d : Nat} {g39 : Int32 → Int32 → zy_S → Option (Int32 × zy_S)} {g40 : Int32 → zy_S → Option (Int32 × zy_S)}  (hd : 1 ≤ d) (hg39 : ∀ (x1 : Int32) (x2 : Int32) (s : zy_S) (r : Int32) (s' : zy_S), g39 x1 x2 s = some (r, s') → zyR X d 39 0 [some (.ref (9 + 3)), some (.int x1), some (.int x2), none, none, none] [] s (zyE none s')) (hg40 : ∀ (x1 : Int32) (s : zy_S) (r : Int32) (s' : zy_S), g40 x1 s = some (r, s') → zyR X d 40 0 [some (.ref (9 + 3)), some (.int x1), none] [] s (zyE none s'))  : ∀ (n : Nat) (x1 : Int32) (x2 : Int32) (x3 : Int32) (x4 : Int32) (s : zy_S) (r : Int32) (s' : zy_S), zyF39_34 g39 g40 n x1 x2 x3 x4 s = some (r, s') → zyR X (d + 1) 39 34 [some (.ref (9 + 3)), some (.int x1), some (.int x2), some (.int x3), some (.int x4), none] [] s (zyE none s')
  | 0, _, _, _, _ => by
    intro s r s'  h
    have h : (none : Option (Int32 × zy_S)) = some (r, s') := h
    cases h
  | n + 1, x1, x2, x3, x4 => by
    intro s r s'  h
    exact zyC39_34b hd hg39 hg40 (k34 := zyF39_34 g39 g40 n) (fun x1 x2 x3 x4 s r s'  h => zyC39_34 hd hg39 hg40 n x1 x2 x3 x4 s r s'  h) h
noncomputable def zyF39_30 (g39 : Int32 → Int32 → zy_S → Option (Int32 × zy_S)) (g40 : Int32 → zy_S → Option (Int32 × zy_S))  (x1 : Int32) (x2 : Int32) (y0 : Int32) (s : zy_S) : Option (Int32 × zy_S) :=
zyF39_34 g39 g40 zy_fu x1 x2 y0 (0 : Int32) s
theorem zyC39_30 {X : zx_X} {d : Nat} {g39 : Int32 → Int32 → zy_S → Option (Int32 × zy_S)} {g40 : Int32 → zy_S → Option (Int32 × zy_S)}  (hd : 1 ≤ d) (hg39 : ∀ (x1 : Int32) (x2 : Int32) (s : zy_S) (r : Int32) (s' : zy_S), g39 x1 x2 s = some (r, s') → zyR X d 39 0 [some (.ref (9 + 3)), some (.int x1), some (.int x2), none, none, none] [] s (zyE none s')) (hg40 : ∀ (x1 : Int32) (s : zy_S) (r : Int32) (s' : zy_S), g40 x1 s = some (r, s') → zyR X d 40 0 [some (.ref (9 + 3)), some (.int x1), none] [] s (zyE none s'))  {x1 : Int32} {x2 : Int32} {y0 : Int32} {s : zy_S} {r : Int32} {s' : zy_S}  (h : zyF39_30 g39 g40 x1 x2 y0 s = some (r, s')) : zyR X (d + 1) 39 30 [some (.ref (9 + 3)), some (.int x1), some (.int x2), none, none, none] [.int y0] s (zyE none s') := by
  unfold zyF39_30 at h
  refine zy_23 rfl rfl (show zyR _ _ _ _ [some (.ref (9 + 3)), some (.int x1), some (.int x2), some (.int y0), none, none] [] _ _ from ?_)
  refine zy_3 rfl rfl (show zyR _ _ _ _ [some (.ref (9 + 3)), some (.int x1), some (.int x2), some (.int y0), none, none] [.int (0 : Int32)] _ _ from ?_)
  refine zy_23 rfl rfl (show zyR _ _ _ _ [some (.ref (9 + 3)), some (.int x1), some (.int x2), some (.int y0), some (.int (0 : Int32)), none] [] _ _ from ?_)
  exact zy_sub (show zy_le [some (.ref (9 + 3)), some (.int x1), some (.int x2), some (.int y0), some (.int (0 : Int32)), none] [some (.ref (9 + 3)), some (.int x1), some (.int x2), some (.int y0), some (.int (0 : Int32)), none] from ⟨rfl, ⟨rfl, ⟨rfl, ⟨rfl, ⟨rfl, trivial⟩⟩⟩⟩⟩) (zyC39_34 hd hg39 hg40 zy_fu x1 x2 y0 (0 : Int32) s _ _ h)
noncomputable def zyF39_0 (g39 : Int32 → Int32 → zy_S → Option (Int32 × zy_S)) (g40 : Int32 → zy_S → Option (Int32 × zy_S))  (x1 : Int32) (x2 : Int32) (s : zy_S) : Option (Int32 × zy_S) :=
if x1 < (5 : Int32) then
(g39 (x1 + (1 : Int32)) x2 s).bind fun p9 =>
if x1 ≠ (2 : Int32) then
zyF39_30 g39 g40 x1 x2 (120 : Int32) p9.2
else
zyF39_30 g39 g40 x1 x2 (1 : Int32) p9.2
else
(g40 x2 s).bind fun p11 =>
some ((0 : Int32), p11.2)
theorem zyC39_0 {X : zx_X} {d : Nat} {g39 : Int32 → Int32 → zy_S → Option (Int32 × zy_S)} {g40 : Int32 → zy_S → Option (Int32 × zy_S)}  (hd : 1 ≤ d) (hg39 : ∀ (x1 : Int32) (x2 : Int32) (s : zy_S) (r : Int32) (s' : zy_S), g39 x1 x2 s = some (r, s') → zyR X d 39 0 [some (.ref (9 + 3)), some (.int x1), some (.int x2), none, none, none] [] s (zyE none s')) (hg40 : ∀ (x1 : Int32) (s : zy_S) (r : Int32) (s' : zy_S), g40 x1 s = some (r, s') → zyR X d 40 0 [some (.ref (9 + 3)), some (.int x1), none] [] s (zyE none s'))  {x1 : Int32} {x2 : Int32} {s : zy_S} {r : Int32} {s' : zy_S}  (h : zyF39_0 g39 g40 x1 x2 s = some (r, s')) : zyR X (d + 1) 39 0 [some (.ref (9 + 3)), some (.int x1), some (.int x2), none, none, none] [] s (zyE none s') := by
  unfold zyF39_0 at h
  refine zy_2 rfl rfl (show zyR _ _ _ _ [some (.ref (9 + 3)), some (.int x1), some (.int x2), none, none, none] [.int x1] _ _ from ?_)
  refine zy_3 rfl rfl (show zyR _ _ _ _ [some (.ref (9 + 3)), some (.int x1), some (.int x2), none, none, none] [.int (5 : Int32), .int x1] _ _ from ?_)
  refine zy_25_2 rfl (fun b12 => (show zyR _ _ _ _ [some (.ref (9 + 3)), some (.int x1), some (.int x2), none, none, none] [] _ _ from ?_)) (fun b12 => (show zyR _ _ _ _ [some (.ref (9 + 3)), some (.int x1), some (.int x2), none, none, none] [] _ _ from ?_))
  · replace h := zy_ifp h b12
    refine zy_0 rfl rfl (show zyR _ _ _ _ [some (.ref (9 + 3)), some (.int x1), some (.int x2), none, none, none] [.ref (9 + 3)] _ _ from ?_)
    refine zy_2 rfl rfl (show zyR _ _ _ _ [some (.ref (9 + 3)), some (.int x1), some (.int x2), none, none, none] [.int x1, .ref (9 + 3)] _ _ from ?_)
    refine zy_3 rfl rfl (show zyR _ _ _ _ [some (.ref (9 + 3)), some (.int x1), some (.int x2), none, none, none] [.int (1 : Int32), .int x1, .ref (9 + 3)] _ _ from ?_)
    refine zy_10 rfl (show zyR _ _ _ _ [some (.ref (9 + 3)), some (.int x1), some (.int x2), none, none, none] [.int (x1 + (1 : Int32)), .ref (9 + 3)] _ _ from ?_)
    refine zy_2 rfl rfl (show zyR _ _ _ _ [some (.ref (9 + 3)), some (.int x1), some (.int x2), none, none, none] [.int x2, .int (x1 + (1 : Int32)), .ref (9 + 3)] _ _ from ?_)
    obtain ⟨p9, hp9, h⟩ := zy_bind h
    refine zy_5 (c := 9) (as := [.int (x1 + (1 : Int32)), .int x2]) (rest := []) (L := [some (.ref (9 + 3)), some (.int (x1 + (1 : Int32))), some (.int x2), none, none, none]) (d' := d) rfl rfl rfl (Nat.le_of_ble_eq_true rfl) (by omega) rfl (Nat.le_of_ble_eq_true rfl) rfl rfl (hg39 (x1 + (1 : Int32)) x2 s _ _ hp9) ?_
    show zyR _ _ _ _ [some (.ref (9 + 3)), some (.int x1), some (.int x2), none, none, none] [] _ _
    refine zy_2 rfl rfl (show zyR _ _ _ _ [some (.ref (9 + 3)), some (.int x1), some (.int x2), none, none, none] [.int x1] _ _ from ?_)
    refine zy_3 rfl rfl (show zyR _ _ _ _ [some (.ref (9 + 3)), some (.int x1), some (.int x2), none, none, none] [.int (2 : Int32), .int x1] _ _ from ?_)
    refine zy_25_1 rfl (fun b10 => (show zyR _ _ _ _ [some (.ref (9 + 3)), some (.int x1), some (.int x2), none, none, none] [] _ _ from ?_)) (fun b10 => (show zyR _ _ _ _ [some (.ref (9 + 3)), some (.int x1), some (.int x2), none, none, none] [] _ _ from ?_))
    · replace h := zy_ifp h b10
      refine zy_3 rfl rfl (show zyR _ _ _ _ [some (.ref (9 + 3)), some (.int x1), some (.int x2), none, none, none] [.int (120 : Int32)] _ _ from ?_)
      exact zy_sub (show zy_le [some (.ref (9 + 3)), some (.int x1), some (.int x2), none, none, none] [some (.ref (9 + 3)), some (.int x1), some (.int x2), none, none, none] from ⟨rfl, ⟨rfl, ⟨rfl, trivial⟩⟩⟩) (zyC39_30 hd hg39 hg40 h)
    · replace h := zy_ifn h b10
      refine zy_3 rfl rfl (show zyR _ _ _ _ [some (.ref (9 + 3)), some (.int x1), some (.int x2), none, none, none] [.int (1 : Int32)] _ _ from ?_)
      refine zy_6 rfl (show zyR _ _ _ _ [some (.ref (9 + 3)), some (.int x1), some (.int x2), none, none, none] [.int (1 : Int32)] _ _ from ?_)
      exact zy_sub (show zy_le [some (.ref (9 + 3)), some (.int x1), some (.int x2), none, none, none] [some (.ref (9 + 3)), some (.int x1), some (.int x2), none, none, none] from ⟨rfl, ⟨rfl, ⟨rfl, trivial⟩⟩⟩) (zyC39_30 hd hg39 hg40 h)
  · replace h := zy_ifn h b12
    refine zy_0 rfl rfl (show zyR _ _ _ _ [some (.ref (9 + 3)), some (.int x1), some (.int x2), none, none, none] [.ref (9 + 3)] _ _ from ?_)
    refine zy_2 rfl rfl (show zyR _ _ _ _ [some (.ref (9 + 3)), some (.int x1), some (.int x2), none, none, none] [.int x2, .ref (9 + 3)] _ _ from ?_)
    obtain ⟨p11, hp11, h⟩ := zy_bind h
    refine zy_5 (c := 9) (as := [.int x2]) (rest := []) (L := [some (.ref (9 + 3)), some (.int x2), none]) (d' := d) rfl rfl rfl (Nat.le_of_ble_eq_true rfl) (by omega) rfl (Nat.le_of_ble_eq_true rfl) rfl rfl (hg40 x2 s _ _ hp11) ?_
    show zyR _ _ _ _ [some (.ref (9 + 3)), some (.int x1), some (.int x2), none, none, none] [] _ _
    cases h
    exact zy_66 rfl ⟨rfl, rfl⟩
