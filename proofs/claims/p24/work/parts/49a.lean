/-! x -/
theorem zy_pi {α β : Type} {a r : α} {b t : β} (h : some (a, b) = some (r, t)) : a = r ∧ b = t := Prod.mk.inj (Option.some.inj h)
/-! PART 18w: methods as functions. Made by wip/v4/dcp.py. -/
noncomputable def zyF41    (s : zy_S) : Option (Int32 × zy_S) :=
if (s.1 9 2) ≤ (s.1 9 4) then
some ((-1 : Int32), s)
else
if zy_in (s.1 9 4) 120 then
some ((s.1 10 ((s.1 9 4)).toNatClampNeg), s)
else none
theorem zyC41 {X : zx_X}      {s : zy_S} {r : Int32} {s' : zy_S}  (h : zyF41 s = some (r, s')) : zyR X 1 41 0 [some (.ref (9 + 3))] [] s (zyE (some (.int r)) s') := by
  unfold zyF41 at h
  refine zy_0 rfl rfl (show zyR _ _ _ _ [some (.ref (9 + 3))] [.ref (9 + 3)] _ _ from ?_)
  refine zy_1 (c := 9) rfl rfl rfl (show zyR _ _ _ _ [some (.ref (9 + 3))] [.int (s.1 9 4)] _ _ from ?_)
  refine zy_0 rfl rfl (show zyR _ _ _ _ [some (.ref (9 + 3))] [.ref (9 + 3), .int (s.1 9 4)] _ _ from ?_)
  refine zy_1 (c := 9) rfl rfl rfl (show zyR _ _ _ _ [some (.ref (9 + 3))] [.int (s.1 9 2), .int (s.1 9 4)] _ _ from ?_)
  refine zy_25_3 rfl (fun b2 => (show zyR _ _ _ _ [some (.ref (9 + 3))] [] _ _ from ?_)) (fun b2 => (show zyR _ _ _ _ [some (.ref (9 + 3))] [] _ _ from ?_))
  · replace h := zy_ifp h b2
    refine zy_3 rfl rfl (show zyR _ _ _ _ [some (.ref (9 + 3))] [.int (-1 : Int32)] _ _ from ?_)
    obtain ⟨rfl, rfl⟩ := zy_pi h
    exact zy_4 rfl ⟨rfl, rfl⟩
  · replace h := zy_ifn h b2
    refine zy_0 rfl rfl (show zyR _ _ _ _ [some (.ref (9 + 3))] [.ref (9 + 3)] _ _ from ?_)
    refine zy_1r (c := 9) rfl rfl rfl (show zyR _ _ _ _ [some (.ref (9 + 3))] [.ref (10 + 3)] _ _ from ?_)
    refine zy_0 rfl rfl (show zyR _ _ _ _ [some (.ref (9 + 3))] [.ref (9 + 3), .ref (10 + 3)] _ _ from ?_)
    refine zy_1 (c := 9) rfl rfl rfl (show zyR _ _ _ _ [some (.ref (9 + 3))] [.int (s.1 9 4), .ref (10 + 3)] _ _ from ?_)
    obtain ⟨c1, h⟩ := zy_if h
    refine zy_26 (c := 10) rfl rfl c1 (show zyR _ _ _ _ [some (.ref (9 + 3))] [.int (s.1 10 ((s.1 9 4)).toNatClampNeg)] _ _ from ?_)
    refine zy_6 rfl (show zyR _ _ _ _ [some (.ref (9 + 3))] [.int (s.1 10 ((s.1 9 4)).toNatClampNeg)] _ _ from ?_)
    obtain ⟨rfl, rfl⟩ := zy_pi h
    exact zy_4 rfl ⟨rfl, rfl⟩
noncomputable def zyF44   (x1 : Int32) (s : zy_S) : Option (Int32 × zy_S) :=
if (128 : Int32) ≤ (s.1 9 3) then
some ((0 : Int32), s)
else
if zy_in (s.1 9 3) 128 then
some ((0 : Int32), (zy_up (zy_up s 11 ((s.1 9 3)).toNatClampNeg x1) 9 3 ((s.1 9 3) + (1 : Int32))))
else none
theorem zyC44 {X : zx_X}     {x1 : Int32} {s : zy_S} {r : Int32} {s' : zy_S}  (h : zyF44 x1 s = some (r, s')) : zyR X 1 44 0 [some (.ref (9 + 3)), some (.int x1)] [] s (zyE none s') := by
  unfold zyF44 at h
  refine zy_0 rfl rfl (show zyR _ _ _ _ [some (.ref (9 + 3)), some (.int x1)] [.ref (9 + 3)] _ _ from ?_)
  refine zy_1 (c := 9) rfl rfl rfl (show zyR _ _ _ _ [some (.ref (9 + 3)), some (.int x1)] [.int (s.1 9 3)] _ _ from ?_)
  refine zy_3 rfl rfl (show zyR _ _ _ _ [some (.ref (9 + 3)), some (.int x1)] [.int (128 : Int32), .int (s.1 9 3)] _ _ from ?_)
  refine zy_25_3 rfl (fun b2 => (show zyR _ _ _ _ [some (.ref (9 + 3)), some (.int x1)] [] _ _ from ?_)) (fun b2 => (show zyR _ _ _ _ [some (.ref (9 + 3)), some (.int x1)] [] _ _ from ?_))
  · replace h := zy_ifp h b2
    cases h
    exact zy_66 rfl ⟨rfl, rfl⟩
  · replace h := zy_ifn h b2
    refine zy_0 rfl rfl (show zyR _ _ _ _ [some (.ref (9 + 3)), some (.int x1)] [.ref (9 + 3)] _ _ from ?_)
    refine zy_1r (c := 9) rfl rfl rfl (show zyR _ _ _ _ [some (.ref (9 + 3)), some (.int x1)] [.ref (11 + 3)] _ _ from ?_)
    refine zy_0 rfl rfl (show zyR _ _ _ _ [some (.ref (9 + 3)), some (.int x1)] [.ref (9 + 3), .ref (11 + 3)] _ _ from ?_)
    refine zy_1 (c := 9) rfl rfl rfl (show zyR _ _ _ _ [some (.ref (9 + 3)), some (.int x1)] [.int (s.1 9 3), .ref (11 + 3)] _ _ from ?_)
    refine zy_2 rfl rfl (show zyR _ _ _ _ [some (.ref (9 + 3)), some (.int x1)] [.int x1, .int (s.1 9 3), .ref (11 + 3)] _ _ from ?_)
    obtain ⟨c1, h⟩ := zy_if h
    refine zy_27 (c := 11) rfl rfl c1 (show zyR _ _ _ _ [some (.ref (9 + 3)), some (.int x1)] [] _ _ from ?_)
    refine zy_0 rfl rfl (show zyR _ _ _ _ [some (.ref (9 + 3)), some (.int x1)] [.ref (9 + 3)] _ _ from ?_)
    refine zy_33 rfl rfl (show zyR _ _ _ _ [some (.ref (9 + 3)), some (.int x1)] [.ref (9 + 3), .ref (9 + 3)] _ _ from ?_)
    refine zy_1 (c := 9) rfl rfl rfl (show zyR _ _ _ _ [some (.ref (9 + 3)), some (.int x1)] [.int (s.1 9 3), .ref (9 + 3)] _ _ from ?_)
    refine zy_3 rfl rfl (show zyR _ _ _ _ [some (.ref (9 + 3)), some (.int x1)] [.int (1 : Int32), .int (s.1 9 3), .ref (9 + 3)] _ _ from ?_)
    refine zy_10 rfl (show zyR _ _ _ _ [some (.ref (9 + 3)), some (.int x1)] [.int ((s.1 9 3) + (1 : Int32)), .ref (9 + 3)] _ _ from ?_)
    refine zy_52 (c := 9) rfl rfl rfl (show zyR _ _ _ _ [some (.ref (9 + 3)), some (.int x1)] [] _ _ from ?_)
    cases h
    exact zy_66 rfl ⟨rfl, rfl⟩
noncomputable def zyF47   (x0 : Int32) (s : zy_S) : Option (Int32 × zy_S) :=
if x0 = (37 : Int32) then
some ((4 : Int32), s)
else
if x0 = (38 : Int32) then
some ((1 : Int32), s)
else
if x0 = (42 : Int32) then
some ((4 : Int32), s)
else
if x0 = (43 : Int32) then
some ((3 : Int32), s)
else
if x0 = (45 : Int32) then
some ((3 : Int32), s)
else
if x0 = (47 : Int32) then
some ((4 : Int32), s)
else
if x0 = (60 : Int32) then
some ((2 : Int32), s)
else
if x0 = (61 : Int32) then
some ((2 : Int32), s)
else
if x0 = (62 : Int32) then
some ((2 : Int32), s)
else
if x0 = (124 : Int32) then
some ((0 : Int32), s)
else
some ((-1 : Int32), s)
theorem zyC47 {X : zx_X}     {x0 : Int32} {s : zy_S} {r : Int32} {s' : zy_S}  (h : zyF47 x0 s = some (r, s')) : zyR X 1 47 0 [some (.int x0)] [] s (zyE (some (.int r)) s') := by
  unfold zyF47 at h
  refine zy_2 rfl rfl (show zyR _ _ _ _ [some (.int x0)] [.int x0] _ _ from ?_)
  refine zy_51 rfl (by decide) ?_
  refine zy_swp (fun b1 => (show zyR _ _ _ _ [some (.int x0)] [] _ _ from ?_)) (fun b1 => ?_)
  · replace h := zy_ifp h b1
    refine zy_3 rfl rfl (show zyR _ _ _ _ [some (.int x0)] [.int (4 : Int32)] _ _ from ?_)
    obtain ⟨rfl, rfl⟩ := zy_pi h
    exact zy_4 rfl ⟨rfl, rfl⟩
  replace h := zy_ifn h b1
  refine zy_swp (fun b2 => (show zyR _ _ _ _ [some (.int x0)] [] _ _ from ?_)) (fun b2 => ?_)
  · replace h := zy_ifp h b2
    refine zy_3 rfl rfl (show zyR _ _ _ _ [some (.int x0)] [.int (1 : Int32)] _ _ from ?_)
    obtain ⟨rfl, rfl⟩ := zy_pi h
    exact zy_4 rfl ⟨rfl, rfl⟩
  replace h := zy_ifn h b2
  refine zy_swp (fun b3 => (show zyR _ _ _ _ [some (.int x0)] [] _ _ from ?_)) (fun b3 => ?_)
  · replace h := zy_ifp h b3
    refine zy_3 rfl rfl (show zyR _ _ _ _ [some (.int x0)] [.int (4 : Int32)] _ _ from ?_)
    obtain ⟨rfl, rfl⟩ := zy_pi h
    exact zy_4 rfl ⟨rfl, rfl⟩
  replace h := zy_ifn h b3
  refine zy_swp (fun b4 => (show zyR _ _ _ _ [some (.int x0)] [] _ _ from ?_)) (fun b4 => ?_)
  · replace h := zy_ifp h b4
    refine zy_3 rfl rfl (show zyR _ _ _ _ [some (.int x0)] [.int (3 : Int32)] _ _ from ?_)
    obtain ⟨rfl, rfl⟩ := zy_pi h
    exact zy_4 rfl ⟨rfl, rfl⟩
  replace h := zy_ifn h b4
  refine zy_swp (fun b5 => (show zyR _ _ _ _ [some (.int x0)] [] _ _ from ?_)) (fun b5 => ?_)
  · replace h := zy_ifp h b5
    refine zy_3 rfl rfl (show zyR _ _ _ _ [some (.int x0)] [.int (3 : Int32)] _ _ from ?_)
    obtain ⟨rfl, rfl⟩ := zy_pi h
    exact zy_4 rfl ⟨rfl, rfl⟩
  replace h := zy_ifn h b5
  refine zy_swp (fun b6 => (show zyR _ _ _ _ [some (.int x0)] [] _ _ from ?_)) (fun b6 => ?_)
  · replace h := zy_ifp h b6
    refine zy_3 rfl rfl (show zyR _ _ _ _ [some (.int x0)] [.int (4 : Int32)] _ _ from ?_)
    obtain ⟨rfl, rfl⟩ := zy_pi h
    exact zy_4 rfl ⟨rfl, rfl⟩
  replace h := zy_ifn h b6
  refine zy_swp (fun b7 => (show zyR _ _ _ _ [some (.int x0)] [] _ _ from ?_)) (fun b7 => ?_)
  · replace h := zy_ifp h b7
    refine zy_3 rfl rfl (show zyR _ _ _ _ [some (.int x0)] [.int (2 : Int32)] _ _ from ?_)
    obtain ⟨rfl, rfl⟩ := zy_pi h
    exact zy_4 rfl ⟨rfl, rfl⟩
  replace h := zy_ifn h b7
  refine zy_swp (fun b8 => (show zyR _ _ _ _ [some (.int x0)] [] _ _ from ?_)) (fun b8 => ?_)
  · replace h := zy_ifp h b8
    refine zy_3 rfl rfl (show zyR _ _ _ _ [some (.int x0)] [.int (2 : Int32)] _ _ from ?_)
    obtain ⟨rfl, rfl⟩ := zy_pi h
    exact zy_4 rfl ⟨rfl, rfl⟩
  replace h := zy_ifn h b8
  refine zy_swp (fun b9 => (show zyR _ _ _ _ [some (.int x0)] [] _ _ from ?_)) (fun b9 => ?_)
  · replace h := zy_ifp h b9
    refine zy_3 rfl rfl (show zyR _ _ _ _ [some (.int x0)] [.int (2 : Int32)] _ _ from ?_)
    obtain ⟨rfl, rfl⟩ := zy_pi h
    exact zy_4 rfl ⟨rfl, rfl⟩
  replace h := zy_ifn h b9
  refine zy_swp (fun b10 => (show zyR _ _ _ _ [some (.int x0)] [] _ _ from ?_)) (fun b10 => ?_)
  · replace h := zy_ifp h b10
    refine zy_3 rfl rfl (show zyR _ _ _ _ [some (.int x0)] [.int (0 : Int32)] _ _ from ?_)
    obtain ⟨rfl, rfl⟩ := zy_pi h
    exact zy_4 rfl ⟨rfl, rfl⟩
  replace h := zy_ifn h b10
  show zyR _ _ _ _ [some (.int x0)] [] _ _
  refine zy_3 rfl rfl (show zyR _ _ _ _ [some (.int x0)] [.int (-1 : Int32)] _ _ from ?_)
  obtain ⟨rfl, rfl⟩ := zy_pi h
  exact zy_4 rfl ⟨rfl, rfl⟩
noncomputable def zyF42   (x0 : Int32) (s : zy_S) : Option (Int32 × zy_S) :=
if x0 < (48 : Int32) then
some ((0 : Int32), s)
else
if (57 : Int32) < x0 then
some ((0 : Int32), s)
else
some ((1 : Int32), s)
theorem zyC42 {X : zx_X}     {x0 : Int32} {s : zy_S} {r : Int32} {s' : zy_S}  (h : zyF42 x0 s = some (r, s')) : zyR X 1 42 0 [some (.int x0)] [] s (zyE (some (.int r)) s') := by
  unfold zyF42 at h
  refine zy_2 rfl rfl (show zyR _ _ _ _ [some (.int x0)] [.int x0] _ _ from ?_)
  refine zy_3 rfl rfl (show zyR _ _ _ _ [some (.int x0)] [.int (48 : Int32), .int x0] _ _ from ?_)
  refine zy_25_2 rfl (fun b2 => (show zyR _ _ _ _ [some (.int x0)] [] _ _ from ?_)) (fun b2 => (show zyR _ _ _ _ [some (.int x0)] [] _ _ from ?_))
  · replace h := zy_ifp h b2
    refine zy_3 rfl rfl (show zyR _ _ _ _ [some (.int x0)] [.int (0 : Int32)] _ _ from ?_)
    cases h
    exact zy_4b rfl ⟨rfl, rfl⟩ (Or.inl rfl)
  · replace h := zy_ifn h b2
    refine zy_2 rfl rfl (show zyR _ _ _ _ [some (.int x0)] [.int x0] _ _ from ?_)
    refine zy_3 rfl rfl (show zyR _ _ _ _ [some (.int x0)] [.int (57 : Int32), .int x0] _ _ from ?_)
    refine zy_25_4 rfl (fun b1 => (show zyR _ _ _ _ [some (.int x0)] [] _ _ from ?_)) (fun b1 => (show zyR _ _ _ _ [some (.int x0)] [] _ _ from ?_))
    · replace h := zy_ifp h b1
      refine zy_3 rfl rfl (show zyR _ _ _ _ [some (.int x0)] [.int (0 : Int32)] _ _ from ?_)
      cases h
      exact zy_4b rfl ⟨rfl, rfl⟩ (Or.inl rfl)
    · replace h := zy_ifn h b1
      refine zy_3 rfl rfl (show zyR _ _ _ _ [some (.int x0)] [.int (1 : Int32)] _ _ from ?_)
      refine zy_6 rfl (show zyR _ _ _ _ [some (.int x0)] [.int (1 : Int32)] _ _ from ?_)
      cases h
      exact zy_4b rfl ⟨rfl, rfl⟩ (Or.inr rfl)
noncomputable def zyF43_48   (x1 : Int32) (s : zy_S) : Option (Int32 × zy_S) :=
(zyF44 x1 s).bind fun p1 =>
some ((0 : Int32), p1.2)
theorem zyC43_48 {X : zx_X}     {x1 : Int32} {s : zy_S} {r : Int32} {s' : zy_S}  (h : zyF43_48 x1 s = some (r, s')) : zyR X 2 43 48 [some (.ref (9 + 3)), some (.int x1), none] [] s (zyE none s') := by
  unfold zyF43_48 at h
  refine zy_0 rfl rfl (show zyR _ _ _ _ [some (.ref (9 + 3)), some (.int x1), none] [.ref (9 + 3)] _ _ from ?_)
  refine zy_2 rfl rfl (show zyR _ _ _ _ [some (.ref (9 + 3)), some (.int x1), none] [.int x1, .ref (9 + 3)] _ _ from ?_)
  obtain ⟨p1, hp1, h⟩ := zy_bind h
  refine zy_5 (c := 9) (as := [.int x1]) (rest := []) (L := [some (.ref (9 + 3)), some (.int x1)]) (d' := 1) rfl rfl rfl (Nat.le_of_ble_eq_true rfl) (Nat.le_of_ble_eq_true rfl) rfl (Nat.le_of_ble_eq_true rfl) rfl rfl (zyC44 hp1) ?_
  show zyR _ _ _ _ [some (.ref (9 + 3)), some (.int x1), none] [] _ _
  cases h
  exact zy_66 rfl ⟨rfl, rfl⟩
noncomputable def zyF43_4b  (k4 : Int32 → Int32 → zy_S → Option (Int32 × zy_S)) (x1 : Int32) (x2 : Int32) (s : zy_S) : Option (Int32 × zy_S) :=
if (4 : Int32) ≤ x2 then
zyF43_48 x1 s
else
(zyF41 s).bind fun p2 =>
(zyF42 p2.1 p2.2).bind fun p3 =>
if p3.1 = 0 then
zyF43_48 x1 p3.2
else
(zyF41 p3.2).bind fun p4 =>
k4 ((((10 : Int32) * x1) + p4.1) - (48 : Int32)) (x2 + (1 : Int32)) (zy_up p4.2 9 4 ((p4.2.1 9 4) + (1 : Int32)))
theorem zyC43_4b {X : zx_X}  {k4 : Int32 → Int32 → zy_S → Option (Int32 × zy_S)}  (hk4 : ∀ (x1 : Int32) (x2 : Int32) (s : zy_S) (r : Int32) (s' : zy_S), k4 x1 x2 s = some (r, s') → zyR X 2 43 4 [some (.ref (9 + 3)), some (.int x1), some (.int x2)] [] s (zyE none s')) {x1 : Int32} {x2 : Int32} {s : zy_S} {r : Int32} {s' : zy_S}  (h : zyF43_4b k4 x1 x2 s = some (r, s')) : zyR X 2 43 4 [some (.ref (9 + 3)), some (.int x1), some (.int x2)] [] s (zyE none s') := by
  unfold zyF43_4b at h
  refine zy_2 rfl rfl (show zyR _ _ _ _ [some (.ref (9 + 3)), some (.int x1), some (.int x2)] [.int x2] _ _ from ?_)
  refine zy_3 rfl rfl (show zyR _ _ _ _ [some (.ref (9 + 3)), some (.int x1), some (.int x2)] [.int (4 : Int32), .int x2] _ _ from ?_)
  refine zy_25_3 rfl (fun b6 => (show zyR _ _ _ _ [some (.ref (9 + 3)), some (.int x1), some (.int x2)] [] _ _ from ?_)) (fun b6 => (show zyR _ _ _ _ [some (.ref (9 + 3)), some (.int x1), some (.int x2)] [] _ _ from ?_))
  · replace h := zy_ifp h b6
    exact zy_sub (show zy_le [some (.ref (9 + 3)), some (.int x1), none] [some (.ref (9 + 3)), some (.int x1), some (.int x2)] from ⟨rfl, ⟨rfl, trivial⟩⟩) (zyC43_48 h)
  · replace h := zy_ifn h b6
    refine zy_0 rfl rfl (show zyR _ _ _ _ [some (.ref (9 + 3)), some (.int x1), some (.int x2)] [.ref (9 + 3)] _ _ from ?_)
    obtain ⟨p2, hp2, h⟩ := zy_bind h
    refine zy_5 (c := 9) (as := []) (rest := []) (L := [some (.ref (9 + 3))]) (d' := 1) rfl rfl rfl (Nat.le_of_ble_eq_true rfl) (Nat.le_of_ble_eq_true rfl) rfl (Nat.le_of_ble_eq_true rfl) rfl rfl (zyC41 hp2) ?_
    show zyR _ _ _ _ [some (.ref (9 + 3)), some (.int x1), some (.int x2)] [.int p2.1] _ _
    obtain ⟨p3, hp3, h⟩ := zy_bind h
    refine zy_60 (as := [.int p2.1]) (rest := []) (L := [some (.int p2.1)]) (d' := 1) rfl rfl (Nat.le_of_ble_eq_true rfl) (Nat.le_of_ble_eq_true rfl) rfl (Nat.le_of_ble_eq_true rfl) rfl rfl (zyC42 hp3) ?_
    show zyR _ _ _ _ [some (.ref (9 + 3)), some (.int x1), some (.int x2)] [.int p3.1] _ _
    refine zy_24_0 rfl (fun b5 => (show zyR _ _ _ _ [some (.ref (9 + 3)), some (.int x1), some (.int x2)] [] _ _ from ?_)) (fun b5 => (show zyR _ _ _ _ [some (.ref (9 + 3)), some (.int x1), some (.int x2)] [] _ _ from ?_))
    · replace h := zy_ifp h b5
      exact zy_sub (show zy_le [some (.ref (9 + 3)), some (.int x1), none] [some (.ref (9 + 3)), some (.int x1), some (.int x2)] from ⟨rfl, ⟨rfl, trivial⟩⟩) (zyC43_48 h)
    · replace h := zy_ifn h b5
      refine zy_3 rfl rfl (show zyR _ _ _ _ [some (.ref (9 + 3)), some (.int x1), some (.int x2)] [.int (10 : Int32)] _ _ from ?_)
      refine zy_2 rfl rfl (show zyR _ _ _ _ [some (.ref (9 + 3)), some (.int x1), some (.int x2)] [.int x1, .int (10 : Int32)] _ _ from ?_)
      refine zy_12 rfl (show zyR _ _ _ _ [some (.ref (9 + 3)), some (.int x1), some (.int x2)] [.int ((10 : Int32) * x1)] _ _ from ?_)
      refine zy_0 rfl rfl (show zyR _ _ _ _ [some (.ref (9 + 3)), some (.int x1), some (.int x2)] [.ref (9 + 3), .int ((10 : Int32) * x1)] _ _ from ?_)
      obtain ⟨p4, hp4, h⟩ := zy_bind h
      refine zy_5 (c := 9) (as := []) (rest := [.int ((10 : Int32) * x1)]) (L := [some (.ref (9 + 3))]) (d' := 1) rfl rfl rfl (Nat.le_of_ble_eq_true rfl) (Nat.le_of_ble_eq_true rfl) rfl (Nat.le_of_ble_eq_true rfl) rfl rfl (zyC41 hp4) ?_
      show zyR _ _ _ _ [some (.ref (9 + 3)), some (.int x1), some (.int x2)] [.int p4.1, .int ((10 : Int32) * x1)] _ _
      refine zy_10 rfl (show zyR _ _ _ _ [some (.ref (9 + 3)), some (.int x1), some (.int x2)] [.int (((10 : Int32) * x1) + p4.1)] _ _ from ?_)
      refine zy_3 rfl rfl (show zyR _ _ _ _ [some (.ref (9 + 3)), some (.int x1), some (.int x2)] [.int (48 : Int32), .int (((10 : Int32) * x1) + p4.1)] _ _ from ?_)
      refine zy_11 rfl (show zyR _ _ _ _ [some (.ref (9 + 3)), some (.int x1), some (.int x2)] [.int ((((10 : Int32) * x1) + p4.1) - (48 : Int32))] _ _ from ?_)
      refine zy_23 rfl rfl (show zyR _ _ _ _ [some (.ref (9 + 3)), some (.int ((((10 : Int32) * x1) + p4.1) - (48 : Int32))), some (.int x2)] [] _ _ from ?_)
      refine zy_0 rfl rfl (show zyR _ _ _ _ [some (.ref (9 + 3)), some (.int ((((10 : Int32) * x1) + p4.1) - (48 : Int32))), some (.int x2)] [.ref (9 + 3)] _ _ from ?_)
      refine zy_33 rfl rfl (show zyR _ _ _ _ [some (.ref (9 + 3)), some (.int ((((10 : Int32) * x1) + p4.1) - (48 : Int32))), some (.int x2)] [.ref (9 + 3), .ref (9 + 3)] _ _ from ?_)
      refine zy_1 (c := 9) rfl rfl rfl (show zyR _ _ _ _ [some (.ref (9 + 3)), some (.int ((((10 : Int32) * x1) + p4.1) - (48 : Int32))), some (.int x2)] [.int (p4.2.1 9 4), .ref (9 + 3)] _ _ from ?_)
      refine zy_3 rfl rfl (show zyR _ _ _ _ [some (.ref (9 + 3)), some (.int ((((10 : Int32) * x1) + p4.1) - (48 : Int32))), some (.int x2)] [.int (1 : Int32), .int (p4.2.1 9 4), .ref (9 + 3)] _ _ from ?_)
      refine zy_10 rfl (show zyR _ _ _ _ [some (.ref (9 + 3)), some (.int ((((10 : Int32) * x1) + p4.1) - (48 : Int32))), some (.int x2)] [.int ((p4.2.1 9 4) + (1 : Int32)), .ref (9 + 3)] _ _ from ?_)
      refine zy_52 (c := 9) rfl rfl rfl (show zyR _ _ _ _ [some (.ref (9 + 3)), some (.int ((((10 : Int32) * x1) + p4.1) - (48 : Int32))), some (.int x2)] [] _ _ from ?_)
      refine zy_22 rfl rfl rfl rfl (show zyR _ _ _ _ [some (.ref (9 + 3)), some (.int ((((10 : Int32) * x1) + p4.1) - (48 : Int32))), some (.int (x2 + (1 : Int32)))] [] _ _ from ?_)
      refine zy_6 rfl (show zyR _ _ _ _ [some (.ref (9 + 3)), some (.int ((((10 : Int32) * x1) + p4.1) - (48 : Int32))), some (.int (x2 + (1 : Int32)))] [] _ _ from ?_)
      exact zy_sub (show zy_le [some (.ref (9 + 3)), some (.int ((((10 : Int32) * x1) + p4.1) - (48 : Int32))), some (.int (x2 + (1 : Int32)))] [some (.ref (9 + 3)), some (.int ((((10 : Int32) * x1) + p4.1) - (48 : Int32))), some (.int (x2 + (1 : Int32)))] from ⟨rfl, ⟨rfl, ⟨rfl, trivial⟩⟩⟩) (hk4 ((((10 : Int32) * x1) + p4.1) - (48 : Int32)) (x2 + (1 : Int32)) (zy_up p4.2 9 4 ((p4.2.1 9 4) + (1 : Int32))) _ _ h)
noncomputable def zyF43_4   (n : Nat) : Int32 → Int32 → zy_S → Option (Int32 × zy_S) := Nat.rec (fun _ _ _ => none) (fun _ k4 => zyF43_4b k4) n
theorem zyC43_4 {X : zx_X}     : ∀ (n : Nat) (x1 : Int32) (x2 : Int32) (s : zy_S) (r : Int32) (s' : zy_S), zyF43_4 n x1 x2 s = some (r, s') → zyR X 2 43 4 [some (.ref (9 + 3)), some (.int x1), some (.int x2)] [] s (zyE none s')
  | 0, _, _ => by
    intro s r s'  h
    have h : (none : Option (Int32 × zy_S)) = some (r, s') := h
    cases h
  | n + 1, x1, x2 => by
    intro s r s'  h
    exact zyC43_4b (k4 := zyF43_4 n) (fun x1 x2 s r s'  h => zyC43_4  n x1 x2 s r s'  h) h
noncomputable def zyF43    (s : zy_S) : Option (Int32 × zy_S) :=
zyF43_4 zy_fu (0 : Int32) (0 : Int32) s
theorem zyC43 {X : zx_X}      {s : zy_S} {r : Int32} {s' : zy_S}  (h : zyF43 s = some (r, s')) : zyR X 2 43 0 [some (.ref (9 + 3)), none, none] [] s (zyE none s') := by
  unfold zyF43 at h
  refine zy_3 rfl rfl (show zyR _ _ _ _ [some (.ref (9 + 3)), none, none] [.int (0 : Int32)] _ _ from ?_)
  refine zy_23 rfl rfl (show zyR _ _ _ _ [some (.ref (9 + 3)), some (.int (0 : Int32)), none] [] _ _ from ?_)
  refine zy_3 rfl rfl (show zyR _ _ _ _ [some (.ref (9 + 3)), some (.int (0 : Int32)), none] [.int (0 : Int32)] _ _ from ?_)
  refine zy_23 rfl rfl (show zyR _ _ _ _ [some (.ref (9 + 3)), some (.int (0 : Int32)), some (.int (0 : Int32))] [] _ _ from ?_)
  exact zy_sub (show zy_le [some (.ref (9 + 3)), some (.int (0 : Int32)), some (.int (0 : Int32))] [some (.ref (9 + 3)), some (.int (0 : Int32)), some (.int (0 : Int32))] from ⟨rfl, ⟨rfl, ⟨rfl, trivial⟩⟩⟩) (zyC43_4 zy_fu (0 : Int32) (0 : Int32) s _ _ h)
noncomputable def zyF45   (x0 : Int32) (s : zy_S) : Option (Int32 × zy_S) :=
if x0 = (100 : Int32) then
some ((0 : Int32), s)
else
if x0 = (101 : Int32) then
some ((-1 : Int32), s)
else
if x0 = (102 : Int32) then
some ((-1 : Int32), s)
else
if x0 = (103 : Int32) then
some ((-1 : Int32), s)
else
if x0 = (104 : Int32) then
some ((-1 : Int32), s)
else
if x0 = (105 : Int32) then
some ((-1 : Int32), s)
else
if x0 = (106 : Int32) then
some ((-1 : Int32), s)
else
if x0 = (107 : Int32) then
some ((4 : Int32), s)
else
if x0 = (108 : Int32) then
some ((-1 : Int32), s)
else
if x0 = (109 : Int32) then
some ((2 : Int32), s)
else
if x0 = (110 : Int32) then
some ((-1 : Int32), s)
else
if x0 = (111 : Int32) then
some ((-1 : Int32), s)
else
if x0 = (112 : Int32) then
some ((-1 : Int32), s)
else
if x0 = (113 : Int32) then
some ((-1 : Int32), s)
else
if x0 = (114 : Int32) then
some ((-1 : Int32), s)
else
if x0 = (115 : Int32) then
some ((1 : Int32), s)
else
if x0 = (116 : Int32) then
some ((-1 : Int32), s)
else
if x0 = (117 : Int32) then
some ((-1 : Int32), s)
else
if x0 = (118 : Int32) then
some ((5 : Int32), s)
else
if x0 = (119 : Int32) then
some ((3 : Int32), s)
else
some ((-1 : Int32), s)
theorem zyC45 {X : zx_X}     {x0 : Int32} {s : zy_S} {r : Int32} {s' : zy_S}  (h : zyF45 x0 s = some (r, s')) : zyR X 1 45 0 [some (.int x0)] [] s (zyE (some (.int r)) s') := by
  unfold zyF45 at h
  refine zy_2 rfl rfl (show zyR _ _ _ _ [some (.int x0)] [.int x0] _ _ from ?_)
  refine zy_50 rfl (by decide) ?_
  refine zy_swp (fun b1 => (show zyR _ _ _ _ [some (.int x0)] [] _ _ from ?_)) (fun b1 => ?_)
  · replace h := zy_ifp h b1
    refine zy_3 rfl rfl (show zyR _ _ _ _ [some (.int x0)] [.int (0 : Int32)] _ _ from ?_)
    obtain ⟨rfl, rfl⟩ := zy_pi h
    exact zy_4 rfl ⟨rfl, rfl⟩
  replace h := zy_ifn h b1
  refine zy_swp (fun b2 => (show zyR _ _ _ _ [some (.int x0)] [] _ _ from ?_)) (fun b2 => ?_)
  · replace h := zy_ifp h b2
    refine zy_3 rfl rfl (show zyR _ _ _ _ [some (.int x0)] [.int (-1 : Int32)] _ _ from ?_)
    obtain ⟨rfl, rfl⟩ := zy_pi h
    exact zy_4 rfl ⟨rfl, rfl⟩
  replace h := zy_ifn h b2
  refine zy_swp (fun b3 => (show zyR _ _ _ _ [some (.int x0)] [] _ _ from ?_)) (fun b3 => ?_)
  · replace h := zy_ifp h b3
    refine zy_3 rfl rfl (show zyR _ _ _ _ [some (.int x0)] [.int (-1 : Int32)] _ _ from ?_)
    obtain ⟨rfl, rfl⟩ := zy_pi h
    exact zy_4 rfl ⟨rfl, rfl⟩
  replace h := zy_ifn h b3
  refine zy_swp (fun b4 => (show zyR _ _ _ _ [some (.int x0)] [] _ _ from ?_)) (fun b4 => ?_)
  · replace h := zy_ifp h b4
    refine zy_3 rfl rfl (show zyR _ _ _ _ [some (.int x0)] [.int (-1 : Int32)] _ _ from ?_)
    obtain ⟨rfl, rfl⟩ := zy_pi h
    exact zy_4 rfl ⟨rfl, rfl⟩
  replace h := zy_ifn h b4
  refine zy_swp (fun b5 => (show zyR _ _ _ _ [some (.int x0)] [] _ _ from ?_)) (fun b5 => ?_)
  · replace h := zy_ifp h b5
    refine zy_3 rfl rfl (show zyR _ _ _ _ [some (.int x0)] [.int (-1 : Int32)] _ _ from ?_)
    obtain ⟨rfl, rfl⟩ := zy_pi h
    exact zy_4 rfl ⟨rfl, rfl⟩
  replace h := zy_ifn h b5
  refine zy_swp (fun b6 => (show zyR _ _ _ _ [some (.int x0)] [] _ _ from ?_)) (fun b6 => ?_)
  · replace h := zy_ifp h b6
    refine zy_3 rfl rfl (show zyR _ _ _ _ [some (.int x0)] [.int (-1 : Int32)] _ _ from ?_)
    obtain ⟨rfl, rfl⟩ := zy_pi h
    exact zy_4 rfl ⟨rfl, rfl⟩
  replace h := zy_ifn h b6
  refine zy_swp (fun b7 => (show zyR _ _ _ _ [some (.int x0)] [] _ _ from ?_)) (fun b7 => ?_)
  · replace h := zy_ifp h b7
    refine zy_3 rfl rfl (show zyR _ _ _ _ [some (.int x0)] [.int (-1 : Int32)] _ _ from ?_)
    obtain ⟨rfl, rfl⟩ := zy_pi h
    exact zy_4 rfl ⟨rfl, rfl⟩
  replace h := zy_ifn h b7
  refine zy_swp (fun b8 => (show zyR _ _ _ _ [some (.int x0)] [] _ _ from ?_)) (fun b8 => ?_)
  · replace h := zy_ifp h b8
    refine zy_3 rfl rfl (show zyR _ _ _ _ [some (.int x0)] [.int (4 : Int32)] _ _ from ?_)
    obtain ⟨rfl, rfl⟩ := zy_pi h
    exact zy_4 rfl ⟨rfl, rfl⟩
  replace h := zy_ifn h b8
  refine zy_swp (fun b9 => (show zyR _ _ _ _ [some (.int x0)] [] _ _ from ?_)) (fun b9 => ?_)
  · replace h := zy_ifp h b9
    refine zy_3 rfl rfl (show zyR _ _ _ _ [some (.int x0)] [.int (-1 : Int32)] _ _ from ?_)
    obtain ⟨rfl, rfl⟩ := zy_pi h
    exact zy_4 rfl ⟨rfl, rfl⟩
  replace h := zy_ifn h b9
  refine zy_swp (fun b10 => (show zyR _ _ _ _ [some (.int x0)] [] _ _ from ?_)) (fun b10 => ?_)
  · replace h := zy_ifp h b10
    refine zy_3 rfl rfl (show zyR _ _ _ _ [some (.int x0)] [.int (2 : Int32)] _ _ from ?_)
    obtain ⟨rfl, rfl⟩ := zy_pi h
    exact zy_4 rfl ⟨rfl, rfl⟩
  replace h := zy_ifn h b10
  refine zy_swp (fun b11 => (show zyR _ _ _ _ [some (.int x0)] [] _ _ from ?_)) (fun b11 => ?_)
  · replace h := zy_ifp h b11
    refine zy_3 rfl rfl (show zyR _ _ _ _ [some (.int x0)] [.int (-1 : Int32)] _ _ from ?_)
    obtain ⟨rfl, rfl⟩ := zy_pi h
    exact zy_4 rfl ⟨rfl, rfl⟩
  replace h := zy_ifn h b11
  refine zy_swp (fun b12 => (show zyR _ _ _ _ [some (.int x0)] [] _ _ from ?_)) (fun b12 => ?_)
  · replace h := zy_ifp h b12
    refine zy_3 rfl rfl (show zyR _ _ _ _ [some (.int x0)] [.int (-1 : Int32)] _ _ from ?_)
    obtain ⟨rfl, rfl⟩ := zy_pi h
    exact zy_4 rfl ⟨rfl, rfl⟩
  replace h := zy_ifn h b12
  refine zy_swp (fun b13 => (show zyR _ _ _ _ [some (.int x0)] [] _ _ from ?_)) (fun b13 => ?_)
  · replace h := zy_ifp h b13
    refine zy_3 rfl rfl (show zyR _ _ _ _ [some (.int x0)] [.int (-1 : Int32)] _ _ from ?_)
    obtain ⟨rfl, rfl⟩ := zy_pi h
    exact zy_4 rfl ⟨rfl, rfl⟩
  replace h := zy_ifn h b13
  refine zy_swp (fun b14 => (show zyR _ _ _ _ [some (.int x0)] [] _ _ from ?_)) (fun b14 => ?_)
  · replace h := zy_ifp h b14
    refine zy_3 rfl rfl (show zyR _ _ _ _ [some (.int x0)] [.int (-1 : Int32)] _ _ from ?_)
    obtain ⟨rfl, rfl⟩ := zy_pi h
    exact zy_4 rfl ⟨rfl, rfl⟩
  replace h := zy_ifn h b14
  refine zy_swp (fun b15 => (show zyR _ _ _ _ [some (.int x0)] [] _ _ from ?_)) (fun b15 => ?_)
  · replace h := zy_ifp h b15
    refine zy_3 rfl rfl (show zyR _ _ _ _ [some (.int x0)] [.int (-1 : Int32)] _ _ from ?_)
    obtain ⟨rfl, rfl⟩ := zy_pi h
    exact zy_4 rfl ⟨rfl, rfl⟩
  replace h := zy_ifn h b15
  refine zy_swp (fun b16 => (show zyR _ _ _ _ [some (.int x0)] [] _ _ from ?_)) (fun b16 => ?_)
  · replace h := zy_ifp h b16
    refine zy_3 rfl rfl (show zyR _ _ _ _ [some (.int x0)] [.int (1 : Int32)] _ _ from ?_)
    obtain ⟨rfl, rfl⟩ := zy_pi h
    exact zy_4 rfl ⟨rfl, rfl⟩
  replace h := zy_ifn h b16
  refine zy_swp (fun b17 => (show zyR _ _ _ _ [some (.int x0)] [] _ _ from ?_)) (fun b17 => ?_)
  · replace h := zy_ifp h b17
    refine zy_3 rfl rfl (show zyR _ _ _ _ [some (.int x0)] [.int (-1 : Int32)] _ _ from ?_)
    obtain ⟨rfl, rfl⟩ := zy_pi h
    exact zy_4 rfl ⟨rfl, rfl⟩
  replace h := zy_ifn h b17
  refine zy_swp (fun b18 => (show zyR _ _ _ _ [some (.int x0)] [] _ _ from ?_)) (fun b18 => ?_)
  · replace h := zy_ifp h b18
    refine zy_3 rfl rfl (show zyR _ _ _ _ [some (.int x0)] [.int (-1 : Int32)] _ _ from ?_)
    obtain ⟨rfl, rfl⟩ := zy_pi h
    exact zy_4 rfl ⟨rfl, rfl⟩
  replace h := zy_ifn h b18
  refine zy_swp (fun b19 => (show zyR _ _ _ _ [some (.int x0)] [] _ _ from ?_)) (fun b19 => ?_)
  · replace h := zy_ifp h b19
    refine zy_3 rfl rfl (show zyR _ _ _ _ [some (.int x0)] [.int (5 : Int32)] _ _ from ?_)
    obtain ⟨rfl, rfl⟩ := zy_pi h
    exact zy_4 rfl ⟨rfl, rfl⟩
  replace h := zy_ifn h b19
  refine zy_swp (fun b20 => (show zyR _ _ _ _ [some (.int x0)] [] _ _ from ?_)) (fun b20 => ?_)
  · replace h := zy_ifp h b20
    refine zy_3 rfl rfl (show zyR _ _ _ _ [some (.int x0)] [.int (3 : Int32)] _ _ from ?_)
    obtain ⟨rfl, rfl⟩ := zy_pi h
    exact zy_4 rfl ⟨rfl, rfl⟩
  replace h := zy_ifn h b20
  show zyR _ _ _ _ [some (.int x0)] [] _ _
  refine zy_3 rfl rfl (show zyR _ _ _ _ [some (.int x0)] [.int (-1 : Int32)] _ _ from ?_)
  obtain ⟨rfl, rfl⟩ := zy_pi h
  exact zy_4 rfl ⟨rfl, rfl⟩
noncomputable def zyF46_35   (x2 : Int32) (y0 : Int32) (y1 : Int32) (s : zy_S) : Option (Int32 × zy_S) :=
if x2 = 0 ∨ x2 = 1 then
some (x2, (zy_up s 9 4 (y1 + y0)))
else none
theorem zyC46_35 {X : zx_X}     {x2 : Int32} {y0 : Int32} {y1 : Int32} {s : zy_S} {r : Int32} {s' : zy_S}  (h : zyF46_35 x2 y0 y1 s = some (r, s')) : zyR X 2 46 35 [none, none, some (.int x2)] [.int y0, .int y1, .ref (9 + 3)] s (zyE (some (.int r)) s') := by
  unfold zyF46_35 at h
  refine zy_10 rfl (show zyR _ _ _ _ [none, none, some (.int x2)] [.int (y1 + y0), .ref (9 + 3)] _ _ from ?_)
  refine zy_52 (c := 9) rfl rfl rfl (show zyR _ _ _ _ [none, none, some (.int x2)] [] _ _ from ?_)
  refine zy_2 rfl rfl (show zyR _ _ _ _ [none, none, some (.int x2)] [.int x2] _ _ from ?_)
  obtain ⟨c1, h⟩ := zy_if h
  cases h
  exact zy_4b rfl ⟨rfl, rfl⟩ c1
noncomputable def zyF46_20   (y0 : Int32) (s : zy_S) : Option (Int32 × zy_S) :=
if y0 = 0 then
zyF46_35 y0 (0 : Int32) (s.1 9 4) s
else
zyF46_35 y0 (1 : Int32) (s.1 9 4) s
theorem zyC46_20 {X : zx_X}     {y0 : Int32} {s : zy_S} {r : Int32} {s' : zy_S}  (h : zyF46_20 y0 s = some (r, s')) : zyR X 2 46 20 [some (.ref (9 + 3)), none, none] [.int y0] s (zyE (some (.int r)) s') := by
  unfold zyF46_20 at h
  refine zy_23 rfl rfl (show zyR _ _ _ _ [some (.ref (9 + 3)), none, some (.int y0)] [] _ _ from ?_)
  refine zy_0 rfl rfl (show zyR _ _ _ _ [some (.ref (9 + 3)), none, some (.int y0)] [.ref (9 + 3)] _ _ from ?_)
  refine zy_33 rfl rfl (show zyR _ _ _ _ [some (.ref (9 + 3)), none, some (.int y0)] [.ref (9 + 3), .ref (9 + 3)] _ _ from ?_)
  refine zy_1 (c := 9) rfl rfl rfl (show zyR _ _ _ _ [some (.ref (9 + 3)), none, some (.int y0)] [.int (s.1 9 4), .ref (9 + 3)] _ _ from ?_)
  refine zy_2 rfl rfl (show zyR _ _ _ _ [some (.ref (9 + 3)), none, some (.int y0)] [.int y0, .int (s.1 9 4), .ref (9 + 3)] _ _ from ?_)
  refine zy_24_0 rfl (fun b2 => (show zyR _ _ _ _ [some (.ref (9 + 3)), none, some (.int y0)] [.int (s.1 9 4), .ref (9 + 3)] _ _ from ?_)) (fun b2 => (show zyR _ _ _ _ [some (.ref (9 + 3)), none, some (.int y0)] [.int (s.1 9 4), .ref (9 + 3)] _ _ from ?_))
  · replace h := zy_ifp h b2
    refine zy_3 rfl rfl (show zyR _ _ _ _ [some (.ref (9 + 3)), none, some (.int y0)] [.int (0 : Int32), .int (s.1 9 4), .ref (9 + 3)] _ _ from ?_)
    exact zy_sub (show zy_le [none, none, some (.int y0)] [some (.ref (9 + 3)), none, some (.int y0)] from ⟨rfl, trivial⟩) (zyC46_35 h)
  · replace h := zy_ifn h b2
    refine zy_3 rfl rfl (show zyR _ _ _ _ [some (.ref (9 + 3)), none, some (.int y0)] [.int (1 : Int32), .int (s.1 9 4), .ref (9 + 3)] _ _ from ?_)
    refine zy_6 rfl (show zyR _ _ _ _ [some (.ref (9 + 3)), none, some (.int y0)] [.int (1 : Int32), .int (s.1 9 4), .ref (9 + 3)] _ _ from ?_)
    exact zy_sub (show zy_le [none, none, some (.int y0)] [some (.ref (9 + 3)), none, some (.int y0)] from ⟨rfl, trivial⟩) (zyC46_35 h)
noncomputable def zyF46_19    (s : zy_S) : Option (Int32 × zy_S) :=
zyF46_20 (0 : Int32) s
theorem zyC46_19 {X : zx_X}      {s : zy_S} {r : Int32} {s' : zy_S}  (h : zyF46_19 s = some (r, s')) : zyR X 2 46 19 [some (.ref (9 + 3)), none, none] [] s (zyE (some (.int r)) s') := by
  unfold zyF46_19 at h
  refine zy_3 rfl rfl (show zyR _ _ _ _ [some (.ref (9 + 3)), none, none] [.int (0 : Int32)] _ _ from ?_)
  exact zy_sub (show zy_le [some (.ref (9 + 3)), none, none] [some (.ref (9 + 3)), none, none] from ⟨rfl, trivial⟩) (zyC46_20 h)
noncomputable def zyF46   (x1 : Int32) (s : zy_S) : Option (Int32 × zy_S) :=
if (s.1 9 5) ≠ 0 then
zyF46_19 s
else
(zyF41 s).bind fun p3 =>
if p3.1 ≠ x1 then
zyF46_19 p3.2
else
zyF46_20 (1 : Int32) p3.2
theorem zyC46 {X : zx_X}     {x1 : Int32} {s : zy_S} {r : Int32} {s' : zy_S}  (h : zyF46 x1 s = some (r, s')) : zyR X 2 46 0 [some (.ref (9 + 3)), some (.int x1), none] [] s (zyE (some (.int r)) s') := by
  unfold zyF46 at h
  refine zy_0 rfl rfl (show zyR _ _ _ _ [some (.ref (9 + 3)), some (.int x1), none] [.ref (9 + 3)] _ _ from ?_)
  refine zy_1 (c := 9) rfl rfl rfl (show zyR _ _ _ _ [some (.ref (9 + 3)), some (.int x1), none] [.int (s.1 9 5)] _ _ from ?_)
  refine zy_24_1 rfl (fun b5 => (show zyR _ _ _ _ [some (.ref (9 + 3)), some (.int x1), none] [] _ _ from ?_)) (fun b5 => (show zyR _ _ _ _ [some (.ref (9 + 3)), some (.int x1), none] [] _ _ from ?_))
  · replace h := zy_ifp h b5
    exact zy_sub (show zy_le [some (.ref (9 + 3)), none, none] [some (.ref (9 + 3)), some (.int x1), none] from ⟨rfl, trivial⟩) (zyC46_19 h)
  · replace h := zy_ifn h b5
    refine zy_0 rfl rfl (show zyR _ _ _ _ [some (.ref (9 + 3)), some (.int x1), none] [.ref (9 + 3)] _ _ from ?_)
    obtain ⟨p3, hp3, h⟩ := zy_bind h
    refine zy_5 (c := 9) (as := []) (rest := []) (L := [some (.ref (9 + 3))]) (d' := 1) rfl rfl rfl (Nat.le_of_ble_eq_true rfl) (Nat.le_of_ble_eq_true rfl) rfl (Nat.le_of_ble_eq_true rfl) rfl rfl (zyC41 hp3) ?_
    show zyR _ _ _ _ [some (.ref (9 + 3)), some (.int x1), none] [.int p3.1] _ _
    refine zy_2 rfl rfl (show zyR _ _ _ _ [some (.ref (9 + 3)), some (.int x1), none] [.int x1, .int p3.1] _ _ from ?_)
    refine zy_25_1 rfl (fun b4 => (show zyR _ _ _ _ [some (.ref (9 + 3)), some (.int x1), none] [] _ _ from ?_)) (fun b4 => (show zyR _ _ _ _ [some (.ref (9 + 3)), some (.int x1), none] [] _ _ from ?_))
    · replace h := zy_ifp h b4
      exact zy_sub (show zy_le [some (.ref (9 + 3)), none, none] [some (.ref (9 + 3)), some (.int x1), none] from ⟨rfl, trivial⟩) (zyC46_19 h)
    · replace h := zy_ifn h b4
      refine zy_3 rfl rfl (show zyR _ _ _ _ [some (.ref (9 + 3)), some (.int x1), none] [.int (1 : Int32)] _ _ from ?_)
      refine zy_6 rfl (show zyR _ _ _ _ [some (.ref (9 + 3)), some (.int x1), none] [.int (1 : Int32)] _ _ from ?_)
      exact zy_sub (show zy_le [some (.ref (9 + 3)), none, none] [some (.ref (9 + 3)), some (.int x1), none] from ⟨rfl, trivial⟩) (zyC46_20 h)
noncomputable def zyF39_34b (g39 : Int32 → Int32 → zy_S → Option (Int32 × zy_S)) (g40 : Int32 → zy_S → Option (Int32 × zy_S)) (k34 : Int32 → Int32 → Int32 → Int32 → zy_S → Option (Int32 × zy_S)) (x1 : Int32) (x2 : Int32) (x3 : Int32) (x4 : Int32) (s : zy_S) : Option (Int32 × zy_S) :=
if x3 ≤ x4 then
some ((0 : Int32), s)
else
if (s.1 9 5) ≠ 0 then
some ((0 : Int32), s)
else
(zyF41 s).bind fun p1 =>
(zyF47 p1.1 p1.2).bind fun p2 =>
if p2.1 ≠ x1 then
some ((0 : Int32), p2.2)
else
(zyF41 p2.2).bind fun p3 =>
(g39 (x1 + (1 : Int32)) x2 (zy_up p3.2 9 4 ((p3.2.1 9 4) + (1 : Int32)))).bind fun p4 =>
(zyF44 (-p3.1) p4.2).bind fun p5 =>
k34 x1 x2 x3 (x4 + (1 : Int32)) p5.2
theorem zyC39_34b {X : zx_X} {d : Nat} {g39 : Int32 → Int32 → zy_S → Option (Int32 × zy_S)} {g40 : Int32 → zy_S → Option (Int32 × zy_S)} {k34 : Int32 → Int32 → Int32 → Int32 → zy_S → Option (Int32 × zy_S)} (hd : 1 ≤ d) (hg39 : ∀ (x1 : Int32) (x2 : Int32) (s : zy_S) (r : Int32) (s' : zy_S), g39 x1 x2 s = some (r, s') → zyR X d 39 0 [some (.ref (9 + 3)), some (.int x1), some (.int x2), none, none, none] [] s (zyE none s')) (hg40 : ∀ (x1 : Int32) (s : zy_S) (r : Int32) (s' : zy_S), g40 x1 s = some (r, s') → zyR X d 40 0 [some (.ref (9 + 3)), some (.int x1), none] [] s (zyE none s')) (hk34 : ∀ (x1 : Int32) (x2 : Int32) (x3 : Int32) (x4 : Int32) (s : zy_S) (r : Int32) (s' : zy_S), k34 x1 x2 x3 x4 s = some (r, s') → zyR X (d + 1) 39 34 [some (.ref (9 + 3)), some (.int x1), some (.int x2), some (.int x3), some (.int x4), none] [] s (zyE none s')) {x1 : Int32} {x2 : Int32} {x3 : Int32} {x4 : Int32} {s : zy_S} {r : Int32} {s' : zy_S}  (h : zyF39_34b g39 g40 k34 x1 x2 x3 x4 s = some (r, s')) : zyR X (d + 1) 39 34 [some (.ref (9 + 3)), some (.int x1), some (.int x2), some (.int x3), some (.int x4), none] [] s (zyE none s') := by
  unfold zyF39_34b at h
  refine zy_2 rfl rfl (show zyR _ _ _ _ [some (.ref (9 + 3)), some (.int x1), some (.int x2), some (.int x3), some (.int x4), none] [.int x4] _ _ from ?_)
  refine zy_2 rfl rfl (show zyR _ _ _ _ [some (.ref (9 + 3)), some (.int x1), some (.int x2), some (.int x3), some (.int x4), none] [.int x3, .int x4] _ _ from ?_)
  refine zy_25_3 rfl (fun b8 => (show zyR _ _ _ _ [some (.ref (9 + 3)), some (.int x1), some (.int x2), some (.int x3), some (.int x4), none] [] _ _ from ?_)) (fun b8 => (show zyR _ _ _ _ [some (.ref (9 + 3)), some (.int x1), some (.int x2), some (.int x3), some (.int x4), none] [] _ _ from ?_))
  · replace h := zy_ifp h b8
    cases h
    exact zy_66 rfl ⟨rfl, rfl⟩
  · replace h := zy_ifn h b8
    refine zy_0 rfl rfl (show zyR _ _ _ _ [some (.ref (9 + 3)), some (.int x1), some (.int x2), some (.int x3), some (.int x4), none] [.ref (9 + 3)] _ _ from ?_)
    refine zy_1 (c := 9) rfl rfl rfl (show zyR _ _ _ _ [some (.ref (9 + 3)), some (.int x1), some (.int x2), some (.int x3), some (.int x4), none] [.int (s.1 9 5)] _ _ from ?_)
    refine zy_24_1 rfl (fun b7 => (show zyR _ _ _ _ [some (.ref (9 + 3)), some (.int x1), some (.int x2), some (.int x3), some (.int x4), none] [] _ _ from ?_)) (fun b7 => (show zyR _ _ _ _ [some (.ref (9 + 3)), some (.int x1), some (.int x2), some (.int x3), some (.int x4), none] [] _ _ from ?_))
    · replace h := zy_ifp h b7
      cases h
      exact zy_66 rfl ⟨rfl, rfl⟩
    · replace h := zy_ifn h b7
      refine zy_0 rfl rfl (show zyR _ _ _ _ [some (.ref (9 + 3)), some (.int x1), some (.int x2), some (.int x3), some (.int x4), none] [.ref (9 + 3)] _ _ from ?_)
      obtain ⟨p1, hp1, h⟩ := zy_bind h
      refine zy_5 (c := 9) (as := []) (rest := []) (L := [some (.ref (9 + 3))]) (d' := 1) rfl rfl rfl (Nat.le_of_ble_eq_true rfl) (by omega) rfl (Nat.le_of_ble_eq_true rfl) rfl rfl (zyC41 hp1) ?_
      show zyR _ _ _ _ [some (.ref (9 + 3)), some (.int x1), some (.int x2), some (.int x3), some (.int x4), none] [.int p1.1] _ _
      obtain ⟨p2, hp2, h⟩ := zy_bind h
      refine zy_60 (as := [.int p1.1]) (rest := []) (L := [some (.int p1.1)]) (d' := 1) rfl rfl (Nat.le_of_ble_eq_true rfl) (by omega) rfl (Nat.le_of_ble_eq_true rfl) rfl rfl (zyC47 hp2) ?_
      show zyR _ _ _ _ [some (.ref (9 + 3)), some (.int x1), some (.int x2), some (.int x3), some (.int x4), none] [.int p2.1] _ _
      refine zy_2 rfl rfl (show zyR _ _ _ _ [some (.ref (9 + 3)), some (.int x1), some (.int x2), some (.int x3), some (.int x4), none] [.int x1, .int p2.1] _ _ from ?_)
      refine zy_25_1 rfl (fun b6 => (show zyR _ _ _ _ [some (.ref (9 + 3)), some (.int x1), some (.int x2), some (.int x3), some (.int x4), none] [] _ _ from ?_)) (fun b6 => (show zyR _ _ _ _ [some (.ref (9 + 3)), some (.int x1), some (.int x2), some (.int x3), some (.int x4), none] [] _ _ from ?_))
      · replace h := zy_ifp h b6
        cases h
        exact zy_66 rfl ⟨rfl, rfl⟩
      · replace h := zy_ifn h b6
        refine zy_0 rfl rfl (show zyR _ _ _ _ [some (.ref (9 + 3)), some (.int x1), some (.int x2), some (.int x3), some (.int x4), none] [.ref (9 + 3)] _ _ from ?_)
        obtain ⟨p3, hp3, h⟩ := zy_bind h
        refine zy_5 (c := 9) (as := []) (rest := []) (L := [some (.ref (9 + 3))]) (d' := 1) rfl rfl rfl (Nat.le_of_ble_eq_true rfl) (by omega) rfl (Nat.le_of_ble_eq_true rfl) rfl rfl (zyC41 hp3) ?_
        show zyR _ _ _ _ [some (.ref (9 + 3)), some (.int x1), some (.int x2), some (.int x3), some (.int x4), none] [.int p3.1] _ _
        refine zy_23 rfl rfl (show zyR _ _ _ _ [some (.ref (9 + 3)), some (.int x1), some (.int x2), some (.int x3), some (.int x4), some (.int p3.1)] [] _ _ from ?_)
        refine zy_0 rfl rfl (show zyR _ _ _ _ [some (.ref (9 + 3)), some (.int x1), some (.int x2), some (.int x3), some (.int x4), some (.int p3.1)] [.ref (9 + 3)] _ _ from ?_)
        refine zy_33 rfl rfl (show zyR _ _ _ _ [some (.ref (9 + 3)), some (.int x1), some (.int x2), some (.int x3), some (.int x4), some (.int p3.1)] [.ref (9 + 3), .ref (9 + 3)] _ _ from ?_)
        refine zy_1 (c := 9) rfl rfl rfl (show zyR _ _ _ _ [some (.ref (9 + 3)), some (.int x1), some (.int x2), some (.int x3), some (.int x4), some (.int p3.1)] [.int (p3.2.1 9 4), .ref (9 + 3)] _ _ from ?_)
        refine zy_3 rfl rfl (show zyR _ _ _ _ [some (.ref (9 + 3)), some (.int x1), some (.int x2), some (.int x3), some (.int x4), some (.int p3.1)] [.int (1 : Int32), .int (p3.2.1 9 4), .ref (9 + 3)] _ _ from ?_)
        refine zy_10 rfl (show zyR _ _ _ _ [some (.ref (9 + 3)), some (.int x1), some (.int x2), some (.int x3), some (.int x4), some (.int p3.1)] [.int ((p3.2.1 9 4) + (1 : Int32)), .ref (9 + 3)] _ _ from ?_)
        refine zy_52 (c := 9) rfl rfl rfl (show zyR _ _ _ _ [some (.ref (9 + 3)), some (.int x1), some (.int x2), some (.int x3), some (.int x4), some (.int p3.1)] [] _ _ from ?_)
        refine zy_0 rfl rfl (show zyR _ _ _ _ [some (.ref (9 + 3)), some (.int x1), some (.int x2), some (.int x3), some (.int x4), some (.int p3.1)] [.ref (9 + 3)] _ _ from ?_)
        refine zy_2 rfl rfl (show zyR _ _ _ _ [some (.ref (9 + 3)), some (.int x1), some (.int x2), some (.int x3), some (.int x4), some (.int p3.1)] [.int x1, .ref (9 + 3)] _ _ from ?_)
        refine zy_3 rfl rfl (show zyR _ _ _ _ [some (.ref (9 + 3)), some (.int x1), some (.int x2), some (.int x3), some (.int x4), some (.int p3.1)] [.int (1 : Int32), .int x1, .ref (9 + 3)] _ _ from ?_)
        refine zy_10 rfl (show zyR _ _ _ _ [some (.ref (9 + 3)), some (.int x1), some (.int x2), some (.int x3), some (.int x4), some (.int p3.1)] [.int (x1 + (1 : Int32)), .ref (9 + 3)] _ _ from ?_)
        refine zy_2 rfl rfl (show zyR _ _ _ _ [some (.ref (9 + 3)), some (.int x1), some (.int x2), some (.int x3), some (.int x4), some (.int p3.1)] [.int x2, .int (x1 + (1 : Int32)), .ref (9 + 3)] _ _ from ?_)
        obtain ⟨p4, hp4, h⟩ := zy_bind h
        refine zy_5 (c := 9) (as := [.int (x1 + (1 : Int32)), .int x2]) (rest := []) (L := [some (.ref (9 + 3)), some (.int (x1 + (1 : Int32))), some (.int x2), none, none, none]) (d' := d) rfl rfl rfl (Nat.le_of_ble_eq_true rfl) (by omega) rfl (Nat.le_of_ble_eq_true rfl) rfl rfl (hg39 (x1 + (1 : Int32)) x2 (zy_up p3.2 9 4 ((p3.2.1 9 4) + (1 : Int32))) _ _ hp4) ?_
        show zyR _ _ _ _ [some (.ref (9 + 3)), some (.int x1), some (.int x2), some (.int x3), some (.int x4), some (.int p3.1)] [] _ _
        refine zy_0 rfl rfl (show zyR _ _ _ _ [some (.ref (9 + 3)), some (.int x1), some (.int x2), some (.int x3), some (.int x4), some (.int p3.1)] [.ref (9 + 3)] _ _ from ?_)
        refine zy_2 rfl rfl (show zyR _ _ _ _ [some (.ref (9 + 3)), some (.int x1), some (.int x2), some (.int x3), some (.int x4), some (.int p3.1)] [.int p3.1, .ref (9 + 3)] _ _ from ?_)
        refine zy_21 rfl (show zyR _ _ _ _ [some (.ref (9 + 3)), some (.int x1), some (.int x2), some (.int x3), some (.int x4), some (.int p3.1)] [.int (-p3.1), .ref (9 + 3)] _ _ from ?_)
        obtain ⟨p5, hp5, h⟩ := zy_bind h
        refine zy_5 (c := 9) (as := [.int (-p3.1)]) (rest := []) (L := [some (.ref (9 + 3)), some (.int (-p3.1))]) (d' := 1) rfl rfl rfl (Nat.le_of_ble_eq_true rfl) (by omega) rfl (Nat.le_of_ble_eq_true rfl) rfl rfl (zyC44 hp5) ?_
        show zyR _ _ _ _ [some (.ref (9 + 3)), some (.int x1), some (.int x2), some (.int x3), some (.int x4), some (.int p3.1)] [] _ _
        refine zy_22 rfl rfl rfl rfl (show zyR _ _ _ _ [some (.ref (9 + 3)), some (.int x1), some (.int x2), some (.int x3), some (.int (x4 + (1 : Int32))), some (.int p3.1)] [] _ _ from ?_)
        refine zy_6 rfl (show zyR _ _ _ _ [some (.ref (9 + 3)), some (.int x1), some (.int x2), some (.int x3), some (.int (x4 + (1 : Int32))), some (.int p3.1)] [] _ _ from ?_)
        exact zy_sub (show zy_le [some (.ref (9 + 3)), some (.int x1), some (.int x2), some (.int x3), some (.int (x4 + (1 : Int32))), none] [some (.ref (9 + 3)), some (.int x1), some (.int x2), some (.int x3), some (.int (x4 + (1 : Int32))), some (.int p3.1)] from ⟨rfl, ⟨rfl, ⟨rfl, ⟨rfl, ⟨rfl, trivial⟩⟩⟩⟩⟩) (hk34 x1 x2 x3 (x4 + (1 : Int32)) p5.2 _ _ h)
noncomputable def zyF39_34 (g39 : Int32 → Int32 → zy_S → Option (Int32 × zy_S)) (g40 : Int32 → zy_S → Option (Int32 × zy_S))  (n : Nat) : Int32 → Int32 → Int32 → Int32 → zy_S → Option (Int32 × zy_S) := Nat.rec (fun _ _ _ _ _ => none) (fun _ k34 => zyF39_34b g39 g40 k34) n
theorem zyC39_34 {X : zx_X} {d : Nat} {g39 : Int32 → Int32 → zy_S → Option (Int32 × zy_S)} {g40 : Int32 → zy_S → Option (Int32 × zy_S)}  (hd : 1 ≤ d) (hg39 : ∀ (x1 : Int32) (x2 : Int32) (s : zy_S) (r : Int32) (s' : zy_S), g39 x1 x2 s = some (r, s') → zyR X d 39 0 [some (.ref (9 + 3)), some (.int x1), some (.int x2), none, none, none] [] s (zyE none s')) (hg40 : ∀ (x1 : Int32) (s : zy_S) (r : Int32) (s' : zy_S), g40 x1 s = some (r, s') → zyR X d 40 0 [some (.ref (9 + 3)), some (.int x1), none] [] s (zyE none s'))  : ∀ (n : Nat) (x1 : Int32) (x2 : Int32) (x3 : Int32) (x4 : Int32) (s : zy_S) (r : Int32) (s' : zy_S), zyF39_34 g39 g40 n x1 x2 x3 x4 s = some (r, s') → zyR X (d + 1) 39 34 [some (.ref (9 + 3)), some (.int x1), some (.int x2), some (.int x3), some (.int x4), none] [] s (zyE none s')
  | 0, _, _, _, _ => by
    intro s r s'  h
    have h : (none : Option (Int32 × zy_S)) = some (r, s') := h
    cases h
  | n + 1, x1, x2, x3, x4 => by
    intro s r s'  h
    exact zyC39_34b hd hg39 hg40 (k34 := zyF39_34 g39 g40 n) (fun x1 x2 x3 x4 s r s'  h => zyC39_34 hd hg39 hg40 n x1 x2 x3 x4 s r s'  h) h
noncomputable def zyF39_30 (g39 : Int32 → Int32 → zy_S → Option (Int32 × zy_S)) (g40 : Int32 → zy_S → Option (Int32 × zy_S))  (x1 : Int32) (x2 : Int32) (y0 : Int32) (s : zy_S) : Option (Int32 × zy_S) :=
zyF39_34 g39 g40 zy_fu x1 x2 y0 (0 : Int32) s
theorem zyC39_30 {X : zx_X} {d : Nat} {g39 : Int32 → Int32 → zy_S → Option (Int32 × zy_S)} {g40 : Int32 → zy_S → Option (Int32 × zy_S)}  (hd : 1 ≤ d) (hg39 : ∀ (x1 : Int32) (x2 : Int32) (s : zy_S) (r : Int32) (s' : zy_S), g39 x1 x2 s = some (r, s') → zyR X d 39 0 [some (.ref (9 + 3)), some (.int x1), some (.int x2), none, none, none] [] s (zyE none s')) (hg40 : ∀ (x1 : Int32) (s : zy_S) (r : Int32) (s' : zy_S), g40 x1 s = some (r, s') → zyR X d 40 0 [some (.ref (9 + 3)), some (.int x1), none] [] s (zyE none s'))  {x1 : Int32} {x2 : Int32} {y0 : Int32} {s : zy_S} {r : Int32} {s' : zy_S}  (h : zyF39_30 g39 g40 x1 x2 y0 s = some (r, s')) : zyR X (d + 1) 39 30 [some (.ref (9 + 3)), some (.int x1), some (.int x2), none, none, none] [.int y0] s (zyE none s') := by
  unfold zyF39_30 at h
  refine zy_23 rfl rfl (show zyR _ _ _ _ [some (.ref (9 + 3)), some (.int x1), some (.int x2), some (.int y0), none, none] [] _ _ from ?_)
  refine zy_3 rfl rfl (show zyR _ _ _ _ [some (.ref (9 + 3)), some (.int x1), some (.int x2), some (.int y0), none, none] [.int (0 : Int32)] _ _ from ?_)
  refine zy_23 rfl rfl (show zyR _ _ _ _ [some (.ref (9 + 3)), some (.int x1), some (.int x2), some (.int y0), some (.int (0 : Int32)), none] [] _ _ from ?_)
  exact zy_sub (show zy_le [some (.ref (9 + 3)), some (.int x1), some (.int x2), some (.int y0), some (.int (0 : Int32)), none] [some (.ref (9 + 3)), some (.int x1), some (.int x2), some (.int y0), some (.int (0 : Int32)), none] from ⟨rfl, ⟨rfl, ⟨rfl, ⟨rfl, ⟨rfl, trivial⟩⟩⟩⟩⟩) (zyC39_34 hd hg39 hg40 zy_fu x1 x2 y0 (0 : Int32) s _ _ h)
noncomputable def zyF39_0 (g39 : Int32 → Int32 → zy_S → Option (Int32 × zy_S)) (g40 : Int32 → zy_S → Option (Int32 × zy_S))  (x1 : Int32) (x2 : Int32) (s : zy_S) : Option (Int32 × zy_S) :=
if x1 < (5 : Int32) then
(g39 (x1 + (1 : Int32)) x2 s).bind fun p9 =>
if x1 ≠ (2 : Int32) then
zyF39_30 g39 g40 x1 x2 (120 : Int32) p9.2
else
zyF39_30 g39 g40 x1 x2 (1 : Int32) p9.2
else
(g40 x2 s).bind fun p11 =>
some ((0 : Int32), p11.2)
theorem zyC39_0 {X : zx_X} {d : Nat} {g39 : Int32 → Int32 → zy_S → Option (Int32 × zy_S)} {g40 : Int32 → zy_S → Option (Int32 × zy_S)}  (hd : 1 ≤ d) (hg39 : ∀ (x1 : Int32) (x2 : Int32) (s : zy_S) (r : Int32) (s' : zy_S), g39 x1 x2 s = some (r, s') → zyR X d 39 0 [some (.ref (9 + 3)), some (.int x1), some (.int x2), none, none, none] [] s (zyE none s')) (hg40 : ∀ (x1 : Int32) (s : zy_S) (r : Int32) (s' : zy_S), g40 x1 s = some (r, s') → zyR X d 40 0 [some (.ref (9 + 3)), some (.int x1), none] [] s (zyE none s'))  {x1 : Int32} {x2 : Int32} {s : zy_S} {r : Int32} {s' : zy_S}  (h : zyF39_0 g39 g40 x1 x2 s = some (r, s')) : zyR X (d + 1) 39 0 [some (.ref (9 + 3)), some (.int x1), some (.int x2), none, none, none] [] s (zyE none s') := by
  unfold zyF39_0 at h
  refine zy_2 rfl rfl (show zyR _ _ _ _ [some (.ref (9 + 3)), some (.int x1), some (.int x2), none, none, none] [.int x1] _ _ from ?_)
  refine zy_3 rfl rfl (show zyR _ _ _ _ [some (.ref (9 + 3)), some (.int x1), some (.int x2), none, none, none] [.int (5 : Int32), .int x1] _ _ from ?_)
  refine zy_25_2 rfl (fun b12 => (show zyR _ _ _ _ [some (.ref (9 + 3)), some (.int x1), some (.int x2), none, none, none] [] _ _ from ?_)) (fun b12 => (show zyR _ _ _ _ [some (.ref (9 + 3)), some (.int x1), some (.int x2), none, none, none] [] _ _ from ?_))
  · replace h := zy_ifp h b12
    refine zy_0 rfl rfl (show zyR _ _ _ _ [some (.ref (9 + 3)), some (.int x1), some (.int x2), none, none, none] [.ref (9 + 3)] _ _ from ?_)
    refine zy_2 rfl rfl (show zyR _ _ _ _ [some (.ref (9 + 3)), some (.int x1), some (.int x2), none, none, none] [.int x1, .ref (9 + 3)] _ _ from ?_)
    refine zy_3 rfl rfl (show zyR _ _ _ _ [some (.ref (9 + 3)), some (.int x1), some (.int x2), none, none, none] [.int (1 : Int32), .int x1, .ref (9 + 3)] _ _ from ?_)
    refine zy_10 rfl (show zyR _ _ _ _ [some (.ref (9 + 3)), some (.int x1), some (.int x2), none, none, none] [.int (x1 + (1 : Int32)), .ref (9 + 3)] _ _ from ?_)
    refine zy_2 rfl rfl (show zyR _ _ _ _ [some (.ref (9 + 3)), some (.int x1), some (.int x2), none, none, none] [.int x2, .int (x1 + (1 : Int32)), .ref (9 + 3)] _ _ from ?_)
    obtain ⟨p9, hp9, h⟩ := zy_bind h
    refine zy_5 (c := 9) (as := [.int (x1 + (1 : Int32)), .int x2]) (rest := []) (L := [some (.ref (9 + 3)), some (.int (x1 + (1 : Int32))), some (.int x2), none, none, none]) (d' := d) rfl rfl rfl (Nat.le_of_ble_eq_true rfl) (by omega) rfl (Nat.le_of_ble_eq_true rfl) rfl rfl (hg39 (x1 + (1 : Int32)) x2 s _ _ hp9) ?_
    show zyR _ _ _ _ [some (.ref (9 + 3)), some (.int x1), some (.int x2), none, none, none] [] _ _
    refine zy_2 rfl rfl (show zyR _ _ _ _ [some (.ref (9 + 3)), some (.int x1), some (.int x2), none, none, none] [.int x1] _ _ from ?_)
    refine zy_3 rfl rfl (show zyR _ _ _ _ [some (.ref (9 + 3)), some (.int x1), some (.int x2), none, none, none] [.int (2 : Int32), .int x1] _ _ from ?_)
    refine zy_25_1 rfl (fun b10 => (show zyR _ _ _ _ [some (.ref (9 + 3)), some (.int x1), some (.int x2), none, none, none] [] _ _ from ?_)) (fun b10 => (show zyR _ _ _ _ [some (.ref (9 + 3)), some (.int x1), some (.int x2), none, none, none] [] _ _ from ?_))
    · replace h := zy_ifp h b10
      refine zy_3 rfl rfl (show zyR _ _ _ _ [some (.ref (9 + 3)), some (.int x1), some (.int x2), none, none, none] [.int (120 : Int32)] _ _ from ?_)
      exact zy_sub (show zy_le [some (.ref (9 + 3)), some (.int x1), some (.int x2), none, none, none] [some (.ref (9 + 3)), some (.int x1), some (.int x2), none, none, none] from ⟨rfl, ⟨rfl, ⟨rfl, trivial⟩⟩⟩) (zyC39_30 hd hg39 hg40 h)
    · replace h := zy_ifn h b10
      refine zy_3 rfl rfl (show zyR _ _ _ _ [some (.ref (9 + 3)), some (.int x1), some (.int x2), none, none, none] [.int (1 : Int32)] _ _ from ?_)
      refine zy_6 rfl (show zyR _ _ _ _ [some (.ref (9 + 3)), some (.int x1), some (.int x2), none, none, none] [.int (1 : Int32)] _ _ from ?_)
      exact zy_sub (show zy_le [some (.ref (9 + 3)), some (.int x1), some (.int x2), none, none, none] [some (.ref (9 + 3)), some (.int x1), some (.int x2), none, none, none] from ⟨rfl, ⟨rfl, ⟨rfl, trivial⟩⟩⟩) (zyC39_30 hd hg39 hg40 h)
  · replace h := zy_ifn h b12
    refine zy_0 rfl rfl (show zyR _ _ _ _ [some (.ref (9 + 3)), some (.int x1), some (.int x2), none, none, none] [.ref (9 + 3)] _ _ from ?_)
    refine zy_2 rfl rfl (show zyR _ _ _ _ [some (.ref (9 + 3)), some (.int x1), some (.int x2), none, none, none] [.int x2, .ref (9 + 3)] _ _ from ?_)
    obtain ⟨p11, hp11, h⟩ := zy_bind h
    refine zy_5 (c := 9) (as := [.int x2]) (rest := []) (L := [some (.ref (9 + 3)), some (.int x2), none]) (d' := d) rfl rfl rfl (Nat.le_of_ble_eq_true rfl) (by omega) rfl (Nat.le_of_ble_eq_true rfl) rfl rfl (hg40 x2 s _ _ hp11) ?_
    show zyR _ _ _ _ [some (.ref (9 + 3)), some (.int x1), some (.int x2), none, none, none] [] _ _
    cases h
    exact zy_66 rfl ⟨rfl, rfl⟩
noncomputable def zyF40_157 (g39 : Int32 → Int32 → zy_S → Option (Int32 × zy_S)) (g40 : Int32 → zy_S → Option (Int32 × zy_S))   (s : zy_S) : Option (Int32 × zy_S) :=
some ((0 : Int32), (zy_up s 9 5 (1 : Int32)))
theorem zyC40_157 {X : zx_X} {d : Nat} {g39 : Int32 → Int32 → zy_S → Option (Int32 × zy_S)} {g40 : Int32 → zy_S → Option (Int32 × zy_S)}  (hd : 2 ≤ d) (hg39 : ∀ (x1 : Int32) (x2 : Int32) (s : zy_S) (r : Int32) (s' : zy_S), g39 x1 x2 s = some (r, s') → zyR X d 39 0 [some (.ref (9 + 3)), some (.int x1), some (.int x2), none, none, none] [] s (zyE none s')) (hg40 : ∀ (x1 : Int32) (s : zy_S) (r : Int32) (s' : zy_S), g40 x1 s = some (r, s') → zyR X d 40 0 [some (.ref (9 + 3)), some (.int x1), none] [] s (zyE none s'))   {s : zy_S} {r : Int32} {s' : zy_S}  (h : zyF40_157 g39 g40 s = some (r, s')) : zyR X (d + 1) 40 157 [some (.ref (9 + 3)), none, none] [] s (zyE none s') := by
  unfold zyF40_157 at h
  refine zy_0 rfl rfl (show zyR _ _ _ _ [some (.ref (9 + 3)), none, none] [.ref (9 + 3)] _ _ from ?_)
  refine zy_3 rfl rfl (show zyR _ _ _ _ [some (.ref (9 + 3)), none, none] [.int (1 : Int32), .ref (9 + 3)] _ _ from ?_)
  refine zy_52b (c := 9) rfl rfl rfl (Or.inr rfl) (show zyR _ _ _ _ [some (.ref (9 + 3)), none, none] [] _ _ from ?_)
  cases h
  exact zy_66 rfl ⟨rfl, rfl⟩
noncomputable def zyF40_126 (g39 : Int32 → Int32 → zy_S → Option (Int32 × zy_S)) (g40 : Int32 → zy_S → Option (Int32 × zy_S))  (x1 : Int32) (s : zy_S) : Option (Int32 × zy_S) :=
if (6 : Int32) ≤ x1 then
zyF40_157 g39 g40 s
else
(zyF46 (45 : Int32) s).bind fun p1 =>
if p1.1 = 0 then
zyF40_157 g39 g40 p1.2
else
(g40 (x1 + (1 : Int32)) p1.2).bind fun p2 =>
(zyF44 (-126 : Int32) p2.2).bind fun p3 =>
some ((0 : Int32), p3.2)
theorem zyC40_126 {X : zx_X} {d : Nat} {g39 : Int32 → Int32 → zy_S → Option (Int32 × zy_S)} {g40 : Int32 → zy_S → Option (Int32 × zy_S)}  (hd : 2 ≤ d) (hg39 : ∀ (x1 : Int32) (x2 : Int32) (s : zy_S) (r : Int32) (s' : zy_S), g39 x1 x2 s = some (r, s') → zyR X d 39 0 [some (.ref (9 + 3)), some (.int x1), some (.int x2), none, none, none] [] s (zyE none s')) (hg40 : ∀ (x1 : Int32) (s : zy_S) (r : Int32) (s' : zy_S), g40 x1 s = some (r, s') → zyR X d 40 0 [some (.ref (9 + 3)), some (.int x1), none] [] s (zyE none s'))  {x1 : Int32} {s : zy_S} {r : Int32} {s' : zy_S}  (h : zyF40_126 g39 g40 x1 s = some (r, s')) : zyR X (d + 1) 40 126 [some (.ref (9 + 3)), some (.int x1), none] [] s (zyE none s') := by
  unfold zyF40_126 at h
  refine zy_2 rfl rfl (show zyR _ _ _ _ [some (.ref (9 + 3)), some (.int x1), none] [.int x1] _ _ from ?_)
  refine zy_3 rfl rfl (show zyR _ _ _ _ [some (.ref (9 + 3)), some (.int x1), none] [.int (6 : Int32), .int x1] _ _ from ?_)
  refine zy_25_3 rfl (fun b5 => (show zyR _ _ _ _ [some (.ref (9 + 3)), some (.int x1), none] [] _ _ from ?_)) (fun b5 => (show zyR _ _ _ _ [some (.ref (9 + 3)), some (.int x1), none] [] _ _ from ?_))
  · replace h := zy_ifp h b5
    exact zy_sub (show zy_le [some (.ref (9 + 3)), none, none] [some (.ref (9 + 3)), some (.int x1), none] from ⟨rfl, trivial⟩) (zyC40_157 hd hg39 hg40 h)
  · replace h := zy_ifn h b5
    refine zy_0 rfl rfl (show zyR _ _ _ _ [some (.ref (9 + 3)), some (.int x1), none] [.ref (9 + 3)] _ _ from ?_)
    refine zy_3 rfl rfl (show zyR _ _ _ _ [some (.ref (9 + 3)), some (.int x1), none] [.int (45 : Int32), .ref (9 + 3)] _ _ from ?_)
    obtain ⟨p1, hp1, h⟩ := zy_bind h
    refine zy_5 (c := 9) (as := [.int (45 : Int32)]) (rest := []) (L := [some (.ref (9 + 3)), some (.int (45 : Int32)), none]) (d' := 2) rfl rfl rfl (Nat.le_of_ble_eq_true rfl) (by omega) rfl (Nat.le_of_ble_eq_true rfl) rfl rfl (zyC46 hp1) ?_
    show zyR _ _ _ _ [some (.ref (9 + 3)), some (.int x1), none] [.int p1.1] _ _
    refine zy_24_0 rfl (fun b4 => (show zyR _ _ _ _ [some (.ref (9 + 3)), some (.int x1), none] [] _ _ from ?_)) (fun b4 => (show zyR _ _ _ _ [some (.ref (9 + 3)), some (.int x1), none] [] _ _ from ?_))
    · replace h := zy_ifp h b4
      exact zy_sub (show zy_le [some (.ref (9 + 3)), none, none] [some (.ref (9 + 3)), some (.int x1), none] from ⟨rfl, trivial⟩) (zyC40_157 hd hg39 hg40 h)
    · replace h := zy_ifn h b4
      refine zy_0 rfl rfl (show zyR _ _ _ _ [some (.ref (9 + 3)), some (.int x1), none] [.ref (9 + 3)] _ _ from ?_)
      refine zy_2 rfl rfl (show zyR _ _ _ _ [some (.ref (9 + 3)), some (.int x1), none] [.int x1, .ref (9 + 3)] _ _ from ?_)
      refine zy_3 rfl rfl (show zyR _ _ _ _ [some (.ref (9 + 3)), some (.int x1), none] [.int (1 : Int32), .int x1, .ref (9 + 3)] _ _ from ?_)
      refine zy_10 rfl (show zyR _ _ _ _ [some (.ref (9 + 3)), some (.int x1), none] [.int (x1 + (1 : Int32)), .ref (9 + 3)] _ _ from ?_)
      obtain ⟨p2, hp2, h⟩ := zy_bind h
      refine zy_5 (c := 9) (as := [.int (x1 + (1 : Int32))]) (rest := []) (L := [some (.ref (9 + 3)), some (.int (x1 + (1 : Int32))), none]) (d' := d) rfl rfl rfl (Nat.le_of_ble_eq_true rfl) (by omega) rfl (Nat.le_of_ble_eq_true rfl) rfl rfl (hg40 (x1 + (1 : Int32)) p1.2 _ _ hp2) ?_
      show zyR _ _ _ _ [some (.ref (9 + 3)), some (.int x1), none] [] _ _
      refine zy_0 rfl rfl (show zyR _ _ _ _ [some (.ref (9 + 3)), some (.int x1), none] [.ref (9 + 3)] _ _ from ?_)
      refine zy_3 rfl rfl (show zyR _ _ _ _ [some (.ref (9 + 3)), some (.int x1), none] [.int (-126 : Int32), .ref (9 + 3)] _ _ from ?_)
      obtain ⟨p3, hp3, h⟩ := zy_bind h
      refine zy_5 (c := 9) (as := [.int (-126 : Int32)]) (rest := []) (L := [some (.ref (9 + 3)), some (.int (-126 : Int32))]) (d' := 1) rfl rfl rfl (Nat.le_of_ble_eq_true rfl) (by omega) rfl (Nat.le_of_ble_eq_true rfl) rfl rfl (zyC44 hp3) ?_
      show zyR _ _ _ _ [some (.ref (9 + 3)), some (.int x1), none] [] _ _
      refine zy_6 rfl (show zyR _ _ _ _ [some (.ref (9 + 3)), some (.int x1), none] [] _ _ from ?_)
      cases h
      exact zy_66 rfl ⟨rfl, rfl⟩
noncomputable def zyF40_95 (g39 : Int32 → Int32 → zy_S → Option (Int32 × zy_S)) (g40 : Int32 → zy_S → Option (Int32 × zy_S))  (x1 : Int32) (s : zy_S) : Option (Int32 × zy_S) :=
if (6 : Int32) ≤ x1 then
zyF40_126 g39 g40 x1 s
else
(zyF46 (33 : Int32) s).bind fun p6 =>
if p6.1 = 0 then
zyF40_126 g39 g40 x1 p6.2
else
(g40 (x1 + (1 : Int32)) p6.2).bind fun p7 =>
(zyF44 (-33 : Int32) p7.2).bind fun p8 =>
some ((0 : Int32), p8.2)
theorem zyC40_95 {X : zx_X} {d : Nat} {g39 : Int32 → Int32 → zy_S → Option (Int32 × zy_S)} {g40 : Int32 → zy_S → Option (Int32 × zy_S)}  (hd : 2 ≤ d) (hg39 : ∀ (x1 : Int32) (x2 : Int32) (s : zy_S) (r : Int32) (s' : zy_S), g39 x1 x2 s = some (r, s') → zyR X d 39 0 [some (.ref (9 + 3)), some (.int x1), some (.int x2), none, none, none] [] s (zyE none s')) (hg40 : ∀ (x1 : Int32) (s : zy_S) (r : Int32) (s' : zy_S), g40 x1 s = some (r, s') → zyR X d 40 0 [some (.ref (9 + 3)), some (.int x1), none] [] s (zyE none s'))  {x1 : Int32} {s : zy_S} {r : Int32} {s' : zy_S}  (h : zyF40_95 g39 g40 x1 s = some (r, s')) : zyR X (d + 1) 40 95 [some (.ref (9 + 3)), some (.int x1), none] [] s (zyE none s') := by
  unfold zyF40_95 at h
  refine zy_2 rfl rfl (show zyR _ _ _ _ [some (.ref (9 + 3)), some (.int x1), none] [.int x1] _ _ from ?_)
  refine zy_3 rfl rfl (show zyR _ _ _ _ [some (.ref (9 + 3)), some (.int x1), none] [.int (6 : Int32), .int x1] _ _ from ?_)
  refine zy_25_3 rfl (fun b10 => (show zyR _ _ _ _ [some (.ref (9 + 3)), some (.int x1), none] [] _ _ from ?_)) (fun b10 => (show zyR _ _ _ _ [some (.ref (9 + 3)), some (.int x1), none] [] _ _ from ?_))
  · replace h := zy_ifp h b10
    exact zy_sub (show zy_le [some (.ref (9 + 3)), some (.int x1), none] [some (.ref (9 + 3)), some (.int x1), none] from ⟨rfl, ⟨rfl, trivial⟩⟩) (zyC40_126 hd hg39 hg40 h)
  · replace h := zy_ifn h b10
    refine zy_0 rfl rfl (show zyR _ _ _ _ [some (.ref (9 + 3)), some (.int x1), none] [.ref (9 + 3)] _ _ from ?_)
    refine zy_3 rfl rfl (show zyR _ _ _ _ [some (.ref (9 + 3)), some (.int x1), none] [.int (33 : Int32), .ref (9 + 3)] _ _ from ?_)
    obtain ⟨p6, hp6, h⟩ := zy_bind h
    refine zy_5 (c := 9) (as := [.int (33 : Int32)]) (rest := []) (L := [some (.ref (9 + 3)), some (.int (33 : Int32)), none]) (d' := 2) rfl rfl rfl (Nat.le_of_ble_eq_true rfl) (by omega) rfl (Nat.le_of_ble_eq_true rfl) rfl rfl (zyC46 hp6) ?_
    show zyR _ _ _ _ [some (.ref (9 + 3)), some (.int x1), none] [.int p6.1] _ _
    refine zy_24_0 rfl (fun b9 => (show zyR _ _ _ _ [some (.ref (9 + 3)), some (.int x1), none] [] _ _ from ?_)) (fun b9 => (show zyR _ _ _ _ [some (.ref (9 + 3)), some (.int x1), none] [] _ _ from ?_))
    · replace h := zy_ifp h b9
      exact zy_sub (show zy_le [some (.ref (9 + 3)), some (.int x1), none] [some (.ref (9 + 3)), some (.int x1), none] from ⟨rfl, ⟨rfl, trivial⟩⟩) (zyC40_126 hd hg39 hg40 h)
    · replace h := zy_ifn h b9
      refine zy_0 rfl rfl (show zyR _ _ _ _ [some (.ref (9 + 3)), some (.int x1), none] [.ref (9 + 3)] _ _ from ?_)
      refine zy_2 rfl rfl (show zyR _ _ _ _ [some (.ref (9 + 3)), some (.int x1), none] [.int x1, .ref (9 + 3)] _ _ from ?_)
      refine zy_3 rfl rfl (show zyR _ _ _ _ [some (.ref (9 + 3)), some (.int x1), none] [.int (1 : Int32), .int x1, .ref (9 + 3)] _ _ from ?_)
      refine zy_10 rfl (show zyR _ _ _ _ [some (.ref (9 + 3)), some (.int x1), none] [.int (x1 + (1 : Int32)), .ref (9 + 3)] _ _ from ?_)
      obtain ⟨p7, hp7, h⟩ := zy_bind h
      refine zy_5 (c := 9) (as := [.int (x1 + (1 : Int32))]) (rest := []) (L := [some (.ref (9 + 3)), some (.int (x1 + (1 : Int32))), none]) (d' := d) rfl rfl rfl (Nat.le_of_ble_eq_true rfl) (by omega) rfl (Nat.le_of_ble_eq_true rfl) rfl rfl (hg40 (x1 + (1 : Int32)) p6.2 _ _ hp7) ?_
      show zyR _ _ _ _ [some (.ref (9 + 3)), some (.int x1), none] [] _ _
      refine zy_0 rfl rfl (show zyR _ _ _ _ [some (.ref (9 + 3)), some (.int x1), none] [.ref (9 + 3)] _ _ from ?_)
      refine zy_3 rfl rfl (show zyR _ _ _ _ [some (.ref (9 + 3)), some (.int x1), none] [.int (-33 : Int32), .ref (9 + 3)] _ _ from ?_)
      obtain ⟨p8, hp8, h⟩ := zy_bind h
      refine zy_5 (c := 9) (as := [.int (-33 : Int32)]) (rest := []) (L := [some (.ref (9 + 3)), some (.int (-33 : Int32))]) (d' := 1) rfl rfl rfl (Nat.le_of_ble_eq_true rfl) (by omega) rfl (Nat.le_of_ble_eq_true rfl) rfl rfl (zyC44 hp8) ?_
      show zyR _ _ _ _ [some (.ref (9 + 3)), some (.int x1), none] [] _ _
      refine zy_6 rfl (show zyR _ _ _ _ [some (.ref (9 + 3)), some (.int x1), none] [] _ _ from ?_)
      cases h
      exact zy_66 rfl ⟨rfl, rfl⟩
noncomputable def zyF40_89 (g39 : Int32 → Int32 → zy_S → Option (Int32 × zy_S)) (g40 : Int32 → zy_S → Option (Int32 × zy_S))  (y0 : Int32) (s : zy_S) : Option (Int32 × zy_S) :=
if y0 = 0 ∨ y0 = 1 then
some ((0 : Int32), (zy_up s 9 5 y0))
else none
theorem zyC40_89 {X : zx_X} {d : Nat} {g39 : Int32 → Int32 → zy_S → Option (Int32 × zy_S)} {g40 : Int32 → zy_S → Option (Int32 × zy_S)}  (hd : 2 ≤ d) (hg39 : ∀ (x1 : Int32) (x2 : Int32) (s : zy_S) (r : Int32) (s' : zy_S), g39 x1 x2 s = some (r, s') → zyR X d 39 0 [some (.ref (9 + 3)), some (.int x1), some (.int x2), none, none, none] [] s (zyE none s')) (hg40 : ∀ (x1 : Int32) (s : zy_S) (r : Int32) (s' : zy_S), g40 x1 s = some (r, s') → zyR X d 40 0 [some (.ref (9 + 3)), some (.int x1), none] [] s (zyE none s'))  {y0 : Int32} {s : zy_S} {r : Int32} {s' : zy_S}  (h : zyF40_89 g39 g40 y0 s = some (r, s')) : zyR X (d + 1) 40 89 [none, none, none] [.int y0, .ref (9 + 3)] s (zyE none s') := by
  unfold zyF40_89 at h
  obtain ⟨c11, h⟩ := zy_if h
  refine zy_52b (c := 9) rfl rfl rfl c11 (show zyR _ _ _ _ [none, none, none] [] _ _ from ?_)
  refine zy_6 rfl (show zyR _ _ _ _ [none, none, none] [] _ _ from ?_)
  cases h
  exact zy_66 rfl ⟨rfl, rfl⟩
noncomputable def zyF40_0 (g39 : Int32 → Int32 → zy_S → Option (Int32 × zy_S)) (g40 : Int32 → zy_S → Option (Int32 × zy_S))  (x1 : Int32) (s : zy_S) : Option (Int32 × zy_S) :=
(zyF41 s).bind fun p12 =>
(zyF42 p12.1 p12.2).bind fun p13 =>
if p13.1 = 0 then
(zyF45 p12.1 p13.2).bind fun p14 =>
if p14.1 < 0 then
if (6 : Int32) ≤ x1 then
zyF40_95 g39 g40 x1 p14.2
else
(zyF46 (40 : Int32) p14.2).bind fun p15 =>
if p15.1 = 0 then
zyF40_95 g39 g40 x1 p15.2
else
(g39 (0 : Int32) (x1 + (1 : Int32)) p15.2).bind fun p16 =>
(zyF46 (41 : Int32) p16.2).bind fun p17 =>
if p17.1 ≠ 0 then
zyF40_89 g39 g40 (0 : Int32) p17.2
else
zyF40_89 g39 g40 (1 : Int32) p17.2
else
(zyF45 p12.1 (zy_up p14.2 9 4 ((p14.2.1 9 4) + (1 : Int32)))).bind fun p21 =>
(zyF44 ((10000 : Int32) + p21.1) p21.2).bind fun p22 =>
some ((0 : Int32), p22.2)
else
(zyF43 p13.2).bind fun p24 =>
some ((0 : Int32), p24.2)
theorem zyC40_0 {X : zx_X} {d : Nat} {g39 : Int32 → Int32 → zy_S → Option (Int32 × zy_S)} {g40 : Int32 → zy_S → Option (Int32 × zy_S)}  (hd : 2 ≤ d) (hg39 : ∀ (x1 : Int32) (x2 : Int32) (s : zy_S) (r : Int32) (s' : zy_S), g39 x1 x2 s = some (r, s') → zyR X d 39 0 [some (.ref (9 + 3)), some (.int x1), some (.int x2), none, none, none] [] s (zyE none s')) (hg40 : ∀ (x1 : Int32) (s : zy_S) (r : Int32) (s' : zy_S), g40 x1 s = some (r, s') → zyR X d 40 0 [some (.ref (9 + 3)), some (.int x1), none] [] s (zyE none s'))  {x1 : Int32} {s : zy_S} {r : Int32} {s' : zy_S}  (h : zyF40_0 g39 g40 x1 s = some (r, s')) : zyR X (d + 1) 40 0 [some (.ref (9 + 3)), some (.int x1), none] [] s (zyE none s') := by
  unfold zyF40_0 at h
  refine zy_0 rfl rfl (show zyR _ _ _ _ [some (.ref (9 + 3)), some (.int x1), none] [.ref (9 + 3)] _ _ from ?_)
  obtain ⟨p12, hp12, h⟩ := zy_bind h
  refine zy_5 (c := 9) (as := []) (rest := []) (L := [some (.ref (9 + 3))]) (d' := 1) rfl rfl rfl (Nat.le_of_ble_eq_true rfl) (by omega) rfl (Nat.le_of_ble_eq_true rfl) rfl rfl (zyC41 hp12) ?_
  show zyR _ _ _ _ [some (.ref (9 + 3)), some (.int x1), none] [.int p12.1] _ _
  refine zy_23 rfl rfl (show zyR _ _ _ _ [some (.ref (9 + 3)), some (.int x1), some (.int p12.1)] [] _ _ from ?_)
  refine zy_2 rfl rfl (show zyR _ _ _ _ [some (.ref (9 + 3)), some (.int x1), some (.int p12.1)] [.int p12.1] _ _ from ?_)
  obtain ⟨p13, hp13, h⟩ := zy_bind h
  refine zy_60 (as := [.int p12.1]) (rest := []) (L := [some (.int p12.1)]) (d' := 1) rfl rfl (Nat.le_of_ble_eq_true rfl) (by omega) rfl (Nat.le_of_ble_eq_true rfl) rfl rfl (zyC42 hp13) ?_
  show zyR _ _ _ _ [some (.ref (9 + 3)), some (.int x1), some (.int p12.1)] [.int p13.1] _ _
  refine zy_24_0 rfl (fun b25 => (show zyR _ _ _ _ [some (.ref (9 + 3)), some (.int x1), some (.int p12.1)] [] _ _ from ?_)) (fun b25 => (show zyR _ _ _ _ [some (.ref (9 + 3)), some (.int x1), some (.int p12.1)] [] _ _ from ?_))
  · replace h := zy_ifp h b25
    refine zy_2 rfl rfl (show zyR _ _ _ _ [some (.ref (9 + 3)), some (.int x1), some (.int p12.1)] [.int p12.1] _ _ from ?_)
    obtain ⟨p14, hp14, h⟩ := zy_bind h
    refine zy_60 (as := [.int p12.1]) (rest := []) (L := [some (.int p12.1)]) (d' := 1) rfl rfl (Nat.le_of_ble_eq_true rfl) (by omega) rfl (Nat.le_of_ble_eq_true rfl) rfl rfl (zyC45 hp14) ?_
    show zyR _ _ _ _ [some (.ref (9 + 3)), some (.int x1), some (.int p12.1)] [.int p14.1] _ _
    refine zy_24_2 rfl (fun b23 => (show zyR _ _ _ _ [some (.ref (9 + 3)), some (.int x1), some (.int p12.1)] [] _ _ from ?_)) (fun b23 => (show zyR _ _ _ _ [some (.ref (9 + 3)), some (.int x1), some (.int p12.1)] [] _ _ from ?_))
    · replace h := zy_ifp h b23
      refine zy_2 rfl rfl (show zyR _ _ _ _ [some (.ref (9 + 3)), some (.int x1), some (.int p12.1)] [.int x1] _ _ from ?_)
      refine zy_3 rfl rfl (show zyR _ _ _ _ [some (.ref (9 + 3)), some (.int x1), some (.int p12.1)] [.int (6 : Int32), .int x1] _ _ from ?_)
      refine zy_25_3 rfl (fun b20 => (show zyR _ _ _ _ [some (.ref (9 + 3)), some (.int x1), some (.int p12.1)] [] _ _ from ?_)) (fun b20 => (show zyR _ _ _ _ [some (.ref (9 + 3)), some (.int x1), some (.int p12.1)] [] _ _ from ?_))
      · replace h := zy_ifp h b20
        exact zy_sub (show zy_le [some (.ref (9 + 3)), some (.int x1), none] [some (.ref (9 + 3)), some (.int x1), some (.int p12.1)] from ⟨rfl, ⟨rfl, trivial⟩⟩) (zyC40_95 hd hg39 hg40 h)
      · replace h := zy_ifn h b20
        refine zy_0 rfl rfl (show zyR _ _ _ _ [some (.ref (9 + 3)), some (.int x1), some (.int p12.1)] [.ref (9 + 3)] _ _ from ?_)
        refine zy_3 rfl rfl (show zyR _ _ _ _ [some (.ref (9 + 3)), some (.int x1), some (.int p12.1)] [.int (40 : Int32), .ref (9 + 3)] _ _ from ?_)
        obtain ⟨p15, hp15, h⟩ := zy_bind h
        refine zy_5 (c := 9) (as := [.int (40 : Int32)]) (rest := []) (L := [some (.ref (9 + 3)), some (.int (40 : Int32)), none]) (d' := 2) rfl rfl rfl (Nat.le_of_ble_eq_true rfl) (by omega) rfl (Nat.le_of_ble_eq_true rfl) rfl rfl (zyC46 hp15) ?_
        show zyR _ _ _ _ [some (.ref (9 + 3)), some (.int x1), some (.int p12.1)] [.int p15.1] _ _
        refine zy_24_0 rfl (fun b19 => (show zyR _ _ _ _ [some (.ref (9 + 3)), some (.int x1), some (.int p12.1)] [] _ _ from ?_)) (fun b19 => (show zyR _ _ _ _ [some (.ref (9 + 3)), some (.int x1), some (.int p12.1)] [] _ _ from ?_))
        · replace h := zy_ifp h b19
          exact zy_sub (show zy_le [some (.ref (9 + 3)), some (.int x1), none] [some (.ref (9 + 3)), some (.int x1), some (.int p12.1)] from ⟨rfl, ⟨rfl, trivial⟩⟩) (zyC40_95 hd hg39 hg40 h)
        · replace h := zy_ifn h b19
          refine zy_0 rfl rfl (show zyR _ _ _ _ [some (.ref (9 + 3)), some (.int x1), some (.int p12.1)] [.ref (9 + 3)] _ _ from ?_)
          refine zy_3 rfl rfl (show zyR _ _ _ _ [some (.ref (9 + 3)), some (.int x1), some (.int p12.1)] [.int (0 : Int32), .ref (9 + 3)] _ _ from ?_)
          refine zy_2 rfl rfl (show zyR _ _ _ _ [some (.ref (9 + 3)), some (.int x1), some (.int p12.1)] [.int x1, .int (0 : Int32), .ref (9 + 3)] _ _ from ?_)
          refine zy_3 rfl rfl (show zyR _ _ _ _ [some (.ref (9 + 3)), some (.int x1), some (.int p12.1)] [.int (1 : Int32), .int x1, .int (0 : Int32), .ref (9 + 3)] _ _ from ?_)
          refine zy_10 rfl (show zyR _ _ _ _ [some (.ref (9 + 3)), some (.int x1), some (.int p12.1)] [.int (x1 + (1 : Int32)), .int (0 : Int32), .ref (9 + 3)] _ _ from ?_)
          obtain ⟨p16, hp16, h⟩ := zy_bind h
          refine zy_5 (c := 9) (as := [.int (0 : Int32), .int (x1 + (1 : Int32))]) (rest := []) (L := [some (.ref (9 + 3)), some (.int (0 : Int32)), some (.int (x1 + (1 : Int32))), none, none, none]) (d' := d) rfl rfl rfl (Nat.le_of_ble_eq_true rfl) (by omega) rfl (Nat.le_of_ble_eq_true rfl) rfl rfl (hg39 (0 : Int32) (x1 + (1 : Int32)) p15.2 _ _ hp16) ?_
          show zyR _ _ _ _ [some (.ref (9 + 3)), some (.int x1), some (.int p12.1)] [] _ _
          refine zy_0 rfl rfl (show zyR _ _ _ _ [some (.ref (9 + 3)), some (.int x1), some (.int p12.1)] [.ref (9 + 3)] _ _ from ?_)
          refine zy_0 rfl rfl (show zyR _ _ _ _ [some (.ref (9 + 3)), some (.int x1), some (.int p12.1)] [.ref (9 + 3), .ref (9 + 3)] _ _ from ?_)
          refine zy_3 rfl rfl (show zyR _ _ _ _ [some (.ref (9 + 3)), some (.int x1), some (.int p12.1)] [.int (41 : Int32), .ref (9 + 3), .ref (9 + 3)] _ _ from ?_)
          obtain ⟨p17, hp17, h⟩ := zy_bind h
          refine zy_5 (c := 9) (as := [.int (41 : Int32)]) (rest := [.ref (9 + 3)]) (L := [some (.ref (9 + 3)), some (.int (41 : Int32)), none]) (d' := 2) rfl rfl rfl (Nat.le_of_ble_eq_true rfl) (by omega) rfl (Nat.le_of_ble_eq_true rfl) rfl rfl (zyC46 hp17) ?_
          show zyR _ _ _ _ [some (.ref (9 + 3)), some (.int x1), some (.int p12.1)] [.int p17.1, .ref (9 + 3)] _ _
          refine zy_24_1 rfl (fun b18 => (show zyR _ _ _ _ [some (.ref (9 + 3)), some (.int x1), some (.int p12.1)] [.ref (9 + 3)] _ _ from ?_)) (fun b18 => (show zyR _ _ _ _ [some (.ref (9 + 3)), some (.int x1), some (.int p12.1)] [.ref (9 + 3)] _ _ from ?_))
          · replace h := zy_ifp h b18
            refine zy_3 rfl rfl (show zyR _ _ _ _ [some (.ref (9 + 3)), some (.int x1), some (.int p12.1)] [.int (0 : Int32), .ref (9 + 3)] _ _ from ?_)
            exact zy_sub (show zy_le [none, none, none] [some (.ref (9 + 3)), some (.int x1), some (.int p12.1)] from trivial) (zyC40_89 hd hg39 hg40 h)
          · replace h := zy_ifn h b18
            refine zy_3 rfl rfl (show zyR _ _ _ _ [some (.ref (9 + 3)), some (.int x1), some (.int p12.1)] [.int (1 : Int32), .ref (9 + 3)] _ _ from ?_)
            refine zy_6 rfl (show zyR _ _ _ _ [some (.ref (9 + 3)), some (.int x1), some (.int p12.1)] [.int (1 : Int32), .ref (9 + 3)] _ _ from ?_)
            exact zy_sub (show zy_le [none, none, none] [some (.ref (9 + 3)), some (.int x1), some (.int p12.1)] from trivial) (zyC40_89 hd hg39 hg40 h)
    · replace h := zy_ifn h b23
      refine zy_0 rfl rfl (show zyR _ _ _ _ [some (.ref (9 + 3)), some (.int x1), some (.int p12.1)] [.ref (9 + 3)] _ _ from ?_)
      refine zy_33 rfl rfl (show zyR _ _ _ _ [some (.ref (9 + 3)), some (.int x1), some (.int p12.1)] [.ref (9 + 3), .ref (9 + 3)] _ _ from ?_)
      refine zy_1 (c := 9) rfl rfl rfl (show zyR _ _ _ _ [some (.ref (9 + 3)), some (.int x1), some (.int p12.1)] [.int (p14.2.1 9 4), .ref (9 + 3)] _ _ from ?_)
      refine zy_3 rfl rfl (show zyR _ _ _ _ [some (.ref (9 + 3)), some (.int x1), some (.int p12.1)] [.int (1 : Int32), .int (p14.2.1 9 4), .ref (9 + 3)] _ _ from ?_)
      refine zy_10 rfl (show zyR _ _ _ _ [some (.ref (9 + 3)), some (.int x1), some (.int p12.1)] [.int ((p14.2.1 9 4) + (1 : Int32)), .ref (9 + 3)] _ _ from ?_)
      refine zy_52 (c := 9) rfl rfl rfl (show zyR _ _ _ _ [some (.ref (9 + 3)), some (.int x1), some (.int p12.1)] [] _ _ from ?_)
      refine zy_0 rfl rfl (show zyR _ _ _ _ [some (.ref (9 + 3)), some (.int x1), some (.int p12.1)] [.ref (9 + 3)] _ _ from ?_)
      refine zy_3 rfl rfl (show zyR _ _ _ _ [some (.ref (9 + 3)), some (.int x1), some (.int p12.1)] [.int (10000 : Int32), .ref (9 + 3)] _ _ from ?_)
      refine zy_2 rfl rfl (show zyR _ _ _ _ [some (.ref (9 + 3)), some (.int x1), some (.int p12.1)] [.int p12.1, .int (10000 : Int32), .ref (9 + 3)] _ _ from ?_)
      obtain ⟨p21, hp21, h⟩ := zy_bind h
      refine zy_60 (as := [.int p12.1]) (rest := [.int (10000 : Int32), .ref (9 + 3)]) (L := [some (.int p12.1)]) (d' := 1) rfl rfl (Nat.le_of_ble_eq_true rfl) (by omega) rfl (Nat.le_of_ble_eq_true rfl) rfl rfl (zyC45 hp21) ?_
      show zyR _ _ _ _ [some (.ref (9 + 3)), some (.int x1), some (.int p12.1)] [.int p21.1, .int (10000 : Int32), .ref (9 + 3)] _ _
      refine zy_10 rfl (show zyR _ _ _ _ [some (.ref (9 + 3)), some (.int x1), some (.int p12.1)] [.int ((10000 : Int32) + p21.1), .ref (9 + 3)] _ _ from ?_)
      obtain ⟨p22, hp22, h⟩ := zy_bind h
      refine zy_5 (c := 9) (as := [.int ((10000 : Int32) + p21.1)]) (rest := []) (L := [some (.ref (9 + 3)), some (.int ((10000 : Int32) + p21.1))]) (d' := 1) rfl rfl rfl (Nat.le_of_ble_eq_true rfl) (by omega) rfl (Nat.le_of_ble_eq_true rfl) rfl rfl (zyC44 hp22) ?_
      show zyR _ _ _ _ [some (.ref (9 + 3)), some (.int x1), some (.int p12.1)] [] _ _
      refine zy_6 rfl (show zyR _ _ _ _ [some (.ref (9 + 3)), some (.int x1), some (.int p12.1)] [] _ _ from ?_)
      cases h
      exact zy_66 rfl ⟨rfl, rfl⟩
  · replace h := zy_ifn h b25
    refine zy_0 rfl rfl (show zyR _ _ _ _ [some (.ref (9 + 3)), some (.int x1), some (.int p12.1)] [.ref (9 + 3)] _ _ from ?_)
    obtain ⟨p24, hp24, h⟩ := zy_bind h
    refine zy_5 (c := 9) (as := []) (rest := []) (L := [some (.ref (9 + 3)), none, none]) (d' := 2) rfl rfl rfl (Nat.le_of_ble_eq_true rfl) (by omega) rfl (Nat.le_of_ble_eq_true rfl) rfl rfl (zyC43 hp24) ?_
    show zyR _ _ _ _ [some (.ref (9 + 3)), some (.int x1), some (.int p12.1)] [] _ _
    refine zy_6 rfl (show zyR _ _ _ _ [some (.ref (9 + 3)), some (.int x1), some (.int p12.1)] [] _ _ from ?_)
    cases h
    exact zy_66 rfl ⟨rfl, rfl⟩
noncomputable def zyG39 (n : Nat) : (Int32 → Int32 → zy_S → Option (Int32 × zy_S)) × (Int32 → zy_S → Option (Int32 × zy_S)) := Nat.rec ((fun _ _ _ => none), (fun _ _ => none)) (fun _ g => ((fun x1 x2 s => zyF39_0 g.1 g.2 x1 x2 s), (fun x1 s => zyF40_0 g.1 g.2 x1 s))) n
theorem zyG39_s (n : Nat) : zyG39 (n + 1) = ((fun x1 x2 s => zyF39_0 (zyG39 n).1 (zyG39 n).2 x1 x2 s), (fun x1 s => zyF40_0 (zyG39 n).1 (zyG39 n).2 x1 s)) := rfl
theorem zyS39 (n : Nat) (x1 : Int32) (x2 : Int32) (s : zy_S) : (zyG39 (n + 1)).1 x1 x2 s = zyF39_0 (zyG39 n).1 (zyG39 n).2 x1 x2 s := by
  rw [zyG39_s]
theorem zyS40 (n : Nat) (x1 : Int32) (s : zy_S) : (zyG39 (n + 1)).2 x1 s = zyF40_0 (zyG39 n).1 (zyG39 n).2 x1 s := by
  rw [zyG39_s]
theorem zyG39_ok {X : zx_X} : ∀ n : Nat, (∀ (x1 : Int32) (x2 : Int32) (s : zy_S) (r : Int32) (s' : zy_S), (zyG39 n).1 x1 x2 s = some (r, s') → zyR X (2 + n) 39 0 [some (.ref (9 + 3)), some (.int x1), some (.int x2), none, none, none] [] s (zyE none s')) ∧ (∀ (x1 : Int32) (s : zy_S) (r : Int32) (s' : zy_S), (zyG39 n).2 x1 s = some (r, s') → zyR X (2 + n) 40 0 [some (.ref (9 + 3)), some (.int x1), none] [] s (zyE none s'))
  | 0 => by
    refine ⟨?_, ?_⟩
    · intro x1 x2 s r s'  h
      have h : (none : Option (Int32 × zy_S)) = some (r, s') := h
      cases h
    · intro x1 s r s'  h
      have h : (none : Option (Int32 × zy_S)) = some (r, s') := h
      cases h
  | n + 1 => by
    obtain ⟨i0, i1⟩ := zyG39_ok (X := X) n
    refine ⟨?_, ?_⟩
    · intro x1 x2 s r s'  h
      rw [zyS39] at h
      exact zy_sub (show zy_le [some (.ref (9 + 3)), some (.int x1), some (.int x2), none, none, none] [some (.ref (9 + 3)), some (.int x1), some (.int x2), none, none, none] from ⟨rfl, ⟨rfl, ⟨rfl, trivial⟩⟩⟩) (zyC39_0 (d := 2 + n) (g39 := (zyG39 n).1) (g40 := (zyG39 n).2) (by omega) i0 i1  h)
    · intro x1 s r s'  h
      rw [zyS40] at h
      exact zy_sub (show zy_le [some (.ref (9 + 3)), some (.int x1), none] [some (.ref (9 + 3)), some (.int x1), none] from ⟨rfl, ⟨rfl, trivial⟩⟩) (zyC40_0 (d := 2 + n) (g39 := (zyG39 n).1) (g40 := (zyG39 n).2) (by omega) i0 i1  h)
noncomputable def zyF39 : Int32 → Int32 → zy_S → Option (Int32 × zy_S) := (zyG39 100).1
theorem zyC39 {X : zx_X} {x1 : Int32} {x2 : Int32} {s : zy_S} {r : Int32} {s' : zy_S}  (h : zyF39 x1 x2 s = some (r, s')) : zyR X 102 39 0 [some (.ref (9 + 3)), some (.int x1), some (.int x2), none, none, none] [] s (zyE none s') := (zyG39_ok (X := X) 100).1 x1 x2 s r s'  h
noncomputable def zyF40 : Int32 → zy_S → Option (Int32 × zy_S) := (zyG39 100).2
theorem zyC40 {X : zx_X} {x1 : Int32} {s : zy_S} {r : Int32} {s' : zy_S}  (h : zyF40 x1 s = some (r, s')) : zyR X 102 40 0 [some (.ref (9 + 3)), some (.int x1), none] [] s (zyE none s') := (zyG39_ok (X := X) 100).2 x1 s r s'  h
noncomputable def zyF38_27    (s : zy_S) : Option (Int32 × zy_S) :=
(zyF44 (-59 : Int32) s).bind fun p1 =>
some ((0 : Int32), p1.2)
theorem zyC38_27 {X : zx_X}      {s : zy_S} {r : Int32} {s' : zy_S}  (h : zyF38_27 s = some (r, s')) : zyR X 103 38 27 [some (.ref (9 + 3))] [] s (zyE none s') := by
  unfold zyF38_27 at h
  refine zy_0 rfl rfl (show zyR _ _ _ _ [some (.ref (9 + 3))] [.ref (9 + 3)] _ _ from ?_)
  refine zy_3 rfl rfl (show zyR _ _ _ _ [some (.ref (9 + 3))] [.int (-59 : Int32), .ref (9 + 3)] _ _ from ?_)
  obtain ⟨p1, hp1, h⟩ := zy_bind h
  refine zy_5 (c := 9) (as := [.int (-59 : Int32)]) (rest := []) (L := [some (.ref (9 + 3)), some (.int (-59 : Int32))]) (d' := 1) rfl rfl rfl (Nat.le_of_ble_eq_true rfl) (Nat.le_of_ble_eq_true rfl) rfl (Nat.le_of_ble_eq_true rfl) rfl rfl (zyC44 hp1) ?_
  show zyR _ _ _ _ [some (.ref (9 + 3))] [] _ _
  cases h
  exact zy_66 rfl ⟨rfl, rfl⟩
noncomputable def zyF38    (s : zy_S) : Option (Int32 × zy_S) :=
(zyF39 (0 : Int32) (0 : Int32) s).bind fun p2 =>
(zyF46 (63 : Int32) p2.2).bind fun p3 =>
if p3.1 = 0 then
zyF38_27 p3.2
else
(zyF44 (-63 : Int32) p3.2).bind fun p4 =>
(zyF39 (0 : Int32) (0 : Int32) p4.2).bind fun p5 =>
zyF38_27 p5.2
theorem zyC38 {X : zx_X}      {s : zy_S} {r : Int32} {s' : zy_S}  (h : zyF38 s = some (r, s')) : zyR X 103 38 0 [some (.ref (9 + 3))] [] s (zyE none s') := by
  unfold zyF38 at h
  refine zy_0 rfl rfl (show zyR _ _ _ _ [some (.ref (9 + 3))] [.ref (9 + 3)] _ _ from ?_)
  refine zy_3 rfl rfl (show zyR _ _ _ _ [some (.ref (9 + 3))] [.int (0 : Int32), .ref (9 + 3)] _ _ from ?_)
  refine zy_3 rfl rfl (show zyR _ _ _ _ [some (.ref (9 + 3))] [.int (0 : Int32), .int (0 : Int32), .ref (9 + 3)] _ _ from ?_)
  obtain ⟨p2, hp2, h⟩ := zy_bind h
  refine zy_5 (c := 9) (as := [.int (0 : Int32), .int (0 : Int32)]) (rest := []) (L := [some (.ref (9 + 3)), some (.int (0 : Int32)), some (.int (0 : Int32)), none, none, none]) (d' := 102) rfl rfl rfl (Nat.le_of_ble_eq_true rfl) (Nat.le_of_ble_eq_true rfl) rfl (Nat.le_of_ble_eq_true rfl) rfl rfl (zyC39 hp2) ?_
  show zyR _ _ _ _ [some (.ref (9 + 3))] [] _ _
  refine zy_0 rfl rfl (show zyR _ _ _ _ [some (.ref (9 + 3))] [.ref (9 + 3)] _ _ from ?_)
  refine zy_3 rfl rfl (show zyR _ _ _ _ [some (.ref (9 + 3))] [.int (63 : Int32), .ref (9 + 3)] _ _ from ?_)
  obtain ⟨p3, hp3, h⟩ := zy_bind h
  refine zy_5 (c := 9) (as := [.int (63 : Int32)]) (rest := []) (L := [some (.ref (9 + 3)), some (.int (63 : Int32)), none]) (d' := 2) rfl rfl rfl (Nat.le_of_ble_eq_true rfl) (Nat.le_of_ble_eq_true rfl) rfl (Nat.le_of_ble_eq_true rfl) rfl rfl (zyC46 hp3) ?_
  show zyR _ _ _ _ [some (.ref (9 + 3))] [.int p3.1] _ _
  refine zy_24_0 rfl (fun b6 => (show zyR _ _ _ _ [some (.ref (9 + 3))] [] _ _ from ?_)) (fun b6 => (show zyR _ _ _ _ [some (.ref (9 + 3))] [] _ _ from ?_))
  · replace h := zy_ifp h b6
    exact zy_sub (show zy_le [some (.ref (9 + 3))] [some (.ref (9 + 3))] from ⟨rfl, trivial⟩) (zyC38_27 h)
  · replace h := zy_ifn h b6
    refine zy_0 rfl rfl (show zyR _ _ _ _ [some (.ref (9 + 3))] [.ref (9 + 3)] _ _ from ?_)
    refine zy_3 rfl rfl (show zyR _ _ _ _ [some (.ref (9 + 3))] [.int (-63 : Int32), .ref (9 + 3)] _ _ from ?_)
    obtain ⟨p4, hp4, h⟩ := zy_bind h
    refine zy_5 (c := 9) (as := [.int (-63 : Int32)]) (rest := []) (L := [some (.ref (9 + 3)), some (.int (-63 : Int32))]) (d' := 1) rfl rfl rfl (Nat.le_of_ble_eq_true rfl) (Nat.le_of_ble_eq_true rfl) rfl (Nat.le_of_ble_eq_true rfl) rfl rfl (zyC44 hp4) ?_
    show zyR _ _ _ _ [some (.ref (9 + 3))] [] _ _
    refine zy_0 rfl rfl (show zyR _ _ _ _ [some (.ref (9 + 3))] [.ref (9 + 3)] _ _ from ?_)
    refine zy_3 rfl rfl (show zyR _ _ _ _ [some (.ref (9 + 3))] [.int (0 : Int32), .ref (9 + 3)] _ _ from ?_)
    refine zy_3 rfl rfl (show zyR _ _ _ _ [some (.ref (9 + 3))] [.int (0 : Int32), .int (0 : Int32), .ref (9 + 3)] _ _ from ?_)
    obtain ⟨p5, hp5, h⟩ := zy_bind h
    refine zy_5 (c := 9) (as := [.int (0 : Int32), .int (0 : Int32)]) (rest := []) (L := [some (.ref (9 + 3)), some (.int (0 : Int32)), some (.int (0 : Int32)), none, none, none]) (d' := 102) rfl rfl rfl (Nat.le_of_ble_eq_true rfl) (Nat.le_of_ble_eq_true rfl) rfl (Nat.le_of_ble_eq_true rfl) rfl rfl (zyC39 hp5) ?_
    show zyR _ _ _ _ [some (.ref (9 + 3))] [] _ _
    exact zy_sub (show zy_le [some (.ref (9 + 3))] [some (.ref (9 + 3))] from ⟨rfl, trivial⟩) (zyC38_27 h)
noncomputable def zyF37_46    (s : zy_S) : Option (Int32 × zy_S) :=
if (s.1 9 5) ≠ 0 then
some ((s.1 9 4), s)
else
if (s.1 9 2) ≤ (s.1 9 4) then
some ((-1 : Int32), s)
else
some ((s.1 9 4), s)
theorem zyC37_46 {X : zx_X}      {s : zy_S} {r : Int32} {s' : zy_S}  (h : zyF37_46 s = some (r, s')) : zyR X 104 37 46 [some (.ref (9 + 3)), none] [] s (zyE (some (.int r)) s') := by
  unfold zyF37_46 at h
  refine zy_0 rfl rfl (show zyR _ _ _ _ [some (.ref (9 + 3)), none] [.ref (9 + 3)] _ _ from ?_)
  refine zy_1 (c := 9) rfl rfl rfl (show zyR _ _ _ _ [some (.ref (9 + 3)), none] [.int (s.1 9 5)] _ _ from ?_)
  refine zy_24_1 rfl (fun b2 => (show zyR _ _ _ _ [some (.ref (9 + 3)), none] [] _ _ from ?_)) (fun b2 => (show zyR _ _ _ _ [some (.ref (9 + 3)), none] [] _ _ from ?_))
  · replace h := zy_ifp h b2
    refine zy_0 rfl rfl (show zyR _ _ _ _ [some (.ref (9 + 3)), none] [.ref (9 + 3)] _ _ from ?_)
    refine zy_1 (c := 9) rfl rfl rfl (show zyR _ _ _ _ [some (.ref (9 + 3)), none] [.int (s.1 9 4)] _ _ from ?_)
    refine zy_6 rfl (show zyR _ _ _ _ [some (.ref (9 + 3)), none] [.int (s.1 9 4)] _ _ from ?_)
    obtain ⟨rfl, rfl⟩ := zy_pi h
    exact zy_4 rfl ⟨rfl, rfl⟩
  · replace h := zy_ifn h b2
    refine zy_0 rfl rfl (show zyR _ _ _ _ [some (.ref (9 + 3)), none] [.ref (9 + 3)] _ _ from ?_)
    refine zy_1 (c := 9) rfl rfl rfl (show zyR _ _ _ _ [some (.ref (9 + 3)), none] [.int (s.1 9 4)] _ _ from ?_)
    refine zy_0 rfl rfl (show zyR _ _ _ _ [some (.ref (9 + 3)), none] [.ref (9 + 3), .int (s.1 9 4)] _ _ from ?_)
    refine zy_1 (c := 9) rfl rfl rfl (show zyR _ _ _ _ [some (.ref (9 + 3)), none] [.int (s.1 9 2), .int (s.1 9 4)] _ _ from ?_)
    refine zy_25_3 rfl (fun b1 => (show zyR _ _ _ _ [some (.ref (9 + 3)), none] [] _ _ from ?_)) (fun b1 => (show zyR _ _ _ _ [some (.ref (9 + 3)), none] [] _ _ from ?_))
    · replace h := zy_ifp h b1
      refine zy_3 rfl rfl (show zyR _ _ _ _ [some (.ref (9 + 3)), none] [.int (-1 : Int32)] _ _ from ?_)
      obtain ⟨rfl, rfl⟩ := zy_pi h
      exact zy_4 rfl ⟨rfl, rfl⟩
    · replace h := zy_ifn h b1
      refine zy_0 rfl rfl (show zyR _ _ _ _ [some (.ref (9 + 3)), none] [.ref (9 + 3)] _ _ from ?_)
      refine zy_1 (c := 9) rfl rfl rfl (show zyR _ _ _ _ [some (.ref (9 + 3)), none] [.int (s.1 9 4)] _ _ from ?_)
      refine zy_6 rfl (show zyR _ _ _ _ [some (.ref (9 + 3)), none] [.int (s.1 9 4)] _ _ from ?_)
      obtain ⟨rfl, rfl⟩ := zy_pi h
      exact zy_4 rfl ⟨rfl, rfl⟩
noncomputable def zyF37_21b  (k21 : Int32 → zy_S → Option (Int32 × zy_S)) (x1 : Int32) (s : zy_S) : Option (Int32 × zy_S) :=
if (120 : Int32) ≤ x1 then
zyF37_46 s
else
(zyF46 (59 : Int32) s).bind fun p3 =>
if p3.1 = 0 then
zyF37_46 p3.2
else
(zyF38 p3.2).bind fun p4 =>
k21 (x1 + (1 : Int32)) p4.2
theorem zyC37_21b {X : zx_X}  {k21 : Int32 → zy_S → Option (Int32 × zy_S)}  (hk21 : ∀ (x1 : Int32) (s : zy_S) (r : Int32) (s' : zy_S), k21 x1 s = some (r, s') → zyR X 104 37 21 [some (.ref (9 + 3)), some (.int x1)] [] s (zyE (some (.int r)) s')) {x1 : Int32} {s : zy_S} {r : Int32} {s' : zy_S}  (h : zyF37_21b k21 x1 s = some (r, s')) : zyR X 104 37 21 [some (.ref (9 + 3)), some (.int x1)] [] s (zyE (some (.int r)) s') := by
  unfold zyF37_21b at h
  refine zy_2 rfl rfl (show zyR _ _ _ _ [some (.ref (9 + 3)), some (.int x1)] [.int x1] _ _ from ?_)
  refine zy_3 rfl rfl (show zyR _ _ _ _ [some (.ref (9 + 3)), some (.int x1)] [.int (120 : Int32), .int x1] _ _ from ?_)
  refine zy_25_3 rfl (fun b6 => (show zyR _ _ _ _ [some (.ref (9 + 3)), some (.int x1)] [] _ _ from ?_)) (fun b6 => (show zyR _ _ _ _ [some (.ref (9 + 3)), some (.int x1)] [] _ _ from ?_))
  · replace h := zy_ifp h b6
    exact zy_sub (show zy_le [some (.ref (9 + 3)), none] [some (.ref (9 + 3)), some (.int x1)] from ⟨rfl, trivial⟩) (zyC37_46 h)
  · replace h := zy_ifn h b6
    refine zy_0 rfl rfl (show zyR _ _ _ _ [some (.ref (9 + 3)), some (.int x1)] [.ref (9 + 3)] _ _ from ?_)
    refine zy_3 rfl rfl (show zyR _ _ _ _ [some (.ref (9 + 3)), some (.int x1)] [.int (59 : Int32), .ref (9 + 3)] _ _ from ?_)
    obtain ⟨p3, hp3, h⟩ := zy_bind h
    refine zy_5 (c := 9) (as := [.int (59 : Int32)]) (rest := []) (L := [some (.ref (9 + 3)), some (.int (59 : Int32)), none]) (d' := 2) rfl rfl rfl (Nat.le_of_ble_eq_true rfl) (Nat.le_of_ble_eq_true rfl) rfl (Nat.le_of_ble_eq_true rfl) rfl rfl (zyC46 hp3) ?_
    show zyR _ _ _ _ [some (.ref (9 + 3)), some (.int x1)] [.int p3.1] _ _
    refine zy_24_0 rfl (fun b5 => (show zyR _ _ _ _ [some (.ref (9 + 3)), some (.int x1)] [] _ _ from ?_)) (fun b5 => (show zyR _ _ _ _ [some (.ref (9 + 3)), some (.int x1)] [] _ _ from ?_))
    · replace h := zy_ifp h b5
      exact zy_sub (show zy_le [some (.ref (9 + 3)), none] [some (.ref (9 + 3)), some (.int x1)] from ⟨rfl, trivial⟩) (zyC37_46 h)
    · replace h := zy_ifn h b5
      refine zy_0 rfl rfl (show zyR _ _ _ _ [some (.ref (9 + 3)), some (.int x1)] [.ref (9 + 3)] _ _ from ?_)
      obtain ⟨p4, hp4, h⟩ := zy_bind h
      refine zy_5 (c := 9) (as := []) (rest := []) (L := [some (.ref (9 + 3))]) (d' := 103) rfl rfl rfl (Nat.le_of_ble_eq_true rfl) (Nat.le_of_ble_eq_true rfl) rfl (Nat.le_of_ble_eq_true rfl) rfl rfl (zyC38 hp4) ?_
      show zyR _ _ _ _ [some (.ref (9 + 3)), some (.int x1)] [] _ _
      refine zy_22 rfl rfl rfl rfl (show zyR _ _ _ _ [some (.ref (9 + 3)), some (.int (x1 + (1 : Int32)))] [] _ _ from ?_)
      refine zy_6 rfl (show zyR _ _ _ _ [some (.ref (9 + 3)), some (.int (x1 + (1 : Int32)))] [] _ _ from ?_)
      exact zy_sub (show zy_le [some (.ref (9 + 3)), some (.int (x1 + (1 : Int32)))] [some (.ref (9 + 3)), some (.int (x1 + (1 : Int32)))] from ⟨rfl, ⟨rfl, trivial⟩⟩) (hk21 (x1 + (1 : Int32)) p4.2 _ _ h)
noncomputable def zyF37_21   (n : Nat) : Int32 → zy_S → Option (Int32 × zy_S) := Nat.rec (fun _ _ => none) (fun _ k21 => zyF37_21b k21) n
theorem zyC37_21 {X : zx_X}     : ∀ (n : Nat) (x1 : Int32) (s : zy_S) (r : Int32) (s' : zy_S), zyF37_21 n x1 s = some (r, s') → zyR X 104 37 21 [some (.ref (9 + 3)), some (.int x1)] [] s (zyE (some (.int r)) s')
  | 0, _ => by
    intro s r s'  h
    have h : (none : Option (Int32 × zy_S)) = some (r, s') := h
    cases h
  | n + 1, x1 => by
    intro s r s'  h
    exact zyC37_21b (k21 := zyF37_21 n) (fun x1 s r s'  h => zyC37_21  n x1 s r s'  h) h
noncomputable def zyF37    (s : zy_S) : Option (Int32 × zy_S) :=
(zyF38 (zy_up (zy_up (zy_up s 9 4 (0 : Int32)) 9 3 (0 : Int32)) 9 5 (0 : Int32))).bind fun p7 =>
zyF37_21 zy_fu (0 : Int32) p7.2
theorem zyC37 {X : zx_X}      {s : zy_S} {r : Int32} {s' : zy_S}  (h : zyF37 s = some (r, s')) : zyR X 104 37 0 [some (.ref (9 + 3)), none] [] s (zyE (some (.int r)) s') := by
  unfold zyF37 at h
  refine zy_0 rfl rfl (show zyR _ _ _ _ [some (.ref (9 + 3)), none] [.ref (9 + 3)] _ _ from ?_)
  refine zy_3 rfl rfl (show zyR _ _ _ _ [some (.ref (9 + 3)), none] [.int (0 : Int32), .ref (9 + 3)] _ _ from ?_)
  refine zy_52 (c := 9) rfl rfl rfl (show zyR _ _ _ _ [some (.ref (9 + 3)), none] [] _ _ from ?_)
  refine zy_0 rfl rfl (show zyR _ _ _ _ [some (.ref (9 + 3)), none] [.ref (9 + 3)] _ _ from ?_)
  refine zy_3 rfl rfl (show zyR _ _ _ _ [some (.ref (9 + 3)), none] [.int (0 : Int32), .ref (9 + 3)] _ _ from ?_)
  refine zy_52 (c := 9) rfl rfl rfl (show zyR _ _ _ _ [some (.ref (9 + 3)), none] [] _ _ from ?_)
  refine zy_0 rfl rfl (show zyR _ _ _ _ [some (.ref (9 + 3)), none] [.ref (9 + 3)] _ _ from ?_)
  refine zy_3 rfl rfl (show zyR _ _ _ _ [some (.ref (9 + 3)), none] [.int (0 : Int32), .ref (9 + 3)] _ _ from ?_)
  refine zy_52b (c := 9) rfl rfl rfl (Or.inl rfl) (show zyR _ _ _ _ [some (.ref (9 + 3)), none] [] _ _ from ?_)
  refine zy_0 rfl rfl (show zyR _ _ _ _ [some (.ref (9 + 3)), none] [.ref (9 + 3)] _ _ from ?_)
  obtain ⟨p7, hp7, h⟩ := zy_bind h
  refine zy_5 (c := 9) (as := []) (rest := []) (L := [some (.ref (9 + 3))]) (d' := 103) rfl rfl rfl (Nat.le_of_ble_eq_true rfl) (Nat.le_of_ble_eq_true rfl) rfl (Nat.le_of_ble_eq_true rfl) rfl rfl (zyC38 hp7) ?_
  show zyR _ _ _ _ [some (.ref (9 + 3)), none] [] _ _
  refine zy_3 rfl rfl (show zyR _ _ _ _ [some (.ref (9 + 3)), none] [.int (0 : Int32)] _ _ from ?_)
  refine zy_23 rfl rfl (show zyR _ _ _ _ [some (.ref (9 + 3)), some (.int (0 : Int32))] [] _ _ from ?_)
  exact zy_sub (show zy_le [some (.ref (9 + 3)), some (.int (0 : Int32))] [some (.ref (9 + 3)), some (.int (0 : Int32))] from ⟨rfl, ⟨rfl, trivial⟩⟩) (zyC37_21 zy_fu (0 : Int32) p7.2 _ _ h)
noncomputable def zyF48   (x2 : Int32) (s : zy_S) : Option (Int32 × zy_S) :=
if zy_cpB (0 : Int32) (0 : Int32) x2 128 128 then
some ((0 : Int32), (zy_up (zy_ua s 6 (va_cpy (s.1 11) (s.1 6) 0 0 (x2).toNatClampNeg)) 5 3 x2))
else none
theorem zyC48 {X : zx_X}     {x2 : Int32} {s : zy_S} {r : Int32} {s' : zy_S}  (h : zyF48 x2 s = some (r, s')) : zyR X 1 48 0 [some (.ref (5 + 3)), some (.ref (11 + 3)), some (.int x2)] [] s (zyE none s') := by
  unfold zyF48 at h
  refine zy_0 rfl rfl (show zyR _ _ _ _ [some (.ref (5 + 3)), some (.ref (11 + 3)), some (.int x2)] [.ref (11 + 3)] _ _ from ?_)
  refine zy_3 rfl rfl (show zyR _ _ _ _ [some (.ref (5 + 3)), some (.ref (11 + 3)), some (.int x2)] [.int (0 : Int32), .ref (11 + 3)] _ _ from ?_)
  refine zy_0 rfl rfl (show zyR _ _ _ _ [some (.ref (5 + 3)), some (.ref (11 + 3)), some (.int x2)] [.ref (5 + 3), .int (0 : Int32), .ref (11 + 3)] _ _ from ?_)
  refine zy_1r (c := 5) rfl rfl rfl (show zyR _ _ _ _ [some (.ref (5 + 3)), some (.ref (11 + 3)), some (.int x2)] [.ref (6 + 3), .int (0 : Int32), .ref (11 + 3)] _ _ from ?_)
  refine zy_3 rfl rfl (show zyR _ _ _ _ [some (.ref (5 + 3)), some (.ref (11 + 3)), some (.int x2)] [.int (0 : Int32), .ref (6 + 3), .int (0 : Int32), .ref (11 + 3)] _ _ from ?_)
  refine zy_2 rfl rfl (show zyR _ _ _ _ [some (.ref (5 + 3)), some (.ref (11 + 3)), some (.int x2)] [.int x2, .int (0 : Int32), .ref (6 + 3), .int (0 : Int32), .ref (11 + 3)] _ _ from ?_)
  obtain ⟨c1, h⟩ := zy_if h
  refine zy_64 (c0 := 11) (c1 := 6) rfl rfl rfl c1 (Nat.le_of_ble_eq_true rfl) (Nat.le_of_ble_eq_true rfl) (show zyR _ _ _ _ [some (.ref (5 + 3)), some (.ref (11 + 3)), some (.int x2)] [] _ _ from ?_)
  refine zy_0 rfl rfl (show zyR _ _ _ _ [some (.ref (5 + 3)), some (.ref (11 + 3)), some (.int x2)] [.ref (5 + 3)] _ _ from ?_)
  refine zy_2 rfl rfl (show zyR _ _ _ _ [some (.ref (5 + 3)), some (.ref (11 + 3)), some (.int x2)] [.int x2, .ref (5 + 3)] _ _ from ?_)
  refine zy_52 (c := 5) rfl rfl rfl (show zyR _ _ _ _ [some (.ref (5 + 3)), some (.ref (11 + 3)), some (.int x2)] [] _ _ from ?_)
  cases h
  exact zy_66 rfl ⟨rfl, rfl⟩
noncomputable def zyF49    (s : zy_S) : Option (Int32 × zy_S) :=
some ((0 : Int32), (zy_up s 9 2 (0 : Int32)))
theorem zyC49 {X : zx_X}      {s : zy_S} {r : Int32} {s' : zy_S}  (h : zyF49 s = some (r, s')) : zyR X 1 49 0 [some (.ref (9 + 3))] [] s (zyE none s') := by
  unfold zyF49 at h
  refine zy_0 rfl rfl (show zyR _ _ _ _ [some (.ref (9 + 3))] [.ref (9 + 3)] _ _ from ?_)
  refine zy_3 rfl rfl (show zyR _ _ _ _ [some (.ref (9 + 3))] [.int (0 : Int32), .ref (9 + 3)] _ _ from ?_)
  refine zy_52 (c := 9) rfl rfl rfl (show zyR _ _ _ _ [some (.ref (9 + 3))] [] _ _ from ?_)
  cases h
  exact zy_66 rfl ⟨rfl, rfl⟩
noncomputable def zyF36_34   (x1 : Int32) (s : zy_S) : Option (Int32 × zy_S) :=
(zyF49 s).bind fun p1 =>
if x1 ≠ (-1 : Int32) then
some (((-100 : Int32) - x1), p1.2)
else
some ((1 : Int32), p1.2)
theorem zyC36_34 {X : zx_X}     {x1 : Int32} {s : zy_S} {r : Int32} {s' : zy_S}  (h : zyF36_34 x1 s = some (r, s')) : zyR X 105 36 34 [some (.ref (0 + 3)), some (.int x1)] [] s (zyE (some (.int r)) s') := by
  unfold zyF36_34 at h
  refine zy_0 rfl rfl (show zyR _ _ _ _ [some (.ref (0 + 3)), some (.int x1)] [.ref (0 + 3)] _ _ from ?_)
  refine zy_1r (c := 0) rfl rfl rfl (show zyR _ _ _ _ [some (.ref (0 + 3)), some (.int x1)] [.ref (9 + 3)] _ _ from ?_)
  obtain ⟨p1, hp1, h⟩ := zy_bind h
  refine zy_5 (c := 9) (as := []) (rest := []) (L := [some (.ref (9 + 3))]) (d' := 1) rfl rfl rfl (Nat.le_of_ble_eq_true rfl) (Nat.le_of_ble_eq_true rfl) rfl (Nat.le_of_ble_eq_true rfl) rfl rfl (zyC49 hp1) ?_
  show zyR _ _ _ _ [some (.ref (0 + 3)), some (.int x1)] [] _ _
  refine zy_2 rfl rfl (show zyR _ _ _ _ [some (.ref (0 + 3)), some (.int x1)] [.int x1] _ _ from ?_)
  refine zy_3 rfl rfl (show zyR _ _ _ _ [some (.ref (0 + 3)), some (.int x1)] [.int (-1 : Int32), .int x1] _ _ from ?_)
  refine zy_25_1 rfl (fun b2 => (show zyR _ _ _ _ [some (.ref (0 + 3)), some (.int x1)] [] _ _ from ?_)) (fun b2 => (show zyR _ _ _ _ [some (.ref (0 + 3)), some (.int x1)] [] _ _ from ?_))
  · replace h := zy_ifp h b2
    refine zy_3 rfl rfl (show zyR _ _ _ _ [some (.ref (0 + 3)), some (.int x1)] [.int (-100 : Int32)] _ _ from ?_)
    refine zy_2 rfl rfl (show zyR _ _ _ _ [some (.ref (0 + 3)), some (.int x1)] [.int x1, .int (-100 : Int32)] _ _ from ?_)
    refine zy_11 rfl (show zyR _ _ _ _ [some (.ref (0 + 3)), some (.int x1)] [.int ((-100 : Int32) - x1)] _ _ from ?_)
    obtain ⟨rfl, rfl⟩ := zy_pi h
    exact zy_4 rfl ⟨rfl, rfl⟩
  · replace h := zy_ifn h b2
    refine zy_3 rfl rfl (show zyR _ _ _ _ [some (.ref (0 + 3)), some (.int x1)] [.int (1 : Int32)] _ _ from ?_)
    refine zy_6 rfl (show zyR _ _ _ _ [some (.ref (0 + 3)), some (.int x1)] [.int (1 : Int32)] _ _ from ?_)
    obtain ⟨rfl, rfl⟩ := zy_pi h
    exact zy_4 rfl ⟨rfl, rfl⟩
noncomputable def zyF36    (s : zy_S) : Option (Int32 × zy_S) :=
(zyF37 s).bind fun p3 =>
if p3.1 ≠ (-1 : Int32) then
zyF36_34 p3.1 p3.2
else
(zyF48 (p3.2.1 9 3) p3.2).bind fun p4 =>
zyF36_34 p3.1 p4.2
theorem zyC36 {X : zx_X}      {s : zy_S} {r : Int32} {s' : zy_S}  (h : zyF36 s = some (r, s')) : zyR X 105 36 0 [some (.ref (0 + 3)), none] [] s (zyE (some (.int r)) s') := by
  unfold zyF36 at h
  refine zy_0 rfl rfl (show zyR _ _ _ _ [some (.ref (0 + 3)), none] [.ref (0 + 3)] _ _ from ?_)
  refine zy_1r (c := 0) rfl rfl rfl (show zyR _ _ _ _ [some (.ref (0 + 3)), none] [.ref (9 + 3)] _ _ from ?_)
  obtain ⟨p3, hp3, h⟩ := zy_bind h
  refine zy_5 (c := 9) (as := []) (rest := []) (L := [some (.ref (9 + 3)), none]) (d' := 104) rfl rfl rfl (Nat.le_of_ble_eq_true rfl) (Nat.le_of_ble_eq_true rfl) rfl (Nat.le_of_ble_eq_true rfl) rfl rfl (zyC37 hp3) ?_
  show zyR _ _ _ _ [some (.ref (0 + 3)), none] [.int p3.1] _ _
  refine zy_23 rfl rfl (show zyR _ _ _ _ [some (.ref (0 + 3)), some (.int p3.1)] [] _ _ from ?_)
  refine zy_2 rfl rfl (show zyR _ _ _ _ [some (.ref (0 + 3)), some (.int p3.1)] [.int p3.1] _ _ from ?_)
  refine zy_3 rfl rfl (show zyR _ _ _ _ [some (.ref (0 + 3)), some (.int p3.1)] [.int (-1 : Int32), .int p3.1] _ _ from ?_)
  refine zy_25_1 rfl (fun b5 => (show zyR _ _ _ _ [some (.ref (0 + 3)), some (.int p3.1)] [] _ _ from ?_)) (fun b5 => (show zyR _ _ _ _ [some (.ref (0 + 3)), some (.int p3.1)] [] _ _ from ?_))
  · replace h := zy_ifp h b5
    exact zy_sub (show zy_le [some (.ref (0 + 3)), some (.int p3.1)] [some (.ref (0 + 3)), some (.int p3.1)] from ⟨rfl, ⟨rfl, trivial⟩⟩) (zyC36_34 h)
  · replace h := zy_ifn h b5
    refine zy_0 rfl rfl (show zyR _ _ _ _ [some (.ref (0 + 3)), some (.int p3.1)] [.ref (0 + 3)] _ _ from ?_)
    refine zy_1r (c := 0) rfl rfl rfl (show zyR _ _ _ _ [some (.ref (0 + 3)), some (.int p3.1)] [.ref (5 + 3)] _ _ from ?_)
    refine zy_0 rfl rfl (show zyR _ _ _ _ [some (.ref (0 + 3)), some (.int p3.1)] [.ref (0 + 3), .ref (5 + 3)] _ _ from ?_)
    refine zy_1r (c := 0) rfl rfl rfl (show zyR _ _ _ _ [some (.ref (0 + 3)), some (.int p3.1)] [.ref (9 + 3), .ref (5 + 3)] _ _ from ?_)
    refine zy_1r (c := 9) rfl rfl rfl (show zyR _ _ _ _ [some (.ref (0 + 3)), some (.int p3.1)] [.ref (11 + 3), .ref (5 + 3)] _ _ from ?_)
    refine zy_0 rfl rfl (show zyR _ _ _ _ [some (.ref (0 + 3)), some (.int p3.1)] [.ref (0 + 3), .ref (11 + 3), .ref (5 + 3)] _ _ from ?_)
    refine zy_1r (c := 0) rfl rfl rfl (show zyR _ _ _ _ [some (.ref (0 + 3)), some (.int p3.1)] [.ref (9 + 3), .ref (11 + 3), .ref (5 + 3)] _ _ from ?_)
    refine zy_1 (c := 9) rfl rfl rfl (show zyR _ _ _ _ [some (.ref (0 + 3)), some (.int p3.1)] [.int (p3.2.1 9 3), .ref (11 + 3), .ref (5 + 3)] _ _ from ?_)
    obtain ⟨p4, hp4, h⟩ := zy_bind h
    refine zy_5 (c := 5) (as := [.ref (11 + 3), .int (p3.2.1 9 3)]) (rest := []) (L := [some (.ref (5 + 3)), some (.ref (11 + 3)), some (.int (p3.2.1 9 3))]) (d' := 1) rfl rfl rfl (Nat.le_of_ble_eq_true rfl) (Nat.le_of_ble_eq_true rfl) rfl (Nat.le_of_ble_eq_true rfl) rfl rfl (zyC48 hp4) ?_
    show zyR _ _ _ _ [some (.ref (0 + 3)), some (.int p3.1)] [] _ _
    exact zy_sub (show zy_le [some (.ref (0 + 3)), some (.int p3.1)] [some (.ref (0 + 3)), some (.int p3.1)] from ⟨rfl, ⟨rfl, trivial⟩⟩) (zyC36_34 h)
noncomputable def zyF198    (s : zy_S) : Option (Int32 × zy_S) :=
if (s.1 43 14) ≤ (s.1 43 13) then
some ((0 : Int32), s)
else
if 0 ≤ (s.1 43 12) then
if zy_in ((s.1 43 12) + (s.1 43 13)) 120 then
some ((s.1 49 (((s.1 43 12) + (s.1 43 13))).toNatClampNeg), s)
else none
else
if zy_in (s.1 43 13) 120 then
some ((s.1 48 ((s.1 43 13)).toNatClampNeg), s)
else none
theorem zyC198 {X : zx_X}      {s : zy_S} {r : Int32} {s' : zy_S}  (h : zyF198 s = some (r, s')) : zyR X 1 198 0 [some (.ref (43 + 3))] [] s (zyE (some (.int r)) s') := by
  unfold zyF198 at h
  refine zy_0 rfl rfl (show zyR _ _ _ _ [some (.ref (43 + 3))] [.ref (43 + 3)] _ _ from ?_)
  refine zy_1 (c := 43) rfl rfl rfl (show zyR _ _ _ _ [some (.ref (43 + 3))] [.int (s.1 43 13)] _ _ from ?_)
  refine zy_0 rfl rfl (show zyR _ _ _ _ [some (.ref (43 + 3))] [.ref (43 + 3), .int (s.1 43 13)] _ _ from ?_)
  refine zy_1 (c := 43) rfl rfl rfl (show zyR _ _ _ _ [some (.ref (43 + 3))] [.int (s.1 43 14), .int (s.1 43 13)] _ _ from ?_)
  refine zy_25_3 rfl (fun b4 => (show zyR _ _ _ _ [some (.ref (43 + 3))] [] _ _ from ?_)) (fun b4 => (show zyR _ _ _ _ [some (.ref (43 + 3))] [] _ _ from ?_))
  · replace h := zy_ifp h b4
    refine zy_3 rfl rfl (show zyR _ _ _ _ [some (.ref (43 + 3))] [.int (0 : Int32)] _ _ from ?_)
    obtain ⟨rfl, rfl⟩ := zy_pi h
    exact zy_4 rfl ⟨rfl, rfl⟩
  · replace h := zy_ifn h b4
    refine zy_0 rfl rfl (show zyR _ _ _ _ [some (.ref (43 + 3))] [.ref (43 + 3)] _ _ from ?_)
    refine zy_1 (c := 43) rfl rfl rfl (show zyR _ _ _ _ [some (.ref (43 + 3))] [.int (s.1 43 12)] _ _ from ?_)
    refine zy_24_3 rfl (fun b3 => (show zyR _ _ _ _ [some (.ref (43 + 3))] [] _ _ from ?_)) (fun b3 => (show zyR _ _ _ _ [some (.ref (43 + 3))] [] _ _ from ?_))
    · replace h := zy_ifp h b3
      refine zy_0 rfl rfl (show zyR _ _ _ _ [some (.ref (43 + 3))] [.ref (43 + 3)] _ _ from ?_)
      refine zy_1r (c := 43) rfl rfl rfl (show zyR _ _ _ _ [some (.ref (43 + 3))] [.ref (49 + 3)] _ _ from ?_)
      refine zy_0 rfl rfl (show zyR _ _ _ _ [some (.ref (43 + 3))] [.ref (43 + 3), .ref (49 + 3)] _ _ from ?_)
      refine zy_1 (c := 43) rfl rfl rfl (show zyR _ _ _ _ [some (.ref (43 + 3))] [.int (s.1 43 12), .ref (49 + 3)] _ _ from ?_)
      refine zy_0 rfl rfl (show zyR _ _ _ _ [some (.ref (43 + 3))] [.ref (43 + 3), .int (s.1 43 12), .ref (49 + 3)] _ _ from ?_)
      refine zy_1 (c := 43) rfl rfl rfl (show zyR _ _ _ _ [some (.ref (43 + 3))] [.int (s.1 43 13), .int (s.1 43 12), .ref (49 + 3)] _ _ from ?_)
      refine zy_10 rfl (show zyR _ _ _ _ [some (.ref (43 + 3))] [.int ((s.1 43 12) + (s.1 43 13)), .ref (49 + 3)] _ _ from ?_)
      obtain ⟨c1, h⟩ := zy_if h
      refine zy_26 (c := 49) rfl rfl c1 (show zyR _ _ _ _ [some (.ref (43 + 3))] [.int (s.1 49 (((s.1 43 12) + (s.1 43 13))).toNatClampNeg)] _ _ from ?_)
      refine zy_6 rfl (show zyR _ _ _ _ [some (.ref (43 + 3))] [.int (s.1 49 (((s.1 43 12) + (s.1 43 13))).toNatClampNeg)] _ _ from ?_)
      obtain ⟨rfl, rfl⟩ := zy_pi h
      exact zy_4 rfl ⟨rfl, rfl⟩
    · replace h := zy_ifn h b3
      refine zy_0 rfl rfl (show zyR _ _ _ _ [some (.ref (43 + 3))] [.ref (43 + 3)] _ _ from ?_)
      refine zy_1r (c := 43) rfl rfl rfl (show zyR _ _ _ _ [some (.ref (43 + 3))] [.ref (48 + 3)] _ _ from ?_)
      refine zy_0 rfl rfl (show zyR _ _ _ _ [some (.ref (43 + 3))] [.ref (43 + 3), .ref (48 + 3)] _ _ from ?_)
      refine zy_1 (c := 43) rfl rfl rfl (show zyR _ _ _ _ [some (.ref (43 + 3))] [.int (s.1 43 13), .ref (48 + 3)] _ _ from ?_)
      obtain ⟨c2, h⟩ := zy_if h
      refine zy_26 (c := 48) rfl rfl c2 (show zyR _ _ _ _ [some (.ref (43 + 3))] [.int (s.1 48 ((s.1 43 13)).toNatClampNeg)] _ _ from ?_)
      refine zy_6 rfl (show zyR _ _ _ _ [some (.ref (43 + 3))] [.int (s.1 48 ((s.1 43 13)).toNatClampNeg)] _ _ from ?_)
      obtain ⟨rfl, rfl⟩ := zy_pi h
      exact zy_4 rfl ⟨rfl, rfl⟩
noncomputable def zyF200   (x1 : Int32) (s : zy_S) : Option (Int32 × zy_S) :=
if 0 ≤ (s.1 43 15) then
some ((0 : Int32), s)
else
(zyF198 s).bind fun p1 =>
if p1.1 = x1 then
some ((1 : Int32), (zy_up p1.2 43 13 ((p1.2.1 43 13) + (1 : Int32))))
else
some ((0 : Int32), p1.2)
theorem zyC200 {X : zx_X}     {x1 : Int32} {s : zy_S} {r : Int32} {s' : zy_S}  (h : zyF200 x1 s = some (r, s')) : zyR X 2 200 0 [some (.ref (43 + 3)), some (.int x1)] [] s (zyE (some (.int r)) s') := by
  unfold zyF200 at h
  refine zy_0 rfl rfl (show zyR _ _ _ _ [some (.ref (43 + 3)), some (.int x1)] [.ref (43 + 3)] _ _ from ?_)
  refine zy_1 (c := 43) rfl rfl rfl (show zyR _ _ _ _ [some (.ref (43 + 3)), some (.int x1)] [.int (s.1 43 15)] _ _ from ?_)
  refine zy_24_3 rfl (fun b3 => (show zyR _ _ _ _ [some (.ref (43 + 3)), some (.int x1)] [] _ _ from ?_)) (fun b3 => (show zyR _ _ _ _ [some (.ref (43 + 3)), some (.int x1)] [] _ _ from ?_))
  · replace h := zy_ifp h b3
    refine zy_3 rfl rfl (show zyR _ _ _ _ [some (.ref (43 + 3)), some (.int x1)] [.int (0 : Int32)] _ _ from ?_)
    cases h
    exact zy_4b rfl ⟨rfl, rfl⟩ (Or.inl rfl)
  · replace h := zy_ifn h b3
    refine zy_0 rfl rfl (show zyR _ _ _ _ [some (.ref (43 + 3)), some (.int x1)] [.ref (43 + 3)] _ _ from ?_)
    obtain ⟨p1, hp1, h⟩ := zy_bind h
    refine zy_5 (c := 43) (as := []) (rest := []) (L := [some (.ref (43 + 3))]) (d' := 1) rfl rfl rfl (Nat.le_of_ble_eq_true rfl) (Nat.le_of_ble_eq_true rfl) rfl (Nat.le_of_ble_eq_true rfl) rfl rfl (zyC198 hp1) ?_
    show zyR _ _ _ _ [some (.ref (43 + 3)), some (.int x1)] [.int p1.1] _ _
    refine zy_2 rfl rfl (show zyR _ _ _ _ [some (.ref (43 + 3)), some (.int x1)] [.int x1, .int p1.1] _ _ from ?_)
    refine zy_25_0 rfl (fun b2 => (show zyR _ _ _ _ [some (.ref (43 + 3)), some (.int x1)] [] _ _ from ?_)) (fun b2 => (show zyR _ _ _ _ [some (.ref (43 + 3)), some (.int x1)] [] _ _ from ?_))
    · replace h := zy_ifp h b2
      refine zy_0 rfl rfl (show zyR _ _ _ _ [some (.ref (43 + 3)), some (.int x1)] [.ref (43 + 3)] _ _ from ?_)
      refine zy_33 rfl rfl (show zyR _ _ _ _ [some (.ref (43 + 3)), some (.int x1)] [.ref (43 + 3), .ref (43 + 3)] _ _ from ?_)
      refine zy_1 (c := 43) rfl rfl rfl (show zyR _ _ _ _ [some (.ref (43 + 3)), some (.int x1)] [.int (p1.2.1 43 13), .ref (43 + 3)] _ _ from ?_)
      refine zy_3 rfl rfl (show zyR _ _ _ _ [some (.ref (43 + 3)), some (.int x1)] [.int (1 : Int32), .int (p1.2.1 43 13), .ref (43 + 3)] _ _ from ?_)
      refine zy_10 rfl (show zyR _ _ _ _ [some (.ref (43 + 3)), some (.int x1)] [.int ((p1.2.1 43 13) + (1 : Int32)), .ref (43 + 3)] _ _ from ?_)
      refine zy_52 (c := 43) rfl rfl rfl (show zyR _ _ _ _ [some (.ref (43 + 3)), some (.int x1)] [] _ _ from ?_)
      refine zy_3 rfl rfl (show zyR _ _ _ _ [some (.ref (43 + 3)), some (.int x1)] [.int (1 : Int32)] _ _ from ?_)
      cases h
      exact zy_4b rfl ⟨rfl, rfl⟩ (Or.inr rfl)
    · replace h := zy_ifn h b2
      refine zy_3 rfl rfl (show zyR _ _ _ _ [some (.ref (43 + 3)), some (.int x1)] [.int (0 : Int32)] _ _ from ?_)
      cases h
      exact zy_4b rfl ⟨rfl, rfl⟩ (Or.inl rfl)
noncomputable def zyF199_19   (y0 : Int32) (s : zy_S) : Option (Int32 × zy_S) :=
some ((0 : Int32), (zy_up s 43 15 y0))
theorem zyC199_19 {X : zx_X}     {y0 : Int32} {s : zy_S} {r : Int32} {s' : zy_S}  (h : zyF199_19 y0 s = some (r, s')) : zyR X 1 199 19 [none] [.int y0, .ref (43 + 3)] s (zyE (some (.int r)) s') := by
  unfold zyF199_19 at h
  refine zy_52 (c := 43) rfl rfl rfl (show zyR _ _ _ _ [none] [] _ _ from ?_)
  refine zy_3 rfl rfl (show zyR _ _ _ _ [none] [.int (0 : Int32)] _ _ from ?_)
  obtain ⟨rfl, rfl⟩ := zy_pi h
  exact zy_4 rfl ⟨rfl, rfl⟩
noncomputable def zyF199    (s : zy_S) : Option (Int32 × zy_S) :=
if 0 ≤ (s.1 43 15) then
zyF199_19 (s.1 43 15) s
else
zyF199_19 (s.1 43 13) s
theorem zyC199 {X : zx_X}      {s : zy_S} {r : Int32} {s' : zy_S}  (h : zyF199 s = some (r, s')) : zyR X 1 199 0 [some (.ref (43 + 3))] [] s (zyE (some (.int r)) s') := by
  unfold zyF199 at h
  refine zy_0 rfl rfl (show zyR _ _ _ _ [some (.ref (43 + 3))] [.ref (43 + 3)] _ _ from ?_)
  refine zy_0 rfl rfl (show zyR _ _ _ _ [some (.ref (43 + 3))] [.ref (43 + 3), .ref (43 + 3)] _ _ from ?_)
  refine zy_1 (c := 43) rfl rfl rfl (show zyR _ _ _ _ [some (.ref (43 + 3))] [.int (s.1 43 15), .ref (43 + 3)] _ _ from ?_)
  refine zy_24_3 rfl (fun b1 => (show zyR _ _ _ _ [some (.ref (43 + 3))] [.ref (43 + 3)] _ _ from ?_)) (fun b1 => (show zyR _ _ _ _ [some (.ref (43 + 3))] [.ref (43 + 3)] _ _ from ?_))
  · replace h := zy_ifp h b1
    refine zy_0 rfl rfl (show zyR _ _ _ _ [some (.ref (43 + 3))] [.ref (43 + 3), .ref (43 + 3)] _ _ from ?_)
    refine zy_1 (c := 43) rfl rfl rfl (show zyR _ _ _ _ [some (.ref (43 + 3))] [.int (s.1 43 15), .ref (43 + 3)] _ _ from ?_)
    exact zy_sub (show zy_le [none] [some (.ref (43 + 3))] from trivial) (zyC199_19 h)
  · replace h := zy_ifn h b1
    refine zy_0 rfl rfl (show zyR _ _ _ _ [some (.ref (43 + 3))] [.ref (43 + 3), .ref (43 + 3)] _ _ from ?_)
    refine zy_1 (c := 43) rfl rfl rfl (show zyR _ _ _ _ [some (.ref (43 + 3))] [.int (s.1 43 13), .ref (43 + 3)] _ _ from ?_)
    refine zy_6 rfl (show zyR _ _ _ _ [some (.ref (43 + 3))] [.int (s.1 43 13), .ref (43 + 3)] _ _ from ?_)
    exact zy_sub (show zy_le [none] [some (.ref (43 + 3))] from trivial) (zyC199_19 h)
noncomputable def zyF201   (x0 : Int32) (s : zy_S) : Option (Int32 × zy_S) :=
if x0 = (100 : Int32) then
some ((0 : Int32), s)
else
if x0 = (101 : Int32) then
some ((-1 : Int32), s)
else
if x0 = (102 : Int32) then
some ((-1 : Int32), s)
else
if x0 = (103 : Int32) then
some ((-1 : Int32), s)
else
if x0 = (104 : Int32) then
some ((-1 : Int32), s)
else
if x0 = (105 : Int32) then
some ((-1 : Int32), s)
else
if x0 = (106 : Int32) then
some ((-1 : Int32), s)
else
if x0 = (107 : Int32) then
some ((4 : Int32), s)
else
if x0 = (108 : Int32) then
some ((-1 : Int32), s)
else
if x0 = (109 : Int32) then
some ((2 : Int32), s)
else
if x0 = (110 : Int32) then
some ((-1 : Int32), s)
else
if x0 = (111 : Int32) then
some ((-1 : Int32), s)
else
if x0 = (112 : Int32) then
some ((-1 : Int32), s)
else
if x0 = (113 : Int32) then
some ((-1 : Int32), s)
else
if x0 = (114 : Int32) then
some ((-1 : Int32), s)
else
if x0 = (115 : Int32) then
some ((1 : Int32), s)
else
if x0 = (116 : Int32) then
some ((-1 : Int32), s)
else
if x0 = (117 : Int32) then
some ((-1 : Int32), s)
else
if x0 = (118 : Int32) then
some ((5 : Int32), s)
else
if x0 = (119 : Int32) then
some ((3 : Int32), s)
else
some ((-1 : Int32), s)
theorem zyC201 {X : zx_X}     {x0 : Int32} {s : zy_S} {r : Int32} {s' : zy_S}  (h : zyF201 x0 s = some (r, s')) : zyR X 1 201 0 [some (.int x0)] [] s (zyE (some (.int r)) s') := by
  unfold zyF201 at h
  refine zy_2 rfl rfl (show zyR _ _ _ _ [some (.int x0)] [.int x0] _ _ from ?_)
  refine zy_50 rfl (by decide) ?_
  refine zy_swp (fun b1 => (show zyR _ _ _ _ [some (.int x0)] [] _ _ from ?_)) (fun b1 => ?_)
  · replace h := zy_ifp h b1
    refine zy_3 rfl rfl (show zyR _ _ _ _ [some (.int x0)] [.int (0 : Int32)] _ _ from ?_)
    obtain ⟨rfl, rfl⟩ := zy_pi h
    exact zy_4 rfl ⟨rfl, rfl⟩
  replace h := zy_ifn h b1
  refine zy_swp (fun b2 => (show zyR _ _ _ _ [some (.int x0)] [] _ _ from ?_)) (fun b2 => ?_)
  · replace h := zy_ifp h b2
    refine zy_3 rfl rfl (show zyR _ _ _ _ [some (.int x0)] [.int (-1 : Int32)] _ _ from ?_)
    obtain ⟨rfl, rfl⟩ := zy_pi h
    exact zy_4 rfl ⟨rfl, rfl⟩
  replace h := zy_ifn h b2
  refine zy_swp (fun b3 => (show zyR _ _ _ _ [some (.int x0)] [] _ _ from ?_)) (fun b3 => ?_)
  · replace h := zy_ifp h b3
    refine zy_3 rfl rfl (show zyR _ _ _ _ [some (.int x0)] [.int (-1 : Int32)] _ _ from ?_)
    obtain ⟨rfl, rfl⟩ := zy_pi h
    exact zy_4 rfl ⟨rfl, rfl⟩
  replace h := zy_ifn h b3
  refine zy_swp (fun b4 => (show zyR _ _ _ _ [some (.int x0)] [] _ _ from ?_)) (fun b4 => ?_)
  · replace h := zy_ifp h b4
    refine zy_3 rfl rfl (show zyR _ _ _ _ [some (.int x0)] [.int (-1 : Int32)] _ _ from ?_)
    obtain ⟨rfl, rfl⟩ := zy_pi h
    exact zy_4 rfl ⟨rfl, rfl⟩
  replace h := zy_ifn h b4
  refine zy_swp (fun b5 => (show zyR _ _ _ _ [some (.int x0)] [] _ _ from ?_)) (fun b5 => ?_)
  · replace h := zy_ifp h b5
    refine zy_3 rfl rfl (show zyR _ _ _ _ [some (.int x0)] [.int (-1 : Int32)] _ _ from ?_)
    obtain ⟨rfl, rfl⟩ := zy_pi h
    exact zy_4 rfl ⟨rfl, rfl⟩
  replace h := zy_ifn h b5
  refine zy_swp (fun b6 => (show zyR _ _ _ _ [some (.int x0)] [] _ _ from ?_)) (fun b6 => ?_)
  · replace h := zy_ifp h b6
    refine zy_3 rfl rfl (show zyR _ _ _ _ [some (.int x0)] [.int (-1 : Int32)] _ _ from ?_)
    obtain ⟨rfl, rfl⟩ := zy_pi h
    exact zy_4 rfl ⟨rfl, rfl⟩
  replace h := zy_ifn h b6
  refine zy_swp (fun b7 => (show zyR _ _ _ _ [some (.int x0)] [] _ _ from ?_)) (fun b7 => ?_)
  · replace h := zy_ifp h b7
    refine zy_3 rfl rfl (show zyR _ _ _ _ [some (.int x0)] [.int (-1 : Int32)] _ _ from ?_)
    obtain ⟨rfl, rfl⟩ := zy_pi h
    exact zy_4 rfl ⟨rfl, rfl⟩
  replace h := zy_ifn h b7
  refine zy_swp (fun b8 => (show zyR _ _ _ _ [some (.int x0)] [] _ _ from ?_)) (fun b8 => ?_)
  · replace h := zy_ifp h b8
    refine zy_3 rfl rfl (show zyR _ _ _ _ [some (.int x0)] [.int (4 : Int32)] _ _ from ?_)
    obtain ⟨rfl, rfl⟩ := zy_pi h
    exact zy_4 rfl ⟨rfl, rfl⟩
  replace h := zy_ifn h b8
  refine zy_swp (fun b9 => (show zyR _ _ _ _ [some (.int x0)] [] _ _ from ?_)) (fun b9 => ?_)
  · replace h := zy_ifp h b9
    refine zy_3 rfl rfl (show zyR _ _ _ _ [some (.int x0)] [.int (-1 : Int32)] _ _ from ?_)
    obtain ⟨rfl, rfl⟩ := zy_pi h
    exact zy_4 rfl ⟨rfl, rfl⟩
  replace h := zy_ifn h b9
  refine zy_swp (fun b10 => (show zyR _ _ _ _ [some (.int x0)] [] _ _ from ?_)) (fun b10 => ?_)
  · replace h := zy_ifp h b10
    refine zy_3 rfl rfl (show zyR _ _ _ _ [some (.int x0)] [.int (2 : Int32)] _ _ from ?_)
    obtain ⟨rfl, rfl⟩ := zy_pi h
    exact zy_4 rfl ⟨rfl, rfl⟩
  replace h := zy_ifn h b10
  refine zy_swp (fun b11 => (show zyR _ _ _ _ [some (.int x0)] [] _ _ from ?_)) (fun b11 => ?_)
  · replace h := zy_ifp h b11
    refine zy_3 rfl rfl (show zyR _ _ _ _ [some (.int x0)] [.int (-1 : Int32)] _ _ from ?_)
    obtain ⟨rfl, rfl⟩ := zy_pi h
    exact zy_4 rfl ⟨rfl, rfl⟩
  replace h := zy_ifn h b11
  refine zy_swp (fun b12 => (show zyR _ _ _ _ [some (.int x0)] [] _ _ from ?_)) (fun b12 => ?_)
  · replace h := zy_ifp h b12
    refine zy_3 rfl rfl (show zyR _ _ _ _ [some (.int x0)] [.int (-1 : Int32)] _ _ from ?_)
    obtain ⟨rfl, rfl⟩ := zy_pi h
    exact zy_4 rfl ⟨rfl, rfl⟩
  replace h := zy_ifn h b12
  refine zy_swp (fun b13 => (show zyR _ _ _ _ [some (.int x0)] [] _ _ from ?_)) (fun b13 => ?_)
  · replace h := zy_ifp h b13
    refine zy_3 rfl rfl (show zyR _ _ _ _ [some (.int x0)] [.int (-1 : Int32)] _ _ from ?_)
    obtain ⟨rfl, rfl⟩ := zy_pi h
    exact zy_4 rfl ⟨rfl, rfl⟩
  replace h := zy_ifn h b13
  refine zy_swp (fun b14 => (show zyR _ _ _ _ [some (.int x0)] [] _ _ from ?_)) (fun b14 => ?_)
  · replace h := zy_ifp h b14
    refine zy_3 rfl rfl (show zyR _ _ _ _ [some (.int x0)] [.int (-1 : Int32)] _ _ from ?_)
    obtain ⟨rfl, rfl⟩ := zy_pi h
    exact zy_4 rfl ⟨rfl, rfl⟩
  replace h := zy_ifn h b14
  refine zy_swp (fun b15 => (show zyR _ _ _ _ [some (.int x0)] [] _ _ from ?_)) (fun b15 => ?_)
  · replace h := zy_ifp h b15
    refine zy_3 rfl rfl (show zyR _ _ _ _ [some (.int x0)] [.int (-1 : Int32)] _ _ from ?_)
    obtain ⟨rfl, rfl⟩ := zy_pi h
    exact zy_4 rfl ⟨rfl, rfl⟩
  replace h := zy_ifn h b15
  refine zy_swp (fun b16 => (show zyR _ _ _ _ [some (.int x0)] [] _ _ from ?_)) (fun b16 => ?_)
  · replace h := zy_ifp h b16
    refine zy_3 rfl rfl (show zyR _ _ _ _ [some (.int x0)] [.int (1 : Int32)] _ _ from ?_)
    obtain ⟨rfl, rfl⟩ := zy_pi h
    exact zy_4 rfl ⟨rfl, rfl⟩
  replace h := zy_ifn h b16
  refine zy_swp (fun b17 => (show zyR _ _ _ _ [some (.int x0)] [] _ _ from ?_)) (fun b17 => ?_)
  · replace h := zy_ifp h b17
    refine zy_3 rfl rfl (show zyR _ _ _ _ [some (.int x0)] [.int (-1 : Int32)] _ _ from ?_)
    obtain ⟨rfl, rfl⟩ := zy_pi h
    exact zy_4 rfl ⟨rfl, rfl⟩
  replace h := zy_ifn h b17
  refine zy_swp (fun b18 => (show zyR _ _ _ _ [some (.int x0)] [] _ _ from ?_)) (fun b18 => ?_)
  · replace h := zy_ifp h b18
    refine zy_3 rfl rfl (show zyR _ _ _ _ [some (.int x0)] [.int (-1 : Int32)] _ _ from ?_)
    obtain ⟨rfl, rfl⟩ := zy_pi h
    exact zy_4 rfl ⟨rfl, rfl⟩
  replace h := zy_ifn h b18
  refine zy_swp (fun b19 => (show zyR _ _ _ _ [some (.int x0)] [] _ _ from ?_)) (fun b19 => ?_)
  · replace h := zy_ifp h b19
    refine zy_3 rfl rfl (show zyR _ _ _ _ [some (.int x0)] [.int (5 : Int32)] _ _ from ?_)
    obtain ⟨rfl, rfl⟩ := zy_pi h
    exact zy_4 rfl ⟨rfl, rfl⟩
  replace h := zy_ifn h b19
  refine zy_swp (fun b20 => (show zyR _ _ _ _ [some (.int x0)] [] _ _ from ?_)) (fun b20 => ?_)
  · replace h := zy_ifp h b20
    refine zy_3 rfl rfl (show zyR _ _ _ _ [some (.int x0)] [.int (3 : Int32)] _ _ from ?_)
    obtain ⟨rfl, rfl⟩ := zy_pi h
    exact zy_4 rfl ⟨rfl, rfl⟩
  replace h := zy_ifn h b20
  show zyR _ _ _ _ [some (.int x0)] [] _ _
  refine zy_3 rfl rfl (show zyR _ _ _ _ [some (.int x0)] [.int (-1 : Int32)] _ _ from ?_)
  obtain ⟨rfl, rfl⟩ := zy_pi h
  exact zy_4 rfl ⟨rfl, rfl⟩
noncomputable def zyF192_32 (g192 : zy_S → Option (Int32 × zy_S)) (g193 : zy_S → Option (Int32 × zy_S)) (g194 : zy_S → Option (Int32 × zy_S)) (g195 : zy_S → Option (Int32 × zy_S)) (g196 : zy_S → Option (Int32 × zy_S)) (g197 : zy_S → Option (Int32 × zy_S)) (k5 : Int32 → zy_S → Option (Int32 × zy_S)) (y0 : Int32) (s : zy_S) : Option (Int32 × zy_S) :=
k5 y0 s
theorem zyC192_32 {X : zx_X} {d : Nat} {g192 : zy_S → Option (Int32 × zy_S)} {g193 : zy_S → Option (Int32 × zy_S)} {g194 : zy_S → Option (Int32 × zy_S)} {g195 : zy_S → Option (Int32 × zy_S)} {g196 : zy_S → Option (Int32 × zy_S)} {g197 : zy_S → Option (Int32 × zy_S)} {k5 : Int32 → zy_S → Option (Int32 × zy_S)} (hd : 2 ≤ d) (hg192 : ∀  (s : zy_S) (r : Int32) (s' : zy_S), g192 s = some (r, s') → zyR X d 192 0 [some (.ref (43 + 3)), none, none] [] s (zyE (some (.int r)) s')) (hg193 : ∀  (s : zy_S) (r : Int32) (s' : zy_S), g193 s = some (r, s') → zyR X d 193 0 [some (.ref (43 + 3)), none, none] [] s (zyE (some (.int r)) s')) (hg194 : ∀  (s : zy_S) (r : Int32) (s' : zy_S), g194 s = some (r, s') → zyR X d 194 0 [some (.ref (43 + 3)), none, none, none] [] s (zyE (some (.int r)) s')) (hg195 : ∀  (s : zy_S) (r : Int32) (s' : zy_S), g195 s = some (r, s') → zyR X d 195 0 [some (.ref (43 + 3)), none, none, none] [] s (zyE (some (.int r)) s')) (hg196 : ∀  (s : zy_S) (r : Int32) (s' : zy_S), g196 s = some (r, s') → zyR X d 196 0 [some (.ref (43 + 3)), none, none, none] [] s (zyE (some (.int r)) s')) (hg197 : ∀  (s : zy_S) (r : Int32) (s' : zy_S), g197 s = some (r, s') → zyR X d 197 0 [some (.ref (43 + 3)), none, none, none, none] [] s (zyE (some (.int r)) s')) (hk5 : ∀ (x1 : Int32) (s : zy_S) (r : Int32) (s' : zy_S), k5 x1 s = some (r, s') → zyR X (d + 1) 192 5 [some (.ref (43 + 3)), some (.int x1), none] [] s (zyE (some (.int r)) s')) {y0 : Int32} {s : zy_S} {r : Int32} {s' : zy_S}  (h : zyF192_32 g192 g193 g194 g195 g196 g197 k5 y0 s = some (r, s')) : zyR X (d + 1) 192 32 [some (.ref (43 + 3)), none, none] [.int y0] s (zyE (some (.int r)) s') := by
  unfold zyF192_32 at h
  refine zy_23 rfl rfl (show zyR _ _ _ _ [some (.ref (43 + 3)), some (.int y0), none] [] _ _ from ?_)
  refine zy_6 rfl (show zyR _ _ _ _ [some (.ref (43 + 3)), some (.int y0), none] [] _ _ from ?_)
  exact zy_sub (show zy_le [some (.ref (43 + 3)), some (.int y0), none] [some (.ref (43 + 3)), some (.int y0), none] from ⟨rfl, ⟨rfl, trivial⟩⟩) (hk5 y0 s _ _ h)
noncomputable def zyF192_27 (g192 : zy_S → Option (Int32 × zy_S)) (g193 : zy_S → Option (Int32 × zy_S)) (g194 : zy_S → Option (Int32 × zy_S)) (g195 : zy_S → Option (Int32 × zy_S)) (g196 : zy_S → Option (Int32 × zy_S)) (g197 : zy_S → Option (Int32 × zy_S)) (k5 : Int32 → zy_S → Option (Int32 × zy_S))  (s : zy_S) : Option (Int32 × zy_S) :=
zyF192_32 g192 g193 g194 g195 g196 g197 k5 (1 : Int32) s
theorem zyC192_27 {X : zx_X} {d : Nat} {g192 : zy_S → Option (Int32 × zy_S)} {g193 : zy_S → Option (Int32 × zy_S)} {g194 : zy_S → Option (Int32 × zy_S)} {g195 : zy_S → Option (Int32 × zy_S)} {g196 : zy_S → Option (Int32 × zy_S)} {g197 : zy_S → Option (Int32 × zy_S)} {k5 : Int32 → zy_S → Option (Int32 × zy_S)} (hd : 2 ≤ d) (hg192 : ∀  (s : zy_S) (r : Int32) (s' : zy_S), g192 s = some (r, s') → zyR X d 192 0 [some (.ref (43 + 3)), none, none] [] s (zyE (some (.int r)) s')) (hg193 : ∀  (s : zy_S) (r : Int32) (s' : zy_S), g193 s = some (r, s') → zyR X d 193 0 [some (.ref (43 + 3)), none, none] [] s (zyE (some (.int r)) s')) (hg194 : ∀  (s : zy_S) (r : Int32) (s' : zy_S), g194 s = some (r, s') → zyR X d 194 0 [some (.ref (43 + 3)), none, none, none] [] s (zyE (some (.int r)) s')) (hg195 : ∀  (s : zy_S) (r : Int32) (s' : zy_S), g195 s = some (r, s') → zyR X d 195 0 [some (.ref (43 + 3)), none, none, none] [] s (zyE (some (.int r)) s')) (hg196 : ∀  (s : zy_S) (r : Int32) (s' : zy_S), g196 s = some (r, s') → zyR X d 196 0 [some (.ref (43 + 3)), none, none, none] [] s (zyE (some (.int r)) s')) (hg197 : ∀  (s : zy_S) (r : Int32) (s' : zy_S), g197 s = some (r, s') → zyR X d 197 0 [some (.ref (43 + 3)), none, none, none, none] [] s (zyE (some (.int r)) s')) (hk5 : ∀ (x1 : Int32) (s : zy_S) (r : Int32) (s' : zy_S), k5 x1 s = some (r, s') → zyR X (d + 1) 192 5 [some (.ref (43 + 3)), some (.int x1), none] [] s (zyE (some (.int r)) s'))  {s : zy_S} {r : Int32} {s' : zy_S}  (h : zyF192_27 g192 g193 g194 g195 g196 g197 k5 s = some (r, s')) : zyR X (d + 1) 192 27 [some (.ref (43 + 3)), none, none] [] s (zyE (some (.int r)) s') := by
  unfold zyF192_27 at h
  refine zy_3 rfl rfl (show zyR _ _ _ _ [some (.ref (43 + 3)), none, none] [.int (1 : Int32)] _ _ from ?_)
  refine zy_6 rfl (show zyR _ _ _ _ [some (.ref (43 + 3)), none, none] [.int (1 : Int32)] _ _ from ?_)
  exact zy_sub (show zy_le [some (.ref (43 + 3)), none, none] [some (.ref (43 + 3)), none, none] from ⟨rfl, trivial⟩) (zyC192_32 hd hg192 hg193 hg194 hg195 hg196 hg197 hk5 h)
noncomputable def zyF192_5b (g192 : zy_S → Option (Int32 × zy_S)) (g193 : zy_S → Option (Int32 × zy_S)) (g194 : zy_S → Option (Int32 × zy_S)) (g195 : zy_S → Option (Int32 × zy_S)) (g196 : zy_S → Option (Int32 × zy_S)) (g197 : zy_S → Option (Int32 × zy_S)) (k5 : Int32 → zy_S → Option (Int32 × zy_S)) (x1 : Int32) (s : zy_S) : Option (Int32 × zy_S) :=
(zyF200 (124 : Int32) s).bind fun p1 =>
if p1.1 = 0 then
some (x1, p1.2)
else
(g193 p1.2).bind fun p2 =>
if x1 ≠ 0 then
zyF192_27 g192 g193 g194 g195 g196 g197 k5 p2.2
else
if p2.1 = 0 then
zyF192_32 g192 g193 g194 g195 g196 g197 k5 (0 : Int32) p2.2
else
zyF192_27 g192 g193 g194 g195 g196 g197 k5 p2.2
theorem zyC192_5b {X : zx_X} {d : Nat} {g192 : zy_S → Option (Int32 × zy_S)} {g193 : zy_S → Option (Int32 × zy_S)} {g194 : zy_S → Option (Int32 × zy_S)} {g195 : zy_S → Option (Int32 × zy_S)} {g196 : zy_S → Option (Int32 × zy_S)} {g197 : zy_S → Option (Int32 × zy_S)} {k5 : Int32 → zy_S → Option (Int32 × zy_S)} (hd : 2 ≤ d) (hg192 : ∀  (s : zy_S) (r : Int32) (s' : zy_S), g192 s = some (r, s') → zyR X d 192 0 [some (.ref (43 + 3)), none, none] [] s (zyE (some (.int r)) s')) (hg193 : ∀  (s : zy_S) (r : Int32) (s' : zy_S), g193 s = some (r, s') → zyR X d 193 0 [some (.ref (43 + 3)), none, none] [] s (zyE (some (.int r)) s')) (hg194 : ∀  (s : zy_S) (r : Int32) (s' : zy_S), g194 s = some (r, s') → zyR X d 194 0 [some (.ref (43 + 3)), none, none, none] [] s (zyE (some (.int r)) s')) (hg195 : ∀  (s : zy_S) (r : Int32) (s' : zy_S), g195 s = some (r, s') → zyR X d 195 0 [some (.ref (43 + 3)), none, none, none] [] s (zyE (some (.int r)) s')) (hg196 : ∀  (s : zy_S) (r : Int32) (s' : zy_S), g196 s = some (r, s') → zyR X d 196 0 [some (.ref (43 + 3)), none, none, none] [] s (zyE (some (.int r)) s')) (hg197 : ∀  (s : zy_S) (r : Int32) (s' : zy_S), g197 s = some (r, s') → zyR X d 197 0 [some (.ref (43 + 3)), none, none, none, none] [] s (zyE (some (.int r)) s')) (hk5 : ∀ (x1 : Int32) (s : zy_S) (r : Int32) (s' : zy_S), k5 x1 s = some (r, s') → zyR X (d + 1) 192 5 [some (.ref (43 + 3)), some (.int x1), none] [] s (zyE (some (.int r)) s')) {x1 : Int32} {s : zy_S} {r : Int32} {s' : zy_S}  (h : zyF192_5b g192 g193 g194 g195 g196 g197 k5 x1 s = some (r, s')) : zyR X (d + 1) 192 5 [some (.ref (43 + 3)), some (.int x1), none] [] s (zyE (some (.int r)) s') := by
  unfold zyF192_5b at h
  refine zy_0 rfl rfl (show zyR _ _ _ _ [some (.ref (43 + 3)), some (.int x1), none] [.ref (43 + 3)] _ _ from ?_)
  refine zy_3 rfl rfl (show zyR _ _ _ _ [some (.ref (43 + 3)), some (.int x1), none] [.int (124 : Int32), .ref (43 + 3)] _ _ from ?_)
  obtain ⟨p1, hp1, h⟩ := zy_bind h
  refine zy_5 (c := 43) (as := [.int (124 : Int32)]) (rest := []) (L := [some (.ref (43 + 3)), some (.int (124 : Int32))]) (d' := 2) rfl rfl rfl (Nat.le_of_ble_eq_true rfl) (by omega) rfl (Nat.le_of_ble_eq_true rfl) rfl rfl (zyC200 hp1) ?_
  show zyR _ _ _ _ [some (.ref (43 + 3)), some (.int x1), none] [.int p1.1] _ _
  refine zy_24_0 rfl (fun b5 => (show zyR _ _ _ _ [some (.ref (43 + 3)), some (.int x1), none] [] _ _ from ?_)) (fun b5 => (show zyR _ _ _ _ [some (.ref (43 + 3)), some (.int x1), none] [] _ _ from ?_))
  · replace h := zy_ifp h b5
    refine zy_2 rfl rfl (show zyR _ _ _ _ [some (.ref (43 + 3)), some (.int x1), none] [.int x1] _ _ from ?_)
    obtain ⟨rfl, rfl⟩ := zy_pi h
    exact zy_4 rfl ⟨rfl, rfl⟩
  · replace h := zy_ifn h b5
    refine zy_0 rfl rfl (show zyR _ _ _ _ [some (.ref (43 + 3)), some (.int x1), none] [.ref (43 + 3)] _ _ from ?_)
    obtain ⟨p2, hp2, h⟩ := zy_bind h
    refine zy_5 (c := 43) (as := []) (rest := []) (L := [some (.ref (43 + 3)), none, none]) (d' := d) rfl rfl rfl (Nat.le_of_ble_eq_true rfl) (by omega) rfl (Nat.le_of_ble_eq_true rfl) rfl rfl (hg193 p1.2 _ _ hp2) ?_
    show zyR _ _ _ _ [some (.ref (43 + 3)), some (.int x1), none] [.int p2.1] _ _
    refine zy_23 rfl rfl (show zyR _ _ _ _ [some (.ref (43 + 3)), some (.int x1), some (.int p2.1)] [] _ _ from ?_)
    refine zy_2 rfl rfl (show zyR _ _ _ _ [some (.ref (43 + 3)), some (.int x1), some (.int p2.1)] [.int x1] _ _ from ?_)
    refine zy_24_1 rfl (fun b4 => (show zyR _ _ _ _ [some (.ref (43 + 3)), some (.int x1), some (.int p2.1)] [] _ _ from ?_)) (fun b4 => (show zyR _ _ _ _ [some (.ref (43 + 3)), some (.int x1), some (.int p2.1)] [] _ _ from ?_))
    · replace h := zy_ifp h b4
      exact zy_sub (show zy_le [some (.ref (43 + 3)), none, none] [some (.ref (43 + 3)), some (.int x1), some (.int p2.1)] from ⟨rfl, trivial⟩) (zyC192_27 hd hg192 hg193 hg194 hg195 hg196 hg197 hk5 h)
    · replace h := zy_ifn h b4
      refine zy_2 rfl rfl (show zyR _ _ _ _ [some (.ref (43 + 3)), some (.int x1), some (.int p2.1)] [.int p2.1] _ _ from ?_)
      refine zy_24_0 rfl (fun b3 => (show zyR _ _ _ _ [some (.ref (43 + 3)), some (.int x1), some (.int p2.1)] [] _ _ from ?_)) (fun b3 => (show zyR _ _ _ _ [some (.ref (43 + 3)), some (.int x1), some (.int p2.1)] [] _ _ from ?_))
      · replace h := zy_ifp h b3
        refine zy_3 rfl rfl (show zyR _ _ _ _ [some (.ref (43 + 3)), some (.int x1), some (.int p2.1)] [.int (0 : Int32)] _ _ from ?_)
        exact zy_sub (show zy_le [some (.ref (43 + 3)), none, none] [some (.ref (43 + 3)), some (.int x1), some (.int p2.1)] from ⟨rfl, trivial⟩) (zyC192_32 hd hg192 hg193 hg194 hg195 hg196 hg197 hk5 h)
      · replace h := zy_ifn h b3
        exact zy_sub (show zy_le [some (.ref (43 + 3)), none, none] [some (.ref (43 + 3)), some (.int x1), some (.int p2.1)] from ⟨rfl, trivial⟩) (zyC192_27 hd hg192 hg193 hg194 hg195 hg196 hg197 hk5 h)
noncomputable def zyF192_5 (g192 : zy_S → Option (Int32 × zy_S)) (g193 : zy_S → Option (Int32 × zy_S)) (g194 : zy_S → Option (Int32 × zy_S)) (g195 : zy_S → Option (Int32 × zy_S)) (g196 : zy_S → Option (Int32 × zy_S)) (g197 : zy_S → Option (Int32 × zy_S))  (n : Nat) : Int32 → zy_S → Option (Int32 × zy_S) := Nat.rec (fun _ _ => none) (fun _ k5 => zyF192_5b g192 g193 g194 g195 g196 g197 k5) n
theorem zyC192_5 {X : zx_X} {d : Nat} {g192 : zy_S → Option (Int32 × zy_S)} {g193 : zy_S → Option (Int32 × zy_S)} {g194 : zy_S → Option (Int32 × zy_S)} {g195 : zy_S → Option (Int32 × zy_S)} {g196 : zy_S → Option (Int32 × zy_S)} {g197 : zy_S → Option (Int32 × zy_S)}  (hd : 2 ≤ d) (hg192 : ∀  (s : zy_S) (r : Int32) (s' : zy_S), g192 s = some (r, s') → zyR X d 192 0 [some (.ref (43 + 3)), none, none] [] s (zyE (some (.int r)) s')) (hg193 : ∀  (s : zy_S) (r : Int32) (s' : zy_S), g193 s = some (r, s') → zyR X d 193 0 [some (.ref (43 + 3)), none, none] [] s (zyE (some (.int r)) s')) (hg194 : ∀  (s : zy_S) (r : Int32) (s' : zy_S), g194 s = some (r, s') → zyR X d 194 0 [some (.ref (43 + 3)), none, none, none] [] s (zyE (some (.int r)) s')) (hg195 : ∀  (s : zy_S) (r : Int32) (s' : zy_S), g195 s = some (r, s') → zyR X d 195 0 [some (.ref (43 + 3)), none, none, none] [] s (zyE (some (.int r)) s')) (hg196 : ∀  (s : zy_S) (r : Int32) (s' : zy_S), g196 s = some (r, s') → zyR X d 196 0 [some (.ref (43 + 3)), none, none, none] [] s (zyE (some (.int r)) s')) (hg197 : ∀  (s : zy_S) (r : Int32) (s' : zy_S), g197 s = some (r, s') → zyR X d 197 0 [some (.ref (43 + 3)), none, none, none, none] [] s (zyE (some (.int r)) s'))  : ∀ (n : Nat) (x1 : Int32) (s : zy_S) (r : Int32) (s' : zy_S), zyF192_5 g192 g193 g194 g195 g196 g197 n x1 s = some (r, s') → zyR X (d + 1) 192 5 [some (.ref (43 + 3)), some (.int x1), none] [] s (zyE (some (.int r)) s')
  | 0, _ => by
    intro s r s'  h
    have h : (none : Option (Int32 × zy_S)) = some (r, s') := h
    cases h
  | n + 1, x1 => by
    intro s r s'  h
    exact zyC192_5b hd hg192 hg193 hg194 hg195 hg196 hg197 (k5 := zyF192_5 g192 g193 g194 g195 g196 g197 n) (fun x1 s r s'  h => zyC192_5 hd hg192 hg193 hg194 hg195 hg196 hg197 n x1 s r s'  h) h
noncomputable def zyF192_0 (g192 : zy_S → Option (Int32 × zy_S)) (g193 : zy_S → Option (Int32 × zy_S)) (g194 : zy_S → Option (Int32 × zy_S)) (g195 : zy_S → Option (Int32 × zy_S)) (g196 : zy_S → Option (Int32 × zy_S)) (g197 : zy_S → Option (Int32 × zy_S))   (s : zy_S) : Option (Int32 × zy_S) :=
(g193 s).bind fun p6 =>
zyF192_5 g192 g193 g194 g195 g196 g197 zy_fu p6.1 p6.2
theorem zyC192_0 {X : zx_X} {d : Nat} {g192 : zy_S → Option (Int32 × zy_S)} {g193 : zy_S → Option (Int32 × zy_S)} {g194 : zy_S → Option (Int32 × zy_S)} {g195 : zy_S → Option (Int32 × zy_S)} {g196 : zy_S → Option (Int32 × zy_S)} {g197 : zy_S → Option (Int32 × zy_S)}  (hd : 2 ≤ d) (hg192 : ∀  (s : zy_S) (r : Int32) (s' : zy_S), g192 s = some (r, s') → zyR X d 192 0 [some (.ref (43 + 3)), none, none] [] s (zyE (some (.int r)) s')) (hg193 : ∀  (s : zy_S) (r : Int32) (s' : zy_S), g193 s = some (r, s') → zyR X d 193 0 [some (.ref (43 + 3)), none, none] [] s (zyE (some (.int r)) s')) (hg194 : ∀  (s : zy_S) (r : Int32) (s' : zy_S), g194 s = some (r, s') → zyR X d 194 0 [some (.ref (43 + 3)), none, none, none] [] s (zyE (some (.int r)) s')) (hg195 : ∀  (s : zy_S) (r : Int32) (s' : zy_S), g195 s = some (r, s') → zyR X d 195 0 [some (.ref (43 + 3)), none, none, none] [] s (zyE (some (.int r)) s')) (hg196 : ∀  (s : zy_S) (r : Int32) (s' : zy_S), g196 s = some (r, s') → zyR X d 196 0 [some (.ref (43 + 3)), none, none, none] [] s (zyE (some (.int r)) s')) (hg197 : ∀  (s : zy_S) (r : Int32) (s' : zy_S), g197 s = some (r, s') → zyR X d 197 0 [some (.ref (43 + 3)), none, none, none, none] [] s (zyE (some (.int r)) s'))   {s : zy_S} {r : Int32} {s' : zy_S}  (h : zyF192_0 g192 g193 g194 g195 g196 g197 s = some (r, s')) : zyR X (d + 1) 192 0 [some (.ref (43 + 3)), none, none] [] s (zyE (some (.int r)) s') := by
  unfold zyF192_0 at h
  refine zy_0 rfl rfl (show zyR _ _ _ _ [some (.ref (43 + 3)), none, none] [.ref (43 + 3)] _ _ from ?_)
  obtain ⟨p6, hp6, h⟩ := zy_bind h
  refine zy_5 (c := 43) (as := []) (rest := []) (L := [some (.ref (43 + 3)), none, none]) (d' := d) rfl rfl rfl (Nat.le_of_ble_eq_true rfl) (by omega) rfl (Nat.le_of_ble_eq_true rfl) rfl rfl (hg193 s _ _ hp6) ?_
  show zyR _ _ _ _ [some (.ref (43 + 3)), none, none] [.int p6.1] _ _
  refine zy_23 rfl rfl (show zyR _ _ _ _ [some (.ref (43 + 3)), some (.int p6.1), none] [] _ _ from ?_)
  exact zy_sub (show zy_le [some (.ref (43 + 3)), some (.int p6.1), none] [some (.ref (43 + 3)), some (.int p6.1), none] from ⟨rfl, ⟨rfl, trivial⟩⟩) (zyC192_5 hd hg192 hg193 hg194 hg195 hg196 hg197 zy_fu p6.1 p6.2 _ _ h)
noncomputable def zyF193_32 (g192 : zy_S → Option (Int32 × zy_S)) (g193 : zy_S → Option (Int32 × zy_S)) (g194 : zy_S → Option (Int32 × zy_S)) (g195 : zy_S → Option (Int32 × zy_S)) (g196 : zy_S → Option (Int32 × zy_S)) (g197 : zy_S → Option (Int32 × zy_S)) (k5 : Int32 → zy_S → Option (Int32 × zy_S)) (y0 : Int32) (s : zy_S) : Option (Int32 × zy_S) :=
k5 y0 s
theorem zyC193_32 {X : zx_X} {d : Nat} {g192 : zy_S → Option (Int32 × zy_S)} {g193 : zy_S → Option (Int32 × zy_S)} {g194 : zy_S → Option (Int32 × zy_S)} {g195 : zy_S → Option (Int32 × zy_S)} {g196 : zy_S → Option (Int32 × zy_S)} {g197 : zy_S → Option (Int32 × zy_S)} {k5 : Int32 → zy_S → Option (Int32 × zy_S)} (hd : 2 ≤ d) (hg192 : ∀  (s : zy_S) (r : Int32) (s' : zy_S), g192 s = some (r, s') → zyR X d 192 0 [some (.ref (43 + 3)), none, none] [] s (zyE (some (.int r)) s')) (hg193 : ∀  (s : zy_S) (r : Int32) (s' : zy_S), g193 s = some (r, s') → zyR X d 193 0 [some (.ref (43 + 3)), none, none] [] s (zyE (some (.int r)) s')) (hg194 : ∀  (s : zy_S) (r : Int32) (s' : zy_S), g194 s = some (r, s') → zyR X d 194 0 [some (.ref (43 + 3)), none, none, none] [] s (zyE (some (.int r)) s')) (hg195 : ∀  (s : zy_S) (r : Int32) (s' : zy_S), g195 s = some (r, s') → zyR X d 195 0 [some (.ref (43 + 3)), none, none, none] [] s (zyE (some (.int r)) s')) (hg196 : ∀  (s : zy_S) (r : Int32) (s' : zy_S), g196 s = some (r, s') → zyR X d 196 0 [some (.ref (43 + 3)), none, none, none] [] s (zyE (some (.int r)) s')) (hg197 : ∀  (s : zy_S) (r : Int32) (s' : zy_S), g197 s = some (r, s') → zyR X d 197 0 [some (.ref (43 + 3)), none, none, none, none] [] s (zyE (some (.int r)) s')) (hk5 : ∀ (x1 : Int32) (s : zy_S) (r : Int32) (s' : zy_S), k5 x1 s = some (r, s') → zyR X (d + 1) 193 5 [some (.ref (43 + 3)), some (.int x1), none] [] s (zyE (some (.int r)) s')) {y0 : Int32} {s : zy_S} {r : Int32} {s' : zy_S}  (h : zyF193_32 g192 g193 g194 g195 g196 g197 k5 y0 s = some (r, s')) : zyR X (d + 1) 193 32 [some (.ref (43 + 3)), none, none] [.int y0] s (zyE (some (.int r)) s') := by
  unfold zyF193_32 at h
  refine zy_23 rfl rfl (show zyR _ _ _ _ [some (.ref (43 + 3)), some (.int y0), none] [] _ _ from ?_)
  refine zy_6 rfl (show zyR _ _ _ _ [some (.ref (43 + 3)), some (.int y0), none] [] _ _ from ?_)
  exact zy_sub (show zy_le [some (.ref (43 + 3)), some (.int y0), none] [some (.ref (43 + 3)), some (.int y0), none] from ⟨rfl, ⟨rfl, trivial⟩⟩) (hk5 y0 s _ _ h)
noncomputable def zyF193_31 (g192 : zy_S → Option (Int32 × zy_S)) (g193 : zy_S → Option (Int32 × zy_S)) (g194 : zy_S → Option (Int32 × zy_S)) (g195 : zy_S → Option (Int32 × zy_S)) (g196 : zy_S → Option (Int32 × zy_S)) (g197 : zy_S → Option (Int32 × zy_S)) (k5 : Int32 → zy_S → Option (Int32 × zy_S))  (s : zy_S) : Option (Int32 × zy_S) :=
zyF193_32 g192 g193 g194 g195 g196 g197 k5 (0 : Int32) s
theorem zyC193_31 {X : zx_X} {d : Nat} {g192 : zy_S → Option (Int32 × zy_S)} {g193 : zy_S → Option (Int32 × zy_S)} {g194 : zy_S → Option (Int32 × zy_S)} {g195 : zy_S → Option (Int32 × zy_S)} {g196 : zy_S → Option (Int32 × zy_S)} {g197 : zy_S → Option (Int32 × zy_S)} {k5 : Int32 → zy_S → Option (Int32 × zy_S)} (hd : 2 ≤ d) (hg192 : ∀  (s : zy_S) (r : Int32) (s' : zy_S), g192 s = some (r, s') → zyR X d 192 0 [some (.ref (43 + 3)), none, none] [] s (zyE (some (.int r)) s')) (hg193 : ∀  (s : zy_S) (r : Int32) (s' : zy_S), g193 s = some (r, s') → zyR X d 193 0 [some (.ref (43 + 3)), none, none] [] s (zyE (some (.int r)) s')) (hg194 : ∀  (s : zy_S) (r : Int32) (s' : zy_S), g194 s = some (r, s') → zyR X d 194 0 [some (.ref (43 + 3)), none, none, none] [] s (zyE (some (.int r)) s')) (hg195 : ∀  (s : zy_S) (r : Int32) (s' : zy_S), g195 s = some (r, s') → zyR X d 195 0 [some (.ref (43 + 3)), none, none, none] [] s (zyE (some (.int r)) s')) (hg196 : ∀  (s : zy_S) (r : Int32) (s' : zy_S), g196 s = some (r, s') → zyR X d 196 0 [some (.ref (43 + 3)), none, none, none] [] s (zyE (some (.int r)) s')) (hg197 : ∀  (s : zy_S) (r : Int32) (s' : zy_S), g197 s = some (r, s') → zyR X d 197 0 [some (.ref (43 + 3)), none, none, none, none] [] s (zyE (some (.int r)) s')) (hk5 : ∀ (x1 : Int32) (s : zy_S) (r : Int32) (s' : zy_S), k5 x1 s = some (r, s') → zyR X (d + 1) 193 5 [some (.ref (43 + 3)), some (.int x1), none] [] s (zyE (some (.int r)) s'))  {s : zy_S} {r : Int32} {s' : zy_S}  (h : zyF193_31 g192 g193 g194 g195 g196 g197 k5 s = some (r, s')) : zyR X (d + 1) 193 31 [some (.ref (43 + 3)), none, none] [] s (zyE (some (.int r)) s') := by
  unfold zyF193_31 at h
  refine zy_3 rfl rfl (show zyR _ _ _ _ [some (.ref (43 + 3)), none, none] [.int (0 : Int32)] _ _ from ?_)
  exact zy_sub (show zy_le [some (.ref (43 + 3)), none, none] [some (.ref (43 + 3)), none, none] from ⟨rfl, trivial⟩) (zyC193_32 hd hg192 hg193 hg194 hg195 hg196 hg197 hk5 h)
noncomputable def zyF193_5b (g192 : zy_S → Option (Int32 × zy_S)) (g193 : zy_S → Option (Int32 × zy_S)) (g194 : zy_S → Option (Int32 × zy_S)) (g195 : zy_S → Option (Int32 × zy_S)) (g196 : zy_S → Option (Int32 × zy_S)) (g197 : zy_S → Option (Int32 × zy_S)) (k5 : Int32 → zy_S → Option (Int32 × zy_S)) (x1 : Int32) (s : zy_S) : Option (Int32 × zy_S) :=
(zyF200 (38 : Int32) s).bind fun p1 =>
if p1.1 = 0 then
some (x1, p1.2)
else
(g194 p1.2).bind fun p2 =>
if x1 = 0 then
zyF193_31 g192 g193 g194 g195 g196 g197 k5 p2.2
else
if p2.1 = 0 then
zyF193_31 g192 g193 g194 g195 g196 g197 k5 p2.2
else
zyF193_32 g192 g193 g194 g195 g196 g197 k5 (1 : Int32) p2.2
theorem zyC193_5b {X : zx_X} {d : Nat} {g192 : zy_S → Option (Int32 × zy_S)} {g193 : zy_S → Option (Int32 × zy_S)} {g194 : zy_S → Option (Int32 × zy_S)} {g195 : zy_S → Option (Int32 × zy_S)} {g196 : zy_S → Option (Int32 × zy_S)} {g197 : zy_S → Option (Int32 × zy_S)} {k5 : Int32 → zy_S → Option (Int32 × zy_S)} (hd : 2 ≤ d) (hg192 : ∀  (s : zy_S) (r : Int32) (s' : zy_S), g192 s = some (r, s') → zyR X d 192 0 [some (.ref (43 + 3)), none, none] [] s (zyE (some (.int r)) s')) (hg193 : ∀  (s : zy_S) (r : Int32) (s' : zy_S), g193 s = some (r, s') → zyR X d 193 0 [some (.ref (43 + 3)), none, none] [] s (zyE (some (.int r)) s')) (hg194 : ∀  (s : zy_S) (r : Int32) (s' : zy_S), g194 s = some (r, s') → zyR X d 194 0 [some (.ref (43 + 3)), none, none, none] [] s (zyE (some (.int r)) s')) (hg195 : ∀  (s : zy_S) (r : Int32) (s' : zy_S), g195 s = some (r, s') → zyR X d 195 0 [some (.ref (43 + 3)), none, none, none] [] s (zyE (some (.int r)) s')) (hg196 : ∀  (s : zy_S) (r : Int32) (s' : zy_S), g196 s = some (r, s') → zyR X d 196 0 [some (.ref (43 + 3)), none, none, none] [] s (zyE (some (.int r)) s')) (hg197 : ∀  (s : zy_S) (r : Int32) (s' : zy_S), g197 s = some (r, s') → zyR X d 197 0 [some (.ref (43 + 3)), none, none, none, none] [] s (zyE (some (.int r)) s')) (hk5 : ∀ (x1 : Int32) (s : zy_S) (r : Int32) (s' : zy_S), k5 x1 s = some (r, s') → zyR X (d + 1) 193 5 [some (.ref (43 + 3)), some (.int x1), none] [] s (zyE (some (.int r)) s')) {x1 : Int32} {s : zy_S} {r : Int32} {s' : zy_S}  (h : zyF193_5b g192 g193 g194 g195 g196 g197 k5 x1 s = some (r, s')) : zyR X (d + 1) 193 5 [some (.ref (43 + 3)), some (.int x1), none] [] s (zyE (some (.int r)) s') := by
  unfold zyF193_5b at h
  refine zy_0 rfl rfl (show zyR _ _ _ _ [some (.ref (43 + 3)), some (.int x1), none] [.ref (43 + 3)] _ _ from ?_)
  refine zy_3 rfl rfl (show zyR _ _ _ _ [some (.ref (43 + 3)), some (.int x1), none] [.int (38 : Int32), .ref (43 + 3)] _ _ from ?_)
  obtain ⟨p1, hp1, h⟩ := zy_bind h
  refine zy_5 (c := 43) (as := [.int (38 : Int32)]) (rest := []) (L := [some (.ref (43 + 3)), some (.int (38 : Int32))]) (d' := 2) rfl rfl rfl (Nat.le_of_ble_eq_true rfl) (by omega) rfl (Nat.le_of_ble_eq_true rfl) rfl rfl (zyC200 hp1) ?_
  show zyR _ _ _ _ [some (.ref (43 + 3)), some (.int x1), none] [.int p1.1] _ _
  refine zy_24_0 rfl (fun b5 => (show zyR _ _ _ _ [some (.ref (43 + 3)), some (.int x1), none] [] _ _ from ?_)) (fun b5 => (show zyR _ _ _ _ [some (.ref (43 + 3)), some (.int x1), none] [] _ _ from ?_))
  · replace h := zy_ifp h b5
    refine zy_2 rfl rfl (show zyR _ _ _ _ [some (.ref (43 + 3)), some (.int x1), none] [.int x1] _ _ from ?_)
    obtain ⟨rfl, rfl⟩ := zy_pi h
    exact zy_4 rfl ⟨rfl, rfl⟩
  · replace h := zy_ifn h b5
    refine zy_0 rfl rfl (show zyR _ _ _ _ [some (.ref (43 + 3)), some (.int x1), none] [.ref (43 + 3)] _ _ from ?_)
    obtain ⟨p2, hp2, h⟩ := zy_bind h
    refine zy_5 (c := 43) (as := []) (rest := []) (L := [some (.ref (43 + 3)), none, none, none]) (d' := d) rfl rfl rfl (Nat.le_of_ble_eq_true rfl) (by omega) rfl (Nat.le_of_ble_eq_true rfl) rfl rfl (hg194 p1.2 _ _ hp2) ?_
    show zyR _ _ _ _ [some (.ref (43 + 3)), some (.int x1), none] [.int p2.1] _ _
    refine zy_23 rfl rfl (show zyR _ _ _ _ [some (.ref (43 + 3)), some (.int x1), some (.int p2.1)] [] _ _ from ?_)
    refine zy_2 rfl rfl (show zyR _ _ _ _ [some (.ref (43 + 3)), some (.int x1), some (.int p2.1)] [.int x1] _ _ from ?_)
    refine zy_24_0 rfl (fun b4 => (show zyR _ _ _ _ [some (.ref (43 + 3)), some (.int x1), some (.int p2.1)] [] _ _ from ?_)) (fun b4 => (show zyR _ _ _ _ [some (.ref (43 + 3)), some (.int x1), some (.int p2.1)] [] _ _ from ?_))
    · replace h := zy_ifp h b4
      exact zy_sub (show zy_le [some (.ref (43 + 3)), none, none] [some (.ref (43 + 3)), some (.int x1), some (.int p2.1)] from ⟨rfl, trivial⟩) (zyC193_31 hd hg192 hg193 hg194 hg195 hg196 hg197 hk5 h)
    · replace h := zy_ifn h b4
      refine zy_2 rfl rfl (show zyR _ _ _ _ [some (.ref (43 + 3)), some (.int x1), some (.int p2.1)] [.int p2.1] _ _ from ?_)
      refine zy_24_0 rfl (fun b3 => (show zyR _ _ _ _ [some (.ref (43 + 3)), some (.int x1), some (.int p2.1)] [] _ _ from ?_)) (fun b3 => (show zyR _ _ _ _ [some (.ref (43 + 3)), some (.int x1), some (.int p2.1)] [] _ _ from ?_))
      · replace h := zy_ifp h b3
        exact zy_sub (show zy_le [some (.ref (43 + 3)), none, none] [some (.ref (43 + 3)), some (.int x1), some (.int p2.1)] from ⟨rfl, trivial⟩) (zyC193_31 hd hg192 hg193 hg194 hg195 hg196 hg197 hk5 h)
      · replace h := zy_ifn h b3
        refine zy_3 rfl rfl (show zyR _ _ _ _ [some (.ref (43 + 3)), some (.int x1), some (.int p2.1)] [.int (1 : Int32)] _ _ from ?_)
        refine zy_6 rfl (show zyR _ _ _ _ [some (.ref (43 + 3)), some (.int x1), some (.int p2.1)] [.int (1 : Int32)] _ _ from ?_)
        exact zy_sub (show zy_le [some (.ref (43 + 3)), none, none] [some (.ref (43 + 3)), some (.int x1), some (.int p2.1)] from ⟨rfl, trivial⟩) (zyC193_32 hd hg192 hg193 hg194 hg195 hg196 hg197 hk5 h)
noncomputable def zyF193_5 (g192 : zy_S → Option (Int32 × zy_S)) (g193 : zy_S → Option (Int32 × zy_S)) (g194 : zy_S → Option (Int32 × zy_S)) (g195 : zy_S → Option (Int32 × zy_S)) (g196 : zy_S → Option (Int32 × zy_S)) (g197 : zy_S → Option (Int32 × zy_S))  (n : Nat) : Int32 → zy_S → Option (Int32 × zy_S) := Nat.rec (fun _ _ => none) (fun _ k5 => zyF193_5b g192 g193 g194 g195 g196 g197 k5) n
theorem zyC193_5 {X : zx_X} {d : Nat} {g192 : zy_S → Option (Int32 × zy_S)} {g193 : zy_S → Option (Int32 × zy_S)} {g194 : zy_S → Option (Int32 × zy_S)} {g195 : zy_S → Option (Int32 × zy_S)} {g196 : zy_S → Option (Int32 × zy_S)} {g197 : zy_S → Option (Int32 × zy_S)}  (hd : 2 ≤ d) (hg192 : ∀  (s : zy_S) (r : Int32) (s' : zy_S), g192 s = some (r, s') → zyR X d 192 0 [some (.ref (43 + 3)), none, none] [] s (zyE (some (.int r)) s')) (hg193 : ∀  (s : zy_S) (r : Int32) (s' : zy_S), g193 s = some (r, s') → zyR X d 193 0 [some (.ref (43 + 3)), none, none] [] s (zyE (some (.int r)) s')) (hg194 : ∀  (s : zy_S) (r : Int32) (s' : zy_S), g194 s = some (r, s') → zyR X d 194 0 [some (.ref (43 + 3)), none, none, none] [] s (zyE (some (.int r)) s')) (hg195 : ∀  (s : zy_S) (r : Int32) (s' : zy_S), g195 s = some (r, s') → zyR X d 195 0 [some (.ref (43 + 3)), none, none, none] [] s (zyE (some (.int r)) s')) (hg196 : ∀  (s : zy_S) (r : Int32) (s' : zy_S), g196 s = some (r, s') → zyR X d 196 0 [some (.ref (43 + 3)), none, none, none] [] s (zyE (some (.int r)) s')) (hg197 : ∀  (s : zy_S) (r : Int32) (s' : zy_S), g197 s = some (r, s') → zyR X d 197 0 [some (.ref (43 + 3)), none, none, none, none] [] s (zyE (some (.int r)) s'))  : ∀ (n : Nat) (x1 : Int32) (s : zy_S) (r : Int32) (s' : zy_S), zyF193_5 g192 g193 g194 g195 g196 g197 n x1 s = some (r, s') → zyR X (d + 1) 193 5 [some (.ref (43 + 3)), some (.int x1), none] [] s (zyE (some (.int r)) s')
  | 0, _ => by
    intro s r s'  h
    have h : (none : Option (Int32 × zy_S)) = some (r, s') := h
    cases h
  | n + 1, x1 => by
    intro s r s'  h
    exact zyC193_5b hd hg192 hg193 hg194 hg195 hg196 hg197 (k5 := zyF193_5 g192 g193 g194 g195 g196 g197 n) (fun x1 s r s'  h => zyC193_5 hd hg192 hg193 hg194 hg195 hg196 hg197 n x1 s r s'  h) h
noncomputable def zyF193_0 (g192 : zy_S → Option (Int32 × zy_S)) (g193 : zy_S → Option (Int32 × zy_S)) (g194 : zy_S → Option (Int32 × zy_S)) (g195 : zy_S → Option (Int32 × zy_S)) (g196 : zy_S → Option (Int32 × zy_S)) (g197 : zy_S → Option (Int32 × zy_S))   (s : zy_S) : Option (Int32 × zy_S) :=
(g194 s).bind fun p6 =>
zyF193_5 g192 g193 g194 g195 g196 g197 zy_fu p6.1 p6.2
theorem zyC193_0 {X : zx_X} {d : Nat} {g192 : zy_S → Option (Int32 × zy_S)} {g193 : zy_S → Option (Int32 × zy_S)} {g194 : zy_S → Option (Int32 × zy_S)} {g195 : zy_S → Option (Int32 × zy_S)} {g196 : zy_S → Option (Int32 × zy_S)} {g197 : zy_S → Option (Int32 × zy_S)}  (hd : 2 ≤ d) (hg192 : ∀  (s : zy_S) (r : Int32) (s' : zy_S), g192 s = some (r, s') → zyR X d 192 0 [some (.ref (43 + 3)), none, none] [] s (zyE (some (.int r)) s')) (hg193 : ∀  (s : zy_S) (r : Int32) (s' : zy_S), g193 s = some (r, s') → zyR X d 193 0 [some (.ref (43 + 3)), none, none] [] s (zyE (some (.int r)) s')) (hg194 : ∀  (s : zy_S) (r : Int32) (s' : zy_S), g194 s = some (r, s') → zyR X d 194 0 [some (.ref (43 + 3)), none, none, none] [] s (zyE (some (.int r)) s')) (hg195 : ∀  (s : zy_S) (r : Int32) (s' : zy_S), g195 s = some (r, s') → zyR X d 195 0 [some (.ref (43 + 3)), none, none, none] [] s (zyE (some (.int r)) s')) (hg196 : ∀  (s : zy_S) (r : Int32) (s' : zy_S), g196 s = some (r, s') → zyR X d 196 0 [some (.ref (43 + 3)), none, none, none] [] s (zyE (some (.int r)) s')) (hg197 : ∀  (s : zy_S) (r : Int32) (s' : zy_S), g197 s = some (r, s') → zyR X d 197 0 [some (.ref (43 + 3)), none, none, none, none] [] s (zyE (some (.int r)) s'))   {s : zy_S} {r : Int32} {s' : zy_S}  (h : zyF193_0 g192 g193 g194 g195 g196 g197 s = some (r, s')) : zyR X (d + 1) 193 0 [some (.ref (43 + 3)), none, none] [] s (zyE (some (.int r)) s') := by
  unfold zyF193_0 at h
  refine zy_0 rfl rfl (show zyR _ _ _ _ [some (.ref (43 + 3)), none, none] [.ref (43 + 3)] _ _ from ?_)
  obtain ⟨p6, hp6, h⟩ := zy_bind h
  refine zy_5 (c := 43) (as := []) (rest := []) (L := [some (.ref (43 + 3)), none, none, none]) (d' := d) rfl rfl rfl (Nat.le_of_ble_eq_true rfl) (by omega) rfl (Nat.le_of_ble_eq_true rfl) rfl rfl (hg194 s _ _ hp6) ?_
  show zyR _ _ _ _ [some (.ref (43 + 3)), none, none] [.int p6.1] _ _
  refine zy_23 rfl rfl (show zyR _ _ _ _ [some (.ref (43 + 3)), some (.int p6.1), none] [] _ _ from ?_)
  exact zy_sub (show zy_le [some (.ref (43 + 3)), some (.int p6.1), none] [some (.ref (43 + 3)), some (.int p6.1), none] from ⟨rfl, ⟨rfl, trivial⟩⟩) (zyC193_5 hd hg192 hg193 hg194 hg195 hg196 hg197 zy_fu p6.1 p6.2 _ _ h)
noncomputable def zyF194_37 (g192 : zy_S → Option (Int32 × zy_S)) (g193 : zy_S → Option (Int32 × zy_S)) (g194 : zy_S → Option (Int32 × zy_S)) (g195 : zy_S → Option (Int32 × zy_S)) (g196 : zy_S → Option (Int32 × zy_S)) (g197 : zy_S → Option (Int32 × zy_S))  (x1 : Int32) (x2 : Int32) (s : zy_S) : Option (Int32 × zy_S) :=
(g195 (zy_up s 43 13 ((s.1 43 13) + (1 : Int32)))).bind fun p1 =>
if x2 ≠ (60 : Int32) then
if x2 ≠ (61 : Int32) then
if x1 ≤ p1.1 then
some ((0 : Int32), p1.2)
else
some ((1 : Int32), p1.2)
else
if x1 ≠ p1.1 then
some ((0 : Int32), p1.2)
else
some ((1 : Int32), p1.2)
else
if p1.1 ≤ x1 then
some ((0 : Int32), p1.2)
else
some ((1 : Int32), p1.2)
theorem zyC194_37 {X : zx_X} {d : Nat} {g192 : zy_S → Option (Int32 × zy_S)} {g193 : zy_S → Option (Int32 × zy_S)} {g194 : zy_S → Option (Int32 × zy_S)} {g195 : zy_S → Option (Int32 × zy_S)} {g196 : zy_S → Option (Int32 × zy_S)} {g197 : zy_S → Option (Int32 × zy_S)}  (hd : 1 ≤ d) (hg192 : ∀  (s : zy_S) (r : Int32) (s' : zy_S), g192 s = some (r, s') → zyR X d 192 0 [some (.ref (43 + 3)), none, none] [] s (zyE (some (.int r)) s')) (hg193 : ∀  (s : zy_S) (r : Int32) (s' : zy_S), g193 s = some (r, s') → zyR X d 193 0 [some (.ref (43 + 3)), none, none] [] s (zyE (some (.int r)) s')) (hg194 : ∀  (s : zy_S) (r : Int32) (s' : zy_S), g194 s = some (r, s') → zyR X d 194 0 [some (.ref (43 + 3)), none, none, none] [] s (zyE (some (.int r)) s')) (hg195 : ∀  (s : zy_S) (r : Int32) (s' : zy_S), g195 s = some (r, s') → zyR X d 195 0 [some (.ref (43 + 3)), none, none, none] [] s (zyE (some (.int r)) s')) (hg196 : ∀  (s : zy_S) (r : Int32) (s' : zy_S), g196 s = some (r, s') → zyR X d 196 0 [some (.ref (43 + 3)), none, none, none] [] s (zyE (some (.int r)) s')) (hg197 : ∀  (s : zy_S) (r : Int32) (s' : zy_S), g197 s = some (r, s') → zyR X d 197 0 [some (.ref (43 + 3)), none, none, none, none] [] s (zyE (some (.int r)) s'))  {x1 : Int32} {x2 : Int32} {s : zy_S} {r : Int32} {s' : zy_S}  (h : zyF194_37 g192 g193 g194 g195 g196 g197 x1 x2 s = some (r, s')) : zyR X (d + 1) 194 37 [some (.ref (43 + 3)), some (.int x1), some (.int x2), none] [] s (zyE (some (.int r)) s') := by
  unfold zyF194_37 at h
  refine zy_0 rfl rfl (show zyR _ _ _ _ [some (.ref (43 + 3)), some (.int x1), some (.int x2), none] [.ref (43 + 3)] _ _ from ?_)
  refine zy_33 rfl rfl (show zyR _ _ _ _ [some (.ref (43 + 3)), some (.int x1), some (.int x2), none] [.ref (43 + 3), .ref (43 + 3)] _ _ from ?_)
  refine zy_1 (c := 43) rfl rfl rfl (show zyR _ _ _ _ [some (.ref (43 + 3)), some (.int x1), some (.int x2), none] [.int (s.1 43 13), .ref (43 + 3)] _ _ from ?_)
  refine zy_3 rfl rfl (show zyR _ _ _ _ [some (.ref (43 + 3)), some (.int x1), some (.int x2), none] [.int (1 : Int32), .int (s.1 43 13), .ref (43 + 3)] _ _ from ?_)
  refine zy_10 rfl (show zyR _ _ _ _ [some (.ref (43 + 3)), some (.int x1), some (.int x2), none] [.int ((s.1 43 13) + (1 : Int32)), .ref (43 + 3)] _ _ from ?_)
  refine zy_52 (c := 43) rfl rfl rfl (show zyR _ _ _ _ [some (.ref (43 + 3)), some (.int x1), some (.int x2), none] [] _ _ from ?_)
  refine zy_0 rfl rfl (show zyR _ _ _ _ [some (.ref (43 + 3)), some (.int x1), some (.int x2), none] [.ref (43 + 3)] _ _ from ?_)
  obtain ⟨p1, hp1, h⟩ := zy_bind h
  refine zy_5 (c := 43) (as := []) (rest := []) (L := [some (.ref (43 + 3)), none, none, none]) (d' := d) rfl rfl rfl (Nat.le_of_ble_eq_true rfl) (by omega) rfl (Nat.le_of_ble_eq_true rfl) rfl rfl (hg195 (zy_up s 43 13 ((s.1 43 13) + (1 : Int32))) _ _ hp1) ?_
  show zyR _ _ _ _ [some (.ref (43 + 3)), some (.int x1), some (.int x2), none] [.int p1.1] _ _
  refine zy_23 rfl rfl (show zyR _ _ _ _ [some (.ref (43 + 3)), some (.int x1), some (.int x2), some (.int p1.1)] [] _ _ from ?_)
  refine zy_2 rfl rfl (show zyR _ _ _ _ [some (.ref (43 + 3)), some (.int x1), some (.int x2), some (.int p1.1)] [.int x2] _ _ from ?_)
  refine zy_3 rfl rfl (show zyR _ _ _ _ [some (.ref (43 + 3)), some (.int x1), some (.int x2), some (.int p1.1)] [.int (60 : Int32), .int x2] _ _ from ?_)
  refine zy_25_1 rfl (fun b6 => (show zyR _ _ _ _ [some (.ref (43 + 3)), some (.int x1), some (.int x2), some (.int p1.1)] [] _ _ from ?_)) (fun b6 => (show zyR _ _ _ _ [some (.ref (43 + 3)), some (.int x1), some (.int x2), some (.int p1.1)] [] _ _ from ?_))
  · replace h := zy_ifp h b6
    refine zy_2 rfl rfl (show zyR _ _ _ _ [some (.ref (43 + 3)), some (.int x1), some (.int x2), some (.int p1.1)] [.int x2] _ _ from ?_)
    refine zy_3 rfl rfl (show zyR _ _ _ _ [some (.ref (43 + 3)), some (.int x1), some (.int x2), some (.int p1.1)] [.int (61 : Int32), .int x2] _ _ from ?_)
    refine zy_25_1 rfl (fun b4 => (show zyR _ _ _ _ [some (.ref (43 + 3)), some (.int x1), some (.int x2), some (.int p1.1)] [] _ _ from ?_)) (fun b4 => (show zyR _ _ _ _ [some (.ref (43 + 3)), some (.int x1), some (.int x2), some (.int p1.1)] [] _ _ from ?_))
    · replace h := zy_ifp h b4
      refine zy_2 rfl rfl (show zyR _ _ _ _ [some (.ref (43 + 3)), some (.int x1), some (.int x2), some (.int p1.1)] [.int x1] _ _ from ?_)
      refine zy_2 rfl rfl (show zyR _ _ _ _ [some (.ref (43 + 3)), some (.int x1), some (.int x2), some (.int p1.1)] [.int p1.1, .int x1] _ _ from ?_)
      refine zy_25_5 rfl (fun b2 => (show zyR _ _ _ _ [some (.ref (43 + 3)), some (.int x1), some (.int x2), some (.int p1.1)] [] _ _ from ?_)) (fun b2 => (show zyR _ _ _ _ [some (.ref (43 + 3)), some (.int x1), some (.int x2), some (.int p1.1)] [] _ _ from ?_))
      · replace h := zy_ifp h b2
        refine zy_3 rfl rfl (show zyR _ _ _ _ [some (.ref (43 + 3)), some (.int x1), some (.int x2), some (.int p1.1)] [.int (0 : Int32)] _ _ from ?_)
        obtain ⟨rfl, rfl⟩ := zy_pi h
        exact zy_4 rfl ⟨rfl, rfl⟩
      · replace h := zy_ifn h b2
        refine zy_3 rfl rfl (show zyR _ _ _ _ [some (.ref (43 + 3)), some (.int x1), some (.int x2), some (.int p1.1)] [.int (1 : Int32)] _ _ from ?_)
        refine zy_6 rfl (show zyR _ _ _ _ [some (.ref (43 + 3)), some (.int x1), some (.int x2), some (.int p1.1)] [.int (1 : Int32)] _ _ from ?_)
        obtain ⟨rfl, rfl⟩ := zy_pi h
        exact zy_4 rfl ⟨rfl, rfl⟩
    · replace h := zy_ifn h b4
      refine zy_2 rfl rfl (show zyR _ _ _ _ [some (.ref (43 + 3)), some (.int x1), some (.int x2), some (.int p1.1)] [.int x1] _ _ from ?_)
      refine zy_2 rfl rfl (show zyR _ _ _ _ [some (.ref (43 + 3)), some (.int x1), some (.int x2), some (.int p1.1)] [.int p1.1, .int x1] _ _ from ?_)
      refine zy_25_1 rfl (fun b3 => (show zyR _ _ _ _ [some (.ref (43 + 3)), some (.int x1), some (.int x2), some (.int p1.1)] [] _ _ from ?_)) (fun b3 => (show zyR _ _ _ _ [some (.ref (43 + 3)), some (.int x1), some (.int x2), some (.int p1.1)] [] _ _ from ?_))
      · replace h := zy_ifp h b3
        refine zy_3 rfl rfl (show zyR _ _ _ _ [some (.ref (43 + 3)), some (.int x1), some (.int x2), some (.int p1.1)] [.int (0 : Int32)] _ _ from ?_)
        obtain ⟨rfl, rfl⟩ := zy_pi h
        exact zy_4 rfl ⟨rfl, rfl⟩
      · replace h := zy_ifn h b3
        refine zy_6 rfl (show zyR _ _ _ _ [some (.ref (43 + 3)), some (.int x1), some (.int x2), some (.int p1.1)] [] _ _ from ?_)
        refine zy_3 rfl rfl (show zyR _ _ _ _ [some (.ref (43 + 3)), some (.int x1), some (.int x2), some (.int p1.1)] [.int (1 : Int32)] _ _ from ?_)
        refine zy_6 rfl (show zyR _ _ _ _ [some (.ref (43 + 3)), some (.int x1), some (.int x2), some (.int p1.1)] [.int (1 : Int32)] _ _ from ?_)
        obtain ⟨rfl, rfl⟩ := zy_pi h
        exact zy_4 rfl ⟨rfl, rfl⟩
  · replace h := zy_ifn h b6
    refine zy_2 rfl rfl (show zyR _ _ _ _ [some (.ref (43 + 3)), some (.int x1), some (.int x2), some (.int p1.1)] [.int x1] _ _ from ?_)
    refine zy_2 rfl rfl (show zyR _ _ _ _ [some (.ref (43 + 3)), some (.int x1), some (.int x2), some (.int p1.1)] [.int p1.1, .int x1] _ _ from ?_)
    refine zy_25_3 rfl (fun b5 => (show zyR _ _ _ _ [some (.ref (43 + 3)), some (.int x1), some (.int x2), some (.int p1.1)] [] _ _ from ?_)) (fun b5 => (show zyR _ _ _ _ [some (.ref (43 + 3)), some (.int x1), some (.int x2), some (.int p1.1)] [] _ _ from ?_))
    · replace h := zy_ifp h b5
      refine zy_3 rfl rfl (show zyR _ _ _ _ [some (.ref (43 + 3)), some (.int x1), some (.int x2), some (.int p1.1)] [.int (0 : Int32)] _ _ from ?_)
      obtain ⟨rfl, rfl⟩ := zy_pi h
      exact zy_4 rfl ⟨rfl, rfl⟩
    · replace h := zy_ifn h b5
      refine zy_6 rfl (show zyR _ _ _ _ [some (.ref (43 + 3)), some (.int x1), some (.int x2), some (.int p1.1)] [] _ _ from ?_)
      refine zy_3 rfl rfl (show zyR _ _ _ _ [some (.ref (43 + 3)), some (.int x1), some (.int x2), some (.int p1.1)] [.int (1 : Int32)] _ _ from ?_)
      refine zy_6 rfl (show zyR _ _ _ _ [some (.ref (43 + 3)), some (.int x1), some (.int x2), some (.int p1.1)] [.int (1 : Int32)] _ _ from ?_)
      obtain ⟨rfl, rfl⟩ := zy_pi h
      exact zy_4 rfl ⟨rfl, rfl⟩
noncomputable def zyF194_0 (g192 : zy_S → Option (Int32 × zy_S)) (g193 : zy_S → Option (Int32 × zy_S)) (g194 : zy_S → Option (Int32 × zy_S)) (g195 : zy_S → Option (Int32 × zy_S)) (g196 : zy_S → Option (Int32 × zy_S)) (g197 : zy_S → Option (Int32 × zy_S))   (s : zy_S) : Option (Int32 × zy_S) :=
(g195 s).bind fun p7 =>
(zyF198 p7.2).bind fun p8 =>
if 0 ≤ (p8.2.1 43 15) then
some (p7.1, p8.2)
else
if p8.1 = (60 : Int32) then
zyF194_37 g192 g193 g194 g195 g196 g197 p7.1 p8.1 p8.2
else
if p8.1 = (61 : Int32) then
zyF194_37 g192 g193 g194 g195 g196 g197 p7.1 p8.1 p8.2
else
if p8.1 = (62 : Int32) then
zyF194_37 g192 g193 g194 g195 g196 g197 p7.1 p8.1 p8.2
else
some (p7.1, p8.2)
theorem zyC194_0 {X : zx_X} {d : Nat} {g192 : zy_S → Option (Int32 × zy_S)} {g193 : zy_S → Option (Int32 × zy_S)} {g194 : zy_S → Option (Int32 × zy_S)} {g195 : zy_S → Option (Int32 × zy_S)} {g196 : zy_S → Option (Int32 × zy_S)} {g197 : zy_S → Option (Int32 × zy_S)}  (hd : 1 ≤ d) (hg192 : ∀  (s : zy_S) (r : Int32) (s' : zy_S), g192 s = some (r, s') → zyR X d 192 0 [some (.ref (43 + 3)), none, none] [] s (zyE (some (.int r)) s')) (hg193 : ∀  (s : zy_S) (r : Int32) (s' : zy_S), g193 s = some (r, s') → zyR X d 193 0 [some (.ref (43 + 3)), none, none] [] s (zyE (some (.int r)) s')) (hg194 : ∀  (s : zy_S) (r : Int32) (s' : zy_S), g194 s = some (r, s') → zyR X d 194 0 [some (.ref (43 + 3)), none, none, none] [] s (zyE (some (.int r)) s')) (hg195 : ∀  (s : zy_S) (r : Int32) (s' : zy_S), g195 s = some (r, s') → zyR X d 195 0 [some (.ref (43 + 3)), none, none, none] [] s (zyE (some (.int r)) s')) (hg196 : ∀  (s : zy_S) (r : Int32) (s' : zy_S), g196 s = some (r, s') → zyR X d 196 0 [some (.ref (43 + 3)), none, none, none] [] s (zyE (some (.int r)) s')) (hg197 : ∀  (s : zy_S) (r : Int32) (s' : zy_S), g197 s = some (r, s') → zyR X d 197 0 [some (.ref (43 + 3)), none, none, none, none] [] s (zyE (some (.int r)) s'))   {s : zy_S} {r : Int32} {s' : zy_S}  (h : zyF194_0 g192 g193 g194 g195 g196 g197 s = some (r, s')) : zyR X (d + 1) 194 0 [some (.ref (43 + 3)), none, none, none] [] s (zyE (some (.int r)) s') := by
  unfold zyF194_0 at h
  refine zy_0 rfl rfl (show zyR _ _ _ _ [some (.ref (43 + 3)), none, none, none] [.ref (43 + 3)] _ _ from ?_)
  obtain ⟨p7, hp7, h⟩ := zy_bind h
  refine zy_5 (c := 43) (as := []) (rest := []) (L := [some (.ref (43 + 3)), none, none, none]) (d' := d) rfl rfl rfl (Nat.le_of_ble_eq_true rfl) (by omega) rfl (Nat.le_of_ble_eq_true rfl) rfl rfl (hg195 s _ _ hp7) ?_
  show zyR _ _ _ _ [some (.ref (43 + 3)), none, none, none] [.int p7.1] _ _
  refine zy_23 rfl rfl (show zyR _ _ _ _ [some (.ref (43 + 3)), some (.int p7.1), none, none] [] _ _ from ?_)
  refine zy_0 rfl rfl (show zyR _ _ _ _ [some (.ref (43 + 3)), some (.int p7.1), none, none] [.ref (43 + 3)] _ _ from ?_)
  obtain ⟨p8, hp8, h⟩ := zy_bind h
  refine zy_5 (c := 43) (as := []) (rest := []) (L := [some (.ref (43 + 3))]) (d' := 1) rfl rfl rfl (Nat.le_of_ble_eq_true rfl) (by omega) rfl (Nat.le_of_ble_eq_true rfl) rfl rfl (zyC198 hp8) ?_
  show zyR _ _ _ _ [some (.ref (43 + 3)), some (.int p7.1), none, none] [.int p8.1] _ _
  refine zy_23 rfl rfl (show zyR _ _ _ _ [some (.ref (43 + 3)), some (.int p7.1), some (.int p8.1), none] [] _ _ from ?_)
  refine zy_0 rfl rfl (show zyR _ _ _ _ [some (.ref (43 + 3)), some (.int p7.1), some (.int p8.1), none] [.ref (43 + 3)] _ _ from ?_)
  refine zy_1 (c := 43) rfl rfl rfl (show zyR _ _ _ _ [some (.ref (43 + 3)), some (.int p7.1), some (.int p8.1), none] [.int (p8.2.1 43 15)] _ _ from ?_)
  refine zy_24_3 rfl (fun b12 => (show zyR _ _ _ _ [some (.ref (43 + 3)), some (.int p7.1), some (.int p8.1), none] [] _ _ from ?_)) (fun b12 => (show zyR _ _ _ _ [some (.ref (43 + 3)), some (.int p7.1), some (.int p8.1), none] [] _ _ from ?_))
  · replace h := zy_ifp h b12
    refine zy_2 rfl rfl (show zyR _ _ _ _ [some (.ref (43 + 3)), some (.int p7.1), some (.int p8.1), none] [.int p7.1] _ _ from ?_)
    obtain ⟨rfl, rfl⟩ := zy_pi h
    exact zy_4 rfl ⟨rfl, rfl⟩
  · replace h := zy_ifn h b12
    refine zy_2 rfl rfl (show zyR _ _ _ _ [some (.ref (43 + 3)), some (.int p7.1), some (.int p8.1), none] [.int p8.1] _ _ from ?_)
    refine zy_3 rfl rfl (show zyR _ _ _ _ [some (.ref (43 + 3)), some (.int p7.1), some (.int p8.1), none] [.int (60 : Int32), .int p8.1] _ _ from ?_)
    refine zy_25_0 rfl (fun b11 => (show zyR _ _ _ _ [some (.ref (43 + 3)), some (.int p7.1), some (.int p8.1), none] [] _ _ from ?_)) (fun b11 => (show zyR _ _ _ _ [some (.ref (43 + 3)), some (.int p7.1), some (.int p8.1), none] [] _ _ from ?_))
    · replace h := zy_ifp h b11
      exact zy_sub (show zy_le [some (.ref (43 + 3)), some (.int p7.1), some (.int p8.1), none] [some (.ref (43 + 3)), some (.int p7.1), some (.int p8.1), none] from ⟨rfl, ⟨rfl, ⟨rfl, trivial⟩⟩⟩) (zyC194_37 hd hg192 hg193 hg194 hg195 hg196 hg197 h)
    · replace h := zy_ifn h b11
      refine zy_2 rfl rfl (show zyR _ _ _ _ [some (.ref (43 + 3)), some (.int p7.1), some (.int p8.1), none] [.int p8.1] _ _ from ?_)
      refine zy_3 rfl rfl (show zyR _ _ _ _ [some (.ref (43 + 3)), some (.int p7.1), some (.int p8.1), none] [.int (61 : Int32), .int p8.1] _ _ from ?_)
      refine zy_25_0 rfl (fun b10 => (show zyR _ _ _ _ [some (.ref (43 + 3)), some (.int p7.1), some (.int p8.1), none] [] _ _ from ?_)) (fun b10 => (show zyR _ _ _ _ [some (.ref (43 + 3)), some (.int p7.1), some (.int p8.1), none] [] _ _ from ?_))
      · replace h := zy_ifp h b10
        exact zy_sub (show zy_le [some (.ref (43 + 3)), some (.int p7.1), some (.int p8.1), none] [some (.ref (43 + 3)), some (.int p7.1), some (.int p8.1), none] from ⟨rfl, ⟨rfl, ⟨rfl, trivial⟩⟩⟩) (zyC194_37 hd hg192 hg193 hg194 hg195 hg196 hg197 h)
      · replace h := zy_ifn h b10
        refine zy_2 rfl rfl (show zyR _ _ _ _ [some (.ref (43 + 3)), some (.int p7.1), some (.int p8.1), none] [.int p8.1] _ _ from ?_)
        refine zy_3 rfl rfl (show zyR _ _ _ _ [some (.ref (43 + 3)), some (.int p7.1), some (.int p8.1), none] [.int (62 : Int32), .int p8.1] _ _ from ?_)
        refine zy_25_0 rfl (fun b9 => (show zyR _ _ _ _ [some (.ref (43 + 3)), some (.int p7.1), some (.int p8.1), none] [] _ _ from ?_)) (fun b9 => (show zyR _ _ _ _ [some (.ref (43 + 3)), some (.int p7.1), some (.int p8.1), none] [] _ _ from ?_))
        · replace h := zy_ifp h b9
          exact zy_sub (show zy_le [some (.ref (43 + 3)), some (.int p7.1), some (.int p8.1), none] [some (.ref (43 + 3)), some (.int p7.1), some (.int p8.1), none] from ⟨rfl, ⟨rfl, ⟨rfl, trivial⟩⟩⟩) (zyC194_37 hd hg192 hg193 hg194 hg195 hg196 hg197 h)
        · replace h := zy_ifn h b9
          refine zy_2 rfl rfl (show zyR _ _ _ _ [some (.ref (43 + 3)), some (.int p7.1), some (.int p8.1), none] [.int p7.1] _ _ from ?_)
          obtain ⟨rfl, rfl⟩ := zy_pi h
          exact zy_4 rfl ⟨rfl, rfl⟩
noncomputable def zyF195_73 (g192 : zy_S → Option (Int32 × zy_S)) (g193 : zy_S → Option (Int32 × zy_S)) (g194 : zy_S → Option (Int32 × zy_S)) (g195 : zy_S → Option (Int32 × zy_S)) (g196 : zy_S → Option (Int32 × zy_S)) (g197 : zy_S → Option (Int32 × zy_S)) (k5 : Int32 → zy_S → Option (Int32 × zy_S)) (y0 : Int32) (s : zy_S) : Option (Int32 × zy_S) :=
k5 y0 s
theorem zyC195_73 {X : zx_X} {d : Nat} {g192 : zy_S → Option (Int32 × zy_S)} {g193 : zy_S → Option (Int32 × zy_S)} {g194 : zy_S → Option (Int32 × zy_S)} {g195 : zy_S → Option (Int32 × zy_S)} {g196 : zy_S → Option (Int32 × zy_S)} {g197 : zy_S → Option (Int32 × zy_S)} {k5 : Int32 → zy_S → Option (Int32 × zy_S)} (hd : 1 ≤ d) (hg192 : ∀  (s : zy_S) (r : Int32) (s' : zy_S), g192 s = some (r, s') → zyR X d 192 0 [some (.ref (43 + 3)), none, none] [] s (zyE (some (.int r)) s')) (hg193 : ∀  (s : zy_S) (r : Int32) (s' : zy_S), g193 s = some (r, s') → zyR X d 193 0 [some (.ref (43 + 3)), none, none] [] s (zyE (some (.int r)) s')) (hg194 : ∀  (s : zy_S) (r : Int32) (s' : zy_S), g194 s = some (r, s') → zyR X d 194 0 [some (.ref (43 + 3)), none, none, none] [] s (zyE (some (.int r)) s')) (hg195 : ∀  (s : zy_S) (r : Int32) (s' : zy_S), g195 s = some (r, s') → zyR X d 195 0 [some (.ref (43 + 3)), none, none, none] [] s (zyE (some (.int r)) s')) (hg196 : ∀  (s : zy_S) (r : Int32) (s' : zy_S), g196 s = some (r, s') → zyR X d 196 0 [some (.ref (43 + 3)), none, none, none] [] s (zyE (some (.int r)) s')) (hg197 : ∀  (s : zy_S) (r : Int32) (s' : zy_S), g197 s = some (r, s') → zyR X d 197 0 [some (.ref (43 + 3)), none, none, none, none] [] s (zyE (some (.int r)) s')) (hk5 : ∀ (x1 : Int32) (s : zy_S) (r : Int32) (s' : zy_S), k5 x1 s = some (r, s') → zyR X (d + 1) 195 5 [some (.ref (43 + 3)), some (.int x1), none, none] [] s (zyE (some (.int r)) s')) {y0 : Int32} {s : zy_S} {r : Int32} {s' : zy_S}  (h : zyF195_73 g192 g193 g194 g195 g196 g197 k5 y0 s = some (r, s')) : zyR X (d + 1) 195 73 [some (.ref (43 + 3)), none, none, none] [.int y0] s (zyE (some (.int r)) s') := by
  unfold zyF195_73 at h
  refine zy_23 rfl rfl (show zyR _ _ _ _ [some (.ref (43 + 3)), some (.int y0), none, none] [] _ _ from ?_)
  refine zy_6 rfl (show zyR _ _ _ _ [some (.ref (43 + 3)), some (.int y0), none, none] [] _ _ from ?_)
  exact zy_sub (show zy_le [some (.ref (43 + 3)), some (.int y0), none, none] [some (.ref (43 + 3)), some (.int y0), none, none] from ⟨rfl, ⟨rfl, trivial⟩⟩) (hk5 y0 s _ _ h)
noncomputable def zyF195_44 (g192 : zy_S → Option (Int32 × zy_S)) (g193 : zy_S → Option (Int32 × zy_S)) (g194 : zy_S → Option (Int32 × zy_S)) (g195 : zy_S → Option (Int32 × zy_S)) (g196 : zy_S → Option (Int32 × zy_S)) (g197 : zy_S → Option (Int32 × zy_S)) (k5 : Int32 → zy_S → Option (Int32 × zy_S)) (x1 : Int32) (y0 : Int32) (s : zy_S) : Option (Int32 × zy_S) :=
(g196 (zy_up s 43 13 ((s.1 43 13) + (1 : Int32)))).bind fun p1 =>
if y0 = 0 then
zyF195_73 g192 g193 g194 g195 g196 g197 k5 (x1 - p1.1) p1.2
else
zyF195_73 g192 g193 g194 g195 g196 g197 k5 (x1 + p1.1) p1.2
theorem zyC195_44 {X : zx_X} {d : Nat} {g192 : zy_S → Option (Int32 × zy_S)} {g193 : zy_S → Option (Int32 × zy_S)} {g194 : zy_S → Option (Int32 × zy_S)} {g195 : zy_S → Option (Int32 × zy_S)} {g196 : zy_S → Option (Int32 × zy_S)} {g197 : zy_S → Option (Int32 × zy_S)} {k5 : Int32 → zy_S → Option (Int32 × zy_S)} (hd : 1 ≤ d) (hg192 : ∀  (s : zy_S) (r : Int32) (s' : zy_S), g192 s = some (r, s') → zyR X d 192 0 [some (.ref (43 + 3)), none, none] [] s (zyE (some (.int r)) s')) (hg193 : ∀  (s : zy_S) (r : Int32) (s' : zy_S), g193 s = some (r, s') → zyR X d 193 0 [some (.ref (43 + 3)), none, none] [] s (zyE (some (.int r)) s')) (hg194 : ∀  (s : zy_S) (r : Int32) (s' : zy_S), g194 s = some (r, s') → zyR X d 194 0 [some (.ref (43 + 3)), none, none, none] [] s (zyE (some (.int r)) s')) (hg195 : ∀  (s : zy_S) (r : Int32) (s' : zy_S), g195 s = some (r, s') → zyR X d 195 0 [some (.ref (43 + 3)), none, none, none] [] s (zyE (some (.int r)) s')) (hg196 : ∀  (s : zy_S) (r : Int32) (s' : zy_S), g196 s = some (r, s') → zyR X d 196 0 [some (.ref (43 + 3)), none, none, none] [] s (zyE (some (.int r)) s')) (hg197 : ∀  (s : zy_S) (r : Int32) (s' : zy_S), g197 s = some (r, s') → zyR X d 197 0 [some (.ref (43 + 3)), none, none, none, none] [] s (zyE (some (.int r)) s')) (hk5 : ∀ (x1 : Int32) (s : zy_S) (r : Int32) (s' : zy_S), k5 x1 s = some (r, s') → zyR X (d + 1) 195 5 [some (.ref (43 + 3)), some (.int x1), none, none] [] s (zyE (some (.int r)) s')) {x1 : Int32} {y0 : Int32} {s : zy_S} {r : Int32} {s' : zy_S}  (h : zyF195_44 g192 g193 g194 g195 g196 g197 k5 x1 y0 s = some (r, s')) : zyR X (d + 1) 195 44 [some (.ref (43 + 3)), some (.int x1), none, none] [.int y0] s (zyE (some (.int r)) s') := by
  unfold zyF195_44 at h
  refine zy_23 rfl rfl (show zyR _ _ _ _ [some (.ref (43 + 3)), some (.int x1), some (.int y0), none] [] _ _ from ?_)
  refine zy_0 rfl rfl (show zyR _ _ _ _ [some (.ref (43 + 3)), some (.int x1), some (.int y0), none] [.ref (43 + 3)] _ _ from ?_)
  refine zy_33 rfl rfl (show zyR _ _ _ _ [some (.ref (43 + 3)), some (.int x1), some (.int y0), none] [.ref (43 + 3), .ref (43 + 3)] _ _ from ?_)
  refine zy_1 (c := 43) rfl rfl rfl (show zyR _ _ _ _ [some (.ref (43 + 3)), some (.int x1), some (.int y0), none] [.int (s.1 43 13), .ref (43 + 3)] _ _ from ?_)
  refine zy_3 rfl rfl (show zyR _ _ _ _ [some (.ref (43 + 3)), some (.int x1), some (.int y0), none] [.int (1 : Int32), .int (s.1 43 13), .ref (43 + 3)] _ _ from ?_)
  refine zy_10 rfl (show zyR _ _ _ _ [some (.ref (43 + 3)), some (.int x1), some (.int y0), none] [.int ((s.1 43 13) + (1 : Int32)), .ref (43 + 3)] _ _ from ?_)
  refine zy_52 (c := 43) rfl rfl rfl (show zyR _ _ _ _ [some (.ref (43 + 3)), some (.int x1), some (.int y0), none] [] _ _ from ?_)
  refine zy_0 rfl rfl (show zyR _ _ _ _ [some (.ref (43 + 3)), some (.int x1), some (.int y0), none] [.ref (43 + 3)] _ _ from ?_)
  obtain ⟨p1, hp1, h⟩ := zy_bind h
  refine zy_5 (c := 43) (as := []) (rest := []) (L := [some (.ref (43 + 3)), none, none, none]) (d' := d) rfl rfl rfl (Nat.le_of_ble_eq_true rfl) (by omega) rfl (Nat.le_of_ble_eq_true rfl) rfl rfl (hg196 (zy_up s 43 13 ((s.1 43 13) + (1 : Int32))) _ _ hp1) ?_
  show zyR _ _ _ _ [some (.ref (43 + 3)), some (.int x1), some (.int y0), none] [.int p1.1] _ _
  refine zy_23 rfl rfl (show zyR _ _ _ _ [some (.ref (43 + 3)), some (.int x1), some (.int y0), some (.int p1.1)] [] _ _ from ?_)
  refine zy_2 rfl rfl (show zyR _ _ _ _ [some (.ref (43 + 3)), some (.int x1), some (.int y0), some (.int p1.1)] [.int y0] _ _ from ?_)
  refine zy_24_0 rfl (fun b2 => (show zyR _ _ _ _ [some (.ref (43 + 3)), some (.int x1), some (.int y0), some (.int p1.1)] [] _ _ from ?_)) (fun b2 => (show zyR _ _ _ _ [some (.ref (43 + 3)), some (.int x1), some (.int y0), some (.int p1.1)] [] _ _ from ?_))
  · replace h := zy_ifp h b2
    refine zy_2 rfl rfl (show zyR _ _ _ _ [some (.ref (43 + 3)), some (.int x1), some (.int y0), some (.int p1.1)] [.int x1] _ _ from ?_)
    refine zy_2 rfl rfl (show zyR _ _ _ _ [some (.ref (43 + 3)), some (.int x1), some (.int y0), some (.int p1.1)] [.int p1.1, .int x1] _ _ from ?_)
    refine zy_11 rfl (show zyR _ _ _ _ [some (.ref (43 + 3)), some (.int x1), some (.int y0), some (.int p1.1)] [.int (x1 - p1.1)] _ _ from ?_)
    exact zy_sub (show zy_le [some (.ref (43 + 3)), none, none, none] [some (.ref (43 + 3)), some (.int x1), some (.int y0), some (.int p1.1)] from ⟨rfl, trivial⟩) (zyC195_73 hd hg192 hg193 hg194 hg195 hg196 hg197 hk5 h)
  · replace h := zy_ifn h b2
    refine zy_2 rfl rfl (show zyR _ _ _ _ [some (.ref (43 + 3)), some (.int x1), some (.int y0), some (.int p1.1)] [.int x1] _ _ from ?_)
    refine zy_2 rfl rfl (show zyR _ _ _ _ [some (.ref (43 + 3)), some (.int x1), some (.int y0), some (.int p1.1)] [.int p1.1, .int x1] _ _ from ?_)
    refine zy_10 rfl (show zyR _ _ _ _ [some (.ref (43 + 3)), some (.int x1), some (.int y0), some (.int p1.1)] [.int (x1 + p1.1)] _ _ from ?_)
    refine zy_6 rfl (show zyR _ _ _ _ [some (.ref (43 + 3)), some (.int x1), some (.int y0), some (.int p1.1)] [.int (x1 + p1.1)] _ _ from ?_)
    exact zy_sub (show zy_le [some (.ref (43 + 3)), none, none, none] [some (.ref (43 + 3)), some (.int x1), some (.int y0), some (.int p1.1)] from ⟨rfl, trivial⟩) (zyC195_73 hd hg192 hg193 hg194 hg195 hg196 hg197 hk5 h)
noncomputable def zyF195_30 (g192 : zy_S → Option (Int32 × zy_S)) (g193 : zy_S → Option (Int32 × zy_S)) (g194 : zy_S → Option (Int32 × zy_S)) (g195 : zy_S → Option (Int32 × zy_S)) (g196 : zy_S → Option (Int32 × zy_S)) (g197 : zy_S → Option (Int32 × zy_S)) (k5 : Int32 → zy_S → Option (Int32 × zy_S)) (x1 : Int32) (s : zy_S) : Option (Int32 × zy_S) :=
(zyF198 s).bind fun p3 =>
if p3.1 ≠ (43 : Int32) then
zyF195_44 g192 g193 g194 g195 g196 g197 k5 x1 (0 : Int32) p3.2
else
zyF195_44 g192 g193 g194 g195 g196 g197 k5 x1 (1 : Int32) p3.2
theorem zyC195_30 {X : zx_X} {d : Nat} {g192 : zy_S → Option (Int32 × zy_S)} {g193 : zy_S → Option (Int32 × zy_S)} {g194 : zy_S → Option (Int32 × zy_S)} {g195 : zy_S → Option (Int32 × zy_S)} {g196 : zy_S → Option (Int32 × zy_S)} {g197 : zy_S → Option (Int32 × zy_S)} {k5 : Int32 → zy_S → Option (Int32 × zy_S)} (hd : 1 ≤ d) (hg192 : ∀  (s : zy_S) (r : Int32) (s' : zy_S), g192 s = some (r, s') → zyR X d 192 0 [some (.ref (43 + 3)), none, none] [] s (zyE (some (.int r)) s')) (hg193 : ∀  (s : zy_S) (r : Int32) (s' : zy_S), g193 s = some (r, s') → zyR X d 193 0 [some (.ref (43 + 3)), none, none] [] s (zyE (some (.int r)) s')) (hg194 : ∀  (s : zy_S) (r : Int32) (s' : zy_S), g194 s = some (r, s') → zyR X d 194 0 [some (.ref (43 + 3)), none, none, none] [] s (zyE (some (.int r)) s')) (hg195 : ∀  (s : zy_S) (r : Int32) (s' : zy_S), g195 s = some (r, s') → zyR X d 195 0 [some (.ref (43 + 3)), none, none, none] [] s (zyE (some (.int r)) s')) (hg196 : ∀  (s : zy_S) (r : Int32) (s' : zy_S), g196 s = some (r, s') → zyR X d 196 0 [some (.ref (43 + 3)), none, none, none] [] s (zyE (some (.int r)) s')) (hg197 : ∀  (s : zy_S) (r : Int32) (s' : zy_S), g197 s = some (r, s') → zyR X d 197 0 [some (.ref (43 + 3)), none, none, none, none] [] s (zyE (some (.int r)) s')) (hk5 : ∀ (x1 : Int32) (s : zy_S) (r : Int32) (s' : zy_S), k5 x1 s = some (r, s') → zyR X (d + 1) 195 5 [some (.ref (43 + 3)), some (.int x1), none, none] [] s (zyE (some (.int r)) s')) {x1 : Int32} {s : zy_S} {r : Int32} {s' : zy_S}  (h : zyF195_30 g192 g193 g194 g195 g196 g197 k5 x1 s = some (r, s')) : zyR X (d + 1) 195 30 [some (.ref (43 + 3)), some (.int x1), none, none] [] s (zyE (some (.int r)) s') := by
  unfold zyF195_30 at h
  refine zy_0 rfl rfl (show zyR _ _ _ _ [some (.ref (43 + 3)), some (.int x1), none, none] [.ref (43 + 3)] _ _ from ?_)
  obtain ⟨p3, hp3, h⟩ := zy_bind h
  refine zy_5 (c := 43) (as := []) (rest := []) (L := [some (.ref (43 + 3))]) (d' := 1) rfl rfl rfl (Nat.le_of_ble_eq_true rfl) (by omega) rfl (Nat.le_of_ble_eq_true rfl) rfl rfl (zyC198 hp3) ?_
  show zyR _ _ _ _ [some (.ref (43 + 3)), some (.int x1), none, none] [.int p3.1] _ _
  refine zy_3 rfl rfl (show zyR _ _ _ _ [some (.ref (43 + 3)), some (.int x1), none, none] [.int (43 : Int32), .int p3.1] _ _ from ?_)
  refine zy_25_1 rfl (fun b4 => (show zyR _ _ _ _ [some (.ref (43 + 3)), some (.int x1), none, none] [] _ _ from ?_)) (fun b4 => (show zyR _ _ _ _ [some (.ref (43 + 3)), some (.int x1), none, none] [] _ _ from ?_))
  · replace h := zy_ifp h b4
    refine zy_3 rfl rfl (show zyR _ _ _ _ [some (.ref (43 + 3)), some (.int x1), none, none] [.int (0 : Int32)] _ _ from ?_)
    exact zy_sub (show zy_le [some (.ref (43 + 3)), some (.int x1), none, none] [some (.ref (43 + 3)), some (.int x1), none, none] from ⟨rfl, ⟨rfl, trivial⟩⟩) (zyC195_44 hd hg192 hg193 hg194 hg195 hg196 hg197 hk5 h)
  · replace h := zy_ifn h b4
    refine zy_3 rfl rfl (show zyR _ _ _ _ [some (.ref (43 + 3)), some (.int x1), none, none] [.int (1 : Int32)] _ _ from ?_)
    refine zy_6 rfl (show zyR _ _ _ _ [some (.ref (43 + 3)), some (.int x1), none, none] [.int (1 : Int32)] _ _ from ?_)
    exact zy_sub (show zy_le [some (.ref (43 + 3)), some (.int x1), none, none] [some (.ref (43 + 3)), some (.int x1), none, none] from ⟨rfl, ⟨rfl, trivial⟩⟩) (zyC195_44 hd hg192 hg193 hg194 hg195 hg196 hg197 hk5 h)
noncomputable def zyF195_5b (g192 : zy_S → Option (Int32 × zy_S)) (g193 : zy_S → Option (Int32 × zy_S)) (g194 : zy_S → Option (Int32 × zy_S)) (g195 : zy_S → Option (Int32 × zy_S)) (g196 : zy_S → Option (Int32 × zy_S)) (g197 : zy_S → Option (Int32 × zy_S)) (k5 : Int32 → zy_S → Option (Int32 × zy_S)) (x1 : Int32) (s : zy_S) : Option (Int32 × zy_S) :=
if 0 ≤ (s.1 43 15) then
some (x1, s)
else
(zyF198 s).bind fun p5 =>
if p5.1 = (43 : Int32) then
zyF195_30 g192 g193 g194 g195 g196 g197 k5 x1 p5.2
else
(zyF198 p5.2).bind fun p6 =>
if p6.1 ≠ (45 : Int32) then
some (x1, p6.2)
else
zyF195_30 g192 g193 g194 g195 g196 g197 k5 x1 p6.2
theorem zyC195_5b {X : zx_X} {d : Nat} {g192 : zy_S → Option (Int32 × zy_S)} {g193 : zy_S → Option (Int32 × zy_S)} {g194 : zy_S → Option (Int32 × zy_S)} {g195 : zy_S → Option (Int32 × zy_S)} {g196 : zy_S → Option (Int32 × zy_S)} {g197 : zy_S → Option (Int32 × zy_S)} {k5 : Int32 → zy_S → Option (Int32 × zy_S)} (hd : 1 ≤ d) (hg192 : ∀  (s : zy_S) (r : Int32) (s' : zy_S), g192 s = some (r, s') → zyR X d 192 0 [some (.ref (43 + 3)), none, none] [] s (zyE (some (.int r)) s')) (hg193 : ∀  (s : zy_S) (r : Int32) (s' : zy_S), g193 s = some (r, s') → zyR X d 193 0 [some (.ref (43 + 3)), none, none] [] s (zyE (some (.int r)) s')) (hg194 : ∀  (s : zy_S) (r : Int32) (s' : zy_S), g194 s = some (r, s') → zyR X d 194 0 [some (.ref (43 + 3)), none, none, none] [] s (zyE (some (.int r)) s')) (hg195 : ∀  (s : zy_S) (r : Int32) (s' : zy_S), g195 s = some (r, s') → zyR X d 195 0 [some (.ref (43 + 3)), none, none, none] [] s (zyE (some (.int r)) s')) (hg196 : ∀  (s : zy_S) (r : Int32) (s' : zy_S), g196 s = some (r, s') → zyR X d 196 0 [some (.ref (43 + 3)), none, none, none] [] s (zyE (some (.int r)) s')) (hg197 : ∀  (s : zy_S) (r : Int32) (s' : zy_S), g197 s = some (r, s') → zyR X d 197 0 [some (.ref (43 + 3)), none, none, none, none] [] s (zyE (some (.int r)) s')) (hk5 : ∀ (x1 : Int32) (s : zy_S) (r : Int32) (s' : zy_S), k5 x1 s = some (r, s') → zyR X (d + 1) 195 5 [some (.ref (43 + 3)), some (.int x1), none, none] [] s (zyE (some (.int r)) s')) {x1 : Int32} {s : zy_S} {r : Int32} {s' : zy_S}  (h : zyF195_5b g192 g193 g194 g195 g196 g197 k5 x1 s = some (r, s')) : zyR X (d + 1) 195 5 [some (.ref (43 + 3)), some (.int x1), none, none] [] s (zyE (some (.int r)) s') := by
  unfold zyF195_5b at h
  refine zy_0 rfl rfl (show zyR _ _ _ _ [some (.ref (43 + 3)), some (.int x1), none, none] [.ref (43 + 3)] _ _ from ?_)
  refine zy_1 (c := 43) rfl rfl rfl (show zyR _ _ _ _ [some (.ref (43 + 3)), some (.int x1), none, none] [.int (s.1 43 15)] _ _ from ?_)
  refine zy_24_3 rfl (fun b9 => (show zyR _ _ _ _ [some (.ref (43 + 3)), some (.int x1), none, none] [] _ _ from ?_)) (fun b9 => (show zyR _ _ _ _ [some (.ref (43 + 3)), some (.int x1), none, none] [] _ _ from ?_))
  · replace h := zy_ifp h b9
    refine zy_2 rfl rfl (show zyR _ _ _ _ [some (.ref (43 + 3)), some (.int x1), none, none] [.int x1] _ _ from ?_)
    obtain ⟨rfl, rfl⟩ := zy_pi h
    exact zy_4 rfl ⟨rfl, rfl⟩
  · replace h := zy_ifn h b9
    refine zy_0 rfl rfl (show zyR _ _ _ _ [some (.ref (43 + 3)), some (.int x1), none, none] [.ref (43 + 3)] _ _ from ?_)
    obtain ⟨p5, hp5, h⟩ := zy_bind h
    refine zy_5 (c := 43) (as := []) (rest := []) (L := [some (.ref (43 + 3))]) (d' := 1) rfl rfl rfl (Nat.le_of_ble_eq_true rfl) (by omega) rfl (Nat.le_of_ble_eq_true rfl) rfl rfl (zyC198 hp5) ?_
    show zyR _ _ _ _ [some (.ref (43 + 3)), some (.int x1), none, none] [.int p5.1] _ _
    refine zy_3 rfl rfl (show zyR _ _ _ _ [some (.ref (43 + 3)), some (.int x1), none, none] [.int (43 : Int32), .int p5.1] _ _ from ?_)
    refine zy_25_0 rfl (fun b8 => (show zyR _ _ _ _ [some (.ref (43 + 3)), some (.int x1), none, none] [] _ _ from ?_)) (fun b8 => (show zyR _ _ _ _ [some (.ref (43 + 3)), some (.int x1), none, none] [] _ _ from ?_))
    · replace h := zy_ifp h b8
      exact zy_sub (show zy_le [some (.ref (43 + 3)), some (.int x1), none, none] [some (.ref (43 + 3)), some (.int x1), none, none] from ⟨rfl, ⟨rfl, trivial⟩⟩) (zyC195_30 hd hg192 hg193 hg194 hg195 hg196 hg197 hk5 h)
    · replace h := zy_ifn h b8
      refine zy_0 rfl rfl (show zyR _ _ _ _ [some (.ref (43 + 3)), some (.int x1), none, none] [.ref (43 + 3)] _ _ from ?_)
      obtain ⟨p6, hp6, h⟩ := zy_bind h
      refine zy_5 (c := 43) (as := []) (rest := []) (L := [some (.ref (43 + 3))]) (d' := 1) rfl rfl rfl (Nat.le_of_ble_eq_true rfl) (by omega) rfl (Nat.le_of_ble_eq_true rfl) rfl rfl (zyC198 hp6) ?_
      show zyR _ _ _ _ [some (.ref (43 + 3)), some (.int x1), none, none] [.int p6.1] _ _
      refine zy_3 rfl rfl (show zyR _ _ _ _ [some (.ref (43 + 3)), some (.int x1), none, none] [.int (45 : Int32), .int p6.1] _ _ from ?_)
      refine zy_25_1 rfl (fun b7 => (show zyR _ _ _ _ [some (.ref (43 + 3)), some (.int x1), none, none] [] _ _ from ?_)) (fun b7 => (show zyR _ _ _ _ [some (.ref (43 + 3)), some (.int x1), none, none] [] _ _ from ?_))
      · replace h := zy_ifp h b7
        refine zy_2 rfl rfl (show zyR _ _ _ _ [some (.ref (43 + 3)), some (.int x1), none, none] [.int x1] _ _ from ?_)
        obtain ⟨rfl, rfl⟩ := zy_pi h
        exact zy_4 rfl ⟨rfl, rfl⟩
      · replace h := zy_ifn h b7
        exact zy_sub (show zy_le [some (.ref (43 + 3)), some (.int x1), none, none] [some (.ref (43 + 3)), some (.int x1), none, none] from ⟨rfl, ⟨rfl, trivial⟩⟩) (zyC195_30 hd hg192 hg193 hg194 hg195 hg196 hg197 hk5 h)
noncomputable def zyF195_5 (g192 : zy_S → Option (Int32 × zy_S)) (g193 : zy_S → Option (Int32 × zy_S)) (g194 : zy_S → Option (Int32 × zy_S)) (g195 : zy_S → Option (Int32 × zy_S)) (g196 : zy_S → Option (Int32 × zy_S)) (g197 : zy_S → Option (Int32 × zy_S))  (n : Nat) : Int32 → zy_S → Option (Int32 × zy_S) := Nat.rec (fun _ _ => none) (fun _ k5 => zyF195_5b g192 g193 g194 g195 g196 g197 k5) n
theorem zyC195_5 {X : zx_X} {d : Nat} {g192 : zy_S → Option (Int32 × zy_S)} {g193 : zy_S → Option (Int32 × zy_S)} {g194 : zy_S → Option (Int32 × zy_S)} {g195 : zy_S → Option (Int32 × zy_S)} {g196 : zy_S → Option (Int32 × zy_S)} {g197 : zy_S → Option (Int32 × zy_S)}  (hd : 1 ≤ d) (hg192 : ∀  (s : zy_S) (r : Int32) (s' : zy_S), g192 s = some (r, s') → zyR X d 192 0 [some (.ref (43 + 3)), none, none] [] s (zyE (some (.int r)) s')) (hg193 : ∀  (s : zy_S) (r : Int32) (s' : zy_S), g193 s = some (r, s') → zyR X d 193 0 [some (.ref (43 + 3)), none, none] [] s (zyE (some (.int r)) s')) (hg194 : ∀  (s : zy_S) (r : Int32) (s' : zy_S), g194 s = some (r, s') → zyR X d 194 0 [some (.ref (43 + 3)), none, none, none] [] s (zyE (some (.int r)) s')) (hg195 : ∀  (s : zy_S) (r : Int32) (s' : zy_S), g195 s = some (r, s') → zyR X d 195 0 [some (.ref (43 + 3)), none, none, none] [] s (zyE (some (.int r)) s')) (hg196 : ∀  (s : zy_S) (r : Int32) (s' : zy_S), g196 s = some (r, s') → zyR X d 196 0 [some (.ref (43 + 3)), none, none, none] [] s (zyE (some (.int r)) s')) (hg197 : ∀  (s : zy_S) (r : Int32) (s' : zy_S), g197 s = some (r, s') → zyR X d 197 0 [some (.ref (43 + 3)), none, none, none, none] [] s (zyE (some (.int r)) s'))  : ∀ (n : Nat) (x1 : Int32) (s : zy_S) (r : Int32) (s' : zy_S), zyF195_5 g192 g193 g194 g195 g196 g197 n x1 s = some (r, s') → zyR X (d + 1) 195 5 [some (.ref (43 + 3)), some (.int x1), none, none] [] s (zyE (some (.int r)) s')
  | 0, _ => by
    intro s r s'  h
    have h : (none : Option (Int32 × zy_S)) = some (r, s') := h
    cases h
  | n + 1, x1 => by
    intro s r s'  h
    exact zyC195_5b hd hg192 hg193 hg194 hg195 hg196 hg197 (k5 := zyF195_5 g192 g193 g194 g195 g196 g197 n) (fun x1 s r s'  h => zyC195_5 hd hg192 hg193 hg194 hg195 hg196 hg197 n x1 s r s'  h) h
noncomputable def zyF195_0 (g192 : zy_S → Option (Int32 × zy_S)) (g193 : zy_S → Option (Int32 × zy_S)) (g194 : zy_S → Option (Int32 × zy_S)) (g195 : zy_S → Option (Int32 × zy_S)) (g196 : zy_S → Option (Int32 × zy_S)) (g197 : zy_S → Option (Int32 × zy_S))   (s : zy_S) : Option (Int32 × zy_S) :=
(g196 s).bind fun p10 =>
zyF195_5 g192 g193 g194 g195 g196 g197 zy_fu p10.1 p10.2
theorem zyC195_0 {X : zx_X} {d : Nat} {g192 : zy_S → Option (Int32 × zy_S)} {g193 : zy_S → Option (Int32 × zy_S)} {g194 : zy_S → Option (Int32 × zy_S)} {g195 : zy_S → Option (Int32 × zy_S)} {g196 : zy_S → Option (Int32 × zy_S)} {g197 : zy_S → Option (Int32 × zy_S)}  (hd : 1 ≤ d) (hg192 : ∀  (s : zy_S) (r : Int32) (s' : zy_S), g192 s = some (r, s') → zyR X d 192 0 [some (.ref (43 + 3)), none, none] [] s (zyE (some (.int r)) s')) (hg193 : ∀  (s : zy_S) (r : Int32) (s' : zy_S), g193 s = some (r, s') → zyR X d 193 0 [some (.ref (43 + 3)), none, none] [] s (zyE (some (.int r)) s')) (hg194 : ∀  (s : zy_S) (r : Int32) (s' : zy_S), g194 s = some (r, s') → zyR X d 194 0 [some (.ref (43 + 3)), none, none, none] [] s (zyE (some (.int r)) s')) (hg195 : ∀  (s : zy_S) (r : Int32) (s' : zy_S), g195 s = some (r, s') → zyR X d 195 0 [some (.ref (43 + 3)), none, none, none] [] s (zyE (some (.int r)) s')) (hg196 : ∀  (s : zy_S) (r : Int32) (s' : zy_S), g196 s = some (r, s') → zyR X d 196 0 [some (.ref (43 + 3)), none, none, none] [] s (zyE (some (.int r)) s')) (hg197 : ∀  (s : zy_S) (r : Int32) (s' : zy_S), g197 s = some (r, s') → zyR X d 197 0 [some (.ref (43 + 3)), none, none, none, none] [] s (zyE (some (.int r)) s'))   {s : zy_S} {r : Int32} {s' : zy_S}  (h : zyF195_0 g192 g193 g194 g195 g196 g197 s = some (r, s')) : zyR X (d + 1) 195 0 [some (.ref (43 + 3)), none, none, none] [] s (zyE (some (.int r)) s') := by
  unfold zyF195_0 at h
  refine zy_0 rfl rfl (show zyR _ _ _ _ [some (.ref (43 + 3)), none, none, none] [.ref (43 + 3)] _ _ from ?_)
  obtain ⟨p10, hp10, h⟩ := zy_bind h
  refine zy_5 (c := 43) (as := []) (rest := []) (L := [some (.ref (43 + 3)), none, none, none]) (d' := d) rfl rfl rfl (Nat.le_of_ble_eq_true rfl) (by omega) rfl (Nat.le_of_ble_eq_true rfl) rfl rfl (hg196 s _ _ hp10) ?_
  show zyR _ _ _ _ [some (.ref (43 + 3)), none, none, none] [.int p10.1] _ _
  refine zy_23 rfl rfl (show zyR _ _ _ _ [some (.ref (43 + 3)), some (.int p10.1), none, none] [] _ _ from ?_)
  exact zy_sub (show zy_le [some (.ref (43 + 3)), some (.int p10.1), none, none] [some (.ref (43 + 3)), some (.int p10.1), none, none] from ⟨rfl, ⟨rfl, trivial⟩⟩) (zyC195_5 hd hg192 hg193 hg194 hg195 hg196 hg197 zy_fu p10.1 p10.2 _ _ h)
noncomputable def zyF196_85 (g192 : zy_S → Option (Int32 × zy_S)) (g193 : zy_S → Option (Int32 × zy_S)) (g194 : zy_S → Option (Int32 × zy_S)) (g195 : zy_S → Option (Int32 × zy_S)) (g196 : zy_S → Option (Int32 × zy_S)) (g197 : zy_S → Option (Int32 × zy_S)) (k10 : Int32 → Int32 → zy_S → Option (Int32 × zy_S)) (y0 : Int32) (s : zy_S) : Option (Int32 × zy_S) :=
(zyF198 s).bind fun p1 =>
k10 y0 p1.1 p1.2
theorem zyC196_85 {X : zx_X} {d : Nat} {g192 : zy_S → Option (Int32 × zy_S)} {g193 : zy_S → Option (Int32 × zy_S)} {g194 : zy_S → Option (Int32 × zy_S)} {g195 : zy_S → Option (Int32 × zy_S)} {g196 : zy_S → Option (Int32 × zy_S)} {g197 : zy_S → Option (Int32 × zy_S)} {k10 : Int32 → Int32 → zy_S → Option (Int32 × zy_S)} (hd : 1 ≤ d) (hg192 : ∀  (s : zy_S) (r : Int32) (s' : zy_S), g192 s = some (r, s') → zyR X d 192 0 [some (.ref (43 + 3)), none, none] [] s (zyE (some (.int r)) s')) (hg193 : ∀  (s : zy_S) (r : Int32) (s' : zy_S), g193 s = some (r, s') → zyR X d 193 0 [some (.ref (43 + 3)), none, none] [] s (zyE (some (.int r)) s')) (hg194 : ∀  (s : zy_S) (r : Int32) (s' : zy_S), g194 s = some (r, s') → zyR X d 194 0 [some (.ref (43 + 3)), none, none, none] [] s (zyE (some (.int r)) s')) (hg195 : ∀  (s : zy_S) (r : Int32) (s' : zy_S), g195 s = some (r, s') → zyR X d 195 0 [some (.ref (43 + 3)), none, none, none] [] s (zyE (some (.int r)) s')) (hg196 : ∀  (s : zy_S) (r : Int32) (s' : zy_S), g196 s = some (r, s') → zyR X d 196 0 [some (.ref (43 + 3)), none, none, none] [] s (zyE (some (.int r)) s')) (hg197 : ∀  (s : zy_S) (r : Int32) (s' : zy_S), g197 s = some (r, s') → zyR X d 197 0 [some (.ref (43 + 3)), none, none, none, none] [] s (zyE (some (.int r)) s')) (hk10 : ∀ (x1 : Int32) (x2 : Int32) (s : zy_S) (r : Int32) (s' : zy_S), k10 x1 x2 s = some (r, s') → zyR X (d + 1) 196 10 [some (.ref (43 + 3)), some (.int x1), some (.int x2), none] [] s (zyE (some (.int r)) s')) {y0 : Int32} {s : zy_S} {r : Int32} {s' : zy_S}  (h : zyF196_85 g192 g193 g194 g195 g196 g197 k10 y0 s = some (r, s')) : zyR X (d + 1) 196 85 [some (.ref (43 + 3)), none, none, none] [.int y0] s (zyE (some (.int r)) s') := by
  unfold zyF196_85 at h
  refine zy_23 rfl rfl (show zyR _ _ _ _ [some (.ref (43 + 3)), some (.int y0), none, none] [] _ _ from ?_)
  refine zy_0 rfl rfl (show zyR _ _ _ _ [some (.ref (43 + 3)), some (.int y0), none, none] [.ref (43 + 3)] _ _ from ?_)
  obtain ⟨p1, hp1, h⟩ := zy_bind h
  refine zy_5 (c := 43) (as := []) (rest := []) (L := [some (.ref (43 + 3))]) (d' := 1) rfl rfl rfl (Nat.le_of_ble_eq_true rfl) (by omega) rfl (Nat.le_of_ble_eq_true rfl) rfl rfl (zyC198 hp1) ?_
  show zyR _ _ _ _ [some (.ref (43 + 3)), some (.int y0), none, none] [.int p1.1] _ _
  refine zy_23 rfl rfl (show zyR _ _ _ _ [some (.ref (43 + 3)), some (.int y0), some (.int p1.1), none] [] _ _ from ?_)
  refine zy_6 rfl (show zyR _ _ _ _ [some (.ref (43 + 3)), some (.int y0), some (.int p1.1), none] [] _ _ from ?_)
  exact zy_sub (show zy_le [some (.ref (43 + 3)), some (.int y0), some (.int p1.1), none] [some (.ref (43 + 3)), some (.int y0), some (.int p1.1), none] from ⟨rfl, ⟨rfl, ⟨rfl, trivial⟩⟩⟩) (hk10 y0 p1.1 p1.2 _ _ h)
noncomputable def zyF196_35 (g192 : zy_S → Option (Int32 × zy_S)) (g193 : zy_S → Option (Int32 × zy_S)) (g194 : zy_S → Option (Int32 × zy_S)) (g195 : zy_S → Option (Int32 × zy_S)) (g196 : zy_S → Option (Int32 × zy_S)) (g197 : zy_S → Option (Int32 × zy_S)) (k10 : Int32 → Int32 → zy_S → Option (Int32 × zy_S)) (x1 : Int32) (x2 : Int32) (s : zy_S) : Option (Int32 × zy_S) :=
(g197 (zy_up s 43 13 ((s.1 43 13) + (1 : Int32)))).bind fun p2 =>
if x2 ≠ (42 : Int32) then
if p2.1 ≠ 0 then
if x2 ≠ (47 : Int32) then
if ¬ p2.1 = 0 then
zyF196_85 g192 g193 g194 g195 g196 g197 k10 (x1 - x1 / p2.1 * p2.1) p2.2
else none
else
if ¬ p2.1 = 0 then
zyF196_85 g192 g193 g194 g195 g196 g197 k10 (x1 / p2.1) p2.2
else none
else
zyF196_85 g192 g193 g194 g195 g196 g197 k10 (0 : Int32) p2.2
else
zyF196_85 g192 g193 g194 g195 g196 g197 k10 (x1 * p2.1) p2.2
theorem zyC196_35 {X : zx_X} {d : Nat} {g192 : zy_S → Option (Int32 × zy_S)} {g193 : zy_S → Option (Int32 × zy_S)} {g194 : zy_S → Option (Int32 × zy_S)} {g195 : zy_S → Option (Int32 × zy_S)} {g196 : zy_S → Option (Int32 × zy_S)} {g197 : zy_S → Option (Int32 × zy_S)} {k10 : Int32 → Int32 → zy_S → Option (Int32 × zy_S)} (hd : 1 ≤ d) (hg192 : ∀  (s : zy_S) (r : Int32) (s' : zy_S), g192 s = some (r, s') → zyR X d 192 0 [some (.ref (43 + 3)), none, none] [] s (zyE (some (.int r)) s')) (hg193 : ∀  (s : zy_S) (r : Int32) (s' : zy_S), g193 s = some (r, s') → zyR X d 193 0 [some (.ref (43 + 3)), none, none] [] s (zyE (some (.int r)) s')) (hg194 : ∀  (s : zy_S) (r : Int32) (s' : zy_S), g194 s = some (r, s') → zyR X d 194 0 [some (.ref (43 + 3)), none, none, none] [] s (zyE (some (.int r)) s')) (hg195 : ∀  (s : zy_S) (r : Int32) (s' : zy_S), g195 s = some (r, s') → zyR X d 195 0 [some (.ref (43 + 3)), none, none, none] [] s (zyE (some (.int r)) s')) (hg196 : ∀  (s : zy_S) (r : Int32) (s' : zy_S), g196 s = some (r, s') → zyR X d 196 0 [some (.ref (43 + 3)), none, none, none] [] s (zyE (some (.int r)) s')) (hg197 : ∀  (s : zy_S) (r : Int32) (s' : zy_S), g197 s = some (r, s') → zyR X d 197 0 [some (.ref (43 + 3)), none, none, none, none] [] s (zyE (some (.int r)) s')) (hk10 : ∀ (x1 : Int32) (x2 : Int32) (s : zy_S) (r : Int32) (s' : zy_S), k10 x1 x2 s = some (r, s') → zyR X (d + 1) 196 10 [some (.ref (43 + 3)), some (.int x1), some (.int x2), none] [] s (zyE (some (.int r)) s')) {x1 : Int32} {x2 : Int32} {s : zy_S} {r : Int32} {s' : zy_S}  (h : zyF196_35 g192 g193 g194 g195 g196 g197 k10 x1 x2 s = some (r, s')) : zyR X (d + 1) 196 35 [some (.ref (43 + 3)), some (.int x1), some (.int x2), none] [] s (zyE (some (.int r)) s') := by
  unfold zyF196_35 at h
  refine zy_0 rfl rfl (show zyR _ _ _ _ [some (.ref (43 + 3)), some (.int x1), some (.int x2), none] [.ref (43 + 3)] _ _ from ?_)
  refine zy_33 rfl rfl (show zyR _ _ _ _ [some (.ref (43 + 3)), some (.int x1), some (.int x2), none] [.ref (43 + 3), .ref (43 + 3)] _ _ from ?_)
  refine zy_1 (c := 43) rfl rfl rfl (show zyR _ _ _ _ [some (.ref (43 + 3)), some (.int x1), some (.int x2), none] [.int (s.1 43 13), .ref (43 + 3)] _ _ from ?_)
  refine zy_3 rfl rfl (show zyR _ _ _ _ [some (.ref (43 + 3)), some (.int x1), some (.int x2), none] [.int (1 : Int32), .int (s.1 43 13), .ref (43 + 3)] _ _ from ?_)
  refine zy_10 rfl (show zyR _ _ _ _ [some (.ref (43 + 3)), some (.int x1), some (.int x2), none] [.int ((s.1 43 13) + (1 : Int32)), .ref (43 + 3)] _ _ from ?_)
  refine zy_52 (c := 43) rfl rfl rfl (show zyR _ _ _ _ [some (.ref (43 + 3)), some (.int x1), some (.int x2), none] [] _ _ from ?_)
  refine zy_0 rfl rfl (show zyR _ _ _ _ [some (.ref (43 + 3)), some (.int x1), some (.int x2), none] [.ref (43 + 3)] _ _ from ?_)
  obtain ⟨p2, hp2, h⟩ := zy_bind h
  refine zy_5 (c := 43) (as := []) (rest := []) (L := [some (.ref (43 + 3)), none, none, none, none]) (d' := d) rfl rfl rfl (Nat.le_of_ble_eq_true rfl) (by omega) rfl (Nat.le_of_ble_eq_true rfl) rfl rfl (hg197 (zy_up s 43 13 ((s.1 43 13) + (1 : Int32))) _ _ hp2) ?_
  show zyR _ _ _ _ [some (.ref (43 + 3)), some (.int x1), some (.int x2), none] [.int p2.1] _ _
  refine zy_23 rfl rfl (show zyR _ _ _ _ [some (.ref (43 + 3)), some (.int x1), some (.int x2), some (.int p2.1)] [] _ _ from ?_)
  refine zy_2 rfl rfl (show zyR _ _ _ _ [some (.ref (43 + 3)), some (.int x1), some (.int x2), some (.int p2.1)] [.int x2] _ _ from ?_)
  refine zy_3 rfl rfl (show zyR _ _ _ _ [some (.ref (43 + 3)), some (.int x1), some (.int x2), some (.int p2.1)] [.int (42 : Int32), .int x2] _ _ from ?_)
  refine zy_25_1 rfl (fun b7 => (show zyR _ _ _ _ [some (.ref (43 + 3)), some (.int x1), some (.int x2), some (.int p2.1)] [] _ _ from ?_)) (fun b7 => (show zyR _ _ _ _ [some (.ref (43 + 3)), some (.int x1), some (.int x2), some (.int p2.1)] [] _ _ from ?_))
  · replace h := zy_ifp h b7
    refine zy_2 rfl rfl (show zyR _ _ _ _ [some (.ref (43 + 3)), some (.int x1), some (.int x2), some (.int p2.1)] [.int p2.1] _ _ from ?_)
    refine zy_24_1 rfl (fun b6 => (show zyR _ _ _ _ [some (.ref (43 + 3)), some (.int x1), some (.int x2), some (.int p2.1)] [] _ _ from ?_)) (fun b6 => (show zyR _ _ _ _ [some (.ref (43 + 3)), some (.int x1), some (.int x2), some (.int p2.1)] [] _ _ from ?_))
    · replace h := zy_ifp h b6
      refine zy_2 rfl rfl (show zyR _ _ _ _ [some (.ref (43 + 3)), some (.int x1), some (.int x2), some (.int p2.1)] [.int x2] _ _ from ?_)
      refine zy_3 rfl rfl (show zyR _ _ _ _ [some (.ref (43 + 3)), some (.int x1), some (.int x2), some (.int p2.1)] [.int (47 : Int32), .int x2] _ _ from ?_)
      refine zy_25_1 rfl (fun b5 => (show zyR _ _ _ _ [some (.ref (43 + 3)), some (.int x1), some (.int x2), some (.int p2.1)] [] _ _ from ?_)) (fun b5 => (show zyR _ _ _ _ [some (.ref (43 + 3)), some (.int x1), some (.int x2), some (.int p2.1)] [] _ _ from ?_))
      · replace h := zy_ifp h b5
        refine zy_2 rfl rfl (show zyR _ _ _ _ [some (.ref (43 + 3)), some (.int x1), some (.int x2), some (.int p2.1)] [.int x1] _ _ from ?_)
        refine zy_2 rfl rfl (show zyR _ _ _ _ [some (.ref (43 + 3)), some (.int x1), some (.int x2), some (.int p2.1)] [.int p2.1, .int x1] _ _ from ?_)
        obtain ⟨c3, h⟩ := zy_if h
        refine zy_20 rfl c3 (show zyR _ _ _ _ [some (.ref (43 + 3)), some (.int x1), some (.int x2), some (.int p2.1)] [.int (x1 - x1 / p2.1 * p2.1)] _ _ from ?_)
        exact zy_sub (show zy_le [some (.ref (43 + 3)), none, none, none] [some (.ref (43 + 3)), some (.int x1), some (.int x2), some (.int p2.1)] from ⟨rfl, trivial⟩) (zyC196_85 hd hg192 hg193 hg194 hg195 hg196 hg197 hk10 h)
      · replace h := zy_ifn h b5
        refine zy_2 rfl rfl (show zyR _ _ _ _ [some (.ref (43 + 3)), some (.int x1), some (.int x2), some (.int p2.1)] [.int x1] _ _ from ?_)
        refine zy_2 rfl rfl (show zyR _ _ _ _ [some (.ref (43 + 3)), some (.int x1), some (.int x2), some (.int p2.1)] [.int p2.1, .int x1] _ _ from ?_)
        obtain ⟨c4, h⟩ := zy_if h
        refine zy_19 rfl c4 (show zyR _ _ _ _ [some (.ref (43 + 3)), some (.int x1), some (.int x2), some (.int p2.1)] [.int (x1 / p2.1)] _ _ from ?_)
        refine zy_6 rfl (show zyR _ _ _ _ [some (.ref (43 + 3)), some (.int x1), some (.int x2), some (.int p2.1)] [.int (x1 / p2.1)] _ _ from ?_)
        exact zy_sub (show zy_le [some (.ref (43 + 3)), none, none, none] [some (.ref (43 + 3)), some (.int x1), some (.int x2), some (.int p2.1)] from ⟨rfl, trivial⟩) (zyC196_85 hd hg192 hg193 hg194 hg195 hg196 hg197 hk10 h)
    · replace h := zy_ifn h b6
      refine zy_3 rfl rfl (show zyR _ _ _ _ [some (.ref (43 + 3)), some (.int x1), some (.int x2), some (.int p2.1)] [.int (0 : Int32)] _ _ from ?_)
      refine zy_6 rfl (show zyR _ _ _ _ [some (.ref (43 + 3)), some (.int x1), some (.int x2), some (.int p2.1)] [.int (0 : Int32)] _ _ from ?_)
      exact zy_sub (show zy_le [some (.ref (43 + 3)), none, none, none] [some (.ref (43 + 3)), some (.int x1), some (.int x2), some (.int p2.1)] from ⟨rfl, trivial⟩) (zyC196_85 hd hg192 hg193 hg194 hg195 hg196 hg197 hk10 h)
  · replace h := zy_ifn h b7
    refine zy_2 rfl rfl (show zyR _ _ _ _ [some (.ref (43 + 3)), some (.int x1), some (.int x2), some (.int p2.1)] [.int x1] _ _ from ?_)
    refine zy_2 rfl rfl (show zyR _ _ _ _ [some (.ref (43 + 3)), some (.int x1), some (.int x2), some (.int p2.1)] [.int p2.1, .int x1] _ _ from ?_)
    refine zy_12 rfl (show zyR _ _ _ _ [some (.ref (43 + 3)), some (.int x1), some (.int x2), some (.int p2.1)] [.int (x1 * p2.1)] _ _ from ?_)
    refine zy_6 rfl (show zyR _ _ _ _ [some (.ref (43 + 3)), some (.int x1), some (.int x2), some (.int p2.1)] [.int (x1 * p2.1)] _ _ from ?_)
    exact zy_sub (show zy_le [some (.ref (43 + 3)), none, none, none] [some (.ref (43 + 3)), some (.int x1), some (.int x2), some (.int p2.1)] from ⟨rfl, trivial⟩) (zyC196_85 hd hg192 hg193 hg194 hg195 hg196 hg197 hk10 h)
noncomputable def zyF196_10b (g192 : zy_S → Option (Int32 × zy_S)) (g193 : zy_S → Option (Int32 × zy_S)) (g194 : zy_S → Option (Int32 × zy_S)) (g195 : zy_S → Option (Int32 × zy_S)) (g196 : zy_S → Option (Int32 × zy_S)) (g197 : zy_S → Option (Int32 × zy_S)) (k10 : Int32 → Int32 → zy_S → Option (Int32 × zy_S)) (x1 : Int32) (x2 : Int32) (s : zy_S) : Option (Int32 × zy_S) :=
if 0 ≤ (s.1 43 15) then
some (x1, s)
else
if x2 = (42 : Int32) then
zyF196_35 g192 g193 g194 g195 g196 g197 k10 x1 x2 s
else
if x2 = (47 : Int32) then
zyF196_35 g192 g193 g194 g195 g196 g197 k10 x1 x2 s
else
if x2 ≠ (37 : Int32) then
some (x1, s)
else
zyF196_35 g192 g193 g194 g195 g196 g197 k10 x1 x2 s
theorem zyC196_10b {X : zx_X} {d : Nat} {g192 : zy_S → Option (Int32 × zy_S)} {g193 : zy_S → Option (Int32 × zy_S)} {g194 : zy_S → Option (Int32 × zy_S)} {g195 : zy_S → Option (Int32 × zy_S)} {g196 : zy_S → Option (Int32 × zy_S)} {g197 : zy_S → Option (Int32 × zy_S)} {k10 : Int32 → Int32 → zy_S → Option (Int32 × zy_S)} (hd : 1 ≤ d) (hg192 : ∀  (s : zy_S) (r : Int32) (s' : zy_S), g192 s = some (r, s') → zyR X d 192 0 [some (.ref (43 + 3)), none, none] [] s (zyE (some (.int r)) s')) (hg193 : ∀  (s : zy_S) (r : Int32) (s' : zy_S), g193 s = some (r, s') → zyR X d 193 0 [some (.ref (43 + 3)), none, none] [] s (zyE (some (.int r)) s')) (hg194 : ∀  (s : zy_S) (r : Int32) (s' : zy_S), g194 s = some (r, s') → zyR X d 194 0 [some (.ref (43 + 3)), none, none, none] [] s (zyE (some (.int r)) s')) (hg195 : ∀  (s : zy_S) (r : Int32) (s' : zy_S), g195 s = some (r, s') → zyR X d 195 0 [some (.ref (43 + 3)), none, none, none] [] s (zyE (some (.int r)) s')) (hg196 : ∀  (s : zy_S) (r : Int32) (s' : zy_S), g196 s = some (r, s') → zyR X d 196 0 [some (.ref (43 + 3)), none, none, none] [] s (zyE (some (.int r)) s')) (hg197 : ∀  (s : zy_S) (r : Int32) (s' : zy_S), g197 s = some (r, s') → zyR X d 197 0 [some (.ref (43 + 3)), none, none, none, none] [] s (zyE (some (.int r)) s')) (hk10 : ∀ (x1 : Int32) (x2 : Int32) (s : zy_S) (r : Int32) (s' : zy_S), k10 x1 x2 s = some (r, s') → zyR X (d + 1) 196 10 [some (.ref (43 + 3)), some (.int x1), some (.int x2), none] [] s (zyE (some (.int r)) s')) {x1 : Int32} {x2 : Int32} {s : zy_S} {r : Int32} {s' : zy_S}  (h : zyF196_10b g192 g193 g194 g195 g196 g197 k10 x1 x2 s = some (r, s')) : zyR X (d + 1) 196 10 [some (.ref (43 + 3)), some (.int x1), some (.int x2), none] [] s (zyE (some (.int r)) s') := by
  unfold zyF196_10b at h
  refine zy_0 rfl rfl (show zyR _ _ _ _ [some (.ref (43 + 3)), some (.int x1), some (.int x2), none] [.ref (43 + 3)] _ _ from ?_)
  refine zy_1 (c := 43) rfl rfl rfl (show zyR _ _ _ _ [some (.ref (43 + 3)), some (.int x1), some (.int x2), none] [.int (s.1 43 15)] _ _ from ?_)
  refine zy_24_3 rfl (fun b11 => (show zyR _ _ _ _ [some (.ref (43 + 3)), some (.int x1), some (.int x2), none] [] _ _ from ?_)) (fun b11 => (show zyR _ _ _ _ [some (.ref (43 + 3)), some (.int x1), some (.int x2), none] [] _ _ from ?_))
  · replace h := zy_ifp h b11
    refine zy_2 rfl rfl (show zyR _ _ _ _ [some (.ref (43 + 3)), some (.int x1), some (.int x2), none] [.int x1] _ _ from ?_)
    obtain ⟨rfl, rfl⟩ := zy_pi h
    exact zy_4 rfl ⟨rfl, rfl⟩
  · replace h := zy_ifn h b11
    refine zy_2 rfl rfl (show zyR _ _ _ _ [some (.ref (43 + 3)), some (.int x1), some (.int x2), none] [.int x2] _ _ from ?_)
    refine zy_3 rfl rfl (show zyR _ _ _ _ [some (.ref (43 + 3)), some (.int x1), some (.int x2), none] [.int (42 : Int32), .int x2] _ _ from ?_)
    refine zy_25_0 rfl (fun b10 => (show zyR _ _ _ _ [some (.ref (43 + 3)), some (.int x1), some (.int x2), none] [] _ _ from ?_)) (fun b10 => (show zyR _ _ _ _ [some (.ref (43 + 3)), some (.int x1), some (.int x2), none] [] _ _ from ?_))
    · replace h := zy_ifp h b10
      exact zy_sub (show zy_le [some (.ref (43 + 3)), some (.int x1), some (.int x2), none] [some (.ref (43 + 3)), some (.int x1), some (.int x2), none] from ⟨rfl, ⟨rfl, ⟨rfl, trivial⟩⟩⟩) (zyC196_35 hd hg192 hg193 hg194 hg195 hg196 hg197 hk10 h)
    · replace h := zy_ifn h b10
      refine zy_2 rfl rfl (show zyR _ _ _ _ [some (.ref (43 + 3)), some (.int x1), some (.int x2), none] [.int x2] _ _ from ?_)
      refine zy_3 rfl rfl (show zyR _ _ _ _ [some (.ref (43 + 3)), some (.int x1), some (.int x2), none] [.int (47 : Int32), .int x2] _ _ from ?_)
      refine zy_25_0 rfl (fun b9 => (show zyR _ _ _ _ [some (.ref (43 + 3)), some (.int x1), some (.int x2), none] [] _ _ from ?_)) (fun b9 => (show zyR _ _ _ _ [some (.ref (43 + 3)), some (.int x1), some (.int x2), none] [] _ _ from ?_))
      · replace h := zy_ifp h b9
        exact zy_sub (show zy_le [some (.ref (43 + 3)), some (.int x1), some (.int x2), none] [some (.ref (43 + 3)), some (.int x1), some (.int x2), none] from ⟨rfl, ⟨rfl, ⟨rfl, trivial⟩⟩⟩) (zyC196_35 hd hg192 hg193 hg194 hg195 hg196 hg197 hk10 h)
      · replace h := zy_ifn h b9
        refine zy_2 rfl rfl (show zyR _ _ _ _ [some (.ref (43 + 3)), some (.int x1), some (.int x2), none] [.int x2] _ _ from ?_)
        refine zy_3 rfl rfl (show zyR _ _ _ _ [some (.ref (43 + 3)), some (.int x1), some (.int x2), none] [.int (37 : Int32), .int x2] _ _ from ?_)
        refine zy_25_1 rfl (fun b8 => (show zyR _ _ _ _ [some (.ref (43 + 3)), some (.int x1), some (.int x2), none] [] _ _ from ?_)) (fun b8 => (show zyR _ _ _ _ [some (.ref (43 + 3)), some (.int x1), some (.int x2), none] [] _ _ from ?_))
        · replace h := zy_ifp h b8
          refine zy_2 rfl rfl (show zyR _ _ _ _ [some (.ref (43 + 3)), some (.int x1), some (.int x2), none] [.int x1] _ _ from ?_)
          obtain ⟨rfl, rfl⟩ := zy_pi h
          exact zy_4 rfl ⟨rfl, rfl⟩
        · replace h := zy_ifn h b8
          exact zy_sub (show zy_le [some (.ref (43 + 3)), some (.int x1), some (.int x2), none] [some (.ref (43 + 3)), some (.int x1), some (.int x2), none] from ⟨rfl, ⟨rfl, ⟨rfl, trivial⟩⟩⟩) (zyC196_35 hd hg192 hg193 hg194 hg195 hg196 hg197 hk10 h)
noncomputable def zyF196_10 (g192 : zy_S → Option (Int32 × zy_S)) (g193 : zy_S → Option (Int32 × zy_S)) (g194 : zy_S → Option (Int32 × zy_S)) (g195 : zy_S → Option (Int32 × zy_S)) (g196 : zy_S → Option (Int32 × zy_S)) (g197 : zy_S → Option (Int32 × zy_S))  (n : Nat) : Int32 → Int32 → zy_S → Option (Int32 × zy_S) := Nat.rec (fun _ _ _ => none) (fun _ k10 => zyF196_10b g192 g193 g194 g195 g196 g197 k10) n
theorem zyC196_10 {X : zx_X} {d : Nat} {g192 : zy_S → Option (Int32 × zy_S)} {g193 : zy_S → Option (Int32 × zy_S)} {g194 : zy_S → Option (Int32 × zy_S)} {g195 : zy_S → Option (Int32 × zy_S)} {g196 : zy_S → Option (Int32 × zy_S)} {g197 : zy_S → Option (Int32 × zy_S)}  (hd : 1 ≤ d) (hg192 : ∀  (s : zy_S) (r : Int32) (s' : zy_S), g192 s = some (r, s') → zyR X d 192 0 [some (.ref (43 + 3)), none, none] [] s (zyE (some (.int r)) s')) (hg193 : ∀  (s : zy_S) (r : Int32) (s' : zy_S), g193 s = some (r, s') → zyR X d 193 0 [some (.ref (43 + 3)), none, none] [] s (zyE (some (.int r)) s')) (hg194 : ∀  (s : zy_S) (r : Int32) (s' : zy_S), g194 s = some (r, s') → zyR X d 194 0 [some (.ref (43 + 3)), none, none, none] [] s (zyE (some (.int r)) s')) (hg195 : ∀  (s : zy_S) (r : Int32) (s' : zy_S), g195 s = some (r, s') → zyR X d 195 0 [some (.ref (43 + 3)), none, none, none] [] s (zyE (some (.int r)) s')) (hg196 : ∀  (s : zy_S) (r : Int32) (s' : zy_S), g196 s = some (r, s') → zyR X d 196 0 [some (.ref (43 + 3)), none, none, none] [] s (zyE (some (.int r)) s')) (hg197 : ∀  (s : zy_S) (r : Int32) (s' : zy_S), g197 s = some (r, s') → zyR X d 197 0 [some (.ref (43 + 3)), none, none, none, none] [] s (zyE (some (.int r)) s'))  : ∀ (n : Nat) (x1 : Int32) (x2 : Int32) (s : zy_S) (r : Int32) (s' : zy_S), zyF196_10 g192 g193 g194 g195 g196 g197 n x1 x2 s = some (r, s') → zyR X (d + 1) 196 10 [some (.ref (43 + 3)), some (.int x1), some (.int x2), none] [] s (zyE (some (.int r)) s')
  | 0, _, _ => by
    intro s r s'  h
    have h : (none : Option (Int32 × zy_S)) = some (r, s') := h
    cases h
  | n + 1, x1, x2 => by
    intro s r s'  h
    exact zyC196_10b hd hg192 hg193 hg194 hg195 hg196 hg197 (k10 := zyF196_10 g192 g193 g194 g195 g196 g197 n) (fun x1 x2 s r s'  h => zyC196_10 hd hg192 hg193 hg194 hg195 hg196 hg197 n x1 x2 s r s'  h) h
noncomputable def zyF196_0 (g192 : zy_S → Option (Int32 × zy_S)) (g193 : zy_S → Option (Int32 × zy_S)) (g194 : zy_S → Option (Int32 × zy_S)) (g195 : zy_S → Option (Int32 × zy_S)) (g196 : zy_S → Option (Int32 × zy_S)) (g197 : zy_S → Option (Int32 × zy_S))   (s : zy_S) : Option (Int32 × zy_S) :=
(g197 s).bind fun p12 =>
(zyF198 p12.2).bind fun p13 =>
zyF196_10 g192 g193 g194 g195 g196 g197 zy_fu p12.1 p13.1 p13.2
theorem zyC196_0 {X : zx_X} {d : Nat} {g192 : zy_S → Option (Int32 × zy_S)} {g193 : zy_S → Option (Int32 × zy_S)} {g194 : zy_S → Option (Int32 × zy_S)} {g195 : zy_S → Option (Int32 × zy_S)} {g196 : zy_S → Option (Int32 × zy_S)} {g197 : zy_S → Option (Int32 × zy_S)}  (hd : 1 ≤ d) (hg192 : ∀  (s : zy_S) (r : Int32) (s' : zy_S), g192 s = some (r, s') → zyR X d 192 0 [some (.ref (43 + 3)), none, none] [] s (zyE (some (.int r)) s')) (hg193 : ∀  (s : zy_S) (r : Int32) (s' : zy_S), g193 s = some (r, s') → zyR X d 193 0 [some (.ref (43 + 3)), none, none] [] s (zyE (some (.int r)) s')) (hg194 : ∀  (s : zy_S) (r : Int32) (s' : zy_S), g194 s = some (r, s') → zyR X d 194 0 [some (.ref (43 + 3)), none, none, none] [] s (zyE (some (.int r)) s')) (hg195 : ∀  (s : zy_S) (r : Int32) (s' : zy_S), g195 s = some (r, s') → zyR X d 195 0 [some (.ref (43 + 3)), none, none, none] [] s (zyE (some (.int r)) s')) (hg196 : ∀  (s : zy_S) (r : Int32) (s' : zy_S), g196 s = some (r, s') → zyR X d 196 0 [some (.ref (43 + 3)), none, none, none] [] s (zyE (some (.int r)) s')) (hg197 : ∀  (s : zy_S) (r : Int32) (s' : zy_S), g197 s = some (r, s') → zyR X d 197 0 [some (.ref (43 + 3)), none, none, none, none] [] s (zyE (some (.int r)) s'))   {s : zy_S} {r : Int32} {s' : zy_S}  (h : zyF196_0 g192 g193 g194 g195 g196 g197 s = some (r, s')) : zyR X (d + 1) 196 0 [some (.ref (43 + 3)), none, none, none] [] s (zyE (some (.int r)) s') := by
  unfold zyF196_0 at h
  refine zy_0 rfl rfl (show zyR _ _ _ _ [some (.ref (43 + 3)), none, none, none] [.ref (43 + 3)] _ _ from ?_)
  obtain ⟨p12, hp12, h⟩ := zy_bind h
  refine zy_5 (c := 43) (as := []) (rest := []) (L := [some (.ref (43 + 3)), none, none, none, none]) (d' := d) rfl rfl rfl (Nat.le_of_ble_eq_true rfl) (by omega) rfl (Nat.le_of_ble_eq_true rfl) rfl rfl (hg197 s _ _ hp12) ?_
  show zyR _ _ _ _ [some (.ref (43 + 3)), none, none, none] [.int p12.1] _ _
  refine zy_23 rfl rfl (show zyR _ _ _ _ [some (.ref (43 + 3)), some (.int p12.1), none, none] [] _ _ from ?_)
  refine zy_0 rfl rfl (show zyR _ _ _ _ [some (.ref (43 + 3)), some (.int p12.1), none, none] [.ref (43 + 3)] _ _ from ?_)
  obtain ⟨p13, hp13, h⟩ := zy_bind h
  refine zy_5 (c := 43) (as := []) (rest := []) (L := [some (.ref (43 + 3))]) (d' := 1) rfl rfl rfl (Nat.le_of_ble_eq_true rfl) (by omega) rfl (Nat.le_of_ble_eq_true rfl) rfl rfl (zyC198 hp13) ?_
  show zyR _ _ _ _ [some (.ref (43 + 3)), some (.int p12.1), none, none] [.int p13.1] _ _
  refine zy_23 rfl rfl (show zyR _ _ _ _ [some (.ref (43 + 3)), some (.int p12.1), some (.int p13.1), none] [] _ _ from ?_)
  exact zy_sub (show zy_le [some (.ref (43 + 3)), some (.int p12.1), some (.int p13.1), none] [some (.ref (43 + 3)), some (.int p12.1), some (.int p13.1), none] from ⟨rfl, ⟨rfl, ⟨rfl, trivial⟩⟩⟩) (zyC196_10 hd hg192 hg193 hg194 hg195 hg196 hg197 zy_fu p12.1 p13.1 p13.2 _ _ h)
noncomputable def zyF197_229 (g192 : zy_S → Option (Int32 × zy_S)) (g193 : zy_S → Option (Int32 × zy_S)) (g194 : zy_S → Option (Int32 × zy_S)) (g195 : zy_S → Option (Int32 × zy_S)) (g196 : zy_S → Option (Int32 × zy_S)) (g197 : zy_S → Option (Int32 × zy_S))  (x3 : Int32) (x4 : Int32) (s : zy_S) : Option (Int32 × zy_S) :=
if x4 ≠ 0 then
some (x3, s)
else
(zyF199 s).bind fun p1 =>
some (p1.1, p1.2)
theorem zyC197_229 {X : zx_X} {d : Nat} {g192 : zy_S → Option (Int32 × zy_S)} {g193 : zy_S → Option (Int32 × zy_S)} {g194 : zy_S → Option (Int32 × zy_S)} {g195 : zy_S → Option (Int32 × zy_S)} {g196 : zy_S → Option (Int32 × zy_S)} {g197 : zy_S → Option (Int32 × zy_S)}  (hd : 2 ≤ d) (hg192 : ∀  (s : zy_S) (r : Int32) (s' : zy_S), g192 s = some (r, s') → zyR X d 192 0 [some (.ref (43 + 3)), none, none] [] s (zyE (some (.int r)) s')) (hg193 : ∀  (s : zy_S) (r : Int32) (s' : zy_S), g193 s = some (r, s') → zyR X d 193 0 [some (.ref (43 + 3)), none, none] [] s (zyE (some (.int r)) s')) (hg194 : ∀  (s : zy_S) (r : Int32) (s' : zy_S), g194 s = some (r, s') → zyR X d 194 0 [some (.ref (43 + 3)), none, none, none] [] s (zyE (some (.int r)) s')) (hg195 : ∀  (s : zy_S) (r : Int32) (s' : zy_S), g195 s = some (r, s') → zyR X d 195 0 [some (.ref (43 + 3)), none, none, none] [] s (zyE (some (.int r)) s')) (hg196 : ∀  (s : zy_S) (r : Int32) (s' : zy_S), g196 s = some (r, s') → zyR X d 196 0 [some (.ref (43 + 3)), none, none, none] [] s (zyE (some (.int r)) s')) (hg197 : ∀  (s : zy_S) (r : Int32) (s' : zy_S), g197 s = some (r, s') → zyR X d 197 0 [some (.ref (43 + 3)), none, none, none, none] [] s (zyE (some (.int r)) s'))  {x3 : Int32} {x4 : Int32} {s : zy_S} {r : Int32} {s' : zy_S}  (h : zyF197_229 g192 g193 g194 g195 g196 g197 x3 x4 s = some (r, s')) : zyR X (d + 1) 197 229 [some (.ref (43 + 3)), none, none, some (.int x3), some (.int x4)] [] s (zyE (some (.int r)) s') := by
  unfold zyF197_229 at h
  refine zy_2 rfl rfl (show zyR _ _ _ _ [some (.ref (43 + 3)), none, none, some (.int x3), some (.int x4)] [.int x4] _ _ from ?_)
  refine zy_24_1 rfl (fun b2 => (show zyR _ _ _ _ [some (.ref (43 + 3)), none, none, some (.int x3), some (.int x4)] [] _ _ from ?_)) (fun b2 => (show zyR _ _ _ _ [some (.ref (43 + 3)), none, none, some (.int x3), some (.int x4)] [] _ _ from ?_))
  · replace h := zy_ifp h b2
    refine zy_2 rfl rfl (show zyR _ _ _ _ [some (.ref (43 + 3)), none, none, some (.int x3), some (.int x4)] [.int x3] _ _ from ?_)
    obtain ⟨rfl, rfl⟩ := zy_pi h
    exact zy_4 rfl ⟨rfl, rfl⟩
  · replace h := zy_ifn h b2
    refine zy_0 rfl rfl (show zyR _ _ _ _ [some (.ref (43 + 3)), none, none, some (.int x3), some (.int x4)] [.ref (43 + 3)] _ _ from ?_)
    obtain ⟨p1, hp1, h⟩ := zy_bind h
    refine zy_5 (c := 43) (as := []) (rest := []) (L := [some (.ref (43 + 3))]) (d' := 1) rfl rfl rfl (Nat.le_of_ble_eq_true rfl) (by omega) rfl (Nat.le_of_ble_eq_true rfl) rfl rfl (zyC199 hp1) ?_
    show zyR _ _ _ _ [some (.ref (43 + 3)), none, none, some (.int x3), some (.int x4)] [.int p1.1] _ _
    refine zy_6 rfl (show zyR _ _ _ _ [some (.ref (43 + 3)), none, none, some (.int x3), some (.int x4)] [.int p1.1] _ _ from ?_)
    obtain ⟨rfl, rfl⟩ := zy_pi h
    exact zy_4 rfl ⟨rfl, rfl⟩
noncomputable def zyF197_176b (g192 : zy_S → Option (Int32 × zy_S)) (g193 : zy_S → Option (Int32 × zy_S)) (g194 : zy_S → Option (Int32 × zy_S)) (g195 : zy_S → Option (Int32 × zy_S)) (g196 : zy_S → Option (Int32 × zy_S)) (g197 : zy_S → Option (Int32 × zy_S)) (k176 : Int32 → Int32 → zy_S → Option (Int32 × zy_S)) (x3 : Int32) (x4 : Int32) (s : zy_S) : Option (Int32 × zy_S) :=
if (4 : Int32) ≤ x4 then
zyF197_229 g192 g193 g194 g195 g196 g197 x3 x4 s
else
(zyF198 s).bind fun p3 =>
if p3.1 < (48 : Int32) then
zyF197_229 g192 g193 g194 g195 g196 g197 x3 x4 p3.2
else
(zyF198 p3.2).bind fun p4 =>
if (57 : Int32) < p4.1 then
zyF197_229 g192 g193 g194 g195 g196 g197 x3 x4 p4.2
else
(zyF198 p4.2).bind fun p5 =>
k176 ((((10 : Int32) * x3) + p5.1) - (48 : Int32)) (x4 + (1 : Int32)) (zy_up p5.2 43 13 ((p5.2.1 43 13) + (1 : Int32)))
theorem zyC197_176b {X : zx_X} {d : Nat} {g192 : zy_S → Option (Int32 × zy_S)} {g193 : zy_S → Option (Int32 × zy_S)} {g194 : zy_S → Option (Int32 × zy_S)} {g195 : zy_S → Option (Int32 × zy_S)} {g196 : zy_S → Option (Int32 × zy_S)} {g197 : zy_S → Option (Int32 × zy_S)} {k176 : Int32 → Int32 → zy_S → Option (Int32 × zy_S)} (hd : 2 ≤ d) (hg192 : ∀  (s : zy_S) (r : Int32) (s' : zy_S), g192 s = some (r, s') → zyR X d 192 0 [some (.ref (43 + 3)), none, none] [] s (zyE (some (.int r)) s')) (hg193 : ∀  (s : zy_S) (r : Int32) (s' : zy_S), g193 s = some (r, s') → zyR X d 193 0 [some (.ref (43 + 3)), none, none] [] s (zyE (some (.int r)) s')) (hg194 : ∀  (s : zy_S) (r : Int32) (s' : zy_S), g194 s = some (r, s') → zyR X d 194 0 [some (.ref (43 + 3)), none, none, none] [] s (zyE (some (.int r)) s')) (hg195 : ∀  (s : zy_S) (r : Int32) (s' : zy_S), g195 s = some (r, s') → zyR X d 195 0 [some (.ref (43 + 3)), none, none, none] [] s (zyE (some (.int r)) s')) (hg196 : ∀  (s : zy_S) (r : Int32) (s' : zy_S), g196 s = some (r, s') → zyR X d 196 0 [some (.ref (43 + 3)), none, none, none] [] s (zyE (some (.int r)) s')) (hg197 : ∀  (s : zy_S) (r : Int32) (s' : zy_S), g197 s = some (r, s') → zyR X d 197 0 [some (.ref (43 + 3)), none, none, none, none] [] s (zyE (some (.int r)) s')) (hk176 : ∀ (x3 : Int32) (x4 : Int32) (s : zy_S) (r : Int32) (s' : zy_S), k176 x3 x4 s = some (r, s') → zyR X (d + 1) 197 176 [some (.ref (43 + 3)), none, none, some (.int x3), some (.int x4)] [] s (zyE (some (.int r)) s')) {x3 : Int32} {x4 : Int32} {s : zy_S} {r : Int32} {s' : zy_S}  (h : zyF197_176b g192 g193 g194 g195 g196 g197 k176 x3 x4 s = some (r, s')) : zyR X (d + 1) 197 176 [some (.ref (43 + 3)), none, none, some (.int x3), some (.int x4)] [] s (zyE (some (.int r)) s') := by
  unfold zyF197_176b at h
  refine zy_2 rfl rfl (show zyR _ _ _ _ [some (.ref (43 + 3)), none, none, some (.int x3), some (.int x4)] [.int x4] _ _ from ?_)
  refine zy_3 rfl rfl (show zyR _ _ _ _ [some (.ref (43 + 3)), none, none, some (.int x3), some (.int x4)] [.int (4 : Int32), .int x4] _ _ from ?_)
  refine zy_25_3 rfl (fun b8 => (show zyR _ _ _ _ [some (.ref (43 + 3)), none, none, some (.int x3), some (.int x4)] [] _ _ from ?_)) (fun b8 => (show zyR _ _ _ _ [some (.ref (43 + 3)), none, none, some (.int x3), some (.int x4)] [] _ _ from ?_))
  · replace h := zy_ifp h b8
    exact zy_sub (show zy_le [some (.ref (43 + 3)), none, none, some (.int x3), some (.int x4)] [some (.ref (43 + 3)), none, none, some (.int x3), some (.int x4)] from ⟨rfl, ⟨rfl, ⟨rfl, trivial⟩⟩⟩) (zyC197_229 hd hg192 hg193 hg194 hg195 hg196 hg197 h)
  · replace h := zy_ifn h b8
    refine zy_0 rfl rfl (show zyR _ _ _ _ [some (.ref (43 + 3)), none, none, some (.int x3), some (.int x4)] [.ref (43 + 3)] _ _ from ?_)
    obtain ⟨p3, hp3, h⟩ := zy_bind h
    refine zy_5 (c := 43) (as := []) (rest := []) (L := [some (.ref (43 + 3))]) (d' := 1) rfl rfl rfl (Nat.le_of_ble_eq_true rfl) (by omega) rfl (Nat.le_of_ble_eq_true rfl) rfl rfl (zyC198 hp3) ?_
    show zyR _ _ _ _ [some (.ref (43 + 3)), none, none, some (.int x3), some (.int x4)] [.int p3.1] _ _
    refine zy_3 rfl rfl (show zyR _ _ _ _ [some (.ref (43 + 3)), none, none, some (.int x3), some (.int x4)] [.int (48 : Int32), .int p3.1] _ _ from ?_)
    refine zy_25_2 rfl (fun b7 => (show zyR _ _ _ _ [some (.ref (43 + 3)), none, none, some (.int x3), some (.int x4)] [] _ _ from ?_)) (fun b7 => (show zyR _ _ _ _ [some (.ref (43 + 3)), none, none, some (.int x3), some (.int x4)] [] _ _ from ?_))
    · replace h := zy_ifp h b7
      exact zy_sub (show zy_le [some (.ref (43 + 3)), none, none, some (.int x3), some (.int x4)] [some (.ref (43 + 3)), none, none, some (.int x3), some (.int x4)] from ⟨rfl, ⟨rfl, ⟨rfl, trivial⟩⟩⟩) (zyC197_229 hd hg192 hg193 hg194 hg195 hg196 hg197 h)
    · replace h := zy_ifn h b7
      refine zy_0 rfl rfl (show zyR _ _ _ _ [some (.ref (43 + 3)), none, none, some (.int x3), some (.int x4)] [.ref (43 + 3)] _ _ from ?_)
      obtain ⟨p4, hp4, h⟩ := zy_bind h
      refine zy_5 (c := 43) (as := []) (rest := []) (L := [some (.ref (43 + 3))]) (d' := 1) rfl rfl rfl (Nat.le_of_ble_eq_true rfl) (by omega) rfl (Nat.le_of_ble_eq_true rfl) rfl rfl (zyC198 hp4) ?_
      show zyR _ _ _ _ [some (.ref (43 + 3)), none, none, some (.int x3), some (.int x4)] [.int p4.1] _ _
      refine zy_3 rfl rfl (show zyR _ _ _ _ [some (.ref (43 + 3)), none, none, some (.int x3), some (.int x4)] [.int (57 : Int32), .int p4.1] _ _ from ?_)
      refine zy_25_4 rfl (fun b6 => (show zyR _ _ _ _ [some (.ref (43 + 3)), none, none, some (.int x3), some (.int x4)] [] _ _ from ?_)) (fun b6 => (show zyR _ _ _ _ [some (.ref (43 + 3)), none, none, some (.int x3), some (.int x4)] [] _ _ from ?_))
      · replace h := zy_ifp h b6
        exact zy_sub (show zy_le [some (.ref (43 + 3)), none, none, some (.int x3), some (.int x4)] [some (.ref (43 + 3)), none, none, some (.int x3), some (.int x4)] from ⟨rfl, ⟨rfl, ⟨rfl, trivial⟩⟩⟩) (zyC197_229 hd hg192 hg193 hg194 hg195 hg196 hg197 h)
      · replace h := zy_ifn h b6
        refine zy_3 rfl rfl (show zyR _ _ _ _ [some (.ref (43 + 3)), none, none, some (.int x3), some (.int x4)] [.int (10 : Int32)] _ _ from ?_)
        refine zy_2 rfl rfl (show zyR _ _ _ _ [some (.ref (43 + 3)), none, none, some (.int x3), some (.int x4)] [.int x3, .int (10 : Int32)] _ _ from ?_)
        refine zy_12 rfl (show zyR _ _ _ _ [some (.ref (43 + 3)), none, none, some (.int x3), some (.int x4)] [.int ((10 : Int32) * x3)] _ _ from ?_)
        refine zy_0 rfl rfl (show zyR _ _ _ _ [some (.ref (43 + 3)), none, none, some (.int x3), some (.int x4)] [.ref (43 + 3), .int ((10 : Int32) * x3)] _ _ from ?_)
        obtain ⟨p5, hp5, h⟩ := zy_bind h
        refine zy_5 (c := 43) (as := []) (rest := [.int ((10 : Int32) * x3)]) (L := [some (.ref (43 + 3))]) (d' := 1) rfl rfl rfl (Nat.le_of_ble_eq_true rfl) (by omega) rfl (Nat.le_of_ble_eq_true rfl) rfl rfl (zyC198 hp5) ?_
        show zyR _ _ _ _ [some (.ref (43 + 3)), none, none, some (.int x3), some (.int x4)] [.int p5.1, .int ((10 : Int32) * x3)] _ _
        refine zy_10 rfl (show zyR _ _ _ _ [some (.ref (43 + 3)), none, none, some (.int x3), some (.int x4)] [.int (((10 : Int32) * x3) + p5.1)] _ _ from ?_)
        refine zy_3 rfl rfl (show zyR _ _ _ _ [some (.ref (43 + 3)), none, none, some (.int x3), some (.int x4)] [.int (48 : Int32), .int (((10 : Int32) * x3) + p5.1)] _ _ from ?_)
        refine zy_11 rfl (show zyR _ _ _ _ [some (.ref (43 + 3)), none, none, some (.int x3), some (.int x4)] [.int ((((10 : Int32) * x3) + p5.1) - (48 : Int32))] _ _ from ?_)
        refine zy_23 rfl rfl (show zyR _ _ _ _ [some (.ref (43 + 3)), none, none, some (.int ((((10 : Int32) * x3) + p5.1) - (48 : Int32))), some (.int x4)] [] _ _ from ?_)
        refine zy_22 rfl rfl rfl rfl (show zyR _ _ _ _ [some (.ref (43 + 3)), none, none, some (.int ((((10 : Int32) * x3) + p5.1) - (48 : Int32))), some (.int (x4 + (1 : Int32)))] [] _ _ from ?_)
        refine zy_0 rfl rfl (show zyR _ _ _ _ [some (.ref (43 + 3)), none, none, some (.int ((((10 : Int32) * x3) + p5.1) - (48 : Int32))), some (.int (x4 + (1 : Int32)))] [.ref (43 + 3)] _ _ from ?_)
        refine zy_33 rfl rfl (show zyR _ _ _ _ [some (.ref (43 + 3)), none, none, some (.int ((((10 : Int32) * x3) + p5.1) - (48 : Int32))), some (.int (x4 + (1 : Int32)))] [.ref (43 + 3), .ref (43 + 3)] _ _ from ?_)
        refine zy_1 (c := 43) rfl rfl rfl (show zyR _ _ _ _ [some (.ref (43 + 3)), none, none, some (.int ((((10 : Int32) * x3) + p5.1) - (48 : Int32))), some (.int (x4 + (1 : Int32)))] [.int (p5.2.1 43 13), .ref (43 + 3)] _ _ from ?_)
        refine zy_3 rfl rfl (show zyR _ _ _ _ [some (.ref (43 + 3)), none, none, some (.int ((((10 : Int32) * x3) + p5.1) - (48 : Int32))), some (.int (x4 + (1 : Int32)))] [.int (1 : Int32), .int (p5.2.1 43 13), .ref (43 + 3)] _ _ from ?_)
        refine zy_10 rfl (show zyR _ _ _ _ [some (.ref (43 + 3)), none, none, some (.int ((((10 : Int32) * x3) + p5.1) - (48 : Int32))), some (.int (x4 + (1 : Int32)))] [.int ((p5.2.1 43 13) + (1 : Int32)), .ref (43 + 3)] _ _ from ?_)
        refine zy_52 (c := 43) rfl rfl rfl (show zyR _ _ _ _ [some (.ref (43 + 3)), none, none, some (.int ((((10 : Int32) * x3) + p5.1) - (48 : Int32))), some (.int (x4 + (1 : Int32)))] [] _ _ from ?_)
        refine zy_6 rfl (show zyR _ _ _ _ [some (.ref (43 + 3)), none, none, some (.int ((((10 : Int32) * x3) + p5.1) - (48 : Int32))), some (.int (x4 + (1 : Int32)))] [] _ _ from ?_)
        exact zy_sub (show zy_le [some (.ref (43 + 3)), none, none, some (.int ((((10 : Int32) * x3) + p5.1) - (48 : Int32))), some (.int (x4 + (1 : Int32)))] [some (.ref (43 + 3)), none, none, some (.int ((((10 : Int32) * x3) + p5.1) - (48 : Int32))), some (.int (x4 + (1 : Int32)))] from ⟨rfl, ⟨rfl, ⟨rfl, trivial⟩⟩⟩) (hk176 ((((10 : Int32) * x3) + p5.1) - (48 : Int32)) (x4 + (1 : Int32)) (zy_up p5.2 43 13 ((p5.2.1 43 13) + (1 : Int32))) _ _ h)
noncomputable def zyF197_176 (g192 : zy_S → Option (Int32 × zy_S)) (g193 : zy_S → Option (Int32 × zy_S)) (g194 : zy_S → Option (Int32 × zy_S)) (g195 : zy_S → Option (Int32 × zy_S)) (g196 : zy_S → Option (Int32 × zy_S)) (g197 : zy_S → Option (Int32 × zy_S))  (n : Nat) : Int32 → Int32 → zy_S → Option (Int32 × zy_S) := Nat.rec (fun _ _ _ => none) (fun _ k176 => zyF197_176b g192 g193 g194 g195 g196 g197 k176) n
theorem zyC197_176 {X : zx_X} {d : Nat} {g192 : zy_S → Option (Int32 × zy_S)} {g193 : zy_S → Option (Int32 × zy_S)} {g194 : zy_S → Option (Int32 × zy_S)} {g195 : zy_S → Option (Int32 × zy_S)} {g196 : zy_S → Option (Int32 × zy_S)} {g197 : zy_S → Option (Int32 × zy_S)}  (hd : 2 ≤ d) (hg192 : ∀  (s : zy_S) (r : Int32) (s' : zy_S), g192 s = some (r, s') → zyR X d 192 0 [some (.ref (43 + 3)), none, none] [] s (zyE (some (.int r)) s')) (hg193 : ∀  (s : zy_S) (r : Int32) (s' : zy_S), g193 s = some (r, s') → zyR X d 193 0 [some (.ref (43 + 3)), none, none] [] s (zyE (some (.int r)) s')) (hg194 : ∀  (s : zy_S) (r : Int32) (s' : zy_S), g194 s = some (r, s') → zyR X d 194 0 [some (.ref (43 + 3)), none, none, none] [] s (zyE (some (.int r)) s')) (hg195 : ∀  (s : zy_S) (r : Int32) (s' : zy_S), g195 s = some (r, s') → zyR X d 195 0 [some (.ref (43 + 3)), none, none, none] [] s (zyE (some (.int r)) s')) (hg196 : ∀  (s : zy_S) (r : Int32) (s' : zy_S), g196 s = some (r, s') → zyR X d 196 0 [some (.ref (43 + 3)), none, none, none] [] s (zyE (some (.int r)) s')) (hg197 : ∀  (s : zy_S) (r : Int32) (s' : zy_S), g197 s = some (r, s') → zyR X d 197 0 [some (.ref (43 + 3)), none, none, none, none] [] s (zyE (some (.int r)) s'))  : ∀ (n : Nat) (x3 : Int32) (x4 : Int32) (s : zy_S) (r : Int32) (s' : zy_S), zyF197_176 g192 g193 g194 g195 g196 g197 n x3 x4 s = some (r, s') → zyR X (d + 1) 197 176 [some (.ref (43 + 3)), none, none, some (.int x3), some (.int x4)] [] s (zyE (some (.int r)) s')
  | 0, _, _ => by
    intro s r s'  h
    have h : (none : Option (Int32 × zy_S)) = some (r, s') := h
    cases h
  | n + 1, x3, x4 => by
    intro s r s'  h
    exact zyC197_176b hd hg192 hg193 hg194 hg195 hg196 hg197 (k176 := zyF197_176 g192 g193 g194 g195 g196 g197 n) (fun x3 x4 s r s'  h => zyC197_176 hd hg192 hg193 hg194 hg195 hg196 hg197 n x3 x4 s r s'  h) h
noncomputable def zyF197_104 (g192 : zy_S → Option (Int32 × zy_S)) (g193 : zy_S → Option (Int32 × zy_S)) (g194 : zy_S → Option (Int32 × zy_S)) (g195 : zy_S → Option (Int32 × zy_S)) (g196 : zy_S → Option (Int32 × zy_S)) (g197 : zy_S → Option (Int32 × zy_S))  (x1 : Int32) (x2 : Int32) (s : zy_S) : Option (Int32 × zy_S) :=
if x1 ≠ (40 : Int32) then
if x1 ≠ (45 : Int32) then
if x2 ≠ 0 then
some ((0 : Int32), (zy_up s 43 16 ((s.1 43 16) - (1 : Int32))))
else
some ((1 : Int32), (zy_up s 43 16 ((s.1 43 16) - (1 : Int32))))
else
some ((-x2), (zy_up s 43 16 ((s.1 43 16) - (1 : Int32))))
else
some (x2, (zy_up s 43 16 ((s.1 43 16) - (1 : Int32))))
theorem zyC197_104 {X : zx_X} {d : Nat} {g192 : zy_S → Option (Int32 × zy_S)} {g193 : zy_S → Option (Int32 × zy_S)} {g194 : zy_S → Option (Int32 × zy_S)} {g195 : zy_S → Option (Int32 × zy_S)} {g196 : zy_S → Option (Int32 × zy_S)} {g197 : zy_S → Option (Int32 × zy_S)}  (hd : 2 ≤ d) (hg192 : ∀  (s : zy_S) (r : Int32) (s' : zy_S), g192 s = some (r, s') → zyR X d 192 0 [some (.ref (43 + 3)), none, none] [] s (zyE (some (.int r)) s')) (hg193 : ∀  (s : zy_S) (r : Int32) (s' : zy_S), g193 s = some (r, s') → zyR X d 193 0 [some (.ref (43 + 3)), none, none] [] s (zyE (some (.int r)) s')) (hg194 : ∀  (s : zy_S) (r : Int32) (s' : zy_S), g194 s = some (r, s') → zyR X d 194 0 [some (.ref (43 + 3)), none, none, none] [] s (zyE (some (.int r)) s')) (hg195 : ∀  (s : zy_S) (r : Int32) (s' : zy_S), g195 s = some (r, s') → zyR X d 195 0 [some (.ref (43 + 3)), none, none, none] [] s (zyE (some (.int r)) s')) (hg196 : ∀  (s : zy_S) (r : Int32) (s' : zy_S), g196 s = some (r, s') → zyR X d 196 0 [some (.ref (43 + 3)), none, none, none] [] s (zyE (some (.int r)) s')) (hg197 : ∀  (s : zy_S) (r : Int32) (s' : zy_S), g197 s = some (r, s') → zyR X d 197 0 [some (.ref (43 + 3)), none, none, none, none] [] s (zyE (some (.int r)) s'))  {x1 : Int32} {x2 : Int32} {s : zy_S} {r : Int32} {s' : zy_S}  (h : zyF197_104 g192 g193 g194 g195 g196 g197 x1 x2 s = some (r, s')) : zyR X (d + 1) 197 104 [some (.ref (43 + 3)), some (.int x1), some (.int x2), none, none] [] s (zyE (some (.int r)) s') := by
  unfold zyF197_104 at h
  refine zy_0 rfl rfl (show zyR _ _ _ _ [some (.ref (43 + 3)), some (.int x1), some (.int x2), none, none] [.ref (43 + 3)] _ _ from ?_)
  refine zy_33 rfl rfl (show zyR _ _ _ _ [some (.ref (43 + 3)), some (.int x1), some (.int x2), none, none] [.ref (43 + 3), .ref (43 + 3)] _ _ from ?_)
  refine zy_1 (c := 43) rfl rfl rfl (show zyR _ _ _ _ [some (.ref (43 + 3)), some (.int x1), some (.int x2), none, none] [.int (s.1 43 16), .ref (43 + 3)] _ _ from ?_)
  refine zy_3 rfl rfl (show zyR _ _ _ _ [some (.ref (43 + 3)), some (.int x1), some (.int x2), none, none] [.int (1 : Int32), .int (s.1 43 16), .ref (43 + 3)] _ _ from ?_)
  refine zy_11 rfl (show zyR _ _ _ _ [some (.ref (43 + 3)), some (.int x1), some (.int x2), none, none] [.int ((s.1 43 16) - (1 : Int32)), .ref (43 + 3)] _ _ from ?_)
  refine zy_52 (c := 43) rfl rfl rfl (show zyR _ _ _ _ [some (.ref (43 + 3)), some (.int x1), some (.int x2), none, none] [] _ _ from ?_)
  refine zy_2 rfl rfl (show zyR _ _ _ _ [some (.ref (43 + 3)), some (.int x1), some (.int x2), none, none] [.int x1] _ _ from ?_)
  refine zy_3 rfl rfl (show zyR _ _ _ _ [some (.ref (43 + 3)), some (.int x1), some (.int x2), none, none] [.int (40 : Int32), .int x1] _ _ from ?_)
  refine zy_25_1 rfl (fun b11 => (show zyR _ _ _ _ [some (.ref (43 + 3)), some (.int x1), some (.int x2), none, none] [] _ _ from ?_)) (fun b11 => (show zyR _ _ _ _ [some (.ref (43 + 3)), some (.int x1), some (.int x2), none, none] [] _ _ from ?_))
  · replace h := zy_ifp h b11
    refine zy_2 rfl rfl (show zyR _ _ _ _ [some (.ref (43 + 3)), some (.int x1), some (.int x2), none, none] [.int x1] _ _ from ?_)
    refine zy_3 rfl rfl (show zyR _ _ _ _ [some (.ref (43 + 3)), some (.int x1), some (.int x2), none, none] [.int (45 : Int32), .int x1] _ _ from ?_)
    refine zy_25_1 rfl (fun b10 => (show zyR _ _ _ _ [some (.ref (43 + 3)), some (.int x1), some (.int x2), none, none] [] _ _ from ?_)) (fun b10 => (show zyR _ _ _ _ [some (.ref (43 + 3)), some (.int x1), some (.int x2), none, none] [] _ _ from ?_))
    · replace h := zy_ifp h b10
      refine zy_2 rfl rfl (show zyR _ _ _ _ [some (.ref (43 + 3)), some (.int x1), some (.int x2), none, none] [.int x2] _ _ from ?_)
      refine zy_24_1 rfl (fun b9 => (show zyR _ _ _ _ [some (.ref (43 + 3)), some (.int x1), some (.int x2), none, none] [] _ _ from ?_)) (fun b9 => (show zyR _ _ _ _ [some (.ref (43 + 3)), some (.int x1), some (.int x2), none, none] [] _ _ from ?_))
      · replace h := zy_ifp h b9
        refine zy_3 rfl rfl (show zyR _ _ _ _ [some (.ref (43 + 3)), some (.int x1), some (.int x2), none, none] [.int (0 : Int32)] _ _ from ?_)
        obtain ⟨rfl, rfl⟩ := zy_pi h
        exact zy_4 rfl ⟨rfl, rfl⟩
      · replace h := zy_ifn h b9
        refine zy_3 rfl rfl (show zyR _ _ _ _ [some (.ref (43 + 3)), some (.int x1), some (.int x2), none, none] [.int (1 : Int32)] _ _ from ?_)
        refine zy_6 rfl (show zyR _ _ _ _ [some (.ref (43 + 3)), some (.int x1), some (.int x2), none, none] [.int (1 : Int32)] _ _ from ?_)
        obtain ⟨rfl, rfl⟩ := zy_pi h
        exact zy_4 rfl ⟨rfl, rfl⟩
    · replace h := zy_ifn h b10
      refine zy_2 rfl rfl (show zyR _ _ _ _ [some (.ref (43 + 3)), some (.int x1), some (.int x2), none, none] [.int x2] _ _ from ?_)
      refine zy_21 rfl (show zyR _ _ _ _ [some (.ref (43 + 3)), some (.int x1), some (.int x2), none, none] [.int (-x2)] _ _ from ?_)
      refine zy_6 rfl (show zyR _ _ _ _ [some (.ref (43 + 3)), some (.int x1), some (.int x2), none, none] [.int (-x2)] _ _ from ?_)
      obtain ⟨rfl, rfl⟩ := zy_pi h
      exact zy_4 rfl ⟨rfl, rfl⟩
  · replace h := zy_ifn h b11
    refine zy_2 rfl rfl (show zyR _ _ _ _ [some (.ref (43 + 3)), some (.int x1), some (.int x2), none, none] [.int x2] _ _ from ?_)
    refine zy_6 rfl (show zyR _ _ _ _ [some (.ref (43 + 3)), some (.int x1), some (.int x2), none, none] [.int x2] _ _ from ?_)
    obtain ⟨rfl, rfl⟩ := zy_pi h
    exact zy_4 rfl ⟨rfl, rfl⟩
noncomputable def zyF197_83 (g192 : zy_S → Option (Int32 × zy_S)) (g193 : zy_S → Option (Int32 × zy_S)) (g194 : zy_S → Option (Int32 × zy_S)) (g195 : zy_S → Option (Int32 × zy_S)) (g196 : zy_S → Option (Int32 × zy_S)) (g197 : zy_S → Option (Int32 × zy_S))  (x1 : Int32) (y0 : Int32) (s : zy_S) : Option (Int32 × zy_S) :=
if x1 ≠ (40 : Int32) then
zyF197_104 g192 g193 g194 g195 g196 g197 x1 y0 s
else
(zyF200 (41 : Int32) s).bind fun p12 =>
if p12.1 ≠ 0 then
zyF197_104 g192 g193 g194 g195 g196 g197 x1 y0 p12.2
else
(zyF199 p12.2).bind fun p13 =>
some (p13.1, p13.2)
theorem zyC197_83 {X : zx_X} {d : Nat} {g192 : zy_S → Option (Int32 × zy_S)} {g193 : zy_S → Option (Int32 × zy_S)} {g194 : zy_S → Option (Int32 × zy_S)} {g195 : zy_S → Option (Int32 × zy_S)} {g196 : zy_S → Option (Int32 × zy_S)} {g197 : zy_S → Option (Int32 × zy_S)}  (hd : 2 ≤ d) (hg192 : ∀  (s : zy_S) (r : Int32) (s' : zy_S), g192 s = some (r, s') → zyR X d 192 0 [some (.ref (43 + 3)), none, none] [] s (zyE (some (.int r)) s')) (hg193 : ∀  (s : zy_S) (r : Int32) (s' : zy_S), g193 s = some (r, s') → zyR X d 193 0 [some (.ref (43 + 3)), none, none] [] s (zyE (some (.int r)) s')) (hg194 : ∀  (s : zy_S) (r : Int32) (s' : zy_S), g194 s = some (r, s') → zyR X d 194 0 [some (.ref (43 + 3)), none, none, none] [] s (zyE (some (.int r)) s')) (hg195 : ∀  (s : zy_S) (r : Int32) (s' : zy_S), g195 s = some (r, s') → zyR X d 195 0 [some (.ref (43 + 3)), none, none, none] [] s (zyE (some (.int r)) s')) (hg196 : ∀  (s : zy_S) (r : Int32) (s' : zy_S), g196 s = some (r, s') → zyR X d 196 0 [some (.ref (43 + 3)), none, none, none] [] s (zyE (some (.int r)) s')) (hg197 : ∀  (s : zy_S) (r : Int32) (s' : zy_S), g197 s = some (r, s') → zyR X d 197 0 [some (.ref (43 + 3)), none, none, none, none] [] s (zyE (some (.int r)) s'))  {x1 : Int32} {y0 : Int32} {s : zy_S} {r : Int32} {s' : zy_S}  (h : zyF197_83 g192 g193 g194 g195 g196 g197 x1 y0 s = some (r, s')) : zyR X (d + 1) 197 83 [some (.ref (43 + 3)), some (.int x1), none, none, none] [.int y0] s (zyE (some (.int r)) s') := by
  unfold zyF197_83 at h
  refine zy_23 rfl rfl (show zyR _ _ _ _ [some (.ref (43 + 3)), some (.int x1), some (.int y0), none, none] [] _ _ from ?_)
  refine zy_2 rfl rfl (show zyR _ _ _ _ [some (.ref (43 + 3)), some (.int x1), some (.int y0), none, none] [.int x1] _ _ from ?_)
  refine zy_3 rfl rfl (show zyR _ _ _ _ [some (.ref (43 + 3)), some (.int x1), some (.int y0), none, none] [.int (40 : Int32), .int x1] _ _ from ?_)
  refine zy_25_1 rfl (fun b15 => (show zyR _ _ _ _ [some (.ref (43 + 3)), some (.int x1), some (.int y0), none, none] [] _ _ from ?_)) (fun b15 => (show zyR _ _ _ _ [some (.ref (43 + 3)), some (.int x1), some (.int y0), none, none] [] _ _ from ?_))
  · replace h := zy_ifp h b15
    exact zy_sub (show zy_le [some (.ref (43 + 3)), some (.int x1), some (.int y0), none, none] [some (.ref (43 + 3)), some (.int x1), some (.int y0), none, none] from ⟨rfl, ⟨rfl, ⟨rfl, trivial⟩⟩⟩) (zyC197_104 hd hg192 hg193 hg194 hg195 hg196 hg197 h)
  · replace h := zy_ifn h b15
    refine zy_0 rfl rfl (show zyR _ _ _ _ [some (.ref (43 + 3)), some (.int x1), some (.int y0), none, none] [.ref (43 + 3)] _ _ from ?_)
    refine zy_3 rfl rfl (show zyR _ _ _ _ [some (.ref (43 + 3)), some (.int x1), some (.int y0), none, none] [.int (41 : Int32), .ref (43 + 3)] _ _ from ?_)
    obtain ⟨p12, hp12, h⟩ := zy_bind h
    refine zy_5 (c := 43) (as := [.int (41 : Int32)]) (rest := []) (L := [some (.ref (43 + 3)), some (.int (41 : Int32))]) (d' := 2) rfl rfl rfl (Nat.le_of_ble_eq_true rfl) (by omega) rfl (Nat.le_of_ble_eq_true rfl) rfl rfl (zyC200 hp12) ?_
    show zyR _ _ _ _ [some (.ref (43 + 3)), some (.int x1), some (.int y0), none, none] [.int p12.1] _ _
    refine zy_24_1 rfl (fun b14 => (show zyR _ _ _ _ [some (.ref (43 + 3)), some (.int x1), some (.int y0), none, none] [] _ _ from ?_)) (fun b14 => (show zyR _ _ _ _ [some (.ref (43 + 3)), some (.int x1), some (.int y0), none, none] [] _ _ from ?_))
    · replace h := zy_ifp h b14
      exact zy_sub (show zy_le [some (.ref (43 + 3)), some (.int x1), some (.int y0), none, none] [some (.ref (43 + 3)), some (.int x1), some (.int y0), none, none] from ⟨rfl, ⟨rfl, ⟨rfl, trivial⟩⟩⟩) (zyC197_104 hd hg192 hg193 hg194 hg195 hg196 hg197 h)
    · replace h := zy_ifn h b14
      refine zy_0 rfl rfl (show zyR _ _ _ _ [some (.ref (43 + 3)), some (.int x1), some (.int y0), none, none] [.ref (43 + 3)] _ _ from ?_)
      obtain ⟨p13, hp13, h⟩ := zy_bind h
      refine zy_5 (c := 43) (as := []) (rest := []) (L := [some (.ref (43 + 3))]) (d' := 1) rfl rfl rfl (Nat.le_of_ble_eq_true rfl) (by omega) rfl (Nat.le_of_ble_eq_true rfl) rfl rfl (zyC199 hp13) ?_
      show zyR _ _ _ _ [some (.ref (43 + 3)), some (.int x1), some (.int y0), none, none] [.int p13.1] _ _
      obtain ⟨rfl, rfl⟩ := zy_pi h
      exact zy_4 rfl ⟨rfl, rfl⟩
noncomputable def zyF197_32 (g192 : zy_S → Option (Int32 × zy_S)) (g193 : zy_S → Option (Int32 × zy_S)) (g194 : zy_S → Option (Int32 × zy_S)) (g195 : zy_S → Option (Int32 × zy_S)) (g196 : zy_S → Option (Int32 × zy_S)) (g197 : zy_S → Option (Int32 × zy_S))  (x1 : Int32) (s : zy_S) : Option (Int32 × zy_S) :=
if (s.1 43 16) ≠ (6 : Int32) then
if x1 ≠ (40 : Int32) then
(g197 (zy_up (zy_up s 43 16 ((s.1 43 16) + (1 : Int32))) 43 13 ((s.1 43 13) + (1 : Int32)))).bind fun p16 =>
zyF197_83 g192 g193 g194 g195 g196 g197 x1 p16.1 p16.2
else
(g192 (zy_up (zy_up s 43 16 ((s.1 43 16) + (1 : Int32))) 43 13 ((s.1 43 13) + (1 : Int32)))).bind fun p17 =>
zyF197_83 g192 g193 g194 g195 g196 g197 x1 p17.1 p17.2
else
(zyF199 s).bind fun p19 =>
some (p19.1, p19.2)
theorem zyC197_32 {X : zx_X} {d : Nat} {g192 : zy_S → Option (Int32 × zy_S)} {g193 : zy_S → Option (Int32 × zy_S)} {g194 : zy_S → Option (Int32 × zy_S)} {g195 : zy_S → Option (Int32 × zy_S)} {g196 : zy_S → Option (Int32 × zy_S)} {g197 : zy_S → Option (Int32 × zy_S)}  (hd : 2 ≤ d) (hg192 : ∀  (s : zy_S) (r : Int32) (s' : zy_S), g192 s = some (r, s') → zyR X d 192 0 [some (.ref (43 + 3)), none, none] [] s (zyE (some (.int r)) s')) (hg193 : ∀  (s : zy_S) (r : Int32) (s' : zy_S), g193 s = some (r, s') → zyR X d 193 0 [some (.ref (43 + 3)), none, none] [] s (zyE (some (.int r)) s')) (hg194 : ∀  (s : zy_S) (r : Int32) (s' : zy_S), g194 s = some (r, s') → zyR X d 194 0 [some (.ref (43 + 3)), none, none, none] [] s (zyE (some (.int r)) s')) (hg195 : ∀  (s : zy_S) (r : Int32) (s' : zy_S), g195 s = some (r, s') → zyR X d 195 0 [some (.ref (43 + 3)), none, none, none] [] s (zyE (some (.int r)) s')) (hg196 : ∀  (s : zy_S) (r : Int32) (s' : zy_S), g196 s = some (r, s') → zyR X d 196 0 [some (.ref (43 + 3)), none, none, none] [] s (zyE (some (.int r)) s')) (hg197 : ∀  (s : zy_S) (r : Int32) (s' : zy_S), g197 s = some (r, s') → zyR X d 197 0 [some (.ref (43 + 3)), none, none, none, none] [] s (zyE (some (.int r)) s'))  {x1 : Int32} {s : zy_S} {r : Int32} {s' : zy_S}  (h : zyF197_32 g192 g193 g194 g195 g196 g197 x1 s = some (r, s')) : zyR X (d + 1) 197 32 [some (.ref (43 + 3)), some (.int x1), none, none, none] [] s (zyE (some (.int r)) s') := by
  unfold zyF197_32 at h
  refine zy_0 rfl rfl (show zyR _ _ _ _ [some (.ref (43 + 3)), some (.int x1), none, none, none] [.ref (43 + 3)] _ _ from ?_)
  refine zy_1 (c := 43) rfl rfl rfl (show zyR _ _ _ _ [some (.ref (43 + 3)), some (.int x1), none, none, none] [.int (s.1 43 16)] _ _ from ?_)
  refine zy_3 rfl rfl (show zyR _ _ _ _ [some (.ref (43 + 3)), some (.int x1), none, none, none] [.int (6 : Int32), .int (s.1 43 16)] _ _ from ?_)
  refine zy_25_1 rfl (fun b20 => (show zyR _ _ _ _ [some (.ref (43 + 3)), some (.int x1), none, none, none] [] _ _ from ?_)) (fun b20 => (show zyR _ _ _ _ [some (.ref (43 + 3)), some (.int x1), none, none, none] [] _ _ from ?_))
  · replace h := zy_ifp h b20
    refine zy_0 rfl rfl (show zyR _ _ _ _ [some (.ref (43 + 3)), some (.int x1), none, none, none] [.ref (43 + 3)] _ _ from ?_)
    refine zy_33 rfl rfl (show zyR _ _ _ _ [some (.ref (43 + 3)), some (.int x1), none, none, none] [.ref (43 + 3), .ref (43 + 3)] _ _ from ?_)
    refine zy_1 (c := 43) rfl rfl rfl (show zyR _ _ _ _ [some (.ref (43 + 3)), some (.int x1), none, none, none] [.int (s.1 43 16), .ref (43 + 3)] _ _ from ?_)
    refine zy_3 rfl rfl (show zyR _ _ _ _ [some (.ref (43 + 3)), some (.int x1), none, none, none] [.int (1 : Int32), .int (s.1 43 16), .ref (43 + 3)] _ _ from ?_)
    refine zy_10 rfl (show zyR _ _ _ _ [some (.ref (43 + 3)), some (.int x1), none, none, none] [.int ((s.1 43 16) + (1 : Int32)), .ref (43 + 3)] _ _ from ?_)
    refine zy_52 (c := 43) rfl rfl rfl (show zyR _ _ _ _ [some (.ref (43 + 3)), some (.int x1), none, none, none] [] _ _ from ?_)
    refine zy_0 rfl rfl (show zyR _ _ _ _ [some (.ref (43 + 3)), some (.int x1), none, none, none] [.ref (43 + 3)] _ _ from ?_)
    refine zy_33 rfl rfl (show zyR _ _ _ _ [some (.ref (43 + 3)), some (.int x1), none, none, none] [.ref (43 + 3), .ref (43 + 3)] _ _ from ?_)
    refine zy_1 (c := 43) rfl rfl rfl (show zyR _ _ _ _ [some (.ref (43 + 3)), some (.int x1), none, none, none] [.int (s.1 43 13), .ref (43 + 3)] _ _ from ?_)
    refine zy_3 rfl rfl (show zyR _ _ _ _ [some (.ref (43 + 3)), some (.int x1), none, none, none] [.int (1 : Int32), .int (s.1 43 13), .ref (43 + 3)] _ _ from ?_)
    refine zy_10 rfl (show zyR _ _ _ _ [some (.ref (43 + 3)), some (.int x1), none, none, none] [.int ((s.1 43 13) + (1 : Int32)), .ref (43 + 3)] _ _ from ?_)
    refine zy_52 (c := 43) rfl rfl rfl (show zyR _ _ _ _ [some (.ref (43 + 3)), some (.int x1), none, none, none] [] _ _ from ?_)
    refine zy_2 rfl rfl (show zyR _ _ _ _ [some (.ref (43 + 3)), some (.int x1), none, none, none] [.int x1] _ _ from ?_)
    refine zy_3 rfl rfl (show zyR _ _ _ _ [some (.ref (43 + 3)), some (.int x1), none, none, none] [.int (40 : Int32), .int x1] _ _ from ?_)
    refine zy_25_1 rfl (fun b18 => (show zyR _ _ _ _ [some (.ref (43 + 3)), some (.int x1), none, none, none] [] _ _ from ?_)) (fun b18 => (show zyR _ _ _ _ [some (.ref (43 + 3)), some (.int x1), none, none, none] [] _ _ from ?_))
    · replace h := zy_ifp h b18
      refine zy_0 rfl rfl (show zyR _ _ _ _ [some (.ref (43 + 3)), some (.int x1), none, none, none] [.ref (43 + 3)] _ _ from ?_)
      obtain ⟨p16, hp16, h⟩ := zy_bind h
      refine zy_5 (c := 43) (as := []) (rest := []) (L := [some (.ref (43 + 3)), none, none, none, none]) (d' := d) rfl rfl rfl (Nat.le_of_ble_eq_true rfl) (by omega) rfl (Nat.le_of_ble_eq_true rfl) rfl rfl (hg197 (zy_up (zy_up s 43 16 ((s.1 43 16) + (1 : Int32))) 43 13 ((s.1 43 13) + (1 : Int32))) _ _ hp16) ?_
      show zyR _ _ _ _ [some (.ref (43 + 3)), some (.int x1), none, none, none] [.int p16.1] _ _
      exact zy_sub (show zy_le [some (.ref (43 + 3)), some (.int x1), none, none, none] [some (.ref (43 + 3)), some (.int x1), none, none, none] from ⟨rfl, ⟨rfl, trivial⟩⟩) (zyC197_83 hd hg192 hg193 hg194 hg195 hg196 hg197 h)
    · replace h := zy_ifn h b18
      refine zy_0 rfl rfl (show zyR _ _ _ _ [some (.ref (43 + 3)), some (.int x1), none, none, none] [.ref (43 + 3)] _ _ from ?_)
      obtain ⟨p17, hp17, h⟩ := zy_bind h
      refine zy_5 (c := 43) (as := []) (rest := []) (L := [some (.ref (43 + 3)), none, none]) (d' := d) rfl rfl rfl (Nat.le_of_ble_eq_true rfl) (by omega) rfl (Nat.le_of_ble_eq_true rfl) rfl rfl (hg192 (zy_up (zy_up s 43 16 ((s.1 43 16) + (1 : Int32))) 43 13 ((s.1 43 13) + (1 : Int32))) _ _ hp17) ?_
      show zyR _ _ _ _ [some (.ref (43 + 3)), some (.int x1), none, none, none] [.int p17.1] _ _
      refine zy_6 rfl (show zyR _ _ _ _ [some (.ref (43 + 3)), some (.int x1), none, none, none] [.int p17.1] _ _ from ?_)
      exact zy_sub (show zy_le [some (.ref (43 + 3)), some (.int x1), none, none, none] [some (.ref (43 + 3)), some (.int x1), none, none, none] from ⟨rfl, ⟨rfl, trivial⟩⟩) (zyC197_83 hd hg192 hg193 hg194 hg195 hg196 hg197 h)
  · replace h := zy_ifn h b20
    refine zy_0 rfl rfl (show zyR _ _ _ _ [some (.ref (43 + 3)), some (.int x1), none, none, none] [.ref (43 + 3)] _ _ from ?_)
    obtain ⟨p19, hp19, h⟩ := zy_bind h
    refine zy_5 (c := 43) (as := []) (rest := []) (L := [some (.ref (43 + 3))]) (d' := 1) rfl rfl rfl (Nat.le_of_ble_eq_true rfl) (by omega) rfl (Nat.le_of_ble_eq_true rfl) rfl rfl (zyC199 hp19) ?_
    show zyR _ _ _ _ [some (.ref (43 + 3)), some (.int x1), none, none, none] [.int p19.1] _ _
    obtain ⟨rfl, rfl⟩ := zy_pi h
    exact zy_4 rfl ⟨rfl, rfl⟩
noncomputable def zyF197_0 (g192 : zy_S → Option (Int32 × zy_S)) (g193 : zy_S → Option (Int32 × zy_S)) (g194 : zy_S → Option (Int32 × zy_S)) (g195 : zy_S → Option (Int32 × zy_S)) (g196 : zy_S → Option (Int32 × zy_S)) (g197 : zy_S → Option (Int32 × zy_S))   (s : zy_S) : Option (Int32 × zy_S) :=
if (s.1 43 15) < 0 then
(zyF198 s).bind fun p21 =>
if p21.1 = (33 : Int32) then
zyF197_32 g192 g193 g194 g195 g196 g197 p21.1 p21.2
else
if p21.1 = (45 : Int32) then
zyF197_32 g192 g193 g194 g195 g196 g197 p21.1 p21.2
else
if p21.1 ≠ (40 : Int32) then
(zyF201 p21.1 p21.2).bind fun p22 =>
if p22.1 < 0 then
zyF197_176 g192 g193 g194 g195 g196 g197 zy_fu (0 : Int32) (0 : Int32) p22.2
else
if zy_in p22.1 6 then
some ((p22.2.1 50 (p22.1).toNatClampNeg), (zy_up p22.2 43 13 ((p22.2.1 43 13) + (1 : Int32))))
else none
else
zyF197_32 g192 g193 g194 g195 g196 g197 p21.1 p21.2
else
some ((0 : Int32), s)
theorem zyC197_0 {X : zx_X} {d : Nat} {g192 : zy_S → Option (Int32 × zy_S)} {g193 : zy_S → Option (Int32 × zy_S)} {g194 : zy_S → Option (Int32 × zy_S)} {g195 : zy_S → Option (Int32 × zy_S)} {g196 : zy_S → Option (Int32 × zy_S)} {g197 : zy_S → Option (Int32 × zy_S)}  (hd : 2 ≤ d) (hg192 : ∀  (s : zy_S) (r : Int32) (s' : zy_S), g192 s = some (r, s') → zyR X d 192 0 [some (.ref (43 + 3)), none, none] [] s (zyE (some (.int r)) s')) (hg193 : ∀  (s : zy_S) (r : Int32) (s' : zy_S), g193 s = some (r, s') → zyR X d 193 0 [some (.ref (43 + 3)), none, none] [] s (zyE (some (.int r)) s')) (hg194 : ∀  (s : zy_S) (r : Int32) (s' : zy_S), g194 s = some (r, s') → zyR X d 194 0 [some (.ref (43 + 3)), none, none, none] [] s (zyE (some (.int r)) s')) (hg195 : ∀  (s : zy_S) (r : Int32) (s' : zy_S), g195 s = some (r, s') → zyR X d 195 0 [some (.ref (43 + 3)), none, none, none] [] s (zyE (some (.int r)) s')) (hg196 : ∀  (s : zy_S) (r : Int32) (s' : zy_S), g196 s = some (r, s') → zyR X d 196 0 [some (.ref (43 + 3)), none, none, none] [] s (zyE (some (.int r)) s')) (hg197 : ∀  (s : zy_S) (r : Int32) (s' : zy_S), g197 s = some (r, s') → zyR X d 197 0 [some (.ref (43 + 3)), none, none, none, none] [] s (zyE (some (.int r)) s'))   {s : zy_S} {r : Int32} {s' : zy_S}  (h : zyF197_0 g192 g193 g194 g195 g196 g197 s = some (r, s')) : zyR X (d + 1) 197 0 [some (.ref (43 + 3)), none, none, none, none] [] s (zyE (some (.int r)) s') := by
  unfold zyF197_0 at h
  refine zy_0 rfl rfl (show zyR _ _ _ _ [some (.ref (43 + 3)), none, none, none, none] [.ref (43 + 3)] _ _ from ?_)
  refine zy_1 (c := 43) rfl rfl rfl (show zyR _ _ _ _ [some (.ref (43 + 3)), none, none, none, none] [.int (s.1 43 15)] _ _ from ?_)
  refine zy_24_2 rfl (fun b28 => (show zyR _ _ _ _ [some (.ref (43 + 3)), none, none, none, none] [] _ _ from ?_)) (fun b28 => (show zyR _ _ _ _ [some (.ref (43 + 3)), none, none, none, none] [] _ _ from ?_))
  · replace h := zy_ifp h b28
    refine zy_0 rfl rfl (show zyR _ _ _ _ [some (.ref (43 + 3)), none, none, none, none] [.ref (43 + 3)] _ _ from ?_)
    obtain ⟨p21, hp21, h⟩ := zy_bind h
    refine zy_5 (c := 43) (as := []) (rest := []) (L := [some (.ref (43 + 3))]) (d' := 1) rfl rfl rfl (Nat.le_of_ble_eq_true rfl) (by omega) rfl (Nat.le_of_ble_eq_true rfl) rfl rfl (zyC198 hp21) ?_
    show zyR _ _ _ _ [some (.ref (43 + 3)), none, none, none, none] [.int p21.1] _ _
    refine zy_23 rfl rfl (show zyR _ _ _ _ [some (.ref (43 + 3)), some (.int p21.1), none, none, none] [] _ _ from ?_)
    refine zy_2 rfl rfl (show zyR _ _ _ _ [some (.ref (43 + 3)), some (.int p21.1), none, none, none] [.int p21.1] _ _ from ?_)
    refine zy_3 rfl rfl (show zyR _ _ _ _ [some (.ref (43 + 3)), some (.int p21.1), none, none, none] [.int (33 : Int32), .int p21.1] _ _ from ?_)
    refine zy_25_0 rfl (fun b27 => (show zyR _ _ _ _ [some (.ref (43 + 3)), some (.int p21.1), none, none, none] [] _ _ from ?_)) (fun b27 => (show zyR _ _ _ _ [some (.ref (43 + 3)), some (.int p21.1), none, none, none] [] _ _ from ?_))
    · replace h := zy_ifp h b27
      exact zy_sub (show zy_le [some (.ref (43 + 3)), some (.int p21.1), none, none, none] [some (.ref (43 + 3)), some (.int p21.1), none, none, none] from ⟨rfl, ⟨rfl, trivial⟩⟩) (zyC197_32 hd hg192 hg193 hg194 hg195 hg196 hg197 h)
    · replace h := zy_ifn h b27
      refine zy_2 rfl rfl (show zyR _ _ _ _ [some (.ref (43 + 3)), some (.int p21.1), none, none, none] [.int p21.1] _ _ from ?_)
      refine zy_3 rfl rfl (show zyR _ _ _ _ [some (.ref (43 + 3)), some (.int p21.1), none, none, none] [.int (45 : Int32), .int p21.1] _ _ from ?_)
      refine zy_25_0 rfl (fun b26 => (show zyR _ _ _ _ [some (.ref (43 + 3)), some (.int p21.1), none, none, none] [] _ _ from ?_)) (fun b26 => (show zyR _ _ _ _ [some (.ref (43 + 3)), some (.int p21.1), none, none, none] [] _ _ from ?_))
      · replace h := zy_ifp h b26
        exact zy_sub (show zy_le [some (.ref (43 + 3)), some (.int p21.1), none, none, none] [some (.ref (43 + 3)), some (.int p21.1), none, none, none] from ⟨rfl, ⟨rfl, trivial⟩⟩) (zyC197_32 hd hg192 hg193 hg194 hg195 hg196 hg197 h)
      · replace h := zy_ifn h b26
        refine zy_2 rfl rfl (show zyR _ _ _ _ [some (.ref (43 + 3)), some (.int p21.1), none, none, none] [.int p21.1] _ _ from ?_)
        refine zy_3 rfl rfl (show zyR _ _ _ _ [some (.ref (43 + 3)), some (.int p21.1), none, none, none] [.int (40 : Int32), .int p21.1] _ _ from ?_)
        refine zy_25_1 rfl (fun b25 => (show zyR _ _ _ _ [some (.ref (43 + 3)), some (.int p21.1), none, none, none] [] _ _ from ?_)) (fun b25 => (show zyR _ _ _ _ [some (.ref (43 + 3)), some (.int p21.1), none, none, none] [] _ _ from ?_))
        · replace h := zy_ifp h b25
          refine zy_2 rfl rfl (show zyR _ _ _ _ [some (.ref (43 + 3)), some (.int p21.1), none, none, none] [.int p21.1] _ _ from ?_)
          obtain ⟨p22, hp22, h⟩ := zy_bind h
          refine zy_60 (as := [.int p21.1]) (rest := []) (L := [some (.int p21.1)]) (d' := 1) rfl rfl (Nat.le_of_ble_eq_true rfl) (by omega) rfl (Nat.le_of_ble_eq_true rfl) rfl rfl (zyC201 hp22) ?_
          show zyR _ _ _ _ [some (.ref (43 + 3)), some (.int p21.1), none, none, none] [.int p22.1] _ _
          refine zy_23 rfl rfl (show zyR _ _ _ _ [some (.ref (43 + 3)), some (.int p21.1), some (.int p22.1), none, none] [] _ _ from ?_)
          refine zy_2 rfl rfl (show zyR _ _ _ _ [some (.ref (43 + 3)), some (.int p21.1), some (.int p22.1), none, none] [.int p22.1] _ _ from ?_)
          refine zy_24_2 rfl (fun b24 => (show zyR _ _ _ _ [some (.ref (43 + 3)), some (.int p21.1), some (.int p22.1), none, none] [] _ _ from ?_)) (fun b24 => (show zyR _ _ _ _ [some (.ref (43 + 3)), some (.int p21.1), some (.int p22.1), none, none] [] _ _ from ?_))
          · replace h := zy_ifp h b24
            refine zy_3 rfl rfl (show zyR _ _ _ _ [some (.ref (43 + 3)), some (.int p21.1), some (.int p22.1), none, none] [.int (0 : Int32)] _ _ from ?_)
            refine zy_23 rfl rfl (show zyR _ _ _ _ [some (.ref (43 + 3)), some (.int p21.1), some (.int p22.1), some (.int (0 : Int32)), none] [] _ _ from ?_)
            refine zy_3 rfl rfl (show zyR _ _ _ _ [some (.ref (43 + 3)), some (.int p21.1), some (.int p22.1), some (.int (0 : Int32)), none] [.int (0 : Int32)] _ _ from ?_)
            refine zy_23 rfl rfl (show zyR _ _ _ _ [some (.ref (43 + 3)), some (.int p21.1), some (.int p22.1), some (.int (0 : Int32)), some (.int (0 : Int32))] [] _ _ from ?_)
            exact zy_sub (show zy_le [some (.ref (43 + 3)), none, none, some (.int (0 : Int32)), some (.int (0 : Int32))] [some (.ref (43 + 3)), some (.int p21.1), some (.int p22.1), some (.int (0 : Int32)), some (.int (0 : Int32))] from ⟨rfl, ⟨rfl, ⟨rfl, trivial⟩⟩⟩) (zyC197_176 hd hg192 hg193 hg194 hg195 hg196 hg197 zy_fu (0 : Int32) (0 : Int32) p22.2 _ _ h)
          · replace h := zy_ifn h b24
            refine zy_0 rfl rfl (show zyR _ _ _ _ [some (.ref (43 + 3)), some (.int p21.1), some (.int p22.1), none, none] [.ref (43 + 3)] _ _ from ?_)
            refine zy_33 rfl rfl (show zyR _ _ _ _ [some (.ref (43 + 3)), some (.int p21.1), some (.int p22.1), none, none] [.ref (43 + 3), .ref (43 + 3)] _ _ from ?_)
            refine zy_1 (c := 43) rfl rfl rfl (show zyR _ _ _ _ [some (.ref (43 + 3)), some (.int p21.1), some (.int p22.1), none, none] [.int (p22.2.1 43 13), .ref (43 + 3)] _ _ from ?_)
            refine zy_3 rfl rfl (show zyR _ _ _ _ [some (.ref (43 + 3)), some (.int p21.1), some (.int p22.1), none, none] [.int (1 : Int32), .int (p22.2.1 43 13), .ref (43 + 3)] _ _ from ?_)
            refine zy_10 rfl (show zyR _ _ _ _ [some (.ref (43 + 3)), some (.int p21.1), some (.int p22.1), none, none] [.int ((p22.2.1 43 13) + (1 : Int32)), .ref (43 + 3)] _ _ from ?_)
            refine zy_52 (c := 43) rfl rfl rfl (show zyR _ _ _ _ [some (.ref (43 + 3)), some (.int p21.1), some (.int p22.1), none, none] [] _ _ from ?_)
            refine zy_0 rfl rfl (show zyR _ _ _ _ [some (.ref (43 + 3)), some (.int p21.1), some (.int p22.1), none, none] [.ref (43 + 3)] _ _ from ?_)
            refine zy_1r (c := 43) rfl rfl rfl (show zyR _ _ _ _ [some (.ref (43 + 3)), some (.int p21.1), some (.int p22.1), none, none] [.ref (50 + 3)] _ _ from ?_)
            refine zy_2 rfl rfl (show zyR _ _ _ _ [some (.ref (43 + 3)), some (.int p21.1), some (.int p22.1), none, none] [.int p22.1, .ref (50 + 3)] _ _ from ?_)
            obtain ⟨c23, h⟩ := zy_if h
            refine zy_26 (c := 50) rfl rfl c23 (show zyR _ _ _ _ [some (.ref (43 + 3)), some (.int p21.1), some (.int p22.1), none, none] [.int (p22.2.1 50 (p22.1).toNatClampNeg)] _ _ from ?_)
            obtain ⟨rfl, rfl⟩ := zy_pi h
            exact zy_4 rfl ⟨rfl, rfl⟩
        · replace h := zy_ifn h b25
          exact zy_sub (show zy_le [some (.ref (43 + 3)), some (.int p21.1), none, none, none] [some (.ref (43 + 3)), some (.int p21.1), none, none, none] from ⟨rfl, ⟨rfl, trivial⟩⟩) (zyC197_32 hd hg192 hg193 hg194 hg195 hg196 hg197 h)
  · replace h := zy_ifn h b28
    refine zy_3 rfl rfl (show zyR _ _ _ _ [some (.ref (43 + 3)), none, none, none, none] [.int (0 : Int32)] _ _ from ?_)
    obtain ⟨rfl, rfl⟩ := zy_pi h
    exact zy_4 rfl ⟨rfl, rfl⟩
noncomputable def zyG192 (n : Nat) : (zy_S → Option (Int32 × zy_S)) × (zy_S → Option (Int32 × zy_S)) × (zy_S → Option (Int32 × zy_S)) × (zy_S → Option (Int32 × zy_S)) × (zy_S → Option (Int32 × zy_S)) × (zy_S → Option (Int32 × zy_S)) := Nat.rec ((fun _ => none), ((fun _ => none), ((fun _ => none), ((fun _ => none), ((fun _ => none), (fun _ => none)))))) (fun _ g => ((fun  s => zyF192_0 g.1 g.2.1 g.2.2.1 g.2.2.2.1 g.2.2.2.2.1 g.2.2.2.2.2  s), ((fun  s => zyF193_0 g.1 g.2.1 g.2.2.1 g.2.2.2.1 g.2.2.2.2.1 g.2.2.2.2.2  s), ((fun  s => zyF194_0 g.1 g.2.1 g.2.2.1 g.2.2.2.1 g.2.2.2.2.1 g.2.2.2.2.2  s), ((fun  s => zyF195_0 g.1 g.2.1 g.2.2.1 g.2.2.2.1 g.2.2.2.2.1 g.2.2.2.2.2  s), ((fun  s => zyF196_0 g.1 g.2.1 g.2.2.1 g.2.2.2.1 g.2.2.2.2.1 g.2.2.2.2.2  s), (fun  s => zyF197_0 g.1 g.2.1 g.2.2.1 g.2.2.2.1 g.2.2.2.2.1 g.2.2.2.2.2  s))))))) n
theorem zyG192_s (n : Nat) : zyG192 (n + 1) = ((fun  s => zyF192_0 (zyG192 n).1 (zyG192 n).2.1 (zyG192 n).2.2.1 (zyG192 n).2.2.2.1 (zyG192 n).2.2.2.2.1 (zyG192 n).2.2.2.2.2  s), ((fun  s => zyF193_0 (zyG192 n).1 (zyG192 n).2.1 (zyG192 n).2.2.1 (zyG192 n).2.2.2.1 (zyG192 n).2.2.2.2.1 (zyG192 n).2.2.2.2.2  s), ((fun  s => zyF194_0 (zyG192 n).1 (zyG192 n).2.1 (zyG192 n).2.2.1 (zyG192 n).2.2.2.1 (zyG192 n).2.2.2.2.1 (zyG192 n).2.2.2.2.2  s), ((fun  s => zyF195_0 (zyG192 n).1 (zyG192 n).2.1 (zyG192 n).2.2.1 (zyG192 n).2.2.2.1 (zyG192 n).2.2.2.2.1 (zyG192 n).2.2.2.2.2  s), ((fun  s => zyF196_0 (zyG192 n).1 (zyG192 n).2.1 (zyG192 n).2.2.1 (zyG192 n).2.2.2.1 (zyG192 n).2.2.2.2.1 (zyG192 n).2.2.2.2.2  s), (fun  s => zyF197_0 (zyG192 n).1 (zyG192 n).2.1 (zyG192 n).2.2.1 (zyG192 n).2.2.2.1 (zyG192 n).2.2.2.2.1 (zyG192 n).2.2.2.2.2  s)))))) := rfl
theorem zyS192 (n : Nat)  (s : zy_S) : (zyG192 (n + 1)).1 s = zyF192_0 (zyG192 n).1 (zyG192 n).2.1 (zyG192 n).2.2.1 (zyG192 n).2.2.2.1 (zyG192 n).2.2.2.2.1 (zyG192 n).2.2.2.2.2 s := by
  rw [zyG192_s]
theorem zyS193 (n : Nat)  (s : zy_S) : (zyG192 (n + 1)).2.1 s = zyF193_0 (zyG192 n).1 (zyG192 n).2.1 (zyG192 n).2.2.1 (zyG192 n).2.2.2.1 (zyG192 n).2.2.2.2.1 (zyG192 n).2.2.2.2.2 s := by
  rw [zyG192_s]
theorem zyS194 (n : Nat)  (s : zy_S) : (zyG192 (n + 1)).2.2.1 s = zyF194_0 (zyG192 n).1 (zyG192 n).2.1 (zyG192 n).2.2.1 (zyG192 n).2.2.2.1 (zyG192 n).2.2.2.2.1 (zyG192 n).2.2.2.2.2 s := by
  rw [zyG192_s]
theorem zyS195 (n : Nat)  (s : zy_S) : (zyG192 (n + 1)).2.2.2.1 s = zyF195_0 (zyG192 n).1 (zyG192 n).2.1 (zyG192 n).2.2.1 (zyG192 n).2.2.2.1 (zyG192 n).2.2.2.2.1 (zyG192 n).2.2.2.2.2 s := by
  rw [zyG192_s]
theorem zyS196 (n : Nat)  (s : zy_S) : (zyG192 (n + 1)).2.2.2.2.1 s = zyF196_0 (zyG192 n).1 (zyG192 n).2.1 (zyG192 n).2.2.1 (zyG192 n).2.2.2.1 (zyG192 n).2.2.2.2.1 (zyG192 n).2.2.2.2.2 s := by
  rw [zyG192_s]
theorem zyS197 (n : Nat)  (s : zy_S) : (zyG192 (n + 1)).2.2.2.2.2 s = zyF197_0 (zyG192 n).1 (zyG192 n).2.1 (zyG192 n).2.2.1 (zyG192 n).2.2.2.1 (zyG192 n).2.2.2.2.1 (zyG192 n).2.2.2.2.2 s := by
  rw [zyG192_s]
theorem zyG192_ok {X : zx_X} : ∀ n : Nat, (∀  (s : zy_S) (r : Int32) (s' : zy_S), (zyG192 n).1 s = some (r, s') → zyR X (2 + n) 192 0 [some (.ref (43 + 3)), none, none] [] s (zyE (some (.int r)) s')) ∧ (∀  (s : zy_S) (r : Int32) (s' : zy_S), (zyG192 n).2.1 s = some (r, s') → zyR X (2 + n) 193 0 [some (.ref (43 + 3)), none, none] [] s (zyE (some (.int r)) s')) ∧ (∀  (s : zy_S) (r : Int32) (s' : zy_S), (zyG192 n).2.2.1 s = some (r, s') → zyR X (2 + n) 194 0 [some (.ref (43 + 3)), none, none, none] [] s (zyE (some (.int r)) s')) ∧ (∀  (s : zy_S) (r : Int32) (s' : zy_S), (zyG192 n).2.2.2.1 s = some (r, s') → zyR X (2 + n) 195 0 [some (.ref (43 + 3)), none, none, none] [] s (zyE (some (.int r)) s')) ∧ (∀  (s : zy_S) (r : Int32) (s' : zy_S), (zyG192 n).2.2.2.2.1 s = some (r, s') → zyR X (2 + n) 196 0 [some (.ref (43 + 3)), none, none, none] [] s (zyE (some (.int r)) s')) ∧ (∀  (s : zy_S) (r : Int32) (s' : zy_S), (zyG192 n).2.2.2.2.2 s = some (r, s') → zyR X (2 + n) 197 0 [some (.ref (43 + 3)), none, none, none, none] [] s (zyE (some (.int r)) s'))
  | 0 => by
    refine ⟨?_, ?_, ?_, ?_, ?_, ?_⟩
    · intro  s r s'  h
      have h : (none : Option (Int32 × zy_S)) = some (r, s') := h
      cases h
    · intro  s r s'  h
      have h : (none : Option (Int32 × zy_S)) = some (r, s') := h
      cases h
    · intro  s r s'  h
      have h : (none : Option (Int32 × zy_S)) = some (r, s') := h
      cases h
    · intro  s r s'  h
      have h : (none : Option (Int32 × zy_S)) = some (r, s') := h
      cases h
    · intro  s r s'  h
      have h : (none : Option (Int32 × zy_S)) = some (r, s') := h
      cases h
    · intro  s r s'  h
      have h : (none : Option (Int32 × zy_S)) = some (r, s') := h
      cases h
  | n + 1 => by
    obtain ⟨i0, i1, i2, i3, i4, i5⟩ := zyG192_ok (X := X) n
    refine ⟨?_, ?_, ?_, ?_, ?_, ?_⟩
    · intro  s r s'  h
      rw [zyS192] at h
      exact zy_sub (show zy_le [some (.ref (43 + 3)), none, none] [some (.ref (43 + 3)), none, none] from ⟨rfl, trivial⟩) (zyC192_0 (d := 2 + n) (g192 := (zyG192 n).1) (g193 := (zyG192 n).2.1) (g194 := (zyG192 n).2.2.1) (g195 := (zyG192 n).2.2.2.1) (g196 := (zyG192 n).2.2.2.2.1) (g197 := (zyG192 n).2.2.2.2.2) (by omega) i0 i1 i2 i3 i4 i5  h)
    · intro  s r s'  h
      rw [zyS193] at h
      exact zy_sub (show zy_le [some (.ref (43 + 3)), none, none] [some (.ref (43 + 3)), none, none] from ⟨rfl, trivial⟩) (zyC193_0 (d := 2 + n) (g192 := (zyG192 n).1) (g193 := (zyG192 n).2.1) (g194 := (zyG192 n).2.2.1) (g195 := (zyG192 n).2.2.2.1) (g196 := (zyG192 n).2.2.2.2.1) (g197 := (zyG192 n).2.2.2.2.2) (by omega) i0 i1 i2 i3 i4 i5  h)
    · intro  s r s'  h
      rw [zyS194] at h
      exact zy_sub (show zy_le [some (.ref (43 + 3)), none, none, none] [some (.ref (43 + 3)), none, none, none] from ⟨rfl, trivial⟩) (zyC194_0 (d := 2 + n) (g192 := (zyG192 n).1) (g193 := (zyG192 n).2.1) (g194 := (zyG192 n).2.2.1) (g195 := (zyG192 n).2.2.2.1) (g196 := (zyG192 n).2.2.2.2.1) (g197 := (zyG192 n).2.2.2.2.2) (by omega) i0 i1 i2 i3 i4 i5  h)
    · intro  s r s'  h
      rw [zyS195] at h
      exact zy_sub (show zy_le [some (.ref (43 + 3)), none, none, none] [some (.ref (43 + 3)), none, none, none] from ⟨rfl, trivial⟩) (zyC195_0 (d := 2 + n) (g192 := (zyG192 n).1) (g193 := (zyG192 n).2.1) (g194 := (zyG192 n).2.2.1) (g195 := (zyG192 n).2.2.2.1) (g196 := (zyG192 n).2.2.2.2.1) (g197 := (zyG192 n).2.2.2.2.2) (by omega) i0 i1 i2 i3 i4 i5  h)
    · intro  s r s'  h
      rw [zyS196] at h
      exact zy_sub (show zy_le [some (.ref (43 + 3)), none, none, none] [some (.ref (43 + 3)), none, none, none] from ⟨rfl, trivial⟩) (zyC196_0 (d := 2 + n) (g192 := (zyG192 n).1) (g193 := (zyG192 n).2.1) (g194 := (zyG192 n).2.2.1) (g195 := (zyG192 n).2.2.2.1) (g196 := (zyG192 n).2.2.2.2.1) (g197 := (zyG192 n).2.2.2.2.2) (by omega) i0 i1 i2 i3 i4 i5  h)
    · intro  s r s'  h
      rw [zyS197] at h
      exact zy_sub (show zy_le [some (.ref (43 + 3)), none, none, none, none] [some (.ref (43 + 3)), none, none, none, none] from ⟨rfl, trivial⟩) (zyC197_0 (d := 2 + n) (g192 := (zyG192 n).1) (g193 := (zyG192 n).2.1) (g194 := (zyG192 n).2.2.1) (g195 := (zyG192 n).2.2.2.1) (g196 := (zyG192 n).2.2.2.2.1) (g197 := (zyG192 n).2.2.2.2.2) (by omega) i0 i1 i2 i3 i4 i5  h)
noncomputable def zyF192 : zy_S → Option (Int32 × zy_S) := (zyG192 100).1
theorem zyC192 {X : zx_X}  {s : zy_S} {r : Int32} {s' : zy_S}  (h : zyF192 s = some (r, s')) : zyR X 102 192 0 [some (.ref (43 + 3)), none, none] [] s (zyE (some (.int r)) s') := (zyG192_ok (X := X) 100).1  s r s'  h
noncomputable def zyF193 : zy_S → Option (Int32 × zy_S) := (zyG192 100).2.1
theorem zyC193 {X : zx_X}  {s : zy_S} {r : Int32} {s' : zy_S}  (h : zyF193 s = some (r, s')) : zyR X 102 193 0 [some (.ref (43 + 3)), none, none] [] s (zyE (some (.int r)) s') := (zyG192_ok (X := X) 100).2.1  s r s'  h
noncomputable def zyF194 : zy_S → Option (Int32 × zy_S) := (zyG192 100).2.2.1
theorem zyC194 {X : zx_X}  {s : zy_S} {r : Int32} {s' : zy_S}  (h : zyF194 s = some (r, s')) : zyR X 102 194 0 [some (.ref (43 + 3)), none, none, none] [] s (zyE (some (.int r)) s') := (zyG192_ok (X := X) 100).2.2.1  s r s'  h
noncomputable def zyF195 : zy_S → Option (Int32 × zy_S) := (zyG192 100).2.2.2.1
theorem zyC195 {X : zx_X}  {s : zy_S} {r : Int32} {s' : zy_S}  (h : zyF195 s = some (r, s')) : zyR X 102 195 0 [some (.ref (43 + 3)), none, none, none] [] s (zyE (some (.int r)) s') := (zyG192_ok (X := X) 100).2.2.2.1  s r s'  h
noncomputable def zyF196 : zy_S → Option (Int32 × zy_S) := (zyG192 100).2.2.2.2.1
theorem zyC196 {X : zx_X}  {s : zy_S} {r : Int32} {s' : zy_S}  (h : zyF196 s = some (r, s')) : zyR X 102 196 0 [some (.ref (43 + 3)), none, none, none] [] s (zyE (some (.int r)) s') := (zyG192_ok (X := X) 100).2.2.2.2.1  s r s'  h
noncomputable def zyF197 : zy_S → Option (Int32 × zy_S) := (zyG192 100).2.2.2.2.2
theorem zyC197 {X : zx_X}  {s : zy_S} {r : Int32} {s' : zy_S}  (h : zyF197 s = some (r, s')) : zyR X 102 197 0 [some (.ref (43 + 3)), none, none, none, none] [] s (zyE (some (.int r)) s') := (zyG192_ok (X := X) 100).2.2.2.2.2  s r s'  h
noncomputable def zyF191_96  (k33 : Int32 → Int32 → Int32 → zy_S → Option (Int32 × zy_S)) (x3 : Int32) (x4 : Int32) (s : zy_S) : Option (Int32 × zy_S) :=
(zyF200 (59 : Int32) s).bind fun p1 =>
k33 x3 x4 p1.1 p1.2
theorem zyC191_96 {X : zx_X}  {k33 : Int32 → Int32 → Int32 → zy_S → Option (Int32 × zy_S)}  (hk33 : ∀ (x3 : Int32) (x4 : Int32) (x5 : Int32) (s : zy_S) (r : Int32) (s' : zy_S), k33 x3 x4 x5 s = some (r, s') → zyR X 103 191 33 [some (.ref (43 + 3)), none, none, some (.int x3), some (.int x4), some (.int x5), none, none] [] s (zyE (some (.int r)) s')) {x3 : Int32} {x4 : Int32} {s : zy_S} {r : Int32} {s' : zy_S}  (h : zyF191_96 k33 x3 x4 s = some (r, s')) : zyR X 103 191 96 [some (.ref (43 + 3)), none, none, some (.int x3), some (.int x4), none, none, none] [] s (zyE (some (.int r)) s') := by
  unfold zyF191_96 at h
  refine zy_0 rfl rfl (show zyR _ _ _ _ [some (.ref (43 + 3)), none, none, some (.int x3), some (.int x4), none, none, none] [.ref (43 + 3)] _ _ from ?_)
  refine zy_3 rfl rfl (show zyR _ _ _ _ [some (.ref (43 + 3)), none, none, some (.int x3), some (.int x4), none, none, none] [.int (59 : Int32), .ref (43 + 3)] _ _ from ?_)
  obtain ⟨p1, hp1, h⟩ := zy_bind h
  refine zy_5 (c := 43) (as := [.int (59 : Int32)]) (rest := []) (L := [some (.ref (43 + 3)), some (.int (59 : Int32))]) (d' := 2) rfl rfl rfl (Nat.le_of_ble_eq_true rfl) (Nat.le_of_ble_eq_true rfl) rfl (Nat.le_of_ble_eq_true rfl) rfl rfl (zyC200 hp1) ?_
  show zyR _ _ _ _ [some (.ref (43 + 3)), none, none, some (.int x3), some (.int x4), none, none, none] [.int p1.1] _ _
  refine zy_23 rfl rfl (show zyR _ _ _ _ [some (.ref (43 + 3)), none, none, some (.int x3), some (.int x4), some (.int p1.1), none, none] [] _ _ from ?_)
  refine zy_6 rfl (show zyR _ _ _ _ [some (.ref (43 + 3)), none, none, some (.int x3), some (.int x4), some (.int p1.1), none, none] [] _ _ from ?_)
  exact zy_sub (show zy_le [some (.ref (43 + 3)), none, none, some (.int x3), some (.int x4), some (.int p1.1), none, none] [some (.ref (43 + 3)), none, none, some (.int x3), some (.int x4), some (.int p1.1), none, none] from ⟨rfl, ⟨rfl, ⟨rfl, ⟨rfl, trivial⟩⟩⟩⟩) (hk33 x3 x4 p1.1 p1.2 _ _ h)
noncomputable def zyF191_74  (k33 : Int32 → Int32 → Int32 → zy_S → Option (Int32 × zy_S)) (x3 : Int32) (x4 : Int32) (x6 : Int32) (x7 : Int32) (s : zy_S) : Option (Int32 × zy_S) :=
if 0 ≤ (s.1 43 15) then
zyF191_96 k33 x3 x4 s
else
if x7 = 0 then
zyF191_96 k33 x3 x4 s
else
if x3 ≠ 0 then
zyF191_96 k33 x3 x4 s
else
zyF191_96 k33 (1 : Int32) x6 s
theorem zyC191_74 {X : zx_X}  {k33 : Int32 → Int32 → Int32 → zy_S → Option (Int32 × zy_S)}  (hk33 : ∀ (x3 : Int32) (x4 : Int32) (x5 : Int32) (s : zy_S) (r : Int32) (s' : zy_S), k33 x3 x4 x5 s = some (r, s') → zyR X 103 191 33 [some (.ref (43 + 3)), none, none, some (.int x3), some (.int x4), some (.int x5), none, none] [] s (zyE (some (.int r)) s')) {x3 : Int32} {x4 : Int32} {x6 : Int32} {x7 : Int32} {s : zy_S} {r : Int32} {s' : zy_S}  (h : zyF191_74 k33 x3 x4 x6 x7 s = some (r, s')) : zyR X 103 191 74 [some (.ref (43 + 3)), none, none, some (.int x3), some (.int x4), none, some (.int x6), some (.int x7)] [] s (zyE (some (.int r)) s') := by
  unfold zyF191_74 at h
  refine zy_0 rfl rfl (show zyR _ _ _ _ [some (.ref (43 + 3)), none, none, some (.int x3), some (.int x4), none, some (.int x6), some (.int x7)] [.ref (43 + 3)] _ _ from ?_)
  refine zy_1 (c := 43) rfl rfl rfl (show zyR _ _ _ _ [some (.ref (43 + 3)), none, none, some (.int x3), some (.int x4), none, some (.int x6), some (.int x7)] [.int (s.1 43 15)] _ _ from ?_)
  refine zy_24_3 rfl (fun b4 => (show zyR _ _ _ _ [some (.ref (43 + 3)), none, none, some (.int x3), some (.int x4), none, some (.int x6), some (.int x7)] [] _ _ from ?_)) (fun b4 => (show zyR _ _ _ _ [some (.ref (43 + 3)), none, none, some (.int x3), some (.int x4), none, some (.int x6), some (.int x7)] [] _ _ from ?_))
  · replace h := zy_ifp h b4
    exact zy_sub (show zy_le [some (.ref (43 + 3)), none, none, some (.int x3), some (.int x4), none, none, none] [some (.ref (43 + 3)), none, none, some (.int x3), some (.int x4), none, some (.int x6), some (.int x7)] from ⟨rfl, ⟨rfl, ⟨rfl, trivial⟩⟩⟩) (zyC191_96 hk33 h)
  · replace h := zy_ifn h b4
    refine zy_2 rfl rfl (show zyR _ _ _ _ [some (.ref (43 + 3)), none, none, some (.int x3), some (.int x4), none, some (.int x6), some (.int x7)] [.int x7] _ _ from ?_)
    refine zy_24_0 rfl (fun b3 => (show zyR _ _ _ _ [some (.ref (43 + 3)), none, none, some (.int x3), some (.int x4), none, some (.int x6), some (.int x7)] [] _ _ from ?_)) (fun b3 => (show zyR _ _ _ _ [some (.ref (43 + 3)), none, none, some (.int x3), some (.int x4), none, some (.int x6), some (.int x7)] [] _ _ from ?_))
    · replace h := zy_ifp h b3
      exact zy_sub (show zy_le [some (.ref (43 + 3)), none, none, some (.int x3), some (.int x4), none, none, none] [some (.ref (43 + 3)), none, none, some (.int x3), some (.int x4), none, some (.int x6), some (.int x7)] from ⟨rfl, ⟨rfl, ⟨rfl, trivial⟩⟩⟩) (zyC191_96 hk33 h)
    · replace h := zy_ifn h b3
      refine zy_2 rfl rfl (show zyR _ _ _ _ [some (.ref (43 + 3)), none, none, some (.int x3), some (.int x4), none, some (.int x6), some (.int x7)] [.int x3] _ _ from ?_)
      refine zy_24_1 rfl (fun b2 => (show zyR _ _ _ _ [some (.ref (43 + 3)), none, none, some (.int x3), some (.int x4), none, some (.int x6), some (.int x7)] [] _ _ from ?_)) (fun b2 => (show zyR _ _ _ _ [some (.ref (43 + 3)), none, none, some (.int x3), some (.int x4), none, some (.int x6), some (.int x7)] [] _ _ from ?_))
      · replace h := zy_ifp h b2
        exact zy_sub (show zy_le [some (.ref (43 + 3)), none, none, some (.int x3), some (.int x4), none, none, none] [some (.ref (43 + 3)), none, none, some (.int x3), some (.int x4), none, some (.int x6), some (.int x7)] from ⟨rfl, ⟨rfl, ⟨rfl, trivial⟩⟩⟩) (zyC191_96 hk33 h)
      · replace h := zy_ifn h b2
        refine zy_3 rfl rfl (show zyR _ _ _ _ [some (.ref (43 + 3)), none, none, some (.int x3), some (.int x4), none, some (.int x6), some (.int x7)] [.int (1 : Int32)] _ _ from ?_)
        refine zy_23 rfl rfl (show zyR _ _ _ _ [some (.ref (43 + 3)), none, none, some (.int (1 : Int32)), some (.int x4), none, some (.int x6), some (.int x7)] [] _ _ from ?_)
        refine zy_2 rfl rfl (show zyR _ _ _ _ [some (.ref (43 + 3)), none, none, some (.int (1 : Int32)), some (.int x4), none, some (.int x6), some (.int x7)] [.int x6] _ _ from ?_)
        refine zy_23 rfl rfl (show zyR _ _ _ _ [some (.ref (43 + 3)), none, none, some (.int (1 : Int32)), some (.int x6), none, some (.int x6), some (.int x7)] [] _ _ from ?_)
        exact zy_sub (show zy_le [some (.ref (43 + 3)), none, none, some (.int (1 : Int32)), some (.int x6), none, none, none] [some (.ref (43 + 3)), none, none, some (.int (1 : Int32)), some (.int x6), none, some (.int x6), some (.int x7)] from ⟨rfl, ⟨rfl, ⟨rfl, trivial⟩⟩⟩) (zyC191_96 hk33 h)
noncomputable def zyF191_66  (k33 : Int32 → Int32 → Int32 → zy_S → Option (Int32 × zy_S)) (x3 : Int32) (x4 : Int32) (y0 : Int32) (s : zy_S) : Option (Int32 × zy_S) :=
(zyF192 s).bind fun p5 =>
zyF191_74 k33 x3 x4 p5.1 y0 p5.2
theorem zyC191_66 {X : zx_X}  {k33 : Int32 → Int32 → Int32 → zy_S → Option (Int32 × zy_S)}  (hk33 : ∀ (x3 : Int32) (x4 : Int32) (x5 : Int32) (s : zy_S) (r : Int32) (s' : zy_S), k33 x3 x4 x5 s = some (r, s') → zyR X 103 191 33 [some (.ref (43 + 3)), none, none, some (.int x3), some (.int x4), some (.int x5), none, none] [] s (zyE (some (.int r)) s')) {x3 : Int32} {x4 : Int32} {y0 : Int32} {s : zy_S} {r : Int32} {s' : zy_S}  (h : zyF191_66 k33 x3 x4 y0 s = some (r, s')) : zyR X 103 191 66 [some (.ref (43 + 3)), none, none, some (.int x3), some (.int x4), none, none, none] [.int y0] s (zyE (some (.int r)) s') := by
  unfold zyF191_66 at h
  refine zy_23 rfl rfl (show zyR _ _ _ _ [some (.ref (43 + 3)), none, none, some (.int x3), some (.int x4), none, none, some (.int y0)] [] _ _ from ?_)
  refine zy_0 rfl rfl (show zyR _ _ _ _ [some (.ref (43 + 3)), none, none, some (.int x3), some (.int x4), none, none, some (.int y0)] [.ref (43 + 3)] _ _ from ?_)
  obtain ⟨p5, hp5, h⟩ := zy_bind h
  refine zy_5 (c := 43) (as := []) (rest := []) (L := [some (.ref (43 + 3)), none, none]) (d' := 102) rfl rfl rfl (Nat.le_of_ble_eq_true rfl) (Nat.le_of_ble_eq_true rfl) rfl (Nat.le_of_ble_eq_true rfl) rfl rfl (zyC192 hp5) ?_
  show zyR _ _ _ _ [some (.ref (43 + 3)), none, none, some (.int x3), some (.int x4), none, none, some (.int y0)] [.int p5.1] _ _
  refine zy_23 rfl rfl (show zyR _ _ _ _ [some (.ref (43 + 3)), none, none, some (.int x3), some (.int x4), none, some (.int p5.1), some (.int y0)] [] _ _ from ?_)
  exact zy_sub (show zy_le [some (.ref (43 + 3)), none, none, some (.int x3), some (.int x4), none, some (.int p5.1), some (.int y0)] [some (.ref (43 + 3)), none, none, some (.int x3), some (.int x4), none, some (.int p5.1), some (.int y0)] from ⟨rfl, ⟨rfl, ⟨rfl, ⟨rfl, ⟨rfl, trivial⟩⟩⟩⟩⟩) (zyC191_74 hk33 h)
noncomputable def zyF191_33b  (k33 : Int32 → Int32 → Int32 → zy_S → Option (Int32 × zy_S)) (x3 : Int32) (x4 : Int32) (x5 : Int32) (s : zy_S) : Option (Int32 × zy_S) :=
if x5 = 0 then
if 0 ≤ (s.1 43 15) then
some (x4, s)
else
if (s.1 43 14) ≤ (s.1 43 13) then
some (x4, s)
else
(zyF199 s).bind fun p6 =>
some (p6.1, p6.2)
else
(zyF192 s).bind fun p9 =>
(zyF200 (63 : Int32) p9.2).bind fun p10 =>
if p10.1 = 0 then
zyF191_74 k33 x3 x4 p9.1 (1 : Int32) p10.2
else
if p9.1 = 0 then
zyF191_66 k33 x3 x4 (0 : Int32) p10.2
else
zyF191_66 k33 x3 x4 (1 : Int32) p10.2
theorem zyC191_33b {X : zx_X}  {k33 : Int32 → Int32 → Int32 → zy_S → Option (Int32 × zy_S)}  (hk33 : ∀ (x3 : Int32) (x4 : Int32) (x5 : Int32) (s : zy_S) (r : Int32) (s' : zy_S), k33 x3 x4 x5 s = some (r, s') → zyR X 103 191 33 [some (.ref (43 + 3)), none, none, some (.int x3), some (.int x4), some (.int x5), none, none] [] s (zyE (some (.int r)) s')) {x3 : Int32} {x4 : Int32} {x5 : Int32} {s : zy_S} {r : Int32} {s' : zy_S}  (h : zyF191_33b k33 x3 x4 x5 s = some (r, s')) : zyR X 103 191 33 [some (.ref (43 + 3)), none, none, some (.int x3), some (.int x4), some (.int x5), none, none] [] s (zyE (some (.int r)) s') := by
  unfold zyF191_33b at h
  refine zy_2 rfl rfl (show zyR _ _ _ _ [some (.ref (43 + 3)), none, none, some (.int x3), some (.int x4), some (.int x5), none, none] [.int x5] _ _ from ?_)
  refine zy_24_0 rfl (fun b13 => (show zyR _ _ _ _ [some (.ref (43 + 3)), none, none, some (.int x3), some (.int x4), some (.int x5), none, none] [] _ _ from ?_)) (fun b13 => (show zyR _ _ _ _ [some (.ref (43 + 3)), none, none, some (.int x3), some (.int x4), some (.int x5), none, none] [] _ _ from ?_))
  · replace h := zy_ifp h b13
    refine zy_0 rfl rfl (show zyR _ _ _ _ [some (.ref (43 + 3)), none, none, some (.int x3), some (.int x4), some (.int x5), none, none] [.ref (43 + 3)] _ _ from ?_)
    refine zy_1 (c := 43) rfl rfl rfl (show zyR _ _ _ _ [some (.ref (43 + 3)), none, none, some (.int x3), some (.int x4), some (.int x5), none, none] [.int (s.1 43 15)] _ _ from ?_)
    refine zy_24_3 rfl (fun b8 => (show zyR _ _ _ _ [some (.ref (43 + 3)), none, none, some (.int x3), some (.int x4), some (.int x5), none, none] [] _ _ from ?_)) (fun b8 => (show zyR _ _ _ _ [some (.ref (43 + 3)), none, none, some (.int x3), some (.int x4), some (.int x5), none, none] [] _ _ from ?_))
    · replace h := zy_ifp h b8
      refine zy_2 rfl rfl (show zyR _ _ _ _ [some (.ref (43 + 3)), none, none, some (.int x3), some (.int x4), some (.int x5), none, none] [.int x4] _ _ from ?_)
      obtain ⟨rfl, rfl⟩ := zy_pi h
      exact zy_4 rfl ⟨rfl, rfl⟩
    · replace h := zy_ifn h b8
      refine zy_0 rfl rfl (show zyR _ _ _ _ [some (.ref (43 + 3)), none, none, some (.int x3), some (.int x4), some (.int x5), none, none] [.ref (43 + 3)] _ _ from ?_)
      refine zy_1 (c := 43) rfl rfl rfl (show zyR _ _ _ _ [some (.ref (43 + 3)), none, none, some (.int x3), some (.int x4), some (.int x5), none, none] [.int (s.1 43 13)] _ _ from ?_)
      refine zy_0 rfl rfl (show zyR _ _ _ _ [some (.ref (43 + 3)), none, none, some (.int x3), some (.int x4), some (.int x5), none, none] [.ref (43 + 3), .int (s.1 43 13)] _ _ from ?_)
      refine zy_1 (c := 43) rfl rfl rfl (show zyR _ _ _ _ [some (.ref (43 + 3)), none, none, some (.int x3), some (.int x4), some (.int x5), none, none] [.int (s.1 43 14), .int (s.1 43 13)] _ _ from ?_)
      refine zy_25_3 rfl (fun b7 => (show zyR _ _ _ _ [some (.ref (43 + 3)), none, none, some (.int x3), some (.int x4), some (.int x5), none, none] [] _ _ from ?_)) (fun b7 => (show zyR _ _ _ _ [some (.ref (43 + 3)), none, none, some (.int x3), some (.int x4), some (.int x5), none, none] [] _ _ from ?_))
      · replace h := zy_ifp h b7
        refine zy_2 rfl rfl (show zyR _ _ _ _ [some (.ref (43 + 3)), none, none, some (.int x3), some (.int x4), some (.int x5), none, none] [.int x4] _ _ from ?_)
        obtain ⟨rfl, rfl⟩ := zy_pi h
        exact zy_4 rfl ⟨rfl, rfl⟩
      · replace h := zy_ifn h b7
        refine zy_0 rfl rfl (show zyR _ _ _ _ [some (.ref (43 + 3)), none, none, some (.int x3), some (.int x4), some (.int x5), none, none] [.ref (43 + 3)] _ _ from ?_)
        obtain ⟨p6, hp6, h⟩ := zy_bind h
        refine zy_5 (c := 43) (as := []) (rest := []) (L := [some (.ref (43 + 3))]) (d' := 1) rfl rfl rfl (Nat.le_of_ble_eq_true rfl) (Nat.le_of_ble_eq_true rfl) rfl (Nat.le_of_ble_eq_true rfl) rfl rfl (zyC199 hp6) ?_
        show zyR _ _ _ _ [some (.ref (43 + 3)), none, none, some (.int x3), some (.int x4), some (.int x5), none, none] [.int p6.1] _ _
        obtain ⟨rfl, rfl⟩ := zy_pi h
        exact zy_4 rfl ⟨rfl, rfl⟩
  · replace h := zy_ifn h b13
    refine zy_0 rfl rfl (show zyR _ _ _ _ [some (.ref (43 + 3)), none, none, some (.int x3), some (.int x4), some (.int x5), none, none] [.ref (43 + 3)] _ _ from ?_)
    obtain ⟨p9, hp9, h⟩ := zy_bind h
    refine zy_5 (c := 43) (as := []) (rest := []) (L := [some (.ref (43 + 3)), none, none]) (d' := 102) rfl rfl rfl (Nat.le_of_ble_eq_true rfl) (Nat.le_of_ble_eq_true rfl) rfl (Nat.le_of_ble_eq_true rfl) rfl rfl (zyC192 hp9) ?_
    show zyR _ _ _ _ [some (.ref (43 + 3)), none, none, some (.int x3), some (.int x4), some (.int x5), none, none] [.int p9.1] _ _
    refine zy_23 rfl rfl (show zyR _ _ _ _ [some (.ref (43 + 3)), none, none, some (.int x3), some (.int x4), some (.int x5), some (.int p9.1), none] [] _ _ from ?_)
    refine zy_3 rfl rfl (show zyR _ _ _ _ [some (.ref (43 + 3)), none, none, some (.int x3), some (.int x4), some (.int x5), some (.int p9.1), none] [.int (1 : Int32)] _ _ from ?_)
    refine zy_23 rfl rfl (show zyR _ _ _ _ [some (.ref (43 + 3)), none, none, some (.int x3), some (.int x4), some (.int x5), some (.int p9.1), some (.int (1 : Int32))] [] _ _ from ?_)
    refine zy_0 rfl rfl (show zyR _ _ _ _ [some (.ref (43 + 3)), none, none, some (.int x3), some (.int x4), some (.int x5), some (.int p9.1), some (.int (1 : Int32))] [.ref (43 + 3)] _ _ from ?_)
    refine zy_3 rfl rfl (show zyR _ _ _ _ [some (.ref (43 + 3)), none, none, some (.int x3), some (.int x4), some (.int x5), some (.int p9.1), some (.int (1 : Int32))] [.int (63 : Int32), .ref (43 + 3)] _ _ from ?_)
    obtain ⟨p10, hp10, h⟩ := zy_bind h
    refine zy_5 (c := 43) (as := [.int (63 : Int32)]) (rest := []) (L := [some (.ref (43 + 3)), some (.int (63 : Int32))]) (d' := 2) rfl rfl rfl (Nat.le_of_ble_eq_true rfl) (Nat.le_of_ble_eq_true rfl) rfl (Nat.le_of_ble_eq_true rfl) rfl rfl (zyC200 hp10) ?_
    show zyR _ _ _ _ [some (.ref (43 + 3)), none, none, some (.int x3), some (.int x4), some (.int x5), some (.int p9.1), some (.int (1 : Int32))] [.int p10.1] _ _
    refine zy_24_0 rfl (fun b12 => (show zyR _ _ _ _ [some (.ref (43 + 3)), none, none, some (.int x3), some (.int x4), some (.int x5), some (.int p9.1), some (.int (1 : Int32))] [] _ _ from ?_)) (fun b12 => (show zyR _ _ _ _ [some (.ref (43 + 3)), none, none, some (.int x3), some (.int x4), some (.int x5), some (.int p9.1), some (.int (1 : Int32))] [] _ _ from ?_))
    · replace h := zy_ifp h b12
      exact zy_sub (show zy_le [some (.ref (43 + 3)), none, none, some (.int x3), some (.int x4), none, some (.int p9.1), some (.int (1 : Int32))] [some (.ref (43 + 3)), none, none, some (.int x3), some (.int x4), some (.int x5), some (.int p9.1), some (.int (1 : Int32))] from ⟨rfl, ⟨rfl, ⟨rfl, ⟨rfl, ⟨rfl, trivial⟩⟩⟩⟩⟩) (zyC191_74 hk33 h)
    · replace h := zy_ifn h b12
      refine zy_2 rfl rfl (show zyR _ _ _ _ [some (.ref (43 + 3)), none, none, some (.int x3), some (.int x4), some (.int x5), some (.int p9.1), some (.int (1 : Int32))] [.int p9.1] _ _ from ?_)
      refine zy_24_0 rfl (fun b11 => (show zyR _ _ _ _ [some (.ref (43 + 3)), none, none, some (.int x3), some (.int x4), some (.int x5), some (.int p9.1), some (.int (1 : Int32))] [] _ _ from ?_)) (fun b11 => (show zyR _ _ _ _ [some (.ref (43 + 3)), none, none, some (.int x3), some (.int x4), some (.int x5), some (.int p9.1), some (.int (1 : Int32))] [] _ _ from ?_))
      · replace h := zy_ifp h b11
        refine zy_3 rfl rfl (show zyR _ _ _ _ [some (.ref (43 + 3)), none, none, some (.int x3), some (.int x4), some (.int x5), some (.int p9.1), some (.int (1 : Int32))] [.int (0 : Int32)] _ _ from ?_)
        exact zy_sub (show zy_le [some (.ref (43 + 3)), none, none, some (.int x3), some (.int x4), none, none, none] [some (.ref (43 + 3)), none, none, some (.int x3), some (.int x4), some (.int x5), some (.int p9.1), some (.int (1 : Int32))] from ⟨rfl, ⟨rfl, ⟨rfl, trivial⟩⟩⟩) (zyC191_66 hk33 h)
      · replace h := zy_ifn h b11
        refine zy_3 rfl rfl (show zyR _ _ _ _ [some (.ref (43 + 3)), none, none, some (.int x3), some (.int x4), some (.int x5), some (.int p9.1), some (.int (1 : Int32))] [.int (1 : Int32)] _ _ from ?_)
        refine zy_6 rfl (show zyR _ _ _ _ [some (.ref (43 + 3)), none, none, some (.int x3), some (.int x4), some (.int x5), some (.int p9.1), some (.int (1 : Int32))] [.int (1 : Int32)] _ _ from ?_)
        exact zy_sub (show zy_le [some (.ref (43 + 3)), none, none, some (.int x3), some (.int x4), none, none, none] [some (.ref (43 + 3)), none, none, some (.int x3), some (.int x4), some (.int x5), some (.int p9.1), some (.int (1 : Int32))] from ⟨rfl, ⟨rfl, ⟨rfl, trivial⟩⟩⟩) (zyC191_66 hk33 h)
noncomputable def zyF191_33   (n : Nat) : Int32 → Int32 → Int32 → zy_S → Option (Int32 × zy_S) := Nat.rec (fun _ _ _ _ => none) (fun _ k33 => zyF191_33b k33) n
theorem zyC191_33 {X : zx_X}     : ∀ (n : Nat) (x3 : Int32) (x4 : Int32) (x5 : Int32) (s : zy_S) (r : Int32) (s' : zy_S), zyF191_33 n x3 x4 x5 s = some (r, s') → zyR X 103 191 33 [some (.ref (43 + 3)), none, none, some (.int x3), some (.int x4), some (.int x5), none, none] [] s (zyE (some (.int r)) s')
  | 0, _, _, _ => by
    intro s r s'  h
    have h : (none : Option (Int32 × zy_S)) = some (r, s') := h
    cases h
  | n + 1, x3, x4, x5 => by
    intro s r s'  h
    exact zyC191_33b (k33 := zyF191_33 n) (fun x3 x4 x5 s r s'  h => zyC191_33  n x3 x4 x5 s r s'  h) h
noncomputable def zyF191   (x1 : Int32) (x2 : Int32) (s : zy_S) : Option (Int32 × zy_S) :=
zyF191_33 zy_fu (0 : Int32) (0 : Int32) (1 : Int32) (zy_up (zy_up (zy_up (zy_up (zy_up s 43 12 x1) 43 13 (0 : Int32)) 43 14 x2) 43 15 (-1 : Int32)) 43 16 (0 : Int32))
theorem zyC191 {X : zx_X}     {x1 : Int32} {x2 : Int32} {s : zy_S} {r : Int32} {s' : zy_S}  (h : zyF191 x1 x2 s = some (r, s')) : zyR X 103 191 0 [some (.ref (43 + 3)), some (.int x1), some (.int x2), none, none, none, none, none] [] s (zyE (some (.int r)) s') := by
  unfold zyF191 at h
  refine zy_0 rfl rfl (show zyR _ _ _ _ [some (.ref (43 + 3)), some (.int x1), some (.int x2), none, none, none, none, none] [.ref (43 + 3)] _ _ from ?_)
  refine zy_2 rfl rfl (show zyR _ _ _ _ [some (.ref (43 + 3)), some (.int x1), some (.int x2), none, none, none, none, none] [.int x1, .ref (43 + 3)] _ _ from ?_)
  refine zy_52 (c := 43) rfl rfl rfl (show zyR _ _ _ _ [some (.ref (43 + 3)), some (.int x1), some (.int x2), none, none, none, none, none] [] _ _ from ?_)
  refine zy_0 rfl rfl (show zyR _ _ _ _ [some (.ref (43 + 3)), some (.int x1), some (.int x2), none, none, none, none, none] [.ref (43 + 3)] _ _ from ?_)
  refine zy_3 rfl rfl (show zyR _ _ _ _ [some (.ref (43 + 3)), some (.int x1), some (.int x2), none, none, none, none, none] [.int (0 : Int32), .ref (43 + 3)] _ _ from ?_)
  refine zy_52 (c := 43) rfl rfl rfl (show zyR _ _ _ _ [some (.ref (43 + 3)), some (.int x1), some (.int x2), none, none, none, none, none] [] _ _ from ?_)
  refine zy_0 rfl rfl (show zyR _ _ _ _ [some (.ref (43 + 3)), some (.int x1), some (.int x2), none, none, none, none, none] [.ref (43 + 3)] _ _ from ?_)
  refine zy_2 rfl rfl (show zyR _ _ _ _ [some (.ref (43 + 3)), some (.int x1), some (.int x2), none, none, none, none, none] [.int x2, .ref (43 + 3)] _ _ from ?_)
  refine zy_52 (c := 43) rfl rfl rfl (show zyR _ _ _ _ [some (.ref (43 + 3)), some (.int x1), some (.int x2), none, none, none, none, none] [] _ _ from ?_)
  refine zy_0 rfl rfl (show zyR _ _ _ _ [some (.ref (43 + 3)), some (.int x1), some (.int x2), none, none, none, none, none] [.ref (43 + 3)] _ _ from ?_)
  refine zy_3 rfl rfl (show zyR _ _ _ _ [some (.ref (43 + 3)), some (.int x1), some (.int x2), none, none, none, none, none] [.int (-1 : Int32), .ref (43 + 3)] _ _ from ?_)
  refine zy_52 (c := 43) rfl rfl rfl (show zyR _ _ _ _ [some (.ref (43 + 3)), some (.int x1), some (.int x2), none, none, none, none, none] [] _ _ from ?_)
  refine zy_0 rfl rfl (show zyR _ _ _ _ [some (.ref (43 + 3)), some (.int x1), some (.int x2), none, none, none, none, none] [.ref (43 + 3)] _ _ from ?_)
  refine zy_3 rfl rfl (show zyR _ _ _ _ [some (.ref (43 + 3)), some (.int x1), some (.int x2), none, none, none, none, none] [.int (0 : Int32), .ref (43 + 3)] _ _ from ?_)
  refine zy_52 (c := 43) rfl rfl rfl (show zyR _ _ _ _ [some (.ref (43 + 3)), some (.int x1), some (.int x2), none, none, none, none, none] [] _ _ from ?_)
  refine zy_3 rfl rfl (show zyR _ _ _ _ [some (.ref (43 + 3)), some (.int x1), some (.int x2), none, none, none, none, none] [.int (0 : Int32)] _ _ from ?_)
  refine zy_23 rfl rfl (show zyR _ _ _ _ [some (.ref (43 + 3)), some (.int x1), some (.int x2), some (.int (0 : Int32)), none, none, none, none] [] _ _ from ?_)
  refine zy_3 rfl rfl (show zyR _ _ _ _ [some (.ref (43 + 3)), some (.int x1), some (.int x2), some (.int (0 : Int32)), none, none, none, none] [.int (0 : Int32)] _ _ from ?_)
  refine zy_23 rfl rfl (show zyR _ _ _ _ [some (.ref (43 + 3)), some (.int x1), some (.int x2), some (.int (0 : Int32)), some (.int (0 : Int32)), none, none, none] [] _ _ from ?_)
  refine zy_3 rfl rfl (show zyR _ _ _ _ [some (.ref (43 + 3)), some (.int x1), some (.int x2), some (.int (0 : Int32)), some (.int (0 : Int32)), none, none, none] [.int (1 : Int32)] _ _ from ?_)
  refine zy_23 rfl rfl (show zyR _ _ _ _ [some (.ref (43 + 3)), some (.int x1), some (.int x2), some (.int (0 : Int32)), some (.int (0 : Int32)), some (.int (1 : Int32)), none, none] [] _ _ from ?_)
  exact zy_sub (show zy_le [some (.ref (43 + 3)), none, none, some (.int (0 : Int32)), some (.int (0 : Int32)), some (.int (1 : Int32)), none, none] [some (.ref (43 + 3)), some (.int x1), some (.int x2), some (.int (0 : Int32)), some (.int (0 : Int32)), some (.int (1 : Int32)), none, none] from ⟨rfl, ⟨rfl, ⟨rfl, ⟨rfl, trivial⟩⟩⟩⟩) (zyC191_33 zy_fu (0 : Int32) (0 : Int32) (1 : Int32) (zy_up (zy_up (zy_up (zy_up (zy_up s 43 12 x1) 43 13 (0 : Int32)) 43 14 x2) 43 15 (-1 : Int32)) 43 16 (0 : Int32)) _ _ h)
noncomputable def zyF190_37b  (k37 : Int32 → Int32 → zy_S → Option (Int32 × zy_S)) (x2 : Int32) (x3 : Int32) (s : zy_S) : Option (Int32 × zy_S) :=
if x2 ≤ x3 then
some ((1 : Int32), (zy_up s 43 11 x2))
else
if zy_in x3 120 then
if zy_in x3 120 then
k37 x2 (x3 + (1 : Int32)) (zy_up s 49 (x3).toNatClampNeg (s.1 48 (x3).toNatClampNeg))
else none
else none
theorem zyC190_37b {X : zx_X}  {k37 : Int32 → Int32 → zy_S → Option (Int32 × zy_S)}  (hk37 : ∀ (x2 : Int32) (x3 : Int32) (s : zy_S) (r : Int32) (s' : zy_S), k37 x2 x3 s = some (r, s') → zyR X 104 190 37 [some (.ref (43 + 3)), none, some (.int x2), some (.int x3)] [] s (zyE (some (.int r)) s')) {x2 : Int32} {x3 : Int32} {s : zy_S} {r : Int32} {s' : zy_S}  (h : zyF190_37b k37 x2 x3 s = some (r, s')) : zyR X 104 190 37 [some (.ref (43 + 3)), none, some (.int x2), some (.int x3)] [] s (zyE (some (.int r)) s') := by
  unfold zyF190_37b at h
  refine zy_2 rfl rfl (show zyR _ _ _ _ [some (.ref (43 + 3)), none, some (.int x2), some (.int x3)] [.int x3] _ _ from ?_)
  refine zy_2 rfl rfl (show zyR _ _ _ _ [some (.ref (43 + 3)), none, some (.int x2), some (.int x3)] [.int x2, .int x3] _ _ from ?_)
  refine zy_25_3 rfl (fun b3 => (show zyR _ _ _ _ [some (.ref (43 + 3)), none, some (.int x2), some (.int x3)] [] _ _ from ?_)) (fun b3 => (show zyR _ _ _ _ [some (.ref (43 + 3)), none, some (.int x2), some (.int x3)] [] _ _ from ?_))
  · replace h := zy_ifp h b3
    refine zy_0 rfl rfl (show zyR _ _ _ _ [some (.ref (43 + 3)), none, some (.int x2), some (.int x3)] [.ref (43 + 3)] _ _ from ?_)
    refine zy_2 rfl rfl (show zyR _ _ _ _ [some (.ref (43 + 3)), none, some (.int x2), some (.int x3)] [.int x2, .ref (43 + 3)] _ _ from ?_)
    refine zy_52 (c := 43) rfl rfl rfl (show zyR _ _ _ _ [some (.ref (43 + 3)), none, some (.int x2), some (.int x3)] [] _ _ from ?_)
    refine zy_3 rfl rfl (show zyR _ _ _ _ [some (.ref (43 + 3)), none, some (.int x2), some (.int x3)] [.int (1 : Int32)] _ _ from ?_)
    obtain ⟨rfl, rfl⟩ := zy_pi h
    exact zy_4 rfl ⟨rfl, rfl⟩
  · replace h := zy_ifn h b3
    refine zy_0 rfl rfl (show zyR _ _ _ _ [some (.ref (43 + 3)), none, some (.int x2), some (.int x3)] [.ref (43 + 3)] _ _ from ?_)
    refine zy_1r (c := 43) rfl rfl rfl (show zyR _ _ _ _ [some (.ref (43 + 3)), none, some (.int x2), some (.int x3)] [.ref (49 + 3)] _ _ from ?_)
    refine zy_2 rfl rfl (show zyR _ _ _ _ [some (.ref (43 + 3)), none, some (.int x2), some (.int x3)] [.int x3, .ref (49 + 3)] _ _ from ?_)
    refine zy_0 rfl rfl (show zyR _ _ _ _ [some (.ref (43 + 3)), none, some (.int x2), some (.int x3)] [.ref (43 + 3), .int x3, .ref (49 + 3)] _ _ from ?_)
    refine zy_1r (c := 43) rfl rfl rfl (show zyR _ _ _ _ [some (.ref (43 + 3)), none, some (.int x2), some (.int x3)] [.ref (48 + 3), .int x3, .ref (49 + 3)] _ _ from ?_)
    refine zy_2 rfl rfl (show zyR _ _ _ _ [some (.ref (43 + 3)), none, some (.int x2), some (.int x3)] [.int x3, .ref (48 + 3), .int x3, .ref (49 + 3)] _ _ from ?_)
    obtain ⟨c1, h⟩ := zy_if h
    refine zy_26 (c := 48) rfl rfl c1 (show zyR _ _ _ _ [some (.ref (43 + 3)), none, some (.int x2), some (.int x3)] [.int (s.1 48 (x3).toNatClampNeg), .int x3, .ref (49 + 3)] _ _ from ?_)
    obtain ⟨c2, h⟩ := zy_if h
    refine zy_27 (c := 49) rfl rfl c2 (show zyR _ _ _ _ [some (.ref (43 + 3)), none, some (.int x2), some (.int x3)] [] _ _ from ?_)
    refine zy_22 rfl rfl rfl rfl (show zyR _ _ _ _ [some (.ref (43 + 3)), none, some (.int x2), some (.int (x3 + (1 : Int32)))] [] _ _ from ?_)
    refine zy_6 rfl (show zyR _ _ _ _ [some (.ref (43 + 3)), none, some (.int x2), some (.int (x3 + (1 : Int32)))] [] _ _ from ?_)
    exact zy_sub (show zy_le [some (.ref (43 + 3)), none, some (.int x2), some (.int (x3 + (1 : Int32)))] [some (.ref (43 + 3)), none, some (.int x2), some (.int (x3 + (1 : Int32)))] from ⟨rfl, ⟨rfl, ⟨rfl, trivial⟩⟩⟩) (hk37 x2 (x3 + (1 : Int32)) (zy_up s 49 (x3).toNatClampNeg (s.1 48 (x3).toNatClampNeg)) _ _ h)
noncomputable def zyF190_37   (n : Nat) : Int32 → Int32 → zy_S → Option (Int32 × zy_S) := Nat.rec (fun _ _ _ => none) (fun _ k37 => zyF190_37b k37) n
theorem zyC190_37 {X : zx_X}     : ∀ (n : Nat) (x2 : Int32) (x3 : Int32) (s : zy_S) (r : Int32) (s' : zy_S), zyF190_37 n x2 x3 s = some (r, s') → zyR X 104 190 37 [some (.ref (43 + 3)), none, some (.int x2), some (.int x3)] [] s (zyE (some (.int r)) s')
  | 0, _, _ => by
    intro s r s'  h
    have h : (none : Option (Int32 × zy_S)) = some (r, s') := h
    cases h
  | n + 1, x2, x3 => by
    intro s r s'  h
    exact zyC190_37b (k37 := zyF190_37 n) (fun x2 x3 s r s'  h => zyC190_37  n x2 x3 s r s'  h) h
noncomputable def zyF190    (s : zy_S) : Option (Int32 × zy_S) :=
(zyF191 (-1 : Int32) (s.1 43 9) s).bind fun p4 =>
if (p4.2.1 43 15) < 0 then
zyF190_37 zy_fu (p4.2.1 43 9) (0 : Int32) (zy_up p4.2 43 9 (0 : Int32))
else
some (((-100 : Int32) - (p4.2.1 43 15)), (zy_up p4.2 43 9 (0 : Int32)))
theorem zyC190 {X : zx_X}      {s : zy_S} {r : Int32} {s' : zy_S}  (h : zyF190 s = some (r, s')) : zyR X 104 190 0 [some (.ref (43 + 3)), none, none, none] [] s (zyE (some (.int r)) s') := by
  unfold zyF190 at h
  refine zy_0 rfl rfl (show zyR _ _ _ _ [some (.ref (43 + 3)), none, none, none] [.ref (43 + 3)] _ _ from ?_)
  refine zy_3 rfl rfl (show zyR _ _ _ _ [some (.ref (43 + 3)), none, none, none] [.int (-1 : Int32), .ref (43 + 3)] _ _ from ?_)
  refine zy_0 rfl rfl (show zyR _ _ _ _ [some (.ref (43 + 3)), none, none, none] [.ref (43 + 3), .int (-1 : Int32), .ref (43 + 3)] _ _ from ?_)
  refine zy_1 (c := 43) rfl rfl rfl (show zyR _ _ _ _ [some (.ref (43 + 3)), none, none, none] [.int (s.1 43 9), .int (-1 : Int32), .ref (43 + 3)] _ _ from ?_)
  obtain ⟨p4, hp4, h⟩ := zy_bind h
  refine zy_5 (c := 43) (as := [.int (-1 : Int32), .int (s.1 43 9)]) (rest := []) (L := [some (.ref (43 + 3)), some (.int (-1 : Int32)), some (.int (s.1 43 9)), none, none, none, none, none]) (d' := 103) rfl rfl rfl (Nat.le_of_ble_eq_true rfl) (Nat.le_of_ble_eq_true rfl) rfl (Nat.le_of_ble_eq_true rfl) rfl rfl (zyC191 hp4) ?_
  show zyR _ _ _ _ [some (.ref (43 + 3)), none, none, none] [.int p4.1] _ _
  refine zy_23 rfl rfl (show zyR _ _ _ _ [some (.ref (43 + 3)), some (.int p4.1), none, none] [] _ _ from ?_)
  refine zy_0 rfl rfl (show zyR _ _ _ _ [some (.ref (43 + 3)), some (.int p4.1), none, none] [.ref (43 + 3)] _ _ from ?_)
  refine zy_1 (c := 43) rfl rfl rfl (show zyR _ _ _ _ [some (.ref (43 + 3)), some (.int p4.1), none, none] [.int (p4.2.1 43 9)] _ _ from ?_)
  refine zy_23 rfl rfl (show zyR _ _ _ _ [some (.ref (43 + 3)), some (.int p4.1), some (.int (p4.2.1 43 9)), none] [] _ _ from ?_)
  refine zy_0 rfl rfl (show zyR _ _ _ _ [some (.ref (43 + 3)), some (.int p4.1), some (.int (p4.2.1 43 9)), none] [.ref (43 + 3)] _ _ from ?_)
  refine zy_3 rfl rfl (show zyR _ _ _ _ [some (.ref (43 + 3)), some (.int p4.1), some (.int (p4.2.1 43 9)), none] [.int (0 : Int32), .ref (43 + 3)] _ _ from ?_)
  refine zy_52 (c := 43) rfl rfl rfl (show zyR _ _ _ _ [some (.ref (43 + 3)), some (.int p4.1), some (.int (p4.2.1 43 9)), none] [] _ _ from ?_)
  refine zy_0 rfl rfl (show zyR _ _ _ _ [some (.ref (43 + 3)), some (.int p4.1), some (.int (p4.2.1 43 9)), none] [.ref (43 + 3)] _ _ from ?_)
  refine zy_1 (c := 43) rfl rfl rfl (show zyR _ _ _ _ [some (.ref (43 + 3)), some (.int p4.1), some (.int (p4.2.1 43 9)), none] [.int (p4.2.1 43 15)] _ _ from ?_)
  refine zy_24_2 rfl (fun b5 => (show zyR _ _ _ _ [some (.ref (43 + 3)), some (.int p4.1), some (.int (p4.2.1 43 9)), none] [] _ _ from ?_)) (fun b5 => (show zyR _ _ _ _ [some (.ref (43 + 3)), some (.int p4.1), some (.int (p4.2.1 43 9)), none] [] _ _ from ?_))
  · replace h := zy_ifp h b5
    refine zy_3 rfl rfl (show zyR _ _ _ _ [some (.ref (43 + 3)), some (.int p4.1), some (.int (p4.2.1 43 9)), none] [.int (0 : Int32)] _ _ from ?_)
    refine zy_23 rfl rfl (show zyR _ _ _ _ [some (.ref (43 + 3)), some (.int p4.1), some (.int (p4.2.1 43 9)), some (.int (0 : Int32))] [] _ _ from ?_)
    exact zy_sub (show zy_le [some (.ref (43 + 3)), none, some (.int (p4.2.1 43 9)), some (.int (0 : Int32))] [some (.ref (43 + 3)), some (.int p4.1), some (.int (p4.2.1 43 9)), some (.int (0 : Int32))] from ⟨rfl, ⟨rfl, ⟨rfl, trivial⟩⟩⟩) (zyC190_37 zy_fu (p4.2.1 43 9) (0 : Int32) (zy_up p4.2 43 9 (0 : Int32)) _ _ h)
  · replace h := zy_ifn h b5
    refine zy_3 rfl rfl (show zyR _ _ _ _ [some (.ref (43 + 3)), some (.int p4.1), some (.int (p4.2.1 43 9)), none] [.int (-100 : Int32)] _ _ from ?_)
    refine zy_0 rfl rfl (show zyR _ _ _ _ [some (.ref (43 + 3)), some (.int p4.1), some (.int (p4.2.1 43 9)), none] [.ref (43 + 3), .int (-100 : Int32)] _ _ from ?_)
    refine zy_1 (c := 43) rfl rfl rfl (show zyR _ _ _ _ [some (.ref (43 + 3)), some (.int p4.1), some (.int (p4.2.1 43 9)), none] [.int (p4.2.1 43 15), .int (-100 : Int32)] _ _ from ?_)
    refine zy_11 rfl (show zyR _ _ _ _ [some (.ref (43 + 3)), some (.int p4.1), some (.int (p4.2.1 43 9)), none] [.int ((-100 : Int32) - (p4.2.1 43 15))] _ _ from ?_)
    obtain ⟨rfl, rfl⟩ := zy_pi h
    exact zy_4 rfl ⟨rfl, rfl⟩
