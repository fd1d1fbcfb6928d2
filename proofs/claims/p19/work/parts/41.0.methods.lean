/-! PARTS 41.000.methods to 41.016.methods -/
section
/-! PART 41.00: methods as functions. Made by wip/v4/dcp.py. -/
/-! NineOpinions$Town.mayBe(II)Z -/
noncomputable def zyF14   (x1 : Int32) (x2 : Int32) (s : zy_S) : Option (Int32 × zy_S) :=
if x1 = (0 : Int32) then
if x2 < 0 then
some ((0 : Int32), s)
else
if (4096 : Int32) ≤ x2 then
some ((0 : Int32), s)
else
some ((1 : Int32), s)
else
if x1 = (1 : Int32) then
if x2 < 0 then
some ((0 : Int32), s)
else
if (9 : Int32) < x2 then
some ((0 : Int32), s)
else
some ((1 : Int32), s)
else
if x1 = (2 : Int32) then
if x2 < 0 then
some ((0 : Int32), s)
else
if (9 : Int32) < x2 then
some ((0 : Int32), s)
else
some ((1 : Int32), s)
else
if x1 = (3 : Int32) then
if x2 < (1 : Int32) then
some ((0 : Int32), s)
else
if (9 : Int32) < x2 then
some ((0 : Int32), s)
else
some ((1 : Int32), s)
else
some ((0 : Int32), s)
theorem zyC14 {X : zx_X}     {x1 : Int32} {x2 : Int32} {s : zy_S} {r : Int32} {s' : zy_S}  (h : zyF14 x1 x2 s = some (r, s')) : zyR X 1 14 0 [none, some (.int x1), some (.int x2)] [] s (zyE (some (.int r)) s') := by
  unfold zyF14 at h
  refine zy_2 rfl rfl (show zyR _ _ _ _ [none, some (.int x1), some (.int x2)] [.int x1] _ _ from ?_)
  refine zy_50 rfl (by decide) ?_
  refine zy_swp (fun b3 => (show zyR _ _ _ _ [none, some (.int x1), some (.int x2)] [] _ _ from ?_)) (fun b3 => ?_)
  · replace h := zy_ifp h b3
    refine zy_2 rfl rfl (show zyR _ _ _ _ [none, some (.int x1), some (.int x2)] [.int x2] _ _ from ?_)
    refine zy_24_2 rfl (fun b2 => (show zyR _ _ _ _ [none, some (.int x1), some (.int x2)] [] _ _ from ?_)) (fun b2 => (show zyR _ _ _ _ [none, some (.int x1), some (.int x2)] [] _ _ from ?_))
    · replace h := zy_ifp h b2
      refine zy_3 rfl rfl (show zyR _ _ _ _ [none, some (.int x1), some (.int x2)] [.int (0 : Int32)] _ _ from ?_)
      cases h
      exact zy_4b rfl ⟨rfl, rfl⟩ (Or.inl rfl)
    · replace h := zy_ifn h b2
      refine zy_2 rfl rfl (show zyR _ _ _ _ [none, some (.int x1), some (.int x2)] [.int x2] _ _ from ?_)
      refine zy_3 rfl rfl (show zyR _ _ _ _ [none, some (.int x1), some (.int x2)] [.int (4096 : Int32), .int x2] _ _ from ?_)
      refine zy_25_3 rfl (fun b1 => (show zyR _ _ _ _ [none, some (.int x1), some (.int x2)] [] _ _ from ?_)) (fun b1 => (show zyR _ _ _ _ [none, some (.int x1), some (.int x2)] [] _ _ from ?_))
      · replace h := zy_ifp h b1
        refine zy_3 rfl rfl (show zyR _ _ _ _ [none, some (.int x1), some (.int x2)] [.int (0 : Int32)] _ _ from ?_)
        cases h
        exact zy_4b rfl ⟨rfl, rfl⟩ (Or.inl rfl)
      · replace h := zy_ifn h b1
        refine zy_3 rfl rfl (show zyR _ _ _ _ [none, some (.int x1), some (.int x2)] [.int (1 : Int32)] _ _ from ?_)
        refine zy_6 rfl (show zyR _ _ _ _ [none, some (.int x1), some (.int x2)] [.int (1 : Int32)] _ _ from ?_)
        cases h
        exact zy_4b rfl ⟨rfl, rfl⟩ (Or.inr rfl)
  replace h := zy_ifn h b3
  refine zy_swp (fun b6 => (show zyR _ _ _ _ [none, some (.int x1), some (.int x2)] [] _ _ from ?_)) (fun b6 => ?_)
  · replace h := zy_ifp h b6
    refine zy_2 rfl rfl (show zyR _ _ _ _ [none, some (.int x1), some (.int x2)] [.int x2] _ _ from ?_)
    refine zy_24_2 rfl (fun b5 => (show zyR _ _ _ _ [none, some (.int x1), some (.int x2)] [] _ _ from ?_)) (fun b5 => (show zyR _ _ _ _ [none, some (.int x1), some (.int x2)] [] _ _ from ?_))
    · replace h := zy_ifp h b5
      refine zy_3 rfl rfl (show zyR _ _ _ _ [none, some (.int x1), some (.int x2)] [.int (0 : Int32)] _ _ from ?_)
      cases h
      exact zy_4b rfl ⟨rfl, rfl⟩ (Or.inl rfl)
    · replace h := zy_ifn h b5
      refine zy_2 rfl rfl (show zyR _ _ _ _ [none, some (.int x1), some (.int x2)] [.int x2] _ _ from ?_)
      refine zy_3 rfl rfl (show zyR _ _ _ _ [none, some (.int x1), some (.int x2)] [.int (9 : Int32), .int x2] _ _ from ?_)
      refine zy_25_4 rfl (fun b4 => (show zyR _ _ _ _ [none, some (.int x1), some (.int x2)] [] _ _ from ?_)) (fun b4 => (show zyR _ _ _ _ [none, some (.int x1), some (.int x2)] [] _ _ from ?_))
      · replace h := zy_ifp h b4
        refine zy_3 rfl rfl (show zyR _ _ _ _ [none, some (.int x1), some (.int x2)] [.int (0 : Int32)] _ _ from ?_)
        cases h
        exact zy_4b rfl ⟨rfl, rfl⟩ (Or.inl rfl)
      · replace h := zy_ifn h b4
        refine zy_3 rfl rfl (show zyR _ _ _ _ [none, some (.int x1), some (.int x2)] [.int (1 : Int32)] _ _ from ?_)
        refine zy_6 rfl (show zyR _ _ _ _ [none, some (.int x1), some (.int x2)] [.int (1 : Int32)] _ _ from ?_)
        cases h
        exact zy_4b rfl ⟨rfl, rfl⟩ (Or.inr rfl)
  replace h := zy_ifn h b6
  refine zy_swp (fun b9 => (show zyR _ _ _ _ [none, some (.int x1), some (.int x2)] [] _ _ from ?_)) (fun b9 => ?_)
  · replace h := zy_ifp h b9
    refine zy_2 rfl rfl (show zyR _ _ _ _ [none, some (.int x1), some (.int x2)] [.int x2] _ _ from ?_)
    refine zy_24_2 rfl (fun b8 => (show zyR _ _ _ _ [none, some (.int x1), some (.int x2)] [] _ _ from ?_)) (fun b8 => (show zyR _ _ _ _ [none, some (.int x1), some (.int x2)] [] _ _ from ?_))
    · replace h := zy_ifp h b8
      refine zy_3 rfl rfl (show zyR _ _ _ _ [none, some (.int x1), some (.int x2)] [.int (0 : Int32)] _ _ from ?_)
      cases h
      exact zy_4b rfl ⟨rfl, rfl⟩ (Or.inl rfl)
    · replace h := zy_ifn h b8
      refine zy_2 rfl rfl (show zyR _ _ _ _ [none, some (.int x1), some (.int x2)] [.int x2] _ _ from ?_)
      refine zy_3 rfl rfl (show zyR _ _ _ _ [none, some (.int x1), some (.int x2)] [.int (9 : Int32), .int x2] _ _ from ?_)
      refine zy_25_4 rfl (fun b7 => (show zyR _ _ _ _ [none, some (.int x1), some (.int x2)] [] _ _ from ?_)) (fun b7 => (show zyR _ _ _ _ [none, some (.int x1), some (.int x2)] [] _ _ from ?_))
      · replace h := zy_ifp h b7
        refine zy_3 rfl rfl (show zyR _ _ _ _ [none, some (.int x1), some (.int x2)] [.int (0 : Int32)] _ _ from ?_)
        cases h
        exact zy_4b rfl ⟨rfl, rfl⟩ (Or.inl rfl)
      · replace h := zy_ifn h b7
        refine zy_3 rfl rfl (show zyR _ _ _ _ [none, some (.int x1), some (.int x2)] [.int (1 : Int32)] _ _ from ?_)
        refine zy_6 rfl (show zyR _ _ _ _ [none, some (.int x1), some (.int x2)] [.int (1 : Int32)] _ _ from ?_)
        cases h
        exact zy_4b rfl ⟨rfl, rfl⟩ (Or.inr rfl)
  replace h := zy_ifn h b9
  refine zy_swp (fun b12 => (show zyR _ _ _ _ [none, some (.int x1), some (.int x2)] [] _ _ from ?_)) (fun b12 => ?_)
  · replace h := zy_ifp h b12
    refine zy_2 rfl rfl (show zyR _ _ _ _ [none, some (.int x1), some (.int x2)] [.int x2] _ _ from ?_)
    refine zy_3 rfl rfl (show zyR _ _ _ _ [none, some (.int x1), some (.int x2)] [.int (1 : Int32), .int x2] _ _ from ?_)
    refine zy_25_2 rfl (fun b11 => (show zyR _ _ _ _ [none, some (.int x1), some (.int x2)] [] _ _ from ?_)) (fun b11 => (show zyR _ _ _ _ [none, some (.int x1), some (.int x2)] [] _ _ from ?_))
    · replace h := zy_ifp h b11
      refine zy_3 rfl rfl (show zyR _ _ _ _ [none, some (.int x1), some (.int x2)] [.int (0 : Int32)] _ _ from ?_)
      cases h
      exact zy_4b rfl ⟨rfl, rfl⟩ (Or.inl rfl)
    · replace h := zy_ifn h b11
      refine zy_2 rfl rfl (show zyR _ _ _ _ [none, some (.int x1), some (.int x2)] [.int x2] _ _ from ?_)
      refine zy_3 rfl rfl (show zyR _ _ _ _ [none, some (.int x1), some (.int x2)] [.int (9 : Int32), .int x2] _ _ from ?_)
      refine zy_25_4 rfl (fun b10 => (show zyR _ _ _ _ [none, some (.int x1), some (.int x2)] [] _ _ from ?_)) (fun b10 => (show zyR _ _ _ _ [none, some (.int x1), some (.int x2)] [] _ _ from ?_))
      · replace h := zy_ifp h b10
        refine zy_3 rfl rfl (show zyR _ _ _ _ [none, some (.int x1), some (.int x2)] [.int (0 : Int32)] _ _ from ?_)
        cases h
        exact zy_4b rfl ⟨rfl, rfl⟩ (Or.inl rfl)
      · replace h := zy_ifn h b10
        refine zy_3 rfl rfl (show zyR _ _ _ _ [none, some (.int x1), some (.int x2)] [.int (1 : Int32)] _ _ from ?_)
        refine zy_6 rfl (show zyR _ _ _ _ [none, some (.int x1), some (.int x2)] [.int (1 : Int32)] _ _ from ?_)
        cases h
        exact zy_4b rfl ⟨rfl, rfl⟩ (Or.inr rfl)
  replace h := zy_ifn h b12
  show zyR _ _ _ _ [none, some (.int x1), some (.int x2)] [] _ _
  refine zy_3 rfl rfl (show zyR _ _ _ _ [none, some (.int x1), some (.int x2)] [.int (0 : Int32)] _ _ from ?_)
  cases h
  exact zy_4b rfl ⟨rfl, rfl⟩ (Or.inl rfl)
/-! NineOpinions$Town.isFull()Z -/
noncomputable def zyF15    (s : zy_S) : Option (Int32 × zy_S) :=
if (s.1 1 5) < (8 : Int32) then
some ((0 : Int32), s)
else
some ((1 : Int32), s)
theorem zyC15 {X : zx_X}      {s : zy_S} {r : Int32} {s' : zy_S}  (h : zyF15 s = some (r, s')) : zyR X 1 15 0 [some (.ref (1 + 3))] [] s (zyE (some (.int r)) s') := by
  unfold zyF15 at h
  refine zy_0 rfl rfl (show zyR _ _ _ _ [some (.ref (1 + 3))] [.ref (1 + 3)] _ _ from ?_)
  refine zy_1 (c := 1) rfl rfl rfl (show zyR _ _ _ _ [some (.ref (1 + 3))] [.int (s.1 1 5)] _ _ from ?_)
  refine zy_3 rfl rfl (show zyR _ _ _ _ [some (.ref (1 + 3))] [.int (8 : Int32), .int (s.1 1 5)] _ _ from ?_)
  refine zy_25_2 rfl (fun b1 => (show zyR _ _ _ _ [some (.ref (1 + 3))] [] _ _ from ?_)) (fun b1 => (show zyR _ _ _ _ [some (.ref (1 + 3))] [] _ _ from ?_))
  · replace h := zy_ifp h b1
    refine zy_3 rfl rfl (show zyR _ _ _ _ [some (.ref (1 + 3))] [.int (0 : Int32)] _ _ from ?_)
    cases h
    exact zy_4b rfl ⟨rfl, rfl⟩ (Or.inl rfl)
  · replace h := zy_ifn h b1
    refine zy_3 rfl rfl (show zyR _ _ _ _ [some (.ref (1 + 3))] [.int (1 : Int32)] _ _ from ?_)
    refine zy_6 rfl (show zyR _ _ _ _ [some (.ref (1 + 3))] [.int (1 : Int32)] _ _ from ?_)
    cases h
    exact zy_4b rfl ⟨rfl, rfl⟩ (Or.inr rfl)
/-! NineOpinions$Town.welcome(II)I -/
noncomputable def zyF16   (x1 : Int32) (x2 : Int32) (s : zy_S) : Option (Int32 × zy_S) :=
if zy_in (s.1 1 5) 8 then
if zy_in (s.1 1 5) 8 then
some ((s.1 1 5), (zy_up (zy_up (zy_up s 3 ((s.1 1 5)).toNatClampNeg x1) 4 ((s.1 1 5)).toNatClampNeg x2) 1 5 ((s.1 1 5) + (1 : Int32))))
else none
else none
theorem zyC16 {X : zx_X}     {x1 : Int32} {x2 : Int32} {s : zy_S} {r : Int32} {s' : zy_S}  (h : zyF16 x1 x2 s = some (r, s')) : zyR X 1 16 0 [some (.ref (1 + 3)), some (.int x1), some (.int x2), none] [] s (zyE (some (.int r)) s') := by
  unfold zyF16 at h
  refine zy_0 rfl rfl (show zyR _ _ _ _ [some (.ref (1 + 3)), some (.int x1), some (.int x2), none] [.ref (1 + 3)] _ _ from ?_)
  refine zy_1 (c := 1) rfl rfl rfl (show zyR _ _ _ _ [some (.ref (1 + 3)), some (.int x1), some (.int x2), none] [.int (s.1 1 5)] _ _ from ?_)
  refine zy_23 rfl rfl (show zyR _ _ _ _ [some (.ref (1 + 3)), some (.int x1), some (.int x2), some (.int (s.1 1 5))] [] _ _ from ?_)
  refine zy_0 rfl rfl (show zyR _ _ _ _ [some (.ref (1 + 3)), some (.int x1), some (.int x2), some (.int (s.1 1 5))] [.ref (1 + 3)] _ _ from ?_)
  refine zy_1r (c := 1) rfl rfl rfl (show zyR _ _ _ _ [some (.ref (1 + 3)), some (.int x1), some (.int x2), some (.int (s.1 1 5))] [.ref (3 + 3)] _ _ from ?_)
  refine zy_2 rfl rfl (show zyR _ _ _ _ [some (.ref (1 + 3)), some (.int x1), some (.int x2), some (.int (s.1 1 5))] [.int (s.1 1 5), .ref (3 + 3)] _ _ from ?_)
  refine zy_2 rfl rfl (show zyR _ _ _ _ [some (.ref (1 + 3)), some (.int x1), some (.int x2), some (.int (s.1 1 5))] [.int x1, .int (s.1 1 5), .ref (3 + 3)] _ _ from ?_)
  obtain ⟨c1, h⟩ := zy_if h
  refine zy_27 (c := 3) rfl rfl c1 (show zyR _ _ _ _ [some (.ref (1 + 3)), some (.int x1), some (.int x2), some (.int (s.1 1 5))] [] _ _ from ?_)
  refine zy_0 rfl rfl (show zyR _ _ _ _ [some (.ref (1 + 3)), some (.int x1), some (.int x2), some (.int (s.1 1 5))] [.ref (1 + 3)] _ _ from ?_)
  refine zy_1r (c := 1) rfl rfl rfl (show zyR _ _ _ _ [some (.ref (1 + 3)), some (.int x1), some (.int x2), some (.int (s.1 1 5))] [.ref (4 + 3)] _ _ from ?_)
  refine zy_2 rfl rfl (show zyR _ _ _ _ [some (.ref (1 + 3)), some (.int x1), some (.int x2), some (.int (s.1 1 5))] [.int (s.1 1 5), .ref (4 + 3)] _ _ from ?_)
  refine zy_2 rfl rfl (show zyR _ _ _ _ [some (.ref (1 + 3)), some (.int x1), some (.int x2), some (.int (s.1 1 5))] [.int x2, .int (s.1 1 5), .ref (4 + 3)] _ _ from ?_)
  obtain ⟨c2, h⟩ := zy_if h
  refine zy_27 (c := 4) rfl rfl c2 (show zyR _ _ _ _ [some (.ref (1 + 3)), some (.int x1), some (.int x2), some (.int (s.1 1 5))] [] _ _ from ?_)
  refine zy_0 rfl rfl (show zyR _ _ _ _ [some (.ref (1 + 3)), some (.int x1), some (.int x2), some (.int (s.1 1 5))] [.ref (1 + 3)] _ _ from ?_)
  refine zy_33 rfl rfl (show zyR _ _ _ _ [some (.ref (1 + 3)), some (.int x1), some (.int x2), some (.int (s.1 1 5))] [.ref (1 + 3), .ref (1 + 3)] _ _ from ?_)
  refine zy_1 (c := 1) rfl rfl rfl (show zyR _ _ _ _ [some (.ref (1 + 3)), some (.int x1), some (.int x2), some (.int (s.1 1 5))] [.int (s.1 1 5), .ref (1 + 3)] _ _ from ?_)
  refine zy_3 rfl rfl (show zyR _ _ _ _ [some (.ref (1 + 3)), some (.int x1), some (.int x2), some (.int (s.1 1 5))] [.int (1 : Int32), .int (s.1 1 5), .ref (1 + 3)] _ _ from ?_)
  refine zy_10 rfl (show zyR _ _ _ _ [some (.ref (1 + 3)), some (.int x1), some (.int x2), some (.int (s.1 1 5))] [.int ((s.1 1 5) + (1 : Int32)), .ref (1 + 3)] _ _ from ?_)
  refine zy_52 (c := 1) rfl rfl rfl (show zyR _ _ _ _ [some (.ref (1 + 3)), some (.int x1), some (.int x2), some (.int (s.1 1 5))] [] _ _ from ?_)
  refine zy_2 rfl rfl (show zyR _ _ _ _ [some (.ref (1 + 3)), some (.int x1), some (.int x2), some (.int (s.1 1 5))] [.int (s.1 1 5)] _ _ from ?_)
  obtain ⟨rfl, rfl⟩ := zy_pi h
  exact zy_4 rfl ⟨rfl, rfl⟩
/-! NineOpinions.person(I)I -/
noncomputable def zyF13   (x1 : Int32) (s : zy_S) : Option (Int32 × zy_S) :=
(zyF14 (0 : Int32) x1 s).bind fun p1 =>
if p1.1 ≠ 0 then
(zyF15 p1.2).bind fun p2 =>
if p2.1 = 0 then
(zyF16 x1 (1 : Int32) p2.2).bind fun p3 =>
some (p3.1, p3.2)
else
some ((-3 : Int32), p2.2)
else
some ((-1 : Int32), p1.2)
theorem zyC13 {X : zx_X}     {x1 : Int32} {s : zy_S} {r : Int32} {s' : zy_S}  (h : zyF13 x1 s = some (r, s')) : zyR X 2 13 0 [some (.ref (0 + 3)), some (.int x1)] [] s (zyE (some (.int r)) s') := by
  unfold zyF13 at h
  refine zy_0 rfl rfl (show zyR _ _ _ _ [some (.ref (0 + 3)), some (.int x1)] [.ref (0 + 3)] _ _ from ?_)
  refine zy_1r (c := 0) rfl rfl rfl (show zyR _ _ _ _ [some (.ref (0 + 3)), some (.int x1)] [.ref (1 + 3)] _ _ from ?_)
  refine zy_3 rfl rfl (show zyR _ _ _ _ [some (.ref (0 + 3)), some (.int x1)] [.int (0 : Int32), .ref (1 + 3)] _ _ from ?_)
  refine zy_2 rfl rfl (show zyR _ _ _ _ [some (.ref (0 + 3)), some (.int x1)] [.int x1, .int (0 : Int32), .ref (1 + 3)] _ _ from ?_)
  obtain ⟨p1, hp1, h⟩ := zy_bind h
  refine zy_5 (c := 1) (as := [.int (0 : Int32), .int x1]) (rest := []) (L := [some (.ref (1 + 3)), some (.int (0 : Int32)), some (.int x1)]) (d' := 1) rfl rfl rfl (Nat.le_of_ble_eq_true rfl) (Nat.le_of_ble_eq_true rfl) rfl (Nat.le_of_ble_eq_true rfl) rfl rfl (zy_sub (show zy_le [none, some (.int (0 : Int32)), some (.int x1)] [some (.ref (1 + 3)), some (.int (0 : Int32)), some (.int x1)] from ⟨rfl, ⟨rfl, trivial⟩⟩) (zyC14 hp1)) ?_
  show zyR _ _ _ _ [some (.ref (0 + 3)), some (.int x1)] [.int p1.1] _ _
  refine zy_24_1 rfl (fun b5 => (show zyR _ _ _ _ [some (.ref (0 + 3)), some (.int x1)] [] _ _ from ?_)) (fun b5 => (show zyR _ _ _ _ [some (.ref (0 + 3)), some (.int x1)] [] _ _ from ?_))
  · replace h := zy_ifp h b5
    refine zy_0 rfl rfl (show zyR _ _ _ _ [some (.ref (0 + 3)), some (.int x1)] [.ref (0 + 3)] _ _ from ?_)
    refine zy_1r (c := 0) rfl rfl rfl (show zyR _ _ _ _ [some (.ref (0 + 3)), some (.int x1)] [.ref (1 + 3)] _ _ from ?_)
    obtain ⟨p2, hp2, h⟩ := zy_bind h
    refine zy_5 (c := 1) (as := []) (rest := []) (L := [some (.ref (1 + 3))]) (d' := 1) rfl rfl rfl (Nat.le_of_ble_eq_true rfl) (Nat.le_of_ble_eq_true rfl) rfl (Nat.le_of_ble_eq_true rfl) rfl rfl (zyC15 hp2) ?_
    show zyR _ _ _ _ [some (.ref (0 + 3)), some (.int x1)] [.int p2.1] _ _
    refine zy_24_0 rfl (fun b4 => (show zyR _ _ _ _ [some (.ref (0 + 3)), some (.int x1)] [] _ _ from ?_)) (fun b4 => (show zyR _ _ _ _ [some (.ref (0 + 3)), some (.int x1)] [] _ _ from ?_))
    · replace h := zy_ifp h b4
      refine zy_0 rfl rfl (show zyR _ _ _ _ [some (.ref (0 + 3)), some (.int x1)] [.ref (0 + 3)] _ _ from ?_)
      refine zy_1r (c := 0) rfl rfl rfl (show zyR _ _ _ _ [some (.ref (0 + 3)), some (.int x1)] [.ref (1 + 3)] _ _ from ?_)
      refine zy_2 rfl rfl (show zyR _ _ _ _ [some (.ref (0 + 3)), some (.int x1)] [.int x1, .ref (1 + 3)] _ _ from ?_)
      refine zy_3 rfl rfl (show zyR _ _ _ _ [some (.ref (0 + 3)), some (.int x1)] [.int (1 : Int32), .int x1, .ref (1 + 3)] _ _ from ?_)
      obtain ⟨p3, hp3, h⟩ := zy_bind h
      refine zy_5 (c := 1) (as := [.int x1, .int (1 : Int32)]) (rest := []) (L := [some (.ref (1 + 3)), some (.int x1), some (.int (1 : Int32)), none]) (d' := 1) rfl rfl rfl (Nat.le_of_ble_eq_true rfl) (Nat.le_of_ble_eq_true rfl) rfl (Nat.le_of_ble_eq_true rfl) rfl rfl (zyC16 hp3) ?_
      show zyR _ _ _ _ [some (.ref (0 + 3)), some (.int x1)] [.int p3.1] _ _
      obtain ⟨rfl, rfl⟩ := zy_pi h
      exact zy_4 rfl ⟨rfl, rfl⟩
    · replace h := zy_ifn h b4
      refine zy_3 rfl rfl (show zyR _ _ _ _ [some (.ref (0 + 3)), some (.int x1)] [.int (-3 : Int32)] _ _ from ?_)
      refine zy_6 rfl (show zyR _ _ _ _ [some (.ref (0 + 3)), some (.int x1)] [.int (-3 : Int32)] _ _ from ?_)
      obtain ⟨rfl, rfl⟩ := zy_pi h
      exact zy_4 rfl ⟨rfl, rfl⟩
  · replace h := zy_ifn h b5
    refine zy_3 rfl rfl (show zyR _ _ _ _ [some (.ref (0 + 3)), some (.int x1)] [.int (-1 : Int32)] _ _ from ?_)
    obtain ⟨rfl, rfl⟩ := zy_pi h
    exact zy_4 rfl ⟨rfl, rfl⟩
/-! NineOpinions.isShelf(I)Z -/
noncomputable def zyF18   (x0 : Int32) (s : zy_S) : Option (Int32 × zy_S) :=
if x0 < 0 then
some ((0 : Int32), s)
else
if (6 : Int32) ≤ x0 then
some ((0 : Int32), s)
else
some ((1 : Int32), s)
theorem zyC18 {X : zx_X}     {x0 : Int32} {s : zy_S} {r : Int32} {s' : zy_S}  (h : zyF18 x0 s = some (r, s')) : zyR X 1 18 0 [some (.int x0)] [] s (zyE (some (.int r)) s') := by
  unfold zyF18 at h
  refine zy_2 rfl rfl (show zyR _ _ _ _ [some (.int x0)] [.int x0] _ _ from ?_)
  refine zy_24_2 rfl (fun b2 => (show zyR _ _ _ _ [some (.int x0)] [] _ _ from ?_)) (fun b2 => (show zyR _ _ _ _ [some (.int x0)] [] _ _ from ?_))
  · replace h := zy_ifp h b2
    refine zy_3 rfl rfl (show zyR _ _ _ _ [some (.int x0)] [.int (0 : Int32)] _ _ from ?_)
    cases h
    exact zy_4b rfl ⟨rfl, rfl⟩ (Or.inl rfl)
  · replace h := zy_ifn h b2
    refine zy_2 rfl rfl (show zyR _ _ _ _ [some (.int x0)] [.int x0] _ _ from ?_)
    refine zy_3 rfl rfl (show zyR _ _ _ _ [some (.int x0)] [.int (6 : Int32), .int x0] _ _ from ?_)
    refine zy_25_3 rfl (fun b1 => (show zyR _ _ _ _ [some (.int x0)] [] _ _ from ?_)) (fun b1 => (show zyR _ _ _ _ [some (.int x0)] [] _ _ from ?_))
    · replace h := zy_ifp h b1
      refine zy_3 rfl rfl (show zyR _ _ _ _ [some (.int x0)] [.int (0 : Int32)] _ _ from ?_)
      cases h
      exact zy_4b rfl ⟨rfl, rfl⟩ (Or.inl rfl)
    · replace h := zy_ifn h b1
      refine zy_3 rfl rfl (show zyR _ _ _ _ [some (.int x0)] [.int (1 : Int32)] _ _ from ?_)
      refine zy_6 rfl (show zyR _ _ _ _ [some (.int x0)] [.int (1 : Int32)] _ _ from ?_)
      cases h
      exact zy_4b rfl ⟨rfl, rfl⟩ (Or.inr rfl)
/-! NineOpinions$Shelf.isRow()Z -/
noncomputable def zyF20   (x0 : Nat) (s : zy_S) : Option (Int32 × zy_S) :=
if (s.1 x0 2) = (-1 : Int32) then
some ((0 : Int32), s)
else
some ((1 : Int32), s)
theorem zyC20 {X : zx_X}     {x0 : Nat} {s : zy_S} {r : Int32} {s' : zy_S} (hs_x0 : zy_isSh x0) (h : zyF20 x0 s = some (r, s')) : zyR X 1 20 0 [some (.ref (x0 + 3))] [] s (zyE (some (.int r)) s') := by
  unfold zyF20 at h
  refine zy_0 rfl rfl (show zyR _ _ _ _ [some (.ref (x0 + 3))] [.ref (x0 + 3)] _ _ from ?_)
  refine zy_1 (c := x0) rfl hs_x0.1 rfl (show zyR _ _ _ _ [some (.ref (x0 + 3))] [.int (s.1 x0 2)] _ _ from ?_)
  refine zy_3 rfl rfl (show zyR _ _ _ _ [some (.ref (x0 + 3))] [.int (-1 : Int32), .int (s.1 x0 2)] _ _ from ?_)
  refine zy_25_0 rfl (fun b1 => (show zyR _ _ _ _ [some (.ref (x0 + 3))] [] _ _ from ?_)) (fun b1 => (show zyR _ _ _ _ [some (.ref (x0 + 3))] [] _ _ from ?_))
  · replace h := zy_ifp h b1
    refine zy_3 rfl rfl (show zyR _ _ _ _ [some (.ref (x0 + 3))] [.int (0 : Int32)] _ _ from ?_)
    cases h
    exact zy_4b rfl ⟨rfl, rfl⟩ (Or.inl rfl)
  · replace h := zy_ifn h b1
    refine zy_3 rfl rfl (show zyR _ _ _ _ [some (.ref (x0 + 3))] [.int (1 : Int32)] _ _ from ?_)
    refine zy_6 rfl (show zyR _ _ _ _ [some (.ref (x0 + 3))] [.int (1 : Int32)] _ _ from ?_)
    cases h
    exact zy_4b rfl ⟨rfl, rfl⟩ (Or.inr rfl)
/-! NineOpinions$Shelf.isBare()Z -/
noncomputable def zyF19   (x0 : Nat) (s : zy_S) : Option (Int32 × zy_S) :=
if (s.1 x0 1) ≠ (-1 : Int32) then
some ((0 : Int32), s)
else
(zyF20 x0 s).bind fun p1 =>
if p1.1 ≠ 0 then
some ((0 : Int32), p1.2)
else
some ((1 : Int32), p1.2)
theorem zyC19 {X : zx_X}     {x0 : Nat} {s : zy_S} {r : Int32} {s' : zy_S} (hs_x0 : zy_isSh x0) (h : zyF19 x0 s = some (r, s')) : zyR X 2 19 0 [some (.ref (x0 + 3))] [] s (zyE (some (.int r)) s') := by
  unfold zyF19 at h
  refine zy_0 rfl rfl (show zyR _ _ _ _ [some (.ref (x0 + 3))] [.ref (x0 + 3)] _ _ from ?_)
  refine zy_1 (c := x0) rfl hs_x0.1 rfl (show zyR _ _ _ _ [some (.ref (x0 + 3))] [.int (s.1 x0 1)] _ _ from ?_)
  refine zy_3 rfl rfl (show zyR _ _ _ _ [some (.ref (x0 + 3))] [.int (-1 : Int32), .int (s.1 x0 1)] _ _ from ?_)
  refine zy_25_1 rfl (fun b3 => (show zyR _ _ _ _ [some (.ref (x0 + 3))] [] _ _ from ?_)) (fun b3 => (show zyR _ _ _ _ [some (.ref (x0 + 3))] [] _ _ from ?_))
  · replace h := zy_ifp h b3
    refine zy_3 rfl rfl (show zyR _ _ _ _ [some (.ref (x0 + 3))] [.int (0 : Int32)] _ _ from ?_)
    cases h
    exact zy_4b rfl ⟨rfl, rfl⟩ (Or.inl rfl)
  · replace h := zy_ifn h b3
    refine zy_0 rfl rfl (show zyR _ _ _ _ [some (.ref (x0 + 3))] [.ref (x0 + 3)] _ _ from ?_)
    obtain ⟨p1, hp1, h⟩ := zy_bind h
    refine zy_5 (c := x0) (as := []) (rest := []) (L := [some (.ref (x0 + 3))]) (d' := 1) rfl rfl hs_x0.1 (Nat.le_of_ble_eq_true rfl) (Nat.le_of_ble_eq_true rfl) rfl (Nat.le_of_ble_eq_true rfl) rfl rfl (zyC20 hs_x0 hp1) ?_
    show zyR _ _ _ _ [some (.ref (x0 + 3))] [.int p1.1] _ _
    refine zy_24_1 rfl (fun b2 => (show zyR _ _ _ _ [some (.ref (x0 + 3))] [] _ _ from ?_)) (fun b2 => (show zyR _ _ _ _ [some (.ref (x0 + 3))] [] _ _ from ?_))
    · replace h := zy_ifp h b2
      refine zy_3 rfl rfl (show zyR _ _ _ _ [some (.ref (x0 + 3))] [.int (0 : Int32)] _ _ from ?_)
      cases h
      exact zy_4b rfl ⟨rfl, rfl⟩ (Or.inl rfl)
    · replace h := zy_ifn h b2
      refine zy_3 rfl rfl (show zyR _ _ _ _ [some (.ref (x0 + 3))] [.int (1 : Int32)] _ _ from ?_)
      refine zy_6 rfl (show zyR _ _ _ _ [some (.ref (x0 + 3))] [.int (1 : Int32)] _ _ from ?_)
      cases h
      exact zy_4b rfl ⟨rfl, rfl⟩ (Or.inr rfl)
/-! NineOpinions$Shelf.isRowOf(I)Z -/
noncomputable def zyF21   (x0 : Nat) (x1 : Int32) (s : zy_S) : Option (Int32 × zy_S) :=
(zyF20 x0 s).bind fun p1 =>
if p1.1 = 0 then
some ((0 : Int32), p1.2)
else
if (p1.2.1 x0 2) ≠ x1 then
some ((0 : Int32), p1.2)
else
some ((1 : Int32), p1.2)
theorem zyC21 {X : zx_X}     {x0 : Nat} {x1 : Int32} {s : zy_S} {r : Int32} {s' : zy_S} (hs_x0 : zy_isSh x0) (h : zyF21 x0 x1 s = some (r, s')) : zyR X 2 21 0 [some (.ref (x0 + 3)), some (.int x1)] [] s (zyE (some (.int r)) s') := by
  unfold zyF21 at h
  refine zy_0 rfl rfl (show zyR _ _ _ _ [some (.ref (x0 + 3)), some (.int x1)] [.ref (x0 + 3)] _ _ from ?_)
  obtain ⟨p1, hp1, h⟩ := zy_bind h
  refine zy_5 (c := x0) (as := []) (rest := []) (L := [some (.ref (x0 + 3))]) (d' := 1) rfl rfl hs_x0.1 (Nat.le_of_ble_eq_true rfl) (Nat.le_of_ble_eq_true rfl) rfl (Nat.le_of_ble_eq_true rfl) rfl rfl (zyC20 hs_x0 hp1) ?_
  show zyR _ _ _ _ [some (.ref (x0 + 3)), some (.int x1)] [.int p1.1] _ _
  refine zy_24_0 rfl (fun b3 => (show zyR _ _ _ _ [some (.ref (x0 + 3)), some (.int x1)] [] _ _ from ?_)) (fun b3 => (show zyR _ _ _ _ [some (.ref (x0 + 3)), some (.int x1)] [] _ _ from ?_))
  · replace h := zy_ifp h b3
    refine zy_3 rfl rfl (show zyR _ _ _ _ [some (.ref (x0 + 3)), some (.int x1)] [.int (0 : Int32)] _ _ from ?_)
    cases h
    exact zy_4b rfl ⟨rfl, rfl⟩ (Or.inl rfl)
  · replace h := zy_ifn h b3
    refine zy_0 rfl rfl (show zyR _ _ _ _ [some (.ref (x0 + 3)), some (.int x1)] [.ref (x0 + 3)] _ _ from ?_)
    refine zy_1 (c := x0) rfl hs_x0.1 rfl (show zyR _ _ _ _ [some (.ref (x0 + 3)), some (.int x1)] [.int (p1.2.1 x0 2)] _ _ from ?_)
    refine zy_2 rfl rfl (show zyR _ _ _ _ [some (.ref (x0 + 3)), some (.int x1)] [.int x1, .int (p1.2.1 x0 2)] _ _ from ?_)
    refine zy_25_1 rfl (fun b2 => (show zyR _ _ _ _ [some (.ref (x0 + 3)), some (.int x1)] [] _ _ from ?_)) (fun b2 => (show zyR _ _ _ _ [some (.ref (x0 + 3)), some (.int x1)] [] _ _ from ?_))
    · replace h := zy_ifp h b2
      refine zy_3 rfl rfl (show zyR _ _ _ _ [some (.ref (x0 + 3)), some (.int x1)] [.int (0 : Int32)] _ _ from ?_)
      cases h
      exact zy_4b rfl ⟨rfl, rfl⟩ (Or.inl rfl)
    · replace h := zy_ifn h b2
      refine zy_3 rfl rfl (show zyR _ _ _ _ [some (.ref (x0 + 3)), some (.int x1)] [.int (1 : Int32)] _ _ from ?_)
      refine zy_6 rfl (show zyR _ _ _ _ [some (.ref (x0 + 3)), some (.int x1)] [.int (1 : Int32)] _ _ from ?_)
      cases h
      exact zy_4b rfl ⟨rfl, rfl⟩ (Or.inr rfl)
/-! NineOpinions$Shelf.hasPlaces(II)Z -/
noncomputable def zyF23   (x0 : Nat) (x1 : Int32) (x2 : Int32) (s : zy_S) : Option (Int32 × zy_S) :=
if x1 < 0 then
some ((0 : Int32), s)
else
if x2 < 0 then
some ((0 : Int32), s)
else
if (s.1 x0 3) < x1 then
some ((0 : Int32), s)
else
if ((s.1 x0 3) - x1) < x2 then
some ((0 : Int32), s)
else
some ((1 : Int32), s)
theorem zyC23 {X : zx_X}     {x0 : Nat} {x1 : Int32} {x2 : Int32} {s : zy_S} {r : Int32} {s' : zy_S} (hs_x0 : zy_isSh x0) (h : zyF23 x0 x1 x2 s = some (r, s')) : zyR X 1 23 0 [some (.ref (x0 + 3)), some (.int x1), some (.int x2)] [] s (zyE (some (.int r)) s') := by
  unfold zyF23 at h
  refine zy_2 rfl rfl (show zyR _ _ _ _ [some (.ref (x0 + 3)), some (.int x1), some (.int x2)] [.int x1] _ _ from ?_)
  refine zy_24_2 rfl (fun b4 => (show zyR _ _ _ _ [some (.ref (x0 + 3)), some (.int x1), some (.int x2)] [] _ _ from ?_)) (fun b4 => (show zyR _ _ _ _ [some (.ref (x0 + 3)), some (.int x1), some (.int x2)] [] _ _ from ?_))
  · replace h := zy_ifp h b4
    refine zy_3 rfl rfl (show zyR _ _ _ _ [some (.ref (x0 + 3)), some (.int x1), some (.int x2)] [.int (0 : Int32)] _ _ from ?_)
    cases h
    exact zy_4b rfl ⟨rfl, rfl⟩ (Or.inl rfl)
  · replace h := zy_ifn h b4
    refine zy_2 rfl rfl (show zyR _ _ _ _ [some (.ref (x0 + 3)), some (.int x1), some (.int x2)] [.int x2] _ _ from ?_)
    refine zy_24_2 rfl (fun b3 => (show zyR _ _ _ _ [some (.ref (x0 + 3)), some (.int x1), some (.int x2)] [] _ _ from ?_)) (fun b3 => (show zyR _ _ _ _ [some (.ref (x0 + 3)), some (.int x1), some (.int x2)] [] _ _ from ?_))
    · replace h := zy_ifp h b3
      refine zy_3 rfl rfl (show zyR _ _ _ _ [some (.ref (x0 + 3)), some (.int x1), some (.int x2)] [.int (0 : Int32)] _ _ from ?_)
      cases h
      exact zy_4b rfl ⟨rfl, rfl⟩ (Or.inl rfl)
    · replace h := zy_ifn h b3
      refine zy_2 rfl rfl (show zyR _ _ _ _ [some (.ref (x0 + 3)), some (.int x1), some (.int x2)] [.int x1] _ _ from ?_)
      refine zy_0 rfl rfl (show zyR _ _ _ _ [some (.ref (x0 + 3)), some (.int x1), some (.int x2)] [.ref (x0 + 3), .int x1] _ _ from ?_)
      refine zy_1 (c := x0) rfl hs_x0.1 rfl (show zyR _ _ _ _ [some (.ref (x0 + 3)), some (.int x1), some (.int x2)] [.int (s.1 x0 3), .int x1] _ _ from ?_)
      refine zy_25_4 rfl (fun b2 => (show zyR _ _ _ _ [some (.ref (x0 + 3)), some (.int x1), some (.int x2)] [] _ _ from ?_)) (fun b2 => (show zyR _ _ _ _ [some (.ref (x0 + 3)), some (.int x1), some (.int x2)] [] _ _ from ?_))
      · replace h := zy_ifp h b2
        refine zy_3 rfl rfl (show zyR _ _ _ _ [some (.ref (x0 + 3)), some (.int x1), some (.int x2)] [.int (0 : Int32)] _ _ from ?_)
        cases h
        exact zy_4b rfl ⟨rfl, rfl⟩ (Or.inl rfl)
      · replace h := zy_ifn h b2
        refine zy_2 rfl rfl (show zyR _ _ _ _ [some (.ref (x0 + 3)), some (.int x1), some (.int x2)] [.int x2] _ _ from ?_)
        refine zy_0 rfl rfl (show zyR _ _ _ _ [some (.ref (x0 + 3)), some (.int x1), some (.int x2)] [.ref (x0 + 3), .int x2] _ _ from ?_)
        refine zy_1 (c := x0) rfl hs_x0.1 rfl (show zyR _ _ _ _ [some (.ref (x0 + 3)), some (.int x1), some (.int x2)] [.int (s.1 x0 3), .int x2] _ _ from ?_)
        refine zy_2 rfl rfl (show zyR _ _ _ _ [some (.ref (x0 + 3)), some (.int x1), some (.int x2)] [.int x1, .int (s.1 x0 3), .int x2] _ _ from ?_)
        refine zy_11 rfl (show zyR _ _ _ _ [some (.ref (x0 + 3)), some (.int x1), some (.int x2)] [.int ((s.1 x0 3) - x1), .int x2] _ _ from ?_)
        refine zy_25_4 rfl (fun b1 => (show zyR _ _ _ _ [some (.ref (x0 + 3)), some (.int x1), some (.int x2)] [] _ _ from ?_)) (fun b1 => (show zyR _ _ _ _ [some (.ref (x0 + 3)), some (.int x1), some (.int x2)] [] _ _ from ?_))
        · replace h := zy_ifp h b1
          refine zy_3 rfl rfl (show zyR _ _ _ _ [some (.ref (x0 + 3)), some (.int x1), some (.int x2)] [.int (0 : Int32)] _ _ from ?_)
          cases h
          exact zy_4b rfl ⟨rfl, rfl⟩ (Or.inl rfl)
        · replace h := zy_ifn h b1
          refine zy_3 rfl rfl (show zyR _ _ _ _ [some (.ref (x0 + 3)), some (.int x1), some (.int x2)] [.int (1 : Int32)] _ _ from ?_)
          refine zy_6 rfl (show zyR _ _ _ _ [some (.ref (x0 + 3)), some (.int x1), some (.int x2)] [.int (1 : Int32)] _ _ from ?_)
          cases h
          exact zy_4b rfl ⟨rfl, rfl⟩ (Or.inr rfl)
/-! NineOpinions.comes(LNineOpinions$Shelf;I)Z -/
noncomputable def zyF22   (x1 : Nat) (x2 : Int32) (s : zy_S) : Option (Int32 × zy_S) :=
(zyF15 s).bind fun p1 =>
if p1.1 ≠ 0 then
some ((0 : Int32), p1.2)
else
(zyF23 x1 x2 (2 : Int32) p1.2).bind fun p2 =>
if p2.1 ≠ 0 then
if zy_in x2 60 then
if zy_in (x2 + (1 : Int32)) 60 then
(zyF14 (0 : Int32) ((p2.2.2.1 (x1 + 1) (x2).toNatClampNeg)).toInt32 p2.2).bind fun p5 =>
if p5.1 = 0 then
some ((0 : Int32), p5.2)
else
(zyF14 (1 : Int32) ((p2.2.2.1 (x1 + 1) ((x2 + (1 : Int32))).toNatClampNeg)).toInt32 p5.2).bind fun p6 =>
if p6.1 ≠ 0 then
(zyF16 ((p2.2.2.1 (x1 + 1) (x2).toNatClampNeg)).toInt32 ((p2.2.2.1 (x1 + 1) ((x2 + (1 : Int32))).toNatClampNeg)).toInt32 p6.2).bind fun p7 =>
some ((1 : Int32), p7.2)
else
some ((0 : Int32), p6.2)
else none
else none
else
some ((0 : Int32), p2.2)
theorem zyC22 {X : zx_X}     {x1 : Nat} {x2 : Int32} {s : zy_S} {r : Int32} {s' : zy_S} (hs_x1 : zy_isSh x1) (h : zyF22 x1 x2 s = some (r, s')) : zyR X 2 22 0 [some (.ref (0 + 3)), some (.ref (x1 + 3)), some (.int x2), none, none] [] s (zyE (some (.int r)) s') := by
  unfold zyF22 at h
  refine zy_0 rfl rfl (show zyR _ _ _ _ [some (.ref (0 + 3)), some (.ref (x1 + 3)), some (.int x2), none, none] [.ref (0 + 3)] _ _ from ?_)
  refine zy_1r (c := 0) rfl rfl rfl (show zyR _ _ _ _ [some (.ref (0 + 3)), some (.ref (x1 + 3)), some (.int x2), none, none] [.ref (1 + 3)] _ _ from ?_)
  obtain ⟨p1, hp1, h⟩ := zy_bind h
  refine zy_5 (c := 1) (as := []) (rest := []) (L := [some (.ref (1 + 3))]) (d' := 1) rfl rfl rfl (Nat.le_of_ble_eq_true rfl) (Nat.le_of_ble_eq_true rfl) rfl (Nat.le_of_ble_eq_true rfl) rfl rfl (zyC15 hp1) ?_
  show zyR _ _ _ _ [some (.ref (0 + 3)), some (.ref (x1 + 3)), some (.int x2), none, none] [.int p1.1] _ _
  refine zy_24_1 rfl (fun b11 => (show zyR _ _ _ _ [some (.ref (0 + 3)), some (.ref (x1 + 3)), some (.int x2), none, none] [] _ _ from ?_)) (fun b11 => (show zyR _ _ _ _ [some (.ref (0 + 3)), some (.ref (x1 + 3)), some (.int x2), none, none] [] _ _ from ?_))
  · replace h := zy_ifp h b11
    refine zy_3 rfl rfl (show zyR _ _ _ _ [some (.ref (0 + 3)), some (.ref (x1 + 3)), some (.int x2), none, none] [.int (0 : Int32)] _ _ from ?_)
    cases h
    exact zy_4b rfl ⟨rfl, rfl⟩ (Or.inl rfl)
  · replace h := zy_ifn h b11
    refine zy_0 rfl rfl (show zyR _ _ _ _ [some (.ref (0 + 3)), some (.ref (x1 + 3)), some (.int x2), none, none] [.ref (x1 + 3)] _ _ from ?_)
    refine zy_2 rfl rfl (show zyR _ _ _ _ [some (.ref (0 + 3)), some (.ref (x1 + 3)), some (.int x2), none, none] [.int x2, .ref (x1 + 3)] _ _ from ?_)
    refine zy_3 rfl rfl (show zyR _ _ _ _ [some (.ref (0 + 3)), some (.ref (x1 + 3)), some (.int x2), none, none] [.int (2 : Int32), .int x2, .ref (x1 + 3)] _ _ from ?_)
    obtain ⟨p2, hp2, h⟩ := zy_bind h
    refine zy_5 (c := x1) (as := [.int x2, .int (2 : Int32)]) (rest := []) (L := [some (.ref (x1 + 3)), some (.int x2), some (.int (2 : Int32))]) (d' := 1) rfl rfl hs_x1.1 (Nat.le_of_ble_eq_true rfl) (Nat.le_of_ble_eq_true rfl) rfl (Nat.le_of_ble_eq_true rfl) rfl rfl (zyC23 hs_x1 hp2) ?_
    show zyR _ _ _ _ [some (.ref (0 + 3)), some (.ref (x1 + 3)), some (.int x2), none, none] [.int p2.1] _ _
    refine zy_24_1 rfl (fun b10 => (show zyR _ _ _ _ [some (.ref (0 + 3)), some (.ref (x1 + 3)), some (.int x2), none, none] [] _ _ from ?_)) (fun b10 => (show zyR _ _ _ _ [some (.ref (0 + 3)), some (.ref (x1 + 3)), some (.int x2), none, none] [] _ _ from ?_))
    · replace h := zy_ifp h b10
      refine zy_0 rfl rfl (show zyR _ _ _ _ [some (.ref (0 + 3)), some (.ref (x1 + 3)), some (.int x2), none, none] [.ref (x1 + 3)] _ _ from ?_)
      refine zy_1r (c := x1) rfl hs_x1.1 rfl (show zyR _ _ _ _ [some (.ref (0 + 3)), some (.ref (x1 + 3)), some (.int x2), none, none] [.ref (x1 + 1 + 3)] _ _ from ?_)
      refine zy_2 rfl rfl (show zyR _ _ _ _ [some (.ref (0 + 3)), some (.ref (x1 + 3)), some (.int x2), none, none] [.int x2, .ref (x1 + 1 + 3)] _ _ from ?_)
      obtain ⟨c3, h⟩ := zy_if h
      refine zy_30 (c := (x1 + 1)) rfl hs_x1.2 c3 (show zyR _ _ _ _ [some (.ref (0 + 3)), some (.ref (x1 + 3)), some (.int x2), none, none] [.long (p2.2.2.1 (x1 + 1) (x2).toNatClampNeg)] _ _ from ?_)
      refine zy_41 rfl (show zyR _ _ _ _ [some (.ref (0 + 3)), some (.ref (x1 + 3)), some (.int x2), none, none] [.int ((p2.2.2.1 (x1 + 1) (x2).toNatClampNeg)).toInt32] _ _ from ?_)
      refine zy_23 rfl rfl (show zyR _ _ _ _ [some (.ref (0 + 3)), some (.ref (x1 + 3)), some (.int x2), some (.int ((p2.2.2.1 (x1 + 1) (x2).toNatClampNeg)).toInt32), none] [] _ _ from ?_)
      refine zy_0 rfl rfl (show zyR _ _ _ _ [some (.ref (0 + 3)), some (.ref (x1 + 3)), some (.int x2), some (.int ((p2.2.2.1 (x1 + 1) (x2).toNatClampNeg)).toInt32), none] [.ref (x1 + 3)] _ _ from ?_)
      refine zy_1r (c := x1) rfl hs_x1.1 rfl (show zyR _ _ _ _ [some (.ref (0 + 3)), some (.ref (x1 + 3)), some (.int x2), some (.int ((p2.2.2.1 (x1 + 1) (x2).toNatClampNeg)).toInt32), none] [.ref (x1 + 1 + 3)] _ _ from ?_)
      refine zy_2 rfl rfl (show zyR _ _ _ _ [some (.ref (0 + 3)), some (.ref (x1 + 3)), some (.int x2), some (.int ((p2.2.2.1 (x1 + 1) (x2).toNatClampNeg)).toInt32), none] [.int x2, .ref (x1 + 1 + 3)] _ _ from ?_)
      refine zy_3 rfl rfl (show zyR _ _ _ _ [some (.ref (0 + 3)), some (.ref (x1 + 3)), some (.int x2), some (.int ((p2.2.2.1 (x1 + 1) (x2).toNatClampNeg)).toInt32), none] [.int (1 : Int32), .int x2, .ref (x1 + 1 + 3)] _ _ from ?_)
      refine zy_10 rfl (show zyR _ _ _ _ [some (.ref (0 + 3)), some (.ref (x1 + 3)), some (.int x2), some (.int ((p2.2.2.1 (x1 + 1) (x2).toNatClampNeg)).toInt32), none] [.int (x2 + (1 : Int32)), .ref (x1 + 1 + 3)] _ _ from ?_)
      obtain ⟨c4, h⟩ := zy_if h
      refine zy_30 (c := (x1 + 1)) rfl hs_x1.2 c4 (show zyR _ _ _ _ [some (.ref (0 + 3)), some (.ref (x1 + 3)), some (.int x2), some (.int ((p2.2.2.1 (x1 + 1) (x2).toNatClampNeg)).toInt32), none] [.long (p2.2.2.1 (x1 + 1) ((x2 + (1 : Int32))).toNatClampNeg)] _ _ from ?_)
      refine zy_41 rfl (show zyR _ _ _ _ [some (.ref (0 + 3)), some (.ref (x1 + 3)), some (.int x2), some (.int ((p2.2.2.1 (x1 + 1) (x2).toNatClampNeg)).toInt32), none] [.int ((p2.2.2.1 (x1 + 1) ((x2 + (1 : Int32))).toNatClampNeg)).toInt32] _ _ from ?_)
      refine zy_23 rfl rfl (show zyR _ _ _ _ [some (.ref (0 + 3)), some (.ref (x1 + 3)), some (.int x2), some (.int ((p2.2.2.1 (x1 + 1) (x2).toNatClampNeg)).toInt32), some (.int ((p2.2.2.1 (x1 + 1) ((x2 + (1 : Int32))).toNatClampNeg)).toInt32)] [] _ _ from ?_)
      refine zy_0 rfl rfl (show zyR _ _ _ _ [some (.ref (0 + 3)), some (.ref (x1 + 3)), some (.int x2), some (.int ((p2.2.2.1 (x1 + 1) (x2).toNatClampNeg)).toInt32), some (.int ((p2.2.2.1 (x1 + 1) ((x2 + (1 : Int32))).toNatClampNeg)).toInt32)] [.ref (0 + 3)] _ _ from ?_)
      refine zy_1r (c := 0) rfl rfl rfl (show zyR _ _ _ _ [some (.ref (0 + 3)), some (.ref (x1 + 3)), some (.int x2), some (.int ((p2.2.2.1 (x1 + 1) (x2).toNatClampNeg)).toInt32), some (.int ((p2.2.2.1 (x1 + 1) ((x2 + (1 : Int32))).toNatClampNeg)).toInt32)] [.ref (1 + 3)] _ _ from ?_)
      refine zy_3 rfl rfl (show zyR _ _ _ _ [some (.ref (0 + 3)), some (.ref (x1 + 3)), some (.int x2), some (.int ((p2.2.2.1 (x1 + 1) (x2).toNatClampNeg)).toInt32), some (.int ((p2.2.2.1 (x1 + 1) ((x2 + (1 : Int32))).toNatClampNeg)).toInt32)] [.int (0 : Int32), .ref (1 + 3)] _ _ from ?_)
      refine zy_2 rfl rfl (show zyR _ _ _ _ [some (.ref (0 + 3)), some (.ref (x1 + 3)), some (.int x2), some (.int ((p2.2.2.1 (x1 + 1) (x2).toNatClampNeg)).toInt32), some (.int ((p2.2.2.1 (x1 + 1) ((x2 + (1 : Int32))).toNatClampNeg)).toInt32)] [.int ((p2.2.2.1 (x1 + 1) (x2).toNatClampNeg)).toInt32, .int (0 : Int32), .ref (1 + 3)] _ _ from ?_)
      obtain ⟨p5, hp5, h⟩ := zy_bind h
      refine zy_5 (c := 1) (as := [.int (0 : Int32), .int ((p2.2.2.1 (x1 + 1) (x2).toNatClampNeg)).toInt32]) (rest := []) (L := [some (.ref (1 + 3)), some (.int (0 : Int32)), some (.int ((p2.2.2.1 (x1 + 1) (x2).toNatClampNeg)).toInt32)]) (d' := 1) rfl rfl rfl (Nat.le_of_ble_eq_true rfl) (Nat.le_of_ble_eq_true rfl) rfl (Nat.le_of_ble_eq_true rfl) rfl rfl (zy_sub (show zy_le [none, some (.int (0 : Int32)), some (.int ((p2.2.2.1 (x1 + 1) (x2).toNatClampNeg)).toInt32)] [some (.ref (1 + 3)), some (.int (0 : Int32)), some (.int ((p2.2.2.1 (x1 + 1) (x2).toNatClampNeg)).toInt32)] from ⟨rfl, ⟨rfl, trivial⟩⟩) (zyC14 hp5)) ?_
      show zyR _ _ _ _ [some (.ref (0 + 3)), some (.ref (x1 + 3)), some (.int x2), some (.int ((p2.2.2.1 (x1 + 1) (x2).toNatClampNeg)).toInt32), some (.int ((p2.2.2.1 (x1 + 1) ((x2 + (1 : Int32))).toNatClampNeg)).toInt32)] [.int p5.1] _ _
      refine zy_24_0 rfl (fun b9 => (show zyR _ _ _ _ [some (.ref (0 + 3)), some (.ref (x1 + 3)), some (.int x2), some (.int ((p2.2.2.1 (x1 + 1) (x2).toNatClampNeg)).toInt32), some (.int ((p2.2.2.1 (x1 + 1) ((x2 + (1 : Int32))).toNatClampNeg)).toInt32)] [] _ _ from ?_)) (fun b9 => (show zyR _ _ _ _ [some (.ref (0 + 3)), some (.ref (x1 + 3)), some (.int x2), some (.int ((p2.2.2.1 (x1 + 1) (x2).toNatClampNeg)).toInt32), some (.int ((p2.2.2.1 (x1 + 1) ((x2 + (1 : Int32))).toNatClampNeg)).toInt32)] [] _ _ from ?_))
      · replace h := zy_ifp h b9
        refine zy_3 rfl rfl (show zyR _ _ _ _ [some (.ref (0 + 3)), some (.ref (x1 + 3)), some (.int x2), some (.int ((p2.2.2.1 (x1 + 1) (x2).toNatClampNeg)).toInt32), some (.int ((p2.2.2.1 (x1 + 1) ((x2 + (1 : Int32))).toNatClampNeg)).toInt32)] [.int (0 : Int32)] _ _ from ?_)
        cases h
        exact zy_4b rfl ⟨rfl, rfl⟩ (Or.inl rfl)
      · replace h := zy_ifn h b9
        refine zy_0 rfl rfl (show zyR _ _ _ _ [some (.ref (0 + 3)), some (.ref (x1 + 3)), some (.int x2), some (.int ((p2.2.2.1 (x1 + 1) (x2).toNatClampNeg)).toInt32), some (.int ((p2.2.2.1 (x1 + 1) ((x2 + (1 : Int32))).toNatClampNeg)).toInt32)] [.ref (0 + 3)] _ _ from ?_)
        refine zy_1r (c := 0) rfl rfl rfl (show zyR _ _ _ _ [some (.ref (0 + 3)), some (.ref (x1 + 3)), some (.int x2), some (.int ((p2.2.2.1 (x1 + 1) (x2).toNatClampNeg)).toInt32), some (.int ((p2.2.2.1 (x1 + 1) ((x2 + (1 : Int32))).toNatClampNeg)).toInt32)] [.ref (1 + 3)] _ _ from ?_)
        refine zy_3 rfl rfl (show zyR _ _ _ _ [some (.ref (0 + 3)), some (.ref (x1 + 3)), some (.int x2), some (.int ((p2.2.2.1 (x1 + 1) (x2).toNatClampNeg)).toInt32), some (.int ((p2.2.2.1 (x1 + 1) ((x2 + (1 : Int32))).toNatClampNeg)).toInt32)] [.int (1 : Int32), .ref (1 + 3)] _ _ from ?_)
        refine zy_2 rfl rfl (show zyR _ _ _ _ [some (.ref (0 + 3)), some (.ref (x1 + 3)), some (.int x2), some (.int ((p2.2.2.1 (x1 + 1) (x2).toNatClampNeg)).toInt32), some (.int ((p2.2.2.1 (x1 + 1) ((x2 + (1 : Int32))).toNatClampNeg)).toInt32)] [.int ((p2.2.2.1 (x1 + 1) ((x2 + (1 : Int32))).toNatClampNeg)).toInt32, .int (1 : Int32), .ref (1 + 3)] _ _ from ?_)
        obtain ⟨p6, hp6, h⟩ := zy_bind h
        refine zy_5 (c := 1) (as := [.int (1 : Int32), .int ((p2.2.2.1 (x1 + 1) ((x2 + (1 : Int32))).toNatClampNeg)).toInt32]) (rest := []) (L := [some (.ref (1 + 3)), some (.int (1 : Int32)), some (.int ((p2.2.2.1 (x1 + 1) ((x2 + (1 : Int32))).toNatClampNeg)).toInt32)]) (d' := 1) rfl rfl rfl (Nat.le_of_ble_eq_true rfl) (Nat.le_of_ble_eq_true rfl) rfl (Nat.le_of_ble_eq_true rfl) rfl rfl (zy_sub (show zy_le [none, some (.int (1 : Int32)), some (.int ((p2.2.2.1 (x1 + 1) ((x2 + (1 : Int32))).toNatClampNeg)).toInt32)] [some (.ref (1 + 3)), some (.int (1 : Int32)), some (.int ((p2.2.2.1 (x1 + 1) ((x2 + (1 : Int32))).toNatClampNeg)).toInt32)] from ⟨rfl, ⟨rfl, trivial⟩⟩) (zyC14 hp6)) ?_
        show zyR _ _ _ _ [some (.ref (0 + 3)), some (.ref (x1 + 3)), some (.int x2), some (.int ((p2.2.2.1 (x1 + 1) (x2).toNatClampNeg)).toInt32), some (.int ((p2.2.2.1 (x1 + 1) ((x2 + (1 : Int32))).toNatClampNeg)).toInt32)] [.int p6.1] _ _
        refine zy_24_1 rfl (fun b8 => (show zyR _ _ _ _ [some (.ref (0 + 3)), some (.ref (x1 + 3)), some (.int x2), some (.int ((p2.2.2.1 (x1 + 1) (x2).toNatClampNeg)).toInt32), some (.int ((p2.2.2.1 (x1 + 1) ((x2 + (1 : Int32))).toNatClampNeg)).toInt32)] [] _ _ from ?_)) (fun b8 => (show zyR _ _ _ _ [some (.ref (0 + 3)), some (.ref (x1 + 3)), some (.int x2), some (.int ((p2.2.2.1 (x1 + 1) (x2).toNatClampNeg)).toInt32), some (.int ((p2.2.2.1 (x1 + 1) ((x2 + (1 : Int32))).toNatClampNeg)).toInt32)] [] _ _ from ?_))
        · replace h := zy_ifp h b8
          refine zy_0 rfl rfl (show zyR _ _ _ _ [some (.ref (0 + 3)), some (.ref (x1 + 3)), some (.int x2), some (.int ((p2.2.2.1 (x1 + 1) (x2).toNatClampNeg)).toInt32), some (.int ((p2.2.2.1 (x1 + 1) ((x2 + (1 : Int32))).toNatClampNeg)).toInt32)] [.ref (0 + 3)] _ _ from ?_)
          refine zy_1r (c := 0) rfl rfl rfl (show zyR _ _ _ _ [some (.ref (0 + 3)), some (.ref (x1 + 3)), some (.int x2), some (.int ((p2.2.2.1 (x1 + 1) (x2).toNatClampNeg)).toInt32), some (.int ((p2.2.2.1 (x1 + 1) ((x2 + (1 : Int32))).toNatClampNeg)).toInt32)] [.ref (1 + 3)] _ _ from ?_)
          refine zy_2 rfl rfl (show zyR _ _ _ _ [some (.ref (0 + 3)), some (.ref (x1 + 3)), some (.int x2), some (.int ((p2.2.2.1 (x1 + 1) (x2).toNatClampNeg)).toInt32), some (.int ((p2.2.2.1 (x1 + 1) ((x2 + (1 : Int32))).toNatClampNeg)).toInt32)] [.int ((p2.2.2.1 (x1 + 1) (x2).toNatClampNeg)).toInt32, .ref (1 + 3)] _ _ from ?_)
          refine zy_2 rfl rfl (show zyR _ _ _ _ [some (.ref (0 + 3)), some (.ref (x1 + 3)), some (.int x2), some (.int ((p2.2.2.1 (x1 + 1) (x2).toNatClampNeg)).toInt32), some (.int ((p2.2.2.1 (x1 + 1) ((x2 + (1 : Int32))).toNatClampNeg)).toInt32)] [.int ((p2.2.2.1 (x1 + 1) ((x2 + (1 : Int32))).toNatClampNeg)).toInt32, .int ((p2.2.2.1 (x1 + 1) (x2).toNatClampNeg)).toInt32, .ref (1 + 3)] _ _ from ?_)
          obtain ⟨p7, hp7, h⟩ := zy_bind h
          refine zy_5 (c := 1) (as := [.int ((p2.2.2.1 (x1 + 1) (x2).toNatClampNeg)).toInt32, .int ((p2.2.2.1 (x1 + 1) ((x2 + (1 : Int32))).toNatClampNeg)).toInt32]) (rest := []) (L := [some (.ref (1 + 3)), some (.int ((p2.2.2.1 (x1 + 1) (x2).toNatClampNeg)).toInt32), some (.int ((p2.2.2.1 (x1 + 1) ((x2 + (1 : Int32))).toNatClampNeg)).toInt32), none]) (d' := 1) rfl rfl rfl (Nat.le_of_ble_eq_true rfl) (Nat.le_of_ble_eq_true rfl) rfl (Nat.le_of_ble_eq_true rfl) rfl rfl (zyC16 hp7) ?_
          show zyR _ _ _ _ [some (.ref (0 + 3)), some (.ref (x1 + 3)), some (.int x2), some (.int ((p2.2.2.1 (x1 + 1) (x2).toNatClampNeg)).toInt32), some (.int ((p2.2.2.1 (x1 + 1) ((x2 + (1 : Int32))).toNatClampNeg)).toInt32)] [.int p7.1] _ _
          refine zy_34 rfl rfl (show zyR _ _ _ _ [some (.ref (0 + 3)), some (.ref (x1 + 3)), some (.int x2), some (.int ((p2.2.2.1 (x1 + 1) (x2).toNatClampNeg)).toInt32), some (.int ((p2.2.2.1 (x1 + 1) ((x2 + (1 : Int32))).toNatClampNeg)).toInt32)] [] _ _ from ?_)
          refine zy_3 rfl rfl (show zyR _ _ _ _ [some (.ref (0 + 3)), some (.ref (x1 + 3)), some (.int x2), some (.int ((p2.2.2.1 (x1 + 1) (x2).toNatClampNeg)).toInt32), some (.int ((p2.2.2.1 (x1 + 1) ((x2 + (1 : Int32))).toNatClampNeg)).toInt32)] [.int (1 : Int32)] _ _ from ?_)
          cases h
          exact zy_4b rfl ⟨rfl, rfl⟩ (Or.inr rfl)
        · replace h := zy_ifn h b8
          refine zy_3 rfl rfl (show zyR _ _ _ _ [some (.ref (0 + 3)), some (.ref (x1 + 3)), some (.int x2), some (.int ((p2.2.2.1 (x1 + 1) (x2).toNatClampNeg)).toInt32), some (.int ((p2.2.2.1 (x1 + 1) ((x2 + (1 : Int32))).toNatClampNeg)).toInt32)] [.int (0 : Int32)] _ _ from ?_)
          cases h
          exact zy_4b rfl ⟨rfl, rfl⟩ (Or.inl rfl)
    · replace h := zy_ifn h b10
      refine zy_3 rfl rfl (show zyR _ _ _ _ [some (.ref (0 + 3)), some (.ref (x1 + 3)), some (.int x2), none, none] [.int (0 : Int32)] _ _ from ?_)
      cases h
      exact zy_4b rfl ⟨rfl, rfl⟩ (Or.inl rfl)
/-! NineOpinions.people(III)I -/
noncomputable def zyF17_53b  (k53 : Int32 → Int32 → Nat → Int32 → zy_S → Option (Int32 × zy_S)) (x2 : Int32) (x3 : Int32) (x4 : Nat) (x5 : Int32) (s : zy_S) : Option (Int32 × zy_S) :=
if x3 ≤ x5 then
some (x5, s)
else
(zyF22 x4 (x2 + ((2 : Int32) * x5)) s).bind fun p1 =>
if p1.1 = 0 then
some (x5, p1.2)
else
k53 x2 x3 x4 (x5 + (1 : Int32)) p1.2
theorem zyC17_53b {X : zx_X}  {k53 : Int32 → Int32 → Nat → Int32 → zy_S → Option (Int32 × zy_S)}  (hk53 : ∀ (x2 : Int32) (x3 : Int32) (x4 : Nat) (x5 : Int32) (s : zy_S) (r : Int32) (s' : zy_S) (hs_x4 : zy_isSh x4), k53 x2 x3 x4 x5 s = some (r, s') → zyR X 3 17 53 [some (.ref (0 + 3)), none, some (.int x2), some (.int x3), some (.ref (x4 + 3)), some (.int x5)] [] s (zyE (some (.int r)) s')) {x2 : Int32} {x3 : Int32} {x4 : Nat} {x5 : Int32} {s : zy_S} {r : Int32} {s' : zy_S} (hs_x4 : zy_isSh x4) (h : zyF17_53b k53 x2 x3 x4 x5 s = some (r, s')) : zyR X 3 17 53 [some (.ref (0 + 3)), none, some (.int x2), some (.int x3), some (.ref (x4 + 3)), some (.int x5)] [] s (zyE (some (.int r)) s') := by
  unfold zyF17_53b at h
  refine zy_2 rfl rfl (show zyR _ _ _ _ [some (.ref (0 + 3)), none, some (.int x2), some (.int x3), some (.ref (x4 + 3)), some (.int x5)] [.int x5] _ _ from ?_)
  refine zy_2 rfl rfl (show zyR _ _ _ _ [some (.ref (0 + 3)), none, some (.int x2), some (.int x3), some (.ref (x4 + 3)), some (.int x5)] [.int x3, .int x5] _ _ from ?_)
  refine zy_25_3 rfl (fun b3 => (show zyR _ _ _ _ [some (.ref (0 + 3)), none, some (.int x2), some (.int x3), some (.ref (x4 + 3)), some (.int x5)] [] _ _ from ?_)) (fun b3 => (show zyR _ _ _ _ [some (.ref (0 + 3)), none, some (.int x2), some (.int x3), some (.ref (x4 + 3)), some (.int x5)] [] _ _ from ?_))
  · replace h := zy_ifp h b3
    refine zy_2 rfl rfl (show zyR _ _ _ _ [some (.ref (0 + 3)), none, some (.int x2), some (.int x3), some (.ref (x4 + 3)), some (.int x5)] [.int x5] _ _ from ?_)
    obtain ⟨rfl, rfl⟩ := zy_pi h
    exact zy_4 rfl ⟨rfl, rfl⟩
  · replace h := zy_ifn h b3
    refine zy_0 rfl rfl (show zyR _ _ _ _ [some (.ref (0 + 3)), none, some (.int x2), some (.int x3), some (.ref (x4 + 3)), some (.int x5)] [.ref (0 + 3)] _ _ from ?_)
    refine zy_0 rfl rfl (show zyR _ _ _ _ [some (.ref (0 + 3)), none, some (.int x2), some (.int x3), some (.ref (x4 + 3)), some (.int x5)] [.ref (x4 + 3), .ref (0 + 3)] _ _ from ?_)
    refine zy_2 rfl rfl (show zyR _ _ _ _ [some (.ref (0 + 3)), none, some (.int x2), some (.int x3), some (.ref (x4 + 3)), some (.int x5)] [.int x2, .ref (x4 + 3), .ref (0 + 3)] _ _ from ?_)
    refine zy_3 rfl rfl (show zyR _ _ _ _ [some (.ref (0 + 3)), none, some (.int x2), some (.int x3), some (.ref (x4 + 3)), some (.int x5)] [.int (2 : Int32), .int x2, .ref (x4 + 3), .ref (0 + 3)] _ _ from ?_)
    refine zy_2 rfl rfl (show zyR _ _ _ _ [some (.ref (0 + 3)), none, some (.int x2), some (.int x3), some (.ref (x4 + 3)), some (.int x5)] [.int x5, .int (2 : Int32), .int x2, .ref (x4 + 3), .ref (0 + 3)] _ _ from ?_)
    refine zy_12 rfl (show zyR _ _ _ _ [some (.ref (0 + 3)), none, some (.int x2), some (.int x3), some (.ref (x4 + 3)), some (.int x5)] [.int ((2 : Int32) * x5), .int x2, .ref (x4 + 3), .ref (0 + 3)] _ _ from ?_)
    refine zy_10 rfl (show zyR _ _ _ _ [some (.ref (0 + 3)), none, some (.int x2), some (.int x3), some (.ref (x4 + 3)), some (.int x5)] [.int (x2 + ((2 : Int32) * x5)), .ref (x4 + 3), .ref (0 + 3)] _ _ from ?_)
    obtain ⟨p1, hp1, h⟩ := zy_bind h
    refine zy_5 (c := 0) (as := [.ref (x4 + 3), .int (x2 + ((2 : Int32) * x5))]) (rest := []) (L := [some (.ref (0 + 3)), some (.ref (x4 + 3)), some (.int (x2 + ((2 : Int32) * x5))), none, none]) (d' := 2) rfl rfl rfl (Nat.le_of_ble_eq_true rfl) (Nat.le_of_ble_eq_true rfl) rfl (Nat.le_of_ble_eq_true rfl) rfl rfl (zyC22 hs_x4 hp1) ?_
    show zyR _ _ _ _ [some (.ref (0 + 3)), none, some (.int x2), some (.int x3), some (.ref (x4 + 3)), some (.int x5)] [.int p1.1] _ _
    refine zy_24_0 rfl (fun b2 => (show zyR _ _ _ _ [some (.ref (0 + 3)), none, some (.int x2), some (.int x3), some (.ref (x4 + 3)), some (.int x5)] [] _ _ from ?_)) (fun b2 => (show zyR _ _ _ _ [some (.ref (0 + 3)), none, some (.int x2), some (.int x3), some (.ref (x4 + 3)), some (.int x5)] [] _ _ from ?_))
    · replace h := zy_ifp h b2
      refine zy_2 rfl rfl (show zyR _ _ _ _ [some (.ref (0 + 3)), none, some (.int x2), some (.int x3), some (.ref (x4 + 3)), some (.int x5)] [.int x5] _ _ from ?_)
      obtain ⟨rfl, rfl⟩ := zy_pi h
      exact zy_4 rfl ⟨rfl, rfl⟩
    · replace h := zy_ifn h b2
      refine zy_22 rfl rfl rfl rfl (show zyR _ _ _ _ [some (.ref (0 + 3)), none, some (.int x2), some (.int x3), some (.ref (x4 + 3)), some (.int (x5 + (1 : Int32)))] [] _ _ from ?_)
      refine zy_6 rfl (show zyR _ _ _ _ [some (.ref (0 + 3)), none, some (.int x2), some (.int x3), some (.ref (x4 + 3)), some (.int (x5 + (1 : Int32)))] [] _ _ from ?_)
      exact zy_sub (show zy_le [some (.ref (0 + 3)), none, some (.int x2), some (.int x3), some (.ref (x4 + 3)), some (.int (x5 + (1 : Int32)))] [some (.ref (0 + 3)), none, some (.int x2), some (.int x3), some (.ref (x4 + 3)), some (.int (x5 + (1 : Int32)))] from ⟨rfl, ⟨rfl, ⟨rfl, ⟨rfl, ⟨rfl, trivial⟩⟩⟩⟩⟩) (hk53 x2 x3 x4 (x5 + (1 : Int32)) p1.2 _ _ hs_x4 h)
noncomputable def zyF17_53   (n : Nat) : Int32 → Int32 → Nat → Int32 → zy_S → Option (Int32 × zy_S) := Nat.rec (fun _ _ _ _ _ => none) (fun _ k53 => zyF17_53b k53) n
theorem zyC17_53 {X : zx_X}     : ∀ (n : Nat) (x2 : Int32) (x3 : Int32) (x4 : Nat) (x5 : Int32) (s : zy_S) (r : Int32) (s' : zy_S) (hs_x4 : zy_isSh x4), zyF17_53 n x2 x3 x4 x5 s = some (r, s') → zyR X 3 17 53 [some (.ref (0 + 3)), none, some (.int x2), some (.int x3), some (.ref (x4 + 3)), some (.int x5)] [] s (zyE (some (.int r)) s')
  | 0, _, _, _, _ => by
    intro s r s' hs_x4 h
    have h : (none : Option (Int32 × zy_S)) = some (r, s') := h
    cases h
  | n + 1, x2, x3, x4, x5 => by
    intro s r s' hs_x4 h
    exact zyC17_53b (k53 := zyF17_53 n) (fun x2 x3 x4 x5 s r s' hs_x4 h => zyC17_53  n x2 x3 x4 x5 s r s' hs_x4 h) hs_x4 h
noncomputable def zyF17   (x1 : Int32) (x2 : Int32) (x3 : Int32) (s : zy_S) : Option (Int32 × zy_S) :=
(zyF18 x1 s).bind fun p4 =>
if p4.1 = 0 then
some ((-1 : Int32), p4.2)
else
if x3 < (1 : Int32) then
some ((-1 : Int32), p4.2)
else
if x3 ≤ (8 : Int32) then
if zy_in x1 6 then
if zy_Wb p4.2 then
(zyF19 (zy_sh (x1).toNatClampNeg) p4.2).bind fun p7 =>
if p7.1 = 0 then
(zyF21 (zy_sh (x1).toNatClampNeg) (1 : Int32) p7.2).bind fun p8 =>
if p8.1 ≠ 0 then
zyF17_53 zy_fu x2 x3 (zy_sh (x1).toNatClampNeg) (0 : Int32) p8.2
else
some ((-12 : Int32), p8.2)
else
some ((0 : Int32), p7.2)
else none
else none
else
some ((-1 : Int32), p4.2)
theorem zyC17 {X : zx_X}     {x1 : Int32} {x2 : Int32} {x3 : Int32} {s : zy_S} {r : Int32} {s' : zy_S}  (h : zyF17 x1 x2 x3 s = some (r, s')) : zyR X 3 17 0 [some (.ref (0 + 3)), some (.int x1), some (.int x2), some (.int x3), none, none] [] s (zyE (some (.int r)) s') := by
  unfold zyF17 at h
  refine zy_2 rfl rfl (show zyR _ _ _ _ [some (.ref (0 + 3)), some (.int x1), some (.int x2), some (.int x3), none, none] [.int x1] _ _ from ?_)
  obtain ⟨p4, hp4, h⟩ := zy_bind h
  refine zy_60 (as := [.int x1]) (rest := []) (L := [some (.int x1)]) (d' := 1) rfl rfl (Nat.le_of_ble_eq_true rfl) (Nat.le_of_ble_eq_true rfl) rfl (Nat.le_of_ble_eq_true rfl) rfl rfl (zyC18 hp4) ?_
  show zyR _ _ _ _ [some (.ref (0 + 3)), some (.int x1), some (.int x2), some (.int x3), none, none] [.int p4.1] _ _
  refine zy_24_0 rfl (fun b13 => (show zyR _ _ _ _ [some (.ref (0 + 3)), some (.int x1), some (.int x2), some (.int x3), none, none] [] _ _ from ?_)) (fun b13 => (show zyR _ _ _ _ [some (.ref (0 + 3)), some (.int x1), some (.int x2), some (.int x3), none, none] [] _ _ from ?_))
  · replace h := zy_ifp h b13
    refine zy_3 rfl rfl (show zyR _ _ _ _ [some (.ref (0 + 3)), some (.int x1), some (.int x2), some (.int x3), none, none] [.int (-1 : Int32)] _ _ from ?_)
    obtain ⟨rfl, rfl⟩ := zy_pi h
    exact zy_4 rfl ⟨rfl, rfl⟩
  · replace h := zy_ifn h b13
    refine zy_2 rfl rfl (show zyR _ _ _ _ [some (.ref (0 + 3)), some (.int x1), some (.int x2), some (.int x3), none, none] [.int x3] _ _ from ?_)
    refine zy_3 rfl rfl (show zyR _ _ _ _ [some (.ref (0 + 3)), some (.int x1), some (.int x2), some (.int x3), none, none] [.int (1 : Int32), .int x3] _ _ from ?_)
    refine zy_25_2 rfl (fun b12 => (show zyR _ _ _ _ [some (.ref (0 + 3)), some (.int x1), some (.int x2), some (.int x3), none, none] [] _ _ from ?_)) (fun b12 => (show zyR _ _ _ _ [some (.ref (0 + 3)), some (.int x1), some (.int x2), some (.int x3), none, none] [] _ _ from ?_))
    · replace h := zy_ifp h b12
      refine zy_3 rfl rfl (show zyR _ _ _ _ [some (.ref (0 + 3)), some (.int x1), some (.int x2), some (.int x3), none, none] [.int (-1 : Int32)] _ _ from ?_)
      obtain ⟨rfl, rfl⟩ := zy_pi h
      exact zy_4 rfl ⟨rfl, rfl⟩
    · replace h := zy_ifn h b12
      refine zy_2 rfl rfl (show zyR _ _ _ _ [some (.ref (0 + 3)), some (.int x1), some (.int x2), some (.int x3), none, none] [.int x3] _ _ from ?_)
      refine zy_3 rfl rfl (show zyR _ _ _ _ [some (.ref (0 + 3)), some (.int x1), some (.int x2), some (.int x3), none, none] [.int (8 : Int32), .int x3] _ _ from ?_)
      refine zy_25_5 rfl (fun b11 => (show zyR _ _ _ _ [some (.ref (0 + 3)), some (.int x1), some (.int x2), some (.int x3), none, none] [] _ _ from ?_)) (fun b11 => (show zyR _ _ _ _ [some (.ref (0 + 3)), some (.int x1), some (.int x2), some (.int x3), none, none] [] _ _ from ?_))
      · replace h := zy_ifp h b11
        refine zy_0 rfl rfl (show zyR _ _ _ _ [some (.ref (0 + 3)), some (.int x1), some (.int x2), some (.int x3), none, none] [.ref (0 + 3)] _ _ from ?_)
        refine zy_1r (c := 0) rfl rfl rfl (show zyR _ _ _ _ [some (.ref (0 + 3)), some (.int x1), some (.int x2), some (.int x3), none, none] [.ref (30 + 3)] _ _ from ?_)
        refine zy_2 rfl rfl (show zyR _ _ _ _ [some (.ref (0 + 3)), some (.int x1), some (.int x2), some (.int x3), none, none] [.int x1, .ref (30 + 3)] _ _ from ?_)
        obtain ⟨c5, h⟩ := zy_if h
        obtain ⟨c6, h⟩ := zy_if h
        refine zy_28 rfl (zy_Wb_g c6) c5 (show zyR _ _ _ _ [some (.ref (0 + 3)), some (.int x1), some (.int x2), some (.int x3), none, none] [.ref ((zy_sh (x1).toNatClampNeg) + 3)] _ _ from ?_)
        refine zy_39 rfl rfl (show zyR _ _ _ _ [some (.ref (0 + 3)), some (.int x1), some (.int x2), some (.int x3), some (.ref ((zy_sh (x1).toNatClampNeg) + 3)), none] [] _ _ from ?_)
        refine zy_0 rfl rfl (show zyR _ _ _ _ [some (.ref (0 + 3)), some (.int x1), some (.int x2), some (.int x3), some (.ref ((zy_sh (x1).toNatClampNeg) + 3)), none] [.ref ((zy_sh (x1).toNatClampNeg) + 3)] _ _ from ?_)
        obtain ⟨p7, hp7, h⟩ := zy_bind h
        refine zy_5 (c := (zy_sh (x1).toNatClampNeg)) (as := []) (rest := []) (L := [some (.ref ((zy_sh (x1).toNatClampNeg) + 3))]) (d' := 2) rfl rfl (zy_isSh_of (zy_in_lt c5)).1 (Nat.le_of_ble_eq_true rfl) (Nat.le_of_ble_eq_true rfl) rfl (Nat.le_of_ble_eq_true rfl) rfl rfl (zyC19 (zy_isSh_of (zy_in_lt c5)) hp7) ?_
        show zyR _ _ _ _ [some (.ref (0 + 3)), some (.int x1), some (.int x2), some (.int x3), some (.ref ((zy_sh (x1).toNatClampNeg) + 3)), none] [.int p7.1] _ _
        refine zy_24_0 rfl (fun b10 => (show zyR _ _ _ _ [some (.ref (0 + 3)), some (.int x1), some (.int x2), some (.int x3), some (.ref ((zy_sh (x1).toNatClampNeg) + 3)), none] [] _ _ from ?_)) (fun b10 => (show zyR _ _ _ _ [some (.ref (0 + 3)), some (.int x1), some (.int x2), some (.int x3), some (.ref ((zy_sh (x1).toNatClampNeg) + 3)), none] [] _ _ from ?_))
        · replace h := zy_ifp h b10
          refine zy_0 rfl rfl (show zyR _ _ _ _ [some (.ref (0 + 3)), some (.int x1), some (.int x2), some (.int x3), some (.ref ((zy_sh (x1).toNatClampNeg) + 3)), none] [.ref ((zy_sh (x1).toNatClampNeg) + 3)] _ _ from ?_)
          refine zy_3 rfl rfl (show zyR _ _ _ _ [some (.ref (0 + 3)), some (.int x1), some (.int x2), some (.int x3), some (.ref ((zy_sh (x1).toNatClampNeg) + 3)), none] [.int (1 : Int32), .ref ((zy_sh (x1).toNatClampNeg) + 3)] _ _ from ?_)
          obtain ⟨p8, hp8, h⟩ := zy_bind h
          refine zy_5 (c := (zy_sh (x1).toNatClampNeg)) (as := [.int (1 : Int32)]) (rest := []) (L := [some (.ref ((zy_sh (x1).toNatClampNeg) + 3)), some (.int (1 : Int32))]) (d' := 2) rfl rfl (zy_isSh_of (zy_in_lt c5)).1 (Nat.le_of_ble_eq_true rfl) (Nat.le_of_ble_eq_true rfl) rfl (Nat.le_of_ble_eq_true rfl) rfl rfl (zyC21 (zy_isSh_of (zy_in_lt c5)) hp8) ?_
          show zyR _ _ _ _ [some (.ref (0 + 3)), some (.int x1), some (.int x2), some (.int x3), some (.ref ((zy_sh (x1).toNatClampNeg) + 3)), none] [.int p8.1] _ _
          refine zy_24_1 rfl (fun b9 => (show zyR _ _ _ _ [some (.ref (0 + 3)), some (.int x1), some (.int x2), some (.int x3), some (.ref ((zy_sh (x1).toNatClampNeg) + 3)), none] [] _ _ from ?_)) (fun b9 => (show zyR _ _ _ _ [some (.ref (0 + 3)), some (.int x1), some (.int x2), some (.int x3), some (.ref ((zy_sh (x1).toNatClampNeg) + 3)), none] [] _ _ from ?_))
          · replace h := zy_ifp h b9
            refine zy_3 rfl rfl (show zyR _ _ _ _ [some (.ref (0 + 3)), some (.int x1), some (.int x2), some (.int x3), some (.ref ((zy_sh (x1).toNatClampNeg) + 3)), none] [.int (0 : Int32)] _ _ from ?_)
            refine zy_23 rfl rfl (show zyR _ _ _ _ [some (.ref (0 + 3)), some (.int x1), some (.int x2), some (.int x3), some (.ref ((zy_sh (x1).toNatClampNeg) + 3)), some (.int (0 : Int32))] [] _ _ from ?_)
            exact zy_sub (show zy_le [some (.ref (0 + 3)), none, some (.int x2), some (.int x3), some (.ref ((zy_sh (x1).toNatClampNeg) + 3)), some (.int (0 : Int32))] [some (.ref (0 + 3)), some (.int x1), some (.int x2), some (.int x3), some (.ref ((zy_sh (x1).toNatClampNeg) + 3)), some (.int (0 : Int32))] from ⟨rfl, ⟨rfl, ⟨rfl, ⟨rfl, ⟨rfl, trivial⟩⟩⟩⟩⟩) (zyC17_53 zy_fu x2 x3 (zy_sh (x1).toNatClampNeg) (0 : Int32) p8.2 _ _ (zy_isSh_of (zy_in_lt c5)) h)
          · replace h := zy_ifn h b9
            refine zy_3 rfl rfl (show zyR _ _ _ _ [some (.ref (0 + 3)), some (.int x1), some (.int x2), some (.int x3), some (.ref ((zy_sh (x1).toNatClampNeg) + 3)), none] [.int (-12 : Int32)] _ _ from ?_)
            obtain ⟨rfl, rfl⟩ := zy_pi h
            exact zy_4 rfl ⟨rfl, rfl⟩
        · replace h := zy_ifn h b10
          refine zy_3 rfl rfl (show zyR _ _ _ _ [some (.ref (0 + 3)), some (.int x1), some (.int x2), some (.int x3), some (.ref ((zy_sh (x1).toNatClampNeg) + 3)), none] [.int (0 : Int32)] _ _ from ?_)
          obtain ⟨rfl, rfl⟩ := zy_pi h
          exact zy_4 rfl ⟨rfl, rfl⟩
      · replace h := zy_ifn h b11
        refine zy_3 rfl rfl (show zyR _ _ _ _ [some (.ref (0 + 3)), some (.int x1), some (.int x2), some (.int x3), none, none] [.int (-1 : Int32)] _ _ from ?_)
        obtain ⟨rfl, rfl⟩ := zy_pi h
        exact zy_4 rfl ⟨rfl, rfl⟩
end
section
/-! PART 41.01: methods as functions. Made by wip/v4/dcp.py. -/
/-! NineOpinions.isLine(I)Z -/
noncomputable def zyF26   (x0 : Int32) (s : zy_S) : Option (Int32 × zy_S) :=
if x0 < 0 then
some ((0 : Int32), s)
else
if (24 : Int32) ≤ x0 then
some ((0 : Int32), s)
else
some ((1 : Int32), s)
theorem zyC26 {X : zx_X}     {x0 : Int32} {s : zy_S} {r : Int32} {s' : zy_S}  (h : zyF26 x0 s = some (r, s')) : zyR X 1 26 0 [some (.int x0)] [] s (zyE (some (.int r)) s') := by
  unfold zyF26 at h
  refine zy_2 rfl rfl (show zyR _ _ _ _ [some (.int x0)] [.int x0] _ _ from ?_)
  refine zy_24_2 rfl (fun b2 => (show zyR _ _ _ _ [some (.int x0)] [] _ _ from ?_)) (fun b2 => (show zyR _ _ _ _ [some (.int x0)] [] _ _ from ?_))
  · replace h := zy_ifp h b2
    refine zy_3 rfl rfl (show zyR _ _ _ _ [some (.int x0)] [.int (0 : Int32)] _ _ from ?_)
    cases h
    exact zy_4b rfl ⟨rfl, rfl⟩ (Or.inl rfl)
  · replace h := zy_ifn h b2
    refine zy_2 rfl rfl (show zyR _ _ _ _ [some (.int x0)] [.int x0] _ _ from ?_)
    refine zy_3 rfl rfl (show zyR _ _ _ _ [some (.int x0)] [.int (24 : Int32), .int x0] _ _ from ?_)
    refine zy_25_3 rfl (fun b1 => (show zyR _ _ _ _ [some (.int x0)] [] _ _ from ?_)) (fun b1 => (show zyR _ _ _ _ [some (.int x0)] [] _ _ from ?_))
    · replace h := zy_ifp h b1
      refine zy_3 rfl rfl (show zyR _ _ _ _ [some (.int x0)] [.int (0 : Int32)] _ _ from ?_)
      cases h
      exact zy_4b rfl ⟨rfl, rfl⟩ (Or.inl rfl)
    · replace h := zy_ifn h b1
      refine zy_3 rfl rfl (show zyR _ _ _ _ [some (.int x0)] [.int (1 : Int32)] _ _ from ?_)
      refine zy_6 rfl (show zyR _ _ _ _ [some (.int x0)] [.int (1 : Int32)] _ _ from ?_)
      cases h
      exact zy_4b rfl ⟨rfl, rfl⟩ (Or.inr rfl)
/-! NineOpinions$Town.has(II)Z -/
noncomputable def zyF25_32   (x2 : Int32) (s : zy_S) : Option (Int32 × zy_S) :=
if x2 < 0 then
some ((0 : Int32), s)
else
if (s.1 1 5) ≤ x2 then
some ((0 : Int32), s)
else
some ((1 : Int32), s)
theorem zyC25_32 {X : zx_X}     {x2 : Int32} {s : zy_S} {r : Int32} {s' : zy_S}  (h : zyF25_32 x2 s = some (r, s')) : zyR X 2 25 32 [some (.ref (1 + 3)), none, some (.int x2)] [] s (zyE (some (.int r)) s') := by
  unfold zyF25_32 at h
  refine zy_2 rfl rfl (show zyR _ _ _ _ [some (.ref (1 + 3)), none, some (.int x2)] [.int x2] _ _ from ?_)
  refine zy_24_2 rfl (fun b2 => (show zyR _ _ _ _ [some (.ref (1 + 3)), none, some (.int x2)] [] _ _ from ?_)) (fun b2 => (show zyR _ _ _ _ [some (.ref (1 + 3)), none, some (.int x2)] [] _ _ from ?_))
  · replace h := zy_ifp h b2
    refine zy_3 rfl rfl (show zyR _ _ _ _ [some (.ref (1 + 3)), none, some (.int x2)] [.int (0 : Int32)] _ _ from ?_)
    cases h
    exact zy_4b rfl ⟨rfl, rfl⟩ (Or.inl rfl)
  · replace h := zy_ifn h b2
    refine zy_2 rfl rfl (show zyR _ _ _ _ [some (.ref (1 + 3)), none, some (.int x2)] [.int x2] _ _ from ?_)
    refine zy_0 rfl rfl (show zyR _ _ _ _ [some (.ref (1 + 3)), none, some (.int x2)] [.ref (1 + 3), .int x2] _ _ from ?_)
    refine zy_1 (c := 1) rfl rfl rfl (show zyR _ _ _ _ [some (.ref (1 + 3)), none, some (.int x2)] [.int (s.1 1 5), .int x2] _ _ from ?_)
    refine zy_25_3 rfl (fun b1 => (show zyR _ _ _ _ [some (.ref (1 + 3)), none, some (.int x2)] [] _ _ from ?_)) (fun b1 => (show zyR _ _ _ _ [some (.ref (1 + 3)), none, some (.int x2)] [] _ _ from ?_))
    · replace h := zy_ifp h b1
      refine zy_3 rfl rfl (show zyR _ _ _ _ [some (.ref (1 + 3)), none, some (.int x2)] [.int (0 : Int32)] _ _ from ?_)
      cases h
      exact zy_4b rfl ⟨rfl, rfl⟩ (Or.inl rfl)
    · replace h := zy_ifn h b1
      refine zy_3 rfl rfl (show zyR _ _ _ _ [some (.ref (1 + 3)), none, some (.int x2)] [.int (1 : Int32)] _ _ from ?_)
      refine zy_6 rfl (show zyR _ _ _ _ [some (.ref (1 + 3)), none, some (.int x2)] [.int (1 : Int32)] _ _ from ?_)
      cases h
      exact zy_4b rfl ⟨rfl, rfl⟩ (Or.inr rfl)
noncomputable def zyF25   (x1 : Int32) (x2 : Int32) (s : zy_S) : Option (Int32 × zy_S) :=
if x1 = (0 : Int32) then
zyF25_32 x2 s
else
if x1 = (1 : Int32) then
zyF25_32 x2 s
else
if x1 = (2 : Int32) then
(zyF26 x2 s).bind fun p5 =>
if p5.1 = 0 ∨ p5.1 = 1 then
some (p5.1, p5.2)
else none
else
if x1 = (3 : Int32) then
if x2 ≠ 0 then
some ((0 : Int32), s)
else
some ((1 : Int32), s)
else
some ((0 : Int32), s)
theorem zyC25 {X : zx_X}     {x1 : Int32} {x2 : Int32} {s : zy_S} {r : Int32} {s' : zy_S}  (h : zyF25 x1 x2 s = some (r, s')) : zyR X 2 25 0 [some (.ref (1 + 3)), some (.int x1), some (.int x2)] [] s (zyE (some (.int r)) s') := by
  unfold zyF25 at h
  refine zy_2 rfl rfl (show zyR _ _ _ _ [some (.ref (1 + 3)), some (.int x1), some (.int x2)] [.int x1] _ _ from ?_)
  refine zy_50 rfl (by decide) ?_
  refine zy_swp (fun b3 => (show zyR _ _ _ _ [some (.ref (1 + 3)), some (.int x1), some (.int x2)] [] _ _ from ?_)) (fun b3 => ?_)
  · replace h := zy_ifp h b3
    exact zy_sub (show zy_le [some (.ref (1 + 3)), none, some (.int x2)] [some (.ref (1 + 3)), some (.int x1), some (.int x2)] from ⟨rfl, ⟨rfl, trivial⟩⟩) (zyC25_32 h)
  replace h := zy_ifn h b3
  refine zy_swp (fun b4 => (show zyR _ _ _ _ [some (.ref (1 + 3)), some (.int x1), some (.int x2)] [] _ _ from ?_)) (fun b4 => ?_)
  · replace h := zy_ifp h b4
    exact zy_sub (show zy_le [some (.ref (1 + 3)), none, some (.int x2)] [some (.ref (1 + 3)), some (.int x1), some (.int x2)] from ⟨rfl, ⟨rfl, trivial⟩⟩) (zyC25_32 h)
  replace h := zy_ifn h b4
  refine zy_swp (fun b7 => (show zyR _ _ _ _ [some (.ref (1 + 3)), some (.int x1), some (.int x2)] [] _ _ from ?_)) (fun b7 => ?_)
  · replace h := zy_ifp h b7
    refine zy_2 rfl rfl (show zyR _ _ _ _ [some (.ref (1 + 3)), some (.int x1), some (.int x2)] [.int x2] _ _ from ?_)
    obtain ⟨p5, hp5, h⟩ := zy_bind h
    refine zy_61 (as := [.int x2]) (rest := []) (L := [some (.int x2)]) (d' := 1) rfl rfl (Nat.le_of_ble_eq_true rfl) (Nat.le_of_ble_eq_true rfl) rfl (Nat.le_of_ble_eq_true rfl) rfl rfl (zyC26 hp5) ?_
    show zyR _ _ _ _ [some (.ref (1 + 3)), some (.int x1), some (.int x2)] [.int p5.1] _ _
    obtain ⟨c6, h⟩ := zy_if h
    cases h
    exact zy_4b rfl ⟨rfl, rfl⟩ c6
  replace h := zy_ifn h b7
  refine zy_swp (fun b9 => (show zyR _ _ _ _ [some (.ref (1 + 3)), some (.int x1), some (.int x2)] [] _ _ from ?_)) (fun b9 => ?_)
  · replace h := zy_ifp h b9
    refine zy_2 rfl rfl (show zyR _ _ _ _ [some (.ref (1 + 3)), some (.int x1), some (.int x2)] [.int x2] _ _ from ?_)
    refine zy_24_1 rfl (fun b8 => (show zyR _ _ _ _ [some (.ref (1 + 3)), some (.int x1), some (.int x2)] [] _ _ from ?_)) (fun b8 => (show zyR _ _ _ _ [some (.ref (1 + 3)), some (.int x1), some (.int x2)] [] _ _ from ?_))
    · replace h := zy_ifp h b8
      refine zy_3 rfl rfl (show zyR _ _ _ _ [some (.ref (1 + 3)), some (.int x1), some (.int x2)] [.int (0 : Int32)] _ _ from ?_)
      cases h
      exact zy_4b rfl ⟨rfl, rfl⟩ (Or.inl rfl)
    · replace h := zy_ifn h b8
      refine zy_3 rfl rfl (show zyR _ _ _ _ [some (.ref (1 + 3)), some (.int x1), some (.int x2)] [.int (1 : Int32)] _ _ from ?_)
      refine zy_6 rfl (show zyR _ _ _ _ [some (.ref (1 + 3)), some (.int x1), some (.int x2)] [.int (1 : Int32)] _ _ from ?_)
      cases h
      exact zy_4b rfl ⟨rfl, rfl⟩ (Or.inr rfl)
  replace h := zy_ifn h b9
  show zyR _ _ _ _ [some (.ref (1 + 3)), some (.int x1), some (.int x2)] [] _ _
  refine zy_3 rfl rfl (show zyR _ _ _ _ [some (.ref (1 + 3)), some (.int x1), some (.int x2)] [.int (0 : Int32)] _ _ from ?_)
  cases h
  exact zy_4b rfl ⟨rfl, rfl⟩ (Or.inl rfl)
/-! NineOpinions$Town.told(II)I -/
noncomputable def zyF27   (x1 : Int32) (x2 : Int32) (s : zy_S) : Option (Int32 × zy_S) :=
if x1 = (0 : Int32) then
if zy_in x2 8 then
some ((s.1 3 (x2).toNatClampNeg), s)
else none
else
if x1 = (1 : Int32) then
if zy_in x2 8 then
some ((s.1 4 (x2).toNatClampNeg), s)
else none
else
if x1 = (2 : Int32) then
if zy_in x2 24 then
some ((s.1 2 (x2).toNatClampNeg), s)
else none
else
some ((s.1 1 4), s)
theorem zyC27 {X : zx_X}     {x1 : Int32} {x2 : Int32} {s : zy_S} {r : Int32} {s' : zy_S}  (h : zyF27 x1 x2 s = some (r, s')) : zyR X 1 27 0 [some (.ref (1 + 3)), some (.int x1), some (.int x2)] [] s (zyE (some (.int r)) s') := by
  unfold zyF27 at h
  refine zy_2 rfl rfl (show zyR _ _ _ _ [some (.ref (1 + 3)), some (.int x1), some (.int x2)] [.int x1] _ _ from ?_)
  refine zy_50 rfl (by decide) ?_
  refine zy_swp (fun b2 => (show zyR _ _ _ _ [some (.ref (1 + 3)), some (.int x1), some (.int x2)] [] _ _ from ?_)) (fun b2 => ?_)
  · replace h := zy_ifp h b2
    refine zy_0 rfl rfl (show zyR _ _ _ _ [some (.ref (1 + 3)), some (.int x1), some (.int x2)] [.ref (1 + 3)] _ _ from ?_)
    refine zy_1r (c := 1) rfl rfl rfl (show zyR _ _ _ _ [some (.ref (1 + 3)), some (.int x1), some (.int x2)] [.ref (3 + 3)] _ _ from ?_)
    refine zy_2 rfl rfl (show zyR _ _ _ _ [some (.ref (1 + 3)), some (.int x1), some (.int x2)] [.int x2, .ref (3 + 3)] _ _ from ?_)
    obtain ⟨c1, h⟩ := zy_if h
    refine zy_26 (c := 3) rfl rfl c1 (show zyR _ _ _ _ [some (.ref (1 + 3)), some (.int x1), some (.int x2)] [.int (s.1 3 (x2).toNatClampNeg)] _ _ from ?_)
    obtain ⟨rfl, rfl⟩ := zy_pi h
    exact zy_4 rfl ⟨rfl, rfl⟩
  replace h := zy_ifn h b2
  refine zy_swp (fun b4 => (show zyR _ _ _ _ [some (.ref (1 + 3)), some (.int x1), some (.int x2)] [] _ _ from ?_)) (fun b4 => ?_)
  · replace h := zy_ifp h b4
    refine zy_0 rfl rfl (show zyR _ _ _ _ [some (.ref (1 + 3)), some (.int x1), some (.int x2)] [.ref (1 + 3)] _ _ from ?_)
    refine zy_1r (c := 1) rfl rfl rfl (show zyR _ _ _ _ [some (.ref (1 + 3)), some (.int x1), some (.int x2)] [.ref (4 + 3)] _ _ from ?_)
    refine zy_2 rfl rfl (show zyR _ _ _ _ [some (.ref (1 + 3)), some (.int x1), some (.int x2)] [.int x2, .ref (4 + 3)] _ _ from ?_)
    obtain ⟨c3, h⟩ := zy_if h
    refine zy_26 (c := 4) rfl rfl c3 (show zyR _ _ _ _ [some (.ref (1 + 3)), some (.int x1), some (.int x2)] [.int (s.1 4 (x2).toNatClampNeg)] _ _ from ?_)
    obtain ⟨rfl, rfl⟩ := zy_pi h
    exact zy_4 rfl ⟨rfl, rfl⟩
  replace h := zy_ifn h b4
  refine zy_swp (fun b6 => (show zyR _ _ _ _ [some (.ref (1 + 3)), some (.int x1), some (.int x2)] [] _ _ from ?_)) (fun b6 => ?_)
  · replace h := zy_ifp h b6
    refine zy_0 rfl rfl (show zyR _ _ _ _ [some (.ref (1 + 3)), some (.int x1), some (.int x2)] [.ref (1 + 3)] _ _ from ?_)
    refine zy_1r (c := 1) rfl rfl rfl (show zyR _ _ _ _ [some (.ref (1 + 3)), some (.int x1), some (.int x2)] [.ref (2 + 3)] _ _ from ?_)
    refine zy_2 rfl rfl (show zyR _ _ _ _ [some (.ref (1 + 3)), some (.int x1), some (.int x2)] [.int x2, .ref (2 + 3)] _ _ from ?_)
    obtain ⟨c5, h⟩ := zy_if h
    refine zy_26 (c := 2) rfl rfl c5 (show zyR _ _ _ _ [some (.ref (1 + 3)), some (.int x1), some (.int x2)] [.int (s.1 2 (x2).toNatClampNeg)] _ _ from ?_)
    obtain ⟨rfl, rfl⟩ := zy_pi h
    exact zy_4 rfl ⟨rfl, rfl⟩
  replace h := zy_ifn h b6
  show zyR _ _ _ _ [some (.ref (1 + 3)), some (.int x1), some (.int x2)] [] _ _
  refine zy_0 rfl rfl (show zyR _ _ _ _ [some (.ref (1 + 3)), some (.int x1), some (.int x2)] [.ref (1 + 3)] _ _ from ?_)
  refine zy_1 (c := 1) rfl rfl rfl (show zyR _ _ _ _ [some (.ref (1 + 3)), some (.int x1), some (.int x2)] [.int (s.1 1 4)] _ _ from ?_)
  obtain ⟨rfl, rfl⟩ := zy_pi h
  exact zy_4 rfl ⟨rfl, rfl⟩
/-! NineOpinions$Town.tell(III)V -/
noncomputable def zyF28   (x1 : Int32) (x2 : Int32) (x3 : Int32) (s : zy_S) : Option (Int32 × zy_S) :=
if x1 = (0 : Int32) then
if zy_in x2 8 then
some ((0 : Int32), (zy_up s 3 (x2).toNatClampNeg x3))
else none
else
if x1 = (1 : Int32) then
if zy_in x2 8 then
some ((0 : Int32), (zy_up s 4 (x2).toNatClampNeg x3))
else none
else
if x1 = (2 : Int32) then
if zy_in x2 24 then
some ((0 : Int32), (zy_up s 2 (x2).toNatClampNeg x3))
else none
else
some ((0 : Int32), (zy_up s 1 4 x3))
theorem zyC28 {X : zx_X}     {x1 : Int32} {x2 : Int32} {x3 : Int32} {s : zy_S} {r : Int32} {s' : zy_S}  (h : zyF28 x1 x2 x3 s = some (r, s')) : zyR X 1 28 0 [some (.ref (1 + 3)), some (.int x1), some (.int x2), some (.int x3)] [] s (zyE none s') := by
  unfold zyF28 at h
  refine zy_2 rfl rfl (show zyR _ _ _ _ [some (.ref (1 + 3)), some (.int x1), some (.int x2), some (.int x3)] [.int x1] _ _ from ?_)
  refine zy_50 rfl (by decide) ?_
  refine zy_swp (fun b2 => (show zyR _ _ _ _ [some (.ref (1 + 3)), some (.int x1), some (.int x2), some (.int x3)] [] _ _ from ?_)) (fun b2 => ?_)
  · replace h := zy_ifp h b2
    refine zy_0 rfl rfl (show zyR _ _ _ _ [some (.ref (1 + 3)), some (.int x1), some (.int x2), some (.int x3)] [.ref (1 + 3)] _ _ from ?_)
    refine zy_1r (c := 1) rfl rfl rfl (show zyR _ _ _ _ [some (.ref (1 + 3)), some (.int x1), some (.int x2), some (.int x3)] [.ref (3 + 3)] _ _ from ?_)
    refine zy_2 rfl rfl (show zyR _ _ _ _ [some (.ref (1 + 3)), some (.int x1), some (.int x2), some (.int x3)] [.int x2, .ref (3 + 3)] _ _ from ?_)
    refine zy_2 rfl rfl (show zyR _ _ _ _ [some (.ref (1 + 3)), some (.int x1), some (.int x2), some (.int x3)] [.int x3, .int x2, .ref (3 + 3)] _ _ from ?_)
    obtain ⟨c1, h⟩ := zy_if h
    refine zy_27 (c := 3) rfl rfl c1 (show zyR _ _ _ _ [some (.ref (1 + 3)), some (.int x1), some (.int x2), some (.int x3)] [] _ _ from ?_)
    refine zy_6 rfl (show zyR _ _ _ _ [some (.ref (1 + 3)), some (.int x1), some (.int x2), some (.int x3)] [] _ _ from ?_)
    cases h
    exact zy_66 rfl ⟨rfl, rfl⟩
  replace h := zy_ifn h b2
  refine zy_swp (fun b4 => (show zyR _ _ _ _ [some (.ref (1 + 3)), some (.int x1), some (.int x2), some (.int x3)] [] _ _ from ?_)) (fun b4 => ?_)
  · replace h := zy_ifp h b4
    refine zy_0 rfl rfl (show zyR _ _ _ _ [some (.ref (1 + 3)), some (.int x1), some (.int x2), some (.int x3)] [.ref (1 + 3)] _ _ from ?_)
    refine zy_1r (c := 1) rfl rfl rfl (show zyR _ _ _ _ [some (.ref (1 + 3)), some (.int x1), some (.int x2), some (.int x3)] [.ref (4 + 3)] _ _ from ?_)
    refine zy_2 rfl rfl (show zyR _ _ _ _ [some (.ref (1 + 3)), some (.int x1), some (.int x2), some (.int x3)] [.int x2, .ref (4 + 3)] _ _ from ?_)
    refine zy_2 rfl rfl (show zyR _ _ _ _ [some (.ref (1 + 3)), some (.int x1), some (.int x2), some (.int x3)] [.int x3, .int x2, .ref (4 + 3)] _ _ from ?_)
    obtain ⟨c3, h⟩ := zy_if h
    refine zy_27 (c := 4) rfl rfl c3 (show zyR _ _ _ _ [some (.ref (1 + 3)), some (.int x1), some (.int x2), some (.int x3)] [] _ _ from ?_)
    refine zy_6 rfl (show zyR _ _ _ _ [some (.ref (1 + 3)), some (.int x1), some (.int x2), some (.int x3)] [] _ _ from ?_)
    cases h
    exact zy_66 rfl ⟨rfl, rfl⟩
  replace h := zy_ifn h b4
  refine zy_swp (fun b6 => (show zyR _ _ _ _ [some (.ref (1 + 3)), some (.int x1), some (.int x2), some (.int x3)] [] _ _ from ?_)) (fun b6 => ?_)
  · replace h := zy_ifp h b6
    refine zy_0 rfl rfl (show zyR _ _ _ _ [some (.ref (1 + 3)), some (.int x1), some (.int x2), some (.int x3)] [.ref (1 + 3)] _ _ from ?_)
    refine zy_1r (c := 1) rfl rfl rfl (show zyR _ _ _ _ [some (.ref (1 + 3)), some (.int x1), some (.int x2), some (.int x3)] [.ref (2 + 3)] _ _ from ?_)
    refine zy_2 rfl rfl (show zyR _ _ _ _ [some (.ref (1 + 3)), some (.int x1), some (.int x2), some (.int x3)] [.int x2, .ref (2 + 3)] _ _ from ?_)
    refine zy_2 rfl rfl (show zyR _ _ _ _ [some (.ref (1 + 3)), some (.int x1), some (.int x2), some (.int x3)] [.int x3, .int x2, .ref (2 + 3)] _ _ from ?_)
    obtain ⟨c5, h⟩ := zy_if h
    refine zy_27 (c := 2) rfl rfl c5 (show zyR _ _ _ _ [some (.ref (1 + 3)), some (.int x1), some (.int x2), some (.int x3)] [] _ _ from ?_)
    refine zy_6 rfl (show zyR _ _ _ _ [some (.ref (1 + 3)), some (.int x1), some (.int x2), some (.int x3)] [] _ _ from ?_)
    cases h
    exact zy_66 rfl ⟨rfl, rfl⟩
  replace h := zy_ifn h b6
  show zyR _ _ _ _ [some (.ref (1 + 3)), some (.int x1), some (.int x2), some (.int x3)] [] _ _
  refine zy_0 rfl rfl (show zyR _ _ _ _ [some (.ref (1 + 3)), some (.int x1), some (.int x2), some (.int x3)] [.ref (1 + 3)] _ _ from ?_)
  refine zy_2 rfl rfl (show zyR _ _ _ _ [some (.ref (1 + 3)), some (.int x1), some (.int x2), some (.int x3)] [.int x3, .ref (1 + 3)] _ _ from ?_)
  refine zy_52 (c := 1) rfl rfl rfl (show zyR _ _ _ _ [some (.ref (1 + 3)), some (.int x1), some (.int x2), some (.int x3)] [] _ _ from ?_)
  cases h
  exact zy_66 rfl ⟨rfl, rfl⟩
/-! NineOpinions$Changes.forgetOldest()V -/
noncomputable def zyF30    (s : zy_S) : Option (Int32 × zy_S) :=
some ((0 : Int32), (zy_up (zy_ua (zy_ua (zy_ua (zy_ua s 23 (va_cpy (s.1 23) (s.1 23) 1 0 39)) 24 (va_cpy (s.1 24) (s.1 24) 1 0 39)) 25 (va_cpy (s.1 25) (s.1 25) 1 0 39)) 26 (va_cpy (s.1 26) (s.1 26) 1 0 39)) 22 5 (39 : Int32)))
theorem zyC30 {X : zx_X}      {s : zy_S} {r : Int32} {s' : zy_S}  (h : zyF30 s = some (r, s')) : zyR X 1 30 0 [some (.ref (22 + 3))] [] s (zyE none s') := by
  unfold zyF30 at h
  refine zy_0 rfl rfl (show zyR _ _ _ _ [some (.ref (22 + 3))] [.ref (22 + 3)] _ _ from ?_)
  refine zy_1r (c := 22) rfl rfl rfl (show zyR _ _ _ _ [some (.ref (22 + 3))] [.ref (23 + 3)] _ _ from ?_)
  refine zy_3 rfl rfl (show zyR _ _ _ _ [some (.ref (22 + 3))] [.int (1 : Int32), .ref (23 + 3)] _ _ from ?_)
  refine zy_0 rfl rfl (show zyR _ _ _ _ [some (.ref (22 + 3))] [.ref (22 + 3), .int (1 : Int32), .ref (23 + 3)] _ _ from ?_)
  refine zy_1r (c := 22) rfl rfl rfl (show zyR _ _ _ _ [some (.ref (22 + 3))] [.ref (23 + 3), .int (1 : Int32), .ref (23 + 3)] _ _ from ?_)
  refine zy_3 rfl rfl (show zyR _ _ _ _ [some (.ref (22 + 3))] [.int (0 : Int32), .ref (23 + 3), .int (1 : Int32), .ref (23 + 3)] _ _ from ?_)
  refine zy_3 rfl rfl (show zyR _ _ _ _ [some (.ref (22 + 3))] [.int (39 : Int32), .int (0 : Int32), .ref (23 + 3), .int (1 : Int32), .ref (23 + 3)] _ _ from ?_)
  refine zy_64 (c0 := 23) (c1 := 23) rfl rfl rfl (by decide) (Nat.le_of_ble_eq_true rfl) (Nat.le_of_ble_eq_true rfl) (show zyR _ _ _ _ [some (.ref (22 + 3))] [] _ _ from ?_)
  refine zy_0 rfl rfl (show zyR _ _ _ _ [some (.ref (22 + 3))] [.ref (22 + 3)] _ _ from ?_)
  refine zy_1r (c := 22) rfl rfl rfl (show zyR _ _ _ _ [some (.ref (22 + 3))] [.ref (24 + 3)] _ _ from ?_)
  refine zy_3 rfl rfl (show zyR _ _ _ _ [some (.ref (22 + 3))] [.int (1 : Int32), .ref (24 + 3)] _ _ from ?_)
  refine zy_0 rfl rfl (show zyR _ _ _ _ [some (.ref (22 + 3))] [.ref (22 + 3), .int (1 : Int32), .ref (24 + 3)] _ _ from ?_)
  refine zy_1r (c := 22) rfl rfl rfl (show zyR _ _ _ _ [some (.ref (22 + 3))] [.ref (24 + 3), .int (1 : Int32), .ref (24 + 3)] _ _ from ?_)
  refine zy_3 rfl rfl (show zyR _ _ _ _ [some (.ref (22 + 3))] [.int (0 : Int32), .ref (24 + 3), .int (1 : Int32), .ref (24 + 3)] _ _ from ?_)
  refine zy_3 rfl rfl (show zyR _ _ _ _ [some (.ref (22 + 3))] [.int (39 : Int32), .int (0 : Int32), .ref (24 + 3), .int (1 : Int32), .ref (24 + 3)] _ _ from ?_)
  refine zy_64 (c0 := 24) (c1 := 24) rfl rfl rfl (by decide) (Nat.le_of_ble_eq_true rfl) (Nat.le_of_ble_eq_true rfl) (show zyR _ _ _ _ [some (.ref (22 + 3))] [] _ _ from ?_)
  refine zy_0 rfl rfl (show zyR _ _ _ _ [some (.ref (22 + 3))] [.ref (22 + 3)] _ _ from ?_)
  refine zy_1r (c := 22) rfl rfl rfl (show zyR _ _ _ _ [some (.ref (22 + 3))] [.ref (25 + 3)] _ _ from ?_)
  refine zy_3 rfl rfl (show zyR _ _ _ _ [some (.ref (22 + 3))] [.int (1 : Int32), .ref (25 + 3)] _ _ from ?_)
  refine zy_0 rfl rfl (show zyR _ _ _ _ [some (.ref (22 + 3))] [.ref (22 + 3), .int (1 : Int32), .ref (25 + 3)] _ _ from ?_)
  refine zy_1r (c := 22) rfl rfl rfl (show zyR _ _ _ _ [some (.ref (22 + 3))] [.ref (25 + 3), .int (1 : Int32), .ref (25 + 3)] _ _ from ?_)
  refine zy_3 rfl rfl (show zyR _ _ _ _ [some (.ref (22 + 3))] [.int (0 : Int32), .ref (25 + 3), .int (1 : Int32), .ref (25 + 3)] _ _ from ?_)
  refine zy_3 rfl rfl (show zyR _ _ _ _ [some (.ref (22 + 3))] [.int (39 : Int32), .int (0 : Int32), .ref (25 + 3), .int (1 : Int32), .ref (25 + 3)] _ _ from ?_)
  refine zy_64 (c0 := 25) (c1 := 25) rfl rfl rfl (by decide) (Nat.le_of_ble_eq_true rfl) (Nat.le_of_ble_eq_true rfl) (show zyR _ _ _ _ [some (.ref (22 + 3))] [] _ _ from ?_)
  refine zy_0 rfl rfl (show zyR _ _ _ _ [some (.ref (22 + 3))] [.ref (22 + 3)] _ _ from ?_)
  refine zy_1r (c := 22) rfl rfl rfl (show zyR _ _ _ _ [some (.ref (22 + 3))] [.ref (26 + 3)] _ _ from ?_)
  refine zy_3 rfl rfl (show zyR _ _ _ _ [some (.ref (22 + 3))] [.int (1 : Int32), .ref (26 + 3)] _ _ from ?_)
  refine zy_0 rfl rfl (show zyR _ _ _ _ [some (.ref (22 + 3))] [.ref (22 + 3), .int (1 : Int32), .ref (26 + 3)] _ _ from ?_)
  refine zy_1r (c := 22) rfl rfl rfl (show zyR _ _ _ _ [some (.ref (22 + 3))] [.ref (26 + 3), .int (1 : Int32), .ref (26 + 3)] _ _ from ?_)
  refine zy_3 rfl rfl (show zyR _ _ _ _ [some (.ref (22 + 3))] [.int (0 : Int32), .ref (26 + 3), .int (1 : Int32), .ref (26 + 3)] _ _ from ?_)
  refine zy_3 rfl rfl (show zyR _ _ _ _ [some (.ref (22 + 3))] [.int (39 : Int32), .int (0 : Int32), .ref (26 + 3), .int (1 : Int32), .ref (26 + 3)] _ _ from ?_)
  refine zy_64 (c0 := 26) (c1 := 26) rfl rfl rfl (by decide) (Nat.le_of_ble_eq_true rfl) (Nat.le_of_ble_eq_true rfl) (show zyR _ _ _ _ [some (.ref (22 + 3))] [] _ _ from ?_)
  refine zy_0 rfl rfl (show zyR _ _ _ _ [some (.ref (22 + 3))] [.ref (22 + 3)] _ _ from ?_)
  refine zy_3 rfl rfl (show zyR _ _ _ _ [some (.ref (22 + 3))] [.int (39 : Int32), .ref (22 + 3)] _ _ from ?_)
  refine zy_52 (c := 22) rfl rfl rfl (show zyR _ _ _ _ [some (.ref (22 + 3))] [] _ _ from ?_)
  cases h
  exact zy_66 rfl ⟨rfl, rfl⟩
/-! NineOpinions$Changes.remember(IIII)V -/
noncomputable def zyF29_13   (x1 : Int32) (x2 : Int32) (x3 : Int32) (x4 : Int32) (s : zy_S) : Option (Int32 × zy_S) :=
if zy_in (s.1 22 5) 40 then
if zy_in (s.1 22 5) 40 then
if zy_in (s.1 22 5) 40 then
if zy_in (s.1 22 5) 40 then
some ((0 : Int32), (zy_up (zy_up (zy_up (zy_up (zy_up (zy_up s 23 ((s.1 22 5)).toNatClampNeg x1) 24 ((s.1 22 5)).toNatClampNeg x2) 25 ((s.1 22 5)).toNatClampNeg x3) 26 ((s.1 22 5)).toNatClampNeg x4) 22 5 ((s.1 22 5) + (1 : Int32))) 22 6 ((s.1 22 5) + (1 : Int32))))
else none
else none
else none
else none
theorem zyC29_13 {X : zx_X}     {x1 : Int32} {x2 : Int32} {x3 : Int32} {x4 : Int32} {s : zy_S} {r : Int32} {s' : zy_S}  (h : zyF29_13 x1 x2 x3 x4 s = some (r, s')) : zyR X 2 29 13 [some (.ref (22 + 3)), some (.int x1), some (.int x2), some (.int x3), some (.int x4)] [] s (zyE none s') := by
  unfold zyF29_13 at h
  refine zy_0 rfl rfl (show zyR _ _ _ _ [some (.ref (22 + 3)), some (.int x1), some (.int x2), some (.int x3), some (.int x4)] [.ref (22 + 3)] _ _ from ?_)
  refine zy_1r (c := 22) rfl rfl rfl (show zyR _ _ _ _ [some (.ref (22 + 3)), some (.int x1), some (.int x2), some (.int x3), some (.int x4)] [.ref (23 + 3)] _ _ from ?_)
  refine zy_0 rfl rfl (show zyR _ _ _ _ [some (.ref (22 + 3)), some (.int x1), some (.int x2), some (.int x3), some (.int x4)] [.ref (22 + 3), .ref (23 + 3)] _ _ from ?_)
  refine zy_1 (c := 22) rfl rfl rfl (show zyR _ _ _ _ [some (.ref (22 + 3)), some (.int x1), some (.int x2), some (.int x3), some (.int x4)] [.int (s.1 22 5), .ref (23 + 3)] _ _ from ?_)
  refine zy_2 rfl rfl (show zyR _ _ _ _ [some (.ref (22 + 3)), some (.int x1), some (.int x2), some (.int x3), some (.int x4)] [.int x1, .int (s.1 22 5), .ref (23 + 3)] _ _ from ?_)
  obtain ⟨c1, h⟩ := zy_if h
  refine zy_27 (c := 23) rfl rfl c1 (show zyR _ _ _ _ [some (.ref (22 + 3)), some (.int x1), some (.int x2), some (.int x3), some (.int x4)] [] _ _ from ?_)
  refine zy_0 rfl rfl (show zyR _ _ _ _ [some (.ref (22 + 3)), some (.int x1), some (.int x2), some (.int x3), some (.int x4)] [.ref (22 + 3)] _ _ from ?_)
  refine zy_1r (c := 22) rfl rfl rfl (show zyR _ _ _ _ [some (.ref (22 + 3)), some (.int x1), some (.int x2), some (.int x3), some (.int x4)] [.ref (24 + 3)] _ _ from ?_)
  refine zy_0 rfl rfl (show zyR _ _ _ _ [some (.ref (22 + 3)), some (.int x1), some (.int x2), some (.int x3), some (.int x4)] [.ref (22 + 3), .ref (24 + 3)] _ _ from ?_)
  refine zy_1 (c := 22) rfl rfl rfl (show zyR _ _ _ _ [some (.ref (22 + 3)), some (.int x1), some (.int x2), some (.int x3), some (.int x4)] [.int (s.1 22 5), .ref (24 + 3)] _ _ from ?_)
  refine zy_2 rfl rfl (show zyR _ _ _ _ [some (.ref (22 + 3)), some (.int x1), some (.int x2), some (.int x3), some (.int x4)] [.int x2, .int (s.1 22 5), .ref (24 + 3)] _ _ from ?_)
  obtain ⟨c2, h⟩ := zy_if h
  refine zy_27 (c := 24) rfl rfl c2 (show zyR _ _ _ _ [some (.ref (22 + 3)), some (.int x1), some (.int x2), some (.int x3), some (.int x4)] [] _ _ from ?_)
  refine zy_0 rfl rfl (show zyR _ _ _ _ [some (.ref (22 + 3)), some (.int x1), some (.int x2), some (.int x3), some (.int x4)] [.ref (22 + 3)] _ _ from ?_)
  refine zy_1r (c := 22) rfl rfl rfl (show zyR _ _ _ _ [some (.ref (22 + 3)), some (.int x1), some (.int x2), some (.int x3), some (.int x4)] [.ref (25 + 3)] _ _ from ?_)
  refine zy_0 rfl rfl (show zyR _ _ _ _ [some (.ref (22 + 3)), some (.int x1), some (.int x2), some (.int x3), some (.int x4)] [.ref (22 + 3), .ref (25 + 3)] _ _ from ?_)
  refine zy_1 (c := 22) rfl rfl rfl (show zyR _ _ _ _ [some (.ref (22 + 3)), some (.int x1), some (.int x2), some (.int x3), some (.int x4)] [.int (s.1 22 5), .ref (25 + 3)] _ _ from ?_)
  refine zy_2 rfl rfl (show zyR _ _ _ _ [some (.ref (22 + 3)), some (.int x1), some (.int x2), some (.int x3), some (.int x4)] [.int x3, .int (s.1 22 5), .ref (25 + 3)] _ _ from ?_)
  obtain ⟨c3, h⟩ := zy_if h
  refine zy_27 (c := 25) rfl rfl c3 (show zyR _ _ _ _ [some (.ref (22 + 3)), some (.int x1), some (.int x2), some (.int x3), some (.int x4)] [] _ _ from ?_)
  refine zy_0 rfl rfl (show zyR _ _ _ _ [some (.ref (22 + 3)), some (.int x1), some (.int x2), some (.int x3), some (.int x4)] [.ref (22 + 3)] _ _ from ?_)
  refine zy_1r (c := 22) rfl rfl rfl (show zyR _ _ _ _ [some (.ref (22 + 3)), some (.int x1), some (.int x2), some (.int x3), some (.int x4)] [.ref (26 + 3)] _ _ from ?_)
  refine zy_0 rfl rfl (show zyR _ _ _ _ [some (.ref (22 + 3)), some (.int x1), some (.int x2), some (.int x3), some (.int x4)] [.ref (22 + 3), .ref (26 + 3)] _ _ from ?_)
  refine zy_1 (c := 22) rfl rfl rfl (show zyR _ _ _ _ [some (.ref (22 + 3)), some (.int x1), some (.int x2), some (.int x3), some (.int x4)] [.int (s.1 22 5), .ref (26 + 3)] _ _ from ?_)
  refine zy_2 rfl rfl (show zyR _ _ _ _ [some (.ref (22 + 3)), some (.int x1), some (.int x2), some (.int x3), some (.int x4)] [.int x4, .int (s.1 22 5), .ref (26 + 3)] _ _ from ?_)
  obtain ⟨c4, h⟩ := zy_if h
  refine zy_27 (c := 26) rfl rfl c4 (show zyR _ _ _ _ [some (.ref (22 + 3)), some (.int x1), some (.int x2), some (.int x3), some (.int x4)] [] _ _ from ?_)
  refine zy_0 rfl rfl (show zyR _ _ _ _ [some (.ref (22 + 3)), some (.int x1), some (.int x2), some (.int x3), some (.int x4)] [.ref (22 + 3)] _ _ from ?_)
  refine zy_33 rfl rfl (show zyR _ _ _ _ [some (.ref (22 + 3)), some (.int x1), some (.int x2), some (.int x3), some (.int x4)] [.ref (22 + 3), .ref (22 + 3)] _ _ from ?_)
  refine zy_1 (c := 22) rfl rfl rfl (show zyR _ _ _ _ [some (.ref (22 + 3)), some (.int x1), some (.int x2), some (.int x3), some (.int x4)] [.int (s.1 22 5), .ref (22 + 3)] _ _ from ?_)
  refine zy_3 rfl rfl (show zyR _ _ _ _ [some (.ref (22 + 3)), some (.int x1), some (.int x2), some (.int x3), some (.int x4)] [.int (1 : Int32), .int (s.1 22 5), .ref (22 + 3)] _ _ from ?_)
  refine zy_10 rfl (show zyR _ _ _ _ [some (.ref (22 + 3)), some (.int x1), some (.int x2), some (.int x3), some (.int x4)] [.int ((s.1 22 5) + (1 : Int32)), .ref (22 + 3)] _ _ from ?_)
  refine zy_52 (c := 22) rfl rfl rfl (show zyR _ _ _ _ [some (.ref (22 + 3)), some (.int x1), some (.int x2), some (.int x3), some (.int x4)] [] _ _ from ?_)
  refine zy_0 rfl rfl (show zyR _ _ _ _ [some (.ref (22 + 3)), some (.int x1), some (.int x2), some (.int x3), some (.int x4)] [.ref (22 + 3)] _ _ from ?_)
  refine zy_0 rfl rfl (show zyR _ _ _ _ [some (.ref (22 + 3)), some (.int x1), some (.int x2), some (.int x3), some (.int x4)] [.ref (22 + 3), .ref (22 + 3)] _ _ from ?_)
  refine zy_1 (c := 22) rfl rfl rfl (show zyR _ _ _ _ [some (.ref (22 + 3)), some (.int x1), some (.int x2), some (.int x3), some (.int x4)] [.int ((s.1 22 5) + (1 : Int32)), .ref (22 + 3)] _ _ from ?_)
  refine zy_52 (c := 22) rfl rfl rfl (show zyR _ _ _ _ [some (.ref (22 + 3)), some (.int x1), some (.int x2), some (.int x3), some (.int x4)] [] _ _ from ?_)
  cases h
  exact zy_66 rfl ⟨rfl, rfl⟩
noncomputable def zyF29   (x1 : Int32) (x2 : Int32) (x3 : Int32) (x4 : Int32) (s : zy_S) : Option (Int32 × zy_S) :=
if (s.1 22 5) < (40 : Int32) then
zyF29_13 x1 x2 x3 x4 s
else
(zyF30 s).bind fun p5 =>
zyF29_13 x1 x2 x3 x4 p5.2
theorem zyC29 {X : zx_X}     {x1 : Int32} {x2 : Int32} {x3 : Int32} {x4 : Int32} {s : zy_S} {r : Int32} {s' : zy_S}  (h : zyF29 x1 x2 x3 x4 s = some (r, s')) : zyR X 2 29 0 [some (.ref (22 + 3)), some (.int x1), some (.int x2), some (.int x3), some (.int x4)] [] s (zyE none s') := by
  unfold zyF29 at h
  refine zy_0 rfl rfl (show zyR _ _ _ _ [some (.ref (22 + 3)), some (.int x1), some (.int x2), some (.int x3), some (.int x4)] [.ref (22 + 3)] _ _ from ?_)
  refine zy_1 (c := 22) rfl rfl rfl (show zyR _ _ _ _ [some (.ref (22 + 3)), some (.int x1), some (.int x2), some (.int x3), some (.int x4)] [.int (s.1 22 5)] _ _ from ?_)
  refine zy_3 rfl rfl (show zyR _ _ _ _ [some (.ref (22 + 3)), some (.int x1), some (.int x2), some (.int x3), some (.int x4)] [.int (40 : Int32), .int (s.1 22 5)] _ _ from ?_)
  refine zy_25_2 rfl (fun b6 => (show zyR _ _ _ _ [some (.ref (22 + 3)), some (.int x1), some (.int x2), some (.int x3), some (.int x4)] [] _ _ from ?_)) (fun b6 => (show zyR _ _ _ _ [some (.ref (22 + 3)), some (.int x1), some (.int x2), some (.int x3), some (.int x4)] [] _ _ from ?_))
  · replace h := zy_ifp h b6
    exact zy_sub (show zy_le [some (.ref (22 + 3)), some (.int x1), some (.int x2), some (.int x3), some (.int x4)] [some (.ref (22 + 3)), some (.int x1), some (.int x2), some (.int x3), some (.int x4)] from ⟨rfl, ⟨rfl, ⟨rfl, ⟨rfl, ⟨rfl, trivial⟩⟩⟩⟩⟩) (zyC29_13 h)
  · replace h := zy_ifn h b6
    refine zy_0 rfl rfl (show zyR _ _ _ _ [some (.ref (22 + 3)), some (.int x1), some (.int x2), some (.int x3), some (.int x4)] [.ref (22 + 3)] _ _ from ?_)
    obtain ⟨p5, hp5, h⟩ := zy_bind h
    refine zy_5 (c := 22) (as := []) (rest := []) (L := [some (.ref (22 + 3))]) (d' := 1) rfl rfl rfl (Nat.le_of_ble_eq_true rfl) (Nat.le_of_ble_eq_true rfl) rfl (Nat.le_of_ble_eq_true rfl) rfl rfl (zyC30 hp5) ?_
    show zyR _ _ _ _ [some (.ref (22 + 3)), some (.int x1), some (.int x2), some (.int x3), some (.int x4)] [] _ _
    exact zy_sub (show zy_le [some (.ref (22 + 3)), some (.int x1), some (.int x2), some (.int x3), some (.int x4)] [some (.ref (22 + 3)), some (.int x1), some (.int x2), some (.int x3), some (.int x4)] from ⟨rfl, ⟨rfl, ⟨rfl, ⟨rfl, ⟨rfl, trivial⟩⟩⟩⟩⟩) (zyC29_13 h)
/-! NineOpinions.mend(III)I -/
noncomputable def zyF24   (x1 : Int32) (x2 : Int32) (x3 : Int32) (s : zy_S) : Option (Int32 × zy_S) :=
(zyF25 x2 x1 s).bind fun p1 =>
if p1.1 = 0 then
some ((-1 : Int32), p1.2)
else
(zyF14 x2 x3 p1.2).bind fun p2 =>
if p2.1 ≠ 0 then
(zyF27 x2 x1 p2.2).bind fun p3 =>
if p3.1 = x3 then
some (p3.1, p3.2)
else
(zyF28 x2 x1 x3 p3.2).bind fun p4 =>
(zyF29 x2 x1 p3.1 x3 p4.2).bind fun p5 =>
some (p3.1, p5.2)
else
some ((-1 : Int32), p2.2)
theorem zyC24 {X : zx_X}     {x1 : Int32} {x2 : Int32} {x3 : Int32} {s : zy_S} {r : Int32} {s' : zy_S}  (h : zyF24 x1 x2 x3 s = some (r, s')) : zyR X 3 24 0 [some (.ref (0 + 3)), some (.int x1), some (.int x2), some (.int x3), none] [] s (zyE (some (.int r)) s') := by
  unfold zyF24 at h
  refine zy_0 rfl rfl (show zyR _ _ _ _ [some (.ref (0 + 3)), some (.int x1), some (.int x2), some (.int x3), none] [.ref (0 + 3)] _ _ from ?_)
  refine zy_1r (c := 0) rfl rfl rfl (show zyR _ _ _ _ [some (.ref (0 + 3)), some (.int x1), some (.int x2), some (.int x3), none] [.ref (1 + 3)] _ _ from ?_)
  refine zy_2 rfl rfl (show zyR _ _ _ _ [some (.ref (0 + 3)), some (.int x1), some (.int x2), some (.int x3), none] [.int x2, .ref (1 + 3)] _ _ from ?_)
  refine zy_2 rfl rfl (show zyR _ _ _ _ [some (.ref (0 + 3)), some (.int x1), some (.int x2), some (.int x3), none] [.int x1, .int x2, .ref (1 + 3)] _ _ from ?_)
  obtain ⟨p1, hp1, h⟩ := zy_bind h
  refine zy_5 (c := 1) (as := [.int x2, .int x1]) (rest := []) (L := [some (.ref (1 + 3)), some (.int x2), some (.int x1)]) (d' := 2) rfl rfl rfl (Nat.le_of_ble_eq_true rfl) (Nat.le_of_ble_eq_true rfl) rfl (Nat.le_of_ble_eq_true rfl) rfl rfl (zyC25 hp1) ?_
  show zyR _ _ _ _ [some (.ref (0 + 3)), some (.int x1), some (.int x2), some (.int x3), none] [.int p1.1] _ _
  refine zy_24_0 rfl (fun b8 => (show zyR _ _ _ _ [some (.ref (0 + 3)), some (.int x1), some (.int x2), some (.int x3), none] [] _ _ from ?_)) (fun b8 => (show zyR _ _ _ _ [some (.ref (0 + 3)), some (.int x1), some (.int x2), some (.int x3), none] [] _ _ from ?_))
  · replace h := zy_ifp h b8
    refine zy_3 rfl rfl (show zyR _ _ _ _ [some (.ref (0 + 3)), some (.int x1), some (.int x2), some (.int x3), none] [.int (-1 : Int32)] _ _ from ?_)
    obtain ⟨rfl, rfl⟩ := zy_pi h
    exact zy_4 rfl ⟨rfl, rfl⟩
  · replace h := zy_ifn h b8
    refine zy_0 rfl rfl (show zyR _ _ _ _ [some (.ref (0 + 3)), some (.int x1), some (.int x2), some (.int x3), none] [.ref (0 + 3)] _ _ from ?_)
    refine zy_1r (c := 0) rfl rfl rfl (show zyR _ _ _ _ [some (.ref (0 + 3)), some (.int x1), some (.int x2), some (.int x3), none] [.ref (1 + 3)] _ _ from ?_)
    refine zy_2 rfl rfl (show zyR _ _ _ _ [some (.ref (0 + 3)), some (.int x1), some (.int x2), some (.int x3), none] [.int x2, .ref (1 + 3)] _ _ from ?_)
    refine zy_2 rfl rfl (show zyR _ _ _ _ [some (.ref (0 + 3)), some (.int x1), some (.int x2), some (.int x3), none] [.int x3, .int x2, .ref (1 + 3)] _ _ from ?_)
    obtain ⟨p2, hp2, h⟩ := zy_bind h
    refine zy_5 (c := 1) (as := [.int x2, .int x3]) (rest := []) (L := [some (.ref (1 + 3)), some (.int x2), some (.int x3)]) (d' := 1) rfl rfl rfl (Nat.le_of_ble_eq_true rfl) (Nat.le_of_ble_eq_true rfl) rfl (Nat.le_of_ble_eq_true rfl) rfl rfl (zy_sub (show zy_le [none, some (.int x2), some (.int x3)] [some (.ref (1 + 3)), some (.int x2), some (.int x3)] from ⟨rfl, ⟨rfl, trivial⟩⟩) (zyC14 hp2)) ?_
    show zyR _ _ _ _ [some (.ref (0 + 3)), some (.int x1), some (.int x2), some (.int x3), none] [.int p2.1] _ _
    refine zy_24_1 rfl (fun b7 => (show zyR _ _ _ _ [some (.ref (0 + 3)), some (.int x1), some (.int x2), some (.int x3), none] [] _ _ from ?_)) (fun b7 => (show zyR _ _ _ _ [some (.ref (0 + 3)), some (.int x1), some (.int x2), some (.int x3), none] [] _ _ from ?_))
    · replace h := zy_ifp h b7
      refine zy_0 rfl rfl (show zyR _ _ _ _ [some (.ref (0 + 3)), some (.int x1), some (.int x2), some (.int x3), none] [.ref (0 + 3)] _ _ from ?_)
      refine zy_1r (c := 0) rfl rfl rfl (show zyR _ _ _ _ [some (.ref (0 + 3)), some (.int x1), some (.int x2), some (.int x3), none] [.ref (1 + 3)] _ _ from ?_)
      refine zy_2 rfl rfl (show zyR _ _ _ _ [some (.ref (0 + 3)), some (.int x1), some (.int x2), some (.int x3), none] [.int x2, .ref (1 + 3)] _ _ from ?_)
      refine zy_2 rfl rfl (show zyR _ _ _ _ [some (.ref (0 + 3)), some (.int x1), some (.int x2), some (.int x3), none] [.int x1, .int x2, .ref (1 + 3)] _ _ from ?_)
      obtain ⟨p3, hp3, h⟩ := zy_bind h
      refine zy_5 (c := 1) (as := [.int x2, .int x1]) (rest := []) (L := [some (.ref (1 + 3)), some (.int x2), some (.int x1)]) (d' := 1) rfl rfl rfl (Nat.le_of_ble_eq_true rfl) (Nat.le_of_ble_eq_true rfl) rfl (Nat.le_of_ble_eq_true rfl) rfl rfl (zyC27 hp3) ?_
      show zyR _ _ _ _ [some (.ref (0 + 3)), some (.int x1), some (.int x2), some (.int x3), none] [.int p3.1] _ _
      refine zy_23 rfl rfl (show zyR _ _ _ _ [some (.ref (0 + 3)), some (.int x1), some (.int x2), some (.int x3), some (.int p3.1)] [] _ _ from ?_)
      refine zy_2 rfl rfl (show zyR _ _ _ _ [some (.ref (0 + 3)), some (.int x1), some (.int x2), some (.int x3), some (.int p3.1)] [.int p3.1] _ _ from ?_)
      refine zy_2 rfl rfl (show zyR _ _ _ _ [some (.ref (0 + 3)), some (.int x1), some (.int x2), some (.int x3), some (.int p3.1)] [.int x3, .int p3.1] _ _ from ?_)
      refine zy_25_0 rfl (fun b6 => (show zyR _ _ _ _ [some (.ref (0 + 3)), some (.int x1), some (.int x2), some (.int x3), some (.int p3.1)] [] _ _ from ?_)) (fun b6 => (show zyR _ _ _ _ [some (.ref (0 + 3)), some (.int x1), some (.int x2), some (.int x3), some (.int p3.1)] [] _ _ from ?_))
      · replace h := zy_ifp h b6
        refine zy_2 rfl rfl (show zyR _ _ _ _ [some (.ref (0 + 3)), some (.int x1), some (.int x2), some (.int x3), some (.int p3.1)] [.int p3.1] _ _ from ?_)
        obtain ⟨rfl, rfl⟩ := zy_pi h
        exact zy_4 rfl ⟨rfl, rfl⟩
      · replace h := zy_ifn h b6
        refine zy_0 rfl rfl (show zyR _ _ _ _ [some (.ref (0 + 3)), some (.int x1), some (.int x2), some (.int x3), some (.int p3.1)] [.ref (0 + 3)] _ _ from ?_)
        refine zy_1r (c := 0) rfl rfl rfl (show zyR _ _ _ _ [some (.ref (0 + 3)), some (.int x1), some (.int x2), some (.int x3), some (.int p3.1)] [.ref (1 + 3)] _ _ from ?_)
        refine zy_2 rfl rfl (show zyR _ _ _ _ [some (.ref (0 + 3)), some (.int x1), some (.int x2), some (.int x3), some (.int p3.1)] [.int x2, .ref (1 + 3)] _ _ from ?_)
        refine zy_2 rfl rfl (show zyR _ _ _ _ [some (.ref (0 + 3)), some (.int x1), some (.int x2), some (.int x3), some (.int p3.1)] [.int x1, .int x2, .ref (1 + 3)] _ _ from ?_)
        refine zy_2 rfl rfl (show zyR _ _ _ _ [some (.ref (0 + 3)), some (.int x1), some (.int x2), some (.int x3), some (.int p3.1)] [.int x3, .int x1, .int x2, .ref (1 + 3)] _ _ from ?_)
        obtain ⟨p4, hp4, h⟩ := zy_bind h
        refine zy_5 (c := 1) (as := [.int x2, .int x1, .int x3]) (rest := []) (L := [some (.ref (1 + 3)), some (.int x2), some (.int x1), some (.int x3)]) (d' := 1) rfl rfl rfl (Nat.le_of_ble_eq_true rfl) (Nat.le_of_ble_eq_true rfl) rfl (Nat.le_of_ble_eq_true rfl) rfl rfl (zyC28 hp4) ?_
        show zyR _ _ _ _ [some (.ref (0 + 3)), some (.int x1), some (.int x2), some (.int x3), some (.int p3.1)] [] _ _
        refine zy_0 rfl rfl (show zyR _ _ _ _ [some (.ref (0 + 3)), some (.int x1), some (.int x2), some (.int x3), some (.int p3.1)] [.ref (0 + 3)] _ _ from ?_)
        refine zy_1r (c := 0) rfl rfl rfl (show zyR _ _ _ _ [some (.ref (0 + 3)), some (.int x1), some (.int x2), some (.int x3), some (.int p3.1)] [.ref (22 + 3)] _ _ from ?_)
        refine zy_2 rfl rfl (show zyR _ _ _ _ [some (.ref (0 + 3)), some (.int x1), some (.int x2), some (.int x3), some (.int p3.1)] [.int x2, .ref (22 + 3)] _ _ from ?_)
        refine zy_2 rfl rfl (show zyR _ _ _ _ [some (.ref (0 + 3)), some (.int x1), some (.int x2), some (.int x3), some (.int p3.1)] [.int x1, .int x2, .ref (22 + 3)] _ _ from ?_)
        refine zy_2 rfl rfl (show zyR _ _ _ _ [some (.ref (0 + 3)), some (.int x1), some (.int x2), some (.int x3), some (.int p3.1)] [.int p3.1, .int x1, .int x2, .ref (22 + 3)] _ _ from ?_)
        refine zy_2 rfl rfl (show zyR _ _ _ _ [some (.ref (0 + 3)), some (.int x1), some (.int x2), some (.int x3), some (.int p3.1)] [.int x3, .int p3.1, .int x1, .int x2, .ref (22 + 3)] _ _ from ?_)
        obtain ⟨p5, hp5, h⟩ := zy_bind h
        refine zy_5 (c := 22) (as := [.int x2, .int x1, .int p3.1, .int x3]) (rest := []) (L := [some (.ref (22 + 3)), some (.int x2), some (.int x1), some (.int p3.1), some (.int x3)]) (d' := 2) rfl rfl rfl (Nat.le_of_ble_eq_true rfl) (Nat.le_of_ble_eq_true rfl) rfl (Nat.le_of_ble_eq_true rfl) rfl rfl (zyC29 hp5) ?_
        show zyR _ _ _ _ [some (.ref (0 + 3)), some (.int x1), some (.int x2), some (.int x3), some (.int p3.1)] [] _ _
        refine zy_2 rfl rfl (show zyR _ _ _ _ [some (.ref (0 + 3)), some (.int x1), some (.int x2), some (.int x3), some (.int p3.1)] [.int p3.1] _ _ from ?_)
        obtain ⟨rfl, rfl⟩ := zy_pi h
        exact zy_4 rfl ⟨rfl, rfl⟩
    · replace h := zy_ifn h b7
      refine zy_3 rfl rfl (show zyR _ _ _ _ [some (.ref (0 + 3)), some (.int x1), some (.int x2), some (.int x3), none] [.int (-1 : Int32)] _ _ from ?_)
      obtain ⟨rfl, rfl⟩ := zy_pi h
      exact zy_4 rfl ⟨rfl, rfl⟩
/-! NineOpinions$Tape.isFull()Z -/
noncomputable def zyF34    (s : zy_S) : Option (Int32 × zy_S) :=
if (s.1 9 2) < (120 : Int32) then
some ((0 : Int32), s)
else
some ((1 : Int32), s)
theorem zyC34 {X : zx_X}      {s : zy_S} {r : Int32} {s' : zy_S}  (h : zyF34 s = some (r, s')) : zyR X 1 34 0 [some (.ref (9 + 3))] [] s (zyE (some (.int r)) s') := by
  unfold zyF34 at h
  refine zy_0 rfl rfl (show zyR _ _ _ _ [some (.ref (9 + 3))] [.ref (9 + 3)] _ _ from ?_)
  refine zy_1 (c := 9) rfl rfl rfl (show zyR _ _ _ _ [some (.ref (9 + 3))] [.int (s.1 9 2)] _ _ from ?_)
  refine zy_3 rfl rfl (show zyR _ _ _ _ [some (.ref (9 + 3))] [.int (120 : Int32), .int (s.1 9 2)] _ _ from ?_)
  refine zy_25_2 rfl (fun b1 => (show zyR _ _ _ _ [some (.ref (9 + 3))] [] _ _ from ?_)) (fun b1 => (show zyR _ _ _ _ [some (.ref (9 + 3))] [] _ _ from ?_))
  · replace h := zy_ifp h b1
    refine zy_3 rfl rfl (show zyR _ _ _ _ [some (.ref (9 + 3))] [.int (0 : Int32)] _ _ from ?_)
    cases h
    exact zy_4b rfl ⟨rfl, rfl⟩ (Or.inl rfl)
  · replace h := zy_ifn h b1
    refine zy_3 rfl rfl (show zyR _ _ _ _ [some (.ref (9 + 3))] [.int (1 : Int32)] _ _ from ?_)
    refine zy_6 rfl (show zyR _ _ _ _ [some (.ref (9 + 3))] [.int (1 : Int32)] _ _ from ?_)
    cases h
    exact zy_4b rfl ⟨rfl, rfl⟩ (Or.inr rfl)
/-! NineOpinions$Tape.add(I)I -/
noncomputable def zyF35   (x1 : Int32) (s : zy_S) : Option (Int32 × zy_S) :=
if zy_in (s.1 9 2) 120 then
some (((s.1 9 2) + (1 : Int32)), (zy_up (zy_up s 10 ((s.1 9 2)).toNatClampNeg x1) 9 2 ((s.1 9 2) + (1 : Int32))))
else none
theorem zyC35 {X : zx_X}     {x1 : Int32} {s : zy_S} {r : Int32} {s' : zy_S}  (h : zyF35 x1 s = some (r, s')) : zyR X 1 35 0 [some (.ref (9 + 3)), some (.int x1)] [] s (zyE (some (.int r)) s') := by
  unfold zyF35 at h
  refine zy_0 rfl rfl (show zyR _ _ _ _ [some (.ref (9 + 3)), some (.int x1)] [.ref (9 + 3)] _ _ from ?_)
  refine zy_1r (c := 9) rfl rfl rfl (show zyR _ _ _ _ [some (.ref (9 + 3)), some (.int x1)] [.ref (10 + 3)] _ _ from ?_)
  refine zy_0 rfl rfl (show zyR _ _ _ _ [some (.ref (9 + 3)), some (.int x1)] [.ref (9 + 3), .ref (10 + 3)] _ _ from ?_)
  refine zy_1 (c := 9) rfl rfl rfl (show zyR _ _ _ _ [some (.ref (9 + 3)), some (.int x1)] [.int (s.1 9 2), .ref (10 + 3)] _ _ from ?_)
  refine zy_2 rfl rfl (show zyR _ _ _ _ [some (.ref (9 + 3)), some (.int x1)] [.int x1, .int (s.1 9 2), .ref (10 + 3)] _ _ from ?_)
  obtain ⟨c1, h⟩ := zy_if h
  refine zy_27 (c := 10) rfl rfl c1 (show zyR _ _ _ _ [some (.ref (9 + 3)), some (.int x1)] [] _ _ from ?_)
  refine zy_0 rfl rfl (show zyR _ _ _ _ [some (.ref (9 + 3)), some (.int x1)] [.ref (9 + 3)] _ _ from ?_)
  refine zy_33 rfl rfl (show zyR _ _ _ _ [some (.ref (9 + 3)), some (.int x1)] [.ref (9 + 3), .ref (9 + 3)] _ _ from ?_)
  refine zy_1 (c := 9) rfl rfl rfl (show zyR _ _ _ _ [some (.ref (9 + 3)), some (.int x1)] [.int (s.1 9 2), .ref (9 + 3)] _ _ from ?_)
  refine zy_3 rfl rfl (show zyR _ _ _ _ [some (.ref (9 + 3)), some (.int x1)] [.int (1 : Int32), .int (s.1 9 2), .ref (9 + 3)] _ _ from ?_)
  refine zy_10 rfl (show zyR _ _ _ _ [some (.ref (9 + 3)), some (.int x1)] [.int ((s.1 9 2) + (1 : Int32)), .ref (9 + 3)] _ _ from ?_)
  refine zy_52 (c := 9) rfl rfl rfl (show zyR _ _ _ _ [some (.ref (9 + 3)), some (.int x1)] [] _ _ from ?_)
  refine zy_0 rfl rfl (show zyR _ _ _ _ [some (.ref (9 + 3)), some (.int x1)] [.ref (9 + 3)] _ _ from ?_)
  refine zy_1 (c := 9) rfl rfl rfl (show zyR _ _ _ _ [some (.ref (9 + 3)), some (.int x1)] [.int ((s.1 9 2) + (1 : Int32))] _ _ from ?_)
  obtain ⟨rfl, rfl⟩ := zy_pi h
  exact zy_4 rfl ⟨rfl, rfl⟩
/-! NineOpinions.feed(I)I -/
noncomputable def zyF33   (x1 : Int32) (s : zy_S) : Option (Int32 × zy_S) :=
if x1 < 0 then
some ((-1 : Int32), s)
else
if x1 ≤ (255 : Int32) then
(zyF34 s).bind fun p1 =>
if p1.1 = 0 then
(zyF35 x1 p1.2).bind fun p2 =>
some (p2.1, p2.2)
else
some ((-3 : Int32), p1.2)
else
some ((-1 : Int32), s)
theorem zyC33 {X : zx_X}     {x1 : Int32} {s : zy_S} {r : Int32} {s' : zy_S}  (h : zyF33 x1 s = some (r, s')) : zyR X 2 33 0 [some (.ref (0 + 3)), some (.int x1)] [] s (zyE (some (.int r)) s') := by
  unfold zyF33 at h
  refine zy_2 rfl rfl (show zyR _ _ _ _ [some (.ref (0 + 3)), some (.int x1)] [.int x1] _ _ from ?_)
  refine zy_24_2 rfl (fun b5 => (show zyR _ _ _ _ [some (.ref (0 + 3)), some (.int x1)] [] _ _ from ?_)) (fun b5 => (show zyR _ _ _ _ [some (.ref (0 + 3)), some (.int x1)] [] _ _ from ?_))
  · replace h := zy_ifp h b5
    refine zy_3 rfl rfl (show zyR _ _ _ _ [some (.ref (0 + 3)), some (.int x1)] [.int (-1 : Int32)] _ _ from ?_)
    obtain ⟨rfl, rfl⟩ := zy_pi h
    exact zy_4 rfl ⟨rfl, rfl⟩
  · replace h := zy_ifn h b5
    refine zy_2 rfl rfl (show zyR _ _ _ _ [some (.ref (0 + 3)), some (.int x1)] [.int x1] _ _ from ?_)
    refine zy_3 rfl rfl (show zyR _ _ _ _ [some (.ref (0 + 3)), some (.int x1)] [.int (255 : Int32), .int x1] _ _ from ?_)
    refine zy_25_5 rfl (fun b4 => (show zyR _ _ _ _ [some (.ref (0 + 3)), some (.int x1)] [] _ _ from ?_)) (fun b4 => (show zyR _ _ _ _ [some (.ref (0 + 3)), some (.int x1)] [] _ _ from ?_))
    · replace h := zy_ifp h b4
      refine zy_0 rfl rfl (show zyR _ _ _ _ [some (.ref (0 + 3)), some (.int x1)] [.ref (0 + 3)] _ _ from ?_)
      refine zy_1r (c := 0) rfl rfl rfl (show zyR _ _ _ _ [some (.ref (0 + 3)), some (.int x1)] [.ref (9 + 3)] _ _ from ?_)
      obtain ⟨p1, hp1, h⟩ := zy_bind h
      refine zy_5 (c := 9) (as := []) (rest := []) (L := [some (.ref (9 + 3))]) (d' := 1) rfl rfl rfl (Nat.le_of_ble_eq_true rfl) (Nat.le_of_ble_eq_true rfl) rfl (Nat.le_of_ble_eq_true rfl) rfl rfl (zyC34 hp1) ?_
      show zyR _ _ _ _ [some (.ref (0 + 3)), some (.int x1)] [.int p1.1] _ _
      refine zy_24_0 rfl (fun b3 => (show zyR _ _ _ _ [some (.ref (0 + 3)), some (.int x1)] [] _ _ from ?_)) (fun b3 => (show zyR _ _ _ _ [some (.ref (0 + 3)), some (.int x1)] [] _ _ from ?_))
      · replace h := zy_ifp h b3
        refine zy_0 rfl rfl (show zyR _ _ _ _ [some (.ref (0 + 3)), some (.int x1)] [.ref (0 + 3)] _ _ from ?_)
        refine zy_1r (c := 0) rfl rfl rfl (show zyR _ _ _ _ [some (.ref (0 + 3)), some (.int x1)] [.ref (9 + 3)] _ _ from ?_)
        refine zy_2 rfl rfl (show zyR _ _ _ _ [some (.ref (0 + 3)), some (.int x1)] [.int x1, .ref (9 + 3)] _ _ from ?_)
        obtain ⟨p2, hp2, h⟩ := zy_bind h
        refine zy_5 (c := 9) (as := [.int x1]) (rest := []) (L := [some (.ref (9 + 3)), some (.int x1)]) (d' := 1) rfl rfl rfl (Nat.le_of_ble_eq_true rfl) (Nat.le_of_ble_eq_true rfl) rfl (Nat.le_of_ble_eq_true rfl) rfl rfl (zyC35 hp2) ?_
        show zyR _ _ _ _ [some (.ref (0 + 3)), some (.int x1)] [.int p2.1] _ _
        obtain ⟨rfl, rfl⟩ := zy_pi h
        exact zy_4 rfl ⟨rfl, rfl⟩
      · replace h := zy_ifn h b3
        refine zy_3 rfl rfl (show zyR _ _ _ _ [some (.ref (0 + 3)), some (.int x1)] [.int (-3 : Int32)] _ _ from ?_)
        refine zy_6 rfl (show zyR _ _ _ _ [some (.ref (0 + 3)), some (.int x1)] [.int (-3 : Int32)] _ _ from ?_)
        obtain ⟨rfl, rfl⟩ := zy_pi h
        exact zy_4 rfl ⟨rfl, rfl⟩
    · replace h := zy_ifn h b4
      refine zy_3 rfl rfl (show zyR _ _ _ _ [some (.ref (0 + 3)), some (.int x1)] [.int (-1 : Int32)] _ _ from ?_)
      obtain ⟨rfl, rfl⟩ := zy_pi h
      exact zy_4 rfl ⟨rfl, rfl⟩
/-! NineOpinions.bit(II)I -/
noncomputable def zyF32   (x0 : Int32) (x1 : Int32) (s : zy_S) : Option (Int32 × zy_S) :=
some (((x0 >>> (x1 &&& 31)) &&& (1 : Int32)), s)
theorem zyC32 {X : zx_X}     {x0 : Int32} {x1 : Int32} {s : zy_S} {r : Int32} {s' : zy_S}  (h : zyF32 x0 x1 s = some (r, s')) : zyR X 1 32 0 [some (.int x0), some (.int x1)] [] s (zyE (some (.int r)) s') := by
  unfold zyF32 at h
  refine zy_2 rfl rfl (show zyR _ _ _ _ [some (.int x0), some (.int x1)] [.int x0] _ _ from ?_)
  refine zy_2 rfl rfl (show zyR _ _ _ _ [some (.int x0), some (.int x1)] [.int x1, .int x0] _ _ from ?_)
  refine zy_17 rfl (show zyR _ _ _ _ [some (.int x0), some (.int x1)] [.int (x0 >>> (x1 &&& 31))] _ _ from ?_)
  refine zy_3 rfl rfl (show zyR _ _ _ _ [some (.int x0), some (.int x1)] [.int (1 : Int32), .int (x0 >>> (x1 &&& 31))] _ _ from ?_)
  refine zy_13 rfl (show zyR _ _ _ _ [some (.int x0), some (.int x1)] [.int ((x0 >>> (x1 &&& 31)) &&& (1 : Int32))] _ _ from ?_)
  obtain ⟨rfl, rfl⟩ := zy_pi h
  exact zy_4 rfl ⟨rfl, rfl⟩
/-! NineOpinions$Town.stands(I)Z -/
noncomputable def zyF86   (x1 : Int32) (s : zy_S) : Option (Int32 × zy_S) :=
(zyF32 (s.1 1 3) x1 s).bind fun p1 =>
if p1.1 ≠ (1 : Int32) then
some ((0 : Int32), p1.2)
else
some ((1 : Int32), p1.2)
theorem zyC86 {X : zx_X}     {x1 : Int32} {s : zy_S} {r : Int32} {s' : zy_S}  (h : zyF86 x1 s = some (r, s')) : zyR X 2 86 0 [some (.ref (1 + 3)), some (.int x1)] [] s (zyE (some (.int r)) s') := by
  unfold zyF86 at h
  refine zy_0 rfl rfl (show zyR _ _ _ _ [some (.ref (1 + 3)), some (.int x1)] [.ref (1 + 3)] _ _ from ?_)
  refine zy_1 (c := 1) rfl rfl rfl (show zyR _ _ _ _ [some (.ref (1 + 3)), some (.int x1)] [.int (s.1 1 3)] _ _ from ?_)
  refine zy_2 rfl rfl (show zyR _ _ _ _ [some (.ref (1 + 3)), some (.int x1)] [.int x1, .int (s.1 1 3)] _ _ from ?_)
  obtain ⟨p1, hp1, h⟩ := zy_bind h
  refine zy_61 (as := [.int (s.1 1 3), .int x1]) (rest := []) (L := [some (.int (s.1 1 3)), some (.int x1)]) (d' := 1) rfl rfl (Nat.le_of_ble_eq_true rfl) (Nat.le_of_ble_eq_true rfl) rfl (Nat.le_of_ble_eq_true rfl) rfl rfl (zyC32 hp1) ?_
  show zyR _ _ _ _ [some (.ref (1 + 3)), some (.int x1)] [.int p1.1] _ _
  refine zy_3 rfl rfl (show zyR _ _ _ _ [some (.ref (1 + 3)), some (.int x1)] [.int (1 : Int32), .int p1.1] _ _ from ?_)
  refine zy_25_1 rfl (fun b2 => (show zyR _ _ _ _ [some (.ref (1 + 3)), some (.int x1)] [] _ _ from ?_)) (fun b2 => (show zyR _ _ _ _ [some (.ref (1 + 3)), some (.int x1)] [] _ _ from ?_))
  · replace h := zy_ifp h b2
    refine zy_3 rfl rfl (show zyR _ _ _ _ [some (.ref (1 + 3)), some (.int x1)] [.int (0 : Int32)] _ _ from ?_)
    cases h
    exact zy_4b rfl ⟨rfl, rfl⟩ (Or.inl rfl)
  · replace h := zy_ifn h b2
    refine zy_3 rfl rfl (show zyR _ _ _ _ [some (.ref (1 + 3)), some (.int x1)] [.int (1 : Int32)] _ _ from ?_)
    refine zy_6 rfl (show zyR _ _ _ _ [some (.ref (1 + 3)), some (.int x1)] [.int (1 : Int32)] _ _ from ?_)
    cases h
    exact zy_4b rfl ⟨rfl, rfl⟩ (Or.inr rfl)
end
section
/-! PART 41.02: methods as functions. Made by wip/v4/dcp.py. -/
/-! java/lang/Integer.bitCount(I)I -/
noncomputable def zyF63_48   (x0 : Int32) (s : zy_S) : Option (Int32 × zy_S) :=
some ((x0 &&& (63 : Int32)), s)
theorem zyC63_48 {X : zx_X}     {x0 : Int32} {s : zy_S} {r : Int32} {s' : zy_S}  (h : zyF63_48 x0 s = some (r, s')) : zyR X 1 63 48 [some (.int x0)] [] s (zyE (some (.int r)) s') := by
  unfold zyF63_48 at h
  refine zy_2 rfl rfl (show zyR _ _ _ _ [some (.int x0)] [.int x0] _ _ from ?_)
  refine zy_3 rfl rfl (show zyR _ _ _ _ [some (.int x0)] [.int (63 : Int32), .int x0] _ _ from ?_)
  refine zy_13 rfl (show zyR _ _ _ _ [some (.int x0)] [.int (x0 &&& (63 : Int32))] _ _ from ?_)
  obtain ⟨rfl, rfl⟩ := zy_pi h
  exact zy_4 rfl ⟨rfl, rfl⟩
noncomputable def zyF63_41   (x0 : Int32) (s : zy_S) : Option (Int32 × zy_S) :=
zyF63_48 (x0 + ((x0).toUInt32 >>> (((16 : Int32)).toUInt32 &&& Int32.toUInt32 31)).toInt32) s
theorem zyC63_41 {X : zx_X}     {x0 : Int32} {s : zy_S} {r : Int32} {s' : zy_S}  (h : zyF63_41 x0 s = some (r, s')) : zyR X 1 63 41 [some (.int x0)] [] s (zyE (some (.int r)) s') := by
  unfold zyF63_41 at h
  refine zy_2 rfl rfl (show zyR _ _ _ _ [some (.int x0)] [.int x0] _ _ from ?_)
  refine zy_2 rfl rfl (show zyR _ _ _ _ [some (.int x0)] [.int x0, .int x0] _ _ from ?_)
  refine zy_3 rfl rfl (show zyR _ _ _ _ [some (.int x0)] [.int (16 : Int32), .int x0, .int x0] _ _ from ?_)
  refine zy_18 rfl (show zyR _ _ _ _ [some (.int x0)] [.int ((x0).toUInt32 >>> (((16 : Int32)).toUInt32 &&& Int32.toUInt32 31)).toInt32, .int x0] _ _ from ?_)
  refine zy_10 rfl (show zyR _ _ _ _ [some (.int x0)] [.int (x0 + ((x0).toUInt32 >>> (((16 : Int32)).toUInt32 &&& Int32.toUInt32 31)).toInt32)] _ _ from ?_)
  refine zy_23 rfl rfl (show zyR _ _ _ _ [some (.int (x0 + ((x0).toUInt32 >>> (((16 : Int32)).toUInt32 &&& Int32.toUInt32 31)).toInt32))] [] _ _ from ?_)
  exact zy_sub (show zy_le [some (.int (x0 + ((x0).toUInt32 >>> (((16 : Int32)).toUInt32 &&& Int32.toUInt32 31)).toInt32))] [some (.int (x0 + ((x0).toUInt32 >>> (((16 : Int32)).toUInt32 &&& Int32.toUInt32 31)).toInt32))] from ⟨rfl, trivial⟩) (zyC63_48 h)
noncomputable def zyF63_34   (x0 : Int32) (s : zy_S) : Option (Int32 × zy_S) :=
zyF63_41 (x0 + ((x0).toUInt32 >>> (((8 : Int32)).toUInt32 &&& Int32.toUInt32 31)).toInt32) s
theorem zyC63_34 {X : zx_X}     {x0 : Int32} {s : zy_S} {r : Int32} {s' : zy_S}  (h : zyF63_34 x0 s = some (r, s')) : zyR X 1 63 34 [some (.int x0)] [] s (zyE (some (.int r)) s') := by
  unfold zyF63_34 at h
  refine zy_2 rfl rfl (show zyR _ _ _ _ [some (.int x0)] [.int x0] _ _ from ?_)
  refine zy_2 rfl rfl (show zyR _ _ _ _ [some (.int x0)] [.int x0, .int x0] _ _ from ?_)
  refine zy_3 rfl rfl (show zyR _ _ _ _ [some (.int x0)] [.int (8 : Int32), .int x0, .int x0] _ _ from ?_)
  refine zy_18 rfl (show zyR _ _ _ _ [some (.int x0)] [.int ((x0).toUInt32 >>> (((8 : Int32)).toUInt32 &&& Int32.toUInt32 31)).toInt32, .int x0] _ _ from ?_)
  refine zy_10 rfl (show zyR _ _ _ _ [some (.int x0)] [.int (x0 + ((x0).toUInt32 >>> (((8 : Int32)).toUInt32 &&& Int32.toUInt32 31)).toInt32)] _ _ from ?_)
  refine zy_23 rfl rfl (show zyR _ _ _ _ [some (.int (x0 + ((x0).toUInt32 >>> (((8 : Int32)).toUInt32 &&& Int32.toUInt32 31)).toInt32))] [] _ _ from ?_)
  exact zy_sub (show zy_le [some (.int (x0 + ((x0).toUInt32 >>> (((8 : Int32)).toUInt32 &&& Int32.toUInt32 31)).toInt32))] [some (.int (x0 + ((x0).toUInt32 >>> (((8 : Int32)).toUInt32 &&& Int32.toUInt32 31)).toInt32))] from ⟨rfl, trivial⟩) (zyC63_41 h)
noncomputable def zyF63_24   (x0 : Int32) (s : zy_S) : Option (Int32 × zy_S) :=
zyF63_34 ((x0 + ((x0).toUInt32 >>> (((4 : Int32)).toUInt32 &&& Int32.toUInt32 31)).toInt32) &&& (252645135 : Int32)) s
theorem zyC63_24 {X : zx_X}     {x0 : Int32} {s : zy_S} {r : Int32} {s' : zy_S}  (h : zyF63_24 x0 s = some (r, s')) : zyR X 1 63 24 [some (.int x0)] [] s (zyE (some (.int r)) s') := by
  unfold zyF63_24 at h
  refine zy_2 rfl rfl (show zyR _ _ _ _ [some (.int x0)] [.int x0] _ _ from ?_)
  refine zy_2 rfl rfl (show zyR _ _ _ _ [some (.int x0)] [.int x0, .int x0] _ _ from ?_)
  refine zy_3 rfl rfl (show zyR _ _ _ _ [some (.int x0)] [.int (4 : Int32), .int x0, .int x0] _ _ from ?_)
  refine zy_18 rfl (show zyR _ _ _ _ [some (.int x0)] [.int ((x0).toUInt32 >>> (((4 : Int32)).toUInt32 &&& Int32.toUInt32 31)).toInt32, .int x0] _ _ from ?_)
  refine zy_10 rfl (show zyR _ _ _ _ [some (.int x0)] [.int (x0 + ((x0).toUInt32 >>> (((4 : Int32)).toUInt32 &&& Int32.toUInt32 31)).toInt32)] _ _ from ?_)
  refine zy_3c rfl rfl (show zyR _ _ _ _ [some (.int x0)] [.int (252645135 : Int32), .int (x0 + ((x0).toUInt32 >>> (((4 : Int32)).toUInt32 &&& Int32.toUInt32 31)).toInt32)] _ _ from ?_)
  refine zy_13 rfl (show zyR _ _ _ _ [some (.int x0)] [.int ((x0 + ((x0).toUInt32 >>> (((4 : Int32)).toUInt32 &&& Int32.toUInt32 31)).toInt32) &&& (252645135 : Int32))] _ _ from ?_)
  refine zy_23 rfl rfl (show zyR _ _ _ _ [some (.int ((x0 + ((x0).toUInt32 >>> (((4 : Int32)).toUInt32 &&& Int32.toUInt32 31)).toInt32) &&& (252645135 : Int32)))] [] _ _ from ?_)
  exact zy_sub (show zy_le [some (.int ((x0 + ((x0).toUInt32 >>> (((4 : Int32)).toUInt32 &&& Int32.toUInt32 31)).toInt32) &&& (252645135 : Int32)))] [some (.int ((x0 + ((x0).toUInt32 >>> (((4 : Int32)).toUInt32 &&& Int32.toUInt32 31)).toInt32) &&& (252645135 : Int32)))] from ⟨rfl, trivial⟩) (zyC63_34 h)
noncomputable def zyF63   (x0 : Int32) (s : zy_S) : Option (Int32 × zy_S) :=
zyF63_24 (((x0 - (((x0).toUInt32 >>> (((1 : Int32)).toUInt32 &&& Int32.toUInt32 31)).toInt32 &&& (1431655765 : Int32))) &&& (858993459 : Int32)) + ((((x0 - (((x0).toUInt32 >>> (((1 : Int32)).toUInt32 &&& Int32.toUInt32 31)).toInt32 &&& (1431655765 : Int32)))).toUInt32 >>> (((2 : Int32)).toUInt32 &&& Int32.toUInt32 31)).toInt32 &&& (858993459 : Int32))) s
theorem zyC63 {X : zx_X}     {x0 : Int32} {s : zy_S} {r : Int32} {s' : zy_S}  (h : zyF63 x0 s = some (r, s')) : zyR X 1 63 0 [some (.int x0)] [] s (zyE (some (.int r)) s') := by
  unfold zyF63 at h
  refine zy_2 rfl rfl (show zyR _ _ _ _ [some (.int x0)] [.int x0] _ _ from ?_)
  refine zy_2 rfl rfl (show zyR _ _ _ _ [some (.int x0)] [.int x0, .int x0] _ _ from ?_)
  refine zy_3 rfl rfl (show zyR _ _ _ _ [some (.int x0)] [.int (1 : Int32), .int x0, .int x0] _ _ from ?_)
  refine zy_18 rfl (show zyR _ _ _ _ [some (.int x0)] [.int ((x0).toUInt32 >>> (((1 : Int32)).toUInt32 &&& Int32.toUInt32 31)).toInt32, .int x0] _ _ from ?_)
  refine zy_3c rfl rfl (show zyR _ _ _ _ [some (.int x0)] [.int (1431655765 : Int32), .int ((x0).toUInt32 >>> (((1 : Int32)).toUInt32 &&& Int32.toUInt32 31)).toInt32, .int x0] _ _ from ?_)
  refine zy_13 rfl (show zyR _ _ _ _ [some (.int x0)] [.int (((x0).toUInt32 >>> (((1 : Int32)).toUInt32 &&& Int32.toUInt32 31)).toInt32 &&& (1431655765 : Int32)), .int x0] _ _ from ?_)
  refine zy_11 rfl (show zyR _ _ _ _ [some (.int x0)] [.int (x0 - (((x0).toUInt32 >>> (((1 : Int32)).toUInt32 &&& Int32.toUInt32 31)).toInt32 &&& (1431655765 : Int32)))] _ _ from ?_)
  refine zy_23 rfl rfl (show zyR _ _ _ _ [some (.int (x0 - (((x0).toUInt32 >>> (((1 : Int32)).toUInt32 &&& Int32.toUInt32 31)).toInt32 &&& (1431655765 : Int32))))] [] _ _ from ?_)
  refine zy_2 rfl rfl (show zyR _ _ _ _ [some (.int (x0 - (((x0).toUInt32 >>> (((1 : Int32)).toUInt32 &&& Int32.toUInt32 31)).toInt32 &&& (1431655765 : Int32))))] [.int (x0 - (((x0).toUInt32 >>> (((1 : Int32)).toUInt32 &&& Int32.toUInt32 31)).toInt32 &&& (1431655765 : Int32)))] _ _ from ?_)
  refine zy_3c rfl rfl (show zyR _ _ _ _ [some (.int (x0 - (((x0).toUInt32 >>> (((1 : Int32)).toUInt32 &&& Int32.toUInt32 31)).toInt32 &&& (1431655765 : Int32))))] [.int (858993459 : Int32), .int (x0 - (((x0).toUInt32 >>> (((1 : Int32)).toUInt32 &&& Int32.toUInt32 31)).toInt32 &&& (1431655765 : Int32)))] _ _ from ?_)
  refine zy_13 rfl (show zyR _ _ _ _ [some (.int (x0 - (((x0).toUInt32 >>> (((1 : Int32)).toUInt32 &&& Int32.toUInt32 31)).toInt32 &&& (1431655765 : Int32))))] [.int ((x0 - (((x0).toUInt32 >>> (((1 : Int32)).toUInt32 &&& Int32.toUInt32 31)).toInt32 &&& (1431655765 : Int32))) &&& (858993459 : Int32))] _ _ from ?_)
  refine zy_2 rfl rfl (show zyR _ _ _ _ [some (.int (x0 - (((x0).toUInt32 >>> (((1 : Int32)).toUInt32 &&& Int32.toUInt32 31)).toInt32 &&& (1431655765 : Int32))))] [.int (x0 - (((x0).toUInt32 >>> (((1 : Int32)).toUInt32 &&& Int32.toUInt32 31)).toInt32 &&& (1431655765 : Int32))), .int ((x0 - (((x0).toUInt32 >>> (((1 : Int32)).toUInt32 &&& Int32.toUInt32 31)).toInt32 &&& (1431655765 : Int32))) &&& (858993459 : Int32))] _ _ from ?_)
  refine zy_3 rfl rfl (show zyR _ _ _ _ [some (.int (x0 - (((x0).toUInt32 >>> (((1 : Int32)).toUInt32 &&& Int32.toUInt32 31)).toInt32 &&& (1431655765 : Int32))))] [.int (2 : Int32), .int (x0 - (((x0).toUInt32 >>> (((1 : Int32)).toUInt32 &&& Int32.toUInt32 31)).toInt32 &&& (1431655765 : Int32))), .int ((x0 - (((x0).toUInt32 >>> (((1 : Int32)).toUInt32 &&& Int32.toUInt32 31)).toInt32 &&& (1431655765 : Int32))) &&& (858993459 : Int32))] _ _ from ?_)
  refine zy_18 rfl (show zyR _ _ _ _ [some (.int (x0 - (((x0).toUInt32 >>> (((1 : Int32)).toUInt32 &&& Int32.toUInt32 31)).toInt32 &&& (1431655765 : Int32))))] [.int (((x0 - (((x0).toUInt32 >>> (((1 : Int32)).toUInt32 &&& Int32.toUInt32 31)).toInt32 &&& (1431655765 : Int32)))).toUInt32 >>> (((2 : Int32)).toUInt32 &&& Int32.toUInt32 31)).toInt32, .int ((x0 - (((x0).toUInt32 >>> (((1 : Int32)).toUInt32 &&& Int32.toUInt32 31)).toInt32 &&& (1431655765 : Int32))) &&& (858993459 : Int32))] _ _ from ?_)
  refine zy_3c rfl rfl (show zyR _ _ _ _ [some (.int (x0 - (((x0).toUInt32 >>> (((1 : Int32)).toUInt32 &&& Int32.toUInt32 31)).toInt32 &&& (1431655765 : Int32))))] [.int (858993459 : Int32), .int (((x0 - (((x0).toUInt32 >>> (((1 : Int32)).toUInt32 &&& Int32.toUInt32 31)).toInt32 &&& (1431655765 : Int32)))).toUInt32 >>> (((2 : Int32)).toUInt32 &&& Int32.toUInt32 31)).toInt32, .int ((x0 - (((x0).toUInt32 >>> (((1 : Int32)).toUInt32 &&& Int32.toUInt32 31)).toInt32 &&& (1431655765 : Int32))) &&& (858993459 : Int32))] _ _ from ?_)
  refine zy_13 rfl (show zyR _ _ _ _ [some (.int (x0 - (((x0).toUInt32 >>> (((1 : Int32)).toUInt32 &&& Int32.toUInt32 31)).toInt32 &&& (1431655765 : Int32))))] [.int ((((x0 - (((x0).toUInt32 >>> (((1 : Int32)).toUInt32 &&& Int32.toUInt32 31)).toInt32 &&& (1431655765 : Int32)))).toUInt32 >>> (((2 : Int32)).toUInt32 &&& Int32.toUInt32 31)).toInt32 &&& (858993459 : Int32)), .int ((x0 - (((x0).toUInt32 >>> (((1 : Int32)).toUInt32 &&& Int32.toUInt32 31)).toInt32 &&& (1431655765 : Int32))) &&& (858993459 : Int32))] _ _ from ?_)
  refine zy_10 rfl (show zyR _ _ _ _ [some (.int (x0 - (((x0).toUInt32 >>> (((1 : Int32)).toUInt32 &&& Int32.toUInt32 31)).toInt32 &&& (1431655765 : Int32))))] [.int (((x0 - (((x0).toUInt32 >>> (((1 : Int32)).toUInt32 &&& Int32.toUInt32 31)).toInt32 &&& (1431655765 : Int32))) &&& (858993459 : Int32)) + ((((x0 - (((x0).toUInt32 >>> (((1 : Int32)).toUInt32 &&& Int32.toUInt32 31)).toInt32 &&& (1431655765 : Int32)))).toUInt32 >>> (((2 : Int32)).toUInt32 &&& Int32.toUInt32 31)).toInt32 &&& (858993459 : Int32)))] _ _ from ?_)
  refine zy_23 rfl rfl (show zyR _ _ _ _ [some (.int (((x0 - (((x0).toUInt32 >>> (((1 : Int32)).toUInt32 &&& Int32.toUInt32 31)).toInt32 &&& (1431655765 : Int32))) &&& (858993459 : Int32)) + ((((x0 - (((x0).toUInt32 >>> (((1 : Int32)).toUInt32 &&& Int32.toUInt32 31)).toInt32 &&& (1431655765 : Int32)))).toUInt32 >>> (((2 : Int32)).toUInt32 &&& Int32.toUInt32 31)).toInt32 &&& (858993459 : Int32))))] [] _ _ from ?_)
  exact zy_sub (show zy_le [some (.int (((x0 - (((x0).toUInt32 >>> (((1 : Int32)).toUInt32 &&& Int32.toUInt32 31)).toInt32 &&& (1431655765 : Int32))) &&& (858993459 : Int32)) + ((((x0 - (((x0).toUInt32 >>> (((1 : Int32)).toUInt32 &&& Int32.toUInt32 31)).toInt32 &&& (1431655765 : Int32)))).toUInt32 >>> (((2 : Int32)).toUInt32 &&& Int32.toUInt32 31)).toInt32 &&& (858993459 : Int32))))] [some (.int (((x0 - (((x0).toUInt32 >>> (((1 : Int32)).toUInt32 &&& Int32.toUInt32 31)).toInt32 &&& (1431655765 : Int32))) &&& (858993459 : Int32)) + ((((x0 - (((x0).toUInt32 >>> (((1 : Int32)).toUInt32 &&& Int32.toUInt32 31)).toInt32 &&& (1431655765 : Int32)))).toUInt32 >>> (((2 : Int32)).toUInt32 &&& Int32.toUInt32 31)).toInt32 &&& (858993459 : Int32))))] from ⟨rfl, trivial⟩) (zyC63_24 h)
/-! NineOpinions$Town.standing()I -/
noncomputable def zyF92    (s : zy_S) : Option (Int32 × zy_S) :=
(zyF63 (s.1 1 3) s).bind fun p1 =>
some (p1.1, p1.2)
theorem zyC92 {X : zx_X}      {s : zy_S} {r : Int32} {s' : zy_S}  (h : zyF92 s = some (r, s')) : zyR X 2 92 0 [some (.ref (1 + 3))] [] s (zyE (some (.int r)) s') := by
  unfold zyF92 at h
  refine zy_0 rfl rfl (show zyR _ _ _ _ [some (.ref (1 + 3))] [.ref (1 + 3)] _ _ from ?_)
  refine zy_1 (c := 1) rfl rfl rfl (show zyR _ _ _ _ [some (.ref (1 + 3))] [.int (s.1 1 3)] _ _ from ?_)
  obtain ⟨p1, hp1, h⟩ := zy_bind h
  refine zy_60 (as := [.int (s.1 1 3)]) (rest := []) (L := [some (.int (s.1 1 3))]) (d' := 1) rfl rfl (Nat.le_of_ble_eq_true rfl) (Nat.le_of_ble_eq_true rfl) rfl (Nat.le_of_ble_eq_true rfl) rfl rfl (zyC63 hp1) ?_
  show zyR _ _ _ _ [some (.ref (1 + 3))] [.int p1.1] _ _
  obtain ⟨rfl, rfl⟩ := zy_pi h
  exact zy_4 rfl ⟨rfl, rfl⟩
/-! NineOpinions$Town.hasRoom()Z -/
noncomputable def zyF91    (s : zy_S) : Option (Int32 × zy_S) :=
(zyF92 s).bind fun p1 =>
if (p1.2.1 1 4) ≤ p1.1 then
some ((0 : Int32), p1.2)
else
some ((1 : Int32), p1.2)
theorem zyC91 {X : zx_X}      {s : zy_S} {r : Int32} {s' : zy_S}  (h : zyF91 s = some (r, s')) : zyR X 3 91 0 [some (.ref (1 + 3))] [] s (zyE (some (.int r)) s') := by
  unfold zyF91 at h
  refine zy_0 rfl rfl (show zyR _ _ _ _ [some (.ref (1 + 3))] [.ref (1 + 3)] _ _ from ?_)
  obtain ⟨p1, hp1, h⟩ := zy_bind h
  refine zy_5 (c := 1) (as := []) (rest := []) (L := [some (.ref (1 + 3))]) (d' := 2) rfl rfl rfl (Nat.le_of_ble_eq_true rfl) (Nat.le_of_ble_eq_true rfl) rfl (Nat.le_of_ble_eq_true rfl) rfl rfl (zyC92 hp1) ?_
  show zyR _ _ _ _ [some (.ref (1 + 3))] [.int p1.1] _ _
  refine zy_0 rfl rfl (show zyR _ _ _ _ [some (.ref (1 + 3))] [.ref (1 + 3), .int p1.1] _ _ from ?_)
  refine zy_1 (c := 1) rfl rfl rfl (show zyR _ _ _ _ [some (.ref (1 + 3))] [.int (p1.2.1 1 4), .int p1.1] _ _ from ?_)
  refine zy_25_3 rfl (fun b2 => (show zyR _ _ _ _ [some (.ref (1 + 3))] [] _ _ from ?_)) (fun b2 => (show zyR _ _ _ _ [some (.ref (1 + 3))] [] _ _ from ?_))
  · replace h := zy_ifp h b2
    refine zy_3 rfl rfl (show zyR _ _ _ _ [some (.ref (1 + 3))] [.int (0 : Int32)] _ _ from ?_)
    cases h
    exact zy_4b rfl ⟨rfl, rfl⟩ (Or.inl rfl)
  · replace h := zy_ifn h b2
    refine zy_3 rfl rfl (show zyR _ _ _ _ [some (.ref (1 + 3))] [.int (1 : Int32)] _ _ from ?_)
    refine zy_6 rfl (show zyR _ _ _ _ [some (.ref (1 + 3))] [.int (1 : Int32)] _ _ from ?_)
    cases h
    exact zy_4b rfl ⟨rfl, rfl⟩ (Or.inr rfl)
/-! NineOpinions$Deeds.doWrite(I)I -/
noncomputable def zyF132   (x1 : Int32) (s : zy_S) : Option (Int32 × zy_S) :=
if zy_in x1 24 then
(zyF92 (zy_up (zy_up (zy_up s 1 3 ((s.1 1 3) ||| ((1 : Int32) <<< (x1 &&& 31)))) 2 (x1).toNatClampNeg (0 : Int32)) 18 0 ((s.1 18 0) + (1 : Int32)))).bind fun p2 =>
some (p2.1, p2.2)
else none
theorem zyC132 {X : zx_X}     {x1 : Int32} {s : zy_S} {r : Int32} {s' : zy_S}  (h : zyF132 x1 s = some (r, s')) : zyR X 3 132 0 [some (.ref (17 + 3)), some (.int x1)] [] s (zyE (some (.int r)) s') := by
  unfold zyF132 at h
  refine zy_0 rfl rfl (show zyR _ _ _ _ [some (.ref (17 + 3)), some (.int x1)] [.ref (17 + 3)] _ _ from ?_)
  refine zy_1r (c := 17) rfl rfl rfl (show zyR _ _ _ _ [some (.ref (17 + 3)), some (.int x1)] [.ref (1 + 3)] _ _ from ?_)
  refine zy_33 rfl rfl (show zyR _ _ _ _ [some (.ref (17 + 3)), some (.int x1)] [.ref (1 + 3), .ref (1 + 3)] _ _ from ?_)
  refine zy_1 (c := 1) rfl rfl rfl (show zyR _ _ _ _ [some (.ref (17 + 3)), some (.int x1)] [.int (s.1 1 3), .ref (1 + 3)] _ _ from ?_)
  refine zy_3 rfl rfl (show zyR _ _ _ _ [some (.ref (17 + 3)), some (.int x1)] [.int (1 : Int32), .int (s.1 1 3), .ref (1 + 3)] _ _ from ?_)
  refine zy_2 rfl rfl (show zyR _ _ _ _ [some (.ref (17 + 3)), some (.int x1)] [.int x1, .int (1 : Int32), .int (s.1 1 3), .ref (1 + 3)] _ _ from ?_)
  refine zy_16 rfl (show zyR _ _ _ _ [some (.ref (17 + 3)), some (.int x1)] [.int ((1 : Int32) <<< (x1 &&& 31)), .int (s.1 1 3), .ref (1 + 3)] _ _ from ?_)
  refine zy_14 rfl (show zyR _ _ _ _ [some (.ref (17 + 3)), some (.int x1)] [.int ((s.1 1 3) ||| ((1 : Int32) <<< (x1 &&& 31))), .ref (1 + 3)] _ _ from ?_)
  refine zy_52 (c := 1) rfl rfl rfl (show zyR _ _ _ _ [some (.ref (17 + 3)), some (.int x1)] [] _ _ from ?_)
  refine zy_0 rfl rfl (show zyR _ _ _ _ [some (.ref (17 + 3)), some (.int x1)] [.ref (17 + 3)] _ _ from ?_)
  refine zy_1r (c := 17) rfl rfl rfl (show zyR _ _ _ _ [some (.ref (17 + 3)), some (.int x1)] [.ref (1 + 3)] _ _ from ?_)
  refine zy_1r (c := 1) rfl rfl rfl (show zyR _ _ _ _ [some (.ref (17 + 3)), some (.int x1)] [.ref (2 + 3)] _ _ from ?_)
  refine zy_2 rfl rfl (show zyR _ _ _ _ [some (.ref (17 + 3)), some (.int x1)] [.int x1, .ref (2 + 3)] _ _ from ?_)
  refine zy_3 rfl rfl (show zyR _ _ _ _ [some (.ref (17 + 3)), some (.int x1)] [.int (0 : Int32), .int x1, .ref (2 + 3)] _ _ from ?_)
  obtain ⟨c1, h⟩ := zy_if h
  refine zy_27 (c := 2) rfl rfl c1 (show zyR _ _ _ _ [some (.ref (17 + 3)), some (.int x1)] [] _ _ from ?_)
  refine zy_0 rfl rfl (show zyR _ _ _ _ [some (.ref (17 + 3)), some (.int x1)] [.ref (17 + 3)] _ _ from ?_)
  refine zy_1r (c := 17) rfl rfl rfl (show zyR _ _ _ _ [some (.ref (17 + 3)), some (.int x1)] [.ref (18 + 3)] _ _ from ?_)
  refine zy_3 rfl rfl (show zyR _ _ _ _ [some (.ref (17 + 3)), some (.int x1)] [.int (0 : Int32), .ref (18 + 3)] _ _ from ?_)
  refine zy_35 rfl rfl rfl (show zyR _ _ _ _ [some (.ref (17 + 3)), some (.int x1)] [.int (0 : Int32), .ref (18 + 3), .int (0 : Int32), .ref (18 + 3)] _ _ from ?_)
  refine zy_26 (c := 18) rfl rfl (by decide) (show zyR _ _ _ _ [some (.ref (17 + 3)), some (.int x1)] [.int (s.1 18 0), .int (0 : Int32), .ref (18 + 3)] _ _ from ?_)
  refine zy_3 rfl rfl (show zyR _ _ _ _ [some (.ref (17 + 3)), some (.int x1)] [.int (1 : Int32), .int (s.1 18 0), .int (0 : Int32), .ref (18 + 3)] _ _ from ?_)
  refine zy_10 rfl (show zyR _ _ _ _ [some (.ref (17 + 3)), some (.int x1)] [.int ((s.1 18 0) + (1 : Int32)), .int (0 : Int32), .ref (18 + 3)] _ _ from ?_)
  refine zy_27 (c := 18) rfl rfl (by decide) (show zyR _ _ _ _ [some (.ref (17 + 3)), some (.int x1)] [] _ _ from ?_)
  refine zy_0 rfl rfl (show zyR _ _ _ _ [some (.ref (17 + 3)), some (.int x1)] [.ref (17 + 3)] _ _ from ?_)
  refine zy_1r (c := 17) rfl rfl rfl (show zyR _ _ _ _ [some (.ref (17 + 3)), some (.int x1)] [.ref (1 + 3)] _ _ from ?_)
  obtain ⟨p2, hp2, h⟩ := zy_bind h
  refine zy_5 (c := 1) (as := []) (rest := []) (L := [some (.ref (1 + 3))]) (d' := 2) rfl rfl rfl (Nat.le_of_ble_eq_true rfl) (Nat.le_of_ble_eq_true rfl) rfl (Nat.le_of_ble_eq_true rfl) rfl rfl (zyC92 hp2) ?_
  show zyR _ _ _ _ [some (.ref (17 + 3)), some (.int x1)] [.int p2.1] _ _
  obtain ⟨rfl, rfl⟩ := zy_pi h
  exact zy_4 rfl ⟨rfl, rfl⟩
/-! NineOpinions.write(I)I -/
noncomputable def zyF131   (x1 : Int32) (s : zy_S) : Option (Int32 × zy_S) :=
(zyF26 x1 s).bind fun p1 =>
if p1.1 ≠ 0 then
(zyF86 x1 p1.2).bind fun p2 =>
if p2.1 ≠ 0 then
some ((-5 : Int32), p2.2)
else
(zyF91 p2.2).bind fun p3 =>
if p3.1 ≠ 0 then
(zyF132 x1 p3.2).bind fun p4 =>
some (p4.1, p4.2)
else
some ((-5 : Int32), p3.2)
else
some ((-1 : Int32), p1.2)
theorem zyC131 {X : zx_X}     {x1 : Int32} {s : zy_S} {r : Int32} {s' : zy_S}  (h : zyF131 x1 s = some (r, s')) : zyR X 4 131 0 [some (.ref (0 + 3)), some (.int x1)] [] s (zyE (some (.int r)) s') := by
  unfold zyF131 at h
  refine zy_2 rfl rfl (show zyR _ _ _ _ [some (.ref (0 + 3)), some (.int x1)] [.int x1] _ _ from ?_)
  obtain ⟨p1, hp1, h⟩ := zy_bind h
  refine zy_60 (as := [.int x1]) (rest := []) (L := [some (.int x1)]) (d' := 1) rfl rfl (Nat.le_of_ble_eq_true rfl) (Nat.le_of_ble_eq_true rfl) rfl (Nat.le_of_ble_eq_true rfl) rfl rfl (zyC26 hp1) ?_
  show zyR _ _ _ _ [some (.ref (0 + 3)), some (.int x1)] [.int p1.1] _ _
  refine zy_24_1 rfl (fun b7 => (show zyR _ _ _ _ [some (.ref (0 + 3)), some (.int x1)] [] _ _ from ?_)) (fun b7 => (show zyR _ _ _ _ [some (.ref (0 + 3)), some (.int x1)] [] _ _ from ?_))
  · replace h := zy_ifp h b7
    refine zy_0 rfl rfl (show zyR _ _ _ _ [some (.ref (0 + 3)), some (.int x1)] [.ref (0 + 3)] _ _ from ?_)
    refine zy_1r (c := 0) rfl rfl rfl (show zyR _ _ _ _ [some (.ref (0 + 3)), some (.int x1)] [.ref (1 + 3)] _ _ from ?_)
    refine zy_2 rfl rfl (show zyR _ _ _ _ [some (.ref (0 + 3)), some (.int x1)] [.int x1, .ref (1 + 3)] _ _ from ?_)
    obtain ⟨p2, hp2, h⟩ := zy_bind h
    refine zy_5 (c := 1) (as := [.int x1]) (rest := []) (L := [some (.ref (1 + 3)), some (.int x1)]) (d' := 2) rfl rfl rfl (Nat.le_of_ble_eq_true rfl) (Nat.le_of_ble_eq_true rfl) rfl (Nat.le_of_ble_eq_true rfl) rfl rfl (zyC86 hp2) ?_
    show zyR _ _ _ _ [some (.ref (0 + 3)), some (.int x1)] [.int p2.1] _ _
    refine zy_24_1 rfl (fun b6 => (show zyR _ _ _ _ [some (.ref (0 + 3)), some (.int x1)] [] _ _ from ?_)) (fun b6 => (show zyR _ _ _ _ [some (.ref (0 + 3)), some (.int x1)] [] _ _ from ?_))
    · replace h := zy_ifp h b6
      refine zy_3 rfl rfl (show zyR _ _ _ _ [some (.ref (0 + 3)), some (.int x1)] [.int (-5 : Int32)] _ _ from ?_)
      refine zy_6 rfl (show zyR _ _ _ _ [some (.ref (0 + 3)), some (.int x1)] [.int (-5 : Int32)] _ _ from ?_)
      obtain ⟨rfl, rfl⟩ := zy_pi h
      exact zy_4 rfl ⟨rfl, rfl⟩
    · replace h := zy_ifn h b6
      refine zy_0 rfl rfl (show zyR _ _ _ _ [some (.ref (0 + 3)), some (.int x1)] [.ref (0 + 3)] _ _ from ?_)
      refine zy_1r (c := 0) rfl rfl rfl (show zyR _ _ _ _ [some (.ref (0 + 3)), some (.int x1)] [.ref (1 + 3)] _ _ from ?_)
      obtain ⟨p3, hp3, h⟩ := zy_bind h
      refine zy_5 (c := 1) (as := []) (rest := []) (L := [some (.ref (1 + 3))]) (d' := 3) rfl rfl rfl (Nat.le_of_ble_eq_true rfl) (Nat.le_of_ble_eq_true rfl) rfl (Nat.le_of_ble_eq_true rfl) rfl rfl (zyC91 hp3) ?_
      show zyR _ _ _ _ [some (.ref (0 + 3)), some (.int x1)] [.int p3.1] _ _
      refine zy_24_1 rfl (fun b5 => (show zyR _ _ _ _ [some (.ref (0 + 3)), some (.int x1)] [] _ _ from ?_)) (fun b5 => (show zyR _ _ _ _ [some (.ref (0 + 3)), some (.int x1)] [] _ _ from ?_))
      · replace h := zy_ifp h b5
        refine zy_0 rfl rfl (show zyR _ _ _ _ [some (.ref (0 + 3)), some (.int x1)] [.ref (0 + 3)] _ _ from ?_)
        refine zy_1r (c := 0) rfl rfl rfl (show zyR _ _ _ _ [some (.ref (0 + 3)), some (.int x1)] [.ref (17 + 3)] _ _ from ?_)
        refine zy_2 rfl rfl (show zyR _ _ _ _ [some (.ref (0 + 3)), some (.int x1)] [.int x1, .ref (17 + 3)] _ _ from ?_)
        obtain ⟨p4, hp4, h⟩ := zy_bind h
        refine zy_5 (c := 17) (as := [.int x1]) (rest := []) (L := [some (.ref (17 + 3)), some (.int x1)]) (d' := 3) rfl rfl rfl (Nat.le_of_ble_eq_true rfl) (Nat.le_of_ble_eq_true rfl) rfl (Nat.le_of_ble_eq_true rfl) rfl rfl (zyC132 hp4) ?_
        show zyR _ _ _ _ [some (.ref (0 + 3)), some (.int x1)] [.int p4.1] _ _
        obtain ⟨rfl, rfl⟩ := zy_pi h
        exact zy_4 rfl ⟨rfl, rfl⟩
      · replace h := zy_ifn h b5
        refine zy_3 rfl rfl (show zyR _ _ _ _ [some (.ref (0 + 3)), some (.int x1)] [.int (-5 : Int32)] _ _ from ?_)
        refine zy_6 rfl (show zyR _ _ _ _ [some (.ref (0 + 3)), some (.int x1)] [.int (-5 : Int32)] _ _ from ?_)
        obtain ⟨rfl, rfl⟩ := zy_pi h
        exact zy_4 rfl ⟨rfl, rfl⟩
  · replace h := zy_ifn h b7
    refine zy_3 rfl rfl (show zyR _ _ _ _ [some (.ref (0 + 3)), some (.int x1)] [.int (-1 : Int32)] _ _ from ?_)
    obtain ⟨rfl, rfl⟩ := zy_pi h
    exact zy_4 rfl ⟨rfl, rfl⟩
/-! NineOpinions$Deeds.doStrike(I)I -/
noncomputable def zyF134   (x1 : Int32) (s : zy_S) : Option (Int32 × zy_S) :=
(zyF92 (zy_up (zy_up s 1 3 ((s.1 1 3) &&& (((1 : Int32) <<< (x1 &&& 31)) ^^^ (-1 : Int32)))) 18 1 ((s.1 18 1) + (1 : Int32)))).bind fun p1 =>
some (p1.1, p1.2)
theorem zyC134 {X : zx_X}     {x1 : Int32} {s : zy_S} {r : Int32} {s' : zy_S}  (h : zyF134 x1 s = some (r, s')) : zyR X 3 134 0 [some (.ref (17 + 3)), some (.int x1)] [] s (zyE (some (.int r)) s') := by
  unfold zyF134 at h
  refine zy_0 rfl rfl (show zyR _ _ _ _ [some (.ref (17 + 3)), some (.int x1)] [.ref (17 + 3)] _ _ from ?_)
  refine zy_1r (c := 17) rfl rfl rfl (show zyR _ _ _ _ [some (.ref (17 + 3)), some (.int x1)] [.ref (1 + 3)] _ _ from ?_)
  refine zy_33 rfl rfl (show zyR _ _ _ _ [some (.ref (17 + 3)), some (.int x1)] [.ref (1 + 3), .ref (1 + 3)] _ _ from ?_)
  refine zy_1 (c := 1) rfl rfl rfl (show zyR _ _ _ _ [some (.ref (17 + 3)), some (.int x1)] [.int (s.1 1 3), .ref (1 + 3)] _ _ from ?_)
  refine zy_3 rfl rfl (show zyR _ _ _ _ [some (.ref (17 + 3)), some (.int x1)] [.int (1 : Int32), .int (s.1 1 3), .ref (1 + 3)] _ _ from ?_)
  refine zy_2 rfl rfl (show zyR _ _ _ _ [some (.ref (17 + 3)), some (.int x1)] [.int x1, .int (1 : Int32), .int (s.1 1 3), .ref (1 + 3)] _ _ from ?_)
  refine zy_16 rfl (show zyR _ _ _ _ [some (.ref (17 + 3)), some (.int x1)] [.int ((1 : Int32) <<< (x1 &&& 31)), .int (s.1 1 3), .ref (1 + 3)] _ _ from ?_)
  refine zy_3 rfl rfl (show zyR _ _ _ _ [some (.ref (17 + 3)), some (.int x1)] [.int (-1 : Int32), .int ((1 : Int32) <<< (x1 &&& 31)), .int (s.1 1 3), .ref (1 + 3)] _ _ from ?_)
  refine zy_15 rfl (show zyR _ _ _ _ [some (.ref (17 + 3)), some (.int x1)] [.int (((1 : Int32) <<< (x1 &&& 31)) ^^^ (-1 : Int32)), .int (s.1 1 3), .ref (1 + 3)] _ _ from ?_)
  refine zy_13 rfl (show zyR _ _ _ _ [some (.ref (17 + 3)), some (.int x1)] [.int ((s.1 1 3) &&& (((1 : Int32) <<< (x1 &&& 31)) ^^^ (-1 : Int32))), .ref (1 + 3)] _ _ from ?_)
  refine zy_52 (c := 1) rfl rfl rfl (show zyR _ _ _ _ [some (.ref (17 + 3)), some (.int x1)] [] _ _ from ?_)
  refine zy_0 rfl rfl (show zyR _ _ _ _ [some (.ref (17 + 3)), some (.int x1)] [.ref (17 + 3)] _ _ from ?_)
  refine zy_1r (c := 17) rfl rfl rfl (show zyR _ _ _ _ [some (.ref (17 + 3)), some (.int x1)] [.ref (18 + 3)] _ _ from ?_)
  refine zy_3 rfl rfl (show zyR _ _ _ _ [some (.ref (17 + 3)), some (.int x1)] [.int (1 : Int32), .ref (18 + 3)] _ _ from ?_)
  refine zy_35 rfl rfl rfl (show zyR _ _ _ _ [some (.ref (17 + 3)), some (.int x1)] [.int (1 : Int32), .ref (18 + 3), .int (1 : Int32), .ref (18 + 3)] _ _ from ?_)
  refine zy_26 (c := 18) rfl rfl (by decide) (show zyR _ _ _ _ [some (.ref (17 + 3)), some (.int x1)] [.int (s.1 18 1), .int (1 : Int32), .ref (18 + 3)] _ _ from ?_)
  refine zy_3 rfl rfl (show zyR _ _ _ _ [some (.ref (17 + 3)), some (.int x1)] [.int (1 : Int32), .int (s.1 18 1), .int (1 : Int32), .ref (18 + 3)] _ _ from ?_)
  refine zy_10 rfl (show zyR _ _ _ _ [some (.ref (17 + 3)), some (.int x1)] [.int ((s.1 18 1) + (1 : Int32)), .int (1 : Int32), .ref (18 + 3)] _ _ from ?_)
  refine zy_27 (c := 18) rfl rfl (by decide) (show zyR _ _ _ _ [some (.ref (17 + 3)), some (.int x1)] [] _ _ from ?_)
  refine zy_0 rfl rfl (show zyR _ _ _ _ [some (.ref (17 + 3)), some (.int x1)] [.ref (17 + 3)] _ _ from ?_)
  refine zy_1r (c := 17) rfl rfl rfl (show zyR _ _ _ _ [some (.ref (17 + 3)), some (.int x1)] [.ref (1 + 3)] _ _ from ?_)
  obtain ⟨p1, hp1, h⟩ := zy_bind h
  refine zy_5 (c := 1) (as := []) (rest := []) (L := [some (.ref (1 + 3))]) (d' := 2) rfl rfl rfl (Nat.le_of_ble_eq_true rfl) (Nat.le_of_ble_eq_true rfl) rfl (Nat.le_of_ble_eq_true rfl) rfl rfl (zyC92 hp1) ?_
  show zyR _ _ _ _ [some (.ref (17 + 3)), some (.int x1)] [.int p1.1] _ _
  obtain ⟨rfl, rfl⟩ := zy_pi h
  exact zy_4 rfl ⟨rfl, rfl⟩
/-! NineOpinions.strike(I)I -/
noncomputable def zyF133   (x1 : Int32) (s : zy_S) : Option (Int32 × zy_S) :=
(zyF26 x1 s).bind fun p1 =>
if p1.1 ≠ 0 then
(zyF86 x1 p1.2).bind fun p2 =>
if p2.1 = 0 then
some ((-5 : Int32), p2.2)
else
(zyF134 x1 p2.2).bind fun p3 =>
some (p3.1, p3.2)
else
some ((-1 : Int32), p1.2)
theorem zyC133 {X : zx_X}     {x1 : Int32} {s : zy_S} {r : Int32} {s' : zy_S}  (h : zyF133 x1 s = some (r, s')) : zyR X 4 133 0 [some (.ref (0 + 3)), some (.int x1)] [] s (zyE (some (.int r)) s') := by
  unfold zyF133 at h
  refine zy_2 rfl rfl (show zyR _ _ _ _ [some (.ref (0 + 3)), some (.int x1)] [.int x1] _ _ from ?_)
  obtain ⟨p1, hp1, h⟩ := zy_bind h
  refine zy_60 (as := [.int x1]) (rest := []) (L := [some (.int x1)]) (d' := 1) rfl rfl (Nat.le_of_ble_eq_true rfl) (Nat.le_of_ble_eq_true rfl) rfl (Nat.le_of_ble_eq_true rfl) rfl rfl (zyC26 hp1) ?_
  show zyR _ _ _ _ [some (.ref (0 + 3)), some (.int x1)] [.int p1.1] _ _
  refine zy_24_1 rfl (fun b5 => (show zyR _ _ _ _ [some (.ref (0 + 3)), some (.int x1)] [] _ _ from ?_)) (fun b5 => (show zyR _ _ _ _ [some (.ref (0 + 3)), some (.int x1)] [] _ _ from ?_))
  · replace h := zy_ifp h b5
    refine zy_0 rfl rfl (show zyR _ _ _ _ [some (.ref (0 + 3)), some (.int x1)] [.ref (0 + 3)] _ _ from ?_)
    refine zy_1r (c := 0) rfl rfl rfl (show zyR _ _ _ _ [some (.ref (0 + 3)), some (.int x1)] [.ref (1 + 3)] _ _ from ?_)
    refine zy_2 rfl rfl (show zyR _ _ _ _ [some (.ref (0 + 3)), some (.int x1)] [.int x1, .ref (1 + 3)] _ _ from ?_)
    obtain ⟨p2, hp2, h⟩ := zy_bind h
    refine zy_5 (c := 1) (as := [.int x1]) (rest := []) (L := [some (.ref (1 + 3)), some (.int x1)]) (d' := 2) rfl rfl rfl (Nat.le_of_ble_eq_true rfl) (Nat.le_of_ble_eq_true rfl) rfl (Nat.le_of_ble_eq_true rfl) rfl rfl (zyC86 hp2) ?_
    show zyR _ _ _ _ [some (.ref (0 + 3)), some (.int x1)] [.int p2.1] _ _
    refine zy_24_0 rfl (fun b4 => (show zyR _ _ _ _ [some (.ref (0 + 3)), some (.int x1)] [] _ _ from ?_)) (fun b4 => (show zyR _ _ _ _ [some (.ref (0 + 3)), some (.int x1)] [] _ _ from ?_))
    · replace h := zy_ifp h b4
      refine zy_3 rfl rfl (show zyR _ _ _ _ [some (.ref (0 + 3)), some (.int x1)] [.int (-5 : Int32)] _ _ from ?_)
      obtain ⟨rfl, rfl⟩ := zy_pi h
      exact zy_4 rfl ⟨rfl, rfl⟩
    · replace h := zy_ifn h b4
      refine zy_0 rfl rfl (show zyR _ _ _ _ [some (.ref (0 + 3)), some (.int x1)] [.ref (0 + 3)] _ _ from ?_)
      refine zy_1r (c := 0) rfl rfl rfl (show zyR _ _ _ _ [some (.ref (0 + 3)), some (.int x1)] [.ref (17 + 3)] _ _ from ?_)
      refine zy_2 rfl rfl (show zyR _ _ _ _ [some (.ref (0 + 3)), some (.int x1)] [.int x1, .ref (17 + 3)] _ _ from ?_)
      obtain ⟨p3, hp3, h⟩ := zy_bind h
      refine zy_5 (c := 17) (as := [.int x1]) (rest := []) (L := [some (.ref (17 + 3)), some (.int x1)]) (d' := 3) rfl rfl rfl (Nat.le_of_ble_eq_true rfl) (Nat.le_of_ble_eq_true rfl) rfl (Nat.le_of_ble_eq_true rfl) rfl rfl (zyC134 hp3) ?_
      show zyR _ _ _ _ [some (.ref (0 + 3)), some (.int x1)] [.int p3.1] _ _
      refine zy_6 rfl (show zyR _ _ _ _ [some (.ref (0 + 3)), some (.int x1)] [.int p3.1] _ _ from ?_)
      obtain ⟨rfl, rfl⟩ := zy_pi h
      exact zy_4 rfl ⟨rfl, rfl⟩
  · replace h := zy_ifn h b5
    refine zy_3 rfl rfl (show zyR _ _ _ _ [some (.ref (0 + 3)), some (.int x1)] [.int (-1 : Int32)] _ _ from ?_)
    obtain ⟨rfl, rfl⟩ := zy_pi h
    exact zy_4 rfl ⟨rfl, rfl⟩
/-! NineOpinions$Deeds.doRub(I)I -/
noncomputable def zyF136   (x1 : Int32) (s : zy_S) : Option (Int32 × zy_S) :=
if zy_in x1 24 then
if (s.1 2 (x1).toNatClampNeg) < (9 : Int32) then
if zy_in x1 24 then
if zy_in x1 24 then
if zy_in x1 24 then
some (((zy_up (zy_up s 18 2 ((s.1 18 2) + (1 : Int32))) 2 (x1).toNatClampNeg ((s.1 2 (x1).toNatClampNeg) + (1 : Int32))).1 2 (x1).toNatClampNeg), (zy_up (zy_up s 18 2 ((s.1 18 2) + (1 : Int32))) 2 (x1).toNatClampNeg ((s.1 2 (x1).toNatClampNeg) + (1 : Int32))))
else none
else none
else none
else
some ((10 : Int32), (zy_up (zy_up (zy_up s 18 2 ((s.1 18 2) + (1 : Int32))) 1 3 ((s.1 1 3) &&& (((1 : Int32) <<< (x1 &&& 31)) ^^^ (-1 : Int32)))) 18 4 ((s.1 18 4) + (1 : Int32))))
else none
theorem zyC136 {X : zx_X}     {x1 : Int32} {s : zy_S} {r : Int32} {s' : zy_S}  (h : zyF136 x1 s = some (r, s')) : zyR X 1 136 0 [some (.ref (17 + 3)), some (.int x1)] [] s (zyE (some (.int r)) s') := by
  unfold zyF136 at h
  refine zy_0 rfl rfl (show zyR _ _ _ _ [some (.ref (17 + 3)), some (.int x1)] [.ref (17 + 3)] _ _ from ?_)
  refine zy_1r (c := 17) rfl rfl rfl (show zyR _ _ _ _ [some (.ref (17 + 3)), some (.int x1)] [.ref (18 + 3)] _ _ from ?_)
  refine zy_3 rfl rfl (show zyR _ _ _ _ [some (.ref (17 + 3)), some (.int x1)] [.int (2 : Int32), .ref (18 + 3)] _ _ from ?_)
  refine zy_35 rfl rfl rfl (show zyR _ _ _ _ [some (.ref (17 + 3)), some (.int x1)] [.int (2 : Int32), .ref (18 + 3), .int (2 : Int32), .ref (18 + 3)] _ _ from ?_)
  refine zy_26 (c := 18) rfl rfl (by decide) (show zyR _ _ _ _ [some (.ref (17 + 3)), some (.int x1)] [.int (s.1 18 2), .int (2 : Int32), .ref (18 + 3)] _ _ from ?_)
  refine zy_3 rfl rfl (show zyR _ _ _ _ [some (.ref (17 + 3)), some (.int x1)] [.int (1 : Int32), .int (s.1 18 2), .int (2 : Int32), .ref (18 + 3)] _ _ from ?_)
  refine zy_10 rfl (show zyR _ _ _ _ [some (.ref (17 + 3)), some (.int x1)] [.int ((s.1 18 2) + (1 : Int32)), .int (2 : Int32), .ref (18 + 3)] _ _ from ?_)
  refine zy_27 (c := 18) rfl rfl (by decide) (show zyR _ _ _ _ [some (.ref (17 + 3)), some (.int x1)] [] _ _ from ?_)
  refine zy_0 rfl rfl (show zyR _ _ _ _ [some (.ref (17 + 3)), some (.int x1)] [.ref (17 + 3)] _ _ from ?_)
  refine zy_1r (c := 17) rfl rfl rfl (show zyR _ _ _ _ [some (.ref (17 + 3)), some (.int x1)] [.ref (1 + 3)] _ _ from ?_)
  refine zy_1r (c := 1) rfl rfl rfl (show zyR _ _ _ _ [some (.ref (17 + 3)), some (.int x1)] [.ref (2 + 3)] _ _ from ?_)
  refine zy_2 rfl rfl (show zyR _ _ _ _ [some (.ref (17 + 3)), some (.int x1)] [.int x1, .ref (2 + 3)] _ _ from ?_)
  obtain ⟨c1, h⟩ := zy_if h
  refine zy_26 (c := 2) rfl rfl c1 (show zyR _ _ _ _ [some (.ref (17 + 3)), some (.int x1)] [.int (s.1 2 (x1).toNatClampNeg)] _ _ from ?_)
  refine zy_3 rfl rfl (show zyR _ _ _ _ [some (.ref (17 + 3)), some (.int x1)] [.int (9 : Int32), .int (s.1 2 (x1).toNatClampNeg)] _ _ from ?_)
  refine zy_25_2 rfl (fun b5 => (show zyR _ _ _ _ [some (.ref (17 + 3)), some (.int x1)] [] _ _ from ?_)) (fun b5 => (show zyR _ _ _ _ [some (.ref (17 + 3)), some (.int x1)] [] _ _ from ?_))
  · replace h := zy_ifp h b5
    refine zy_0 rfl rfl (show zyR _ _ _ _ [some (.ref (17 + 3)), some (.int x1)] [.ref (17 + 3)] _ _ from ?_)
    refine zy_1r (c := 17) rfl rfl rfl (show zyR _ _ _ _ [some (.ref (17 + 3)), some (.int x1)] [.ref (1 + 3)] _ _ from ?_)
    refine zy_1r (c := 1) rfl rfl rfl (show zyR _ _ _ _ [some (.ref (17 + 3)), some (.int x1)] [.ref (2 + 3)] _ _ from ?_)
    refine zy_2 rfl rfl (show zyR _ _ _ _ [some (.ref (17 + 3)), some (.int x1)] [.int x1, .ref (2 + 3)] _ _ from ?_)
    refine zy_35 rfl rfl rfl (show zyR _ _ _ _ [some (.ref (17 + 3)), some (.int x1)] [.int x1, .ref (2 + 3), .int x1, .ref (2 + 3)] _ _ from ?_)
    obtain ⟨c2, h⟩ := zy_if h
    refine zy_26 (c := 2) rfl rfl c2 (show zyR _ _ _ _ [some (.ref (17 + 3)), some (.int x1)] [.int (s.1 2 (x1).toNatClampNeg), .int x1, .ref (2 + 3)] _ _ from ?_)
    refine zy_3 rfl rfl (show zyR _ _ _ _ [some (.ref (17 + 3)), some (.int x1)] [.int (1 : Int32), .int (s.1 2 (x1).toNatClampNeg), .int x1, .ref (2 + 3)] _ _ from ?_)
    refine zy_10 rfl (show zyR _ _ _ _ [some (.ref (17 + 3)), some (.int x1)] [.int ((s.1 2 (x1).toNatClampNeg) + (1 : Int32)), .int x1, .ref (2 + 3)] _ _ from ?_)
    obtain ⟨c3, h⟩ := zy_if h
    refine zy_27 (c := 2) rfl rfl c3 (show zyR _ _ _ _ [some (.ref (17 + 3)), some (.int x1)] [] _ _ from ?_)
    refine zy_0 rfl rfl (show zyR _ _ _ _ [some (.ref (17 + 3)), some (.int x1)] [.ref (17 + 3)] _ _ from ?_)
    refine zy_1r (c := 17) rfl rfl rfl (show zyR _ _ _ _ [some (.ref (17 + 3)), some (.int x1)] [.ref (1 + 3)] _ _ from ?_)
    refine zy_1r (c := 1) rfl rfl rfl (show zyR _ _ _ _ [some (.ref (17 + 3)), some (.int x1)] [.ref (2 + 3)] _ _ from ?_)
    refine zy_2 rfl rfl (show zyR _ _ _ _ [some (.ref (17 + 3)), some (.int x1)] [.int x1, .ref (2 + 3)] _ _ from ?_)
    obtain ⟨c4, h⟩ := zy_if h
    refine zy_26 (c := 2) rfl rfl c4 (show zyR _ _ _ _ [some (.ref (17 + 3)), some (.int x1)] [.int ((zy_up (zy_up s 18 2 ((s.1 18 2) + (1 : Int32))) 2 (x1).toNatClampNeg ((s.1 2 (x1).toNatClampNeg) + (1 : Int32))).1 2 (x1).toNatClampNeg)] _ _ from ?_)
    obtain ⟨rfl, rfl⟩ := zy_pi h
    exact zy_4 rfl ⟨rfl, rfl⟩
  · replace h := zy_ifn h b5
    refine zy_0 rfl rfl (show zyR _ _ _ _ [some (.ref (17 + 3)), some (.int x1)] [.ref (17 + 3)] _ _ from ?_)
    refine zy_1r (c := 17) rfl rfl rfl (show zyR _ _ _ _ [some (.ref (17 + 3)), some (.int x1)] [.ref (1 + 3)] _ _ from ?_)
    refine zy_33 rfl rfl (show zyR _ _ _ _ [some (.ref (17 + 3)), some (.int x1)] [.ref (1 + 3), .ref (1 + 3)] _ _ from ?_)
    refine zy_1 (c := 1) rfl rfl rfl (show zyR _ _ _ _ [some (.ref (17 + 3)), some (.int x1)] [.int (s.1 1 3), .ref (1 + 3)] _ _ from ?_)
    refine zy_3 rfl rfl (show zyR _ _ _ _ [some (.ref (17 + 3)), some (.int x1)] [.int (1 : Int32), .int (s.1 1 3), .ref (1 + 3)] _ _ from ?_)
    refine zy_2 rfl rfl (show zyR _ _ _ _ [some (.ref (17 + 3)), some (.int x1)] [.int x1, .int (1 : Int32), .int (s.1 1 3), .ref (1 + 3)] _ _ from ?_)
    refine zy_16 rfl (show zyR _ _ _ _ [some (.ref (17 + 3)), some (.int x1)] [.int ((1 : Int32) <<< (x1 &&& 31)), .int (s.1 1 3), .ref (1 + 3)] _ _ from ?_)
    refine zy_3 rfl rfl (show zyR _ _ _ _ [some (.ref (17 + 3)), some (.int x1)] [.int (-1 : Int32), .int ((1 : Int32) <<< (x1 &&& 31)), .int (s.1 1 3), .ref (1 + 3)] _ _ from ?_)
    refine zy_15 rfl (show zyR _ _ _ _ [some (.ref (17 + 3)), some (.int x1)] [.int (((1 : Int32) <<< (x1 &&& 31)) ^^^ (-1 : Int32)), .int (s.1 1 3), .ref (1 + 3)] _ _ from ?_)
    refine zy_13 rfl (show zyR _ _ _ _ [some (.ref (17 + 3)), some (.int x1)] [.int ((s.1 1 3) &&& (((1 : Int32) <<< (x1 &&& 31)) ^^^ (-1 : Int32))), .ref (1 + 3)] _ _ from ?_)
    refine zy_52 (c := 1) rfl rfl rfl (show zyR _ _ _ _ [some (.ref (17 + 3)), some (.int x1)] [] _ _ from ?_)
    refine zy_0 rfl rfl (show zyR _ _ _ _ [some (.ref (17 + 3)), some (.int x1)] [.ref (17 + 3)] _ _ from ?_)
    refine zy_1r (c := 17) rfl rfl rfl (show zyR _ _ _ _ [some (.ref (17 + 3)), some (.int x1)] [.ref (18 + 3)] _ _ from ?_)
    refine zy_3 rfl rfl (show zyR _ _ _ _ [some (.ref (17 + 3)), some (.int x1)] [.int (4 : Int32), .ref (18 + 3)] _ _ from ?_)
    refine zy_35 rfl rfl rfl (show zyR _ _ _ _ [some (.ref (17 + 3)), some (.int x1)] [.int (4 : Int32), .ref (18 + 3), .int (4 : Int32), .ref (18 + 3)] _ _ from ?_)
    refine zy_26 (c := 18) rfl rfl (by decide) (show zyR _ _ _ _ [some (.ref (17 + 3)), some (.int x1)] [.int (s.1 18 4), .int (4 : Int32), .ref (18 + 3)] _ _ from ?_)
    refine zy_3 rfl rfl (show zyR _ _ _ _ [some (.ref (17 + 3)), some (.int x1)] [.int (1 : Int32), .int (s.1 18 4), .int (4 : Int32), .ref (18 + 3)] _ _ from ?_)
    refine zy_10 rfl (show zyR _ _ _ _ [some (.ref (17 + 3)), some (.int x1)] [.int ((s.1 18 4) + (1 : Int32)), .int (4 : Int32), .ref (18 + 3)] _ _ from ?_)
    refine zy_27 (c := 18) rfl rfl (by decide) (show zyR _ _ _ _ [some (.ref (17 + 3)), some (.int x1)] [] _ _ from ?_)
    refine zy_3 rfl rfl (show zyR _ _ _ _ [some (.ref (17 + 3)), some (.int x1)] [.int (10 : Int32)] _ _ from ?_)
    obtain ⟨rfl, rfl⟩ := zy_pi h
    exact zy_4 rfl ⟨rfl, rfl⟩
/-! NineOpinions.rub(I)I -/
noncomputable def zyF135   (x1 : Int32) (s : zy_S) : Option (Int32 × zy_S) :=
(zyF26 x1 s).bind fun p1 =>
if p1.1 ≠ 0 then
(zyF86 x1 p1.2).bind fun p2 =>
if p2.1 = 0 then
some ((-5 : Int32), p2.2)
else
(zyF136 x1 p2.2).bind fun p3 =>
some (p3.1, p3.2)
else
some ((-1 : Int32), p1.2)
theorem zyC135 {X : zx_X}     {x1 : Int32} {s : zy_S} {r : Int32} {s' : zy_S}  (h : zyF135 x1 s = some (r, s')) : zyR X 3 135 0 [some (.ref (0 + 3)), some (.int x1)] [] s (zyE (some (.int r)) s') := by
  unfold zyF135 at h
  refine zy_2 rfl rfl (show zyR _ _ _ _ [some (.ref (0 + 3)), some (.int x1)] [.int x1] _ _ from ?_)
  obtain ⟨p1, hp1, h⟩ := zy_bind h
  refine zy_60 (as := [.int x1]) (rest := []) (L := [some (.int x1)]) (d' := 1) rfl rfl (Nat.le_of_ble_eq_true rfl) (Nat.le_of_ble_eq_true rfl) rfl (Nat.le_of_ble_eq_true rfl) rfl rfl (zyC26 hp1) ?_
  show zyR _ _ _ _ [some (.ref (0 + 3)), some (.int x1)] [.int p1.1] _ _
  refine zy_24_1 rfl (fun b5 => (show zyR _ _ _ _ [some (.ref (0 + 3)), some (.int x1)] [] _ _ from ?_)) (fun b5 => (show zyR _ _ _ _ [some (.ref (0 + 3)), some (.int x1)] [] _ _ from ?_))
  · replace h := zy_ifp h b5
    refine zy_0 rfl rfl (show zyR _ _ _ _ [some (.ref (0 + 3)), some (.int x1)] [.ref (0 + 3)] _ _ from ?_)
    refine zy_1r (c := 0) rfl rfl rfl (show zyR _ _ _ _ [some (.ref (0 + 3)), some (.int x1)] [.ref (1 + 3)] _ _ from ?_)
    refine zy_2 rfl rfl (show zyR _ _ _ _ [some (.ref (0 + 3)), some (.int x1)] [.int x1, .ref (1 + 3)] _ _ from ?_)
    obtain ⟨p2, hp2, h⟩ := zy_bind h
    refine zy_5 (c := 1) (as := [.int x1]) (rest := []) (L := [some (.ref (1 + 3)), some (.int x1)]) (d' := 2) rfl rfl rfl (Nat.le_of_ble_eq_true rfl) (Nat.le_of_ble_eq_true rfl) rfl (Nat.le_of_ble_eq_true rfl) rfl rfl (zyC86 hp2) ?_
    show zyR _ _ _ _ [some (.ref (0 + 3)), some (.int x1)] [.int p2.1] _ _
    refine zy_24_0 rfl (fun b4 => (show zyR _ _ _ _ [some (.ref (0 + 3)), some (.int x1)] [] _ _ from ?_)) (fun b4 => (show zyR _ _ _ _ [some (.ref (0 + 3)), some (.int x1)] [] _ _ from ?_))
    · replace h := zy_ifp h b4
      refine zy_3 rfl rfl (show zyR _ _ _ _ [some (.ref (0 + 3)), some (.int x1)] [.int (-5 : Int32)] _ _ from ?_)
      obtain ⟨rfl, rfl⟩ := zy_pi h
      exact zy_4 rfl ⟨rfl, rfl⟩
    · replace h := zy_ifn h b4
      refine zy_0 rfl rfl (show zyR _ _ _ _ [some (.ref (0 + 3)), some (.int x1)] [.ref (0 + 3)] _ _ from ?_)
      refine zy_1r (c := 0) rfl rfl rfl (show zyR _ _ _ _ [some (.ref (0 + 3)), some (.int x1)] [.ref (17 + 3)] _ _ from ?_)
      refine zy_2 rfl rfl (show zyR _ _ _ _ [some (.ref (0 + 3)), some (.int x1)] [.int x1, .ref (17 + 3)] _ _ from ?_)
      obtain ⟨p3, hp3, h⟩ := zy_bind h
      refine zy_5 (c := 17) (as := [.int x1]) (rest := []) (L := [some (.ref (17 + 3)), some (.int x1)]) (d' := 1) rfl rfl rfl (Nat.le_of_ble_eq_true rfl) (Nat.le_of_ble_eq_true rfl) rfl (Nat.le_of_ble_eq_true rfl) rfl rfl (zyC136 hp3) ?_
      show zyR _ _ _ _ [some (.ref (0 + 3)), some (.int x1)] [.int p3.1] _ _
      refine zy_6 rfl (show zyR _ _ _ _ [some (.ref (0 + 3)), some (.int x1)] [.int p3.1] _ _ from ?_)
      obtain ⟨rfl, rfl⟩ := zy_pi h
      exact zy_4 rfl ⟨rfl, rfl⟩
  · replace h := zy_ifn h b5
    refine zy_3 rfl rfl (show zyR _ _ _ _ [some (.ref (0 + 3)), some (.int x1)] [.int (-1 : Int32)] _ _ from ?_)
    obtain ⟨rfl, rfl⟩ := zy_pi h
    exact zy_4 rfl ⟨rfl, rfl⟩
/-! NineOpinions.viewIn(II)I -/
noncomputable def zyF60   (x0 : Int32) (x1 : Int32) (s : zy_S) : Option (Int32 × zy_S) :=
some (((x0 >>> (((2 : Int32) * x1) &&& 31)) &&& (3 : Int32)), s)
theorem zyC60 {X : zx_X}     {x0 : Int32} {x1 : Int32} {s : zy_S} {r : Int32} {s' : zy_S}  (h : zyF60 x0 x1 s = some (r, s')) : zyR X 1 60 0 [some (.int x0), some (.int x1)] [] s (zyE (some (.int r)) s') := by
  unfold zyF60 at h
  refine zy_2 rfl rfl (show zyR _ _ _ _ [some (.int x0), some (.int x1)] [.int x0] _ _ from ?_)
  refine zy_3 rfl rfl (show zyR _ _ _ _ [some (.int x0), some (.int x1)] [.int (2 : Int32), .int x0] _ _ from ?_)
  refine zy_2 rfl rfl (show zyR _ _ _ _ [some (.int x0), some (.int x1)] [.int x1, .int (2 : Int32), .int x0] _ _ from ?_)
  refine zy_12 rfl (show zyR _ _ _ _ [some (.int x0), some (.int x1)] [.int ((2 : Int32) * x1), .int x0] _ _ from ?_)
  refine zy_17 rfl (show zyR _ _ _ _ [some (.int x0), some (.int x1)] [.int (x0 >>> (((2 : Int32) * x1) &&& 31))] _ _ from ?_)
  refine zy_3 rfl rfl (show zyR _ _ _ _ [some (.int x0), some (.int x1)] [.int (3 : Int32), .int (x0 >>> (((2 : Int32) * x1) &&& 31))] _ _ from ?_)
  refine zy_13 rfl (show zyR _ _ _ _ [some (.int x0), some (.int x1)] [.int ((x0 >>> (((2 : Int32) * x1) &&& 31)) &&& (3 : Int32))] _ _ from ?_)
  obtain ⟨rfl, rfl⟩ := zy_pi h
  exact zy_4 rfl ⟨rfl, rfl⟩
/-! NineOpinions$Town.holdsView(II)Z -/
noncomputable def zyF96   (x1 : Int32) (x2 : Int32) (s : zy_S) : Option (Int32 × zy_S) :=
if zy_in x1 8 then
(zyF60 (s.1 3 (x1).toNatClampNeg) (x2 / (4 : Int32)) s).bind fun p2 =>
if p2.1 ≠ (x2 - x2 / (4 : Int32) * (4 : Int32)) then
some ((0 : Int32), p2.2)
else
some ((1 : Int32), p2.2)
else none
theorem zyC96 {X : zx_X}     {x1 : Int32} {x2 : Int32} {s : zy_S} {r : Int32} {s' : zy_S}  (h : zyF96 x1 x2 s = some (r, s')) : zyR X 2 96 0 [some (.ref (1 + 3)), some (.int x1), some (.int x2)] [] s (zyE (some (.int r)) s') := by
  unfold zyF96 at h
  refine zy_0 rfl rfl (show zyR _ _ _ _ [some (.ref (1 + 3)), some (.int x1), some (.int x2)] [.ref (1 + 3)] _ _ from ?_)
  refine zy_1r (c := 1) rfl rfl rfl (show zyR _ _ _ _ [some (.ref (1 + 3)), some (.int x1), some (.int x2)] [.ref (3 + 3)] _ _ from ?_)
  refine zy_2 rfl rfl (show zyR _ _ _ _ [some (.ref (1 + 3)), some (.int x1), some (.int x2)] [.int x1, .ref (3 + 3)] _ _ from ?_)
  obtain ⟨c1, h⟩ := zy_if h
  refine zy_26 (c := 3) rfl rfl c1 (show zyR _ _ _ _ [some (.ref (1 + 3)), some (.int x1), some (.int x2)] [.int (s.1 3 (x1).toNatClampNeg)] _ _ from ?_)
  refine zy_2 rfl rfl (show zyR _ _ _ _ [some (.ref (1 + 3)), some (.int x1), some (.int x2)] [.int x2, .int (s.1 3 (x1).toNatClampNeg)] _ _ from ?_)
  refine zy_3 rfl rfl (show zyR _ _ _ _ [some (.ref (1 + 3)), some (.int x1), some (.int x2)] [.int (4 : Int32), .int x2, .int (s.1 3 (x1).toNatClampNeg)] _ _ from ?_)
  refine zy_19 rfl (by decide) (show zyR _ _ _ _ [some (.ref (1 + 3)), some (.int x1), some (.int x2)] [.int (x2 / (4 : Int32)), .int (s.1 3 (x1).toNatClampNeg)] _ _ from ?_)
  obtain ⟨p2, hp2, h⟩ := zy_bind h
  refine zy_61 (as := [.int (s.1 3 (x1).toNatClampNeg), .int (x2 / (4 : Int32))]) (rest := []) (L := [some (.int (s.1 3 (x1).toNatClampNeg)), some (.int (x2 / (4 : Int32)))]) (d' := 1) rfl rfl (Nat.le_of_ble_eq_true rfl) (Nat.le_of_ble_eq_true rfl) rfl (Nat.le_of_ble_eq_true rfl) rfl rfl (zyC60 hp2) ?_
  show zyR _ _ _ _ [some (.ref (1 + 3)), some (.int x1), some (.int x2)] [.int p2.1] _ _
  refine zy_2 rfl rfl (show zyR _ _ _ _ [some (.ref (1 + 3)), some (.int x1), some (.int x2)] [.int x2, .int p2.1] _ _ from ?_)
  refine zy_3 rfl rfl (show zyR _ _ _ _ [some (.ref (1 + 3)), some (.int x1), some (.int x2)] [.int (4 : Int32), .int x2, .int p2.1] _ _ from ?_)
  refine zy_20 rfl (by decide) (show zyR _ _ _ _ [some (.ref (1 + 3)), some (.int x1), some (.int x2)] [.int (x2 - x2 / (4 : Int32) * (4 : Int32)), .int p2.1] _ _ from ?_)
  refine zy_25_1 rfl (fun b3 => (show zyR _ _ _ _ [some (.ref (1 + 3)), some (.int x1), some (.int x2)] [] _ _ from ?_)) (fun b3 => (show zyR _ _ _ _ [some (.ref (1 + 3)), some (.int x1), some (.int x2)] [] _ _ from ?_))
  · replace h := zy_ifp h b3
    refine zy_3 rfl rfl (show zyR _ _ _ _ [some (.ref (1 + 3)), some (.int x1), some (.int x2)] [.int (0 : Int32)] _ _ from ?_)
    cases h
    exact zy_4b rfl ⟨rfl, rfl⟩ (Or.inl rfl)
  · replace h := zy_ifn h b3
    refine zy_3 rfl rfl (show zyR _ _ _ _ [some (.ref (1 + 3)), some (.int x1), some (.int x2)] [.int (1 : Int32)] _ _ from ?_)
    refine zy_6 rfl (show zyR _ _ _ _ [some (.ref (1 + 3)), some (.int x1), some (.int x2)] [.int (1 : Int32)] _ _ from ?_)
    cases h
    exact zy_4b rfl ⟨rfl, rfl⟩ (Or.inr rfl)
/-! NineOpinions$Deeds.doWin(II)I -/
noncomputable def zyF138   (x1 : Int32) (x2 : Int32) (s : zy_S) : Option (Int32 × zy_S) :=
if zy_in x1 8 then
if zy_in x1 8 then
if zy_in x1 8 then
some (((zy_up s 3 (x1).toNatClampNeg (((s.1 3 (x1).toNatClampNeg) &&& (((3 : Int32) <<< (((2 : Int32) * (x2 / (4 : Int32))) &&& 31)) ^^^ (-1 : Int32))) ||| ((x2 - x2 / (4 : Int32) * (4 : Int32)) <<< (((2 : Int32) * (x2 / (4 : Int32))) &&& 31)))).1 3 (x1).toNatClampNeg), (zy_up (zy_up s 3 (x1).toNatClampNeg (((s.1 3 (x1).toNatClampNeg) &&& (((3 : Int32) <<< (((2 : Int32) * (x2 / (4 : Int32))) &&& 31)) ^^^ (-1 : Int32))) ||| ((x2 - x2 / (4 : Int32) * (4 : Int32)) <<< (((2 : Int32) * (x2 / (4 : Int32))) &&& 31)))) 18 3 ((s.1 18 3) + (1 : Int32))))
else none
else none
else none
theorem zyC138 {X : zx_X}     {x1 : Int32} {x2 : Int32} {s : zy_S} {r : Int32} {s' : zy_S}  (h : zyF138 x1 x2 s = some (r, s')) : zyR X 1 138 0 [some (.ref (17 + 3)), some (.int x1), some (.int x2), none] [] s (zyE (some (.int r)) s') := by
  unfold zyF138 at h
  refine zy_3 rfl rfl (show zyR _ _ _ _ [some (.ref (17 + 3)), some (.int x1), some (.int x2), none] [.int (2 : Int32)] _ _ from ?_)
  refine zy_2 rfl rfl (show zyR _ _ _ _ [some (.ref (17 + 3)), some (.int x1), some (.int x2), none] [.int x2, .int (2 : Int32)] _ _ from ?_)
  refine zy_3 rfl rfl (show zyR _ _ _ _ [some (.ref (17 + 3)), some (.int x1), some (.int x2), none] [.int (4 : Int32), .int x2, .int (2 : Int32)] _ _ from ?_)
  refine zy_19 rfl (by decide) (show zyR _ _ _ _ [some (.ref (17 + 3)), some (.int x1), some (.int x2), none] [.int (x2 / (4 : Int32)), .int (2 : Int32)] _ _ from ?_)
  refine zy_12 rfl (show zyR _ _ _ _ [some (.ref (17 + 3)), some (.int x1), some (.int x2), none] [.int ((2 : Int32) * (x2 / (4 : Int32)))] _ _ from ?_)
  refine zy_23 rfl rfl (show zyR _ _ _ _ [some (.ref (17 + 3)), some (.int x1), some (.int x2), some (.int ((2 : Int32) * (x2 / (4 : Int32))))] [] _ _ from ?_)
  refine zy_0 rfl rfl (show zyR _ _ _ _ [some (.ref (17 + 3)), some (.int x1), some (.int x2), some (.int ((2 : Int32) * (x2 / (4 : Int32))))] [.ref (17 + 3)] _ _ from ?_)
  refine zy_1r (c := 17) rfl rfl rfl (show zyR _ _ _ _ [some (.ref (17 + 3)), some (.int x1), some (.int x2), some (.int ((2 : Int32) * (x2 / (4 : Int32))))] [.ref (1 + 3)] _ _ from ?_)
  refine zy_1r (c := 1) rfl rfl rfl (show zyR _ _ _ _ [some (.ref (17 + 3)), some (.int x1), some (.int x2), some (.int ((2 : Int32) * (x2 / (4 : Int32))))] [.ref (3 + 3)] _ _ from ?_)
  refine zy_2 rfl rfl (show zyR _ _ _ _ [some (.ref (17 + 3)), some (.int x1), some (.int x2), some (.int ((2 : Int32) * (x2 / (4 : Int32))))] [.int x1, .ref (3 + 3)] _ _ from ?_)
  refine zy_0 rfl rfl (show zyR _ _ _ _ [some (.ref (17 + 3)), some (.int x1), some (.int x2), some (.int ((2 : Int32) * (x2 / (4 : Int32))))] [.ref (17 + 3), .int x1, .ref (3 + 3)] _ _ from ?_)
  refine zy_1r (c := 17) rfl rfl rfl (show zyR _ _ _ _ [some (.ref (17 + 3)), some (.int x1), some (.int x2), some (.int ((2 : Int32) * (x2 / (4 : Int32))))] [.ref (1 + 3), .int x1, .ref (3 + 3)] _ _ from ?_)
  refine zy_1r (c := 1) rfl rfl rfl (show zyR _ _ _ _ [some (.ref (17 + 3)), some (.int x1), some (.int x2), some (.int ((2 : Int32) * (x2 / (4 : Int32))))] [.ref (3 + 3), .int x1, .ref (3 + 3)] _ _ from ?_)
  refine zy_2 rfl rfl (show zyR _ _ _ _ [some (.ref (17 + 3)), some (.int x1), some (.int x2), some (.int ((2 : Int32) * (x2 / (4 : Int32))))] [.int x1, .ref (3 + 3), .int x1, .ref (3 + 3)] _ _ from ?_)
  obtain ⟨c1, h⟩ := zy_if h
  refine zy_26 (c := 3) rfl rfl c1 (show zyR _ _ _ _ [some (.ref (17 + 3)), some (.int x1), some (.int x2), some (.int ((2 : Int32) * (x2 / (4 : Int32))))] [.int (s.1 3 (x1).toNatClampNeg), .int x1, .ref (3 + 3)] _ _ from ?_)
  refine zy_3 rfl rfl (show zyR _ _ _ _ [some (.ref (17 + 3)), some (.int x1), some (.int x2), some (.int ((2 : Int32) * (x2 / (4 : Int32))))] [.int (3 : Int32), .int (s.1 3 (x1).toNatClampNeg), .int x1, .ref (3 + 3)] _ _ from ?_)
  refine zy_2 rfl rfl (show zyR _ _ _ _ [some (.ref (17 + 3)), some (.int x1), some (.int x2), some (.int ((2 : Int32) * (x2 / (4 : Int32))))] [.int ((2 : Int32) * (x2 / (4 : Int32))), .int (3 : Int32), .int (s.1 3 (x1).toNatClampNeg), .int x1, .ref (3 + 3)] _ _ from ?_)
  refine zy_16 rfl (show zyR _ _ _ _ [some (.ref (17 + 3)), some (.int x1), some (.int x2), some (.int ((2 : Int32) * (x2 / (4 : Int32))))] [.int ((3 : Int32) <<< (((2 : Int32) * (x2 / (4 : Int32))) &&& 31)), .int (s.1 3 (x1).toNatClampNeg), .int x1, .ref (3 + 3)] _ _ from ?_)
  refine zy_3 rfl rfl (show zyR _ _ _ _ [some (.ref (17 + 3)), some (.int x1), some (.int x2), some (.int ((2 : Int32) * (x2 / (4 : Int32))))] [.int (-1 : Int32), .int ((3 : Int32) <<< (((2 : Int32) * (x2 / (4 : Int32))) &&& 31)), .int (s.1 3 (x1).toNatClampNeg), .int x1, .ref (3 + 3)] _ _ from ?_)
  refine zy_15 rfl (show zyR _ _ _ _ [some (.ref (17 + 3)), some (.int x1), some (.int x2), some (.int ((2 : Int32) * (x2 / (4 : Int32))))] [.int (((3 : Int32) <<< (((2 : Int32) * (x2 / (4 : Int32))) &&& 31)) ^^^ (-1 : Int32)), .int (s.1 3 (x1).toNatClampNeg), .int x1, .ref (3 + 3)] _ _ from ?_)
  refine zy_13 rfl (show zyR _ _ _ _ [some (.ref (17 + 3)), some (.int x1), some (.int x2), some (.int ((2 : Int32) * (x2 / (4 : Int32))))] [.int ((s.1 3 (x1).toNatClampNeg) &&& (((3 : Int32) <<< (((2 : Int32) * (x2 / (4 : Int32))) &&& 31)) ^^^ (-1 : Int32))), .int x1, .ref (3 + 3)] _ _ from ?_)
  refine zy_2 rfl rfl (show zyR _ _ _ _ [some (.ref (17 + 3)), some (.int x1), some (.int x2), some (.int ((2 : Int32) * (x2 / (4 : Int32))))] [.int x2, .int ((s.1 3 (x1).toNatClampNeg) &&& (((3 : Int32) <<< (((2 : Int32) * (x2 / (4 : Int32))) &&& 31)) ^^^ (-1 : Int32))), .int x1, .ref (3 + 3)] _ _ from ?_)
  refine zy_3 rfl rfl (show zyR _ _ _ _ [some (.ref (17 + 3)), some (.int x1), some (.int x2), some (.int ((2 : Int32) * (x2 / (4 : Int32))))] [.int (4 : Int32), .int x2, .int ((s.1 3 (x1).toNatClampNeg) &&& (((3 : Int32) <<< (((2 : Int32) * (x2 / (4 : Int32))) &&& 31)) ^^^ (-1 : Int32))), .int x1, .ref (3 + 3)] _ _ from ?_)
  refine zy_20 rfl (by decide) (show zyR _ _ _ _ [some (.ref (17 + 3)), some (.int x1), some (.int x2), some (.int ((2 : Int32) * (x2 / (4 : Int32))))] [.int (x2 - x2 / (4 : Int32) * (4 : Int32)), .int ((s.1 3 (x1).toNatClampNeg) &&& (((3 : Int32) <<< (((2 : Int32) * (x2 / (4 : Int32))) &&& 31)) ^^^ (-1 : Int32))), .int x1, .ref (3 + 3)] _ _ from ?_)
  refine zy_2 rfl rfl (show zyR _ _ _ _ [some (.ref (17 + 3)), some (.int x1), some (.int x2), some (.int ((2 : Int32) * (x2 / (4 : Int32))))] [.int ((2 : Int32) * (x2 / (4 : Int32))), .int (x2 - x2 / (4 : Int32) * (4 : Int32)), .int ((s.1 3 (x1).toNatClampNeg) &&& (((3 : Int32) <<< (((2 : Int32) * (x2 / (4 : Int32))) &&& 31)) ^^^ (-1 : Int32))), .int x1, .ref (3 + 3)] _ _ from ?_)
  refine zy_16 rfl (show zyR _ _ _ _ [some (.ref (17 + 3)), some (.int x1), some (.int x2), some (.int ((2 : Int32) * (x2 / (4 : Int32))))] [.int ((x2 - x2 / (4 : Int32) * (4 : Int32)) <<< (((2 : Int32) * (x2 / (4 : Int32))) &&& 31)), .int ((s.1 3 (x1).toNatClampNeg) &&& (((3 : Int32) <<< (((2 : Int32) * (x2 / (4 : Int32))) &&& 31)) ^^^ (-1 : Int32))), .int x1, .ref (3 + 3)] _ _ from ?_)
  refine zy_14 rfl (show zyR _ _ _ _ [some (.ref (17 + 3)), some (.int x1), some (.int x2), some (.int ((2 : Int32) * (x2 / (4 : Int32))))] [.int (((s.1 3 (x1).toNatClampNeg) &&& (((3 : Int32) <<< (((2 : Int32) * (x2 / (4 : Int32))) &&& 31)) ^^^ (-1 : Int32))) ||| ((x2 - x2 / (4 : Int32) * (4 : Int32)) <<< (((2 : Int32) * (x2 / (4 : Int32))) &&& 31))), .int x1, .ref (3 + 3)] _ _ from ?_)
  obtain ⟨c2, h⟩ := zy_if h
  refine zy_27 (c := 3) rfl rfl c2 (show zyR _ _ _ _ [some (.ref (17 + 3)), some (.int x1), some (.int x2), some (.int ((2 : Int32) * (x2 / (4 : Int32))))] [] _ _ from ?_)
  refine zy_0 rfl rfl (show zyR _ _ _ _ [some (.ref (17 + 3)), some (.int x1), some (.int x2), some (.int ((2 : Int32) * (x2 / (4 : Int32))))] [.ref (17 + 3)] _ _ from ?_)
  refine zy_1r (c := 17) rfl rfl rfl (show zyR _ _ _ _ [some (.ref (17 + 3)), some (.int x1), some (.int x2), some (.int ((2 : Int32) * (x2 / (4 : Int32))))] [.ref (18 + 3)] _ _ from ?_)
  refine zy_3 rfl rfl (show zyR _ _ _ _ [some (.ref (17 + 3)), some (.int x1), some (.int x2), some (.int ((2 : Int32) * (x2 / (4 : Int32))))] [.int (3 : Int32), .ref (18 + 3)] _ _ from ?_)
  refine zy_35 rfl rfl rfl (show zyR _ _ _ _ [some (.ref (17 + 3)), some (.int x1), some (.int x2), some (.int ((2 : Int32) * (x2 / (4 : Int32))))] [.int (3 : Int32), .ref (18 + 3), .int (3 : Int32), .ref (18 + 3)] _ _ from ?_)
  refine zy_26 (c := 18) rfl rfl (by decide) (show zyR _ _ _ _ [some (.ref (17 + 3)), some (.int x1), some (.int x2), some (.int ((2 : Int32) * (x2 / (4 : Int32))))] [.int (s.1 18 3), .int (3 : Int32), .ref (18 + 3)] _ _ from ?_)
  refine zy_3 rfl rfl (show zyR _ _ _ _ [some (.ref (17 + 3)), some (.int x1), some (.int x2), some (.int ((2 : Int32) * (x2 / (4 : Int32))))] [.int (1 : Int32), .int (s.1 18 3), .int (3 : Int32), .ref (18 + 3)] _ _ from ?_)
  refine zy_10 rfl (show zyR _ _ _ _ [some (.ref (17 + 3)), some (.int x1), some (.int x2), some (.int ((2 : Int32) * (x2 / (4 : Int32))))] [.int ((s.1 18 3) + (1 : Int32)), .int (3 : Int32), .ref (18 + 3)] _ _ from ?_)
  refine zy_27 (c := 18) rfl rfl (by decide) (show zyR _ _ _ _ [some (.ref (17 + 3)), some (.int x1), some (.int x2), some (.int ((2 : Int32) * (x2 / (4 : Int32))))] [] _ _ from ?_)
  refine zy_0 rfl rfl (show zyR _ _ _ _ [some (.ref (17 + 3)), some (.int x1), some (.int x2), some (.int ((2 : Int32) * (x2 / (4 : Int32))))] [.ref (17 + 3)] _ _ from ?_)
  refine zy_1r (c := 17) rfl rfl rfl (show zyR _ _ _ _ [some (.ref (17 + 3)), some (.int x1), some (.int x2), some (.int ((2 : Int32) * (x2 / (4 : Int32))))] [.ref (1 + 3)] _ _ from ?_)
  refine zy_1r (c := 1) rfl rfl rfl (show zyR _ _ _ _ [some (.ref (17 + 3)), some (.int x1), some (.int x2), some (.int ((2 : Int32) * (x2 / (4 : Int32))))] [.ref (3 + 3)] _ _ from ?_)
  refine zy_2 rfl rfl (show zyR _ _ _ _ [some (.ref (17 + 3)), some (.int x1), some (.int x2), some (.int ((2 : Int32) * (x2 / (4 : Int32))))] [.int x1, .ref (3 + 3)] _ _ from ?_)
  obtain ⟨c3, h⟩ := zy_if h
  refine zy_26 (c := 3) rfl rfl c3 (show zyR _ _ _ _ [some (.ref (17 + 3)), some (.int x1), some (.int x2), some (.int ((2 : Int32) * (x2 / (4 : Int32))))] [.int ((zy_up s 3 (x1).toNatClampNeg (((s.1 3 (x1).toNatClampNeg) &&& (((3 : Int32) <<< (((2 : Int32) * (x2 / (4 : Int32))) &&& 31)) ^^^ (-1 : Int32))) ||| ((x2 - x2 / (4 : Int32) * (4 : Int32)) <<< (((2 : Int32) * (x2 / (4 : Int32))) &&& 31)))).1 3 (x1).toNatClampNeg)] _ _ from ?_)
  obtain ⟨rfl, rfl⟩ := zy_pi h
  exact zy_4 rfl ⟨rfl, rfl⟩
end
section
/-! PART 41.03: methods as functions. Made by wip/v4/dcp.py. -/
/-! NineOpinions.won(II)I -/
noncomputable def zyF137   (x1 : Int32) (x2 : Int32) (s : zy_S) : Option (Int32 × zy_S) :=
(zyF25 (0 : Int32) x1 s).bind fun p1 =>
if p1.1 = 0 then
some ((-1 : Int32), p1.2)
else
(zyF26 x2 p1.2).bind fun p2 =>
if p2.1 ≠ 0 then
(zyF96 x1 x2 p2.2).bind fun p3 =>
if p3.1 = 0 then
(zyF138 x1 x2 p3.2).bind fun p4 =>
some (p4.1, p4.2)
else
some ((-5 : Int32), p3.2)
else
some ((-1 : Int32), p2.2)
theorem zyC137 {X : zx_X}     {x1 : Int32} {x2 : Int32} {s : zy_S} {r : Int32} {s' : zy_S}  (h : zyF137 x1 x2 s = some (r, s')) : zyR X 3 137 0 [some (.ref (0 + 3)), some (.int x1), some (.int x2)] [] s (zyE (some (.int r)) s') := by
  unfold zyF137 at h
  refine zy_0 rfl rfl (show zyR _ _ _ _ [some (.ref (0 + 3)), some (.int x1), some (.int x2)] [.ref (0 + 3)] _ _ from ?_)
  refine zy_1r (c := 0) rfl rfl rfl (show zyR _ _ _ _ [some (.ref (0 + 3)), some (.int x1), some (.int x2)] [.ref (1 + 3)] _ _ from ?_)
  refine zy_3 rfl rfl (show zyR _ _ _ _ [some (.ref (0 + 3)), some (.int x1), some (.int x2)] [.int (0 : Int32), .ref (1 + 3)] _ _ from ?_)
  refine zy_2 rfl rfl (show zyR _ _ _ _ [some (.ref (0 + 3)), some (.int x1), some (.int x2)] [.int x1, .int (0 : Int32), .ref (1 + 3)] _ _ from ?_)
  obtain ⟨p1, hp1, h⟩ := zy_bind h
  refine zy_5 (c := 1) (as := [.int (0 : Int32), .int x1]) (rest := []) (L := [some (.ref (1 + 3)), some (.int (0 : Int32)), some (.int x1)]) (d' := 2) rfl rfl rfl (Nat.le_of_ble_eq_true rfl) (Nat.le_of_ble_eq_true rfl) rfl (Nat.le_of_ble_eq_true rfl) rfl rfl (zyC25 hp1) ?_
  show zyR _ _ _ _ [some (.ref (0 + 3)), some (.int x1), some (.int x2)] [.int p1.1] _ _
  refine zy_24_0 rfl (fun b7 => (show zyR _ _ _ _ [some (.ref (0 + 3)), some (.int x1), some (.int x2)] [] _ _ from ?_)) (fun b7 => (show zyR _ _ _ _ [some (.ref (0 + 3)), some (.int x1), some (.int x2)] [] _ _ from ?_))
  · replace h := zy_ifp h b7
    refine zy_3 rfl rfl (show zyR _ _ _ _ [some (.ref (0 + 3)), some (.int x1), some (.int x2)] [.int (-1 : Int32)] _ _ from ?_)
    obtain ⟨rfl, rfl⟩ := zy_pi h
    exact zy_4 rfl ⟨rfl, rfl⟩
  · replace h := zy_ifn h b7
    refine zy_2 rfl rfl (show zyR _ _ _ _ [some (.ref (0 + 3)), some (.int x1), some (.int x2)] [.int x2] _ _ from ?_)
    obtain ⟨p2, hp2, h⟩ := zy_bind h
    refine zy_60 (as := [.int x2]) (rest := []) (L := [some (.int x2)]) (d' := 1) rfl rfl (Nat.le_of_ble_eq_true rfl) (Nat.le_of_ble_eq_true rfl) rfl (Nat.le_of_ble_eq_true rfl) rfl rfl (zyC26 hp2) ?_
    show zyR _ _ _ _ [some (.ref (0 + 3)), some (.int x1), some (.int x2)] [.int p2.1] _ _
    refine zy_24_1 rfl (fun b6 => (show zyR _ _ _ _ [some (.ref (0 + 3)), some (.int x1), some (.int x2)] [] _ _ from ?_)) (fun b6 => (show zyR _ _ _ _ [some (.ref (0 + 3)), some (.int x1), some (.int x2)] [] _ _ from ?_))
    · replace h := zy_ifp h b6
      refine zy_0 rfl rfl (show zyR _ _ _ _ [some (.ref (0 + 3)), some (.int x1), some (.int x2)] [.ref (0 + 3)] _ _ from ?_)
      refine zy_1r (c := 0) rfl rfl rfl (show zyR _ _ _ _ [some (.ref (0 + 3)), some (.int x1), some (.int x2)] [.ref (1 + 3)] _ _ from ?_)
      refine zy_2 rfl rfl (show zyR _ _ _ _ [some (.ref (0 + 3)), some (.int x1), some (.int x2)] [.int x1, .ref (1 + 3)] _ _ from ?_)
      refine zy_2 rfl rfl (show zyR _ _ _ _ [some (.ref (0 + 3)), some (.int x1), some (.int x2)] [.int x2, .int x1, .ref (1 + 3)] _ _ from ?_)
      obtain ⟨p3, hp3, h⟩ := zy_bind h
      refine zy_5 (c := 1) (as := [.int x1, .int x2]) (rest := []) (L := [some (.ref (1 + 3)), some (.int x1), some (.int x2)]) (d' := 2) rfl rfl rfl (Nat.le_of_ble_eq_true rfl) (Nat.le_of_ble_eq_true rfl) rfl (Nat.le_of_ble_eq_true rfl) rfl rfl (zyC96 hp3) ?_
      show zyR _ _ _ _ [some (.ref (0 + 3)), some (.int x1), some (.int x2)] [.int p3.1] _ _
      refine zy_24_0 rfl (fun b5 => (show zyR _ _ _ _ [some (.ref (0 + 3)), some (.int x1), some (.int x2)] [] _ _ from ?_)) (fun b5 => (show zyR _ _ _ _ [some (.ref (0 + 3)), some (.int x1), some (.int x2)] [] _ _ from ?_))
      · replace h := zy_ifp h b5
        refine zy_0 rfl rfl (show zyR _ _ _ _ [some (.ref (0 + 3)), some (.int x1), some (.int x2)] [.ref (0 + 3)] _ _ from ?_)
        refine zy_1r (c := 0) rfl rfl rfl (show zyR _ _ _ _ [some (.ref (0 + 3)), some (.int x1), some (.int x2)] [.ref (17 + 3)] _ _ from ?_)
        refine zy_2 rfl rfl (show zyR _ _ _ _ [some (.ref (0 + 3)), some (.int x1), some (.int x2)] [.int x1, .ref (17 + 3)] _ _ from ?_)
        refine zy_2 rfl rfl (show zyR _ _ _ _ [some (.ref (0 + 3)), some (.int x1), some (.int x2)] [.int x2, .int x1, .ref (17 + 3)] _ _ from ?_)
        obtain ⟨p4, hp4, h⟩ := zy_bind h
        refine zy_5 (c := 17) (as := [.int x1, .int x2]) (rest := []) (L := [some (.ref (17 + 3)), some (.int x1), some (.int x2), none]) (d' := 1) rfl rfl rfl (Nat.le_of_ble_eq_true rfl) (Nat.le_of_ble_eq_true rfl) rfl (Nat.le_of_ble_eq_true rfl) rfl rfl (zyC138 hp4) ?_
        show zyR _ _ _ _ [some (.ref (0 + 3)), some (.int x1), some (.int x2)] [.int p4.1] _ _
        obtain ⟨rfl, rfl⟩ := zy_pi h
        exact zy_4 rfl ⟨rfl, rfl⟩
      · replace h := zy_ifn h b5
        refine zy_3 rfl rfl (show zyR _ _ _ _ [some (.ref (0 + 3)), some (.int x1), some (.int x2)] [.int (-5 : Int32)] _ _ from ?_)
        refine zy_6 rfl (show zyR _ _ _ _ [some (.ref (0 + 3)), some (.int x1), some (.int x2)] [.int (-5 : Int32)] _ _ from ?_)
        obtain ⟨rfl, rfl⟩ := zy_pi h
        exact zy_4 rfl ⟨rfl, rfl⟩
    · replace h := zy_ifn h b6
      refine zy_3 rfl rfl (show zyR _ _ _ _ [some (.ref (0 + 3)), some (.int x1), some (.int x2)] [.int (-1 : Int32)] _ _ from ?_)
      obtain ⟨rfl, rfl⟩ := zy_pi h
      exact zy_4 rfl ⟨rfl, rfl⟩
/-! NineOpinions$Deeds.keepImage()V -/
noncomputable def zyF141    (s : zy_S) : Option (Int32 × zy_S) :=
some ((0 : Int32), (zy_ua (zy_ua (zy_ua (zy_up (zy_up (zy_up s 17 2 (1 : Int32)) 17 3 (s.1 1 3)) 17 4 (s.1 1 5)) 19 (va_cpy (s.1 2) (s.1 19) 0 0 24)) 20 (va_cpy (s.1 3) (s.1 20) 0 0 8)) 21 (va_cpy (s.1 18) (s.1 21) 0 0 5)))
theorem zyC141 {X : zx_X}      {s : zy_S} {r : Int32} {s' : zy_S}  (h : zyF141 s = some (r, s')) : zyR X 1 141 0 [some (.ref (17 + 3))] [] s (zyE none s') := by
  unfold zyF141 at h
  refine zy_0 rfl rfl (show zyR _ _ _ _ [some (.ref (17 + 3))] [.ref (17 + 3)] _ _ from ?_)
  refine zy_3 rfl rfl (show zyR _ _ _ _ [some (.ref (17 + 3))] [.int (1 : Int32), .ref (17 + 3)] _ _ from ?_)
  refine zy_52b (c := 17) rfl rfl rfl (Or.inr rfl) (show zyR _ _ _ _ [some (.ref (17 + 3))] [] _ _ from ?_)
  refine zy_0 rfl rfl (show zyR _ _ _ _ [some (.ref (17 + 3))] [.ref (17 + 3)] _ _ from ?_)
  refine zy_0 rfl rfl (show zyR _ _ _ _ [some (.ref (17 + 3))] [.ref (17 + 3), .ref (17 + 3)] _ _ from ?_)
  refine zy_1r (c := 17) rfl rfl rfl (show zyR _ _ _ _ [some (.ref (17 + 3))] [.ref (1 + 3), .ref (17 + 3)] _ _ from ?_)
  refine zy_1 (c := 1) rfl rfl rfl (show zyR _ _ _ _ [some (.ref (17 + 3))] [.int (s.1 1 3), .ref (17 + 3)] _ _ from ?_)
  refine zy_52 (c := 17) rfl rfl rfl (show zyR _ _ _ _ [some (.ref (17 + 3))] [] _ _ from ?_)
  refine zy_0 rfl rfl (show zyR _ _ _ _ [some (.ref (17 + 3))] [.ref (17 + 3)] _ _ from ?_)
  refine zy_0 rfl rfl (show zyR _ _ _ _ [some (.ref (17 + 3))] [.ref (17 + 3), .ref (17 + 3)] _ _ from ?_)
  refine zy_1r (c := 17) rfl rfl rfl (show zyR _ _ _ _ [some (.ref (17 + 3))] [.ref (1 + 3), .ref (17 + 3)] _ _ from ?_)
  refine zy_1 (c := 1) rfl rfl rfl (show zyR _ _ _ _ [some (.ref (17 + 3))] [.int (s.1 1 5), .ref (17 + 3)] _ _ from ?_)
  refine zy_52 (c := 17) rfl rfl rfl (show zyR _ _ _ _ [some (.ref (17 + 3))] [] _ _ from ?_)
  refine zy_0 rfl rfl (show zyR _ _ _ _ [some (.ref (17 + 3))] [.ref (17 + 3)] _ _ from ?_)
  refine zy_1r (c := 17) rfl rfl rfl (show zyR _ _ _ _ [some (.ref (17 + 3))] [.ref (1 + 3)] _ _ from ?_)
  refine zy_1r (c := 1) rfl rfl rfl (show zyR _ _ _ _ [some (.ref (17 + 3))] [.ref (2 + 3)] _ _ from ?_)
  refine zy_3 rfl rfl (show zyR _ _ _ _ [some (.ref (17 + 3))] [.int (0 : Int32), .ref (2 + 3)] _ _ from ?_)
  refine zy_0 rfl rfl (show zyR _ _ _ _ [some (.ref (17 + 3))] [.ref (17 + 3), .int (0 : Int32), .ref (2 + 3)] _ _ from ?_)
  refine zy_1r (c := 17) rfl rfl rfl (show zyR _ _ _ _ [some (.ref (17 + 3))] [.ref (19 + 3), .int (0 : Int32), .ref (2 + 3)] _ _ from ?_)
  refine zy_3 rfl rfl (show zyR _ _ _ _ [some (.ref (17 + 3))] [.int (0 : Int32), .ref (19 + 3), .int (0 : Int32), .ref (2 + 3)] _ _ from ?_)
  refine zy_3 rfl rfl (show zyR _ _ _ _ [some (.ref (17 + 3))] [.int (24 : Int32), .int (0 : Int32), .ref (19 + 3), .int (0 : Int32), .ref (2 + 3)] _ _ from ?_)
  refine zy_64 (c0 := 2) (c1 := 19) rfl rfl rfl (by decide) (Nat.le_of_ble_eq_true rfl) (Nat.le_of_ble_eq_true rfl) (show zyR _ _ _ _ [some (.ref (17 + 3))] [] _ _ from ?_)
  refine zy_0 rfl rfl (show zyR _ _ _ _ [some (.ref (17 + 3))] [.ref (17 + 3)] _ _ from ?_)
  refine zy_1r (c := 17) rfl rfl rfl (show zyR _ _ _ _ [some (.ref (17 + 3))] [.ref (1 + 3)] _ _ from ?_)
  refine zy_1r (c := 1) rfl rfl rfl (show zyR _ _ _ _ [some (.ref (17 + 3))] [.ref (3 + 3)] _ _ from ?_)
  refine zy_3 rfl rfl (show zyR _ _ _ _ [some (.ref (17 + 3))] [.int (0 : Int32), .ref (3 + 3)] _ _ from ?_)
  refine zy_0 rfl rfl (show zyR _ _ _ _ [some (.ref (17 + 3))] [.ref (17 + 3), .int (0 : Int32), .ref (3 + 3)] _ _ from ?_)
  refine zy_1r (c := 17) rfl rfl rfl (show zyR _ _ _ _ [some (.ref (17 + 3))] [.ref (20 + 3), .int (0 : Int32), .ref (3 + 3)] _ _ from ?_)
  refine zy_3 rfl rfl (show zyR _ _ _ _ [some (.ref (17 + 3))] [.int (0 : Int32), .ref (20 + 3), .int (0 : Int32), .ref (3 + 3)] _ _ from ?_)
  refine zy_3 rfl rfl (show zyR _ _ _ _ [some (.ref (17 + 3))] [.int (8 : Int32), .int (0 : Int32), .ref (20 + 3), .int (0 : Int32), .ref (3 + 3)] _ _ from ?_)
  refine zy_64 (c0 := 3) (c1 := 20) rfl rfl rfl (by decide) (Nat.le_of_ble_eq_true rfl) (Nat.le_of_ble_eq_true rfl) (show zyR _ _ _ _ [some (.ref (17 + 3))] [] _ _ from ?_)
  refine zy_0 rfl rfl (show zyR _ _ _ _ [some (.ref (17 + 3))] [.ref (17 + 3)] _ _ from ?_)
  refine zy_1r (c := 17) rfl rfl rfl (show zyR _ _ _ _ [some (.ref (17 + 3))] [.ref (18 + 3)] _ _ from ?_)
  refine zy_3 rfl rfl (show zyR _ _ _ _ [some (.ref (17 + 3))] [.int (0 : Int32), .ref (18 + 3)] _ _ from ?_)
  refine zy_0 rfl rfl (show zyR _ _ _ _ [some (.ref (17 + 3))] [.ref (17 + 3), .int (0 : Int32), .ref (18 + 3)] _ _ from ?_)
  refine zy_1r (c := 17) rfl rfl rfl (show zyR _ _ _ _ [some (.ref (17 + 3))] [.ref (21 + 3), .int (0 : Int32), .ref (18 + 3)] _ _ from ?_)
  refine zy_3 rfl rfl (show zyR _ _ _ _ [some (.ref (17 + 3))] [.int (0 : Int32), .ref (21 + 3), .int (0 : Int32), .ref (18 + 3)] _ _ from ?_)
  refine zy_3 rfl rfl (show zyR _ _ _ _ [some (.ref (17 + 3))] [.int (5 : Int32), .int (0 : Int32), .ref (21 + 3), .int (0 : Int32), .ref (18 + 3)] _ _ from ?_)
  refine zy_64 (c0 := 18) (c1 := 21) rfl rfl rfl (by decide) (Nat.le_of_ble_eq_true rfl) (Nat.le_of_ble_eq_true rfl) (show zyR _ _ _ _ [some (.ref (17 + 3))] [] _ _ from ?_)
  cases h
  exact zy_66 rfl ⟨rfl, rfl⟩
/-! NineOpinions.image()I -/
noncomputable def zyF140    (s : zy_S) : Option (Int32 × zy_S) :=
(zyF141 s).bind fun p1 =>
(zyF92 p1.2).bind fun p2 =>
some (p2.1, p2.2)
theorem zyC140 {X : zx_X}      {s : zy_S} {r : Int32} {s' : zy_S}  (h : zyF140 s = some (r, s')) : zyR X 3 140 0 [some (.ref (0 + 3))] [] s (zyE (some (.int r)) s') := by
  unfold zyF140 at h
  refine zy_0 rfl rfl (show zyR _ _ _ _ [some (.ref (0 + 3))] [.ref (0 + 3)] _ _ from ?_)
  refine zy_1r (c := 0) rfl rfl rfl (show zyR _ _ _ _ [some (.ref (0 + 3))] [.ref (17 + 3)] _ _ from ?_)
  obtain ⟨p1, hp1, h⟩ := zy_bind h
  refine zy_5 (c := 17) (as := []) (rest := []) (L := [some (.ref (17 + 3))]) (d' := 1) rfl rfl rfl (Nat.le_of_ble_eq_true rfl) (Nat.le_of_ble_eq_true rfl) rfl (Nat.le_of_ble_eq_true rfl) rfl rfl (zyC141 hp1) ?_
  show zyR _ _ _ _ [some (.ref (0 + 3))] [] _ _
  refine zy_0 rfl rfl (show zyR _ _ _ _ [some (.ref (0 + 3))] [.ref (0 + 3)] _ _ from ?_)
  refine zy_1r (c := 0) rfl rfl rfl (show zyR _ _ _ _ [some (.ref (0 + 3))] [.ref (1 + 3)] _ _ from ?_)
  obtain ⟨p2, hp2, h⟩ := zy_bind h
  refine zy_5 (c := 1) (as := []) (rest := []) (L := [some (.ref (1 + 3))]) (d' := 2) rfl rfl rfl (Nat.le_of_ble_eq_true rfl) (Nat.le_of_ble_eq_true rfl) rfl (Nat.le_of_ble_eq_true rfl) rfl rfl (zyC92 hp2) ?_
  show zyR _ _ _ _ [some (.ref (0 + 3))] [.int p2.1] _ _
  obtain ⟨rfl, rfl⟩ := zy_pi h
  exact zy_4 rfl ⟨rfl, rfl⟩
/-! NineOpinions$Deeds.layBack()V -/
noncomputable def zyF143    (s : zy_S) : Option (Int32 × zy_S) :=
if zy_cpB (0 : Int32) (0 : Int32) (s.1 17 4) 8 8 then
some ((0 : Int32), (zy_ua (zy_ua (zy_ua (zy_up s 1 3 (s.1 17 3)) 2 (va_cpy (s.1 19) (s.1 2) 0 0 24)) 3 (va_cpy (s.1 20) (s.1 3) 0 0 ((s.1 17 4)).toNatClampNeg)) 18 (va_cpy (s.1 21) (s.1 18) 0 0 5)))
else none
theorem zyC143 {X : zx_X}      {s : zy_S} {r : Int32} {s' : zy_S}  (h : zyF143 s = some (r, s')) : zyR X 1 143 0 [some (.ref (17 + 3))] [] s (zyE none s') := by
  unfold zyF143 at h
  refine zy_0 rfl rfl (show zyR _ _ _ _ [some (.ref (17 + 3))] [.ref (17 + 3)] _ _ from ?_)
  refine zy_1r (c := 17) rfl rfl rfl (show zyR _ _ _ _ [some (.ref (17 + 3))] [.ref (1 + 3)] _ _ from ?_)
  refine zy_0 rfl rfl (show zyR _ _ _ _ [some (.ref (17 + 3))] [.ref (17 + 3), .ref (1 + 3)] _ _ from ?_)
  refine zy_1 (c := 17) rfl rfl rfl (show zyR _ _ _ _ [some (.ref (17 + 3))] [.int (s.1 17 3), .ref (1 + 3)] _ _ from ?_)
  refine zy_52 (c := 1) rfl rfl rfl (show zyR _ _ _ _ [some (.ref (17 + 3))] [] _ _ from ?_)
  refine zy_0 rfl rfl (show zyR _ _ _ _ [some (.ref (17 + 3))] [.ref (17 + 3)] _ _ from ?_)
  refine zy_1r (c := 17) rfl rfl rfl (show zyR _ _ _ _ [some (.ref (17 + 3))] [.ref (19 + 3)] _ _ from ?_)
  refine zy_3 rfl rfl (show zyR _ _ _ _ [some (.ref (17 + 3))] [.int (0 : Int32), .ref (19 + 3)] _ _ from ?_)
  refine zy_0 rfl rfl (show zyR _ _ _ _ [some (.ref (17 + 3))] [.ref (17 + 3), .int (0 : Int32), .ref (19 + 3)] _ _ from ?_)
  refine zy_1r (c := 17) rfl rfl rfl (show zyR _ _ _ _ [some (.ref (17 + 3))] [.ref (1 + 3), .int (0 : Int32), .ref (19 + 3)] _ _ from ?_)
  refine zy_1r (c := 1) rfl rfl rfl (show zyR _ _ _ _ [some (.ref (17 + 3))] [.ref (2 + 3), .int (0 : Int32), .ref (19 + 3)] _ _ from ?_)
  refine zy_3 rfl rfl (show zyR _ _ _ _ [some (.ref (17 + 3))] [.int (0 : Int32), .ref (2 + 3), .int (0 : Int32), .ref (19 + 3)] _ _ from ?_)
  refine zy_3 rfl rfl (show zyR _ _ _ _ [some (.ref (17 + 3))] [.int (24 : Int32), .int (0 : Int32), .ref (2 + 3), .int (0 : Int32), .ref (19 + 3)] _ _ from ?_)
  refine zy_64 (c0 := 19) (c1 := 2) rfl rfl rfl (by decide) (Nat.le_of_ble_eq_true rfl) (Nat.le_of_ble_eq_true rfl) (show zyR _ _ _ _ [some (.ref (17 + 3))] [] _ _ from ?_)
  refine zy_0 rfl rfl (show zyR _ _ _ _ [some (.ref (17 + 3))] [.ref (17 + 3)] _ _ from ?_)
  refine zy_1r (c := 17) rfl rfl rfl (show zyR _ _ _ _ [some (.ref (17 + 3))] [.ref (20 + 3)] _ _ from ?_)
  refine zy_3 rfl rfl (show zyR _ _ _ _ [some (.ref (17 + 3))] [.int (0 : Int32), .ref (20 + 3)] _ _ from ?_)
  refine zy_0 rfl rfl (show zyR _ _ _ _ [some (.ref (17 + 3))] [.ref (17 + 3), .int (0 : Int32), .ref (20 + 3)] _ _ from ?_)
  refine zy_1r (c := 17) rfl rfl rfl (show zyR _ _ _ _ [some (.ref (17 + 3))] [.ref (1 + 3), .int (0 : Int32), .ref (20 + 3)] _ _ from ?_)
  refine zy_1r (c := 1) rfl rfl rfl (show zyR _ _ _ _ [some (.ref (17 + 3))] [.ref (3 + 3), .int (0 : Int32), .ref (20 + 3)] _ _ from ?_)
  refine zy_3 rfl rfl (show zyR _ _ _ _ [some (.ref (17 + 3))] [.int (0 : Int32), .ref (3 + 3), .int (0 : Int32), .ref (20 + 3)] _ _ from ?_)
  refine zy_0 rfl rfl (show zyR _ _ _ _ [some (.ref (17 + 3))] [.ref (17 + 3), .int (0 : Int32), .ref (3 + 3), .int (0 : Int32), .ref (20 + 3)] _ _ from ?_)
  refine zy_1 (c := 17) rfl rfl rfl (show zyR _ _ _ _ [some (.ref (17 + 3))] [.int (s.1 17 4), .int (0 : Int32), .ref (3 + 3), .int (0 : Int32), .ref (20 + 3)] _ _ from ?_)
  obtain ⟨c1, h⟩ := zy_if h
  refine zy_64 (c0 := 20) (c1 := 3) rfl rfl rfl c1 (Nat.le_of_ble_eq_true rfl) (Nat.le_of_ble_eq_true rfl) (show zyR _ _ _ _ [some (.ref (17 + 3))] [] _ _ from ?_)
  refine zy_0 rfl rfl (show zyR _ _ _ _ [some (.ref (17 + 3))] [.ref (17 + 3)] _ _ from ?_)
  refine zy_1r (c := 17) rfl rfl rfl (show zyR _ _ _ _ [some (.ref (17 + 3))] [.ref (21 + 3)] _ _ from ?_)
  refine zy_3 rfl rfl (show zyR _ _ _ _ [some (.ref (17 + 3))] [.int (0 : Int32), .ref (21 + 3)] _ _ from ?_)
  refine zy_0 rfl rfl (show zyR _ _ _ _ [some (.ref (17 + 3))] [.ref (17 + 3), .int (0 : Int32), .ref (21 + 3)] _ _ from ?_)
  refine zy_1r (c := 17) rfl rfl rfl (show zyR _ _ _ _ [some (.ref (17 + 3))] [.ref (18 + 3), .int (0 : Int32), .ref (21 + 3)] _ _ from ?_)
  refine zy_3 rfl rfl (show zyR _ _ _ _ [some (.ref (17 + 3))] [.int (0 : Int32), .ref (18 + 3), .int (0 : Int32), .ref (21 + 3)] _ _ from ?_)
  refine zy_3 rfl rfl (show zyR _ _ _ _ [some (.ref (17 + 3))] [.int (5 : Int32), .int (0 : Int32), .ref (18 + 3), .int (0 : Int32), .ref (21 + 3)] _ _ from ?_)
  refine zy_64 (c0 := 21) (c1 := 18) rfl rfl rfl (by decide) (Nat.le_of_ble_eq_true rfl) (Nat.le_of_ble_eq_true rfl) (show zyR _ _ _ _ [some (.ref (17 + 3))] [] _ _ from ?_)
  cases h
  exact zy_66 rfl ⟨rfl, rfl⟩
/-! NineOpinions.back()I -/
noncomputable def zyF142    (s : zy_S) : Option (Int32 × zy_S) :=
if (s.1 17 2) ≠ 0 then
(zyF143 s).bind fun p1 =>
(zyF92 p1.2).bind fun p2 =>
some (p2.1, p2.2)
else
some ((-5 : Int32), s)
theorem zyC142 {X : zx_X}      {s : zy_S} {r : Int32} {s' : zy_S}  (h : zyF142 s = some (r, s')) : zyR X 3 142 0 [some (.ref (0 + 3))] [] s (zyE (some (.int r)) s') := by
  unfold zyF142 at h
  refine zy_0 rfl rfl (show zyR _ _ _ _ [some (.ref (0 + 3))] [.ref (0 + 3)] _ _ from ?_)
  refine zy_1r (c := 0) rfl rfl rfl (show zyR _ _ _ _ [some (.ref (0 + 3))] [.ref (17 + 3)] _ _ from ?_)
  refine zy_1 (c := 17) rfl rfl rfl (show zyR _ _ _ _ [some (.ref (0 + 3))] [.int (s.1 17 2)] _ _ from ?_)
  refine zy_24_1 rfl (fun b3 => (show zyR _ _ _ _ [some (.ref (0 + 3))] [] _ _ from ?_)) (fun b3 => (show zyR _ _ _ _ [some (.ref (0 + 3))] [] _ _ from ?_))
  · replace h := zy_ifp h b3
    refine zy_0 rfl rfl (show zyR _ _ _ _ [some (.ref (0 + 3))] [.ref (0 + 3)] _ _ from ?_)
    refine zy_1r (c := 0) rfl rfl rfl (show zyR _ _ _ _ [some (.ref (0 + 3))] [.ref (17 + 3)] _ _ from ?_)
    obtain ⟨p1, hp1, h⟩ := zy_bind h
    refine zy_5 (c := 17) (as := []) (rest := []) (L := [some (.ref (17 + 3))]) (d' := 1) rfl rfl rfl (Nat.le_of_ble_eq_true rfl) (Nat.le_of_ble_eq_true rfl) rfl (Nat.le_of_ble_eq_true rfl) rfl rfl (zyC143 hp1) ?_
    show zyR _ _ _ _ [some (.ref (0 + 3))] [] _ _
    refine zy_0 rfl rfl (show zyR _ _ _ _ [some (.ref (0 + 3))] [.ref (0 + 3)] _ _ from ?_)
    refine zy_1r (c := 0) rfl rfl rfl (show zyR _ _ _ _ [some (.ref (0 + 3))] [.ref (1 + 3)] _ _ from ?_)
    obtain ⟨p2, hp2, h⟩ := zy_bind h
    refine zy_5 (c := 1) (as := []) (rest := []) (L := [some (.ref (1 + 3))]) (d' := 2) rfl rfl rfl (Nat.le_of_ble_eq_true rfl) (Nat.le_of_ble_eq_true rfl) rfl (Nat.le_of_ble_eq_true rfl) rfl rfl (zyC92 hp2) ?_
    show zyR _ _ _ _ [some (.ref (0 + 3))] [.int p2.1] _ _
    obtain ⟨rfl, rfl⟩ := zy_pi h
    exact zy_4 rfl ⟨rfl, rfl⟩
  · replace h := zy_ifn h b3
    refine zy_3 rfl rfl (show zyR _ _ _ _ [some (.ref (0 + 3))] [.int (-5 : Int32)] _ _ from ?_)
    obtain ⟨rfl, rfl⟩ := zy_pi h
    exact zy_4 rfl ⟨rfl, rfl⟩
/-! NineOpinions$Changes.undoLatest()I -/
noncomputable def zyF145    (s : zy_S) : Option (Int32 × zy_S) :=
if zy_in ((s.1 22 5) - (1 : Int32)) 40 then
if zy_in ((s.1 22 5) - (1 : Int32)) 40 then
if zy_in ((s.1 22 5) - (1 : Int32)) 40 then
(zyF28 (s.1 23 (((s.1 22 5) - (1 : Int32))).toNatClampNeg) (s.1 24 (((s.1 22 5) - (1 : Int32))).toNatClampNeg) (s.1 25 (((s.1 22 5) - (1 : Int32))).toNatClampNeg) (zy_up s 22 5 ((s.1 22 5) - (1 : Int32)))).bind fun p4 =>
some ((p4.2.1 22 5), p4.2)
else none
else none
else none
theorem zyC145 {X : zx_X}      {s : zy_S} {r : Int32} {s' : zy_S}  (h : zyF145 s = some (r, s')) : zyR X 2 145 0 [some (.ref (22 + 3))] [] s (zyE (some (.int r)) s') := by
  unfold zyF145 at h
  refine zy_0 rfl rfl (show zyR _ _ _ _ [some (.ref (22 + 3))] [.ref (22 + 3)] _ _ from ?_)
  refine zy_33 rfl rfl (show zyR _ _ _ _ [some (.ref (22 + 3))] [.ref (22 + 3), .ref (22 + 3)] _ _ from ?_)
  refine zy_1 (c := 22) rfl rfl rfl (show zyR _ _ _ _ [some (.ref (22 + 3))] [.int (s.1 22 5), .ref (22 + 3)] _ _ from ?_)
  refine zy_3 rfl rfl (show zyR _ _ _ _ [some (.ref (22 + 3))] [.int (1 : Int32), .int (s.1 22 5), .ref (22 + 3)] _ _ from ?_)
  refine zy_11 rfl (show zyR _ _ _ _ [some (.ref (22 + 3))] [.int ((s.1 22 5) - (1 : Int32)), .ref (22 + 3)] _ _ from ?_)
  refine zy_52 (c := 22) rfl rfl rfl (show zyR _ _ _ _ [some (.ref (22 + 3))] [] _ _ from ?_)
  refine zy_0 rfl rfl (show zyR _ _ _ _ [some (.ref (22 + 3))] [.ref (22 + 3)] _ _ from ?_)
  refine zy_1r (c := 22) rfl rfl rfl (show zyR _ _ _ _ [some (.ref (22 + 3))] [.ref (1 + 3)] _ _ from ?_)
  refine zy_0 rfl rfl (show zyR _ _ _ _ [some (.ref (22 + 3))] [.ref (22 + 3), .ref (1 + 3)] _ _ from ?_)
  refine zy_1r (c := 22) rfl rfl rfl (show zyR _ _ _ _ [some (.ref (22 + 3))] [.ref (23 + 3), .ref (1 + 3)] _ _ from ?_)
  refine zy_0 rfl rfl (show zyR _ _ _ _ [some (.ref (22 + 3))] [.ref (22 + 3), .ref (23 + 3), .ref (1 + 3)] _ _ from ?_)
  refine zy_1 (c := 22) rfl rfl rfl (show zyR _ _ _ _ [some (.ref (22 + 3))] [.int ((s.1 22 5) - (1 : Int32)), .ref (23 + 3), .ref (1 + 3)] _ _ from ?_)
  obtain ⟨c1, h⟩ := zy_if h
  refine zy_26 (c := 23) rfl rfl c1 (show zyR _ _ _ _ [some (.ref (22 + 3))] [.int (s.1 23 (((s.1 22 5) - (1 : Int32))).toNatClampNeg), .ref (1 + 3)] _ _ from ?_)
  refine zy_0 rfl rfl (show zyR _ _ _ _ [some (.ref (22 + 3))] [.ref (22 + 3), .int (s.1 23 (((s.1 22 5) - (1 : Int32))).toNatClampNeg), .ref (1 + 3)] _ _ from ?_)
  refine zy_1r (c := 22) rfl rfl rfl (show zyR _ _ _ _ [some (.ref (22 + 3))] [.ref (24 + 3), .int (s.1 23 (((s.1 22 5) - (1 : Int32))).toNatClampNeg), .ref (1 + 3)] _ _ from ?_)
  refine zy_0 rfl rfl (show zyR _ _ _ _ [some (.ref (22 + 3))] [.ref (22 + 3), .ref (24 + 3), .int (s.1 23 (((s.1 22 5) - (1 : Int32))).toNatClampNeg), .ref (1 + 3)] _ _ from ?_)
  refine zy_1 (c := 22) rfl rfl rfl (show zyR _ _ _ _ [some (.ref (22 + 3))] [.int ((s.1 22 5) - (1 : Int32)), .ref (24 + 3), .int (s.1 23 (((s.1 22 5) - (1 : Int32))).toNatClampNeg), .ref (1 + 3)] _ _ from ?_)
  obtain ⟨c2, h⟩ := zy_if h
  refine zy_26 (c := 24) rfl rfl c2 (show zyR _ _ _ _ [some (.ref (22 + 3))] [.int (s.1 24 (((s.1 22 5) - (1 : Int32))).toNatClampNeg), .int (s.1 23 (((s.1 22 5) - (1 : Int32))).toNatClampNeg), .ref (1 + 3)] _ _ from ?_)
  refine zy_0 rfl rfl (show zyR _ _ _ _ [some (.ref (22 + 3))] [.ref (22 + 3), .int (s.1 24 (((s.1 22 5) - (1 : Int32))).toNatClampNeg), .int (s.1 23 (((s.1 22 5) - (1 : Int32))).toNatClampNeg), .ref (1 + 3)] _ _ from ?_)
  refine zy_1r (c := 22) rfl rfl rfl (show zyR _ _ _ _ [some (.ref (22 + 3))] [.ref (25 + 3), .int (s.1 24 (((s.1 22 5) - (1 : Int32))).toNatClampNeg), .int (s.1 23 (((s.1 22 5) - (1 : Int32))).toNatClampNeg), .ref (1 + 3)] _ _ from ?_)
  refine zy_0 rfl rfl (show zyR _ _ _ _ [some (.ref (22 + 3))] [.ref (22 + 3), .ref (25 + 3), .int (s.1 24 (((s.1 22 5) - (1 : Int32))).toNatClampNeg), .int (s.1 23 (((s.1 22 5) - (1 : Int32))).toNatClampNeg), .ref (1 + 3)] _ _ from ?_)
  refine zy_1 (c := 22) rfl rfl rfl (show zyR _ _ _ _ [some (.ref (22 + 3))] [.int ((s.1 22 5) - (1 : Int32)), .ref (25 + 3), .int (s.1 24 (((s.1 22 5) - (1 : Int32))).toNatClampNeg), .int (s.1 23 (((s.1 22 5) - (1 : Int32))).toNatClampNeg), .ref (1 + 3)] _ _ from ?_)
  obtain ⟨c3, h⟩ := zy_if h
  refine zy_26 (c := 25) rfl rfl c3 (show zyR _ _ _ _ [some (.ref (22 + 3))] [.int (s.1 25 (((s.1 22 5) - (1 : Int32))).toNatClampNeg), .int (s.1 24 (((s.1 22 5) - (1 : Int32))).toNatClampNeg), .int (s.1 23 (((s.1 22 5) - (1 : Int32))).toNatClampNeg), .ref (1 + 3)] _ _ from ?_)
  obtain ⟨p4, hp4, h⟩ := zy_bind h
  refine zy_5 (c := 1) (as := [.int (s.1 23 (((s.1 22 5) - (1 : Int32))).toNatClampNeg), .int (s.1 24 (((s.1 22 5) - (1 : Int32))).toNatClampNeg), .int (s.1 25 (((s.1 22 5) - (1 : Int32))).toNatClampNeg)]) (rest := []) (L := [some (.ref (1 + 3)), some (.int (s.1 23 (((s.1 22 5) - (1 : Int32))).toNatClampNeg)), some (.int (s.1 24 (((s.1 22 5) - (1 : Int32))).toNatClampNeg)), some (.int (s.1 25 (((s.1 22 5) - (1 : Int32))).toNatClampNeg))]) (d' := 1) rfl rfl rfl (Nat.le_of_ble_eq_true rfl) (Nat.le_of_ble_eq_true rfl) rfl (Nat.le_of_ble_eq_true rfl) rfl rfl (zyC28 hp4) ?_
  show zyR _ _ _ _ [some (.ref (22 + 3))] [] _ _
  refine zy_0 rfl rfl (show zyR _ _ _ _ [some (.ref (22 + 3))] [.ref (22 + 3)] _ _ from ?_)
  refine zy_1 (c := 22) rfl rfl rfl (show zyR _ _ _ _ [some (.ref (22 + 3))] [.int (p4.2.1 22 5)] _ _ from ?_)
  obtain ⟨rfl, rfl⟩ := zy_pi h
  exact zy_4 rfl ⟨rfl, rfl⟩
/-! NineOpinions.undo()I -/
noncomputable def zyF144    (s : zy_S) : Option (Int32 × zy_S) :=
if (s.1 22 5) ≤ 0 then
some ((-5 : Int32), s)
else
(zyF145 s).bind fun p1 =>
some (p1.1, p1.2)
theorem zyC144 {X : zx_X}      {s : zy_S} {r : Int32} {s' : zy_S}  (h : zyF144 s = some (r, s')) : zyR X 3 144 0 [some (.ref (0 + 3))] [] s (zyE (some (.int r)) s') := by
  unfold zyF144 at h
  refine zy_0 rfl rfl (show zyR _ _ _ _ [some (.ref (0 + 3))] [.ref (0 + 3)] _ _ from ?_)
  refine zy_1r (c := 0) rfl rfl rfl (show zyR _ _ _ _ [some (.ref (0 + 3))] [.ref (22 + 3)] _ _ from ?_)
  refine zy_1 (c := 22) rfl rfl rfl (show zyR _ _ _ _ [some (.ref (0 + 3))] [.int (s.1 22 5)] _ _ from ?_)
  refine zy_24_5 rfl (fun b2 => (show zyR _ _ _ _ [some (.ref (0 + 3))] [] _ _ from ?_)) (fun b2 => (show zyR _ _ _ _ [some (.ref (0 + 3))] [] _ _ from ?_))
  · replace h := zy_ifp h b2
    refine zy_3 rfl rfl (show zyR _ _ _ _ [some (.ref (0 + 3))] [.int (-5 : Int32)] _ _ from ?_)
    obtain ⟨rfl, rfl⟩ := zy_pi h
    exact zy_4 rfl ⟨rfl, rfl⟩
  · replace h := zy_ifn h b2
    refine zy_0 rfl rfl (show zyR _ _ _ _ [some (.ref (0 + 3))] [.ref (0 + 3)] _ _ from ?_)
    refine zy_1r (c := 0) rfl rfl rfl (show zyR _ _ _ _ [some (.ref (0 + 3))] [.ref (22 + 3)] _ _ from ?_)
    obtain ⟨p1, hp1, h⟩ := zy_bind h
    refine zy_5 (c := 22) (as := []) (rest := []) (L := [some (.ref (22 + 3))]) (d' := 2) rfl rfl rfl (Nat.le_of_ble_eq_true rfl) (Nat.le_of_ble_eq_true rfl) rfl (Nat.le_of_ble_eq_true rfl) rfl rfl (zyC145 hp1) ?_
    show zyR _ _ _ _ [some (.ref (0 + 3))] [.int p1.1] _ _
    refine zy_6 rfl (show zyR _ _ _ _ [some (.ref (0 + 3))] [.int p1.1] _ _ from ?_)
    obtain ⟨rfl, rfl⟩ := zy_pi h
    exact zy_4 rfl ⟨rfl, rfl⟩
/-! NineOpinions$Changes.redoNext()I -/
noncomputable def zyF147    (s : zy_S) : Option (Int32 × zy_S) :=
if zy_in (s.1 22 5) 40 then
if zy_in (s.1 22 5) 40 then
if zy_in (s.1 22 5) 40 then
(zyF28 (s.1 23 ((s.1 22 5)).toNatClampNeg) (s.1 24 ((s.1 22 5)).toNatClampNeg) (s.1 26 ((s.1 22 5)).toNatClampNeg) s).bind fun p4 =>
some (((p4.2.1 22 6) - ((p4.2.1 22 5) + (1 : Int32))), (zy_up p4.2 22 5 ((p4.2.1 22 5) + (1 : Int32))))
else none
else none
else none
theorem zyC147 {X : zx_X}      {s : zy_S} {r : Int32} {s' : zy_S}  (h : zyF147 s = some (r, s')) : zyR X 2 147 0 [some (.ref (22 + 3))] [] s (zyE (some (.int r)) s') := by
  unfold zyF147 at h
  refine zy_0 rfl rfl (show zyR _ _ _ _ [some (.ref (22 + 3))] [.ref (22 + 3)] _ _ from ?_)
  refine zy_1r (c := 22) rfl rfl rfl (show zyR _ _ _ _ [some (.ref (22 + 3))] [.ref (1 + 3)] _ _ from ?_)
  refine zy_0 rfl rfl (show zyR _ _ _ _ [some (.ref (22 + 3))] [.ref (22 + 3), .ref (1 + 3)] _ _ from ?_)
  refine zy_1r (c := 22) rfl rfl rfl (show zyR _ _ _ _ [some (.ref (22 + 3))] [.ref (23 + 3), .ref (1 + 3)] _ _ from ?_)
  refine zy_0 rfl rfl (show zyR _ _ _ _ [some (.ref (22 + 3))] [.ref (22 + 3), .ref (23 + 3), .ref (1 + 3)] _ _ from ?_)
  refine zy_1 (c := 22) rfl rfl rfl (show zyR _ _ _ _ [some (.ref (22 + 3))] [.int (s.1 22 5), .ref (23 + 3), .ref (1 + 3)] _ _ from ?_)
  obtain ⟨c1, h⟩ := zy_if h
  refine zy_26 (c := 23) rfl rfl c1 (show zyR _ _ _ _ [some (.ref (22 + 3))] [.int (s.1 23 ((s.1 22 5)).toNatClampNeg), .ref (1 + 3)] _ _ from ?_)
  refine zy_0 rfl rfl (show zyR _ _ _ _ [some (.ref (22 + 3))] [.ref (22 + 3), .int (s.1 23 ((s.1 22 5)).toNatClampNeg), .ref (1 + 3)] _ _ from ?_)
  refine zy_1r (c := 22) rfl rfl rfl (show zyR _ _ _ _ [some (.ref (22 + 3))] [.ref (24 + 3), .int (s.1 23 ((s.1 22 5)).toNatClampNeg), .ref (1 + 3)] _ _ from ?_)
  refine zy_0 rfl rfl (show zyR _ _ _ _ [some (.ref (22 + 3))] [.ref (22 + 3), .ref (24 + 3), .int (s.1 23 ((s.1 22 5)).toNatClampNeg), .ref (1 + 3)] _ _ from ?_)
  refine zy_1 (c := 22) rfl rfl rfl (show zyR _ _ _ _ [some (.ref (22 + 3))] [.int (s.1 22 5), .ref (24 + 3), .int (s.1 23 ((s.1 22 5)).toNatClampNeg), .ref (1 + 3)] _ _ from ?_)
  obtain ⟨c2, h⟩ := zy_if h
  refine zy_26 (c := 24) rfl rfl c2 (show zyR _ _ _ _ [some (.ref (22 + 3))] [.int (s.1 24 ((s.1 22 5)).toNatClampNeg), .int (s.1 23 ((s.1 22 5)).toNatClampNeg), .ref (1 + 3)] _ _ from ?_)
  refine zy_0 rfl rfl (show zyR _ _ _ _ [some (.ref (22 + 3))] [.ref (22 + 3), .int (s.1 24 ((s.1 22 5)).toNatClampNeg), .int (s.1 23 ((s.1 22 5)).toNatClampNeg), .ref (1 + 3)] _ _ from ?_)
  refine zy_1r (c := 22) rfl rfl rfl (show zyR _ _ _ _ [some (.ref (22 + 3))] [.ref (26 + 3), .int (s.1 24 ((s.1 22 5)).toNatClampNeg), .int (s.1 23 ((s.1 22 5)).toNatClampNeg), .ref (1 + 3)] _ _ from ?_)
  refine zy_0 rfl rfl (show zyR _ _ _ _ [some (.ref (22 + 3))] [.ref (22 + 3), .ref (26 + 3), .int (s.1 24 ((s.1 22 5)).toNatClampNeg), .int (s.1 23 ((s.1 22 5)).toNatClampNeg), .ref (1 + 3)] _ _ from ?_)
  refine zy_1 (c := 22) rfl rfl rfl (show zyR _ _ _ _ [some (.ref (22 + 3))] [.int (s.1 22 5), .ref (26 + 3), .int (s.1 24 ((s.1 22 5)).toNatClampNeg), .int (s.1 23 ((s.1 22 5)).toNatClampNeg), .ref (1 + 3)] _ _ from ?_)
  obtain ⟨c3, h⟩ := zy_if h
  refine zy_26 (c := 26) rfl rfl c3 (show zyR _ _ _ _ [some (.ref (22 + 3))] [.int (s.1 26 ((s.1 22 5)).toNatClampNeg), .int (s.1 24 ((s.1 22 5)).toNatClampNeg), .int (s.1 23 ((s.1 22 5)).toNatClampNeg), .ref (1 + 3)] _ _ from ?_)
  obtain ⟨p4, hp4, h⟩ := zy_bind h
  refine zy_5 (c := 1) (as := [.int (s.1 23 ((s.1 22 5)).toNatClampNeg), .int (s.1 24 ((s.1 22 5)).toNatClampNeg), .int (s.1 26 ((s.1 22 5)).toNatClampNeg)]) (rest := []) (L := [some (.ref (1 + 3)), some (.int (s.1 23 ((s.1 22 5)).toNatClampNeg)), some (.int (s.1 24 ((s.1 22 5)).toNatClampNeg)), some (.int (s.1 26 ((s.1 22 5)).toNatClampNeg))]) (d' := 1) rfl rfl rfl (Nat.le_of_ble_eq_true rfl) (Nat.le_of_ble_eq_true rfl) rfl (Nat.le_of_ble_eq_true rfl) rfl rfl (zyC28 hp4) ?_
  show zyR _ _ _ _ [some (.ref (22 + 3))] [] _ _
  refine zy_0 rfl rfl (show zyR _ _ _ _ [some (.ref (22 + 3))] [.ref (22 + 3)] _ _ from ?_)
  refine zy_33 rfl rfl (show zyR _ _ _ _ [some (.ref (22 + 3))] [.ref (22 + 3), .ref (22 + 3)] _ _ from ?_)
  refine zy_1 (c := 22) rfl rfl rfl (show zyR _ _ _ _ [some (.ref (22 + 3))] [.int (p4.2.1 22 5), .ref (22 + 3)] _ _ from ?_)
  refine zy_3 rfl rfl (show zyR _ _ _ _ [some (.ref (22 + 3))] [.int (1 : Int32), .int (p4.2.1 22 5), .ref (22 + 3)] _ _ from ?_)
  refine zy_10 rfl (show zyR _ _ _ _ [some (.ref (22 + 3))] [.int ((p4.2.1 22 5) + (1 : Int32)), .ref (22 + 3)] _ _ from ?_)
  refine zy_52 (c := 22) rfl rfl rfl (show zyR _ _ _ _ [some (.ref (22 + 3))] [] _ _ from ?_)
  refine zy_0 rfl rfl (show zyR _ _ _ _ [some (.ref (22 + 3))] [.ref (22 + 3)] _ _ from ?_)
  refine zy_1 (c := 22) rfl rfl rfl (show zyR _ _ _ _ [some (.ref (22 + 3))] [.int (p4.2.1 22 6)] _ _ from ?_)
  refine zy_0 rfl rfl (show zyR _ _ _ _ [some (.ref (22 + 3))] [.ref (22 + 3), .int (p4.2.1 22 6)] _ _ from ?_)
  refine zy_1 (c := 22) rfl rfl rfl (show zyR _ _ _ _ [some (.ref (22 + 3))] [.int ((p4.2.1 22 5) + (1 : Int32)), .int (p4.2.1 22 6)] _ _ from ?_)
  refine zy_11 rfl (show zyR _ _ _ _ [some (.ref (22 + 3))] [.int ((p4.2.1 22 6) - ((p4.2.1 22 5) + (1 : Int32)))] _ _ from ?_)
  obtain ⟨rfl, rfl⟩ := zy_pi h
  exact zy_4 rfl ⟨rfl, rfl⟩
/-! NineOpinions.redo()I -/
noncomputable def zyF146    (s : zy_S) : Option (Int32 × zy_S) :=
if (s.1 22 6) ≤ (s.1 22 5) then
some ((-5 : Int32), s)
else
(zyF147 s).bind fun p1 =>
some (p1.1, p1.2)
theorem zyC146 {X : zx_X}      {s : zy_S} {r : Int32} {s' : zy_S}  (h : zyF146 s = some (r, s')) : zyR X 3 146 0 [some (.ref (0 + 3))] [] s (zyE (some (.int r)) s') := by
  unfold zyF146 at h
  refine zy_0 rfl rfl (show zyR _ _ _ _ [some (.ref (0 + 3))] [.ref (0 + 3)] _ _ from ?_)
  refine zy_1r (c := 0) rfl rfl rfl (show zyR _ _ _ _ [some (.ref (0 + 3))] [.ref (22 + 3)] _ _ from ?_)
  refine zy_1 (c := 22) rfl rfl rfl (show zyR _ _ _ _ [some (.ref (0 + 3))] [.int (s.1 22 5)] _ _ from ?_)
  refine zy_0 rfl rfl (show zyR _ _ _ _ [some (.ref (0 + 3))] [.ref (0 + 3), .int (s.1 22 5)] _ _ from ?_)
  refine zy_1r (c := 0) rfl rfl rfl (show zyR _ _ _ _ [some (.ref (0 + 3))] [.ref (22 + 3), .int (s.1 22 5)] _ _ from ?_)
  refine zy_1 (c := 22) rfl rfl rfl (show zyR _ _ _ _ [some (.ref (0 + 3))] [.int (s.1 22 6), .int (s.1 22 5)] _ _ from ?_)
  refine zy_25_3 rfl (fun b2 => (show zyR _ _ _ _ [some (.ref (0 + 3))] [] _ _ from ?_)) (fun b2 => (show zyR _ _ _ _ [some (.ref (0 + 3))] [] _ _ from ?_))
  · replace h := zy_ifp h b2
    refine zy_3 rfl rfl (show zyR _ _ _ _ [some (.ref (0 + 3))] [.int (-5 : Int32)] _ _ from ?_)
    obtain ⟨rfl, rfl⟩ := zy_pi h
    exact zy_4 rfl ⟨rfl, rfl⟩
  · replace h := zy_ifn h b2
    refine zy_0 rfl rfl (show zyR _ _ _ _ [some (.ref (0 + 3))] [.ref (0 + 3)] _ _ from ?_)
    refine zy_1r (c := 0) rfl rfl rfl (show zyR _ _ _ _ [some (.ref (0 + 3))] [.ref (22 + 3)] _ _ from ?_)
    obtain ⟨p1, hp1, h⟩ := zy_bind h
    refine zy_5 (c := 22) (as := []) (rest := []) (L := [some (.ref (22 + 3))]) (d' := 2) rfl rfl rfl (Nat.le_of_ble_eq_true rfl) (Nat.le_of_ble_eq_true rfl) rfl (Nat.le_of_ble_eq_true rfl) rfl rfl (zyC147 hp1) ?_
    show zyR _ _ _ _ [some (.ref (0 + 3))] [.int p1.1] _ _
    refine zy_6 rfl (show zyR _ _ _ _ [some (.ref (0 + 3))] [.int p1.1] _ _ from ?_)
    obtain ⟨rfl, rfl⟩ := zy_pi h
    exact zy_4 rfl ⟨rfl, rfl⟩
/-! NineOpinions$Bodies.isKind(I)Z -/
noncomputable def zyF149   (x0 : Int32) (s : zy_S) : Option (Int32 × zy_S) :=
if x0 < 0 then
some ((0 : Int32), s)
else
if (8 : Int32) ≤ x0 then
some ((0 : Int32), s)
else
some ((1 : Int32), s)
theorem zyC149 {X : zx_X}     {x0 : Int32} {s : zy_S} {r : Int32} {s' : zy_S}  (h : zyF149 x0 s = some (r, s')) : zyR X 1 149 0 [some (.int x0)] [] s (zyE (some (.int r)) s') := by
  unfold zyF149 at h
  refine zy_2 rfl rfl (show zyR _ _ _ _ [some (.int x0)] [.int x0] _ _ from ?_)
  refine zy_24_2 rfl (fun b2 => (show zyR _ _ _ _ [some (.int x0)] [] _ _ from ?_)) (fun b2 => (show zyR _ _ _ _ [some (.int x0)] [] _ _ from ?_))
  · replace h := zy_ifp h b2
    refine zy_3 rfl rfl (show zyR _ _ _ _ [some (.int x0)] [.int (0 : Int32)] _ _ from ?_)
    cases h
    exact zy_4b rfl ⟨rfl, rfl⟩ (Or.inl rfl)
  · replace h := zy_ifn h b2
    refine zy_2 rfl rfl (show zyR _ _ _ _ [some (.int x0)] [.int x0] _ _ from ?_)
    refine zy_3 rfl rfl (show zyR _ _ _ _ [some (.int x0)] [.int (8 : Int32), .int x0] _ _ from ?_)
    refine zy_25_3 rfl (fun b1 => (show zyR _ _ _ _ [some (.int x0)] [] _ _ from ?_)) (fun b1 => (show zyR _ _ _ _ [some (.int x0)] [] _ _ from ?_))
    · replace h := zy_ifp h b1
      refine zy_3 rfl rfl (show zyR _ _ _ _ [some (.int x0)] [.int (0 : Int32)] _ _ from ?_)
      cases h
      exact zy_4b rfl ⟨rfl, rfl⟩ (Or.inl rfl)
    · replace h := zy_ifn h b1
      refine zy_3 rfl rfl (show zyR _ _ _ _ [some (.int x0)] [.int (1 : Int32)] _ _ from ?_)
      refine zy_6 rfl (show zyR _ _ _ _ [some (.int x0)] [.int (1 : Int32)] _ _ from ?_)
      cases h
      exact zy_4b rfl ⟨rfl, rfl⟩ (Or.inr rfl)
/-! NineOpinions$Bodies.isFull()Z -/
noncomputable def zyF150    (s : zy_S) : Option (Int32 × zy_S) :=
if (s.1 27 2) < (50 : Int32) then
some ((0 : Int32), s)
else
some ((1 : Int32), s)
theorem zyC150 {X : zx_X}      {s : zy_S} {r : Int32} {s' : zy_S}  (h : zyF150 s = some (r, s')) : zyR X 1 150 0 [some (.ref (27 + 3))] [] s (zyE (some (.int r)) s') := by
  unfold zyF150 at h
  refine zy_0 rfl rfl (show zyR _ _ _ _ [some (.ref (27 + 3))] [.ref (27 + 3)] _ _ from ?_)
  refine zy_1 (c := 27) rfl rfl rfl (show zyR _ _ _ _ [some (.ref (27 + 3))] [.int (s.1 27 2)] _ _ from ?_)
  refine zy_3 rfl rfl (show zyR _ _ _ _ [some (.ref (27 + 3))] [.int (50 : Int32), .int (s.1 27 2)] _ _ from ?_)
  refine zy_25_2 rfl (fun b1 => (show zyR _ _ _ _ [some (.ref (27 + 3))] [] _ _ from ?_)) (fun b1 => (show zyR _ _ _ _ [some (.ref (27 + 3))] [] _ _ from ?_))
  · replace h := zy_ifp h b1
    refine zy_3 rfl rfl (show zyR _ _ _ _ [some (.ref (27 + 3))] [.int (0 : Int32)] _ _ from ?_)
    cases h
    exact zy_4b rfl ⟨rfl, rfl⟩ (Or.inl rfl)
  · replace h := zy_ifn h b1
    refine zy_3 rfl rfl (show zyR _ _ _ _ [some (.ref (27 + 3))] [.int (1 : Int32)] _ _ from ?_)
    refine zy_6 rfl (show zyR _ _ _ _ [some (.ref (27 + 3))] [.int (1 : Int32)] _ _ from ?_)
    cases h
    exact zy_4b rfl ⟨rfl, rfl⟩ (Or.inr rfl)
/-! NineOpinions$Bodies.add(I)I -/
noncomputable def zyF151   (x1 : Int32) (s : zy_S) : Option (Int32 × zy_S) :=
if zy_in (s.1 27 2) 50 then
some ((((s.1 27 2) + (1 : Int32)) - (1 : Int32)), (zy_up (zy_up s 28 ((s.1 27 2)).toNatClampNeg x1) 27 2 ((s.1 27 2) + (1 : Int32))))
else none
theorem zyC151 {X : zx_X}     {x1 : Int32} {s : zy_S} {r : Int32} {s' : zy_S}  (h : zyF151 x1 s = some (r, s')) : zyR X 1 151 0 [some (.ref (27 + 3)), some (.int x1)] [] s (zyE (some (.int r)) s') := by
  unfold zyF151 at h
  refine zy_0 rfl rfl (show zyR _ _ _ _ [some (.ref (27 + 3)), some (.int x1)] [.ref (27 + 3)] _ _ from ?_)
  refine zy_1r (c := 27) rfl rfl rfl (show zyR _ _ _ _ [some (.ref (27 + 3)), some (.int x1)] [.ref (28 + 3)] _ _ from ?_)
  refine zy_0 rfl rfl (show zyR _ _ _ _ [some (.ref (27 + 3)), some (.int x1)] [.ref (27 + 3), .ref (28 + 3)] _ _ from ?_)
  refine zy_1 (c := 27) rfl rfl rfl (show zyR _ _ _ _ [some (.ref (27 + 3)), some (.int x1)] [.int (s.1 27 2), .ref (28 + 3)] _ _ from ?_)
  refine zy_2 rfl rfl (show zyR _ _ _ _ [some (.ref (27 + 3)), some (.int x1)] [.int x1, .int (s.1 27 2), .ref (28 + 3)] _ _ from ?_)
  obtain ⟨c1, h⟩ := zy_if h
  refine zy_27 (c := 28) rfl rfl c1 (show zyR _ _ _ _ [some (.ref (27 + 3)), some (.int x1)] [] _ _ from ?_)
  refine zy_0 rfl rfl (show zyR _ _ _ _ [some (.ref (27 + 3)), some (.int x1)] [.ref (27 + 3)] _ _ from ?_)
  refine zy_33 rfl rfl (show zyR _ _ _ _ [some (.ref (27 + 3)), some (.int x1)] [.ref (27 + 3), .ref (27 + 3)] _ _ from ?_)
  refine zy_1 (c := 27) rfl rfl rfl (show zyR _ _ _ _ [some (.ref (27 + 3)), some (.int x1)] [.int (s.1 27 2), .ref (27 + 3)] _ _ from ?_)
  refine zy_3 rfl rfl (show zyR _ _ _ _ [some (.ref (27 + 3)), some (.int x1)] [.int (1 : Int32), .int (s.1 27 2), .ref (27 + 3)] _ _ from ?_)
  refine zy_10 rfl (show zyR _ _ _ _ [some (.ref (27 + 3)), some (.int x1)] [.int ((s.1 27 2) + (1 : Int32)), .ref (27 + 3)] _ _ from ?_)
  refine zy_52 (c := 27) rfl rfl rfl (show zyR _ _ _ _ [some (.ref (27 + 3)), some (.int x1)] [] _ _ from ?_)
  refine zy_0 rfl rfl (show zyR _ _ _ _ [some (.ref (27 + 3)), some (.int x1)] [.ref (27 + 3)] _ _ from ?_)
  refine zy_1 (c := 27) rfl rfl rfl (show zyR _ _ _ _ [some (.ref (27 + 3)), some (.int x1)] [.int ((s.1 27 2) + (1 : Int32))] _ _ from ?_)
  refine zy_3 rfl rfl (show zyR _ _ _ _ [some (.ref (27 + 3)), some (.int x1)] [.int (1 : Int32), .int ((s.1 27 2) + (1 : Int32))] _ _ from ?_)
  refine zy_11 rfl (show zyR _ _ _ _ [some (.ref (27 + 3)), some (.int x1)] [.int (((s.1 27 2) + (1 : Int32)) - (1 : Int32))] _ _ from ?_)
  obtain ⟨rfl, rfl⟩ := zy_pi h
  exact zy_4 rfl ⟨rfl, rfl⟩
/-! NineOpinions.body(I)I -/
noncomputable def zyF148   (x1 : Int32) (s : zy_S) : Option (Int32 × zy_S) :=
(zyF149 x1 s).bind fun p1 =>
if p1.1 ≠ 0 then
(zyF150 p1.2).bind fun p2 =>
if p2.1 = 0 then
(zyF151 x1 p2.2).bind fun p3 =>
some (p3.1, p3.2)
else
some ((-3 : Int32), p2.2)
else
some ((-1 : Int32), p1.2)
theorem zyC148 {X : zx_X}     {x1 : Int32} {s : zy_S} {r : Int32} {s' : zy_S}  (h : zyF148 x1 s = some (r, s')) : zyR X 2 148 0 [some (.ref (0 + 3)), some (.int x1)] [] s (zyE (some (.int r)) s') := by
  unfold zyF148 at h
  refine zy_2 rfl rfl (show zyR _ _ _ _ [some (.ref (0 + 3)), some (.int x1)] [.int x1] _ _ from ?_)
  obtain ⟨p1, hp1, h⟩ := zy_bind h
  refine zy_60 (as := [.int x1]) (rest := []) (L := [some (.int x1)]) (d' := 1) rfl rfl (Nat.le_of_ble_eq_true rfl) (Nat.le_of_ble_eq_true rfl) rfl (Nat.le_of_ble_eq_true rfl) rfl rfl (zyC149 hp1) ?_
  show zyR _ _ _ _ [some (.ref (0 + 3)), some (.int x1)] [.int p1.1] _ _
  refine zy_24_1 rfl (fun b5 => (show zyR _ _ _ _ [some (.ref (0 + 3)), some (.int x1)] [] _ _ from ?_)) (fun b5 => (show zyR _ _ _ _ [some (.ref (0 + 3)), some (.int x1)] [] _ _ from ?_))
  · replace h := zy_ifp h b5
    refine zy_0 rfl rfl (show zyR _ _ _ _ [some (.ref (0 + 3)), some (.int x1)] [.ref (0 + 3)] _ _ from ?_)
    refine zy_1r (c := 0) rfl rfl rfl (show zyR _ _ _ _ [some (.ref (0 + 3)), some (.int x1)] [.ref (27 + 3)] _ _ from ?_)
    obtain ⟨p2, hp2, h⟩ := zy_bind h
    refine zy_5 (c := 27) (as := []) (rest := []) (L := [some (.ref (27 + 3))]) (d' := 1) rfl rfl rfl (Nat.le_of_ble_eq_true rfl) (Nat.le_of_ble_eq_true rfl) rfl (Nat.le_of_ble_eq_true rfl) rfl rfl (zyC150 hp2) ?_
    show zyR _ _ _ _ [some (.ref (0 + 3)), some (.int x1)] [.int p2.1] _ _
    refine zy_24_0 rfl (fun b4 => (show zyR _ _ _ _ [some (.ref (0 + 3)), some (.int x1)] [] _ _ from ?_)) (fun b4 => (show zyR _ _ _ _ [some (.ref (0 + 3)), some (.int x1)] [] _ _ from ?_))
    · replace h := zy_ifp h b4
      refine zy_0 rfl rfl (show zyR _ _ _ _ [some (.ref (0 + 3)), some (.int x1)] [.ref (0 + 3)] _ _ from ?_)
      refine zy_1r (c := 0) rfl rfl rfl (show zyR _ _ _ _ [some (.ref (0 + 3)), some (.int x1)] [.ref (27 + 3)] _ _ from ?_)
      refine zy_2 rfl rfl (show zyR _ _ _ _ [some (.ref (0 + 3)), some (.int x1)] [.int x1, .ref (27 + 3)] _ _ from ?_)
      obtain ⟨p3, hp3, h⟩ := zy_bind h
      refine zy_5 (c := 27) (as := [.int x1]) (rest := []) (L := [some (.ref (27 + 3)), some (.int x1)]) (d' := 1) rfl rfl rfl (Nat.le_of_ble_eq_true rfl) (Nat.le_of_ble_eq_true rfl) rfl (Nat.le_of_ble_eq_true rfl) rfl rfl (zyC151 hp3) ?_
      show zyR _ _ _ _ [some (.ref (0 + 3)), some (.int x1)] [.int p3.1] _ _
      obtain ⟨rfl, rfl⟩ := zy_pi h
      exact zy_4 rfl ⟨rfl, rfl⟩
    · replace h := zy_ifn h b4
      refine zy_3 rfl rfl (show zyR _ _ _ _ [some (.ref (0 + 3)), some (.int x1)] [.int (-3 : Int32)] _ _ from ?_)
      refine zy_6 rfl (show zyR _ _ _ _ [some (.ref (0 + 3)), some (.int x1)] [.int (-3 : Int32)] _ _ from ?_)
      obtain ⟨rfl, rfl⟩ := zy_pi h
      exact zy_4 rfl ⟨rfl, rfl⟩
  · replace h := zy_ifn h b5
    refine zy_3 rfl rfl (show zyR _ _ _ _ [some (.ref (0 + 3)), some (.int x1)] [.int (-1 : Int32)] _ _ from ?_)
    obtain ⟨rfl, rfl⟩ := zy_pi h
    exact zy_4 rfl ⟨rfl, rfl⟩
/-! NineOpinions$Bodies.has(I)Z -/
noncomputable def zyF154   (x1 : Int32) (s : zy_S) : Option (Int32 × zy_S) :=
if x1 < 0 then
some ((0 : Int32), s)
else
if (s.1 27 2) ≤ x1 then
some ((0 : Int32), s)
else
some ((1 : Int32), s)
theorem zyC154 {X : zx_X}     {x1 : Int32} {s : zy_S} {r : Int32} {s' : zy_S}  (h : zyF154 x1 s = some (r, s')) : zyR X 1 154 0 [some (.ref (27 + 3)), some (.int x1)] [] s (zyE (some (.int r)) s') := by
  unfold zyF154 at h
  refine zy_2 rfl rfl (show zyR _ _ _ _ [some (.ref (27 + 3)), some (.int x1)] [.int x1] _ _ from ?_)
  refine zy_24_2 rfl (fun b2 => (show zyR _ _ _ _ [some (.ref (27 + 3)), some (.int x1)] [] _ _ from ?_)) (fun b2 => (show zyR _ _ _ _ [some (.ref (27 + 3)), some (.int x1)] [] _ _ from ?_))
  · replace h := zy_ifp h b2
    refine zy_3 rfl rfl (show zyR _ _ _ _ [some (.ref (27 + 3)), some (.int x1)] [.int (0 : Int32)] _ _ from ?_)
    cases h
    exact zy_4b rfl ⟨rfl, rfl⟩ (Or.inl rfl)
  · replace h := zy_ifn h b2
    refine zy_2 rfl rfl (show zyR _ _ _ _ [some (.ref (27 + 3)), some (.int x1)] [.int x1] _ _ from ?_)
    refine zy_0 rfl rfl (show zyR _ _ _ _ [some (.ref (27 + 3)), some (.int x1)] [.ref (27 + 3), .int x1] _ _ from ?_)
    refine zy_1 (c := 27) rfl rfl rfl (show zyR _ _ _ _ [some (.ref (27 + 3)), some (.int x1)] [.int (s.1 27 2), .int x1] _ _ from ?_)
    refine zy_25_3 rfl (fun b1 => (show zyR _ _ _ _ [some (.ref (27 + 3)), some (.int x1)] [] _ _ from ?_)) (fun b1 => (show zyR _ _ _ _ [some (.ref (27 + 3)), some (.int x1)] [] _ _ from ?_))
    · replace h := zy_ifp h b1
      refine zy_3 rfl rfl (show zyR _ _ _ _ [some (.ref (27 + 3)), some (.int x1)] [.int (0 : Int32)] _ _ from ?_)
      cases h
      exact zy_4b rfl ⟨rfl, rfl⟩ (Or.inl rfl)
    · replace h := zy_ifn h b1
      refine zy_3 rfl rfl (show zyR _ _ _ _ [some (.ref (27 + 3)), some (.int x1)] [.int (1 : Int32)] _ _ from ?_)
      refine zy_6 rfl (show zyR _ _ _ _ [some (.ref (27 + 3)), some (.int x1)] [.int (1 : Int32)] _ _ from ?_)
      cases h
      exact zy_4b rfl ⟨rfl, rfl⟩ (Or.inr rfl)
/-! NineOpinions$Shelf.holdBody(I)V -/
noncomputable def zyF162   (x0 : Nat) (x1 : Int32) (s : zy_S) : Option (Int32 × zy_S) :=
some ((0 : Int32), (zy_up (zy_up (zy_up s x0 1 x1) x0 2 (-1 : Int32)) x0 3 (0 : Int32)))
theorem zyC162 {X : zx_X}     {x0 : Nat} {x1 : Int32} {s : zy_S} {r : Int32} {s' : zy_S} (hs_x0 : zy_isSh x0) (h : zyF162 x0 x1 s = some (r, s')) : zyR X 1 162 0 [some (.ref (x0 + 3)), some (.int x1)] [] s (zyE none s') := by
  unfold zyF162 at h
  refine zy_0 rfl rfl (show zyR _ _ _ _ [some (.ref (x0 + 3)), some (.int x1)] [.ref (x0 + 3)] _ _ from ?_)
  refine zy_2 rfl rfl (show zyR _ _ _ _ [some (.ref (x0 + 3)), some (.int x1)] [.int x1, .ref (x0 + 3)] _ _ from ?_)
  refine zy_52 (c := x0) rfl hs_x0.1 rfl (show zyR _ _ _ _ [some (.ref (x0 + 3)), some (.int x1)] [] _ _ from ?_)
  refine zy_0 rfl rfl (show zyR _ _ _ _ [some (.ref (x0 + 3)), some (.int x1)] [.ref (x0 + 3)] _ _ from ?_)
  refine zy_3 rfl rfl (show zyR _ _ _ _ [some (.ref (x0 + 3)), some (.int x1)] [.int (-1 : Int32), .ref (x0 + 3)] _ _ from ?_)
  refine zy_52 (c := x0) rfl hs_x0.1 rfl (show zyR _ _ _ _ [some (.ref (x0 + 3)), some (.int x1)] [] _ _ from ?_)
  refine zy_0 rfl rfl (show zyR _ _ _ _ [some (.ref (x0 + 3)), some (.int x1)] [.ref (x0 + 3)] _ _ from ?_)
  refine zy_3 rfl rfl (show zyR _ _ _ _ [some (.ref (x0 + 3)), some (.int x1)] [.int (0 : Int32), .ref (x0 + 3)] _ _ from ?_)
  refine zy_52 (c := x0) rfl hs_x0.1 rfl (show zyR _ _ _ _ [some (.ref (x0 + 3)), some (.int x1)] [] _ _ from ?_)
  cases h
  exact zy_66 rfl ⟨rfl, rfl⟩
/-! NineOpinions.keep(II)I -/
noncomputable def zyF161_25   (x1 : Int32) (x2 : Int32) (s : zy_S) : Option (Int32 × zy_S) :=
if zy_in x1 6 then
if zy_Wb s then
(zyF162 (zy_sh (x1).toNatClampNeg) x2 s).bind fun p3 =>
some ((1 : Int32), p3.2)
else none
else none
theorem zyC161_25 {X : zx_X}     {x1 : Int32} {x2 : Int32} {s : zy_S} {r : Int32} {s' : zy_S}  (h : zyF161_25 x1 x2 s = some (r, s')) : zyR X 2 161 25 [some (.ref (0 + 3)), some (.int x1), some (.int x2)] [] s (zyE (some (.int r)) s') := by
  unfold zyF161_25 at h
  refine zy_0 rfl rfl (show zyR _ _ _ _ [some (.ref (0 + 3)), some (.int x1), some (.int x2)] [.ref (0 + 3)] _ _ from ?_)
  refine zy_1r (c := 0) rfl rfl rfl (show zyR _ _ _ _ [some (.ref (0 + 3)), some (.int x1), some (.int x2)] [.ref (30 + 3)] _ _ from ?_)
  refine zy_2 rfl rfl (show zyR _ _ _ _ [some (.ref (0 + 3)), some (.int x1), some (.int x2)] [.int x1, .ref (30 + 3)] _ _ from ?_)
  obtain ⟨c1, h⟩ := zy_if h
  obtain ⟨c2, h⟩ := zy_if h
  refine zy_28 rfl (zy_Wb_g c2) c1 (show zyR _ _ _ _ [some (.ref (0 + 3)), some (.int x1), some (.int x2)] [.ref ((zy_sh (x1).toNatClampNeg) + 3)] _ _ from ?_)
  refine zy_2 rfl rfl (show zyR _ _ _ _ [some (.ref (0 + 3)), some (.int x1), some (.int x2)] [.int x2, .ref ((zy_sh (x1).toNatClampNeg) + 3)] _ _ from ?_)
  obtain ⟨p3, hp3, h⟩ := zy_bind h
  refine zy_5 (c := (zy_sh (x1).toNatClampNeg)) (as := [.int x2]) (rest := []) (L := [some (.ref ((zy_sh (x1).toNatClampNeg) + 3)), some (.int x2)]) (d' := 1) rfl rfl (zy_isSh_of (zy_in_lt c1)).1 (Nat.le_of_ble_eq_true rfl) (Nat.le_of_ble_eq_true rfl) rfl (Nat.le_of_ble_eq_true rfl) rfl rfl (zyC162 (zy_isSh_of (zy_in_lt c1)) hp3) ?_
  show zyR _ _ _ _ [some (.ref (0 + 3)), some (.int x1), some (.int x2)] [] _ _
  refine zy_3 rfl rfl (show zyR _ _ _ _ [some (.ref (0 + 3)), some (.int x1), some (.int x2)] [.int (1 : Int32)] _ _ from ?_)
  obtain ⟨rfl, rfl⟩ := zy_pi h
  exact zy_4 rfl ⟨rfl, rfl⟩
noncomputable def zyF161   (x1 : Int32) (x2 : Int32) (s : zy_S) : Option (Int32 × zy_S) :=
(zyF18 x1 s).bind fun p4 =>
if p4.1 = 0 then
some ((-1 : Int32), p4.2)
else
if x2 = (-1 : Int32) then
zyF161_25 x1 x2 p4.2
else
(zyF154 x2 p4.2).bind fun p5 =>
if p5.1 ≠ 0 then
zyF161_25 x1 x2 p5.2
else
some ((-1 : Int32), p5.2)
theorem zyC161 {X : zx_X}     {x1 : Int32} {x2 : Int32} {s : zy_S} {r : Int32} {s' : zy_S}  (h : zyF161 x1 x2 s = some (r, s')) : zyR X 2 161 0 [some (.ref (0 + 3)), some (.int x1), some (.int x2)] [] s (zyE (some (.int r)) s') := by
  unfold zyF161 at h
  refine zy_2 rfl rfl (show zyR _ _ _ _ [some (.ref (0 + 3)), some (.int x1), some (.int x2)] [.int x1] _ _ from ?_)
  obtain ⟨p4, hp4, h⟩ := zy_bind h
  refine zy_60 (as := [.int x1]) (rest := []) (L := [some (.int x1)]) (d' := 1) rfl rfl (Nat.le_of_ble_eq_true rfl) (Nat.le_of_ble_eq_true rfl) rfl (Nat.le_of_ble_eq_true rfl) rfl rfl (zyC18 hp4) ?_
  show zyR _ _ _ _ [some (.ref (0 + 3)), some (.int x1), some (.int x2)] [.int p4.1] _ _
  refine zy_24_0 rfl (fun b8 => (show zyR _ _ _ _ [some (.ref (0 + 3)), some (.int x1), some (.int x2)] [] _ _ from ?_)) (fun b8 => (show zyR _ _ _ _ [some (.ref (0 + 3)), some (.int x1), some (.int x2)] [] _ _ from ?_))
  · replace h := zy_ifp h b8
    refine zy_3 rfl rfl (show zyR _ _ _ _ [some (.ref (0 + 3)), some (.int x1), some (.int x2)] [.int (-1 : Int32)] _ _ from ?_)
    obtain ⟨rfl, rfl⟩ := zy_pi h
    exact zy_4 rfl ⟨rfl, rfl⟩
  · replace h := zy_ifn h b8
    refine zy_2 rfl rfl (show zyR _ _ _ _ [some (.ref (0 + 3)), some (.int x1), some (.int x2)] [.int x2] _ _ from ?_)
    refine zy_3 rfl rfl (show zyR _ _ _ _ [some (.ref (0 + 3)), some (.int x1), some (.int x2)] [.int (-1 : Int32), .int x2] _ _ from ?_)
    refine zy_25_0 rfl (fun b7 => (show zyR _ _ _ _ [some (.ref (0 + 3)), some (.int x1), some (.int x2)] [] _ _ from ?_)) (fun b7 => (show zyR _ _ _ _ [some (.ref (0 + 3)), some (.int x1), some (.int x2)] [] _ _ from ?_))
    · replace h := zy_ifp h b7
      exact zy_sub (show zy_le [some (.ref (0 + 3)), some (.int x1), some (.int x2)] [some (.ref (0 + 3)), some (.int x1), some (.int x2)] from ⟨rfl, ⟨rfl, ⟨rfl, trivial⟩⟩⟩) (zyC161_25 h)
    · replace h := zy_ifn h b7
      refine zy_0 rfl rfl (show zyR _ _ _ _ [some (.ref (0 + 3)), some (.int x1), some (.int x2)] [.ref (0 + 3)] _ _ from ?_)
      refine zy_1r (c := 0) rfl rfl rfl (show zyR _ _ _ _ [some (.ref (0 + 3)), some (.int x1), some (.int x2)] [.ref (27 + 3)] _ _ from ?_)
      refine zy_2 rfl rfl (show zyR _ _ _ _ [some (.ref (0 + 3)), some (.int x1), some (.int x2)] [.int x2, .ref (27 + 3)] _ _ from ?_)
      obtain ⟨p5, hp5, h⟩ := zy_bind h
      refine zy_5 (c := 27) (as := [.int x2]) (rest := []) (L := [some (.ref (27 + 3)), some (.int x2)]) (d' := 1) rfl rfl rfl (Nat.le_of_ble_eq_true rfl) (Nat.le_of_ble_eq_true rfl) rfl (Nat.le_of_ble_eq_true rfl) rfl rfl (zyC154 hp5) ?_
      show zyR _ _ _ _ [some (.ref (0 + 3)), some (.int x1), some (.int x2)] [.int p5.1] _ _
      refine zy_24_1 rfl (fun b6 => (show zyR _ _ _ _ [some (.ref (0 + 3)), some (.int x1), some (.int x2)] [] _ _ from ?_)) (fun b6 => (show zyR _ _ _ _ [some (.ref (0 + 3)), some (.int x1), some (.int x2)] [] _ _ from ?_))
      · replace h := zy_ifp h b6
        exact zy_sub (show zy_le [some (.ref (0 + 3)), some (.int x1), some (.int x2)] [some (.ref (0 + 3)), some (.int x1), some (.int x2)] from ⟨rfl, ⟨rfl, ⟨rfl, trivial⟩⟩⟩) (zyC161_25 h)
      · replace h := zy_ifn h b6
        refine zy_3 rfl rfl (show zyR _ _ _ _ [some (.ref (0 + 3)), some (.int x1), some (.int x2)] [.int (-1 : Int32)] _ _ from ?_)
        obtain ⟨rfl, rfl⟩ := zy_pi h
        exact zy_4 rfl ⟨rfl, rfl⟩
/-! NineOpinions$Shelf.holdRow(II)V -/
noncomputable def zyF164   (x0 : Nat) (x1 : Int32) (x2 : Int32) (s : zy_S) : Option (Int32 × zy_S) :=
some ((0 : Int32), (zy_ub (zy_up (zy_up (zy_up s x0 1 (-1 : Int32)) x0 2 x1) x0 3 x2) (x0 + 1) (fun j => if j < 60 then (0 : Int64) else (s.2.1 (x0 + 1)) j)))
theorem zyC164 {X : zx_X}     {x0 : Nat} {x1 : Int32} {x2 : Int32} {s : zy_S} {r : Int32} {s' : zy_S} (hs_x0 : zy_isSh x0) (h : zyF164 x0 x1 x2 s = some (r, s')) : zyR X 1 164 0 [some (.ref (x0 + 3)), some (.int x1), some (.int x2)] [] s (zyE none s') := by
  unfold zyF164 at h
  refine zy_0 rfl rfl (show zyR _ _ _ _ [some (.ref (x0 + 3)), some (.int x1), some (.int x2)] [.ref (x0 + 3)] _ _ from ?_)
  refine zy_3 rfl rfl (show zyR _ _ _ _ [some (.ref (x0 + 3)), some (.int x1), some (.int x2)] [.int (-1 : Int32), .ref (x0 + 3)] _ _ from ?_)
  refine zy_52 (c := x0) rfl hs_x0.1 rfl (show zyR _ _ _ _ [some (.ref (x0 + 3)), some (.int x1), some (.int x2)] [] _ _ from ?_)
  refine zy_0 rfl rfl (show zyR _ _ _ _ [some (.ref (x0 + 3)), some (.int x1), some (.int x2)] [.ref (x0 + 3)] _ _ from ?_)
  refine zy_2 rfl rfl (show zyR _ _ _ _ [some (.ref (x0 + 3)), some (.int x1), some (.int x2)] [.int x1, .ref (x0 + 3)] _ _ from ?_)
  refine zy_52 (c := x0) rfl hs_x0.1 rfl (show zyR _ _ _ _ [some (.ref (x0 + 3)), some (.int x1), some (.int x2)] [] _ _ from ?_)
  refine zy_0 rfl rfl (show zyR _ _ _ _ [some (.ref (x0 + 3)), some (.int x1), some (.int x2)] [.ref (x0 + 3)] _ _ from ?_)
  refine zy_2 rfl rfl (show zyR _ _ _ _ [some (.ref (x0 + 3)), some (.int x1), some (.int x2)] [.int x2, .ref (x0 + 3)] _ _ from ?_)
  refine zy_52 (c := x0) rfl hs_x0.1 rfl (show zyR _ _ _ _ [some (.ref (x0 + 3)), some (.int x1), some (.int x2)] [] _ _ from ?_)
  refine zy_0 rfl rfl (show zyR _ _ _ _ [some (.ref (x0 + 3)), some (.int x1), some (.int x2)] [.ref (x0 + 3)] _ _ from ?_)
  refine zy_1r (c := x0) rfl hs_x0.1 rfl (show zyR _ _ _ _ [some (.ref (x0 + 3)), some (.int x1), some (.int x2)] [.ref (x0 + 1 + 3)] _ _ from ?_)
  refine zy_36 rfl rfl (show zyR _ _ _ _ [some (.ref (x0 + 3)), some (.int x1), some (.int x2)] [.long (0 : Int64), .ref (x0 + 1 + 3)] _ _ from ?_)
  refine zy_68 (c := (x0 + 1)) rfl hs_x0.2 (Nat.le_of_ble_eq_true rfl) (Nat.le_of_ble_eq_true rfl) (Nat.le_of_ble_eq_true rfl) (show zyR _ _ _ _ [some (.ref (x0 + 3)), some (.int x1), some (.int x2)] [] _ _ from ?_)
  cases h
  exact zy_66 rfl ⟨rfl, rfl⟩
end
section
/-! PART 41.04: methods as functions. Made by wip/v4/dcp.py. -/
/-! NineOpinions.row(III)I -/
noncomputable def zyF163   (x1 : Int32) (x2 : Int32) (x3 : Int32) (s : zy_S) : Option (Int32 × zy_S) :=
(zyF18 x1 s).bind fun p1 =>
if p1.1 = 0 then
some ((-1 : Int32), p1.2)
else
if x2 < 0 then
some ((-1 : Int32), p1.2)
else
if (4 : Int32) < x2 then
some ((-1 : Int32), p1.2)
else
if x3 ≤ (60 : Int32) then
if 0 ≤ x3 then
if zy_in x1 6 then
if zy_Wb p1.2 then
(zyF164 (zy_sh (x1).toNatClampNeg) x2 x3 p1.2).bind fun p4 =>
some ((1 : Int32), p4.2)
else none
else none
else
some ((-14 : Int32), p1.2)
else
some ((-1 : Int32), p1.2)
theorem zyC163 {X : zx_X}     {x1 : Int32} {x2 : Int32} {x3 : Int32} {s : zy_S} {r : Int32} {s' : zy_S}  (h : zyF163 x1 x2 x3 s = some (r, s')) : zyR X 2 163 0 [some (.ref (0 + 3)), some (.int x1), some (.int x2), some (.int x3)] [] s (zyE (some (.int r)) s') := by
  unfold zyF163 at h
  refine zy_2 rfl rfl (show zyR _ _ _ _ [some (.ref (0 + 3)), some (.int x1), some (.int x2), some (.int x3)] [.int x1] _ _ from ?_)
  obtain ⟨p1, hp1, h⟩ := zy_bind h
  refine zy_60 (as := [.int x1]) (rest := []) (L := [some (.int x1)]) (d' := 1) rfl rfl (Nat.le_of_ble_eq_true rfl) (Nat.le_of_ble_eq_true rfl) rfl (Nat.le_of_ble_eq_true rfl) rfl rfl (zyC18 hp1) ?_
  show zyR _ _ _ _ [some (.ref (0 + 3)), some (.int x1), some (.int x2), some (.int x3)] [.int p1.1] _ _
  refine zy_24_0 rfl (fun b9 => (show zyR _ _ _ _ [some (.ref (0 + 3)), some (.int x1), some (.int x2), some (.int x3)] [] _ _ from ?_)) (fun b9 => (show zyR _ _ _ _ [some (.ref (0 + 3)), some (.int x1), some (.int x2), some (.int x3)] [] _ _ from ?_))
  · replace h := zy_ifp h b9
    refine zy_3 rfl rfl (show zyR _ _ _ _ [some (.ref (0 + 3)), some (.int x1), some (.int x2), some (.int x3)] [.int (-1 : Int32)] _ _ from ?_)
    obtain ⟨rfl, rfl⟩ := zy_pi h
    exact zy_4 rfl ⟨rfl, rfl⟩
  · replace h := zy_ifn h b9
    refine zy_2 rfl rfl (show zyR _ _ _ _ [some (.ref (0 + 3)), some (.int x1), some (.int x2), some (.int x3)] [.int x2] _ _ from ?_)
    refine zy_24_2 rfl (fun b8 => (show zyR _ _ _ _ [some (.ref (0 + 3)), some (.int x1), some (.int x2), some (.int x3)] [] _ _ from ?_)) (fun b8 => (show zyR _ _ _ _ [some (.ref (0 + 3)), some (.int x1), some (.int x2), some (.int x3)] [] _ _ from ?_))
    · replace h := zy_ifp h b8
      refine zy_3 rfl rfl (show zyR _ _ _ _ [some (.ref (0 + 3)), some (.int x1), some (.int x2), some (.int x3)] [.int (-1 : Int32)] _ _ from ?_)
      obtain ⟨rfl, rfl⟩ := zy_pi h
      exact zy_4 rfl ⟨rfl, rfl⟩
    · replace h := zy_ifn h b8
      refine zy_2 rfl rfl (show zyR _ _ _ _ [some (.ref (0 + 3)), some (.int x1), some (.int x2), some (.int x3)] [.int x2] _ _ from ?_)
      refine zy_3 rfl rfl (show zyR _ _ _ _ [some (.ref (0 + 3)), some (.int x1), some (.int x2), some (.int x3)] [.int (4 : Int32), .int x2] _ _ from ?_)
      refine zy_25_4 rfl (fun b7 => (show zyR _ _ _ _ [some (.ref (0 + 3)), some (.int x1), some (.int x2), some (.int x3)] [] _ _ from ?_)) (fun b7 => (show zyR _ _ _ _ [some (.ref (0 + 3)), some (.int x1), some (.int x2), some (.int x3)] [] _ _ from ?_))
      · replace h := zy_ifp h b7
        refine zy_3 rfl rfl (show zyR _ _ _ _ [some (.ref (0 + 3)), some (.int x1), some (.int x2), some (.int x3)] [.int (-1 : Int32)] _ _ from ?_)
        obtain ⟨rfl, rfl⟩ := zy_pi h
        exact zy_4 rfl ⟨rfl, rfl⟩
      · replace h := zy_ifn h b7
        refine zy_2 rfl rfl (show zyR _ _ _ _ [some (.ref (0 + 3)), some (.int x1), some (.int x2), some (.int x3)] [.int x3] _ _ from ?_)
        refine zy_3 rfl rfl (show zyR _ _ _ _ [some (.ref (0 + 3)), some (.int x1), some (.int x2), some (.int x3)] [.int (60 : Int32), .int x3] _ _ from ?_)
        refine zy_25_5 rfl (fun b6 => (show zyR _ _ _ _ [some (.ref (0 + 3)), some (.int x1), some (.int x2), some (.int x3)] [] _ _ from ?_)) (fun b6 => (show zyR _ _ _ _ [some (.ref (0 + 3)), some (.int x1), some (.int x2), some (.int x3)] [] _ _ from ?_))
        · replace h := zy_ifp h b6
          refine zy_2 rfl rfl (show zyR _ _ _ _ [some (.ref (0 + 3)), some (.int x1), some (.int x2), some (.int x3)] [.int x3] _ _ from ?_)
          refine zy_24_3 rfl (fun b5 => (show zyR _ _ _ _ [some (.ref (0 + 3)), some (.int x1), some (.int x2), some (.int x3)] [] _ _ from ?_)) (fun b5 => (show zyR _ _ _ _ [some (.ref (0 + 3)), some (.int x1), some (.int x2), some (.int x3)] [] _ _ from ?_))
          · replace h := zy_ifp h b5
            refine zy_0 rfl rfl (show zyR _ _ _ _ [some (.ref (0 + 3)), some (.int x1), some (.int x2), some (.int x3)] [.ref (0 + 3)] _ _ from ?_)
            refine zy_1r (c := 0) rfl rfl rfl (show zyR _ _ _ _ [some (.ref (0 + 3)), some (.int x1), some (.int x2), some (.int x3)] [.ref (30 + 3)] _ _ from ?_)
            refine zy_2 rfl rfl (show zyR _ _ _ _ [some (.ref (0 + 3)), some (.int x1), some (.int x2), some (.int x3)] [.int x1, .ref (30 + 3)] _ _ from ?_)
            obtain ⟨c2, h⟩ := zy_if h
            obtain ⟨c3, h⟩ := zy_if h
            refine zy_28 rfl (zy_Wb_g c3) c2 (show zyR _ _ _ _ [some (.ref (0 + 3)), some (.int x1), some (.int x2), some (.int x3)] [.ref ((zy_sh (x1).toNatClampNeg) + 3)] _ _ from ?_)
            refine zy_2 rfl rfl (show zyR _ _ _ _ [some (.ref (0 + 3)), some (.int x1), some (.int x2), some (.int x3)] [.int x2, .ref ((zy_sh (x1).toNatClampNeg) + 3)] _ _ from ?_)
            refine zy_2 rfl rfl (show zyR _ _ _ _ [some (.ref (0 + 3)), some (.int x1), some (.int x2), some (.int x3)] [.int x3, .int x2, .ref ((zy_sh (x1).toNatClampNeg) + 3)] _ _ from ?_)
            obtain ⟨p4, hp4, h⟩ := zy_bind h
            refine zy_5 (c := (zy_sh (x1).toNatClampNeg)) (as := [.int x2, .int x3]) (rest := []) (L := [some (.ref ((zy_sh (x1).toNatClampNeg) + 3)), some (.int x2), some (.int x3)]) (d' := 1) rfl rfl (zy_isSh_of (zy_in_lt c2)).1 (Nat.le_of_ble_eq_true rfl) (Nat.le_of_ble_eq_true rfl) rfl (Nat.le_of_ble_eq_true rfl) rfl rfl (zyC164 (zy_isSh_of (zy_in_lt c2)) hp4) ?_
            show zyR _ _ _ _ [some (.ref (0 + 3)), some (.int x1), some (.int x2), some (.int x3)] [] _ _
            refine zy_3 rfl rfl (show zyR _ _ _ _ [some (.ref (0 + 3)), some (.int x1), some (.int x2), some (.int x3)] [.int (1 : Int32)] _ _ from ?_)
            obtain ⟨rfl, rfl⟩ := zy_pi h
            exact zy_4 rfl ⟨rfl, rfl⟩
          · replace h := zy_ifn h b5
            refine zy_3 rfl rfl (show zyR _ _ _ _ [some (.ref (0 + 3)), some (.int x1), some (.int x2), some (.int x3)] [.int (-14 : Int32)] _ _ from ?_)
            obtain ⟨rfl, rfl⟩ := zy_pi h
            exact zy_4 rfl ⟨rfl, rfl⟩
        · replace h := zy_ifn h b6
          refine zy_3 rfl rfl (show zyR _ _ _ _ [some (.ref (0 + 3)), some (.int x1), some (.int x2), some (.int x3)] [.int (-1 : Int32)] _ _ from ?_)
          obtain ⟨rfl, rfl⟩ := zy_pi h
          exact zy_4 rfl ⟨rfl, rfl⟩
/-! NineOpinions$Shelf.refusesPlace(I)I -/
noncomputable def zyF167   (x0 : Nat) (x1 : Int32) (s : zy_S) : Option (Int32 × zy_S) :=
(zyF19 x0 s).bind fun p1 =>
if p1.1 = 0 then
(zyF20 x0 p1.2).bind fun p2 =>
if p2.1 ≠ 0 then
(zyF23 x0 x1 (1 : Int32) p2.2).bind fun p3 =>
if p3.1 = 0 then
some ((-13 : Int32), p3.2)
else
some ((0 : Int32), p3.2)
else
some ((-12 : Int32), p2.2)
else
some ((-11 : Int32), p1.2)
theorem zyC167 {X : zx_X}     {x0 : Nat} {x1 : Int32} {s : zy_S} {r : Int32} {s' : zy_S} (hs_x0 : zy_isSh x0) (h : zyF167 x0 x1 s = some (r, s')) : zyR X 3 167 0 [some (.ref (x0 + 3)), some (.int x1)] [] s (zyE (some (.int r)) s') := by
  unfold zyF167 at h
  refine zy_0 rfl rfl (show zyR _ _ _ _ [some (.ref (x0 + 3)), some (.int x1)] [.ref (x0 + 3)] _ _ from ?_)
  obtain ⟨p1, hp1, h⟩ := zy_bind h
  refine zy_5 (c := x0) (as := []) (rest := []) (L := [some (.ref (x0 + 3))]) (d' := 2) rfl rfl hs_x0.1 (Nat.le_of_ble_eq_true rfl) (Nat.le_of_ble_eq_true rfl) rfl (Nat.le_of_ble_eq_true rfl) rfl rfl (zyC19 hs_x0 hp1) ?_
  show zyR _ _ _ _ [some (.ref (x0 + 3)), some (.int x1)] [.int p1.1] _ _
  refine zy_24_0 rfl (fun b6 => (show zyR _ _ _ _ [some (.ref (x0 + 3)), some (.int x1)] [] _ _ from ?_)) (fun b6 => (show zyR _ _ _ _ [some (.ref (x0 + 3)), some (.int x1)] [] _ _ from ?_))
  · replace h := zy_ifp h b6
    refine zy_0 rfl rfl (show zyR _ _ _ _ [some (.ref (x0 + 3)), some (.int x1)] [.ref (x0 + 3)] _ _ from ?_)
    obtain ⟨p2, hp2, h⟩ := zy_bind h
    refine zy_5 (c := x0) (as := []) (rest := []) (L := [some (.ref (x0 + 3))]) (d' := 1) rfl rfl hs_x0.1 (Nat.le_of_ble_eq_true rfl) (Nat.le_of_ble_eq_true rfl) rfl (Nat.le_of_ble_eq_true rfl) rfl rfl (zyC20 hs_x0 hp2) ?_
    show zyR _ _ _ _ [some (.ref (x0 + 3)), some (.int x1)] [.int p2.1] _ _
    refine zy_24_1 rfl (fun b5 => (show zyR _ _ _ _ [some (.ref (x0 + 3)), some (.int x1)] [] _ _ from ?_)) (fun b5 => (show zyR _ _ _ _ [some (.ref (x0 + 3)), some (.int x1)] [] _ _ from ?_))
    · replace h := zy_ifp h b5
      refine zy_0 rfl rfl (show zyR _ _ _ _ [some (.ref (x0 + 3)), some (.int x1)] [.ref (x0 + 3)] _ _ from ?_)
      refine zy_2 rfl rfl (show zyR _ _ _ _ [some (.ref (x0 + 3)), some (.int x1)] [.int x1, .ref (x0 + 3)] _ _ from ?_)
      refine zy_3 rfl rfl (show zyR _ _ _ _ [some (.ref (x0 + 3)), some (.int x1)] [.int (1 : Int32), .int x1, .ref (x0 + 3)] _ _ from ?_)
      obtain ⟨p3, hp3, h⟩ := zy_bind h
      refine zy_5 (c := x0) (as := [.int x1, .int (1 : Int32)]) (rest := []) (L := [some (.ref (x0 + 3)), some (.int x1), some (.int (1 : Int32))]) (d' := 1) rfl rfl hs_x0.1 (Nat.le_of_ble_eq_true rfl) (Nat.le_of_ble_eq_true rfl) rfl (Nat.le_of_ble_eq_true rfl) rfl rfl (zyC23 hs_x0 hp3) ?_
      show zyR _ _ _ _ [some (.ref (x0 + 3)), some (.int x1)] [.int p3.1] _ _
      refine zy_24_0 rfl (fun b4 => (show zyR _ _ _ _ [some (.ref (x0 + 3)), some (.int x1)] [] _ _ from ?_)) (fun b4 => (show zyR _ _ _ _ [some (.ref (x0 + 3)), some (.int x1)] [] _ _ from ?_))
      · replace h := zy_ifp h b4
        refine zy_3 rfl rfl (show zyR _ _ _ _ [some (.ref (x0 + 3)), some (.int x1)] [.int (-13 : Int32)] _ _ from ?_)
        obtain ⟨rfl, rfl⟩ := zy_pi h
        exact zy_4 rfl ⟨rfl, rfl⟩
      · replace h := zy_ifn h b4
        refine zy_3 rfl rfl (show zyR _ _ _ _ [some (.ref (x0 + 3)), some (.int x1)] [.int (0 : Int32)] _ _ from ?_)
        refine zy_6 rfl (show zyR _ _ _ _ [some (.ref (x0 + 3)), some (.int x1)] [.int (0 : Int32)] _ _ from ?_)
        obtain ⟨rfl, rfl⟩ := zy_pi h
        exact zy_4 rfl ⟨rfl, rfl⟩
    · replace h := zy_ifn h b5
      refine zy_3 rfl rfl (show zyR _ _ _ _ [some (.ref (x0 + 3)), some (.int x1)] [.int (-12 : Int32)] _ _ from ?_)
      obtain ⟨rfl, rfl⟩ := zy_pi h
      exact zy_4 rfl ⟨rfl, rfl⟩
  · replace h := zy_ifn h b6
    refine zy_3 rfl rfl (show zyR _ _ _ _ [some (.ref (x0 + 3)), some (.int x1)] [.int (-11 : Int32)] _ _ from ?_)
    obtain ⟨rfl, rfl⟩ := zy_pi h
    exact zy_4 rfl ⟨rfl, rfl⟩
/-! NineOpinions$Shelf.lowestBits(J)J -/
noncomputable def zyF169   (x0 : Nat) (x1 : Int64) (s : zy_S) : Option (Int64 × zy_S) :=
if (s.1 x0 2) = (0 : Int32) then
some ((((x1).toInt32).toInt8.toInt32).toInt64, s)
else
if (s.1 x0 2) = (1 : Int32) then
some ((((x1).toInt32).toInt16.toInt32).toInt64, s)
else
if (s.1 x0 2) = (2 : Int32) then
some (((x1).toInt32).toInt64, s)
else
if (s.1 x0 2) = (3 : Int32) then
some (x1, s)
else
if (lg_cmp x1 (0 : Int64)) = 0 then
some ((0 : Int64), s)
else
some ((1 : Int64), s)
theorem zyC169 {X : zx_X}     {x0 : Nat} {x1 : Int64} {s : zy_S} {r : Int64} {s' : zy_S} (hs_x0 : zy_isSh x0) (h : zyF169 x0 x1 s = some (r, s')) : zyR X 1 169 0 [some (.ref (x0 + 3)), some (.long x1), none] [] s (zyE (some (.long r)) s') := by
  unfold zyF169 at h
  refine zy_0 rfl rfl (show zyR _ _ _ _ [some (.ref (x0 + 3)), some (.long x1), none] [.ref (x0 + 3)] _ _ from ?_)
  refine zy_1 (c := x0) rfl hs_x0.1 rfl (show zyR _ _ _ _ [some (.ref (x0 + 3)), some (.long x1), none] [.int (s.1 x0 2)] _ _ from ?_)
  refine zy_50 rfl (by decide) ?_
  refine zy_swp (fun b1 => (show zyR _ _ _ _ [some (.ref (x0 + 3)), some (.long x1), none] [] _ _ from ?_)) (fun b1 => ?_)
  · replace h := zy_ifp h b1
    refine zy_37 rfl rfl (show zyR _ _ _ _ [some (.ref (x0 + 3)), some (.long x1), none] [.long x1] _ _ from ?_)
    refine zy_41 rfl (show zyR _ _ _ _ [some (.ref (x0 + 3)), some (.long x1), none] [.int (x1).toInt32] _ _ from ?_)
    refine zy_42 rfl (show zyR _ _ _ _ [some (.ref (x0 + 3)), some (.long x1), none] [.int ((x1).toInt32).toInt8.toInt32] _ _ from ?_)
    refine zy_40 rfl (show zyR _ _ _ _ [some (.ref (x0 + 3)), some (.long x1), none] [.long (((x1).toInt32).toInt8.toInt32).toInt64] _ _ from ?_)
    cases h
    exact zy_65 rfl ⟨rfl, rfl⟩
  replace h := zy_ifn h b1
  refine zy_swp (fun b2 => (show zyR _ _ _ _ [some (.ref (x0 + 3)), some (.long x1), none] [] _ _ from ?_)) (fun b2 => ?_)
  · replace h := zy_ifp h b2
    refine zy_37 rfl rfl (show zyR _ _ _ _ [some (.ref (x0 + 3)), some (.long x1), none] [.long x1] _ _ from ?_)
    refine zy_41 rfl (show zyR _ _ _ _ [some (.ref (x0 + 3)), some (.long x1), none] [.int (x1).toInt32] _ _ from ?_)
    refine zy_43 rfl (show zyR _ _ _ _ [some (.ref (x0 + 3)), some (.long x1), none] [.int ((x1).toInt32).toInt16.toInt32] _ _ from ?_)
    refine zy_40 rfl (show zyR _ _ _ _ [some (.ref (x0 + 3)), some (.long x1), none] [.long (((x1).toInt32).toInt16.toInt32).toInt64] _ _ from ?_)
    cases h
    exact zy_65 rfl ⟨rfl, rfl⟩
  replace h := zy_ifn h b2
  refine zy_swp (fun b3 => (show zyR _ _ _ _ [some (.ref (x0 + 3)), some (.long x1), none] [] _ _ from ?_)) (fun b3 => ?_)
  · replace h := zy_ifp h b3
    refine zy_37 rfl rfl (show zyR _ _ _ _ [some (.ref (x0 + 3)), some (.long x1), none] [.long x1] _ _ from ?_)
    refine zy_41 rfl (show zyR _ _ _ _ [some (.ref (x0 + 3)), some (.long x1), none] [.int (x1).toInt32] _ _ from ?_)
    refine zy_40 rfl (show zyR _ _ _ _ [some (.ref (x0 + 3)), some (.long x1), none] [.long ((x1).toInt32).toInt64] _ _ from ?_)
    cases h
    exact zy_65 rfl ⟨rfl, rfl⟩
  replace h := zy_ifn h b3
  refine zy_swp (fun b4 => (show zyR _ _ _ _ [some (.ref (x0 + 3)), some (.long x1), none] [] _ _ from ?_)) (fun b4 => ?_)
  · replace h := zy_ifp h b4
    refine zy_37 rfl rfl (show zyR _ _ _ _ [some (.ref (x0 + 3)), some (.long x1), none] [.long x1] _ _ from ?_)
    cases h
    exact zy_65 rfl ⟨rfl, rfl⟩
  replace h := zy_ifn h b4
  show zyR _ _ _ _ [some (.ref (x0 + 3)), some (.long x1), none] [] _ _
  refine zy_37 rfl rfl (show zyR _ _ _ _ [some (.ref (x0 + 3)), some (.long x1), none] [.long x1] _ _ from ?_)
  refine zy_36 rfl rfl (show zyR _ _ _ _ [some (.ref (x0 + 3)), some (.long x1), none] [.long (0 : Int64), .long x1] _ _ from ?_)
  refine zy_44 rfl (show zyR _ _ _ _ [some (.ref (x0 + 3)), some (.long x1), none] [.int (lg_cmp x1 (0 : Int64))] _ _ from ?_)
  refine zy_24_0 rfl (fun b5 => (show zyR _ _ _ _ [some (.ref (x0 + 3)), some (.long x1), none] [] _ _ from ?_)) (fun b5 => (show zyR _ _ _ _ [some (.ref (x0 + 3)), some (.long x1), none] [] _ _ from ?_))
  · replace h := zy_ifp h b5
    refine zy_36 rfl rfl (show zyR _ _ _ _ [some (.ref (x0 + 3)), some (.long x1), none] [.long (0 : Int64)] _ _ from ?_)
    cases h
    exact zy_65 rfl ⟨rfl, rfl⟩
  · replace h := zy_ifn h b5
    refine zy_36 rfl rfl (show zyR _ _ _ _ [some (.ref (x0 + 3)), some (.long x1), none] [.long (1 : Int64)] _ _ from ?_)
    refine zy_6 rfl (show zyR _ _ _ _ [some (.ref (x0 + 3)), some (.long x1), none] [.long (1 : Int64)] _ _ from ?_)
    cases h
    exact zy_65 rfl ⟨rfl, rfl⟩
/-! NineOpinions$Shelf.lay(IJ)V -/
noncomputable def zyF168   (x0 : Nat) (x1 : Int32) (x2 : Int64) (s : zy_S) : Option (Int32 × zy_S) :=
(zyF169 x0 x2 s).bind fun p1 =>
if zy_in x1 60 then
some ((0 : Int32), (zy_uj p1.2 (x0 + 1) (x1).toNatClampNeg p1.1))
else none
theorem zyC168 {X : zx_X}     {x0 : Nat} {x1 : Int32} {x2 : Int64} {s : zy_S} {r : Int32} {s' : zy_S} (hs_x0 : zy_isSh x0) (h : zyF168 x0 x1 x2 s = some (r, s')) : zyR X 2 168 0 [some (.ref (x0 + 3)), some (.int x1), some (.long x2), none] [] s (zyE none s') := by
  unfold zyF168 at h
  refine zy_0 rfl rfl (show zyR _ _ _ _ [some (.ref (x0 + 3)), some (.int x1), some (.long x2), none] [.ref (x0 + 3)] _ _ from ?_)
  refine zy_1r (c := x0) rfl hs_x0.1 rfl (show zyR _ _ _ _ [some (.ref (x0 + 3)), some (.int x1), some (.long x2), none] [.ref (x0 + 1 + 3)] _ _ from ?_)
  refine zy_2 rfl rfl (show zyR _ _ _ _ [some (.ref (x0 + 3)), some (.int x1), some (.long x2), none] [.int x1, .ref (x0 + 1 + 3)] _ _ from ?_)
  refine zy_0 rfl rfl (show zyR _ _ _ _ [some (.ref (x0 + 3)), some (.int x1), some (.long x2), none] [.ref (x0 + 3), .int x1, .ref (x0 + 1 + 3)] _ _ from ?_)
  refine zy_37 rfl rfl (show zyR _ _ _ _ [some (.ref (x0 + 3)), some (.int x1), some (.long x2), none] [.long x2, .ref (x0 + 3), .int x1, .ref (x0 + 1 + 3)] _ _ from ?_)
  obtain ⟨p1, hp1, h⟩ := zy_bind h
  refine zy_5 (c := x0) (as := [.long x2]) (rest := [.int x1, .ref (x0 + 1 + 3)]) (L := [some (.ref (x0 + 3)), some (.long x2), none]) (d' := 1) rfl rfl hs_x0.1 (Nat.le_of_ble_eq_true rfl) (Nat.le_of_ble_eq_true rfl) rfl (Nat.le_of_ble_eq_true rfl) rfl rfl (zyC169 hs_x0 hp1) ?_
  show zyR _ _ _ _ [some (.ref (x0 + 3)), some (.int x1), some (.long x2), none] [.long p1.1, .int x1, .ref (x0 + 1 + 3)] _ _
  obtain ⟨c2, h⟩ := zy_if h
  refine zy_31 (c := (x0 + 1)) rfl hs_x0.2 c2 (show zyR _ _ _ _ [some (.ref (x0 + 3)), some (.int x1), some (.long x2), none] [] _ _ from ?_)
  cases h
  exact zy_66 rfl ⟨rfl, rfl⟩
/-! NineOpinions.put(IIJ)I -/
noncomputable def zyF166_37   (x5 : Int32) (s : zy_S) : Option (Int32 × zy_S) :=
if x5 ≠ 0 then
some (x5, s)
else
some ((1 : Int32), s)
theorem zyC166_37 {X : zx_X}     {x5 : Int32} {s : zy_S} {r : Int32} {s' : zy_S}  (h : zyF166_37 x5 s = some (r, s')) : zyR X 4 166 37 [none, none, none, none, none, some (.int x5)] [] s (zyE (some (.int r)) s') := by
  unfold zyF166_37 at h
  refine zy_2 rfl rfl (show zyR _ _ _ _ [none, none, none, none, none, some (.int x5)] [.int x5] _ _ from ?_)
  refine zy_24_1 rfl (fun b1 => (show zyR _ _ _ _ [none, none, none, none, none, some (.int x5)] [] _ _ from ?_)) (fun b1 => (show zyR _ _ _ _ [none, none, none, none, none, some (.int x5)] [] _ _ from ?_))
  · replace h := zy_ifp h b1
    refine zy_2 rfl rfl (show zyR _ _ _ _ [none, none, none, none, none, some (.int x5)] [.int x5] _ _ from ?_)
    obtain ⟨rfl, rfl⟩ := zy_pi h
    exact zy_4 rfl ⟨rfl, rfl⟩
  · replace h := zy_ifn h b1
    refine zy_3 rfl rfl (show zyR _ _ _ _ [none, none, none, none, none, some (.int x5)] [.int (1 : Int32)] _ _ from ?_)
    refine zy_6 rfl (show zyR _ _ _ _ [none, none, none, none, none, some (.int x5)] [.int (1 : Int32)] _ _ from ?_)
    obtain ⟨rfl, rfl⟩ := zy_pi h
    exact zy_4 rfl ⟨rfl, rfl⟩
noncomputable def zyF166   (x1 : Int32) (x2 : Int32) (x3 : Int64) (s : zy_S) : Option (Int32 × zy_S) :=
(zyF18 x1 s).bind fun p2 =>
if p2.1 ≠ 0 then
if zy_in x1 6 then
if zy_Wb p2.2 then
(zyF167 (zy_sh (x1).toNatClampNeg) x2 p2.2).bind fun p5 =>
if p5.1 ≠ 0 then
zyF166_37 p5.1 p5.2
else
if zy_in x1 6 then
if zy_Wb p5.2 then
(zyF168 (zy_sh (x1).toNatClampNeg) x2 x3 p5.2).bind fun p8 =>
zyF166_37 p5.1 p8.2
else none
else none
else none
else none
else
some ((-1 : Int32), p2.2)
theorem zyC166 {X : zx_X}     {x1 : Int32} {x2 : Int32} {x3 : Int64} {s : zy_S} {r : Int32} {s' : zy_S}  (h : zyF166 x1 x2 x3 s = some (r, s')) : zyR X 4 166 0 [some (.ref (0 + 3)), some (.int x1), some (.int x2), some (.long x3), none, none] [] s (zyE (some (.int r)) s') := by
  unfold zyF166 at h
  refine zy_2 rfl rfl (show zyR _ _ _ _ [some (.ref (0 + 3)), some (.int x1), some (.int x2), some (.long x3), none, none] [.int x1] _ _ from ?_)
  obtain ⟨p2, hp2, h⟩ := zy_bind h
  refine zy_60 (as := [.int x1]) (rest := []) (L := [some (.int x1)]) (d' := 1) rfl rfl (Nat.le_of_ble_eq_true rfl) (Nat.le_of_ble_eq_true rfl) rfl (Nat.le_of_ble_eq_true rfl) rfl rfl (zyC18 hp2) ?_
  show zyR _ _ _ _ [some (.ref (0 + 3)), some (.int x1), some (.int x2), some (.long x3), none, none] [.int p2.1] _ _
  refine zy_24_1 rfl (fun b10 => (show zyR _ _ _ _ [some (.ref (0 + 3)), some (.int x1), some (.int x2), some (.long x3), none, none] [] _ _ from ?_)) (fun b10 => (show zyR _ _ _ _ [some (.ref (0 + 3)), some (.int x1), some (.int x2), some (.long x3), none, none] [] _ _ from ?_))
  · replace h := zy_ifp h b10
    refine zy_0 rfl rfl (show zyR _ _ _ _ [some (.ref (0 + 3)), some (.int x1), some (.int x2), some (.long x3), none, none] [.ref (0 + 3)] _ _ from ?_)
    refine zy_1r (c := 0) rfl rfl rfl (show zyR _ _ _ _ [some (.ref (0 + 3)), some (.int x1), some (.int x2), some (.long x3), none, none] [.ref (30 + 3)] _ _ from ?_)
    refine zy_2 rfl rfl (show zyR _ _ _ _ [some (.ref (0 + 3)), some (.int x1), some (.int x2), some (.long x3), none, none] [.int x1, .ref (30 + 3)] _ _ from ?_)
    obtain ⟨c3, h⟩ := zy_if h
    obtain ⟨c4, h⟩ := zy_if h
    refine zy_28 rfl (zy_Wb_g c4) c3 (show zyR _ _ _ _ [some (.ref (0 + 3)), some (.int x1), some (.int x2), some (.long x3), none, none] [.ref ((zy_sh (x1).toNatClampNeg) + 3)] _ _ from ?_)
    refine zy_2 rfl rfl (show zyR _ _ _ _ [some (.ref (0 + 3)), some (.int x1), some (.int x2), some (.long x3), none, none] [.int x2, .ref ((zy_sh (x1).toNatClampNeg) + 3)] _ _ from ?_)
    obtain ⟨p5, hp5, h⟩ := zy_bind h
    refine zy_5 (c := (zy_sh (x1).toNatClampNeg)) (as := [.int x2]) (rest := []) (L := [some (.ref ((zy_sh (x1).toNatClampNeg) + 3)), some (.int x2)]) (d' := 3) rfl rfl (zy_isSh_of (zy_in_lt c3)).1 (Nat.le_of_ble_eq_true rfl) (Nat.le_of_ble_eq_true rfl) rfl (Nat.le_of_ble_eq_true rfl) rfl rfl (zyC167 (zy_isSh_of (zy_in_lt c3)) hp5) ?_
    show zyR _ _ _ _ [some (.ref (0 + 3)), some (.int x1), some (.int x2), some (.long x3), none, none] [.int p5.1] _ _
    refine zy_23 rfl rfl (show zyR _ _ _ _ [some (.ref (0 + 3)), some (.int x1), some (.int x2), some (.long x3), none, some (.int p5.1)] [] _ _ from ?_)
    refine zy_2 rfl rfl (show zyR _ _ _ _ [some (.ref (0 + 3)), some (.int x1), some (.int x2), some (.long x3), none, some (.int p5.1)] [.int p5.1] _ _ from ?_)
    refine zy_24_1 rfl (fun b9 => (show zyR _ _ _ _ [some (.ref (0 + 3)), some (.int x1), some (.int x2), some (.long x3), none, some (.int p5.1)] [] _ _ from ?_)) (fun b9 => (show zyR _ _ _ _ [some (.ref (0 + 3)), some (.int x1), some (.int x2), some (.long x3), none, some (.int p5.1)] [] _ _ from ?_))
    · replace h := zy_ifp h b9
      exact zy_sub (show zy_le [none, none, none, none, none, some (.int p5.1)] [some (.ref (0 + 3)), some (.int x1), some (.int x2), some (.long x3), none, some (.int p5.1)] from ⟨rfl, trivial⟩) (zyC166_37 h)
    · replace h := zy_ifn h b9
      refine zy_0 rfl rfl (show zyR _ _ _ _ [some (.ref (0 + 3)), some (.int x1), some (.int x2), some (.long x3), none, some (.int p5.1)] [.ref (0 + 3)] _ _ from ?_)
      refine zy_1r (c := 0) rfl rfl rfl (show zyR _ _ _ _ [some (.ref (0 + 3)), some (.int x1), some (.int x2), some (.long x3), none, some (.int p5.1)] [.ref (30 + 3)] _ _ from ?_)
      refine zy_2 rfl rfl (show zyR _ _ _ _ [some (.ref (0 + 3)), some (.int x1), some (.int x2), some (.long x3), none, some (.int p5.1)] [.int x1, .ref (30 + 3)] _ _ from ?_)
      obtain ⟨c6, h⟩ := zy_if h
      obtain ⟨c7, h⟩ := zy_if h
      refine zy_28 rfl (zy_Wb_g c7) c6 (show zyR _ _ _ _ [some (.ref (0 + 3)), some (.int x1), some (.int x2), some (.long x3), none, some (.int p5.1)] [.ref ((zy_sh (x1).toNatClampNeg) + 3)] _ _ from ?_)
      refine zy_2 rfl rfl (show zyR _ _ _ _ [some (.ref (0 + 3)), some (.int x1), some (.int x2), some (.long x3), none, some (.int p5.1)] [.int x2, .ref ((zy_sh (x1).toNatClampNeg) + 3)] _ _ from ?_)
      refine zy_37 rfl rfl (show zyR _ _ _ _ [some (.ref (0 + 3)), some (.int x1), some (.int x2), some (.long x3), none, some (.int p5.1)] [.long x3, .int x2, .ref ((zy_sh (x1).toNatClampNeg) + 3)] _ _ from ?_)
      obtain ⟨p8, hp8, h⟩ := zy_bind h
      refine zy_5 (c := (zy_sh (x1).toNatClampNeg)) (as := [.int x2, .long x3]) (rest := []) (L := [some (.ref ((zy_sh (x1).toNatClampNeg) + 3)), some (.int x2), some (.long x3), none]) (d' := 2) rfl rfl (zy_isSh_of (zy_in_lt c6)).1 (Nat.le_of_ble_eq_true rfl) (Nat.le_of_ble_eq_true rfl) rfl (Nat.le_of_ble_eq_true rfl) rfl rfl (zyC168 (zy_isSh_of (zy_in_lt c6)) hp8) ?_
      show zyR _ _ _ _ [some (.ref (0 + 3)), some (.int x1), some (.int x2), some (.long x3), none, some (.int p5.1)] [] _ _
      exact zy_sub (show zy_le [none, none, none, none, none, some (.int p5.1)] [some (.ref (0 + 3)), some (.int x1), some (.int x2), some (.long x3), none, some (.int p5.1)] from ⟨rfl, trivial⟩) (zyC166_37 h)
  · replace h := zy_ifn h b10
    refine zy_3 rfl rfl (show zyR _ _ _ _ [some (.ref (0 + 3)), some (.int x1), some (.int x2), some (.long x3), none, none] [.int (-1 : Int32)] _ _ from ?_)
    obtain ⟨rfl, rfl⟩ := zy_pi h
    exact zy_4 rfl ⟨rfl, rfl⟩
/-! NineOpinions.shift(IIIII)I -/
noncomputable def zyF171   (x1 : Int32) (x2 : Int32) (x3 : Int32) (x4 : Int32) (x5 : Int32) (s : zy_S) : Option (Int32 × zy_S) :=
(zyF18 x1 s).bind fun p1 =>
if p1.1 = 0 then
some ((-1 : Int32), p1.2)
else
(zyF18 x3 p1.2).bind fun p2 =>
if p2.1 ≠ 0 then
if zy_in x1 6 then
if zy_Wb p2.2 then
if zy_in x3 6 then
if zy_Wb p2.2 then
(zyF19 (zy_sh (x1).toNatClampNeg) p2.2).bind fun p7 =>
if p7.1 ≠ 0 then
some ((-11 : Int32), p7.2)
else
(zyF19 (zy_sh (x3).toNatClampNeg) p7.2).bind fun p8 =>
if p8.1 = 0 then
(zyF20 (zy_sh (x1).toNatClampNeg) p8.2).bind fun p9 =>
if p9.1 = 0 then
some ((-12 : Int32), p9.2)
else
(zyF21 (zy_sh (x3).toNatClampNeg) (p9.2.1 (zy_sh (x1).toNatClampNeg) 2) p9.2).bind fun p10 =>
if p10.1 ≠ 0 then
(zyF23 (zy_sh (x1).toNatClampNeg) x2 x5 p10.2).bind fun p11 =>
if p11.1 = 0 then
some ((-13 : Int32), p11.2)
else
(zyF23 (zy_sh (x3).toNatClampNeg) x4 x5 p11.2).bind fun p12 =>
if p12.1 ≠ 0 then
if zy_cpB x2 x4 x5 60 60 then
some (x5, (zy_ub p12.2 ((zy_sh (x3).toNatClampNeg) + 1) (va_cpy (p12.2.2.1 ((zy_sh (x1).toNatClampNeg) + 1)) (p12.2.2.1 ((zy_sh (x3).toNatClampNeg) + 1)) (x2).toNatClampNeg (x4).toNatClampNeg (x5).toNatClampNeg)))
else none
else
some ((-13 : Int32), p12.2)
else
some ((-12 : Int32), p10.2)
else
some ((-11 : Int32), p8.2)
else none
else none
else none
else none
else
some ((-1 : Int32), p2.2)
theorem zyC171 {X : zx_X}     {x1 : Int32} {x2 : Int32} {x3 : Int32} {x4 : Int32} {x5 : Int32} {s : zy_S} {r : Int32} {s' : zy_S}  (h : zyF171 x1 x2 x3 x4 x5 s = some (r, s')) : zyR X 3 171 0 [some (.ref (0 + 3)), some (.int x1), some (.int x2), some (.int x3), some (.int x4), some (.int x5), none, none] [] s (zyE (some (.int r)) s') := by
  unfold zyF171 at h
  refine zy_2 rfl rfl (show zyR _ _ _ _ [some (.ref (0 + 3)), some (.int x1), some (.int x2), some (.int x3), some (.int x4), some (.int x5), none, none] [.int x1] _ _ from ?_)
  obtain ⟨p1, hp1, h⟩ := zy_bind h
  refine zy_60 (as := [.int x1]) (rest := []) (L := [some (.int x1)]) (d' := 1) rfl rfl (Nat.le_of_ble_eq_true rfl) (Nat.le_of_ble_eq_true rfl) rfl (Nat.le_of_ble_eq_true rfl) rfl rfl (zyC18 hp1) ?_
  show zyR _ _ _ _ [some (.ref (0 + 3)), some (.int x1), some (.int x2), some (.int x3), some (.int x4), some (.int x5), none, none] [.int p1.1] _ _
  refine zy_24_0 rfl (fun b21 => (show zyR _ _ _ _ [some (.ref (0 + 3)), some (.int x1), some (.int x2), some (.int x3), some (.int x4), some (.int x5), none, none] [] _ _ from ?_)) (fun b21 => (show zyR _ _ _ _ [some (.ref (0 + 3)), some (.int x1), some (.int x2), some (.int x3), some (.int x4), some (.int x5), none, none] [] _ _ from ?_))
  · replace h := zy_ifp h b21
    refine zy_3 rfl rfl (show zyR _ _ _ _ [some (.ref (0 + 3)), some (.int x1), some (.int x2), some (.int x3), some (.int x4), some (.int x5), none, none] [.int (-1 : Int32)] _ _ from ?_)
    obtain ⟨rfl, rfl⟩ := zy_pi h
    exact zy_4 rfl ⟨rfl, rfl⟩
  · replace h := zy_ifn h b21
    refine zy_2 rfl rfl (show zyR _ _ _ _ [some (.ref (0 + 3)), some (.int x1), some (.int x2), some (.int x3), some (.int x4), some (.int x5), none, none] [.int x3] _ _ from ?_)
    obtain ⟨p2, hp2, h⟩ := zy_bind h
    refine zy_60 (as := [.int x3]) (rest := []) (L := [some (.int x3)]) (d' := 1) rfl rfl (Nat.le_of_ble_eq_true rfl) (Nat.le_of_ble_eq_true rfl) rfl (Nat.le_of_ble_eq_true rfl) rfl rfl (zyC18 hp2) ?_
    show zyR _ _ _ _ [some (.ref (0 + 3)), some (.int x1), some (.int x2), some (.int x3), some (.int x4), some (.int x5), none, none] [.int p2.1] _ _
    refine zy_24_1 rfl (fun b20 => (show zyR _ _ _ _ [some (.ref (0 + 3)), some (.int x1), some (.int x2), some (.int x3), some (.int x4), some (.int x5), none, none] [] _ _ from ?_)) (fun b20 => (show zyR _ _ _ _ [some (.ref (0 + 3)), some (.int x1), some (.int x2), some (.int x3), some (.int x4), some (.int x5), none, none] [] _ _ from ?_))
    · replace h := zy_ifp h b20
      refine zy_0 rfl rfl (show zyR _ _ _ _ [some (.ref (0 + 3)), some (.int x1), some (.int x2), some (.int x3), some (.int x4), some (.int x5), none, none] [.ref (0 + 3)] _ _ from ?_)
      refine zy_1r (c := 0) rfl rfl rfl (show zyR _ _ _ _ [some (.ref (0 + 3)), some (.int x1), some (.int x2), some (.int x3), some (.int x4), some (.int x5), none, none] [.ref (30 + 3)] _ _ from ?_)
      refine zy_2 rfl rfl (show zyR _ _ _ _ [some (.ref (0 + 3)), some (.int x1), some (.int x2), some (.int x3), some (.int x4), some (.int x5), none, none] [.int x1, .ref (30 + 3)] _ _ from ?_)
      obtain ⟨c3, h⟩ := zy_if h
      obtain ⟨c4, h⟩ := zy_if h
      refine zy_28 rfl (zy_Wb_g c4) c3 (show zyR _ _ _ _ [some (.ref (0 + 3)), some (.int x1), some (.int x2), some (.int x3), some (.int x4), some (.int x5), none, none] [.ref ((zy_sh (x1).toNatClampNeg) + 3)] _ _ from ?_)
      refine zy_39 rfl rfl (show zyR _ _ _ _ [some (.ref (0 + 3)), some (.int x1), some (.int x2), some (.int x3), some (.int x4), some (.int x5), some (.ref ((zy_sh (x1).toNatClampNeg) + 3)), none] [] _ _ from ?_)
      refine zy_0 rfl rfl (show zyR _ _ _ _ [some (.ref (0 + 3)), some (.int x1), some (.int x2), some (.int x3), some (.int x4), some (.int x5), some (.ref ((zy_sh (x1).toNatClampNeg) + 3)), none] [.ref (0 + 3)] _ _ from ?_)
      refine zy_1r (c := 0) rfl rfl rfl (show zyR _ _ _ _ [some (.ref (0 + 3)), some (.int x1), some (.int x2), some (.int x3), some (.int x4), some (.int x5), some (.ref ((zy_sh (x1).toNatClampNeg) + 3)), none] [.ref (30 + 3)] _ _ from ?_)
      refine zy_2 rfl rfl (show zyR _ _ _ _ [some (.ref (0 + 3)), some (.int x1), some (.int x2), some (.int x3), some (.int x4), some (.int x5), some (.ref ((zy_sh (x1).toNatClampNeg) + 3)), none] [.int x3, .ref (30 + 3)] _ _ from ?_)
      obtain ⟨c5, h⟩ := zy_if h
      obtain ⟨c6, h⟩ := zy_if h
      refine zy_28 rfl (zy_Wb_g c6) c5 (show zyR _ _ _ _ [some (.ref (0 + 3)), some (.int x1), some (.int x2), some (.int x3), some (.int x4), some (.int x5), some (.ref ((zy_sh (x1).toNatClampNeg) + 3)), none] [.ref ((zy_sh (x3).toNatClampNeg) + 3)] _ _ from ?_)
      refine zy_39 rfl rfl (show zyR _ _ _ _ [some (.ref (0 + 3)), some (.int x1), some (.int x2), some (.int x3), some (.int x4), some (.int x5), some (.ref ((zy_sh (x1).toNatClampNeg) + 3)), some (.ref ((zy_sh (x3).toNatClampNeg) + 3))] [] _ _ from ?_)
      refine zy_0 rfl rfl (show zyR _ _ _ _ [some (.ref (0 + 3)), some (.int x1), some (.int x2), some (.int x3), some (.int x4), some (.int x5), some (.ref ((zy_sh (x1).toNatClampNeg) + 3)), some (.ref ((zy_sh (x3).toNatClampNeg) + 3))] [.ref ((zy_sh (x1).toNatClampNeg) + 3)] _ _ from ?_)
      obtain ⟨p7, hp7, h⟩ := zy_bind h
      refine zy_5 (c := (zy_sh (x1).toNatClampNeg)) (as := []) (rest := []) (L := [some (.ref ((zy_sh (x1).toNatClampNeg) + 3))]) (d' := 2) rfl rfl (zy_isSh_of (zy_in_lt c3)).1 (Nat.le_of_ble_eq_true rfl) (Nat.le_of_ble_eq_true rfl) rfl (Nat.le_of_ble_eq_true rfl) rfl rfl (zyC19 (zy_isSh_of (zy_in_lt c3)) hp7) ?_
      show zyR _ _ _ _ [some (.ref (0 + 3)), some (.int x1), some (.int x2), some (.int x3), some (.int x4), some (.int x5), some (.ref ((zy_sh (x1).toNatClampNeg) + 3)), some (.ref ((zy_sh (x3).toNatClampNeg) + 3))] [.int p7.1] _ _
      refine zy_24_1 rfl (fun b19 => (show zyR _ _ _ _ [some (.ref (0 + 3)), some (.int x1), some (.int x2), some (.int x3), some (.int x4), some (.int x5), some (.ref ((zy_sh (x1).toNatClampNeg) + 3)), some (.ref ((zy_sh (x3).toNatClampNeg) + 3))] [] _ _ from ?_)) (fun b19 => (show zyR _ _ _ _ [some (.ref (0 + 3)), some (.int x1), some (.int x2), some (.int x3), some (.int x4), some (.int x5), some (.ref ((zy_sh (x1).toNatClampNeg) + 3)), some (.ref ((zy_sh (x3).toNatClampNeg) + 3))] [] _ _ from ?_))
      · replace h := zy_ifp h b19
        refine zy_3 rfl rfl (show zyR _ _ _ _ [some (.ref (0 + 3)), some (.int x1), some (.int x2), some (.int x3), some (.int x4), some (.int x5), some (.ref ((zy_sh (x1).toNatClampNeg) + 3)), some (.ref ((zy_sh (x3).toNatClampNeg) + 3))] [.int (-11 : Int32)] _ _ from ?_)
        obtain ⟨rfl, rfl⟩ := zy_pi h
        exact zy_4 rfl ⟨rfl, rfl⟩
      · replace h := zy_ifn h b19
        refine zy_0 rfl rfl (show zyR _ _ _ _ [some (.ref (0 + 3)), some (.int x1), some (.int x2), some (.int x3), some (.int x4), some (.int x5), some (.ref ((zy_sh (x1).toNatClampNeg) + 3)), some (.ref ((zy_sh (x3).toNatClampNeg) + 3))] [.ref ((zy_sh (x3).toNatClampNeg) + 3)] _ _ from ?_)
        obtain ⟨p8, hp8, h⟩ := zy_bind h
        refine zy_5 (c := (zy_sh (x3).toNatClampNeg)) (as := []) (rest := []) (L := [some (.ref ((zy_sh (x3).toNatClampNeg) + 3))]) (d' := 2) rfl rfl (zy_isSh_of (zy_in_lt c5)).1 (Nat.le_of_ble_eq_true rfl) (Nat.le_of_ble_eq_true rfl) rfl (Nat.le_of_ble_eq_true rfl) rfl rfl (zyC19 (zy_isSh_of (zy_in_lt c5)) hp8) ?_
        show zyR _ _ _ _ [some (.ref (0 + 3)), some (.int x1), some (.int x2), some (.int x3), some (.int x4), some (.int x5), some (.ref ((zy_sh (x1).toNatClampNeg) + 3)), some (.ref ((zy_sh (x3).toNatClampNeg) + 3))] [.int p8.1] _ _
        refine zy_24_0 rfl (fun b18 => (show zyR _ _ _ _ [some (.ref (0 + 3)), some (.int x1), some (.int x2), some (.int x3), some (.int x4), some (.int x5), some (.ref ((zy_sh (x1).toNatClampNeg) + 3)), some (.ref ((zy_sh (x3).toNatClampNeg) + 3))] [] _ _ from ?_)) (fun b18 => (show zyR _ _ _ _ [some (.ref (0 + 3)), some (.int x1), some (.int x2), some (.int x3), some (.int x4), some (.int x5), some (.ref ((zy_sh (x1).toNatClampNeg) + 3)), some (.ref ((zy_sh (x3).toNatClampNeg) + 3))] [] _ _ from ?_))
        · replace h := zy_ifp h b18
          refine zy_0 rfl rfl (show zyR _ _ _ _ [some (.ref (0 + 3)), some (.int x1), some (.int x2), some (.int x3), some (.int x4), some (.int x5), some (.ref ((zy_sh (x1).toNatClampNeg) + 3)), some (.ref ((zy_sh (x3).toNatClampNeg) + 3))] [.ref ((zy_sh (x1).toNatClampNeg) + 3)] _ _ from ?_)
          obtain ⟨p9, hp9, h⟩ := zy_bind h
          refine zy_5 (c := (zy_sh (x1).toNatClampNeg)) (as := []) (rest := []) (L := [some (.ref ((zy_sh (x1).toNatClampNeg) + 3))]) (d' := 1) rfl rfl (zy_isSh_of (zy_in_lt c3)).1 (Nat.le_of_ble_eq_true rfl) (Nat.le_of_ble_eq_true rfl) rfl (Nat.le_of_ble_eq_true rfl) rfl rfl (zyC20 (zy_isSh_of (zy_in_lt c3)) hp9) ?_
          show zyR _ _ _ _ [some (.ref (0 + 3)), some (.int x1), some (.int x2), some (.int x3), some (.int x4), some (.int x5), some (.ref ((zy_sh (x1).toNatClampNeg) + 3)), some (.ref ((zy_sh (x3).toNatClampNeg) + 3))] [.int p9.1] _ _
          refine zy_24_0 rfl (fun b17 => (show zyR _ _ _ _ [some (.ref (0 + 3)), some (.int x1), some (.int x2), some (.int x3), some (.int x4), some (.int x5), some (.ref ((zy_sh (x1).toNatClampNeg) + 3)), some (.ref ((zy_sh (x3).toNatClampNeg) + 3))] [] _ _ from ?_)) (fun b17 => (show zyR _ _ _ _ [some (.ref (0 + 3)), some (.int x1), some (.int x2), some (.int x3), some (.int x4), some (.int x5), some (.ref ((zy_sh (x1).toNatClampNeg) + 3)), some (.ref ((zy_sh (x3).toNatClampNeg) + 3))] [] _ _ from ?_))
          · replace h := zy_ifp h b17
            refine zy_3 rfl rfl (show zyR _ _ _ _ [some (.ref (0 + 3)), some (.int x1), some (.int x2), some (.int x3), some (.int x4), some (.int x5), some (.ref ((zy_sh (x1).toNatClampNeg) + 3)), some (.ref ((zy_sh (x3).toNatClampNeg) + 3))] [.int (-12 : Int32)] _ _ from ?_)
            obtain ⟨rfl, rfl⟩ := zy_pi h
            exact zy_4 rfl ⟨rfl, rfl⟩
          · replace h := zy_ifn h b17
            refine zy_0 rfl rfl (show zyR _ _ _ _ [some (.ref (0 + 3)), some (.int x1), some (.int x2), some (.int x3), some (.int x4), some (.int x5), some (.ref ((zy_sh (x1).toNatClampNeg) + 3)), some (.ref ((zy_sh (x3).toNatClampNeg) + 3))] [.ref ((zy_sh (x3).toNatClampNeg) + 3)] _ _ from ?_)
            refine zy_0 rfl rfl (show zyR _ _ _ _ [some (.ref (0 + 3)), some (.int x1), some (.int x2), some (.int x3), some (.int x4), some (.int x5), some (.ref ((zy_sh (x1).toNatClampNeg) + 3)), some (.ref ((zy_sh (x3).toNatClampNeg) + 3))] [.ref ((zy_sh (x1).toNatClampNeg) + 3), .ref ((zy_sh (x3).toNatClampNeg) + 3)] _ _ from ?_)
            refine zy_1 (c := (zy_sh (x1).toNatClampNeg)) rfl (zy_isSh_of (zy_in_lt c3)).1 rfl (show zyR _ _ _ _ [some (.ref (0 + 3)), some (.int x1), some (.int x2), some (.int x3), some (.int x4), some (.int x5), some (.ref ((zy_sh (x1).toNatClampNeg) + 3)), some (.ref ((zy_sh (x3).toNatClampNeg) + 3))] [.int (p9.2.1 (zy_sh (x1).toNatClampNeg) 2), .ref ((zy_sh (x3).toNatClampNeg) + 3)] _ _ from ?_)
            obtain ⟨p10, hp10, h⟩ := zy_bind h
            refine zy_5 (c := (zy_sh (x3).toNatClampNeg)) (as := [.int (p9.2.1 (zy_sh (x1).toNatClampNeg) 2)]) (rest := []) (L := [some (.ref ((zy_sh (x3).toNatClampNeg) + 3)), some (.int (p9.2.1 (zy_sh (x1).toNatClampNeg) 2))]) (d' := 2) rfl rfl (zy_isSh_of (zy_in_lt c5)).1 (Nat.le_of_ble_eq_true rfl) (Nat.le_of_ble_eq_true rfl) rfl (Nat.le_of_ble_eq_true rfl) rfl rfl (zyC21 (zy_isSh_of (zy_in_lt c5)) hp10) ?_
            show zyR _ _ _ _ [some (.ref (0 + 3)), some (.int x1), some (.int x2), some (.int x3), some (.int x4), some (.int x5), some (.ref ((zy_sh (x1).toNatClampNeg) + 3)), some (.ref ((zy_sh (x3).toNatClampNeg) + 3))] [.int p10.1] _ _
            refine zy_24_1 rfl (fun b16 => (show zyR _ _ _ _ [some (.ref (0 + 3)), some (.int x1), some (.int x2), some (.int x3), some (.int x4), some (.int x5), some (.ref ((zy_sh (x1).toNatClampNeg) + 3)), some (.ref ((zy_sh (x3).toNatClampNeg) + 3))] [] _ _ from ?_)) (fun b16 => (show zyR _ _ _ _ [some (.ref (0 + 3)), some (.int x1), some (.int x2), some (.int x3), some (.int x4), some (.int x5), some (.ref ((zy_sh (x1).toNatClampNeg) + 3)), some (.ref ((zy_sh (x3).toNatClampNeg) + 3))] [] _ _ from ?_))
            · replace h := zy_ifp h b16
              refine zy_0 rfl rfl (show zyR _ _ _ _ [some (.ref (0 + 3)), some (.int x1), some (.int x2), some (.int x3), some (.int x4), some (.int x5), some (.ref ((zy_sh (x1).toNatClampNeg) + 3)), some (.ref ((zy_sh (x3).toNatClampNeg) + 3))] [.ref ((zy_sh (x1).toNatClampNeg) + 3)] _ _ from ?_)
              refine zy_2 rfl rfl (show zyR _ _ _ _ [some (.ref (0 + 3)), some (.int x1), some (.int x2), some (.int x3), some (.int x4), some (.int x5), some (.ref ((zy_sh (x1).toNatClampNeg) + 3)), some (.ref ((zy_sh (x3).toNatClampNeg) + 3))] [.int x2, .ref ((zy_sh (x1).toNatClampNeg) + 3)] _ _ from ?_)
              refine zy_2 rfl rfl (show zyR _ _ _ _ [some (.ref (0 + 3)), some (.int x1), some (.int x2), some (.int x3), some (.int x4), some (.int x5), some (.ref ((zy_sh (x1).toNatClampNeg) + 3)), some (.ref ((zy_sh (x3).toNatClampNeg) + 3))] [.int x5, .int x2, .ref ((zy_sh (x1).toNatClampNeg) + 3)] _ _ from ?_)
              obtain ⟨p11, hp11, h⟩ := zy_bind h
              refine zy_5 (c := (zy_sh (x1).toNatClampNeg)) (as := [.int x2, .int x5]) (rest := []) (L := [some (.ref ((zy_sh (x1).toNatClampNeg) + 3)), some (.int x2), some (.int x5)]) (d' := 1) rfl rfl (zy_isSh_of (zy_in_lt c3)).1 (Nat.le_of_ble_eq_true rfl) (Nat.le_of_ble_eq_true rfl) rfl (Nat.le_of_ble_eq_true rfl) rfl rfl (zyC23 (zy_isSh_of (zy_in_lt c3)) hp11) ?_
              show zyR _ _ _ _ [some (.ref (0 + 3)), some (.int x1), some (.int x2), some (.int x3), some (.int x4), some (.int x5), some (.ref ((zy_sh (x1).toNatClampNeg) + 3)), some (.ref ((zy_sh (x3).toNatClampNeg) + 3))] [.int p11.1] _ _
              refine zy_24_0 rfl (fun b15 => (show zyR _ _ _ _ [some (.ref (0 + 3)), some (.int x1), some (.int x2), some (.int x3), some (.int x4), some (.int x5), some (.ref ((zy_sh (x1).toNatClampNeg) + 3)), some (.ref ((zy_sh (x3).toNatClampNeg) + 3))] [] _ _ from ?_)) (fun b15 => (show zyR _ _ _ _ [some (.ref (0 + 3)), some (.int x1), some (.int x2), some (.int x3), some (.int x4), some (.int x5), some (.ref ((zy_sh (x1).toNatClampNeg) + 3)), some (.ref ((zy_sh (x3).toNatClampNeg) + 3))] [] _ _ from ?_))
              · replace h := zy_ifp h b15
                refine zy_3 rfl rfl (show zyR _ _ _ _ [some (.ref (0 + 3)), some (.int x1), some (.int x2), some (.int x3), some (.int x4), some (.int x5), some (.ref ((zy_sh (x1).toNatClampNeg) + 3)), some (.ref ((zy_sh (x3).toNatClampNeg) + 3))] [.int (-13 : Int32)] _ _ from ?_)
                obtain ⟨rfl, rfl⟩ := zy_pi h
                exact zy_4 rfl ⟨rfl, rfl⟩
              · replace h := zy_ifn h b15
                refine zy_0 rfl rfl (show zyR _ _ _ _ [some (.ref (0 + 3)), some (.int x1), some (.int x2), some (.int x3), some (.int x4), some (.int x5), some (.ref ((zy_sh (x1).toNatClampNeg) + 3)), some (.ref ((zy_sh (x3).toNatClampNeg) + 3))] [.ref ((zy_sh (x3).toNatClampNeg) + 3)] _ _ from ?_)
                refine zy_2 rfl rfl (show zyR _ _ _ _ [some (.ref (0 + 3)), some (.int x1), some (.int x2), some (.int x3), some (.int x4), some (.int x5), some (.ref ((zy_sh (x1).toNatClampNeg) + 3)), some (.ref ((zy_sh (x3).toNatClampNeg) + 3))] [.int x4, .ref ((zy_sh (x3).toNatClampNeg) + 3)] _ _ from ?_)
                refine zy_2 rfl rfl (show zyR _ _ _ _ [some (.ref (0 + 3)), some (.int x1), some (.int x2), some (.int x3), some (.int x4), some (.int x5), some (.ref ((zy_sh (x1).toNatClampNeg) + 3)), some (.ref ((zy_sh (x3).toNatClampNeg) + 3))] [.int x5, .int x4, .ref ((zy_sh (x3).toNatClampNeg) + 3)] _ _ from ?_)
                obtain ⟨p12, hp12, h⟩ := zy_bind h
                refine zy_5 (c := (zy_sh (x3).toNatClampNeg)) (as := [.int x4, .int x5]) (rest := []) (L := [some (.ref ((zy_sh (x3).toNatClampNeg) + 3)), some (.int x4), some (.int x5)]) (d' := 1) rfl rfl (zy_isSh_of (zy_in_lt c5)).1 (Nat.le_of_ble_eq_true rfl) (Nat.le_of_ble_eq_true rfl) rfl (Nat.le_of_ble_eq_true rfl) rfl rfl (zyC23 (zy_isSh_of (zy_in_lt c5)) hp12) ?_
                show zyR _ _ _ _ [some (.ref (0 + 3)), some (.int x1), some (.int x2), some (.int x3), some (.int x4), some (.int x5), some (.ref ((zy_sh (x1).toNatClampNeg) + 3)), some (.ref ((zy_sh (x3).toNatClampNeg) + 3))] [.int p12.1] _ _
                refine zy_24_1 rfl (fun b14 => (show zyR _ _ _ _ [some (.ref (0 + 3)), some (.int x1), some (.int x2), some (.int x3), some (.int x4), some (.int x5), some (.ref ((zy_sh (x1).toNatClampNeg) + 3)), some (.ref ((zy_sh (x3).toNatClampNeg) + 3))] [] _ _ from ?_)) (fun b14 => (show zyR _ _ _ _ [some (.ref (0 + 3)), some (.int x1), some (.int x2), some (.int x3), some (.int x4), some (.int x5), some (.ref ((zy_sh (x1).toNatClampNeg) + 3)), some (.ref ((zy_sh (x3).toNatClampNeg) + 3))] [] _ _ from ?_))
                · replace h := zy_ifp h b14
                  refine zy_0 rfl rfl (show zyR _ _ _ _ [some (.ref (0 + 3)), some (.int x1), some (.int x2), some (.int x3), some (.int x4), some (.int x5), some (.ref ((zy_sh (x1).toNatClampNeg) + 3)), some (.ref ((zy_sh (x3).toNatClampNeg) + 3))] [.ref ((zy_sh (x1).toNatClampNeg) + 3)] _ _ from ?_)
                  refine zy_1r (c := (zy_sh (x1).toNatClampNeg)) rfl (zy_isSh_of (zy_in_lt c3)).1 rfl (show zyR _ _ _ _ [some (.ref (0 + 3)), some (.int x1), some (.int x2), some (.int x3), some (.int x4), some (.int x5), some (.ref ((zy_sh (x1).toNatClampNeg) + 3)), some (.ref ((zy_sh (x3).toNatClampNeg) + 3))] [.ref ((zy_sh (x1).toNatClampNeg) + 1 + 3)] _ _ from ?_)
                  refine zy_2 rfl rfl (show zyR _ _ _ _ [some (.ref (0 + 3)), some (.int x1), some (.int x2), some (.int x3), some (.int x4), some (.int x5), some (.ref ((zy_sh (x1).toNatClampNeg) + 3)), some (.ref ((zy_sh (x3).toNatClampNeg) + 3))] [.int x2, .ref ((zy_sh (x1).toNatClampNeg) + 1 + 3)] _ _ from ?_)
                  refine zy_0 rfl rfl (show zyR _ _ _ _ [some (.ref (0 + 3)), some (.int x1), some (.int x2), some (.int x3), some (.int x4), some (.int x5), some (.ref ((zy_sh (x1).toNatClampNeg) + 3)), some (.ref ((zy_sh (x3).toNatClampNeg) + 3))] [.ref ((zy_sh (x3).toNatClampNeg) + 3), .int x2, .ref ((zy_sh (x1).toNatClampNeg) + 1 + 3)] _ _ from ?_)
                  refine zy_1r (c := (zy_sh (x3).toNatClampNeg)) rfl (zy_isSh_of (zy_in_lt c5)).1 rfl (show zyR _ _ _ _ [some (.ref (0 + 3)), some (.int x1), some (.int x2), some (.int x3), some (.int x4), some (.int x5), some (.ref ((zy_sh (x1).toNatClampNeg) + 3)), some (.ref ((zy_sh (x3).toNatClampNeg) + 3))] [.ref ((zy_sh (x3).toNatClampNeg) + 1 + 3), .int x2, .ref ((zy_sh (x1).toNatClampNeg) + 1 + 3)] _ _ from ?_)
                  refine zy_2 rfl rfl (show zyR _ _ _ _ [some (.ref (0 + 3)), some (.int x1), some (.int x2), some (.int x3), some (.int x4), some (.int x5), some (.ref ((zy_sh (x1).toNatClampNeg) + 3)), some (.ref ((zy_sh (x3).toNatClampNeg) + 3))] [.int x4, .ref ((zy_sh (x3).toNatClampNeg) + 1 + 3), .int x2, .ref ((zy_sh (x1).toNatClampNeg) + 1 + 3)] _ _ from ?_)
                  refine zy_2 rfl rfl (show zyR _ _ _ _ [some (.ref (0 + 3)), some (.int x1), some (.int x2), some (.int x3), some (.int x4), some (.int x5), some (.ref ((zy_sh (x1).toNatClampNeg) + 3)), some (.ref ((zy_sh (x3).toNatClampNeg) + 3))] [.int x5, .int x4, .ref ((zy_sh (x3).toNatClampNeg) + 1 + 3), .int x2, .ref ((zy_sh (x1).toNatClampNeg) + 1 + 3)] _ _ from ?_)
                  obtain ⟨c13, h⟩ := zy_if h
                  refine zy_64j (c0 := ((zy_sh (x1).toNatClampNeg) + 1)) (c1 := ((zy_sh (x3).toNatClampNeg) + 1)) rfl (zy_isSh_of (zy_in_lt c3)).2 (zy_isSh_of (zy_in_lt c5)).2 c13 (Nat.le_of_ble_eq_true rfl) (Nat.le_of_ble_eq_true rfl) (show zyR _ _ _ _ [some (.ref (0 + 3)), some (.int x1), some (.int x2), some (.int x3), some (.int x4), some (.int x5), some (.ref ((zy_sh (x1).toNatClampNeg) + 3)), some (.ref ((zy_sh (x3).toNatClampNeg) + 3))] [] _ _ from ?_)
                  refine zy_2 rfl rfl (show zyR _ _ _ _ [some (.ref (0 + 3)), some (.int x1), some (.int x2), some (.int x3), some (.int x4), some (.int x5), some (.ref ((zy_sh (x1).toNatClampNeg) + 3)), some (.ref ((zy_sh (x3).toNatClampNeg) + 3))] [.int x5] _ _ from ?_)
                  obtain ⟨rfl, rfl⟩ := zy_pi h
                  exact zy_4 rfl ⟨rfl, rfl⟩
                · replace h := zy_ifn h b14
                  refine zy_3 rfl rfl (show zyR _ _ _ _ [some (.ref (0 + 3)), some (.int x1), some (.int x2), some (.int x3), some (.int x4), some (.int x5), some (.ref ((zy_sh (x1).toNatClampNeg) + 3)), some (.ref ((zy_sh (x3).toNatClampNeg) + 3))] [.int (-13 : Int32)] _ _ from ?_)
                  obtain ⟨rfl, rfl⟩ := zy_pi h
                  exact zy_4 rfl ⟨rfl, rfl⟩
            · replace h := zy_ifn h b16
              refine zy_3 rfl rfl (show zyR _ _ _ _ [some (.ref (0 + 3)), some (.int x1), some (.int x2), some (.int x3), some (.int x4), some (.int x5), some (.ref ((zy_sh (x1).toNatClampNeg) + 3)), some (.ref ((zy_sh (x3).toNatClampNeg) + 3))] [.int (-12 : Int32)] _ _ from ?_)
              obtain ⟨rfl, rfl⟩ := zy_pi h
              exact zy_4 rfl ⟨rfl, rfl⟩
        · replace h := zy_ifn h b18
          refine zy_3 rfl rfl (show zyR _ _ _ _ [some (.ref (0 + 3)), some (.int x1), some (.int x2), some (.int x3), some (.int x4), some (.int x5), some (.ref ((zy_sh (x1).toNatClampNeg) + 3)), some (.ref ((zy_sh (x3).toNatClampNeg) + 3))] [.int (-11 : Int32)] _ _ from ?_)
          obtain ⟨rfl, rfl⟩ := zy_pi h
          exact zy_4 rfl ⟨rfl, rfl⟩
    · replace h := zy_ifn h b20
      refine zy_3 rfl rfl (show zyR _ _ _ _ [some (.ref (0 + 3)), some (.int x1), some (.int x2), some (.int x3), some (.int x4), some (.int x5), none, none] [.int (-1 : Int32)] _ _ from ?_)
      obtain ⟨rfl, rfl⟩ := zy_pi h
      exact zy_4 rfl ⟨rfl, rfl⟩
/-! NineOpinionsModel.undo()I -/
noncomputable def zyF176    (s : zy_S) : Option (Int32 × zy_S) :=
if (s.1 43 5) ≠ 0 then
if zy_in ((s.1 43 5) - (1 : Int32)) 40 then
if zy_in ((s.1 43 5) - (1 : Int32)) 40 then
if zy_in (s.1 45 (((s.1 43 5) - (1 : Int32))).toNatClampNeg) 41 then
some (((s.1 43 5) - (1 : Int32)), (zy_up (zy_up s 43 5 ((s.1 43 5) - (1 : Int32))) 44 ((s.1 45 (((s.1 43 5) - (1 : Int32))).toNatClampNeg)).toNatClampNeg (s.1 46 (((s.1 43 5) - (1 : Int32))).toNatClampNeg)))
else none
else none
else none
else
some ((-5 : Int32), s)
theorem zyC176 {X : zx_X}      {s : zy_S} {r : Int32} {s' : zy_S}  (h : zyF176 s = some (r, s')) : zyR X 1 176 0 [some (.ref (43 + 3))] [] s (zyE (some (.int r)) s') := by
  unfold zyF176 at h
  refine zy_0 rfl rfl (show zyR _ _ _ _ [some (.ref (43 + 3))] [.ref (43 + 3)] _ _ from ?_)
  refine zy_1 (c := 43) rfl rfl rfl (show zyR _ _ _ _ [some (.ref (43 + 3))] [.int (s.1 43 5)] _ _ from ?_)
  refine zy_24_1 rfl (fun b4 => (show zyR _ _ _ _ [some (.ref (43 + 3))] [] _ _ from ?_)) (fun b4 => (show zyR _ _ _ _ [some (.ref (43 + 3))] [] _ _ from ?_))
  · replace h := zy_ifp h b4
    refine zy_0 rfl rfl (show zyR _ _ _ _ [some (.ref (43 + 3))] [.ref (43 + 3)] _ _ from ?_)
    refine zy_33 rfl rfl (show zyR _ _ _ _ [some (.ref (43 + 3))] [.ref (43 + 3), .ref (43 + 3)] _ _ from ?_)
    refine zy_1 (c := 43) rfl rfl rfl (show zyR _ _ _ _ [some (.ref (43 + 3))] [.int (s.1 43 5), .ref (43 + 3)] _ _ from ?_)
    refine zy_3 rfl rfl (show zyR _ _ _ _ [some (.ref (43 + 3))] [.int (1 : Int32), .int (s.1 43 5), .ref (43 + 3)] _ _ from ?_)
    refine zy_11 rfl (show zyR _ _ _ _ [some (.ref (43 + 3))] [.int ((s.1 43 5) - (1 : Int32)), .ref (43 + 3)] _ _ from ?_)
    refine zy_52 (c := 43) rfl rfl rfl (show zyR _ _ _ _ [some (.ref (43 + 3))] [] _ _ from ?_)
    refine zy_0 rfl rfl (show zyR _ _ _ _ [some (.ref (43 + 3))] [.ref (43 + 3)] _ _ from ?_)
    refine zy_1r (c := 43) rfl rfl rfl (show zyR _ _ _ _ [some (.ref (43 + 3))] [.ref (44 + 3)] _ _ from ?_)
    refine zy_0 rfl rfl (show zyR _ _ _ _ [some (.ref (43 + 3))] [.ref (43 + 3), .ref (44 + 3)] _ _ from ?_)
    refine zy_1r (c := 43) rfl rfl rfl (show zyR _ _ _ _ [some (.ref (43 + 3))] [.ref (45 + 3), .ref (44 + 3)] _ _ from ?_)
    refine zy_0 rfl rfl (show zyR _ _ _ _ [some (.ref (43 + 3))] [.ref (43 + 3), .ref (45 + 3), .ref (44 + 3)] _ _ from ?_)
    refine zy_1 (c := 43) rfl rfl rfl (show zyR _ _ _ _ [some (.ref (43 + 3))] [.int ((s.1 43 5) - (1 : Int32)), .ref (45 + 3), .ref (44 + 3)] _ _ from ?_)
    obtain ⟨c1, h⟩ := zy_if h
    refine zy_26 (c := 45) rfl rfl c1 (show zyR _ _ _ _ [some (.ref (43 + 3))] [.int (s.1 45 (((s.1 43 5) - (1 : Int32))).toNatClampNeg), .ref (44 + 3)] _ _ from ?_)
    refine zy_0 rfl rfl (show zyR _ _ _ _ [some (.ref (43 + 3))] [.ref (43 + 3), .int (s.1 45 (((s.1 43 5) - (1 : Int32))).toNatClampNeg), .ref (44 + 3)] _ _ from ?_)
    refine zy_1r (c := 43) rfl rfl rfl (show zyR _ _ _ _ [some (.ref (43 + 3))] [.ref (46 + 3), .int (s.1 45 (((s.1 43 5) - (1 : Int32))).toNatClampNeg), .ref (44 + 3)] _ _ from ?_)
    refine zy_0 rfl rfl (show zyR _ _ _ _ [some (.ref (43 + 3))] [.ref (43 + 3), .ref (46 + 3), .int (s.1 45 (((s.1 43 5) - (1 : Int32))).toNatClampNeg), .ref (44 + 3)] _ _ from ?_)
    refine zy_1 (c := 43) rfl rfl rfl (show zyR _ _ _ _ [some (.ref (43 + 3))] [.int ((s.1 43 5) - (1 : Int32)), .ref (46 + 3), .int (s.1 45 (((s.1 43 5) - (1 : Int32))).toNatClampNeg), .ref (44 + 3)] _ _ from ?_)
    obtain ⟨c2, h⟩ := zy_if h
    refine zy_26 (c := 46) rfl rfl c2 (show zyR _ _ _ _ [some (.ref (43 + 3))] [.int (s.1 46 (((s.1 43 5) - (1 : Int32))).toNatClampNeg), .int (s.1 45 (((s.1 43 5) - (1 : Int32))).toNatClampNeg), .ref (44 + 3)] _ _ from ?_)
    obtain ⟨c3, h⟩ := zy_if h
    refine zy_27 (c := 44) rfl rfl c3 (show zyR _ _ _ _ [some (.ref (43 + 3))] [] _ _ from ?_)
    refine zy_0 rfl rfl (show zyR _ _ _ _ [some (.ref (43 + 3))] [.ref (43 + 3)] _ _ from ?_)
    refine zy_1 (c := 43) rfl rfl rfl (show zyR _ _ _ _ [some (.ref (43 + 3))] [.int ((s.1 43 5) - (1 : Int32))] _ _ from ?_)
    obtain ⟨rfl, rfl⟩ := zy_pi h
    exact zy_4 rfl ⟨rfl, rfl⟩
  · replace h := zy_ifn h b4
    refine zy_3 rfl rfl (show zyR _ _ _ _ [some (.ref (43 + 3))] [.int (-5 : Int32)] _ _ from ?_)
    obtain ⟨rfl, rfl⟩ := zy_pi h
    exact zy_4 rfl ⟨rfl, rfl⟩
/-! NineOpinionsModel.redo()I -/
noncomputable def zyF177    (s : zy_S) : Option (Int32 × zy_S) :=
if (s.1 43 5) ≠ (s.1 43 4) then
if zy_in (s.1 43 5) 40 then
if zy_in (s.1 43 5) 40 then
if zy_in (s.1 45 ((s.1 43 5)).toNatClampNeg) 41 then
some (((s.1 43 4) - ((s.1 43 5) + (1 : Int32))), (zy_up (zy_up s 44 ((s.1 45 ((s.1 43 5)).toNatClampNeg)).toNatClampNeg (s.1 47 ((s.1 43 5)).toNatClampNeg)) 43 5 ((s.1 43 5) + (1 : Int32))))
else none
else none
else none
else
some ((-5 : Int32), s)
theorem zyC177 {X : zx_X}      {s : zy_S} {r : Int32} {s' : zy_S}  (h : zyF177 s = some (r, s')) : zyR X 1 177 0 [some (.ref (43 + 3))] [] s (zyE (some (.int r)) s') := by
  unfold zyF177 at h
  refine zy_0 rfl rfl (show zyR _ _ _ _ [some (.ref (43 + 3))] [.ref (43 + 3)] _ _ from ?_)
  refine zy_1 (c := 43) rfl rfl rfl (show zyR _ _ _ _ [some (.ref (43 + 3))] [.int (s.1 43 5)] _ _ from ?_)
  refine zy_0 rfl rfl (show zyR _ _ _ _ [some (.ref (43 + 3))] [.ref (43 + 3), .int (s.1 43 5)] _ _ from ?_)
  refine zy_1 (c := 43) rfl rfl rfl (show zyR _ _ _ _ [some (.ref (43 + 3))] [.int (s.1 43 4), .int (s.1 43 5)] _ _ from ?_)
  refine zy_25_1 rfl (fun b4 => (show zyR _ _ _ _ [some (.ref (43 + 3))] [] _ _ from ?_)) (fun b4 => (show zyR _ _ _ _ [some (.ref (43 + 3))] [] _ _ from ?_))
  · replace h := zy_ifp h b4
    refine zy_0 rfl rfl (show zyR _ _ _ _ [some (.ref (43 + 3))] [.ref (43 + 3)] _ _ from ?_)
    refine zy_1r (c := 43) rfl rfl rfl (show zyR _ _ _ _ [some (.ref (43 + 3))] [.ref (44 + 3)] _ _ from ?_)
    refine zy_0 rfl rfl (show zyR _ _ _ _ [some (.ref (43 + 3))] [.ref (43 + 3), .ref (44 + 3)] _ _ from ?_)
    refine zy_1r (c := 43) rfl rfl rfl (show zyR _ _ _ _ [some (.ref (43 + 3))] [.ref (45 + 3), .ref (44 + 3)] _ _ from ?_)
    refine zy_0 rfl rfl (show zyR _ _ _ _ [some (.ref (43 + 3))] [.ref (43 + 3), .ref (45 + 3), .ref (44 + 3)] _ _ from ?_)
    refine zy_1 (c := 43) rfl rfl rfl (show zyR _ _ _ _ [some (.ref (43 + 3))] [.int (s.1 43 5), .ref (45 + 3), .ref (44 + 3)] _ _ from ?_)
    obtain ⟨c1, h⟩ := zy_if h
    refine zy_26 (c := 45) rfl rfl c1 (show zyR _ _ _ _ [some (.ref (43 + 3))] [.int (s.1 45 ((s.1 43 5)).toNatClampNeg), .ref (44 + 3)] _ _ from ?_)
    refine zy_0 rfl rfl (show zyR _ _ _ _ [some (.ref (43 + 3))] [.ref (43 + 3), .int (s.1 45 ((s.1 43 5)).toNatClampNeg), .ref (44 + 3)] _ _ from ?_)
    refine zy_1r (c := 43) rfl rfl rfl (show zyR _ _ _ _ [some (.ref (43 + 3))] [.ref (47 + 3), .int (s.1 45 ((s.1 43 5)).toNatClampNeg), .ref (44 + 3)] _ _ from ?_)
    refine zy_0 rfl rfl (show zyR _ _ _ _ [some (.ref (43 + 3))] [.ref (43 + 3), .ref (47 + 3), .int (s.1 45 ((s.1 43 5)).toNatClampNeg), .ref (44 + 3)] _ _ from ?_)
    refine zy_1 (c := 43) rfl rfl rfl (show zyR _ _ _ _ [some (.ref (43 + 3))] [.int (s.1 43 5), .ref (47 + 3), .int (s.1 45 ((s.1 43 5)).toNatClampNeg), .ref (44 + 3)] _ _ from ?_)
    obtain ⟨c2, h⟩ := zy_if h
    refine zy_26 (c := 47) rfl rfl c2 (show zyR _ _ _ _ [some (.ref (43 + 3))] [.int (s.1 47 ((s.1 43 5)).toNatClampNeg), .int (s.1 45 ((s.1 43 5)).toNatClampNeg), .ref (44 + 3)] _ _ from ?_)
    obtain ⟨c3, h⟩ := zy_if h
    refine zy_27 (c := 44) rfl rfl c3 (show zyR _ _ _ _ [some (.ref (43 + 3))] [] _ _ from ?_)
    refine zy_0 rfl rfl (show zyR _ _ _ _ [some (.ref (43 + 3))] [.ref (43 + 3)] _ _ from ?_)
    refine zy_33 rfl rfl (show zyR _ _ _ _ [some (.ref (43 + 3))] [.ref (43 + 3), .ref (43 + 3)] _ _ from ?_)
    refine zy_1 (c := 43) rfl rfl rfl (show zyR _ _ _ _ [some (.ref (43 + 3))] [.int (s.1 43 5), .ref (43 + 3)] _ _ from ?_)
    refine zy_3 rfl rfl (show zyR _ _ _ _ [some (.ref (43 + 3))] [.int (1 : Int32), .int (s.1 43 5), .ref (43 + 3)] _ _ from ?_)
    refine zy_10 rfl (show zyR _ _ _ _ [some (.ref (43 + 3))] [.int ((s.1 43 5) + (1 : Int32)), .ref (43 + 3)] _ _ from ?_)
    refine zy_52 (c := 43) rfl rfl rfl (show zyR _ _ _ _ [some (.ref (43 + 3))] [] _ _ from ?_)
    refine zy_0 rfl rfl (show zyR _ _ _ _ [some (.ref (43 + 3))] [.ref (43 + 3)] _ _ from ?_)
    refine zy_1 (c := 43) rfl rfl rfl (show zyR _ _ _ _ [some (.ref (43 + 3))] [.int (s.1 43 4)] _ _ from ?_)
    refine zy_0 rfl rfl (show zyR _ _ _ _ [some (.ref (43 + 3))] [.ref (43 + 3), .int (s.1 43 4)] _ _ from ?_)
    refine zy_1 (c := 43) rfl rfl rfl (show zyR _ _ _ _ [some (.ref (43 + 3))] [.int ((s.1 43 5) + (1 : Int32)), .int (s.1 43 4)] _ _ from ?_)
    refine zy_11 rfl (show zyR _ _ _ _ [some (.ref (43 + 3))] [.int ((s.1 43 4) - ((s.1 43 5) + (1 : Int32)))] _ _ from ?_)
    obtain ⟨rfl, rfl⟩ := zy_pi h
    exact zy_4 rfl ⟨rfl, rfl⟩
  · replace h := zy_ifn h b4
    refine zy_3 rfl rfl (show zyR _ _ _ _ [some (.ref (43 + 3))] [.int (-5 : Int32)] _ _ from ?_)
    obtain ⟨rfl, rfl⟩ := zy_pi h
    exact zy_4 rfl ⟨rfl, rfl⟩
/-! NineOpinionsModel.within(JJJ)Z -/
noncomputable def zyF179   (x0 : Int64) (x2 : Int64) (x4 : Int64) (s : zy_S) : Option (Int32 × zy_S) :=
if (lg_cmp x0 x2) < 0 then
some ((0 : Int32), s)
else
if 0 < (lg_cmp x0 x4) then
some ((0 : Int32), s)
else
some ((1 : Int32), s)
theorem zyC179 {X : zx_X}     {x0 : Int64} {x2 : Int64} {x4 : Int64} {s : zy_S} {r : Int32} {s' : zy_S}  (h : zyF179 x0 x2 x4 s = some (r, s')) : zyR X 1 179 0 [some (.long x0), none, some (.long x2), none, some (.long x4), none] [] s (zyE (some (.int r)) s') := by
  unfold zyF179 at h
  refine zy_37 rfl rfl (show zyR _ _ _ _ [some (.long x0), none, some (.long x2), none, some (.long x4), none] [.long x0] _ _ from ?_)
  refine zy_37 rfl rfl (show zyR _ _ _ _ [some (.long x0), none, some (.long x2), none, some (.long x4), none] [.long x2, .long x0] _ _ from ?_)
  refine zy_44 rfl (show zyR _ _ _ _ [some (.long x0), none, some (.long x2), none, some (.long x4), none] [.int (lg_cmp x0 x2)] _ _ from ?_)
  refine zy_24_2 rfl (fun b2 => (show zyR _ _ _ _ [some (.long x0), none, some (.long x2), none, some (.long x4), none] [] _ _ from ?_)) (fun b2 => (show zyR _ _ _ _ [some (.long x0), none, some (.long x2), none, some (.long x4), none] [] _ _ from ?_))
  · replace h := zy_ifp h b2
    refine zy_3 rfl rfl (show zyR _ _ _ _ [some (.long x0), none, some (.long x2), none, some (.long x4), none] [.int (0 : Int32)] _ _ from ?_)
    cases h
    exact zy_4b rfl ⟨rfl, rfl⟩ (Or.inl rfl)
  · replace h := zy_ifn h b2
    refine zy_37 rfl rfl (show zyR _ _ _ _ [some (.long x0), none, some (.long x2), none, some (.long x4), none] [.long x0] _ _ from ?_)
    refine zy_37 rfl rfl (show zyR _ _ _ _ [some (.long x0), none, some (.long x2), none, some (.long x4), none] [.long x4, .long x0] _ _ from ?_)
    refine zy_44 rfl (show zyR _ _ _ _ [some (.long x0), none, some (.long x2), none, some (.long x4), none] [.int (lg_cmp x0 x4)] _ _ from ?_)
    refine zy_24_4 rfl (fun b1 => (show zyR _ _ _ _ [some (.long x0), none, some (.long x2), none, some (.long x4), none] [] _ _ from ?_)) (fun b1 => (show zyR _ _ _ _ [some (.long x0), none, some (.long x2), none, some (.long x4), none] [] _ _ from ?_))
    · replace h := zy_ifp h b1
      refine zy_3 rfl rfl (show zyR _ _ _ _ [some (.long x0), none, some (.long x2), none, some (.long x4), none] [.int (0 : Int32)] _ _ from ?_)
      cases h
      exact zy_4b rfl ⟨rfl, rfl⟩ (Or.inl rfl)
    · replace h := zy_ifn h b1
      refine zy_3 rfl rfl (show zyR _ _ _ _ [some (.long x0), none, some (.long x2), none, some (.long x4), none] [.int (1 : Int32)] _ _ from ?_)
      refine zy_6 rfl (show zyR _ _ _ _ [some (.long x0), none, some (.long x2), none, some (.long x4), none] [.int (1 : Int32)] _ _ from ?_)
      cases h
      exact zy_4b rfl ⟨rfl, rfl⟩ (Or.inr rfl)
end
section
/-! PART 41.05: methods as functions. Made by wip/v4/dcp.py. -/
/-! NineOpinionsModel.adds(II)V -/
noncomputable def zyF180   (x1 : Int32) (x2 : Int32) (s : zy_S) : Option (Int32 × zy_S) :=
if zy_in (s.1 43 6) 41 then
if zy_in ((8 : Int32) + (s.1 43 6)) 41 then
some ((0 : Int32), (zy_up (zy_up (zy_up s 44 ((s.1 43 6)).toNatClampNeg x1) 44 (((8 : Int32) + (s.1 43 6))).toNatClampNeg x2) 43 6 ((s.1 43 6) + (1 : Int32))))
else none
else none
theorem zyC180 {X : zx_X}     {x1 : Int32} {x2 : Int32} {s : zy_S} {r : Int32} {s' : zy_S}  (h : zyF180 x1 x2 s = some (r, s')) : zyR X 1 180 0 [some (.ref (43 + 3)), some (.int x1), some (.int x2)] [] s (zyE none s') := by
  unfold zyF180 at h
  refine zy_0 rfl rfl (show zyR _ _ _ _ [some (.ref (43 + 3)), some (.int x1), some (.int x2)] [.ref (43 + 3)] _ _ from ?_)
  refine zy_1r (c := 43) rfl rfl rfl (show zyR _ _ _ _ [some (.ref (43 + 3)), some (.int x1), some (.int x2)] [.ref (44 + 3)] _ _ from ?_)
  refine zy_0 rfl rfl (show zyR _ _ _ _ [some (.ref (43 + 3)), some (.int x1), some (.int x2)] [.ref (43 + 3), .ref (44 + 3)] _ _ from ?_)
  refine zy_1 (c := 43) rfl rfl rfl (show zyR _ _ _ _ [some (.ref (43 + 3)), some (.int x1), some (.int x2)] [.int (s.1 43 6), .ref (44 + 3)] _ _ from ?_)
  refine zy_2 rfl rfl (show zyR _ _ _ _ [some (.ref (43 + 3)), some (.int x1), some (.int x2)] [.int x1, .int (s.1 43 6), .ref (44 + 3)] _ _ from ?_)
  obtain ⟨c1, h⟩ := zy_if h
  refine zy_27 (c := 44) rfl rfl c1 (show zyR _ _ _ _ [some (.ref (43 + 3)), some (.int x1), some (.int x2)] [] _ _ from ?_)
  refine zy_0 rfl rfl (show zyR _ _ _ _ [some (.ref (43 + 3)), some (.int x1), some (.int x2)] [.ref (43 + 3)] _ _ from ?_)
  refine zy_1r (c := 43) rfl rfl rfl (show zyR _ _ _ _ [some (.ref (43 + 3)), some (.int x1), some (.int x2)] [.ref (44 + 3)] _ _ from ?_)
  refine zy_3 rfl rfl (show zyR _ _ _ _ [some (.ref (43 + 3)), some (.int x1), some (.int x2)] [.int (8 : Int32), .ref (44 + 3)] _ _ from ?_)
  refine zy_0 rfl rfl (show zyR _ _ _ _ [some (.ref (43 + 3)), some (.int x1), some (.int x2)] [.ref (43 + 3), .int (8 : Int32), .ref (44 + 3)] _ _ from ?_)
  refine zy_1 (c := 43) rfl rfl rfl (show zyR _ _ _ _ [some (.ref (43 + 3)), some (.int x1), some (.int x2)] [.int (s.1 43 6), .int (8 : Int32), .ref (44 + 3)] _ _ from ?_)
  refine zy_10 rfl (show zyR _ _ _ _ [some (.ref (43 + 3)), some (.int x1), some (.int x2)] [.int ((8 : Int32) + (s.1 43 6)), .ref (44 + 3)] _ _ from ?_)
  refine zy_2 rfl rfl (show zyR _ _ _ _ [some (.ref (43 + 3)), some (.int x1), some (.int x2)] [.int x2, .int ((8 : Int32) + (s.1 43 6)), .ref (44 + 3)] _ _ from ?_)
  obtain ⟨c2, h⟩ := zy_if h
  refine zy_27 (c := 44) rfl rfl c2 (show zyR _ _ _ _ [some (.ref (43 + 3)), some (.int x1), some (.int x2)] [] _ _ from ?_)
  refine zy_0 rfl rfl (show zyR _ _ _ _ [some (.ref (43 + 3)), some (.int x1), some (.int x2)] [.ref (43 + 3)] _ _ from ?_)
  refine zy_33 rfl rfl (show zyR _ _ _ _ [some (.ref (43 + 3)), some (.int x1), some (.int x2)] [.ref (43 + 3), .ref (43 + 3)] _ _ from ?_)
  refine zy_1 (c := 43) rfl rfl rfl (show zyR _ _ _ _ [some (.ref (43 + 3)), some (.int x1), some (.int x2)] [.int (s.1 43 6), .ref (43 + 3)] _ _ from ?_)
  refine zy_3 rfl rfl (show zyR _ _ _ _ [some (.ref (43 + 3)), some (.int x1), some (.int x2)] [.int (1 : Int32), .int (s.1 43 6), .ref (43 + 3)] _ _ from ?_)
  refine zy_10 rfl (show zyR _ _ _ _ [some (.ref (43 + 3)), some (.int x1), some (.int x2)] [.int ((s.1 43 6) + (1 : Int32)), .ref (43 + 3)] _ _ from ?_)
  refine zy_52 (c := 43) rfl rfl rfl (show zyR _ _ _ _ [some (.ref (43 + 3)), some (.int x1), some (.int x2)] [] _ _ from ?_)
  cases h
  exact zy_66 rfl ⟨rfl, rfl⟩
/-! NineOpinionsModel.person(I)I -/
noncomputable def zyF178   (x1 : Int32) (s : zy_S) : Option (Int32 × zy_S) :=
(zyF179 (x1).toInt64 (0 : Int64) (4095 : Int64) s).bind fun p1 =>
if p1.1 ≠ 0 then
if (p1.2.1 43 6) ≠ (8 : Int32) then
(zyF180 x1 (1 : Int32) p1.2).bind fun p2 =>
some (((p2.2.1 43 6) - (1 : Int32)), p2.2)
else
some ((-3 : Int32), p1.2)
else
some ((-1 : Int32), p1.2)
theorem zyC178 {X : zx_X}     {x1 : Int32} {s : zy_S} {r : Int32} {s' : zy_S}  (h : zyF178 x1 s = some (r, s')) : zyR X 2 178 0 [some (.ref (43 + 3)), some (.int x1)] [] s (zyE (some (.int r)) s') := by
  unfold zyF178 at h
  refine zy_2 rfl rfl (show zyR _ _ _ _ [some (.ref (43 + 3)), some (.int x1)] [.int x1] _ _ from ?_)
  refine zy_40 rfl (show zyR _ _ _ _ [some (.ref (43 + 3)), some (.int x1)] [.long (x1).toInt64] _ _ from ?_)
  refine zy_36 rfl rfl (show zyR _ _ _ _ [some (.ref (43 + 3)), some (.int x1)] [.long (0 : Int64), .long (x1).toInt64] _ _ from ?_)
  refine zy_36c rfl rfl (show zyR _ _ _ _ [some (.ref (43 + 3)), some (.int x1)] [.long (4095 : Int64), .long (0 : Int64), .long (x1).toInt64] _ _ from ?_)
  obtain ⟨p1, hp1, h⟩ := zy_bind h
  refine zy_60 (as := [.long (x1).toInt64, .long (0 : Int64), .long (4095 : Int64)]) (rest := []) (L := [some (.long (x1).toInt64), none, some (.long (0 : Int64)), none, some (.long (4095 : Int64)), none]) (d' := 1) rfl rfl (Nat.le_of_ble_eq_true rfl) (Nat.le_of_ble_eq_true rfl) rfl (Nat.le_of_ble_eq_true rfl) rfl rfl (zyC179 hp1) ?_
  show zyR _ _ _ _ [some (.ref (43 + 3)), some (.int x1)] [.int p1.1] _ _
  refine zy_24_1 rfl (fun b4 => (show zyR _ _ _ _ [some (.ref (43 + 3)), some (.int x1)] [] _ _ from ?_)) (fun b4 => (show zyR _ _ _ _ [some (.ref (43 + 3)), some (.int x1)] [] _ _ from ?_))
  · replace h := zy_ifp h b4
    refine zy_0 rfl rfl (show zyR _ _ _ _ [some (.ref (43 + 3)), some (.int x1)] [.ref (43 + 3)] _ _ from ?_)
    refine zy_1 (c := 43) rfl rfl rfl (show zyR _ _ _ _ [some (.ref (43 + 3)), some (.int x1)] [.int (p1.2.1 43 6)] _ _ from ?_)
    refine zy_3 rfl rfl (show zyR _ _ _ _ [some (.ref (43 + 3)), some (.int x1)] [.int (8 : Int32), .int (p1.2.1 43 6)] _ _ from ?_)
    refine zy_25_1 rfl (fun b3 => (show zyR _ _ _ _ [some (.ref (43 + 3)), some (.int x1)] [] _ _ from ?_)) (fun b3 => (show zyR _ _ _ _ [some (.ref (43 + 3)), some (.int x1)] [] _ _ from ?_))
    · replace h := zy_ifp h b3
      refine zy_0 rfl rfl (show zyR _ _ _ _ [some (.ref (43 + 3)), some (.int x1)] [.ref (43 + 3)] _ _ from ?_)
      refine zy_2 rfl rfl (show zyR _ _ _ _ [some (.ref (43 + 3)), some (.int x1)] [.int x1, .ref (43 + 3)] _ _ from ?_)
      refine zy_3 rfl rfl (show zyR _ _ _ _ [some (.ref (43 + 3)), some (.int x1)] [.int (1 : Int32), .int x1, .ref (43 + 3)] _ _ from ?_)
      obtain ⟨p2, hp2, h⟩ := zy_bind h
      refine zy_5 (c := 43) (as := [.int x1, .int (1 : Int32)]) (rest := []) (L := [some (.ref (43 + 3)), some (.int x1), some (.int (1 : Int32))]) (d' := 1) rfl rfl rfl (Nat.le_of_ble_eq_true rfl) (Nat.le_of_ble_eq_true rfl) rfl (Nat.le_of_ble_eq_true rfl) rfl rfl (zyC180 hp2) ?_
      show zyR _ _ _ _ [some (.ref (43 + 3)), some (.int x1)] [] _ _
      refine zy_0 rfl rfl (show zyR _ _ _ _ [some (.ref (43 + 3)), some (.int x1)] [.ref (43 + 3)] _ _ from ?_)
      refine zy_1 (c := 43) rfl rfl rfl (show zyR _ _ _ _ [some (.ref (43 + 3)), some (.int x1)] [.int (p2.2.1 43 6)] _ _ from ?_)
      refine zy_3 rfl rfl (show zyR _ _ _ _ [some (.ref (43 + 3)), some (.int x1)] [.int (1 : Int32), .int (p2.2.1 43 6)] _ _ from ?_)
      refine zy_11 rfl (show zyR _ _ _ _ [some (.ref (43 + 3)), some (.int x1)] [.int ((p2.2.1 43 6) - (1 : Int32))] _ _ from ?_)
      obtain ⟨rfl, rfl⟩ := zy_pi h
      exact zy_4 rfl ⟨rfl, rfl⟩
    · replace h := zy_ifn h b3
      refine zy_3 rfl rfl (show zyR _ _ _ _ [some (.ref (43 + 3)), some (.int x1)] [.int (-3 : Int32)] _ _ from ?_)
      obtain ⟨rfl, rfl⟩ := zy_pi h
      exact zy_4 rfl ⟨rfl, rfl⟩
  · replace h := zy_ifn h b4
    refine zy_3 rfl rfl (show zyR _ _ _ _ [some (.ref (43 + 3)), some (.int x1)] [.int (-1 : Int32)] _ _ from ?_)
    obtain ⟨rfl, rfl⟩ := zy_pi h
    exact zy_4 rfl ⟨rfl, rfl⟩
/-! NineOpinionsModel.isShelf(I)Z -/
noncomputable def zyF182   (x0 : Int32) (s : zy_S) : Option (Int32 × zy_S) :=
(zyF179 (x0).toInt64 (0 : Int64) (5 : Int64) s).bind fun p1 =>
if p1.1 = 0 ∨ p1.1 = 1 then
some (p1.1, p1.2)
else none
theorem zyC182 {X : zx_X}     {x0 : Int32} {s : zy_S} {r : Int32} {s' : zy_S}  (h : zyF182 x0 s = some (r, s')) : zyR X 2 182 0 [some (.int x0)] [] s (zyE (some (.int r)) s') := by
  unfold zyF182 at h
  refine zy_2 rfl rfl (show zyR _ _ _ _ [some (.int x0)] [.int x0] _ _ from ?_)
  refine zy_40 rfl (show zyR _ _ _ _ [some (.int x0)] [.long (x0).toInt64] _ _ from ?_)
  refine zy_36 rfl rfl (show zyR _ _ _ _ [some (.int x0)] [.long (0 : Int64), .long (x0).toInt64] _ _ from ?_)
  refine zy_36c rfl rfl (show zyR _ _ _ _ [some (.int x0)] [.long (5 : Int64), .long (0 : Int64), .long (x0).toInt64] _ _ from ?_)
  obtain ⟨p1, hp1, h⟩ := zy_bind h
  refine zy_60 (as := [.long (x0).toInt64, .long (0 : Int64), .long (5 : Int64)]) (rest := []) (L := [some (.long (x0).toInt64), none, some (.long (0 : Int64)), none, some (.long (5 : Int64)), none]) (d' := 1) rfl rfl (Nat.le_of_ble_eq_true rfl) (Nat.le_of_ble_eq_true rfl) rfl (Nat.le_of_ble_eq_true rfl) rfl rfl (zyC179 hp1) ?_
  show zyR _ _ _ _ [some (.int x0)] [.int p1.1] _ _
  obtain ⟨c2, h⟩ := zy_if h
  cases h
  exact zy_4b rfl ⟨rfl, rfl⟩ c2
/-! NineOpinionsModel.people(III)I -/
noncomputable def zyF181_204  (k69 : Int32 → Int32 → Int32 → Int32 → Int32 → zy_S → Option (Int32 × zy_S)) (x1 : Int32) (x2 : Int32) (x3 : Int32) (x4 : Int32) (x5 : Int32) (s : zy_S) : Option (Int32 × zy_S) :=
k69 x1 x2 x3 x4 x5 s
theorem zyC181_204 {X : zx_X}  {k69 : Int32 → Int32 → Int32 → Int32 → Int32 → zy_S → Option (Int32 × zy_S)}  (hk69 : ∀ (x1 : Int32) (x2 : Int32) (x3 : Int32) (x4 : Int32) (x5 : Int32) (s : zy_S) (r : Int32) (s' : zy_S), k69 x1 x2 x3 x4 x5 s = some (r, s') → zyR X 3 181 69 [some (.ref (43 + 3)), some (.int x1), some (.int x2), some (.int x3), some (.int x4), some (.int x5), none] [] s (zyE (some (.int r)) s')) {x1 : Int32} {x2 : Int32} {x3 : Int32} {x4 : Int32} {x5 : Int32} {s : zy_S} {r : Int32} {s' : zy_S}  (h : zyF181_204 k69 x1 x2 x3 x4 x5 s = some (r, s')) : zyR X 3 181 204 [some (.ref (43 + 3)), some (.int x1), some (.int x2), some (.int x3), some (.int x4), some (.int x5), none] [] s (zyE (some (.int r)) s') := by
  unfold zyF181_204 at h
  refine zy_6 rfl (show zyR _ _ _ _ [some (.ref (43 + 3)), some (.int x1), some (.int x2), some (.int x3), some (.int x4), some (.int x5), none] [] _ _ from ?_)
  exact zy_sub (show zy_le [some (.ref (43 + 3)), some (.int x1), some (.int x2), some (.int x3), some (.int x4), some (.int x5), none] [some (.ref (43 + 3)), some (.int x1), some (.int x2), some (.int x3), some (.int x4), some (.int x5), none] from ⟨rfl, ⟨rfl, ⟨rfl, ⟨rfl, ⟨rfl, ⟨rfl, trivial⟩⟩⟩⟩⟩⟩) (hk69 x1 x2 x3 x4 x5 s _ _ h)
noncomputable def zyF181_172  (k69 : Int32 → Int32 → Int32 → Int32 → Int32 → zy_S → Option (Int32 × zy_S)) (x1 : Int32) (x2 : Int32) (x3 : Int32) (x4 : Int32) (x6 : Int32) (y0 : Int32) (s : zy_S) : Option (Int32 × zy_S) :=
if y0 = 0 then
zyF181_204 k69 x1 x2 x3 x4 y0 s
else
if zy_in x6 360 then
if zy_in (x6 + (1 : Int32)) 360 then
(zyF180 ((s.2.1 62 (x6).toNatClampNeg)).toInt32 ((s.2.1 62 ((x6 + (1 : Int32))).toNatClampNeg)).toInt32 s).bind fun p3 =>
zyF181_204 k69 x1 x2 x3 (x4 + (1 : Int32)) y0 p3.2
else none
else none
theorem zyC181_172 {X : zx_X}  {k69 : Int32 → Int32 → Int32 → Int32 → Int32 → zy_S → Option (Int32 × zy_S)}  (hk69 : ∀ (x1 : Int32) (x2 : Int32) (x3 : Int32) (x4 : Int32) (x5 : Int32) (s : zy_S) (r : Int32) (s' : zy_S), k69 x1 x2 x3 x4 x5 s = some (r, s') → zyR X 3 181 69 [some (.ref (43 + 3)), some (.int x1), some (.int x2), some (.int x3), some (.int x4), some (.int x5), none] [] s (zyE (some (.int r)) s')) {x1 : Int32} {x2 : Int32} {x3 : Int32} {x4 : Int32} {x6 : Int32} {y0 : Int32} {s : zy_S} {r : Int32} {s' : zy_S}  (h : zyF181_172 k69 x1 x2 x3 x4 x6 y0 s = some (r, s')) : zyR X 3 181 172 [some (.ref (43 + 3)), some (.int x1), some (.int x2), some (.int x3), some (.int x4), none, some (.int x6)] [.int y0] s (zyE (some (.int r)) s') := by
  unfold zyF181_172 at h
  refine zy_23 rfl rfl (show zyR _ _ _ _ [some (.ref (43 + 3)), some (.int x1), some (.int x2), some (.int x3), some (.int x4), some (.int y0), some (.int x6)] [] _ _ from ?_)
  refine zy_2 rfl rfl (show zyR _ _ _ _ [some (.ref (43 + 3)), some (.int x1), some (.int x2), some (.int x3), some (.int x4), some (.int y0), some (.int x6)] [.int y0] _ _ from ?_)
  refine zy_24_0 rfl (fun b4 => (show zyR _ _ _ _ [some (.ref (43 + 3)), some (.int x1), some (.int x2), some (.int x3), some (.int x4), some (.int y0), some (.int x6)] [] _ _ from ?_)) (fun b4 => (show zyR _ _ _ _ [some (.ref (43 + 3)), some (.int x1), some (.int x2), some (.int x3), some (.int x4), some (.int y0), some (.int x6)] [] _ _ from ?_))
  · replace h := zy_ifp h b4
    exact zy_sub (show zy_le [some (.ref (43 + 3)), some (.int x1), some (.int x2), some (.int x3), some (.int x4), some (.int y0), none] [some (.ref (43 + 3)), some (.int x1), some (.int x2), some (.int x3), some (.int x4), some (.int y0), some (.int x6)] from ⟨rfl, ⟨rfl, ⟨rfl, ⟨rfl, ⟨rfl, ⟨rfl, trivial⟩⟩⟩⟩⟩⟩) (zyC181_204 hk69 h)
  · replace h := zy_ifn h b4
    refine zy_0 rfl rfl (show zyR _ _ _ _ [some (.ref (43 + 3)), some (.int x1), some (.int x2), some (.int x3), some (.int x4), some (.int y0), some (.int x6)] [.ref (43 + 3)] _ _ from ?_)
    refine zy_0 rfl rfl (show zyR _ _ _ _ [some (.ref (43 + 3)), some (.int x1), some (.int x2), some (.int x3), some (.int x4), some (.int y0), some (.int x6)] [.ref (43 + 3), .ref (43 + 3)] _ _ from ?_)
    refine zy_1r (c := 43) rfl rfl rfl (show zyR _ _ _ _ [some (.ref (43 + 3)), some (.int x1), some (.int x2), some (.int x3), some (.int x4), some (.int y0), some (.int x6)] [.ref (62 + 3), .ref (43 + 3)] _ _ from ?_)
    refine zy_2 rfl rfl (show zyR _ _ _ _ [some (.ref (43 + 3)), some (.int x1), some (.int x2), some (.int x3), some (.int x4), some (.int y0), some (.int x6)] [.int x6, .ref (62 + 3), .ref (43 + 3)] _ _ from ?_)
    obtain ⟨c1, h⟩ := zy_if h
    refine zy_30 (c := 62) rfl rfl c1 (show zyR _ _ _ _ [some (.ref (43 + 3)), some (.int x1), some (.int x2), some (.int x3), some (.int x4), some (.int y0), some (.int x6)] [.long (s.2.1 62 (x6).toNatClampNeg), .ref (43 + 3)] _ _ from ?_)
    refine zy_41 rfl (show zyR _ _ _ _ [some (.ref (43 + 3)), some (.int x1), some (.int x2), some (.int x3), some (.int x4), some (.int y0), some (.int x6)] [.int ((s.2.1 62 (x6).toNatClampNeg)).toInt32, .ref (43 + 3)] _ _ from ?_)
    refine zy_0 rfl rfl (show zyR _ _ _ _ [some (.ref (43 + 3)), some (.int x1), some (.int x2), some (.int x3), some (.int x4), some (.int y0), some (.int x6)] [.ref (43 + 3), .int ((s.2.1 62 (x6).toNatClampNeg)).toInt32, .ref (43 + 3)] _ _ from ?_)
    refine zy_1r (c := 43) rfl rfl rfl (show zyR _ _ _ _ [some (.ref (43 + 3)), some (.int x1), some (.int x2), some (.int x3), some (.int x4), some (.int y0), some (.int x6)] [.ref (62 + 3), .int ((s.2.1 62 (x6).toNatClampNeg)).toInt32, .ref (43 + 3)] _ _ from ?_)
    refine zy_2 rfl rfl (show zyR _ _ _ _ [some (.ref (43 + 3)), some (.int x1), some (.int x2), some (.int x3), some (.int x4), some (.int y0), some (.int x6)] [.int x6, .ref (62 + 3), .int ((s.2.1 62 (x6).toNatClampNeg)).toInt32, .ref (43 + 3)] _ _ from ?_)
    refine zy_3 rfl rfl (show zyR _ _ _ _ [some (.ref (43 + 3)), some (.int x1), some (.int x2), some (.int x3), some (.int x4), some (.int y0), some (.int x6)] [.int (1 : Int32), .int x6, .ref (62 + 3), .int ((s.2.1 62 (x6).toNatClampNeg)).toInt32, .ref (43 + 3)] _ _ from ?_)
    refine zy_10 rfl (show zyR _ _ _ _ [some (.ref (43 + 3)), some (.int x1), some (.int x2), some (.int x3), some (.int x4), some (.int y0), some (.int x6)] [.int (x6 + (1 : Int32)), .ref (62 + 3), .int ((s.2.1 62 (x6).toNatClampNeg)).toInt32, .ref (43 + 3)] _ _ from ?_)
    obtain ⟨c2, h⟩ := zy_if h
    refine zy_30 (c := 62) rfl rfl c2 (show zyR _ _ _ _ [some (.ref (43 + 3)), some (.int x1), some (.int x2), some (.int x3), some (.int x4), some (.int y0), some (.int x6)] [.long (s.2.1 62 ((x6 + (1 : Int32))).toNatClampNeg), .int ((s.2.1 62 (x6).toNatClampNeg)).toInt32, .ref (43 + 3)] _ _ from ?_)
    refine zy_41 rfl (show zyR _ _ _ _ [some (.ref (43 + 3)), some (.int x1), some (.int x2), some (.int x3), some (.int x4), some (.int y0), some (.int x6)] [.int ((s.2.1 62 ((x6 + (1 : Int32))).toNatClampNeg)).toInt32, .int ((s.2.1 62 (x6).toNatClampNeg)).toInt32, .ref (43 + 3)] _ _ from ?_)
    obtain ⟨p3, hp3, h⟩ := zy_bind h
    refine zy_5 (c := 43) (as := [.int ((s.2.1 62 (x6).toNatClampNeg)).toInt32, .int ((s.2.1 62 ((x6 + (1 : Int32))).toNatClampNeg)).toInt32]) (rest := []) (L := [some (.ref (43 + 3)), some (.int ((s.2.1 62 (x6).toNatClampNeg)).toInt32), some (.int ((s.2.1 62 ((x6 + (1 : Int32))).toNatClampNeg)).toInt32)]) (d' := 1) rfl rfl rfl (Nat.le_of_ble_eq_true rfl) (Nat.le_of_ble_eq_true rfl) rfl (Nat.le_of_ble_eq_true rfl) rfl rfl (zyC180 hp3) ?_
    show zyR _ _ _ _ [some (.ref (43 + 3)), some (.int x1), some (.int x2), some (.int x3), some (.int x4), some (.int y0), some (.int x6)] [] _ _
    refine zy_22 rfl rfl rfl rfl (show zyR _ _ _ _ [some (.ref (43 + 3)), some (.int x1), some (.int x2), some (.int x3), some (.int (x4 + (1 : Int32))), some (.int y0), some (.int x6)] [] _ _ from ?_)
    exact zy_sub (show zy_le [some (.ref (43 + 3)), some (.int x1), some (.int x2), some (.int x3), some (.int (x4 + (1 : Int32))), some (.int y0), none] [some (.ref (43 + 3)), some (.int x1), some (.int x2), some (.int x3), some (.int (x4 + (1 : Int32))), some (.int y0), some (.int x6)] from ⟨rfl, ⟨rfl, ⟨rfl, ⟨rfl, ⟨rfl, ⟨rfl, trivial⟩⟩⟩⟩⟩⟩) (zyC181_204 hk69 h)
noncomputable def zyF181_171  (k69 : Int32 → Int32 → Int32 → Int32 → Int32 → zy_S → Option (Int32 × zy_S)) (x1 : Int32) (x2 : Int32) (x3 : Int32) (x4 : Int32) (x6 : Int32) (s : zy_S) : Option (Int32 × zy_S) :=
zyF181_172 k69 x1 x2 x3 x4 x6 (0 : Int32) s
theorem zyC181_171 {X : zx_X}  {k69 : Int32 → Int32 → Int32 → Int32 → Int32 → zy_S → Option (Int32 × zy_S)}  (hk69 : ∀ (x1 : Int32) (x2 : Int32) (x3 : Int32) (x4 : Int32) (x5 : Int32) (s : zy_S) (r : Int32) (s' : zy_S), k69 x1 x2 x3 x4 x5 s = some (r, s') → zyR X 3 181 69 [some (.ref (43 + 3)), some (.int x1), some (.int x2), some (.int x3), some (.int x4), some (.int x5), none] [] s (zyE (some (.int r)) s')) {x1 : Int32} {x2 : Int32} {x3 : Int32} {x4 : Int32} {x6 : Int32} {s : zy_S} {r : Int32} {s' : zy_S}  (h : zyF181_171 k69 x1 x2 x3 x4 x6 s = some (r, s')) : zyR X 3 181 171 [some (.ref (43 + 3)), some (.int x1), some (.int x2), some (.int x3), some (.int x4), none, some (.int x6)] [] s (zyE (some (.int r)) s') := by
  unfold zyF181_171 at h
  refine zy_3 rfl rfl (show zyR _ _ _ _ [some (.ref (43 + 3)), some (.int x1), some (.int x2), some (.int x3), some (.int x4), none, some (.int x6)] [.int (0 : Int32)] _ _ from ?_)
  exact zy_sub (show zy_le [some (.ref (43 + 3)), some (.int x1), some (.int x2), some (.int x3), some (.int x4), none, some (.int x6)] [some (.ref (43 + 3)), some (.int x1), some (.int x2), some (.int x3), some (.int x4), none, some (.int x6)] from ⟨rfl, ⟨rfl, ⟨rfl, ⟨rfl, ⟨rfl, ⟨rfl, trivial⟩⟩⟩⟩⟩⟩) (zyC181_172 hk69 h)
noncomputable def zyF181_111  (k69 : Int32 → Int32 → Int32 → Int32 → Int32 → zy_S → Option (Int32 × zy_S)) (x1 : Int32) (x2 : Int32) (x3 : Int32) (x4 : Int32) (y0 : Int32) (s : zy_S) : Option (Int32 × zy_S) :=
if y0 = 0 then
zyF181_171 k69 x1 x2 x3 x4 ((((60 : Int32) * x1) + x2) + ((2 : Int32) * x4)) s
else
if zy_in ((((60 : Int32) * x1) + x2) + ((2 : Int32) * x4)) 360 then
(zyF179 (s.2.1 62 (((((60 : Int32) * x1) + x2) + ((2 : Int32) * x4))).toNatClampNeg) (0 : Int64) (4095 : Int64) s).bind fun p6 =>
if p6.1 = 0 then
zyF181_171 k69 x1 x2 x3 x4 ((((60 : Int32) * x1) + x2) + ((2 : Int32) * x4)) p6.2
else
if zy_in (((((60 : Int32) * x1) + x2) + ((2 : Int32) * x4)) + (1 : Int32)) 360 then
(zyF179 (p6.2.2.1 62 ((((((60 : Int32) * x1) + x2) + ((2 : Int32) * x4)) + (1 : Int32))).toNatClampNeg) (0 : Int64) (9 : Int64) p6.2).bind fun p8 =>
if p8.1 = 0 then
zyF181_171 k69 x1 x2 x3 x4 ((((60 : Int32) * x1) + x2) + ((2 : Int32) * x4)) p8.2
else
zyF181_172 k69 x1 x2 x3 x4 ((((60 : Int32) * x1) + x2) + ((2 : Int32) * x4)) (1 : Int32) p8.2
else none
else none
theorem zyC181_111 {X : zx_X}  {k69 : Int32 → Int32 → Int32 → Int32 → Int32 → zy_S → Option (Int32 × zy_S)}  (hk69 : ∀ (x1 : Int32) (x2 : Int32) (x3 : Int32) (x4 : Int32) (x5 : Int32) (s : zy_S) (r : Int32) (s' : zy_S), k69 x1 x2 x3 x4 x5 s = some (r, s') → zyR X 3 181 69 [some (.ref (43 + 3)), some (.int x1), some (.int x2), some (.int x3), some (.int x4), some (.int x5), none] [] s (zyE (some (.int r)) s')) {x1 : Int32} {x2 : Int32} {x3 : Int32} {x4 : Int32} {y0 : Int32} {s : zy_S} {r : Int32} {s' : zy_S}  (h : zyF181_111 k69 x1 x2 x3 x4 y0 s = some (r, s')) : zyR X 3 181 111 [some (.ref (43 + 3)), some (.int x1), some (.int x2), some (.int x3), some (.int x4), none, none] [.int y0] s (zyE (some (.int r)) s') := by
  unfold zyF181_111 at h
  refine zy_23 rfl rfl (show zyR _ _ _ _ [some (.ref (43 + 3)), some (.int x1), some (.int x2), some (.int x3), some (.int x4), some (.int y0), none] [] _ _ from ?_)
  refine zy_3 rfl rfl (show zyR _ _ _ _ [some (.ref (43 + 3)), some (.int x1), some (.int x2), some (.int x3), some (.int x4), some (.int y0), none] [.int (60 : Int32)] _ _ from ?_)
  refine zy_2 rfl rfl (show zyR _ _ _ _ [some (.ref (43 + 3)), some (.int x1), some (.int x2), some (.int x3), some (.int x4), some (.int y0), none] [.int x1, .int (60 : Int32)] _ _ from ?_)
  refine zy_12 rfl (show zyR _ _ _ _ [some (.ref (43 + 3)), some (.int x1), some (.int x2), some (.int x3), some (.int x4), some (.int y0), none] [.int ((60 : Int32) * x1)] _ _ from ?_)
  refine zy_2 rfl rfl (show zyR _ _ _ _ [some (.ref (43 + 3)), some (.int x1), some (.int x2), some (.int x3), some (.int x4), some (.int y0), none] [.int x2, .int ((60 : Int32) * x1)] _ _ from ?_)
  refine zy_10 rfl (show zyR _ _ _ _ [some (.ref (43 + 3)), some (.int x1), some (.int x2), some (.int x3), some (.int x4), some (.int y0), none] [.int (((60 : Int32) * x1) + x2)] _ _ from ?_)
  refine zy_3 rfl rfl (show zyR _ _ _ _ [some (.ref (43 + 3)), some (.int x1), some (.int x2), some (.int x3), some (.int x4), some (.int y0), none] [.int (2 : Int32), .int (((60 : Int32) * x1) + x2)] _ _ from ?_)
  refine zy_2 rfl rfl (show zyR _ _ _ _ [some (.ref (43 + 3)), some (.int x1), some (.int x2), some (.int x3), some (.int x4), some (.int y0), none] [.int x4, .int (2 : Int32), .int (((60 : Int32) * x1) + x2)] _ _ from ?_)
  refine zy_12 rfl (show zyR _ _ _ _ [some (.ref (43 + 3)), some (.int x1), some (.int x2), some (.int x3), some (.int x4), some (.int y0), none] [.int ((2 : Int32) * x4), .int (((60 : Int32) * x1) + x2)] _ _ from ?_)
  refine zy_10 rfl (show zyR _ _ _ _ [some (.ref (43 + 3)), some (.int x1), some (.int x2), some (.int x3), some (.int x4), some (.int y0), none] [.int ((((60 : Int32) * x1) + x2) + ((2 : Int32) * x4))] _ _ from ?_)
  refine zy_23 rfl rfl (show zyR _ _ _ _ [some (.ref (43 + 3)), some (.int x1), some (.int x2), some (.int x3), some (.int x4), some (.int y0), some (.int ((((60 : Int32) * x1) + x2) + ((2 : Int32) * x4)))] [] _ _ from ?_)
  refine zy_2 rfl rfl (show zyR _ _ _ _ [some (.ref (43 + 3)), some (.int x1), some (.int x2), some (.int x3), some (.int x4), some (.int y0), some (.int ((((60 : Int32) * x1) + x2) + ((2 : Int32) * x4)))] [.int y0] _ _ from ?_)
  refine zy_24_0 rfl (fun b11 => (show zyR _ _ _ _ [some (.ref (43 + 3)), some (.int x1), some (.int x2), some (.int x3), some (.int x4), some (.int y0), some (.int ((((60 : Int32) * x1) + x2) + ((2 : Int32) * x4)))] [] _ _ from ?_)) (fun b11 => (show zyR _ _ _ _ [some (.ref (43 + 3)), some (.int x1), some (.int x2), some (.int x3), some (.int x4), some (.int y0), some (.int ((((60 : Int32) * x1) + x2) + ((2 : Int32) * x4)))] [] _ _ from ?_))
  · replace h := zy_ifp h b11
    exact zy_sub (show zy_le [some (.ref (43 + 3)), some (.int x1), some (.int x2), some (.int x3), some (.int x4), none, some (.int ((((60 : Int32) * x1) + x2) + ((2 : Int32) * x4)))] [some (.ref (43 + 3)), some (.int x1), some (.int x2), some (.int x3), some (.int x4), some (.int y0), some (.int ((((60 : Int32) * x1) + x2) + ((2 : Int32) * x4)))] from ⟨rfl, ⟨rfl, ⟨rfl, ⟨rfl, ⟨rfl, ⟨rfl, trivial⟩⟩⟩⟩⟩⟩) (zyC181_171 hk69 h)
  · replace h := zy_ifn h b11
    refine zy_0 rfl rfl (show zyR _ _ _ _ [some (.ref (43 + 3)), some (.int x1), some (.int x2), some (.int x3), some (.int x4), some (.int y0), some (.int ((((60 : Int32) * x1) + x2) + ((2 : Int32) * x4)))] [.ref (43 + 3)] _ _ from ?_)
    refine zy_1r (c := 43) rfl rfl rfl (show zyR _ _ _ _ [some (.ref (43 + 3)), some (.int x1), some (.int x2), some (.int x3), some (.int x4), some (.int y0), some (.int ((((60 : Int32) * x1) + x2) + ((2 : Int32) * x4)))] [.ref (62 + 3)] _ _ from ?_)
    refine zy_2 rfl rfl (show zyR _ _ _ _ [some (.ref (43 + 3)), some (.int x1), some (.int x2), some (.int x3), some (.int x4), some (.int y0), some (.int ((((60 : Int32) * x1) + x2) + ((2 : Int32) * x4)))] [.int ((((60 : Int32) * x1) + x2) + ((2 : Int32) * x4)), .ref (62 + 3)] _ _ from ?_)
    obtain ⟨c5, h⟩ := zy_if h
    refine zy_30 (c := 62) rfl rfl c5 (show zyR _ _ _ _ [some (.ref (43 + 3)), some (.int x1), some (.int x2), some (.int x3), some (.int x4), some (.int y0), some (.int ((((60 : Int32) * x1) + x2) + ((2 : Int32) * x4)))] [.long (s.2.1 62 (((((60 : Int32) * x1) + x2) + ((2 : Int32) * x4))).toNatClampNeg)] _ _ from ?_)
    refine zy_36 rfl rfl (show zyR _ _ _ _ [some (.ref (43 + 3)), some (.int x1), some (.int x2), some (.int x3), some (.int x4), some (.int y0), some (.int ((((60 : Int32) * x1) + x2) + ((2 : Int32) * x4)))] [.long (0 : Int64), .long (s.2.1 62 (((((60 : Int32) * x1) + x2) + ((2 : Int32) * x4))).toNatClampNeg)] _ _ from ?_)
    refine zy_36c rfl rfl (show zyR _ _ _ _ [some (.ref (43 + 3)), some (.int x1), some (.int x2), some (.int x3), some (.int x4), some (.int y0), some (.int ((((60 : Int32) * x1) + x2) + ((2 : Int32) * x4)))] [.long (4095 : Int64), .long (0 : Int64), .long (s.2.1 62 (((((60 : Int32) * x1) + x2) + ((2 : Int32) * x4))).toNatClampNeg)] _ _ from ?_)
    obtain ⟨p6, hp6, h⟩ := zy_bind h
    refine zy_60 (as := [.long (s.2.1 62 (((((60 : Int32) * x1) + x2) + ((2 : Int32) * x4))).toNatClampNeg), .long (0 : Int64), .long (4095 : Int64)]) (rest := []) (L := [some (.long (s.2.1 62 (((((60 : Int32) * x1) + x2) + ((2 : Int32) * x4))).toNatClampNeg)), none, some (.long (0 : Int64)), none, some (.long (4095 : Int64)), none]) (d' := 1) rfl rfl (Nat.le_of_ble_eq_true rfl) (Nat.le_of_ble_eq_true rfl) rfl (Nat.le_of_ble_eq_true rfl) rfl rfl (zyC179 hp6) ?_
    show zyR _ _ _ _ [some (.ref (43 + 3)), some (.int x1), some (.int x2), some (.int x3), some (.int x4), some (.int y0), some (.int ((((60 : Int32) * x1) + x2) + ((2 : Int32) * x4)))] [.int p6.1] _ _
    refine zy_24_0 rfl (fun b10 => (show zyR _ _ _ _ [some (.ref (43 + 3)), some (.int x1), some (.int x2), some (.int x3), some (.int x4), some (.int y0), some (.int ((((60 : Int32) * x1) + x2) + ((2 : Int32) * x4)))] [] _ _ from ?_)) (fun b10 => (show zyR _ _ _ _ [some (.ref (43 + 3)), some (.int x1), some (.int x2), some (.int x3), some (.int x4), some (.int y0), some (.int ((((60 : Int32) * x1) + x2) + ((2 : Int32) * x4)))] [] _ _ from ?_))
    · replace h := zy_ifp h b10
      exact zy_sub (show zy_le [some (.ref (43 + 3)), some (.int x1), some (.int x2), some (.int x3), some (.int x4), none, some (.int ((((60 : Int32) * x1) + x2) + ((2 : Int32) * x4)))] [some (.ref (43 + 3)), some (.int x1), some (.int x2), some (.int x3), some (.int x4), some (.int y0), some (.int ((((60 : Int32) * x1) + x2) + ((2 : Int32) * x4)))] from ⟨rfl, ⟨rfl, ⟨rfl, ⟨rfl, ⟨rfl, ⟨rfl, trivial⟩⟩⟩⟩⟩⟩) (zyC181_171 hk69 h)
    · replace h := zy_ifn h b10
      refine zy_0 rfl rfl (show zyR _ _ _ _ [some (.ref (43 + 3)), some (.int x1), some (.int x2), some (.int x3), some (.int x4), some (.int y0), some (.int ((((60 : Int32) * x1) + x2) + ((2 : Int32) * x4)))] [.ref (43 + 3)] _ _ from ?_)
      refine zy_1r (c := 43) rfl rfl rfl (show zyR _ _ _ _ [some (.ref (43 + 3)), some (.int x1), some (.int x2), some (.int x3), some (.int x4), some (.int y0), some (.int ((((60 : Int32) * x1) + x2) + ((2 : Int32) * x4)))] [.ref (62 + 3)] _ _ from ?_)
      refine zy_2 rfl rfl (show zyR _ _ _ _ [some (.ref (43 + 3)), some (.int x1), some (.int x2), some (.int x3), some (.int x4), some (.int y0), some (.int ((((60 : Int32) * x1) + x2) + ((2 : Int32) * x4)))] [.int ((((60 : Int32) * x1) + x2) + ((2 : Int32) * x4)), .ref (62 + 3)] _ _ from ?_)
      refine zy_3 rfl rfl (show zyR _ _ _ _ [some (.ref (43 + 3)), some (.int x1), some (.int x2), some (.int x3), some (.int x4), some (.int y0), some (.int ((((60 : Int32) * x1) + x2) + ((2 : Int32) * x4)))] [.int (1 : Int32), .int ((((60 : Int32) * x1) + x2) + ((2 : Int32) * x4)), .ref (62 + 3)] _ _ from ?_)
      refine zy_10 rfl (show zyR _ _ _ _ [some (.ref (43 + 3)), some (.int x1), some (.int x2), some (.int x3), some (.int x4), some (.int y0), some (.int ((((60 : Int32) * x1) + x2) + ((2 : Int32) * x4)))] [.int (((((60 : Int32) * x1) + x2) + ((2 : Int32) * x4)) + (1 : Int32)), .ref (62 + 3)] _ _ from ?_)
      obtain ⟨c7, h⟩ := zy_if h
      refine zy_30 (c := 62) rfl rfl c7 (show zyR _ _ _ _ [some (.ref (43 + 3)), some (.int x1), some (.int x2), some (.int x3), some (.int x4), some (.int y0), some (.int ((((60 : Int32) * x1) + x2) + ((2 : Int32) * x4)))] [.long (p6.2.2.1 62 ((((((60 : Int32) * x1) + x2) + ((2 : Int32) * x4)) + (1 : Int32))).toNatClampNeg)] _ _ from ?_)
      refine zy_36 rfl rfl (show zyR _ _ _ _ [some (.ref (43 + 3)), some (.int x1), some (.int x2), some (.int x3), some (.int x4), some (.int y0), some (.int ((((60 : Int32) * x1) + x2) + ((2 : Int32) * x4)))] [.long (0 : Int64), .long (p6.2.2.1 62 ((((((60 : Int32) * x1) + x2) + ((2 : Int32) * x4)) + (1 : Int32))).toNatClampNeg)] _ _ from ?_)
      refine zy_36c rfl rfl (show zyR _ _ _ _ [some (.ref (43 + 3)), some (.int x1), some (.int x2), some (.int x3), some (.int x4), some (.int y0), some (.int ((((60 : Int32) * x1) + x2) + ((2 : Int32) * x4)))] [.long (9 : Int64), .long (0 : Int64), .long (p6.2.2.1 62 ((((((60 : Int32) * x1) + x2) + ((2 : Int32) * x4)) + (1 : Int32))).toNatClampNeg)] _ _ from ?_)
      obtain ⟨p8, hp8, h⟩ := zy_bind h
      refine zy_60 (as := [.long (p6.2.2.1 62 ((((((60 : Int32) * x1) + x2) + ((2 : Int32) * x4)) + (1 : Int32))).toNatClampNeg), .long (0 : Int64), .long (9 : Int64)]) (rest := []) (L := [some (.long (p6.2.2.1 62 ((((((60 : Int32) * x1) + x2) + ((2 : Int32) * x4)) + (1 : Int32))).toNatClampNeg)), none, some (.long (0 : Int64)), none, some (.long (9 : Int64)), none]) (d' := 1) rfl rfl (Nat.le_of_ble_eq_true rfl) (Nat.le_of_ble_eq_true rfl) rfl (Nat.le_of_ble_eq_true rfl) rfl rfl (zyC179 hp8) ?_
      show zyR _ _ _ _ [some (.ref (43 + 3)), some (.int x1), some (.int x2), some (.int x3), some (.int x4), some (.int y0), some (.int ((((60 : Int32) * x1) + x2) + ((2 : Int32) * x4)))] [.int p8.1] _ _
      refine zy_24_0 rfl (fun b9 => (show zyR _ _ _ _ [some (.ref (43 + 3)), some (.int x1), some (.int x2), some (.int x3), some (.int x4), some (.int y0), some (.int ((((60 : Int32) * x1) + x2) + ((2 : Int32) * x4)))] [] _ _ from ?_)) (fun b9 => (show zyR _ _ _ _ [some (.ref (43 + 3)), some (.int x1), some (.int x2), some (.int x3), some (.int x4), some (.int y0), some (.int ((((60 : Int32) * x1) + x2) + ((2 : Int32) * x4)))] [] _ _ from ?_))
      · replace h := zy_ifp h b9
        exact zy_sub (show zy_le [some (.ref (43 + 3)), some (.int x1), some (.int x2), some (.int x3), some (.int x4), none, some (.int ((((60 : Int32) * x1) + x2) + ((2 : Int32) * x4)))] [some (.ref (43 + 3)), some (.int x1), some (.int x2), some (.int x3), some (.int x4), some (.int y0), some (.int ((((60 : Int32) * x1) + x2) + ((2 : Int32) * x4)))] from ⟨rfl, ⟨rfl, ⟨rfl, ⟨rfl, ⟨rfl, ⟨rfl, trivial⟩⟩⟩⟩⟩⟩) (zyC181_171 hk69 h)
      · replace h := zy_ifn h b9
        refine zy_3 rfl rfl (show zyR _ _ _ _ [some (.ref (43 + 3)), some (.int x1), some (.int x2), some (.int x3), some (.int x4), some (.int y0), some (.int ((((60 : Int32) * x1) + x2) + ((2 : Int32) * x4)))] [.int (1 : Int32)] _ _ from ?_)
        refine zy_6 rfl (show zyR _ _ _ _ [some (.ref (43 + 3)), some (.int x1), some (.int x2), some (.int x3), some (.int x4), some (.int y0), some (.int ((((60 : Int32) * x1) + x2) + ((2 : Int32) * x4)))] [.int (1 : Int32)] _ _ from ?_)
        exact zy_sub (show zy_le [some (.ref (43 + 3)), some (.int x1), some (.int x2), some (.int x3), some (.int x4), none, some (.int ((((60 : Int32) * x1) + x2) + ((2 : Int32) * x4)))] [some (.ref (43 + 3)), some (.int x1), some (.int x2), some (.int x3), some (.int x4), some (.int y0), some (.int ((((60 : Int32) * x1) + x2) + ((2 : Int32) * x4)))] from ⟨rfl, ⟨rfl, ⟨rfl, ⟨rfl, ⟨rfl, ⟨rfl, trivial⟩⟩⟩⟩⟩⟩) (zyC181_172 hk69 h)
noncomputable def zyF181_110  (k69 : Int32 → Int32 → Int32 → Int32 → Int32 → zy_S → Option (Int32 × zy_S)) (x1 : Int32) (x2 : Int32) (x3 : Int32) (x4 : Int32) (s : zy_S) : Option (Int32 × zy_S) :=
zyF181_111 k69 x1 x2 x3 x4 (0 : Int32) s
theorem zyC181_110 {X : zx_X}  {k69 : Int32 → Int32 → Int32 → Int32 → Int32 → zy_S → Option (Int32 × zy_S)}  (hk69 : ∀ (x1 : Int32) (x2 : Int32) (x3 : Int32) (x4 : Int32) (x5 : Int32) (s : zy_S) (r : Int32) (s' : zy_S), k69 x1 x2 x3 x4 x5 s = some (r, s') → zyR X 3 181 69 [some (.ref (43 + 3)), some (.int x1), some (.int x2), some (.int x3), some (.int x4), some (.int x5), none] [] s (zyE (some (.int r)) s')) {x1 : Int32} {x2 : Int32} {x3 : Int32} {x4 : Int32} {s : zy_S} {r : Int32} {s' : zy_S}  (h : zyF181_110 k69 x1 x2 x3 x4 s = some (r, s')) : zyR X 3 181 110 [some (.ref (43 + 3)), some (.int x1), some (.int x2), some (.int x3), some (.int x4), none, none] [] s (zyE (some (.int r)) s') := by
  unfold zyF181_110 at h
  refine zy_3 rfl rfl (show zyR _ _ _ _ [some (.ref (43 + 3)), some (.int x1), some (.int x2), some (.int x3), some (.int x4), none, none] [.int (0 : Int32)] _ _ from ?_)
  exact zy_sub (show zy_le [some (.ref (43 + 3)), some (.int x1), some (.int x2), some (.int x3), some (.int x4), none, none] [some (.ref (43 + 3)), some (.int x1), some (.int x2), some (.int x3), some (.int x4), none, none] from ⟨rfl, ⟨rfl, ⟨rfl, ⟨rfl, ⟨rfl, trivial⟩⟩⟩⟩⟩) (zyC181_111 hk69 h)
noncomputable def zyF181_69b  (k69 : Int32 → Int32 → Int32 → Int32 → Int32 → zy_S → Option (Int32 × zy_S)) (x1 : Int32) (x2 : Int32) (x3 : Int32) (x4 : Int32) (x5 : Int32) (s : zy_S) : Option (Int32 × zy_S) :=
if x5 = 0 then
some (x4, s)
else
if x3 ≤ x4 then
some (x4, s)
else
if zy_in x1 6 then
if (((s.1 61 (x1).toNatClampNeg) - (2 : Int32)) - ((2 : Int32) * x4)) < x2 then
zyF181_110 k69 x1 x2 x3 x4 s
else
if (8 : Int32) ≤ (s.1 43 6) then
zyF181_110 k69 x1 x2 x3 x4 s
else
zyF181_111 k69 x1 x2 x3 x4 (1 : Int32) s
else none
theorem zyC181_69b {X : zx_X}  {k69 : Int32 → Int32 → Int32 → Int32 → Int32 → zy_S → Option (Int32 × zy_S)}  (hk69 : ∀ (x1 : Int32) (x2 : Int32) (x3 : Int32) (x4 : Int32) (x5 : Int32) (s : zy_S) (r : Int32) (s' : zy_S), k69 x1 x2 x3 x4 x5 s = some (r, s') → zyR X 3 181 69 [some (.ref (43 + 3)), some (.int x1), some (.int x2), some (.int x3), some (.int x4), some (.int x5), none] [] s (zyE (some (.int r)) s')) {x1 : Int32} {x2 : Int32} {x3 : Int32} {x4 : Int32} {x5 : Int32} {s : zy_S} {r : Int32} {s' : zy_S}  (h : zyF181_69b k69 x1 x2 x3 x4 x5 s = some (r, s')) : zyR X 3 181 69 [some (.ref (43 + 3)), some (.int x1), some (.int x2), some (.int x3), some (.int x4), some (.int x5), none] [] s (zyE (some (.int r)) s') := by
  unfold zyF181_69b at h
  refine zy_2 rfl rfl (show zyR _ _ _ _ [some (.ref (43 + 3)), some (.int x1), some (.int x2), some (.int x3), some (.int x4), some (.int x5), none] [.int x5] _ _ from ?_)
  refine zy_24_0 rfl (fun b16 => (show zyR _ _ _ _ [some (.ref (43 + 3)), some (.int x1), some (.int x2), some (.int x3), some (.int x4), some (.int x5), none] [] _ _ from ?_)) (fun b16 => (show zyR _ _ _ _ [some (.ref (43 + 3)), some (.int x1), some (.int x2), some (.int x3), some (.int x4), some (.int x5), none] [] _ _ from ?_))
  · replace h := zy_ifp h b16
    refine zy_2 rfl rfl (show zyR _ _ _ _ [some (.ref (43 + 3)), some (.int x1), some (.int x2), some (.int x3), some (.int x4), some (.int x5), none] [.int x4] _ _ from ?_)
    obtain ⟨rfl, rfl⟩ := zy_pi h
    exact zy_4 rfl ⟨rfl, rfl⟩
  · replace h := zy_ifn h b16
    refine zy_2 rfl rfl (show zyR _ _ _ _ [some (.ref (43 + 3)), some (.int x1), some (.int x2), some (.int x3), some (.int x4), some (.int x5), none] [.int x4] _ _ from ?_)
    refine zy_2 rfl rfl (show zyR _ _ _ _ [some (.ref (43 + 3)), some (.int x1), some (.int x2), some (.int x3), some (.int x4), some (.int x5), none] [.int x3, .int x4] _ _ from ?_)
    refine zy_25_3 rfl (fun b15 => (show zyR _ _ _ _ [some (.ref (43 + 3)), some (.int x1), some (.int x2), some (.int x3), some (.int x4), some (.int x5), none] [] _ _ from ?_)) (fun b15 => (show zyR _ _ _ _ [some (.ref (43 + 3)), some (.int x1), some (.int x2), some (.int x3), some (.int x4), some (.int x5), none] [] _ _ from ?_))
    · replace h := zy_ifp h b15
      refine zy_2 rfl rfl (show zyR _ _ _ _ [some (.ref (43 + 3)), some (.int x1), some (.int x2), some (.int x3), some (.int x4), some (.int x5), none] [.int x4] _ _ from ?_)
      obtain ⟨rfl, rfl⟩ := zy_pi h
      exact zy_4 rfl ⟨rfl, rfl⟩
    · replace h := zy_ifn h b15
      refine zy_2 rfl rfl (show zyR _ _ _ _ [some (.ref (43 + 3)), some (.int x1), some (.int x2), some (.int x3), some (.int x4), some (.int x5), none] [.int x2] _ _ from ?_)
      refine zy_0 rfl rfl (show zyR _ _ _ _ [some (.ref (43 + 3)), some (.int x1), some (.int x2), some (.int x3), some (.int x4), some (.int x5), none] [.ref (43 + 3), .int x2] _ _ from ?_)
      refine zy_1r (c := 43) rfl rfl rfl (show zyR _ _ _ _ [some (.ref (43 + 3)), some (.int x1), some (.int x2), some (.int x3), some (.int x4), some (.int x5), none] [.ref (61 + 3), .int x2] _ _ from ?_)
      refine zy_2 rfl rfl (show zyR _ _ _ _ [some (.ref (43 + 3)), some (.int x1), some (.int x2), some (.int x3), some (.int x4), some (.int x5), none] [.int x1, .ref (61 + 3), .int x2] _ _ from ?_)
      obtain ⟨c12, h⟩ := zy_if h
      refine zy_26 (c := 61) rfl rfl c12 (show zyR _ _ _ _ [some (.ref (43 + 3)), some (.int x1), some (.int x2), some (.int x3), some (.int x4), some (.int x5), none] [.int (s.1 61 (x1).toNatClampNeg), .int x2] _ _ from ?_)
      refine zy_3 rfl rfl (show zyR _ _ _ _ [some (.ref (43 + 3)), some (.int x1), some (.int x2), some (.int x3), some (.int x4), some (.int x5), none] [.int (2 : Int32), .int (s.1 61 (x1).toNatClampNeg), .int x2] _ _ from ?_)
      refine zy_11 rfl (show zyR _ _ _ _ [some (.ref (43 + 3)), some (.int x1), some (.int x2), some (.int x3), some (.int x4), some (.int x5), none] [.int ((s.1 61 (x1).toNatClampNeg) - (2 : Int32)), .int x2] _ _ from ?_)
      refine zy_3 rfl rfl (show zyR _ _ _ _ [some (.ref (43 + 3)), some (.int x1), some (.int x2), some (.int x3), some (.int x4), some (.int x5), none] [.int (2 : Int32), .int ((s.1 61 (x1).toNatClampNeg) - (2 : Int32)), .int x2] _ _ from ?_)
      refine zy_2 rfl rfl (show zyR _ _ _ _ [some (.ref (43 + 3)), some (.int x1), some (.int x2), some (.int x3), some (.int x4), some (.int x5), none] [.int x4, .int (2 : Int32), .int ((s.1 61 (x1).toNatClampNeg) - (2 : Int32)), .int x2] _ _ from ?_)
      refine zy_12 rfl (show zyR _ _ _ _ [some (.ref (43 + 3)), some (.int x1), some (.int x2), some (.int x3), some (.int x4), some (.int x5), none] [.int ((2 : Int32) * x4), .int ((s.1 61 (x1).toNatClampNeg) - (2 : Int32)), .int x2] _ _ from ?_)
      refine zy_11 rfl (show zyR _ _ _ _ [some (.ref (43 + 3)), some (.int x1), some (.int x2), some (.int x3), some (.int x4), some (.int x5), none] [.int (((s.1 61 (x1).toNatClampNeg) - (2 : Int32)) - ((2 : Int32) * x4)), .int x2] _ _ from ?_)
      refine zy_25_4 rfl (fun b14 => (show zyR _ _ _ _ [some (.ref (43 + 3)), some (.int x1), some (.int x2), some (.int x3), some (.int x4), some (.int x5), none] [] _ _ from ?_)) (fun b14 => (show zyR _ _ _ _ [some (.ref (43 + 3)), some (.int x1), some (.int x2), some (.int x3), some (.int x4), some (.int x5), none] [] _ _ from ?_))
      · replace h := zy_ifp h b14
        exact zy_sub (show zy_le [some (.ref (43 + 3)), some (.int x1), some (.int x2), some (.int x3), some (.int x4), none, none] [some (.ref (43 + 3)), some (.int x1), some (.int x2), some (.int x3), some (.int x4), some (.int x5), none] from ⟨rfl, ⟨rfl, ⟨rfl, ⟨rfl, ⟨rfl, trivial⟩⟩⟩⟩⟩) (zyC181_110 hk69 h)
      · replace h := zy_ifn h b14
        refine zy_0 rfl rfl (show zyR _ _ _ _ [some (.ref (43 + 3)), some (.int x1), some (.int x2), some (.int x3), some (.int x4), some (.int x5), none] [.ref (43 + 3)] _ _ from ?_)
        refine zy_1 (c := 43) rfl rfl rfl (show zyR _ _ _ _ [some (.ref (43 + 3)), some (.int x1), some (.int x2), some (.int x3), some (.int x4), some (.int x5), none] [.int (s.1 43 6)] _ _ from ?_)
        refine zy_3 rfl rfl (show zyR _ _ _ _ [some (.ref (43 + 3)), some (.int x1), some (.int x2), some (.int x3), some (.int x4), some (.int x5), none] [.int (8 : Int32), .int (s.1 43 6)] _ _ from ?_)
        refine zy_25_3 rfl (fun b13 => (show zyR _ _ _ _ [some (.ref (43 + 3)), some (.int x1), some (.int x2), some (.int x3), some (.int x4), some (.int x5), none] [] _ _ from ?_)) (fun b13 => (show zyR _ _ _ _ [some (.ref (43 + 3)), some (.int x1), some (.int x2), some (.int x3), some (.int x4), some (.int x5), none] [] _ _ from ?_))
        · replace h := zy_ifp h b13
          exact zy_sub (show zy_le [some (.ref (43 + 3)), some (.int x1), some (.int x2), some (.int x3), some (.int x4), none, none] [some (.ref (43 + 3)), some (.int x1), some (.int x2), some (.int x3), some (.int x4), some (.int x5), none] from ⟨rfl, ⟨rfl, ⟨rfl, ⟨rfl, ⟨rfl, trivial⟩⟩⟩⟩⟩) (zyC181_110 hk69 h)
        · replace h := zy_ifn h b13
          refine zy_3 rfl rfl (show zyR _ _ _ _ [some (.ref (43 + 3)), some (.int x1), some (.int x2), some (.int x3), some (.int x4), some (.int x5), none] [.int (1 : Int32)] _ _ from ?_)
          refine zy_6 rfl (show zyR _ _ _ _ [some (.ref (43 + 3)), some (.int x1), some (.int x2), some (.int x3), some (.int x4), some (.int x5), none] [.int (1 : Int32)] _ _ from ?_)
          exact zy_sub (show zy_le [some (.ref (43 + 3)), some (.int x1), some (.int x2), some (.int x3), some (.int x4), none, none] [some (.ref (43 + 3)), some (.int x1), some (.int x2), some (.int x3), some (.int x4), some (.int x5), none] from ⟨rfl, ⟨rfl, ⟨rfl, ⟨rfl, ⟨rfl, trivial⟩⟩⟩⟩⟩) (zyC181_111 hk69 h)
noncomputable def zyF181_69   (n : Nat) : Int32 → Int32 → Int32 → Int32 → Int32 → zy_S → Option (Int32 × zy_S) := Nat.rec (fun _ _ _ _ _ _ => none) (fun _ k69 => zyF181_69b k69) n
theorem zyC181_69 {X : zx_X}     : ∀ (n : Nat) (x1 : Int32) (x2 : Int32) (x3 : Int32) (x4 : Int32) (x5 : Int32) (s : zy_S) (r : Int32) (s' : zy_S), zyF181_69 n x1 x2 x3 x4 x5 s = some (r, s') → zyR X 3 181 69 [some (.ref (43 + 3)), some (.int x1), some (.int x2), some (.int x3), some (.int x4), some (.int x5), none] [] s (zyE (some (.int r)) s')
  | 0, _, _, _, _, _ => by
    intro s r s'  h
    have h : (none : Option (Int32 × zy_S)) = some (r, s') := h
    cases h
  | n + 1, x1, x2, x3, x4, x5 => by
    intro s r s'  h
    exact zyC181_69b (k69 := zyF181_69 n) (fun x1 x2 x3 x4 x5 s r s'  h => zyC181_69  n x1 x2 x3 x4 x5 s r s'  h) h
noncomputable def zyF181_67   (x1 : Int32) (x2 : Int32) (x3 : Int32) (x4 : Int32) (y0 : Int32) (s : zy_S) : Option (Int32 × zy_S) :=
zyF181_69 zy_fu x1 x2 x3 x4 y0 s
theorem zyC181_67 {X : zx_X}     {x1 : Int32} {x2 : Int32} {x3 : Int32} {x4 : Int32} {y0 : Int32} {s : zy_S} {r : Int32} {s' : zy_S}  (h : zyF181_67 x1 x2 x3 x4 y0 s = some (r, s')) : zyR X 3 181 67 [some (.ref (43 + 3)), some (.int x1), some (.int x2), some (.int x3), some (.int x4), none, none] [.int y0] s (zyE (some (.int r)) s') := by
  unfold zyF181_67 at h
  refine zy_23 rfl rfl (show zyR _ _ _ _ [some (.ref (43 + 3)), some (.int x1), some (.int x2), some (.int x3), some (.int x4), some (.int y0), none] [] _ _ from ?_)
  exact zy_sub (show zy_le [some (.ref (43 + 3)), some (.int x1), some (.int x2), some (.int x3), some (.int x4), some (.int y0), none] [some (.ref (43 + 3)), some (.int x1), some (.int x2), some (.int x3), some (.int x4), some (.int y0), none] from ⟨rfl, ⟨rfl, ⟨rfl, ⟨rfl, ⟨rfl, ⟨rfl, trivial⟩⟩⟩⟩⟩⟩) (zyC181_69 zy_fu x1 x2 x3 x4 y0 s _ _ h)
noncomputable def zyF181_66   (x1 : Int32) (x2 : Int32) (x3 : Int32) (x4 : Int32) (s : zy_S) : Option (Int32 × zy_S) :=
zyF181_67 x1 x2 x3 x4 (0 : Int32) s
theorem zyC181_66 {X : zx_X}     {x1 : Int32} {x2 : Int32} {x3 : Int32} {x4 : Int32} {s : zy_S} {r : Int32} {s' : zy_S}  (h : zyF181_66 x1 x2 x3 x4 s = some (r, s')) : zyR X 3 181 66 [some (.ref (43 + 3)), some (.int x1), some (.int x2), some (.int x3), some (.int x4), none, none] [] s (zyE (some (.int r)) s') := by
  unfold zyF181_66 at h
  refine zy_3 rfl rfl (show zyR _ _ _ _ [some (.ref (43 + 3)), some (.int x1), some (.int x2), some (.int x3), some (.int x4), none, none] [.int (0 : Int32)] _ _ from ?_)
  exact zy_sub (show zy_le [some (.ref (43 + 3)), some (.int x1), some (.int x2), some (.int x3), some (.int x4), none, none] [some (.ref (43 + 3)), some (.int x1), some (.int x2), some (.int x3), some (.int x4), none, none] from ⟨rfl, ⟨rfl, ⟨rfl, ⟨rfl, ⟨rfl, trivial⟩⟩⟩⟩⟩) (zyC181_67 h)
noncomputable def zyF181_44   (x1 : Int32) (x2 : Int32) (x3 : Int32) (s : zy_S) : Option (Int32 × zy_S) :=
if zy_in x1 6 then
if (s.1 60 (x1).toNatClampNeg) ≠ (51 : Int32) then
zyF181_66 x1 x2 x3 (0 : Int32) s
else
if x2 < 0 then
zyF181_66 x1 x2 x3 (0 : Int32) s
else
zyF181_67 x1 x2 x3 (0 : Int32) (1 : Int32) s
else none
theorem zyC181_44 {X : zx_X}     {x1 : Int32} {x2 : Int32} {x3 : Int32} {s : zy_S} {r : Int32} {s' : zy_S}  (h : zyF181_44 x1 x2 x3 s = some (r, s')) : zyR X 3 181 44 [some (.ref (43 + 3)), some (.int x1), some (.int x2), some (.int x3), none, none, none] [] s (zyE (some (.int r)) s') := by
  unfold zyF181_44 at h
  refine zy_3 rfl rfl (show zyR _ _ _ _ [some (.ref (43 + 3)), some (.int x1), some (.int x2), some (.int x3), none, none, none] [.int (0 : Int32)] _ _ from ?_)
  refine zy_23 rfl rfl (show zyR _ _ _ _ [some (.ref (43 + 3)), some (.int x1), some (.int x2), some (.int x3), some (.int (0 : Int32)), none, none] [] _ _ from ?_)
  refine zy_0 rfl rfl (show zyR _ _ _ _ [some (.ref (43 + 3)), some (.int x1), some (.int x2), some (.int x3), some (.int (0 : Int32)), none, none] [.ref (43 + 3)] _ _ from ?_)
  refine zy_1r (c := 43) rfl rfl rfl (show zyR _ _ _ _ [some (.ref (43 + 3)), some (.int x1), some (.int x2), some (.int x3), some (.int (0 : Int32)), none, none] [.ref (60 + 3)] _ _ from ?_)
  refine zy_2 rfl rfl (show zyR _ _ _ _ [some (.ref (43 + 3)), some (.int x1), some (.int x2), some (.int x3), some (.int (0 : Int32)), none, none] [.int x1, .ref (60 + 3)] _ _ from ?_)
  obtain ⟨c17, h⟩ := zy_if h
  refine zy_26 (c := 60) rfl rfl c17 (show zyR _ _ _ _ [some (.ref (43 + 3)), some (.int x1), some (.int x2), some (.int x3), some (.int (0 : Int32)), none, none] [.int (s.1 60 (x1).toNatClampNeg)] _ _ from ?_)
  refine zy_3 rfl rfl (show zyR _ _ _ _ [some (.ref (43 + 3)), some (.int x1), some (.int x2), some (.int x3), some (.int (0 : Int32)), none, none] [.int (51 : Int32), .int (s.1 60 (x1).toNatClampNeg)] _ _ from ?_)
  refine zy_25_1 rfl (fun b19 => (show zyR _ _ _ _ [some (.ref (43 + 3)), some (.int x1), some (.int x2), some (.int x3), some (.int (0 : Int32)), none, none] [] _ _ from ?_)) (fun b19 => (show zyR _ _ _ _ [some (.ref (43 + 3)), some (.int x1), some (.int x2), some (.int x3), some (.int (0 : Int32)), none, none] [] _ _ from ?_))
  · replace h := zy_ifp h b19
    exact zy_sub (show zy_le [some (.ref (43 + 3)), some (.int x1), some (.int x2), some (.int x3), some (.int (0 : Int32)), none, none] [some (.ref (43 + 3)), some (.int x1), some (.int x2), some (.int x3), some (.int (0 : Int32)), none, none] from ⟨rfl, ⟨rfl, ⟨rfl, ⟨rfl, ⟨rfl, trivial⟩⟩⟩⟩⟩) (zyC181_66 h)
  · replace h := zy_ifn h b19
    refine zy_2 rfl rfl (show zyR _ _ _ _ [some (.ref (43 + 3)), some (.int x1), some (.int x2), some (.int x3), some (.int (0 : Int32)), none, none] [.int x2] _ _ from ?_)
    refine zy_24_2 rfl (fun b18 => (show zyR _ _ _ _ [some (.ref (43 + 3)), some (.int x1), some (.int x2), some (.int x3), some (.int (0 : Int32)), none, none] [] _ _ from ?_)) (fun b18 => (show zyR _ _ _ _ [some (.ref (43 + 3)), some (.int x1), some (.int x2), some (.int x3), some (.int (0 : Int32)), none, none] [] _ _ from ?_))
    · replace h := zy_ifp h b18
      exact zy_sub (show zy_le [some (.ref (43 + 3)), some (.int x1), some (.int x2), some (.int x3), some (.int (0 : Int32)), none, none] [some (.ref (43 + 3)), some (.int x1), some (.int x2), some (.int x3), some (.int (0 : Int32)), none, none] from ⟨rfl, ⟨rfl, ⟨rfl, ⟨rfl, ⟨rfl, trivial⟩⟩⟩⟩⟩) (zyC181_66 h)
    · replace h := zy_ifn h b18
      refine zy_3 rfl rfl (show zyR _ _ _ _ [some (.ref (43 + 3)), some (.int x1), some (.int x2), some (.int x3), some (.int (0 : Int32)), none, none] [.int (1 : Int32)] _ _ from ?_)
      refine zy_6 rfl (show zyR _ _ _ _ [some (.ref (43 + 3)), some (.int x1), some (.int x2), some (.int x3), some (.int (0 : Int32)), none, none] [.int (1 : Int32)] _ _ from ?_)
      exact zy_sub (show zy_le [some (.ref (43 + 3)), some (.int x1), some (.int x2), some (.int x3), some (.int (0 : Int32)), none, none] [some (.ref (43 + 3)), some (.int x1), some (.int x2), some (.int x3), some (.int (0 : Int32)), none, none] from ⟨rfl, ⟨rfl, ⟨rfl, ⟨rfl, ⟨rfl, trivial⟩⟩⟩⟩⟩) (zyC181_67 h)
noncomputable def zyF181   (x1 : Int32) (x2 : Int32) (x3 : Int32) (s : zy_S) : Option (Int32 × zy_S) :=
(zyF182 x1 s).bind fun p20 =>
if p20.1 = 0 then
some ((-1 : Int32), p20.2)
else
(zyF179 (x3).toInt64 (1 : Int64) (8 : Int64) p20.2).bind fun p21 =>
if p21.1 ≠ 0 then
if zy_in x1 6 then
if (p21.2.1 60 (x1).toNatClampNeg) < 0 then
zyF181_44 x1 x2 x3 p21.2
else
if zy_in x1 6 then
if (p21.2.1 60 (x1).toNatClampNeg) = (51 : Int32) then
zyF181_44 x1 x2 x3 p21.2
else
some ((-12 : Int32), p21.2)
else none
else none
else
some ((-1 : Int32), p21.2)
theorem zyC181 {X : zx_X}     {x1 : Int32} {x2 : Int32} {x3 : Int32} {s : zy_S} {r : Int32} {s' : zy_S}  (h : zyF181 x1 x2 x3 s = some (r, s')) : zyR X 3 181 0 [some (.ref (43 + 3)), some (.int x1), some (.int x2), some (.int x3), none, none, none] [] s (zyE (some (.int r)) s') := by
  unfold zyF181 at h
  refine zy_2 rfl rfl (show zyR _ _ _ _ [some (.ref (43 + 3)), some (.int x1), some (.int x2), some (.int x3), none, none, none] [.int x1] _ _ from ?_)
  obtain ⟨p20, hp20, h⟩ := zy_bind h
  refine zy_60 (as := [.int x1]) (rest := []) (L := [some (.int x1)]) (d' := 2) rfl rfl (Nat.le_of_ble_eq_true rfl) (Nat.le_of_ble_eq_true rfl) rfl (Nat.le_of_ble_eq_true rfl) rfl rfl (zyC182 hp20) ?_
  show zyR _ _ _ _ [some (.ref (43 + 3)), some (.int x1), some (.int x2), some (.int x3), none, none, none] [.int p20.1] _ _
  refine zy_24_0 rfl (fun b27 => (show zyR _ _ _ _ [some (.ref (43 + 3)), some (.int x1), some (.int x2), some (.int x3), none, none, none] [] _ _ from ?_)) (fun b27 => (show zyR _ _ _ _ [some (.ref (43 + 3)), some (.int x1), some (.int x2), some (.int x3), none, none, none] [] _ _ from ?_))
  · replace h := zy_ifp h b27
    refine zy_3 rfl rfl (show zyR _ _ _ _ [some (.ref (43 + 3)), some (.int x1), some (.int x2), some (.int x3), none, none, none] [.int (-1 : Int32)] _ _ from ?_)
    obtain ⟨rfl, rfl⟩ := zy_pi h
    exact zy_4 rfl ⟨rfl, rfl⟩
  · replace h := zy_ifn h b27
    refine zy_2 rfl rfl (show zyR _ _ _ _ [some (.ref (43 + 3)), some (.int x1), some (.int x2), some (.int x3), none, none, none] [.int x3] _ _ from ?_)
    refine zy_40 rfl (show zyR _ _ _ _ [some (.ref (43 + 3)), some (.int x1), some (.int x2), some (.int x3), none, none, none] [.long (x3).toInt64] _ _ from ?_)
    refine zy_36 rfl rfl (show zyR _ _ _ _ [some (.ref (43 + 3)), some (.int x1), some (.int x2), some (.int x3), none, none, none] [.long (1 : Int64), .long (x3).toInt64] _ _ from ?_)
    refine zy_36c rfl rfl (show zyR _ _ _ _ [some (.ref (43 + 3)), some (.int x1), some (.int x2), some (.int x3), none, none, none] [.long (8 : Int64), .long (1 : Int64), .long (x3).toInt64] _ _ from ?_)
    obtain ⟨p21, hp21, h⟩ := zy_bind h
    refine zy_60 (as := [.long (x3).toInt64, .long (1 : Int64), .long (8 : Int64)]) (rest := []) (L := [some (.long (x3).toInt64), none, some (.long (1 : Int64)), none, some (.long (8 : Int64)), none]) (d' := 1) rfl rfl (Nat.le_of_ble_eq_true rfl) (Nat.le_of_ble_eq_true rfl) rfl (Nat.le_of_ble_eq_true rfl) rfl rfl (zyC179 hp21) ?_
    show zyR _ _ _ _ [some (.ref (43 + 3)), some (.int x1), some (.int x2), some (.int x3), none, none, none] [.int p21.1] _ _
    refine zy_24_1 rfl (fun b26 => (show zyR _ _ _ _ [some (.ref (43 + 3)), some (.int x1), some (.int x2), some (.int x3), none, none, none] [] _ _ from ?_)) (fun b26 => (show zyR _ _ _ _ [some (.ref (43 + 3)), some (.int x1), some (.int x2), some (.int x3), none, none, none] [] _ _ from ?_))
    · replace h := zy_ifp h b26
      refine zy_0 rfl rfl (show zyR _ _ _ _ [some (.ref (43 + 3)), some (.int x1), some (.int x2), some (.int x3), none, none, none] [.ref (43 + 3)] _ _ from ?_)
      refine zy_1r (c := 43) rfl rfl rfl (show zyR _ _ _ _ [some (.ref (43 + 3)), some (.int x1), some (.int x2), some (.int x3), none, none, none] [.ref (60 + 3)] _ _ from ?_)
      refine zy_2 rfl rfl (show zyR _ _ _ _ [some (.ref (43 + 3)), some (.int x1), some (.int x2), some (.int x3), none, none, none] [.int x1, .ref (60 + 3)] _ _ from ?_)
      obtain ⟨c22, h⟩ := zy_if h
      refine zy_26 (c := 60) rfl rfl c22 (show zyR _ _ _ _ [some (.ref (43 + 3)), some (.int x1), some (.int x2), some (.int x3), none, none, none] [.int (p21.2.1 60 (x1).toNatClampNeg)] _ _ from ?_)
      refine zy_24_2 rfl (fun b25 => (show zyR _ _ _ _ [some (.ref (43 + 3)), some (.int x1), some (.int x2), some (.int x3), none, none, none] [] _ _ from ?_)) (fun b25 => (show zyR _ _ _ _ [some (.ref (43 + 3)), some (.int x1), some (.int x2), some (.int x3), none, none, none] [] _ _ from ?_))
      · replace h := zy_ifp h b25
        exact zy_sub (show zy_le [some (.ref (43 + 3)), some (.int x1), some (.int x2), some (.int x3), none, none, none] [some (.ref (43 + 3)), some (.int x1), some (.int x2), some (.int x3), none, none, none] from ⟨rfl, ⟨rfl, ⟨rfl, ⟨rfl, trivial⟩⟩⟩⟩) (zyC181_44 h)
      · replace h := zy_ifn h b25
        refine zy_0 rfl rfl (show zyR _ _ _ _ [some (.ref (43 + 3)), some (.int x1), some (.int x2), some (.int x3), none, none, none] [.ref (43 + 3)] _ _ from ?_)
        refine zy_1r (c := 43) rfl rfl rfl (show zyR _ _ _ _ [some (.ref (43 + 3)), some (.int x1), some (.int x2), some (.int x3), none, none, none] [.ref (60 + 3)] _ _ from ?_)
        refine zy_2 rfl rfl (show zyR _ _ _ _ [some (.ref (43 + 3)), some (.int x1), some (.int x2), some (.int x3), none, none, none] [.int x1, .ref (60 + 3)] _ _ from ?_)
        obtain ⟨c23, h⟩ := zy_if h
        refine zy_26 (c := 60) rfl rfl c23 (show zyR _ _ _ _ [some (.ref (43 + 3)), some (.int x1), some (.int x2), some (.int x3), none, none, none] [.int (p21.2.1 60 (x1).toNatClampNeg)] _ _ from ?_)
        refine zy_3 rfl rfl (show zyR _ _ _ _ [some (.ref (43 + 3)), some (.int x1), some (.int x2), some (.int x3), none, none, none] [.int (51 : Int32), .int (p21.2.1 60 (x1).toNatClampNeg)] _ _ from ?_)
        refine zy_25_0 rfl (fun b24 => (show zyR _ _ _ _ [some (.ref (43 + 3)), some (.int x1), some (.int x2), some (.int x3), none, none, none] [] _ _ from ?_)) (fun b24 => (show zyR _ _ _ _ [some (.ref (43 + 3)), some (.int x1), some (.int x2), some (.int x3), none, none, none] [] _ _ from ?_))
        · replace h := zy_ifp h b24
          exact zy_sub (show zy_le [some (.ref (43 + 3)), some (.int x1), some (.int x2), some (.int x3), none, none, none] [some (.ref (43 + 3)), some (.int x1), some (.int x2), some (.int x3), none, none, none] from ⟨rfl, ⟨rfl, ⟨rfl, ⟨rfl, trivial⟩⟩⟩⟩) (zyC181_44 h)
        · replace h := zy_ifn h b24
          refine zy_3 rfl rfl (show zyR _ _ _ _ [some (.ref (43 + 3)), some (.int x1), some (.int x2), some (.int x3), none, none, none] [.int (-12 : Int32)] _ _ from ?_)
          obtain ⟨rfl, rfl⟩ := zy_pi h
          exact zy_4 rfl ⟨rfl, rfl⟩
    · replace h := zy_ifn h b26
      refine zy_3 rfl rfl (show zyR _ _ _ _ [some (.ref (43 + 3)), some (.int x1), some (.int x2), some (.int x3), none, none, none] [.int (-1 : Int32)] _ _ from ?_)
      obtain ⟨rfl, rfl⟩ := zy_pi h
      exact zy_4 rfl ⟨rfl, rfl⟩
/-! NineOpinionsModel.isOne(J)Z -/
noncomputable def zyF185   (x1 : Int64) (s : zy_S) : Option (Int32 × zy_S) :=
(zyF179 x1 (0 : Int64) (((s.1 43 6) - (1 : Int32))).toInt64 s).bind fun p1 =>
if p1.1 = 0 ∨ p1.1 = 1 then
some (p1.1, p1.2)
else none
theorem zyC185 {X : zx_X}     {x1 : Int64} {s : zy_S} {r : Int32} {s' : zy_S}  (h : zyF185 x1 s = some (r, s')) : zyR X 2 185 0 [some (.ref (43 + 3)), some (.long x1), none] [] s (zyE (some (.int r)) s') := by
  unfold zyF185 at h
  refine zy_37 rfl rfl (show zyR _ _ _ _ [some (.ref (43 + 3)), some (.long x1), none] [.long x1] _ _ from ?_)
  refine zy_36 rfl rfl (show zyR _ _ _ _ [some (.ref (43 + 3)), some (.long x1), none] [.long (0 : Int64), .long x1] _ _ from ?_)
  refine zy_0 rfl rfl (show zyR _ _ _ _ [some (.ref (43 + 3)), some (.long x1), none] [.ref (43 + 3), .long (0 : Int64), .long x1] _ _ from ?_)
  refine zy_1 (c := 43) rfl rfl rfl (show zyR _ _ _ _ [some (.ref (43 + 3)), some (.long x1), none] [.int (s.1 43 6), .long (0 : Int64), .long x1] _ _ from ?_)
  refine zy_3 rfl rfl (show zyR _ _ _ _ [some (.ref (43 + 3)), some (.long x1), none] [.int (1 : Int32), .int (s.1 43 6), .long (0 : Int64), .long x1] _ _ from ?_)
  refine zy_11 rfl (show zyR _ _ _ _ [some (.ref (43 + 3)), some (.long x1), none] [.int ((s.1 43 6) - (1 : Int32)), .long (0 : Int64), .long x1] _ _ from ?_)
  refine zy_40 rfl (show zyR _ _ _ _ [some (.ref (43 + 3)), some (.long x1), none] [.long (((s.1 43 6) - (1 : Int32))).toInt64, .long (0 : Int64), .long x1] _ _ from ?_)
  obtain ⟨p1, hp1, h⟩ := zy_bind h
  refine zy_60 (as := [.long x1, .long (0 : Int64), .long (((s.1 43 6) - (1 : Int32))).toInt64]) (rest := []) (L := [some (.long x1), none, some (.long (0 : Int64)), none, some (.long (((s.1 43 6) - (1 : Int32))).toInt64), none]) (d' := 1) rfl rfl (Nat.le_of_ble_eq_true rfl) (Nat.le_of_ble_eq_true rfl) rfl (Nat.le_of_ble_eq_true rfl) rfl rfl (zyC179 hp1) ?_
  show zyR _ _ _ _ [some (.ref (43 + 3)), some (.long x1), none] [.int p1.1] _ _
  obtain ⟨c2, h⟩ := zy_if h
  cases h
  exact zy_4b rfl ⟨rfl, rfl⟩ c2
/-! NineOpinionsModel.isLine(J)Z -/
noncomputable def zyF186   (x0 : Int64) (s : zy_S) : Option (Int32 × zy_S) :=
(zyF179 x0 (0 : Int64) (23 : Int64) s).bind fun p1 =>
if p1.1 = 0 ∨ p1.1 = 1 then
some (p1.1, p1.2)
else none
theorem zyC186 {X : zx_X}     {x0 : Int64} {s : zy_S} {r : Int32} {s' : zy_S}  (h : zyF186 x0 s = some (r, s')) : zyR X 2 186 0 [some (.long x0), none] [] s (zyE (some (.int r)) s') := by
  unfold zyF186 at h
  refine zy_37 rfl rfl (show zyR _ _ _ _ [some (.long x0), none] [.long x0] _ _ from ?_)
  refine zy_36 rfl rfl (show zyR _ _ _ _ [some (.long x0), none] [.long (0 : Int64), .long x0] _ _ from ?_)
  refine zy_36c rfl rfl (show zyR _ _ _ _ [some (.long x0), none] [.long (23 : Int64), .long (0 : Int64), .long x0] _ _ from ?_)
  obtain ⟨p1, hp1, h⟩ := zy_bind h
  refine zy_60 (as := [.long x0, .long (0 : Int64), .long (23 : Int64)]) (rest := []) (L := [some (.long x0), none, some (.long (0 : Int64)), none, some (.long (23 : Int64)), none]) (d' := 1) rfl rfl (Nat.le_of_ble_eq_true rfl) (Nat.le_of_ble_eq_true rfl) rfl (Nat.le_of_ble_eq_true rfl) rfl rfl (zyC179 hp1) ?_
  show zyR _ _ _ _ [some (.long x0), none] [.int p1.1] _ _
  obtain ⟨c2, h⟩ := zy_if h
  cases h
  exact zy_4b rfl ⟨rfl, rfl⟩ c2
end
section
/-! PART 41.06: methods as functions. Made by wip/v4/dcp.py. -/
/-! NineOpinionsModel.placeOf(II)I -/
noncomputable def zyF184   (x1 : Int32) (x2 : Int32) (s : zy_S) : Option (Int32 × zy_S) :=
(zyF179 (x2).toInt64 (0 : Int64) (1 : Int64) s).bind fun p1 =>
if p1.1 = 0 then
if x2 ≠ (2 : Int32) then
if x2 ≠ (3 : Int32) then
some ((-1 : Int32), p1.2)
else
if x1 ≠ 0 then
some ((-1 : Int32), p1.2)
else
some ((40 : Int32), p1.2)
else
(zyF186 (x1).toInt64 p1.2).bind fun p4 =>
if p4.1 = 0 then
some ((-1 : Int32), p4.2)
else
some (((16 : Int32) + x1), p4.2)
else
(zyF185 (x1).toInt64 p1.2).bind fun p7 =>
if p7.1 = 0 then
some ((-1 : Int32), p7.2)
else
some ((((8 : Int32) * x2) + x1), p7.2)
theorem zyC184 {X : zx_X}     {x1 : Int32} {x2 : Int32} {s : zy_S} {r : Int32} {s' : zy_S}  (h : zyF184 x1 x2 s = some (r, s')) : zyR X 3 184 0 [some (.ref (43 + 3)), some (.int x1), some (.int x2)] [] s (zyE (some (.int r)) s') := by
  unfold zyF184 at h
  refine zy_2 rfl rfl (show zyR _ _ _ _ [some (.ref (43 + 3)), some (.int x1), some (.int x2)] [.int x2] _ _ from ?_)
  refine zy_40 rfl (show zyR _ _ _ _ [some (.ref (43 + 3)), some (.int x1), some (.int x2)] [.long (x2).toInt64] _ _ from ?_)
  refine zy_36 rfl rfl (show zyR _ _ _ _ [some (.ref (43 + 3)), some (.int x1), some (.int x2)] [.long (0 : Int64), .long (x2).toInt64] _ _ from ?_)
  refine zy_36 rfl rfl (show zyR _ _ _ _ [some (.ref (43 + 3)), some (.int x1), some (.int x2)] [.long (1 : Int64), .long (0 : Int64), .long (x2).toInt64] _ _ from ?_)
  obtain ⟨p1, hp1, h⟩ := zy_bind h
  refine zy_60 (as := [.long (x2).toInt64, .long (0 : Int64), .long (1 : Int64)]) (rest := []) (L := [some (.long (x2).toInt64), none, some (.long (0 : Int64)), none, some (.long (1 : Int64)), none]) (d' := 1) rfl rfl (Nat.le_of_ble_eq_true rfl) (Nat.le_of_ble_eq_true rfl) rfl (Nat.le_of_ble_eq_true rfl) rfl rfl (zyC179 hp1) ?_
  show zyR _ _ _ _ [some (.ref (43 + 3)), some (.int x1), some (.int x2)] [.int p1.1] _ _
  refine zy_24_0 rfl (fun b9 => (show zyR _ _ _ _ [some (.ref (43 + 3)), some (.int x1), some (.int x2)] [] _ _ from ?_)) (fun b9 => (show zyR _ _ _ _ [some (.ref (43 + 3)), some (.int x1), some (.int x2)] [] _ _ from ?_))
  · replace h := zy_ifp h b9
    refine zy_2 rfl rfl (show zyR _ _ _ _ [some (.ref (43 + 3)), some (.int x1), some (.int x2)] [.int x2] _ _ from ?_)
    refine zy_3 rfl rfl (show zyR _ _ _ _ [some (.ref (43 + 3)), some (.int x1), some (.int x2)] [.int (2 : Int32), .int x2] _ _ from ?_)
    refine zy_25_1 rfl (fun b6 => (show zyR _ _ _ _ [some (.ref (43 + 3)), some (.int x1), some (.int x2)] [] _ _ from ?_)) (fun b6 => (show zyR _ _ _ _ [some (.ref (43 + 3)), some (.int x1), some (.int x2)] [] _ _ from ?_))
    · replace h := zy_ifp h b6
      refine zy_2 rfl rfl (show zyR _ _ _ _ [some (.ref (43 + 3)), some (.int x1), some (.int x2)] [.int x2] _ _ from ?_)
      refine zy_3 rfl rfl (show zyR _ _ _ _ [some (.ref (43 + 3)), some (.int x1), some (.int x2)] [.int (3 : Int32), .int x2] _ _ from ?_)
      refine zy_25_1 rfl (fun b3 => (show zyR _ _ _ _ [some (.ref (43 + 3)), some (.int x1), some (.int x2)] [] _ _ from ?_)) (fun b3 => (show zyR _ _ _ _ [some (.ref (43 + 3)), some (.int x1), some (.int x2)] [] _ _ from ?_))
      · replace h := zy_ifp h b3
        refine zy_3 rfl rfl (show zyR _ _ _ _ [some (.ref (43 + 3)), some (.int x1), some (.int x2)] [.int (-1 : Int32)] _ _ from ?_)
        obtain ⟨rfl, rfl⟩ := zy_pi h
        exact zy_4 rfl ⟨rfl, rfl⟩
      · replace h := zy_ifn h b3
        refine zy_2 rfl rfl (show zyR _ _ _ _ [some (.ref (43 + 3)), some (.int x1), some (.int x2)] [.int x1] _ _ from ?_)
        refine zy_24_1 rfl (fun b2 => (show zyR _ _ _ _ [some (.ref (43 + 3)), some (.int x1), some (.int x2)] [] _ _ from ?_)) (fun b2 => (show zyR _ _ _ _ [some (.ref (43 + 3)), some (.int x1), some (.int x2)] [] _ _ from ?_))
        · replace h := zy_ifp h b2
          refine zy_3 rfl rfl (show zyR _ _ _ _ [some (.ref (43 + 3)), some (.int x1), some (.int x2)] [.int (-1 : Int32)] _ _ from ?_)
          obtain ⟨rfl, rfl⟩ := zy_pi h
          exact zy_4 rfl ⟨rfl, rfl⟩
        · replace h := zy_ifn h b2
          refine zy_3 rfl rfl (show zyR _ _ _ _ [some (.ref (43 + 3)), some (.int x1), some (.int x2)] [.int (40 : Int32)] _ _ from ?_)
          refine zy_6 rfl (show zyR _ _ _ _ [some (.ref (43 + 3)), some (.int x1), some (.int x2)] [.int (40 : Int32)] _ _ from ?_)
          obtain ⟨rfl, rfl⟩ := zy_pi h
          exact zy_4 rfl ⟨rfl, rfl⟩
    · replace h := zy_ifn h b6
      refine zy_2 rfl rfl (show zyR _ _ _ _ [some (.ref (43 + 3)), some (.int x1), some (.int x2)] [.int x1] _ _ from ?_)
      refine zy_40 rfl (show zyR _ _ _ _ [some (.ref (43 + 3)), some (.int x1), some (.int x2)] [.long (x1).toInt64] _ _ from ?_)
      obtain ⟨p4, hp4, h⟩ := zy_bind h
      refine zy_60 (as := [.long (x1).toInt64]) (rest := []) (L := [some (.long (x1).toInt64), none]) (d' := 2) rfl rfl (Nat.le_of_ble_eq_true rfl) (Nat.le_of_ble_eq_true rfl) rfl (Nat.le_of_ble_eq_true rfl) rfl rfl (zyC186 hp4) ?_
      show zyR _ _ _ _ [some (.ref (43 + 3)), some (.int x1), some (.int x2)] [.int p4.1] _ _
      refine zy_24_0 rfl (fun b5 => (show zyR _ _ _ _ [some (.ref (43 + 3)), some (.int x1), some (.int x2)] [] _ _ from ?_)) (fun b5 => (show zyR _ _ _ _ [some (.ref (43 + 3)), some (.int x1), some (.int x2)] [] _ _ from ?_))
      · replace h := zy_ifp h b5
        refine zy_3 rfl rfl (show zyR _ _ _ _ [some (.ref (43 + 3)), some (.int x1), some (.int x2)] [.int (-1 : Int32)] _ _ from ?_)
        obtain ⟨rfl, rfl⟩ := zy_pi h
        exact zy_4 rfl ⟨rfl, rfl⟩
      · replace h := zy_ifn h b5
        refine zy_3 rfl rfl (show zyR _ _ _ _ [some (.ref (43 + 3)), some (.int x1), some (.int x2)] [.int (16 : Int32)] _ _ from ?_)
        refine zy_2 rfl rfl (show zyR _ _ _ _ [some (.ref (43 + 3)), some (.int x1), some (.int x2)] [.int x1, .int (16 : Int32)] _ _ from ?_)
        refine zy_10 rfl (show zyR _ _ _ _ [some (.ref (43 + 3)), some (.int x1), some (.int x2)] [.int ((16 : Int32) + x1)] _ _ from ?_)
        refine zy_6 rfl (show zyR _ _ _ _ [some (.ref (43 + 3)), some (.int x1), some (.int x2)] [.int ((16 : Int32) + x1)] _ _ from ?_)
        obtain ⟨rfl, rfl⟩ := zy_pi h
        exact zy_4 rfl ⟨rfl, rfl⟩
  · replace h := zy_ifn h b9
    refine zy_0 rfl rfl (show zyR _ _ _ _ [some (.ref (43 + 3)), some (.int x1), some (.int x2)] [.ref (43 + 3)] _ _ from ?_)
    refine zy_2 rfl rfl (show zyR _ _ _ _ [some (.ref (43 + 3)), some (.int x1), some (.int x2)] [.int x1, .ref (43 + 3)] _ _ from ?_)
    refine zy_40 rfl (show zyR _ _ _ _ [some (.ref (43 + 3)), some (.int x1), some (.int x2)] [.long (x1).toInt64, .ref (43 + 3)] _ _ from ?_)
    obtain ⟨p7, hp7, h⟩ := zy_bind h
    refine zy_5 (c := 43) (as := [.long (x1).toInt64]) (rest := []) (L := [some (.ref (43 + 3)), some (.long (x1).toInt64), none]) (d' := 2) rfl rfl rfl (Nat.le_of_ble_eq_true rfl) (Nat.le_of_ble_eq_true rfl) rfl (Nat.le_of_ble_eq_true rfl) rfl rfl (zyC185 hp7) ?_
    show zyR _ _ _ _ [some (.ref (43 + 3)), some (.int x1), some (.int x2)] [.int p7.1] _ _
    refine zy_24_0 rfl (fun b8 => (show zyR _ _ _ _ [some (.ref (43 + 3)), some (.int x1), some (.int x2)] [] _ _ from ?_)) (fun b8 => (show zyR _ _ _ _ [some (.ref (43 + 3)), some (.int x1), some (.int x2)] [] _ _ from ?_))
    · replace h := zy_ifp h b8
      refine zy_3 rfl rfl (show zyR _ _ _ _ [some (.ref (43 + 3)), some (.int x1), some (.int x2)] [.int (-1 : Int32)] _ _ from ?_)
      obtain ⟨rfl, rfl⟩ := zy_pi h
      exact zy_4 rfl ⟨rfl, rfl⟩
    · replace h := zy_ifn h b8
      refine zy_3 rfl rfl (show zyR _ _ _ _ [some (.ref (43 + 3)), some (.int x1), some (.int x2)] [.int (8 : Int32)] _ _ from ?_)
      refine zy_2 rfl rfl (show zyR _ _ _ _ [some (.ref (43 + 3)), some (.int x1), some (.int x2)] [.int x2, .int (8 : Int32)] _ _ from ?_)
      refine zy_12 rfl (show zyR _ _ _ _ [some (.ref (43 + 3)), some (.int x1), some (.int x2)] [.int ((8 : Int32) * x2)] _ _ from ?_)
      refine zy_2 rfl rfl (show zyR _ _ _ _ [some (.ref (43 + 3)), some (.int x1), some (.int x2)] [.int x1, .int ((8 : Int32) * x2)] _ _ from ?_)
      refine zy_10 rfl (show zyR _ _ _ _ [some (.ref (43 + 3)), some (.int x1), some (.int x2)] [.int (((8 : Int32) * x2) + x1)] _ _ from ?_)
      refine zy_6 rfl (show zyR _ _ _ _ [some (.ref (43 + 3)), some (.int x1), some (.int x2)] [.int (((8 : Int32) * x2) + x1)] _ _ from ?_)
      obtain ⟨rfl, rfl⟩ := zy_pi h
      exact zy_4 rfl ⟨rfl, rfl⟩
/-! NineOpinionsModel.becomes(II)I -/
noncomputable def zyF187_97   (x1 : Int32) (x2 : Int32) (x3 : Int32) (s : zy_S) : Option (Int32 × zy_S) :=
if zy_in (s.1 43 5) 40 then
if zy_in (s.1 43 5) 40 then
if zy_in (s.1 43 5) 40 then
if zy_in x1 41 then
some (x3, (zy_up (zy_up (zy_up (zy_up (zy_up (zy_up s 45 ((s.1 43 5)).toNatClampNeg x1) 46 ((s.1 43 5)).toNatClampNeg x3) 47 ((s.1 43 5)).toNatClampNeg x2) 43 5 ((s.1 43 5) + (1 : Int32))) 43 4 ((s.1 43 5) + (1 : Int32))) 44 (x1).toNatClampNeg x2))
else none
else none
else none
else none
theorem zyC187_97 {X : zx_X}     {x1 : Int32} {x2 : Int32} {x3 : Int32} {s : zy_S} {r : Int32} {s' : zy_S}  (h : zyF187_97 x1 x2 x3 s = some (r, s')) : zyR X 1 187 97 [some (.ref (43 + 3)), some (.int x1), some (.int x2), some (.int x3), none] [] s (zyE (some (.int r)) s') := by
  unfold zyF187_97 at h
  refine zy_0 rfl rfl (show zyR _ _ _ _ [some (.ref (43 + 3)), some (.int x1), some (.int x2), some (.int x3), none] [.ref (43 + 3)] _ _ from ?_)
  refine zy_1r (c := 43) rfl rfl rfl (show zyR _ _ _ _ [some (.ref (43 + 3)), some (.int x1), some (.int x2), some (.int x3), none] [.ref (45 + 3)] _ _ from ?_)
  refine zy_0 rfl rfl (show zyR _ _ _ _ [some (.ref (43 + 3)), some (.int x1), some (.int x2), some (.int x3), none] [.ref (43 + 3), .ref (45 + 3)] _ _ from ?_)
  refine zy_1 (c := 43) rfl rfl rfl (show zyR _ _ _ _ [some (.ref (43 + 3)), some (.int x1), some (.int x2), some (.int x3), none] [.int (s.1 43 5), .ref (45 + 3)] _ _ from ?_)
  refine zy_2 rfl rfl (show zyR _ _ _ _ [some (.ref (43 + 3)), some (.int x1), some (.int x2), some (.int x3), none] [.int x1, .int (s.1 43 5), .ref (45 + 3)] _ _ from ?_)
  obtain ⟨c1, h⟩ := zy_if h
  refine zy_27 (c := 45) rfl rfl c1 (show zyR _ _ _ _ [some (.ref (43 + 3)), some (.int x1), some (.int x2), some (.int x3), none] [] _ _ from ?_)
  refine zy_0 rfl rfl (show zyR _ _ _ _ [some (.ref (43 + 3)), some (.int x1), some (.int x2), some (.int x3), none] [.ref (43 + 3)] _ _ from ?_)
  refine zy_1r (c := 43) rfl rfl rfl (show zyR _ _ _ _ [some (.ref (43 + 3)), some (.int x1), some (.int x2), some (.int x3), none] [.ref (46 + 3)] _ _ from ?_)
  refine zy_0 rfl rfl (show zyR _ _ _ _ [some (.ref (43 + 3)), some (.int x1), some (.int x2), some (.int x3), none] [.ref (43 + 3), .ref (46 + 3)] _ _ from ?_)
  refine zy_1 (c := 43) rfl rfl rfl (show zyR _ _ _ _ [some (.ref (43 + 3)), some (.int x1), some (.int x2), some (.int x3), none] [.int (s.1 43 5), .ref (46 + 3)] _ _ from ?_)
  refine zy_2 rfl rfl (show zyR _ _ _ _ [some (.ref (43 + 3)), some (.int x1), some (.int x2), some (.int x3), none] [.int x3, .int (s.1 43 5), .ref (46 + 3)] _ _ from ?_)
  obtain ⟨c2, h⟩ := zy_if h
  refine zy_27 (c := 46) rfl rfl c2 (show zyR _ _ _ _ [some (.ref (43 + 3)), some (.int x1), some (.int x2), some (.int x3), none] [] _ _ from ?_)
  refine zy_0 rfl rfl (show zyR _ _ _ _ [some (.ref (43 + 3)), some (.int x1), some (.int x2), some (.int x3), none] [.ref (43 + 3)] _ _ from ?_)
  refine zy_1r (c := 43) rfl rfl rfl (show zyR _ _ _ _ [some (.ref (43 + 3)), some (.int x1), some (.int x2), some (.int x3), none] [.ref (47 + 3)] _ _ from ?_)
  refine zy_0 rfl rfl (show zyR _ _ _ _ [some (.ref (43 + 3)), some (.int x1), some (.int x2), some (.int x3), none] [.ref (43 + 3), .ref (47 + 3)] _ _ from ?_)
  refine zy_1 (c := 43) rfl rfl rfl (show zyR _ _ _ _ [some (.ref (43 + 3)), some (.int x1), some (.int x2), some (.int x3), none] [.int (s.1 43 5), .ref (47 + 3)] _ _ from ?_)
  refine zy_2 rfl rfl (show zyR _ _ _ _ [some (.ref (43 + 3)), some (.int x1), some (.int x2), some (.int x3), none] [.int x2, .int (s.1 43 5), .ref (47 + 3)] _ _ from ?_)
  obtain ⟨c3, h⟩ := zy_if h
  refine zy_27 (c := 47) rfl rfl c3 (show zyR _ _ _ _ [some (.ref (43 + 3)), some (.int x1), some (.int x2), some (.int x3), none] [] _ _ from ?_)
  refine zy_0 rfl rfl (show zyR _ _ _ _ [some (.ref (43 + 3)), some (.int x1), some (.int x2), some (.int x3), none] [.ref (43 + 3)] _ _ from ?_)
  refine zy_33 rfl rfl (show zyR _ _ _ _ [some (.ref (43 + 3)), some (.int x1), some (.int x2), some (.int x3), none] [.ref (43 + 3), .ref (43 + 3)] _ _ from ?_)
  refine zy_1 (c := 43) rfl rfl rfl (show zyR _ _ _ _ [some (.ref (43 + 3)), some (.int x1), some (.int x2), some (.int x3), none] [.int (s.1 43 5), .ref (43 + 3)] _ _ from ?_)
  refine zy_3 rfl rfl (show zyR _ _ _ _ [some (.ref (43 + 3)), some (.int x1), some (.int x2), some (.int x3), none] [.int (1 : Int32), .int (s.1 43 5), .ref (43 + 3)] _ _ from ?_)
  refine zy_10 rfl (show zyR _ _ _ _ [some (.ref (43 + 3)), some (.int x1), some (.int x2), some (.int x3), none] [.int ((s.1 43 5) + (1 : Int32)), .ref (43 + 3)] _ _ from ?_)
  refine zy_52 (c := 43) rfl rfl rfl (show zyR _ _ _ _ [some (.ref (43 + 3)), some (.int x1), some (.int x2), some (.int x3), none] [] _ _ from ?_)
  refine zy_0 rfl rfl (show zyR _ _ _ _ [some (.ref (43 + 3)), some (.int x1), some (.int x2), some (.int x3), none] [.ref (43 + 3)] _ _ from ?_)
  refine zy_0 rfl rfl (show zyR _ _ _ _ [some (.ref (43 + 3)), some (.int x1), some (.int x2), some (.int x3), none] [.ref (43 + 3), .ref (43 + 3)] _ _ from ?_)
  refine zy_1 (c := 43) rfl rfl rfl (show zyR _ _ _ _ [some (.ref (43 + 3)), some (.int x1), some (.int x2), some (.int x3), none] [.int ((s.1 43 5) + (1 : Int32)), .ref (43 + 3)] _ _ from ?_)
  refine zy_52 (c := 43) rfl rfl rfl (show zyR _ _ _ _ [some (.ref (43 + 3)), some (.int x1), some (.int x2), some (.int x3), none] [] _ _ from ?_)
  refine zy_0 rfl rfl (show zyR _ _ _ _ [some (.ref (43 + 3)), some (.int x1), some (.int x2), some (.int x3), none] [.ref (43 + 3)] _ _ from ?_)
  refine zy_1r (c := 43) rfl rfl rfl (show zyR _ _ _ _ [some (.ref (43 + 3)), some (.int x1), some (.int x2), some (.int x3), none] [.ref (44 + 3)] _ _ from ?_)
  refine zy_2 rfl rfl (show zyR _ _ _ _ [some (.ref (43 + 3)), some (.int x1), some (.int x2), some (.int x3), none] [.int x1, .ref (44 + 3)] _ _ from ?_)
  refine zy_2 rfl rfl (show zyR _ _ _ _ [some (.ref (43 + 3)), some (.int x1), some (.int x2), some (.int x3), none] [.int x2, .int x1, .ref (44 + 3)] _ _ from ?_)
  obtain ⟨c4, h⟩ := zy_if h
  refine zy_27 (c := 44) rfl rfl c4 (show zyR _ _ _ _ [some (.ref (43 + 3)), some (.int x1), some (.int x2), some (.int x3), none] [] _ _ from ?_)
  refine zy_2 rfl rfl (show zyR _ _ _ _ [some (.ref (43 + 3)), some (.int x1), some (.int x2), some (.int x3), none] [.int x3] _ _ from ?_)
  obtain ⟨rfl, rfl⟩ := zy_pi h
  exact zy_4 rfl ⟨rfl, rfl⟩
noncomputable def zyF187_26b  (k26 : Int32 → Int32 → Int32 → Int32 → zy_S → Option (Int32 × zy_S)) (x1 : Int32) (x2 : Int32) (x3 : Int32) (x4 : Int32) (s : zy_S) : Option (Int32 × zy_S) :=
if (40 : Int32) ≤ x4 then
zyF187_97 x1 x2 x3 (zy_up s 43 5 ((s.1 43 5) - (1 : Int32)))
else
if zy_in x4 40 then
if zy_in (x4 - (1 : Int32)) 40 then
if zy_in x4 40 then
if zy_in (x4 - (1 : Int32)) 40 then
if zy_in x4 40 then
if zy_in (x4 - (1 : Int32)) 40 then
k26 x1 x2 x3 (x4 + (1 : Int32)) (zy_up (zy_up (zy_up s 45 ((x4 - (1 : Int32))).toNatClampNeg (s.1 45 (x4).toNatClampNeg)) 46 ((x4 - (1 : Int32))).toNatClampNeg (s.1 46 (x4).toNatClampNeg)) 47 ((x4 - (1 : Int32))).toNatClampNeg (s.1 47 (x4).toNatClampNeg))
else none
else none
else none
else none
else none
else none
theorem zyC187_26b {X : zx_X}  {k26 : Int32 → Int32 → Int32 → Int32 → zy_S → Option (Int32 × zy_S)}  (hk26 : ∀ (x1 : Int32) (x2 : Int32) (x3 : Int32) (x4 : Int32) (s : zy_S) (r : Int32) (s' : zy_S), k26 x1 x2 x3 x4 s = some (r, s') → zyR X 1 187 26 [some (.ref (43 + 3)), some (.int x1), some (.int x2), some (.int x3), some (.int x4)] [] s (zyE (some (.int r)) s')) {x1 : Int32} {x2 : Int32} {x3 : Int32} {x4 : Int32} {s : zy_S} {r : Int32} {s' : zy_S}  (h : zyF187_26b k26 x1 x2 x3 x4 s = some (r, s')) : zyR X 1 187 26 [some (.ref (43 + 3)), some (.int x1), some (.int x2), some (.int x3), some (.int x4)] [] s (zyE (some (.int r)) s') := by
  unfold zyF187_26b at h
  refine zy_2 rfl rfl (show zyR _ _ _ _ [some (.ref (43 + 3)), some (.int x1), some (.int x2), some (.int x3), some (.int x4)] [.int x4] _ _ from ?_)
  refine zy_3 rfl rfl (show zyR _ _ _ _ [some (.ref (43 + 3)), some (.int x1), some (.int x2), some (.int x3), some (.int x4)] [.int (40 : Int32), .int x4] _ _ from ?_)
  refine zy_25_3 rfl (fun b11 => (show zyR _ _ _ _ [some (.ref (43 + 3)), some (.int x1), some (.int x2), some (.int x3), some (.int x4)] [] _ _ from ?_)) (fun b11 => (show zyR _ _ _ _ [some (.ref (43 + 3)), some (.int x1), some (.int x2), some (.int x3), some (.int x4)] [] _ _ from ?_))
  · replace h := zy_ifp h b11
    refine zy_0 rfl rfl (show zyR _ _ _ _ [some (.ref (43 + 3)), some (.int x1), some (.int x2), some (.int x3), some (.int x4)] [.ref (43 + 3)] _ _ from ?_)
    refine zy_33 rfl rfl (show zyR _ _ _ _ [some (.ref (43 + 3)), some (.int x1), some (.int x2), some (.int x3), some (.int x4)] [.ref (43 + 3), .ref (43 + 3)] _ _ from ?_)
    refine zy_1 (c := 43) rfl rfl rfl (show zyR _ _ _ _ [some (.ref (43 + 3)), some (.int x1), some (.int x2), some (.int x3), some (.int x4)] [.int (s.1 43 5), .ref (43 + 3)] _ _ from ?_)
    refine zy_3 rfl rfl (show zyR _ _ _ _ [some (.ref (43 + 3)), some (.int x1), some (.int x2), some (.int x3), some (.int x4)] [.int (1 : Int32), .int (s.1 43 5), .ref (43 + 3)] _ _ from ?_)
    refine zy_11 rfl (show zyR _ _ _ _ [some (.ref (43 + 3)), some (.int x1), some (.int x2), some (.int x3), some (.int x4)] [.int ((s.1 43 5) - (1 : Int32)), .ref (43 + 3)] _ _ from ?_)
    refine zy_52 (c := 43) rfl rfl rfl (show zyR _ _ _ _ [some (.ref (43 + 3)), some (.int x1), some (.int x2), some (.int x3), some (.int x4)] [] _ _ from ?_)
    exact zy_sub (show zy_le [some (.ref (43 + 3)), some (.int x1), some (.int x2), some (.int x3), none] [some (.ref (43 + 3)), some (.int x1), some (.int x2), some (.int x3), some (.int x4)] from ⟨rfl, ⟨rfl, ⟨rfl, ⟨rfl, trivial⟩⟩⟩⟩) (zyC187_97 h)
  · replace h := zy_ifn h b11
    refine zy_0 rfl rfl (show zyR _ _ _ _ [some (.ref (43 + 3)), some (.int x1), some (.int x2), some (.int x3), some (.int x4)] [.ref (43 + 3)] _ _ from ?_)
    refine zy_1r (c := 43) rfl rfl rfl (show zyR _ _ _ _ [some (.ref (43 + 3)), some (.int x1), some (.int x2), some (.int x3), some (.int x4)] [.ref (45 + 3)] _ _ from ?_)
    refine zy_2 rfl rfl (show zyR _ _ _ _ [some (.ref (43 + 3)), some (.int x1), some (.int x2), some (.int x3), some (.int x4)] [.int x4, .ref (45 + 3)] _ _ from ?_)
    refine zy_3 rfl rfl (show zyR _ _ _ _ [some (.ref (43 + 3)), some (.int x1), some (.int x2), some (.int x3), some (.int x4)] [.int (1 : Int32), .int x4, .ref (45 + 3)] _ _ from ?_)
    refine zy_11 rfl (show zyR _ _ _ _ [some (.ref (43 + 3)), some (.int x1), some (.int x2), some (.int x3), some (.int x4)] [.int (x4 - (1 : Int32)), .ref (45 + 3)] _ _ from ?_)
    refine zy_0 rfl rfl (show zyR _ _ _ _ [some (.ref (43 + 3)), some (.int x1), some (.int x2), some (.int x3), some (.int x4)] [.ref (43 + 3), .int (x4 - (1 : Int32)), .ref (45 + 3)] _ _ from ?_)
    refine zy_1r (c := 43) rfl rfl rfl (show zyR _ _ _ _ [some (.ref (43 + 3)), some (.int x1), some (.int x2), some (.int x3), some (.int x4)] [.ref (45 + 3), .int (x4 - (1 : Int32)), .ref (45 + 3)] _ _ from ?_)
    refine zy_2 rfl rfl (show zyR _ _ _ _ [some (.ref (43 + 3)), some (.int x1), some (.int x2), some (.int x3), some (.int x4)] [.int x4, .ref (45 + 3), .int (x4 - (1 : Int32)), .ref (45 + 3)] _ _ from ?_)
    obtain ⟨c5, h⟩ := zy_if h
    refine zy_26 (c := 45) rfl rfl c5 (show zyR _ _ _ _ [some (.ref (43 + 3)), some (.int x1), some (.int x2), some (.int x3), some (.int x4)] [.int (s.1 45 (x4).toNatClampNeg), .int (x4 - (1 : Int32)), .ref (45 + 3)] _ _ from ?_)
    obtain ⟨c6, h⟩ := zy_if h
    refine zy_27 (c := 45) rfl rfl c6 (show zyR _ _ _ _ [some (.ref (43 + 3)), some (.int x1), some (.int x2), some (.int x3), some (.int x4)] [] _ _ from ?_)
    refine zy_0 rfl rfl (show zyR _ _ _ _ [some (.ref (43 + 3)), some (.int x1), some (.int x2), some (.int x3), some (.int x4)] [.ref (43 + 3)] _ _ from ?_)
    refine zy_1r (c := 43) rfl rfl rfl (show zyR _ _ _ _ [some (.ref (43 + 3)), some (.int x1), some (.int x2), some (.int x3), some (.int x4)] [.ref (46 + 3)] _ _ from ?_)
    refine zy_2 rfl rfl (show zyR _ _ _ _ [some (.ref (43 + 3)), some (.int x1), some (.int x2), some (.int x3), some (.int x4)] [.int x4, .ref (46 + 3)] _ _ from ?_)
    refine zy_3 rfl rfl (show zyR _ _ _ _ [some (.ref (43 + 3)), some (.int x1), some (.int x2), some (.int x3), some (.int x4)] [.int (1 : Int32), .int x4, .ref (46 + 3)] _ _ from ?_)
    refine zy_11 rfl (show zyR _ _ _ _ [some (.ref (43 + 3)), some (.int x1), some (.int x2), some (.int x3), some (.int x4)] [.int (x4 - (1 : Int32)), .ref (46 + 3)] _ _ from ?_)
    refine zy_0 rfl rfl (show zyR _ _ _ _ [some (.ref (43 + 3)), some (.int x1), some (.int x2), some (.int x3), some (.int x4)] [.ref (43 + 3), .int (x4 - (1 : Int32)), .ref (46 + 3)] _ _ from ?_)
    refine zy_1r (c := 43) rfl rfl rfl (show zyR _ _ _ _ [some (.ref (43 + 3)), some (.int x1), some (.int x2), some (.int x3), some (.int x4)] [.ref (46 + 3), .int (x4 - (1 : Int32)), .ref (46 + 3)] _ _ from ?_)
    refine zy_2 rfl rfl (show zyR _ _ _ _ [some (.ref (43 + 3)), some (.int x1), some (.int x2), some (.int x3), some (.int x4)] [.int x4, .ref (46 + 3), .int (x4 - (1 : Int32)), .ref (46 + 3)] _ _ from ?_)
    obtain ⟨c7, h⟩ := zy_if h
    refine zy_26 (c := 46) rfl rfl c7 (show zyR _ _ _ _ [some (.ref (43 + 3)), some (.int x1), some (.int x2), some (.int x3), some (.int x4)] [.int (s.1 46 (x4).toNatClampNeg), .int (x4 - (1 : Int32)), .ref (46 + 3)] _ _ from ?_)
    obtain ⟨c8, h⟩ := zy_if h
    refine zy_27 (c := 46) rfl rfl c8 (show zyR _ _ _ _ [some (.ref (43 + 3)), some (.int x1), some (.int x2), some (.int x3), some (.int x4)] [] _ _ from ?_)
    refine zy_0 rfl rfl (show zyR _ _ _ _ [some (.ref (43 + 3)), some (.int x1), some (.int x2), some (.int x3), some (.int x4)] [.ref (43 + 3)] _ _ from ?_)
    refine zy_1r (c := 43) rfl rfl rfl (show zyR _ _ _ _ [some (.ref (43 + 3)), some (.int x1), some (.int x2), some (.int x3), some (.int x4)] [.ref (47 + 3)] _ _ from ?_)
    refine zy_2 rfl rfl (show zyR _ _ _ _ [some (.ref (43 + 3)), some (.int x1), some (.int x2), some (.int x3), some (.int x4)] [.int x4, .ref (47 + 3)] _ _ from ?_)
    refine zy_3 rfl rfl (show zyR _ _ _ _ [some (.ref (43 + 3)), some (.int x1), some (.int x2), some (.int x3), some (.int x4)] [.int (1 : Int32), .int x4, .ref (47 + 3)] _ _ from ?_)
    refine zy_11 rfl (show zyR _ _ _ _ [some (.ref (43 + 3)), some (.int x1), some (.int x2), some (.int x3), some (.int x4)] [.int (x4 - (1 : Int32)), .ref (47 + 3)] _ _ from ?_)
    refine zy_0 rfl rfl (show zyR _ _ _ _ [some (.ref (43 + 3)), some (.int x1), some (.int x2), some (.int x3), some (.int x4)] [.ref (43 + 3), .int (x4 - (1 : Int32)), .ref (47 + 3)] _ _ from ?_)
    refine zy_1r (c := 43) rfl rfl rfl (show zyR _ _ _ _ [some (.ref (43 + 3)), some (.int x1), some (.int x2), some (.int x3), some (.int x4)] [.ref (47 + 3), .int (x4 - (1 : Int32)), .ref (47 + 3)] _ _ from ?_)
    refine zy_2 rfl rfl (show zyR _ _ _ _ [some (.ref (43 + 3)), some (.int x1), some (.int x2), some (.int x3), some (.int x4)] [.int x4, .ref (47 + 3), .int (x4 - (1 : Int32)), .ref (47 + 3)] _ _ from ?_)
    obtain ⟨c9, h⟩ := zy_if h
    refine zy_26 (c := 47) rfl rfl c9 (show zyR _ _ _ _ [some (.ref (43 + 3)), some (.int x1), some (.int x2), some (.int x3), some (.int x4)] [.int (s.1 47 (x4).toNatClampNeg), .int (x4 - (1 : Int32)), .ref (47 + 3)] _ _ from ?_)
    obtain ⟨c10, h⟩ := zy_if h
    refine zy_27 (c := 47) rfl rfl c10 (show zyR _ _ _ _ [some (.ref (43 + 3)), some (.int x1), some (.int x2), some (.int x3), some (.int x4)] [] _ _ from ?_)
    refine zy_22 rfl rfl rfl rfl (show zyR _ _ _ _ [some (.ref (43 + 3)), some (.int x1), some (.int x2), some (.int x3), some (.int (x4 + (1 : Int32)))] [] _ _ from ?_)
    refine zy_6 rfl (show zyR _ _ _ _ [some (.ref (43 + 3)), some (.int x1), some (.int x2), some (.int x3), some (.int (x4 + (1 : Int32)))] [] _ _ from ?_)
    exact zy_sub (show zy_le [some (.ref (43 + 3)), some (.int x1), some (.int x2), some (.int x3), some (.int (x4 + (1 : Int32)))] [some (.ref (43 + 3)), some (.int x1), some (.int x2), some (.int x3), some (.int (x4 + (1 : Int32)))] from ⟨rfl, ⟨rfl, ⟨rfl, ⟨rfl, ⟨rfl, trivial⟩⟩⟩⟩⟩) (hk26 x1 x2 x3 (x4 + (1 : Int32)) (zy_up (zy_up (zy_up s 45 ((x4 - (1 : Int32))).toNatClampNeg (s.1 45 (x4).toNatClampNeg)) 46 ((x4 - (1 : Int32))).toNatClampNeg (s.1 46 (x4).toNatClampNeg)) 47 ((x4 - (1 : Int32))).toNatClampNeg (s.1 47 (x4).toNatClampNeg)) _ _ h)
noncomputable def zyF187_26   (n : Nat) : Int32 → Int32 → Int32 → Int32 → zy_S → Option (Int32 × zy_S) := Nat.rec (fun _ _ _ _ _ => none) (fun _ k26 => zyF187_26b k26) n
theorem zyC187_26 {X : zx_X}     : ∀ (n : Nat) (x1 : Int32) (x2 : Int32) (x3 : Int32) (x4 : Int32) (s : zy_S) (r : Int32) (s' : zy_S), zyF187_26 n x1 x2 x3 x4 s = some (r, s') → zyR X 1 187 26 [some (.ref (43 + 3)), some (.int x1), some (.int x2), some (.int x3), some (.int x4)] [] s (zyE (some (.int r)) s')
  | 0, _, _, _, _ => by
    intro s r s'  h
    have h : (none : Option (Int32 × zy_S)) = some (r, s') := h
    cases h
  | n + 1, x1, x2, x3, x4 => by
    intro s r s'  h
    exact zyC187_26b (k26 := zyF187_26 n) (fun x1 x2 x3 x4 s r s'  h => zyC187_26  n x1 x2 x3 x4 s r s'  h) h
noncomputable def zyF187   (x1 : Int32) (x2 : Int32) (s : zy_S) : Option (Int32 × zy_S) :=
if zy_in x1 41 then
if (s.1 44 (x1).toNatClampNeg) ≠ x2 then
if (s.1 43 5) ≠ (40 : Int32) then
zyF187_97 x1 x2 (s.1 44 (x1).toNatClampNeg) s
else
zyF187_26 zy_fu x1 x2 (s.1 44 (x1).toNatClampNeg) (1 : Int32) s
else
some ((s.1 44 (x1).toNatClampNeg), s)
else none
theorem zyC187 {X : zx_X}     {x1 : Int32} {x2 : Int32} {s : zy_S} {r : Int32} {s' : zy_S}  (h : zyF187 x1 x2 s = some (r, s')) : zyR X 1 187 0 [some (.ref (43 + 3)), some (.int x1), some (.int x2), none, none] [] s (zyE (some (.int r)) s') := by
  unfold zyF187 at h
  refine zy_0 rfl rfl (show zyR _ _ _ _ [some (.ref (43 + 3)), some (.int x1), some (.int x2), none, none] [.ref (43 + 3)] _ _ from ?_)
  refine zy_1r (c := 43) rfl rfl rfl (show zyR _ _ _ _ [some (.ref (43 + 3)), some (.int x1), some (.int x2), none, none] [.ref (44 + 3)] _ _ from ?_)
  refine zy_2 rfl rfl (show zyR _ _ _ _ [some (.ref (43 + 3)), some (.int x1), some (.int x2), none, none] [.int x1, .ref (44 + 3)] _ _ from ?_)
  obtain ⟨c12, h⟩ := zy_if h
  refine zy_26 (c := 44) rfl rfl c12 (show zyR _ _ _ _ [some (.ref (43 + 3)), some (.int x1), some (.int x2), none, none] [.int (s.1 44 (x1).toNatClampNeg)] _ _ from ?_)
  refine zy_23 rfl rfl (show zyR _ _ _ _ [some (.ref (43 + 3)), some (.int x1), some (.int x2), some (.int (s.1 44 (x1).toNatClampNeg)), none] [] _ _ from ?_)
  refine zy_2 rfl rfl (show zyR _ _ _ _ [some (.ref (43 + 3)), some (.int x1), some (.int x2), some (.int (s.1 44 (x1).toNatClampNeg)), none] [.int (s.1 44 (x1).toNatClampNeg)] _ _ from ?_)
  refine zy_2 rfl rfl (show zyR _ _ _ _ [some (.ref (43 + 3)), some (.int x1), some (.int x2), some (.int (s.1 44 (x1).toNatClampNeg)), none] [.int x2, .int (s.1 44 (x1).toNatClampNeg)] _ _ from ?_)
  refine zy_25_1 rfl (fun b14 => (show zyR _ _ _ _ [some (.ref (43 + 3)), some (.int x1), some (.int x2), some (.int (s.1 44 (x1).toNatClampNeg)), none] [] _ _ from ?_)) (fun b14 => (show zyR _ _ _ _ [some (.ref (43 + 3)), some (.int x1), some (.int x2), some (.int (s.1 44 (x1).toNatClampNeg)), none] [] _ _ from ?_))
  · replace h := zy_ifp h b14
    refine zy_0 rfl rfl (show zyR _ _ _ _ [some (.ref (43 + 3)), some (.int x1), some (.int x2), some (.int (s.1 44 (x1).toNatClampNeg)), none] [.ref (43 + 3)] _ _ from ?_)
    refine zy_1 (c := 43) rfl rfl rfl (show zyR _ _ _ _ [some (.ref (43 + 3)), some (.int x1), some (.int x2), some (.int (s.1 44 (x1).toNatClampNeg)), none] [.int (s.1 43 5)] _ _ from ?_)
    refine zy_3 rfl rfl (show zyR _ _ _ _ [some (.ref (43 + 3)), some (.int x1), some (.int x2), some (.int (s.1 44 (x1).toNatClampNeg)), none] [.int (40 : Int32), .int (s.1 43 5)] _ _ from ?_)
    refine zy_25_1 rfl (fun b13 => (show zyR _ _ _ _ [some (.ref (43 + 3)), some (.int x1), some (.int x2), some (.int (s.1 44 (x1).toNatClampNeg)), none] [] _ _ from ?_)) (fun b13 => (show zyR _ _ _ _ [some (.ref (43 + 3)), some (.int x1), some (.int x2), some (.int (s.1 44 (x1).toNatClampNeg)), none] [] _ _ from ?_))
    · replace h := zy_ifp h b13
      exact zy_sub (show zy_le [some (.ref (43 + 3)), some (.int x1), some (.int x2), some (.int (s.1 44 (x1).toNatClampNeg)), none] [some (.ref (43 + 3)), some (.int x1), some (.int x2), some (.int (s.1 44 (x1).toNatClampNeg)), none] from ⟨rfl, ⟨rfl, ⟨rfl, ⟨rfl, trivial⟩⟩⟩⟩) (zyC187_97 h)
    · replace h := zy_ifn h b13
      refine zy_3 rfl rfl (show zyR _ _ _ _ [some (.ref (43 + 3)), some (.int x1), some (.int x2), some (.int (s.1 44 (x1).toNatClampNeg)), none] [.int (1 : Int32)] _ _ from ?_)
      refine zy_23 rfl rfl (show zyR _ _ _ _ [some (.ref (43 + 3)), some (.int x1), some (.int x2), some (.int (s.1 44 (x1).toNatClampNeg)), some (.int (1 : Int32))] [] _ _ from ?_)
      exact zy_sub (show zy_le [some (.ref (43 + 3)), some (.int x1), some (.int x2), some (.int (s.1 44 (x1).toNatClampNeg)), some (.int (1 : Int32))] [some (.ref (43 + 3)), some (.int x1), some (.int x2), some (.int (s.1 44 (x1).toNatClampNeg)), some (.int (1 : Int32))] from ⟨rfl, ⟨rfl, ⟨rfl, ⟨rfl, ⟨rfl, trivial⟩⟩⟩⟩⟩) (zyC187_26 zy_fu x1 x2 (s.1 44 (x1).toNatClampNeg) (1 : Int32) s _ _ h)
  · replace h := zy_ifn h b14
    refine zy_2 rfl rfl (show zyR _ _ _ _ [some (.ref (43 + 3)), some (.int x1), some (.int x2), some (.int (s.1 44 (x1).toNatClampNeg)), none] [.int (s.1 44 (x1).toNatClampNeg)] _ _ from ?_)
    obtain ⟨rfl, rfl⟩ := zy_pi h
    exact zy_4 rfl ⟨rfl, rfl⟩
/-! NineOpinionsModel.mend(III)I -/
noncomputable def zyF183_38   (x3 : Int32) (x4 : Int32) (y0 : Int64) (y1 : Int64) (y2 : Int64) (s : zy_S) : Option (Int32 × zy_S) :=
(zyF179 y2 y1 y0 s).bind fun p1 =>
if p1.1 = 0 then
some ((-1 : Int32), p1.2)
else
(zyF187 x4 x3 p1.2).bind fun p2 =>
some (p2.1, p2.2)
theorem zyC183_38 {X : zx_X}     {x3 : Int32} {x4 : Int32} {y0 : Int64} {y1 : Int64} {y2 : Int64} {s : zy_S} {r : Int32} {s' : zy_S}  (h : zyF183_38 x3 x4 y0 y1 y2 s = some (r, s')) : zyR X 4 183 38 [some (.ref (43 + 3)), none, none, some (.int x3), some (.int x4)] [.long y0, .long y1, .long y2] s (zyE (some (.int r)) s') := by
  unfold zyF183_38 at h
  obtain ⟨p1, hp1, h⟩ := zy_bind h
  refine zy_60 (as := [.long y2, .long y1, .long y0]) (rest := []) (L := [some (.long y2), none, some (.long y1), none, some (.long y0), none]) (d' := 1) rfl rfl (Nat.le_of_ble_eq_true rfl) (Nat.le_of_ble_eq_true rfl) rfl (Nat.le_of_ble_eq_true rfl) rfl rfl (zyC179 hp1) ?_
  show zyR _ _ _ _ [some (.ref (43 + 3)), none, none, some (.int x3), some (.int x4)] [.int p1.1] _ _
  refine zy_24_0 rfl (fun b3 => (show zyR _ _ _ _ [some (.ref (43 + 3)), none, none, some (.int x3), some (.int x4)] [] _ _ from ?_)) (fun b3 => (show zyR _ _ _ _ [some (.ref (43 + 3)), none, none, some (.int x3), some (.int x4)] [] _ _ from ?_))
  · replace h := zy_ifp h b3
    refine zy_3 rfl rfl (show zyR _ _ _ _ [some (.ref (43 + 3)), none, none, some (.int x3), some (.int x4)] [.int (-1 : Int32)] _ _ from ?_)
    obtain ⟨rfl, rfl⟩ := zy_pi h
    exact zy_4 rfl ⟨rfl, rfl⟩
  · replace h := zy_ifn h b3
    refine zy_0 rfl rfl (show zyR _ _ _ _ [some (.ref (43 + 3)), none, none, some (.int x3), some (.int x4)] [.ref (43 + 3)] _ _ from ?_)
    refine zy_2 rfl rfl (show zyR _ _ _ _ [some (.ref (43 + 3)), none, none, some (.int x3), some (.int x4)] [.int x4, .ref (43 + 3)] _ _ from ?_)
    refine zy_2 rfl rfl (show zyR _ _ _ _ [some (.ref (43 + 3)), none, none, some (.int x3), some (.int x4)] [.int x3, .int x4, .ref (43 + 3)] _ _ from ?_)
    obtain ⟨p2, hp2, h⟩ := zy_bind h
    refine zy_5 (c := 43) (as := [.int x4, .int x3]) (rest := []) (L := [some (.ref (43 + 3)), some (.int x4), some (.int x3), none, none]) (d' := 1) rfl rfl rfl (Nat.le_of_ble_eq_true rfl) (Nat.le_of_ble_eq_true rfl) rfl (Nat.le_of_ble_eq_true rfl) rfl rfl (zyC187 hp2) ?_
    show zyR _ _ _ _ [some (.ref (43 + 3)), none, none, some (.int x3), some (.int x4)] [.int p2.1] _ _
    refine zy_6 rfl (show zyR _ _ _ _ [some (.ref (43 + 3)), none, none, some (.int x3), some (.int x4)] [.int p2.1] _ _ from ?_)
    obtain ⟨rfl, rfl⟩ := zy_pi h
    exact zy_4 rfl ⟨rfl, rfl⟩
noncomputable def zyF183_25   (x2 : Int32) (x3 : Int32) (x4 : Int32) (y0 : Int64) (y1 : Int64) (s : zy_S) : Option (Int32 × zy_S) :=
if x2 ≠ 0 then
zyF183_38 x3 x4 (9 : Int64) y0 y1 s
else
zyF183_38 x3 x4 (4095 : Int64) y0 y1 s
theorem zyC183_25 {X : zx_X}     {x2 : Int32} {x3 : Int32} {x4 : Int32} {y0 : Int64} {y1 : Int64} {s : zy_S} {r : Int32} {s' : zy_S}  (h : zyF183_25 x2 x3 x4 y0 y1 s = some (r, s')) : zyR X 4 183 25 [some (.ref (43 + 3)), none, some (.int x2), some (.int x3), some (.int x4)] [.long y0, .long y1] s (zyE (some (.int r)) s') := by
  unfold zyF183_25 at h
  refine zy_2 rfl rfl (show zyR _ _ _ _ [some (.ref (43 + 3)), none, some (.int x2), some (.int x3), some (.int x4)] [.int x2, .long y0, .long y1] _ _ from ?_)
  refine zy_24_1 rfl (fun b4 => (show zyR _ _ _ _ [some (.ref (43 + 3)), none, some (.int x2), some (.int x3), some (.int x4)] [.long y0, .long y1] _ _ from ?_)) (fun b4 => (show zyR _ _ _ _ [some (.ref (43 + 3)), none, some (.int x2), some (.int x3), some (.int x4)] [.long y0, .long y1] _ _ from ?_))
  · replace h := zy_ifp h b4
    refine zy_36c rfl rfl (show zyR _ _ _ _ [some (.ref (43 + 3)), none, some (.int x2), some (.int x3), some (.int x4)] [.long (9 : Int64), .long y0, .long y1] _ _ from ?_)
    exact zy_sub (show zy_le [some (.ref (43 + 3)), none, none, some (.int x3), some (.int x4)] [some (.ref (43 + 3)), none, some (.int x2), some (.int x3), some (.int x4)] from ⟨rfl, ⟨rfl, ⟨rfl, trivial⟩⟩⟩) (zyC183_38 h)
  · replace h := zy_ifn h b4
    refine zy_36c rfl rfl (show zyR _ _ _ _ [some (.ref (43 + 3)), none, some (.int x2), some (.int x3), some (.int x4)] [.long (4095 : Int64), .long y0, .long y1] _ _ from ?_)
    refine zy_6 rfl (show zyR _ _ _ _ [some (.ref (43 + 3)), none, some (.int x2), some (.int x3), some (.int x4)] [.long (4095 : Int64), .long y0, .long y1] _ _ from ?_)
    exact zy_sub (show zy_le [some (.ref (43 + 3)), none, none, some (.int x3), some (.int x4)] [some (.ref (43 + 3)), none, some (.int x2), some (.int x3), some (.int x4)] from ⟨rfl, ⟨rfl, ⟨rfl, trivial⟩⟩⟩) (zyC183_38 h)
noncomputable def zyF183   (x1 : Int32) (x2 : Int32) (x3 : Int32) (s : zy_S) : Option (Int32 × zy_S) :=
(zyF184 x1 x2 s).bind fun p5 =>
if p5.1 < 0 then
some ((-1 : Int32), p5.2)
else
if x2 ≠ (3 : Int32) then
zyF183_25 x2 x3 p5.1 (0 : Int64) (x3).toInt64 p5.2
else
zyF183_25 x2 x3 p5.1 (1 : Int64) (x3).toInt64 p5.2
theorem zyC183 {X : zx_X}     {x1 : Int32} {x2 : Int32} {x3 : Int32} {s : zy_S} {r : Int32} {s' : zy_S}  (h : zyF183 x1 x2 x3 s = some (r, s')) : zyR X 4 183 0 [some (.ref (43 + 3)), some (.int x1), some (.int x2), some (.int x3), none] [] s (zyE (some (.int r)) s') := by
  unfold zyF183 at h
  refine zy_0 rfl rfl (show zyR _ _ _ _ [some (.ref (43 + 3)), some (.int x1), some (.int x2), some (.int x3), none] [.ref (43 + 3)] _ _ from ?_)
  refine zy_2 rfl rfl (show zyR _ _ _ _ [some (.ref (43 + 3)), some (.int x1), some (.int x2), some (.int x3), none] [.int x1, .ref (43 + 3)] _ _ from ?_)
  refine zy_2 rfl rfl (show zyR _ _ _ _ [some (.ref (43 + 3)), some (.int x1), some (.int x2), some (.int x3), none] [.int x2, .int x1, .ref (43 + 3)] _ _ from ?_)
  obtain ⟨p5, hp5, h⟩ := zy_bind h
  refine zy_5 (c := 43) (as := [.int x1, .int x2]) (rest := []) (L := [some (.ref (43 + 3)), some (.int x1), some (.int x2)]) (d' := 3) rfl rfl rfl (Nat.le_of_ble_eq_true rfl) (Nat.le_of_ble_eq_true rfl) rfl (Nat.le_of_ble_eq_true rfl) rfl rfl (zyC184 hp5) ?_
  show zyR _ _ _ _ [some (.ref (43 + 3)), some (.int x1), some (.int x2), some (.int x3), none] [.int p5.1] _ _
  refine zy_23 rfl rfl (show zyR _ _ _ _ [some (.ref (43 + 3)), some (.int x1), some (.int x2), some (.int x3), some (.int p5.1)] [] _ _ from ?_)
  refine zy_2 rfl rfl (show zyR _ _ _ _ [some (.ref (43 + 3)), some (.int x1), some (.int x2), some (.int x3), some (.int p5.1)] [.int p5.1] _ _ from ?_)
  refine zy_24_2 rfl (fun b7 => (show zyR _ _ _ _ [some (.ref (43 + 3)), some (.int x1), some (.int x2), some (.int x3), some (.int p5.1)] [] _ _ from ?_)) (fun b7 => (show zyR _ _ _ _ [some (.ref (43 + 3)), some (.int x1), some (.int x2), some (.int x3), some (.int p5.1)] [] _ _ from ?_))
  · replace h := zy_ifp h b7
    refine zy_3 rfl rfl (show zyR _ _ _ _ [some (.ref (43 + 3)), some (.int x1), some (.int x2), some (.int x3), some (.int p5.1)] [.int (-1 : Int32)] _ _ from ?_)
    obtain ⟨rfl, rfl⟩ := zy_pi h
    exact zy_4 rfl ⟨rfl, rfl⟩
  · replace h := zy_ifn h b7
    refine zy_2 rfl rfl (show zyR _ _ _ _ [some (.ref (43 + 3)), some (.int x1), some (.int x2), some (.int x3), some (.int p5.1)] [.int x3] _ _ from ?_)
    refine zy_40 rfl (show zyR _ _ _ _ [some (.ref (43 + 3)), some (.int x1), some (.int x2), some (.int x3), some (.int p5.1)] [.long (x3).toInt64] _ _ from ?_)
    refine zy_2 rfl rfl (show zyR _ _ _ _ [some (.ref (43 + 3)), some (.int x1), some (.int x2), some (.int x3), some (.int p5.1)] [.int x2, .long (x3).toInt64] _ _ from ?_)
    refine zy_3 rfl rfl (show zyR _ _ _ _ [some (.ref (43 + 3)), some (.int x1), some (.int x2), some (.int x3), some (.int p5.1)] [.int (3 : Int32), .int x2, .long (x3).toInt64] _ _ from ?_)
    refine zy_25_1 rfl (fun b6 => (show zyR _ _ _ _ [some (.ref (43 + 3)), some (.int x1), some (.int x2), some (.int x3), some (.int p5.1)] [.long (x3).toInt64] _ _ from ?_)) (fun b6 => (show zyR _ _ _ _ [some (.ref (43 + 3)), some (.int x1), some (.int x2), some (.int x3), some (.int p5.1)] [.long (x3).toInt64] _ _ from ?_))
    · replace h := zy_ifp h b6
      refine zy_36 rfl rfl (show zyR _ _ _ _ [some (.ref (43 + 3)), some (.int x1), some (.int x2), some (.int x3), some (.int p5.1)] [.long (0 : Int64), .long (x3).toInt64] _ _ from ?_)
      exact zy_sub (show zy_le [some (.ref (43 + 3)), none, some (.int x2), some (.int x3), some (.int p5.1)] [some (.ref (43 + 3)), some (.int x1), some (.int x2), some (.int x3), some (.int p5.1)] from ⟨rfl, ⟨rfl, ⟨rfl, ⟨rfl, trivial⟩⟩⟩⟩) (zyC183_25 h)
    · replace h := zy_ifn h b6
      refine zy_36 rfl rfl (show zyR _ _ _ _ [some (.ref (43 + 3)), some (.int x1), some (.int x2), some (.int x3), some (.int p5.1)] [.long (1 : Int64), .long (x3).toInt64] _ _ from ?_)
      refine zy_6 rfl (show zyR _ _ _ _ [some (.ref (43 + 3)), some (.int x1), some (.int x2), some (.int x3), some (.int p5.1)] [.long (1 : Int64), .long (x3).toInt64] _ _ from ?_)
      exact zy_sub (show zy_le [some (.ref (43 + 3)), none, some (.int x2), some (.int x3), some (.int p5.1)] [some (.ref (43 + 3)), some (.int x1), some (.int x2), some (.int x3), some (.int p5.1)] from ⟨rfl, ⟨rfl, ⟨rfl, ⟨rfl, trivial⟩⟩⟩⟩) (zyC183_25 h)
/-! NineOpinionsModel.feed(I)I -/
noncomputable def zyF189   (x1 : Int32) (s : zy_S) : Option (Int32 × zy_S) :=
(zyF179 (x1).toInt64 (0 : Int64) (255 : Int64) s).bind fun p1 =>
if p1.1 ≠ 0 then
if (p1.2.1 43 9) ≠ (120 : Int32) then
if zy_in (p1.2.1 43 9) 120 then
some (((p1.2.1 43 9) + (1 : Int32)), (zy_up (zy_up p1.2 48 ((p1.2.1 43 9)).toNatClampNeg x1) 43 9 ((p1.2.1 43 9) + (1 : Int32))))
else none
else
some ((-3 : Int32), p1.2)
else
some ((-1 : Int32), p1.2)
theorem zyC189 {X : zx_X}     {x1 : Int32} {s : zy_S} {r : Int32} {s' : zy_S}  (h : zyF189 x1 s = some (r, s')) : zyR X 2 189 0 [some (.ref (43 + 3)), some (.int x1)] [] s (zyE (some (.int r)) s') := by
  unfold zyF189 at h
  refine zy_2 rfl rfl (show zyR _ _ _ _ [some (.ref (43 + 3)), some (.int x1)] [.int x1] _ _ from ?_)
  refine zy_40 rfl (show zyR _ _ _ _ [some (.ref (43 + 3)), some (.int x1)] [.long (x1).toInt64] _ _ from ?_)
  refine zy_36 rfl rfl (show zyR _ _ _ _ [some (.ref (43 + 3)), some (.int x1)] [.long (0 : Int64), .long (x1).toInt64] _ _ from ?_)
  refine zy_36c rfl rfl (show zyR _ _ _ _ [some (.ref (43 + 3)), some (.int x1)] [.long (255 : Int64), .long (0 : Int64), .long (x1).toInt64] _ _ from ?_)
  obtain ⟨p1, hp1, h⟩ := zy_bind h
  refine zy_60 (as := [.long (x1).toInt64, .long (0 : Int64), .long (255 : Int64)]) (rest := []) (L := [some (.long (x1).toInt64), none, some (.long (0 : Int64)), none, some (.long (255 : Int64)), none]) (d' := 1) rfl rfl (Nat.le_of_ble_eq_true rfl) (Nat.le_of_ble_eq_true rfl) rfl (Nat.le_of_ble_eq_true rfl) rfl rfl (zyC179 hp1) ?_
  show zyR _ _ _ _ [some (.ref (43 + 3)), some (.int x1)] [.int p1.1] _ _
  refine zy_24_1 rfl (fun b4 => (show zyR _ _ _ _ [some (.ref (43 + 3)), some (.int x1)] [] _ _ from ?_)) (fun b4 => (show zyR _ _ _ _ [some (.ref (43 + 3)), some (.int x1)] [] _ _ from ?_))
  · replace h := zy_ifp h b4
    refine zy_0 rfl rfl (show zyR _ _ _ _ [some (.ref (43 + 3)), some (.int x1)] [.ref (43 + 3)] _ _ from ?_)
    refine zy_1 (c := 43) rfl rfl rfl (show zyR _ _ _ _ [some (.ref (43 + 3)), some (.int x1)] [.int (p1.2.1 43 9)] _ _ from ?_)
    refine zy_3 rfl rfl (show zyR _ _ _ _ [some (.ref (43 + 3)), some (.int x1)] [.int (120 : Int32), .int (p1.2.1 43 9)] _ _ from ?_)
    refine zy_25_1 rfl (fun b3 => (show zyR _ _ _ _ [some (.ref (43 + 3)), some (.int x1)] [] _ _ from ?_)) (fun b3 => (show zyR _ _ _ _ [some (.ref (43 + 3)), some (.int x1)] [] _ _ from ?_))
    · replace h := zy_ifp h b3
      refine zy_0 rfl rfl (show zyR _ _ _ _ [some (.ref (43 + 3)), some (.int x1)] [.ref (43 + 3)] _ _ from ?_)
      refine zy_1r (c := 43) rfl rfl rfl (show zyR _ _ _ _ [some (.ref (43 + 3)), some (.int x1)] [.ref (48 + 3)] _ _ from ?_)
      refine zy_0 rfl rfl (show zyR _ _ _ _ [some (.ref (43 + 3)), some (.int x1)] [.ref (43 + 3), .ref (48 + 3)] _ _ from ?_)
      refine zy_1 (c := 43) rfl rfl rfl (show zyR _ _ _ _ [some (.ref (43 + 3)), some (.int x1)] [.int (p1.2.1 43 9), .ref (48 + 3)] _ _ from ?_)
      refine zy_2 rfl rfl (show zyR _ _ _ _ [some (.ref (43 + 3)), some (.int x1)] [.int x1, .int (p1.2.1 43 9), .ref (48 + 3)] _ _ from ?_)
      obtain ⟨c2, h⟩ := zy_if h
      refine zy_27 (c := 48) rfl rfl c2 (show zyR _ _ _ _ [some (.ref (43 + 3)), some (.int x1)] [] _ _ from ?_)
      refine zy_0 rfl rfl (show zyR _ _ _ _ [some (.ref (43 + 3)), some (.int x1)] [.ref (43 + 3)] _ _ from ?_)
      refine zy_33 rfl rfl (show zyR _ _ _ _ [some (.ref (43 + 3)), some (.int x1)] [.ref (43 + 3), .ref (43 + 3)] _ _ from ?_)
      refine zy_1 (c := 43) rfl rfl rfl (show zyR _ _ _ _ [some (.ref (43 + 3)), some (.int x1)] [.int (p1.2.1 43 9), .ref (43 + 3)] _ _ from ?_)
      refine zy_3 rfl rfl (show zyR _ _ _ _ [some (.ref (43 + 3)), some (.int x1)] [.int (1 : Int32), .int (p1.2.1 43 9), .ref (43 + 3)] _ _ from ?_)
      refine zy_10 rfl (show zyR _ _ _ _ [some (.ref (43 + 3)), some (.int x1)] [.int ((p1.2.1 43 9) + (1 : Int32)), .ref (43 + 3)] _ _ from ?_)
      refine zy_52 (c := 43) rfl rfl rfl (show zyR _ _ _ _ [some (.ref (43 + 3)), some (.int x1)] [] _ _ from ?_)
      refine zy_0 rfl rfl (show zyR _ _ _ _ [some (.ref (43 + 3)), some (.int x1)] [.ref (43 + 3)] _ _ from ?_)
      refine zy_1 (c := 43) rfl rfl rfl (show zyR _ _ _ _ [some (.ref (43 + 3)), some (.int x1)] [.int ((p1.2.1 43 9) + (1 : Int32))] _ _ from ?_)
      obtain ⟨rfl, rfl⟩ := zy_pi h
      exact zy_4 rfl ⟨rfl, rfl⟩
    · replace h := zy_ifn h b3
      refine zy_3 rfl rfl (show zyR _ _ _ _ [some (.ref (43 + 3)), some (.int x1)] [.int (-3 : Int32)] _ _ from ?_)
      obtain ⟨rfl, rfl⟩ := zy_pi h
      exact zy_4 rfl ⟨rfl, rfl⟩
  · replace h := zy_ifn h b4
    refine zy_3 rfl rfl (show zyR _ _ _ _ [some (.ref (43 + 3)), some (.int x1)] [.int (-1 : Int32)] _ _ from ?_)
    obtain ⟨rfl, rfl⟩ := zy_pi h
    exact zy_4 rfl ⟨rfl, rfl⟩
/-! NineOpinionsModel.isIn(II)Z -/
noncomputable def zyF208   (x0 : Int32) (x1 : Int32) (s : zy_S) : Option (Int32 × zy_S) :=
if ((x0 >>> (x1 &&& 31)) &&& (1 : Int32)) ≠ (1 : Int32) then
some ((0 : Int32), s)
else
some ((1 : Int32), s)
theorem zyC208 {X : zx_X}     {x0 : Int32} {x1 : Int32} {s : zy_S} {r : Int32} {s' : zy_S}  (h : zyF208 x0 x1 s = some (r, s')) : zyR X 1 208 0 [some (.int x0), some (.int x1)] [] s (zyE (some (.int r)) s') := by
  unfold zyF208 at h
  refine zy_2 rfl rfl (show zyR _ _ _ _ [some (.int x0), some (.int x1)] [.int x0] _ _ from ?_)
  refine zy_2 rfl rfl (show zyR _ _ _ _ [some (.int x0), some (.int x1)] [.int x1, .int x0] _ _ from ?_)
  refine zy_17 rfl (show zyR _ _ _ _ [some (.int x0), some (.int x1)] [.int (x0 >>> (x1 &&& 31))] _ _ from ?_)
  refine zy_3 rfl rfl (show zyR _ _ _ _ [some (.int x0), some (.int x1)] [.int (1 : Int32), .int (x0 >>> (x1 &&& 31))] _ _ from ?_)
  refine zy_13 rfl (show zyR _ _ _ _ [some (.int x0), some (.int x1)] [.int ((x0 >>> (x1 &&& 31)) &&& (1 : Int32))] _ _ from ?_)
  refine zy_3 rfl rfl (show zyR _ _ _ _ [some (.int x0), some (.int x1)] [.int (1 : Int32), .int ((x0 >>> (x1 &&& 31)) &&& (1 : Int32))] _ _ from ?_)
  refine zy_25_1 rfl (fun b1 => (show zyR _ _ _ _ [some (.int x0), some (.int x1)] [] _ _ from ?_)) (fun b1 => (show zyR _ _ _ _ [some (.int x0), some (.int x1)] [] _ _ from ?_))
  · replace h := zy_ifp h b1
    refine zy_3 rfl rfl (show zyR _ _ _ _ [some (.int x0), some (.int x1)] [.int (0 : Int32)] _ _ from ?_)
    cases h
    exact zy_4b rfl ⟨rfl, rfl⟩ (Or.inl rfl)
  · replace h := zy_ifn h b1
    refine zy_3 rfl rfl (show zyR _ _ _ _ [some (.int x0), some (.int x1)] [.int (1 : Int32)] _ _ from ?_)
    refine zy_6 rfl (show zyR _ _ _ _ [some (.int x0), some (.int x1)] [.int (1 : Int32)] _ _ from ?_)
    cases h
    exact zy_4b rfl ⟨rfl, rfl⟩ (Or.inr rfl)
/-! NineOpinionsModel.bitsOf(I)I -/
noncomputable def zyF209_4b  (k4 : Int32 → Int32 → Int32 → zy_S → Option (Int32 × zy_S)) (x0 : Int32) (x1 : Int32) (x2 : Int32) (s : zy_S) : Option (Int32 × zy_S) :=
if (24 : Int32) ≤ x2 then
some (x1, s)
else
k4 x0 (x1 + ((x0 >>> (x2 &&& 31)) &&& (1 : Int32))) (x2 + (1 : Int32)) s
theorem zyC209_4b {X : zx_X}  {k4 : Int32 → Int32 → Int32 → zy_S → Option (Int32 × zy_S)}  (hk4 : ∀ (x0 : Int32) (x1 : Int32) (x2 : Int32) (s : zy_S) (r : Int32) (s' : zy_S), k4 x0 x1 x2 s = some (r, s') → zyR X 1 209 4 [some (.int x0), some (.int x1), some (.int x2)] [] s (zyE (some (.int r)) s')) {x0 : Int32} {x1 : Int32} {x2 : Int32} {s : zy_S} {r : Int32} {s' : zy_S}  (h : zyF209_4b k4 x0 x1 x2 s = some (r, s')) : zyR X 1 209 4 [some (.int x0), some (.int x1), some (.int x2)] [] s (zyE (some (.int r)) s') := by
  unfold zyF209_4b at h
  refine zy_2 rfl rfl (show zyR _ _ _ _ [some (.int x0), some (.int x1), some (.int x2)] [.int x2] _ _ from ?_)
  refine zy_3 rfl rfl (show zyR _ _ _ _ [some (.int x0), some (.int x1), some (.int x2)] [.int (24 : Int32), .int x2] _ _ from ?_)
  refine zy_25_3 rfl (fun b1 => (show zyR _ _ _ _ [some (.int x0), some (.int x1), some (.int x2)] [] _ _ from ?_)) (fun b1 => (show zyR _ _ _ _ [some (.int x0), some (.int x1), some (.int x2)] [] _ _ from ?_))
  · replace h := zy_ifp h b1
    refine zy_2 rfl rfl (show zyR _ _ _ _ [some (.int x0), some (.int x1), some (.int x2)] [.int x1] _ _ from ?_)
    obtain ⟨rfl, rfl⟩ := zy_pi h
    exact zy_4 rfl ⟨rfl, rfl⟩
  · replace h := zy_ifn h b1
    refine zy_2 rfl rfl (show zyR _ _ _ _ [some (.int x0), some (.int x1), some (.int x2)] [.int x1] _ _ from ?_)
    refine zy_2 rfl rfl (show zyR _ _ _ _ [some (.int x0), some (.int x1), some (.int x2)] [.int x0, .int x1] _ _ from ?_)
    refine zy_2 rfl rfl (show zyR _ _ _ _ [some (.int x0), some (.int x1), some (.int x2)] [.int x2, .int x0, .int x1] _ _ from ?_)
    refine zy_17 rfl (show zyR _ _ _ _ [some (.int x0), some (.int x1), some (.int x2)] [.int (x0 >>> (x2 &&& 31)), .int x1] _ _ from ?_)
    refine zy_3 rfl rfl (show zyR _ _ _ _ [some (.int x0), some (.int x1), some (.int x2)] [.int (1 : Int32), .int (x0 >>> (x2 &&& 31)), .int x1] _ _ from ?_)
    refine zy_13 rfl (show zyR _ _ _ _ [some (.int x0), some (.int x1), some (.int x2)] [.int ((x0 >>> (x2 &&& 31)) &&& (1 : Int32)), .int x1] _ _ from ?_)
    refine zy_10 rfl (show zyR _ _ _ _ [some (.int x0), some (.int x1), some (.int x2)] [.int (x1 + ((x0 >>> (x2 &&& 31)) &&& (1 : Int32)))] _ _ from ?_)
    refine zy_23 rfl rfl (show zyR _ _ _ _ [some (.int x0), some (.int (x1 + ((x0 >>> (x2 &&& 31)) &&& (1 : Int32)))), some (.int x2)] [] _ _ from ?_)
    refine zy_22 rfl rfl rfl rfl (show zyR _ _ _ _ [some (.int x0), some (.int (x1 + ((x0 >>> (x2 &&& 31)) &&& (1 : Int32)))), some (.int (x2 + (1 : Int32)))] [] _ _ from ?_)
    refine zy_6 rfl (show zyR _ _ _ _ [some (.int x0), some (.int (x1 + ((x0 >>> (x2 &&& 31)) &&& (1 : Int32)))), some (.int (x2 + (1 : Int32)))] [] _ _ from ?_)
    exact zy_sub (show zy_le [some (.int x0), some (.int (x1 + ((x0 >>> (x2 &&& 31)) &&& (1 : Int32)))), some (.int (x2 + (1 : Int32)))] [some (.int x0), some (.int (x1 + ((x0 >>> (x2 &&& 31)) &&& (1 : Int32)))), some (.int (x2 + (1 : Int32)))] from ⟨rfl, ⟨rfl, ⟨rfl, trivial⟩⟩⟩) (hk4 x0 (x1 + ((x0 >>> (x2 &&& 31)) &&& (1 : Int32))) (x2 + (1 : Int32)) s _ _ h)
noncomputable def zyF209_4   (n : Nat) : Int32 → Int32 → Int32 → zy_S → Option (Int32 × zy_S) := Nat.rec (fun _ _ _ _ => none) (fun _ k4 => zyF209_4b k4) n
theorem zyC209_4 {X : zx_X}     : ∀ (n : Nat) (x0 : Int32) (x1 : Int32) (x2 : Int32) (s : zy_S) (r : Int32) (s' : zy_S), zyF209_4 n x0 x1 x2 s = some (r, s') → zyR X 1 209 4 [some (.int x0), some (.int x1), some (.int x2)] [] s (zyE (some (.int r)) s')
  | 0, _, _, _ => by
    intro s r s'  h
    have h : (none : Option (Int32 × zy_S)) = some (r, s') := h
    cases h
  | n + 1, x0, x1, x2 => by
    intro s r s'  h
    exact zyC209_4b (k4 := zyF209_4 n) (fun x0 x1 x2 s r s'  h => zyC209_4  n x0 x1 x2 s r s'  h) h
noncomputable def zyF209   (x0 : Int32) (s : zy_S) : Option (Int32 × zy_S) :=
zyF209_4 zy_fu x0 (0 : Int32) (0 : Int32) s
theorem zyC209 {X : zx_X}     {x0 : Int32} {s : zy_S} {r : Int32} {s' : zy_S}  (h : zyF209 x0 s = some (r, s')) : zyR X 1 209 0 [some (.int x0), none, none] [] s (zyE (some (.int r)) s') := by
  unfold zyF209 at h
  refine zy_3 rfl rfl (show zyR _ _ _ _ [some (.int x0), none, none] [.int (0 : Int32)] _ _ from ?_)
  refine zy_23 rfl rfl (show zyR _ _ _ _ [some (.int x0), some (.int (0 : Int32)), none] [] _ _ from ?_)
  refine zy_3 rfl rfl (show zyR _ _ _ _ [some (.int x0), some (.int (0 : Int32)), none] [.int (0 : Int32)] _ _ from ?_)
  refine zy_23 rfl rfl (show zyR _ _ _ _ [some (.int x0), some (.int (0 : Int32)), some (.int (0 : Int32))] [] _ _ from ?_)
  exact zy_sub (show zy_le [some (.int x0), some (.int (0 : Int32)), some (.int (0 : Int32))] [some (.int x0), some (.int (0 : Int32)), some (.int (0 : Int32))] from ⟨rfl, ⟨rfl, ⟨rfl, trivial⟩⟩⟩) (zyC209_4 zy_fu x0 (0 : Int32) (0 : Int32) s _ _ h)
/-! NineOpinionsModel.isRoom(I)Z -/
noncomputable def zyF219   (x1 : Int32) (s : zy_S) : Option (Int32 × zy_S) :=
(zyF209 x1 s).bind fun p1 =>
if (p1.2.1 44 40) ≤ p1.1 then
some ((0 : Int32), p1.2)
else
some ((1 : Int32), p1.2)
theorem zyC219 {X : zx_X}     {x1 : Int32} {s : zy_S} {r : Int32} {s' : zy_S}  (h : zyF219 x1 s = some (r, s')) : zyR X 2 219 0 [some (.ref (43 + 3)), some (.int x1)] [] s (zyE (some (.int r)) s') := by
  unfold zyF219 at h
  refine zy_2 rfl rfl (show zyR _ _ _ _ [some (.ref (43 + 3)), some (.int x1)] [.int x1] _ _ from ?_)
  obtain ⟨p1, hp1, h⟩ := zy_bind h
  refine zy_60 (as := [.int x1]) (rest := []) (L := [some (.int x1), none, none]) (d' := 1) rfl rfl (Nat.le_of_ble_eq_true rfl) (Nat.le_of_ble_eq_true rfl) rfl (Nat.le_of_ble_eq_true rfl) rfl rfl (zyC209 hp1) ?_
  show zyR _ _ _ _ [some (.ref (43 + 3)), some (.int x1)] [.int p1.1] _ _
  refine zy_0 rfl rfl (show zyR _ _ _ _ [some (.ref (43 + 3)), some (.int x1)] [.ref (43 + 3), .int p1.1] _ _ from ?_)
  refine zy_1r (c := 43) rfl rfl rfl (show zyR _ _ _ _ [some (.ref (43 + 3)), some (.int x1)] [.ref (44 + 3), .int p1.1] _ _ from ?_)
  refine zy_3 rfl rfl (show zyR _ _ _ _ [some (.ref (43 + 3)), some (.int x1)] [.int (40 : Int32), .ref (44 + 3), .int p1.1] _ _ from ?_)
  refine zy_26 (c := 44) rfl rfl (by decide) (show zyR _ _ _ _ [some (.ref (43 + 3)), some (.int x1)] [.int (p1.2.1 44 40), .int p1.1] _ _ from ?_)
  refine zy_25_3 rfl (fun b2 => (show zyR _ _ _ _ [some (.ref (43 + 3)), some (.int x1)] [] _ _ from ?_)) (fun b2 => (show zyR _ _ _ _ [some (.ref (43 + 3)), some (.int x1)] [] _ _ from ?_))
  · replace h := zy_ifp h b2
    refine zy_3 rfl rfl (show zyR _ _ _ _ [some (.ref (43 + 3)), some (.int x1)] [.int (0 : Int32)] _ _ from ?_)
    cases h
    exact zy_4b rfl ⟨rfl, rfl⟩ (Or.inl rfl)
  · replace h := zy_ifn h b2
    refine zy_3 rfl rfl (show zyR _ _ _ _ [some (.ref (43 + 3)), some (.int x1)] [.int (1 : Int32)] _ _ from ?_)
    refine zy_6 rfl (show zyR _ _ _ _ [some (.ref (43 + 3)), some (.int x1)] [.int (1 : Int32)] _ _ from ?_)
    cases h
    exact zy_4b rfl ⟨rfl, rfl⟩ (Or.inr rfl)
end
section
/-! PART 41.07: methods as functions. Made by wip/v4/dcp.py. -/
/-! NineOpinionsModel.write(I)I -/
noncomputable def zyF240   (x1 : Int32) (s : zy_S) : Option (Int32 × zy_S) :=
(zyF186 (x1).toInt64 s).bind fun p1 =>
if p1.1 ≠ 0 then
(zyF208 (p1.2.1 43 7) x1 p1.2).bind fun p2 =>
if p2.1 ≠ 0 then
some ((-5 : Int32), p2.2)
else
(zyF219 (p2.2.1 43 7) p2.2).bind fun p3 =>
if p3.1 ≠ 0 then
if zy_in ((16 : Int32) + x1) 41 then
(zyF209 ((p3.2.1 43 7) ||| ((1 : Int32) <<< (x1 &&& 31))) (zy_up (zy_up (zy_up p3.2 43 7 ((p3.2.1 43 7) ||| ((1 : Int32) <<< (x1 &&& 31)))) 44 (((16 : Int32) + x1)).toNatClampNeg (0 : Int32)) 54 0 ((p3.2.1 54 0) + (1 : Int32)))).bind fun p5 =>
some (p5.1, p5.2)
else none
else
some ((-5 : Int32), p3.2)
else
some ((-1 : Int32), p1.2)
theorem zyC240 {X : zx_X}     {x1 : Int32} {s : zy_S} {r : Int32} {s' : zy_S}  (h : zyF240 x1 s = some (r, s')) : zyR X 3 240 0 [some (.ref (43 + 3)), some (.int x1)] [] s (zyE (some (.int r)) s') := by
  unfold zyF240 at h
  refine zy_2 rfl rfl (show zyR _ _ _ _ [some (.ref (43 + 3)), some (.int x1)] [.int x1] _ _ from ?_)
  refine zy_40 rfl (show zyR _ _ _ _ [some (.ref (43 + 3)), some (.int x1)] [.long (x1).toInt64] _ _ from ?_)
  obtain ⟨p1, hp1, h⟩ := zy_bind h
  refine zy_60 (as := [.long (x1).toInt64]) (rest := []) (L := [some (.long (x1).toInt64), none]) (d' := 2) rfl rfl (Nat.le_of_ble_eq_true rfl) (Nat.le_of_ble_eq_true rfl) rfl (Nat.le_of_ble_eq_true rfl) rfl rfl (zyC186 hp1) ?_
  show zyR _ _ _ _ [some (.ref (43 + 3)), some (.int x1)] [.int p1.1] _ _
  refine zy_24_1 rfl (fun b8 => (show zyR _ _ _ _ [some (.ref (43 + 3)), some (.int x1)] [] _ _ from ?_)) (fun b8 => (show zyR _ _ _ _ [some (.ref (43 + 3)), some (.int x1)] [] _ _ from ?_))
  · replace h := zy_ifp h b8
    refine zy_0 rfl rfl (show zyR _ _ _ _ [some (.ref (43 + 3)), some (.int x1)] [.ref (43 + 3)] _ _ from ?_)
    refine zy_1 (c := 43) rfl rfl rfl (show zyR _ _ _ _ [some (.ref (43 + 3)), some (.int x1)] [.int (p1.2.1 43 7)] _ _ from ?_)
    refine zy_2 rfl rfl (show zyR _ _ _ _ [some (.ref (43 + 3)), some (.int x1)] [.int x1, .int (p1.2.1 43 7)] _ _ from ?_)
    obtain ⟨p2, hp2, h⟩ := zy_bind h
    refine zy_60 (as := [.int (p1.2.1 43 7), .int x1]) (rest := []) (L := [some (.int (p1.2.1 43 7)), some (.int x1)]) (d' := 1) rfl rfl (Nat.le_of_ble_eq_true rfl) (Nat.le_of_ble_eq_true rfl) rfl (Nat.le_of_ble_eq_true rfl) rfl rfl (zyC208 hp2) ?_
    show zyR _ _ _ _ [some (.ref (43 + 3)), some (.int x1)] [.int p2.1] _ _
    refine zy_24_1 rfl (fun b7 => (show zyR _ _ _ _ [some (.ref (43 + 3)), some (.int x1)] [] _ _ from ?_)) (fun b7 => (show zyR _ _ _ _ [some (.ref (43 + 3)), some (.int x1)] [] _ _ from ?_))
    · replace h := zy_ifp h b7
      refine zy_3 rfl rfl (show zyR _ _ _ _ [some (.ref (43 + 3)), some (.int x1)] [.int (-5 : Int32)] _ _ from ?_)
      obtain ⟨rfl, rfl⟩ := zy_pi h
      exact zy_4 rfl ⟨rfl, rfl⟩
    · replace h := zy_ifn h b7
      refine zy_0 rfl rfl (show zyR _ _ _ _ [some (.ref (43 + 3)), some (.int x1)] [.ref (43 + 3)] _ _ from ?_)
      refine zy_0 rfl rfl (show zyR _ _ _ _ [some (.ref (43 + 3)), some (.int x1)] [.ref (43 + 3), .ref (43 + 3)] _ _ from ?_)
      refine zy_1 (c := 43) rfl rfl rfl (show zyR _ _ _ _ [some (.ref (43 + 3)), some (.int x1)] [.int (p2.2.1 43 7), .ref (43 + 3)] _ _ from ?_)
      obtain ⟨p3, hp3, h⟩ := zy_bind h
      refine zy_5 (c := 43) (as := [.int (p2.2.1 43 7)]) (rest := []) (L := [some (.ref (43 + 3)), some (.int (p2.2.1 43 7))]) (d' := 2) rfl rfl rfl (Nat.le_of_ble_eq_true rfl) (Nat.le_of_ble_eq_true rfl) rfl (Nat.le_of_ble_eq_true rfl) rfl rfl (zyC219 hp3) ?_
      show zyR _ _ _ _ [some (.ref (43 + 3)), some (.int x1)] [.int p3.1] _ _
      refine zy_24_1 rfl (fun b6 => (show zyR _ _ _ _ [some (.ref (43 + 3)), some (.int x1)] [] _ _ from ?_)) (fun b6 => (show zyR _ _ _ _ [some (.ref (43 + 3)), some (.int x1)] [] _ _ from ?_))
      · replace h := zy_ifp h b6
        refine zy_0 rfl rfl (show zyR _ _ _ _ [some (.ref (43 + 3)), some (.int x1)] [.ref (43 + 3)] _ _ from ?_)
        refine zy_33 rfl rfl (show zyR _ _ _ _ [some (.ref (43 + 3)), some (.int x1)] [.ref (43 + 3), .ref (43 + 3)] _ _ from ?_)
        refine zy_1 (c := 43) rfl rfl rfl (show zyR _ _ _ _ [some (.ref (43 + 3)), some (.int x1)] [.int (p3.2.1 43 7), .ref (43 + 3)] _ _ from ?_)
        refine zy_3 rfl rfl (show zyR _ _ _ _ [some (.ref (43 + 3)), some (.int x1)] [.int (1 : Int32), .int (p3.2.1 43 7), .ref (43 + 3)] _ _ from ?_)
        refine zy_2 rfl rfl (show zyR _ _ _ _ [some (.ref (43 + 3)), some (.int x1)] [.int x1, .int (1 : Int32), .int (p3.2.1 43 7), .ref (43 + 3)] _ _ from ?_)
        refine zy_16 rfl (show zyR _ _ _ _ [some (.ref (43 + 3)), some (.int x1)] [.int ((1 : Int32) <<< (x1 &&& 31)), .int (p3.2.1 43 7), .ref (43 + 3)] _ _ from ?_)
        refine zy_14 rfl (show zyR _ _ _ _ [some (.ref (43 + 3)), some (.int x1)] [.int ((p3.2.1 43 7) ||| ((1 : Int32) <<< (x1 &&& 31))), .ref (43 + 3)] _ _ from ?_)
        refine zy_52 (c := 43) rfl rfl rfl (show zyR _ _ _ _ [some (.ref (43 + 3)), some (.int x1)] [] _ _ from ?_)
        refine zy_0 rfl rfl (show zyR _ _ _ _ [some (.ref (43 + 3)), some (.int x1)] [.ref (43 + 3)] _ _ from ?_)
        refine zy_1r (c := 43) rfl rfl rfl (show zyR _ _ _ _ [some (.ref (43 + 3)), some (.int x1)] [.ref (44 + 3)] _ _ from ?_)
        refine zy_3 rfl rfl (show zyR _ _ _ _ [some (.ref (43 + 3)), some (.int x1)] [.int (16 : Int32), .ref (44 + 3)] _ _ from ?_)
        refine zy_2 rfl rfl (show zyR _ _ _ _ [some (.ref (43 + 3)), some (.int x1)] [.int x1, .int (16 : Int32), .ref (44 + 3)] _ _ from ?_)
        refine zy_10 rfl (show zyR _ _ _ _ [some (.ref (43 + 3)), some (.int x1)] [.int ((16 : Int32) + x1), .ref (44 + 3)] _ _ from ?_)
        refine zy_3 rfl rfl (show zyR _ _ _ _ [some (.ref (43 + 3)), some (.int x1)] [.int (0 : Int32), .int ((16 : Int32) + x1), .ref (44 + 3)] _ _ from ?_)
        obtain ⟨c4, h⟩ := zy_if h
        refine zy_27 (c := 44) rfl rfl c4 (show zyR _ _ _ _ [some (.ref (43 + 3)), some (.int x1)] [] _ _ from ?_)
        refine zy_0 rfl rfl (show zyR _ _ _ _ [some (.ref (43 + 3)), some (.int x1)] [.ref (43 + 3)] _ _ from ?_)
        refine zy_1r (c := 43) rfl rfl rfl (show zyR _ _ _ _ [some (.ref (43 + 3)), some (.int x1)] [.ref (54 + 3)] _ _ from ?_)
        refine zy_3 rfl rfl (show zyR _ _ _ _ [some (.ref (43 + 3)), some (.int x1)] [.int (0 : Int32), .ref (54 + 3)] _ _ from ?_)
        refine zy_35 rfl rfl rfl (show zyR _ _ _ _ [some (.ref (43 + 3)), some (.int x1)] [.int (0 : Int32), .ref (54 + 3), .int (0 : Int32), .ref (54 + 3)] _ _ from ?_)
        refine zy_26 (c := 54) rfl rfl (by decide) (show zyR _ _ _ _ [some (.ref (43 + 3)), some (.int x1)] [.int (p3.2.1 54 0), .int (0 : Int32), .ref (54 + 3)] _ _ from ?_)
        refine zy_3 rfl rfl (show zyR _ _ _ _ [some (.ref (43 + 3)), some (.int x1)] [.int (1 : Int32), .int (p3.2.1 54 0), .int (0 : Int32), .ref (54 + 3)] _ _ from ?_)
        refine zy_10 rfl (show zyR _ _ _ _ [some (.ref (43 + 3)), some (.int x1)] [.int ((p3.2.1 54 0) + (1 : Int32)), .int (0 : Int32), .ref (54 + 3)] _ _ from ?_)
        refine zy_27 (c := 54) rfl rfl (by decide) (show zyR _ _ _ _ [some (.ref (43 + 3)), some (.int x1)] [] _ _ from ?_)
        refine zy_0 rfl rfl (show zyR _ _ _ _ [some (.ref (43 + 3)), some (.int x1)] [.ref (43 + 3)] _ _ from ?_)
        refine zy_1 (c := 43) rfl rfl rfl (show zyR _ _ _ _ [some (.ref (43 + 3)), some (.int x1)] [.int ((p3.2.1 43 7) ||| ((1 : Int32) <<< (x1 &&& 31)))] _ _ from ?_)
        obtain ⟨p5, hp5, h⟩ := zy_bind h
        refine zy_60 (as := [.int ((p3.2.1 43 7) ||| ((1 : Int32) <<< (x1 &&& 31)))]) (rest := []) (L := [some (.int ((p3.2.1 43 7) ||| ((1 : Int32) <<< (x1 &&& 31)))), none, none]) (d' := 1) rfl rfl (Nat.le_of_ble_eq_true rfl) (Nat.le_of_ble_eq_true rfl) rfl (Nat.le_of_ble_eq_true rfl) rfl rfl (zyC209 hp5) ?_
        show zyR _ _ _ _ [some (.ref (43 + 3)), some (.int x1)] [.int p5.1] _ _
        obtain ⟨rfl, rfl⟩ := zy_pi h
        exact zy_4 rfl ⟨rfl, rfl⟩
      · replace h := zy_ifn h b6
        refine zy_3 rfl rfl (show zyR _ _ _ _ [some (.ref (43 + 3)), some (.int x1)] [.int (-5 : Int32)] _ _ from ?_)
        obtain ⟨rfl, rfl⟩ := zy_pi h
        exact zy_4 rfl ⟨rfl, rfl⟩
  · replace h := zy_ifn h b8
    refine zy_3 rfl rfl (show zyR _ _ _ _ [some (.ref (43 + 3)), some (.int x1)] [.int (-1 : Int32)] _ _ from ?_)
    obtain ⟨rfl, rfl⟩ := zy_pi h
    exact zy_4 rfl ⟨rfl, rfl⟩
/-! NineOpinionsModel.strike(I)I -/
noncomputable def zyF241   (x1 : Int32) (s : zy_S) : Option (Int32 × zy_S) :=
(zyF186 (x1).toInt64 s).bind fun p1 =>
if p1.1 ≠ 0 then
(zyF208 (p1.2.1 43 7) x1 p1.2).bind fun p2 =>
if p2.1 ≠ 0 then
(zyF209 ((p2.2.1 43 7) &&& (((1 : Int32) <<< (x1 &&& 31)) ^^^ (-1 : Int32))) (zy_up (zy_up p2.2 43 7 ((p2.2.1 43 7) &&& (((1 : Int32) <<< (x1 &&& 31)) ^^^ (-1 : Int32)))) 54 1 ((p2.2.1 54 1) + (1 : Int32)))).bind fun p3 =>
some (p3.1, p3.2)
else
some ((-5 : Int32), p2.2)
else
some ((-1 : Int32), p1.2)
theorem zyC241 {X : zx_X}     {x1 : Int32} {s : zy_S} {r : Int32} {s' : zy_S}  (h : zyF241 x1 s = some (r, s')) : zyR X 3 241 0 [some (.ref (43 + 3)), some (.int x1)] [] s (zyE (some (.int r)) s') := by
  unfold zyF241 at h
  refine zy_2 rfl rfl (show zyR _ _ _ _ [some (.ref (43 + 3)), some (.int x1)] [.int x1] _ _ from ?_)
  refine zy_40 rfl (show zyR _ _ _ _ [some (.ref (43 + 3)), some (.int x1)] [.long (x1).toInt64] _ _ from ?_)
  obtain ⟨p1, hp1, h⟩ := zy_bind h
  refine zy_60 (as := [.long (x1).toInt64]) (rest := []) (L := [some (.long (x1).toInt64), none]) (d' := 2) rfl rfl (Nat.le_of_ble_eq_true rfl) (Nat.le_of_ble_eq_true rfl) rfl (Nat.le_of_ble_eq_true rfl) rfl rfl (zyC186 hp1) ?_
  show zyR _ _ _ _ [some (.ref (43 + 3)), some (.int x1)] [.int p1.1] _ _
  refine zy_24_1 rfl (fun b5 => (show zyR _ _ _ _ [some (.ref (43 + 3)), some (.int x1)] [] _ _ from ?_)) (fun b5 => (show zyR _ _ _ _ [some (.ref (43 + 3)), some (.int x1)] [] _ _ from ?_))
  · replace h := zy_ifp h b5
    refine zy_0 rfl rfl (show zyR _ _ _ _ [some (.ref (43 + 3)), some (.int x1)] [.ref (43 + 3)] _ _ from ?_)
    refine zy_1 (c := 43) rfl rfl rfl (show zyR _ _ _ _ [some (.ref (43 + 3)), some (.int x1)] [.int (p1.2.1 43 7)] _ _ from ?_)
    refine zy_2 rfl rfl (show zyR _ _ _ _ [some (.ref (43 + 3)), some (.int x1)] [.int x1, .int (p1.2.1 43 7)] _ _ from ?_)
    obtain ⟨p2, hp2, h⟩ := zy_bind h
    refine zy_60 (as := [.int (p1.2.1 43 7), .int x1]) (rest := []) (L := [some (.int (p1.2.1 43 7)), some (.int x1)]) (d' := 1) rfl rfl (Nat.le_of_ble_eq_true rfl) (Nat.le_of_ble_eq_true rfl) rfl (Nat.le_of_ble_eq_true rfl) rfl rfl (zyC208 hp2) ?_
    show zyR _ _ _ _ [some (.ref (43 + 3)), some (.int x1)] [.int p2.1] _ _
    refine zy_24_1 rfl (fun b4 => (show zyR _ _ _ _ [some (.ref (43 + 3)), some (.int x1)] [] _ _ from ?_)) (fun b4 => (show zyR _ _ _ _ [some (.ref (43 + 3)), some (.int x1)] [] _ _ from ?_))
    · replace h := zy_ifp h b4
      refine zy_0 rfl rfl (show zyR _ _ _ _ [some (.ref (43 + 3)), some (.int x1)] [.ref (43 + 3)] _ _ from ?_)
      refine zy_33 rfl rfl (show zyR _ _ _ _ [some (.ref (43 + 3)), some (.int x1)] [.ref (43 + 3), .ref (43 + 3)] _ _ from ?_)
      refine zy_1 (c := 43) rfl rfl rfl (show zyR _ _ _ _ [some (.ref (43 + 3)), some (.int x1)] [.int (p2.2.1 43 7), .ref (43 + 3)] _ _ from ?_)
      refine zy_3 rfl rfl (show zyR _ _ _ _ [some (.ref (43 + 3)), some (.int x1)] [.int (1 : Int32), .int (p2.2.1 43 7), .ref (43 + 3)] _ _ from ?_)
      refine zy_2 rfl rfl (show zyR _ _ _ _ [some (.ref (43 + 3)), some (.int x1)] [.int x1, .int (1 : Int32), .int (p2.2.1 43 7), .ref (43 + 3)] _ _ from ?_)
      refine zy_16 rfl (show zyR _ _ _ _ [some (.ref (43 + 3)), some (.int x1)] [.int ((1 : Int32) <<< (x1 &&& 31)), .int (p2.2.1 43 7), .ref (43 + 3)] _ _ from ?_)
      refine zy_3 rfl rfl (show zyR _ _ _ _ [some (.ref (43 + 3)), some (.int x1)] [.int (-1 : Int32), .int ((1 : Int32) <<< (x1 &&& 31)), .int (p2.2.1 43 7), .ref (43 + 3)] _ _ from ?_)
      refine zy_15 rfl (show zyR _ _ _ _ [some (.ref (43 + 3)), some (.int x1)] [.int (((1 : Int32) <<< (x1 &&& 31)) ^^^ (-1 : Int32)), .int (p2.2.1 43 7), .ref (43 + 3)] _ _ from ?_)
      refine zy_13 rfl (show zyR _ _ _ _ [some (.ref (43 + 3)), some (.int x1)] [.int ((p2.2.1 43 7) &&& (((1 : Int32) <<< (x1 &&& 31)) ^^^ (-1 : Int32))), .ref (43 + 3)] _ _ from ?_)
      refine zy_52 (c := 43) rfl rfl rfl (show zyR _ _ _ _ [some (.ref (43 + 3)), some (.int x1)] [] _ _ from ?_)
      refine zy_0 rfl rfl (show zyR _ _ _ _ [some (.ref (43 + 3)), some (.int x1)] [.ref (43 + 3)] _ _ from ?_)
      refine zy_1r (c := 43) rfl rfl rfl (show zyR _ _ _ _ [some (.ref (43 + 3)), some (.int x1)] [.ref (54 + 3)] _ _ from ?_)
      refine zy_3 rfl rfl (show zyR _ _ _ _ [some (.ref (43 + 3)), some (.int x1)] [.int (1 : Int32), .ref (54 + 3)] _ _ from ?_)
      refine zy_35 rfl rfl rfl (show zyR _ _ _ _ [some (.ref (43 + 3)), some (.int x1)] [.int (1 : Int32), .ref (54 + 3), .int (1 : Int32), .ref (54 + 3)] _ _ from ?_)
      refine zy_26 (c := 54) rfl rfl (by decide) (show zyR _ _ _ _ [some (.ref (43 + 3)), some (.int x1)] [.int (p2.2.1 54 1), .int (1 : Int32), .ref (54 + 3)] _ _ from ?_)
      refine zy_3 rfl rfl (show zyR _ _ _ _ [some (.ref (43 + 3)), some (.int x1)] [.int (1 : Int32), .int (p2.2.1 54 1), .int (1 : Int32), .ref (54 + 3)] _ _ from ?_)
      refine zy_10 rfl (show zyR _ _ _ _ [some (.ref (43 + 3)), some (.int x1)] [.int ((p2.2.1 54 1) + (1 : Int32)), .int (1 : Int32), .ref (54 + 3)] _ _ from ?_)
      refine zy_27 (c := 54) rfl rfl (by decide) (show zyR _ _ _ _ [some (.ref (43 + 3)), some (.int x1)] [] _ _ from ?_)
      refine zy_0 rfl rfl (show zyR _ _ _ _ [some (.ref (43 + 3)), some (.int x1)] [.ref (43 + 3)] _ _ from ?_)
      refine zy_1 (c := 43) rfl rfl rfl (show zyR _ _ _ _ [some (.ref (43 + 3)), some (.int x1)] [.int ((p2.2.1 43 7) &&& (((1 : Int32) <<< (x1 &&& 31)) ^^^ (-1 : Int32)))] _ _ from ?_)
      obtain ⟨p3, hp3, h⟩ := zy_bind h
      refine zy_60 (as := [.int ((p2.2.1 43 7) &&& (((1 : Int32) <<< (x1 &&& 31)) ^^^ (-1 : Int32)))]) (rest := []) (L := [some (.int ((p2.2.1 43 7) &&& (((1 : Int32) <<< (x1 &&& 31)) ^^^ (-1 : Int32)))), none, none]) (d' := 1) rfl rfl (Nat.le_of_ble_eq_true rfl) (Nat.le_of_ble_eq_true rfl) rfl (Nat.le_of_ble_eq_true rfl) rfl rfl (zyC209 hp3) ?_
      show zyR _ _ _ _ [some (.ref (43 + 3)), some (.int x1)] [.int p3.1] _ _
      obtain ⟨rfl, rfl⟩ := zy_pi h
      exact zy_4 rfl ⟨rfl, rfl⟩
    · replace h := zy_ifn h b4
      refine zy_3 rfl rfl (show zyR _ _ _ _ [some (.ref (43 + 3)), some (.int x1)] [.int (-5 : Int32)] _ _ from ?_)
      obtain ⟨rfl, rfl⟩ := zy_pi h
      exact zy_4 rfl ⟨rfl, rfl⟩
  · replace h := zy_ifn h b5
    refine zy_3 rfl rfl (show zyR _ _ _ _ [some (.ref (43 + 3)), some (.int x1)] [.int (-1 : Int32)] _ _ from ?_)
    obtain ⟨rfl, rfl⟩ := zy_pi h
    exact zy_4 rfl ⟨rfl, rfl⟩
/-! NineOpinionsModel.rub(I)I -/
noncomputable def zyF242   (x1 : Int32) (s : zy_S) : Option (Int32 × zy_S) :=
(zyF186 (x1).toInt64 s).bind fun p1 =>
if p1.1 ≠ 0 then
(zyF208 (p1.2.1 43 7) x1 p1.2).bind fun p2 =>
if p2.1 ≠ 0 then
if zy_in ((16 : Int32) + x1) 41 then
if (p2.2.1 44 (((16 : Int32) + x1)).toNatClampNeg) ≠ (9 : Int32) then
if zy_in ((16 : Int32) + x1) 41 then
if zy_in ((16 : Int32) + x1) 41 then
if zy_in ((16 : Int32) + x1) 41 then
some (((zy_up (zy_up p2.2 54 2 ((p2.2.1 54 2) + (1 : Int32))) 44 (((16 : Int32) + x1)).toNatClampNeg ((p2.2.1 44 (((16 : Int32) + x1)).toNatClampNeg) + (1 : Int32))).1 44 (((16 : Int32) + x1)).toNatClampNeg), (zy_up (zy_up p2.2 54 2 ((p2.2.1 54 2) + (1 : Int32))) 44 (((16 : Int32) + x1)).toNatClampNeg ((p2.2.1 44 (((16 : Int32) + x1)).toNatClampNeg) + (1 : Int32))))
else none
else none
else none
else
some ((10 : Int32), (zy_up (zy_up (zy_up p2.2 54 2 ((p2.2.1 54 2) + (1 : Int32))) 43 7 ((p2.2.1 43 7) &&& (((1 : Int32) <<< (x1 &&& 31)) ^^^ (-1 : Int32)))) 54 4 ((p2.2.1 54 4) + (1 : Int32))))
else none
else
some ((-5 : Int32), p2.2)
else
some ((-1 : Int32), p1.2)
theorem zyC242 {X : zx_X}     {x1 : Int32} {s : zy_S} {r : Int32} {s' : zy_S}  (h : zyF242 x1 s = some (r, s')) : zyR X 3 242 0 [some (.ref (43 + 3)), some (.int x1)] [] s (zyE (some (.int r)) s') := by
  unfold zyF242 at h
  refine zy_2 rfl rfl (show zyR _ _ _ _ [some (.ref (43 + 3)), some (.int x1)] [.int x1] _ _ from ?_)
  refine zy_40 rfl (show zyR _ _ _ _ [some (.ref (43 + 3)), some (.int x1)] [.long (x1).toInt64] _ _ from ?_)
  obtain ⟨p1, hp1, h⟩ := zy_bind h
  refine zy_60 (as := [.long (x1).toInt64]) (rest := []) (L := [some (.long (x1).toInt64), none]) (d' := 2) rfl rfl (Nat.le_of_ble_eq_true rfl) (Nat.le_of_ble_eq_true rfl) rfl (Nat.le_of_ble_eq_true rfl) rfl rfl (zyC186 hp1) ?_
  show zyR _ _ _ _ [some (.ref (43 + 3)), some (.int x1)] [.int p1.1] _ _
  refine zy_24_1 rfl (fun b9 => (show zyR _ _ _ _ [some (.ref (43 + 3)), some (.int x1)] [] _ _ from ?_)) (fun b9 => (show zyR _ _ _ _ [some (.ref (43 + 3)), some (.int x1)] [] _ _ from ?_))
  · replace h := zy_ifp h b9
    refine zy_0 rfl rfl (show zyR _ _ _ _ [some (.ref (43 + 3)), some (.int x1)] [.ref (43 + 3)] _ _ from ?_)
    refine zy_1 (c := 43) rfl rfl rfl (show zyR _ _ _ _ [some (.ref (43 + 3)), some (.int x1)] [.int (p1.2.1 43 7)] _ _ from ?_)
    refine zy_2 rfl rfl (show zyR _ _ _ _ [some (.ref (43 + 3)), some (.int x1)] [.int x1, .int (p1.2.1 43 7)] _ _ from ?_)
    obtain ⟨p2, hp2, h⟩ := zy_bind h
    refine zy_60 (as := [.int (p1.2.1 43 7), .int x1]) (rest := []) (L := [some (.int (p1.2.1 43 7)), some (.int x1)]) (d' := 1) rfl rfl (Nat.le_of_ble_eq_true rfl) (Nat.le_of_ble_eq_true rfl) rfl (Nat.le_of_ble_eq_true rfl) rfl rfl (zyC208 hp2) ?_
    show zyR _ _ _ _ [some (.ref (43 + 3)), some (.int x1)] [.int p2.1] _ _
    refine zy_24_1 rfl (fun b8 => (show zyR _ _ _ _ [some (.ref (43 + 3)), some (.int x1)] [] _ _ from ?_)) (fun b8 => (show zyR _ _ _ _ [some (.ref (43 + 3)), some (.int x1)] [] _ _ from ?_))
    · replace h := zy_ifp h b8
      refine zy_0 rfl rfl (show zyR _ _ _ _ [some (.ref (43 + 3)), some (.int x1)] [.ref (43 + 3)] _ _ from ?_)
      refine zy_1r (c := 43) rfl rfl rfl (show zyR _ _ _ _ [some (.ref (43 + 3)), some (.int x1)] [.ref (54 + 3)] _ _ from ?_)
      refine zy_3 rfl rfl (show zyR _ _ _ _ [some (.ref (43 + 3)), some (.int x1)] [.int (2 : Int32), .ref (54 + 3)] _ _ from ?_)
      refine zy_35 rfl rfl rfl (show zyR _ _ _ _ [some (.ref (43 + 3)), some (.int x1)] [.int (2 : Int32), .ref (54 + 3), .int (2 : Int32), .ref (54 + 3)] _ _ from ?_)
      refine zy_26 (c := 54) rfl rfl (by decide) (show zyR _ _ _ _ [some (.ref (43 + 3)), some (.int x1)] [.int (p2.2.1 54 2), .int (2 : Int32), .ref (54 + 3)] _ _ from ?_)
      refine zy_3 rfl rfl (show zyR _ _ _ _ [some (.ref (43 + 3)), some (.int x1)] [.int (1 : Int32), .int (p2.2.1 54 2), .int (2 : Int32), .ref (54 + 3)] _ _ from ?_)
      refine zy_10 rfl (show zyR _ _ _ _ [some (.ref (43 + 3)), some (.int x1)] [.int ((p2.2.1 54 2) + (1 : Int32)), .int (2 : Int32), .ref (54 + 3)] _ _ from ?_)
      refine zy_27 (c := 54) rfl rfl (by decide) (show zyR _ _ _ _ [some (.ref (43 + 3)), some (.int x1)] [] _ _ from ?_)
      refine zy_0 rfl rfl (show zyR _ _ _ _ [some (.ref (43 + 3)), some (.int x1)] [.ref (43 + 3)] _ _ from ?_)
      refine zy_1r (c := 43) rfl rfl rfl (show zyR _ _ _ _ [some (.ref (43 + 3)), some (.int x1)] [.ref (44 + 3)] _ _ from ?_)
      refine zy_3 rfl rfl (show zyR _ _ _ _ [some (.ref (43 + 3)), some (.int x1)] [.int (16 : Int32), .ref (44 + 3)] _ _ from ?_)
      refine zy_2 rfl rfl (show zyR _ _ _ _ [some (.ref (43 + 3)), some (.int x1)] [.int x1, .int (16 : Int32), .ref (44 + 3)] _ _ from ?_)
      refine zy_10 rfl (show zyR _ _ _ _ [some (.ref (43 + 3)), some (.int x1)] [.int ((16 : Int32) + x1), .ref (44 + 3)] _ _ from ?_)
      obtain ⟨c3, h⟩ := zy_if h
      refine zy_26 (c := 44) rfl rfl c3 (show zyR _ _ _ _ [some (.ref (43 + 3)), some (.int x1)] [.int (p2.2.1 44 (((16 : Int32) + x1)).toNatClampNeg)] _ _ from ?_)
      refine zy_3 rfl rfl (show zyR _ _ _ _ [some (.ref (43 + 3)), some (.int x1)] [.int (9 : Int32), .int (p2.2.1 44 (((16 : Int32) + x1)).toNatClampNeg)] _ _ from ?_)
      refine zy_25_1 rfl (fun b7 => (show zyR _ _ _ _ [some (.ref (43 + 3)), some (.int x1)] [] _ _ from ?_)) (fun b7 => (show zyR _ _ _ _ [some (.ref (43 + 3)), some (.int x1)] [] _ _ from ?_))
      · replace h := zy_ifp h b7
        refine zy_0 rfl rfl (show zyR _ _ _ _ [some (.ref (43 + 3)), some (.int x1)] [.ref (43 + 3)] _ _ from ?_)
        refine zy_1r (c := 43) rfl rfl rfl (show zyR _ _ _ _ [some (.ref (43 + 3)), some (.int x1)] [.ref (44 + 3)] _ _ from ?_)
        refine zy_3 rfl rfl (show zyR _ _ _ _ [some (.ref (43 + 3)), some (.int x1)] [.int (16 : Int32), .ref (44 + 3)] _ _ from ?_)
        refine zy_2 rfl rfl (show zyR _ _ _ _ [some (.ref (43 + 3)), some (.int x1)] [.int x1, .int (16 : Int32), .ref (44 + 3)] _ _ from ?_)
        refine zy_10 rfl (show zyR _ _ _ _ [some (.ref (43 + 3)), some (.int x1)] [.int ((16 : Int32) + x1), .ref (44 + 3)] _ _ from ?_)
        refine zy_35 rfl rfl rfl (show zyR _ _ _ _ [some (.ref (43 + 3)), some (.int x1)] [.int ((16 : Int32) + x1), .ref (44 + 3), .int ((16 : Int32) + x1), .ref (44 + 3)] _ _ from ?_)
        obtain ⟨c4, h⟩ := zy_if h
        refine zy_26 (c := 44) rfl rfl c4 (show zyR _ _ _ _ [some (.ref (43 + 3)), some (.int x1)] [.int (p2.2.1 44 (((16 : Int32) + x1)).toNatClampNeg), .int ((16 : Int32) + x1), .ref (44 + 3)] _ _ from ?_)
        refine zy_3 rfl rfl (show zyR _ _ _ _ [some (.ref (43 + 3)), some (.int x1)] [.int (1 : Int32), .int (p2.2.1 44 (((16 : Int32) + x1)).toNatClampNeg), .int ((16 : Int32) + x1), .ref (44 + 3)] _ _ from ?_)
        refine zy_10 rfl (show zyR _ _ _ _ [some (.ref (43 + 3)), some (.int x1)] [.int ((p2.2.1 44 (((16 : Int32) + x1)).toNatClampNeg) + (1 : Int32)), .int ((16 : Int32) + x1), .ref (44 + 3)] _ _ from ?_)
        obtain ⟨c5, h⟩ := zy_if h
        refine zy_27 (c := 44) rfl rfl c5 (show zyR _ _ _ _ [some (.ref (43 + 3)), some (.int x1)] [] _ _ from ?_)
        refine zy_0 rfl rfl (show zyR _ _ _ _ [some (.ref (43 + 3)), some (.int x1)] [.ref (43 + 3)] _ _ from ?_)
        refine zy_1r (c := 43) rfl rfl rfl (show zyR _ _ _ _ [some (.ref (43 + 3)), some (.int x1)] [.ref (44 + 3)] _ _ from ?_)
        refine zy_3 rfl rfl (show zyR _ _ _ _ [some (.ref (43 + 3)), some (.int x1)] [.int (16 : Int32), .ref (44 + 3)] _ _ from ?_)
        refine zy_2 rfl rfl (show zyR _ _ _ _ [some (.ref (43 + 3)), some (.int x1)] [.int x1, .int (16 : Int32), .ref (44 + 3)] _ _ from ?_)
        refine zy_10 rfl (show zyR _ _ _ _ [some (.ref (43 + 3)), some (.int x1)] [.int ((16 : Int32) + x1), .ref (44 + 3)] _ _ from ?_)
        obtain ⟨c6, h⟩ := zy_if h
        refine zy_26 (c := 44) rfl rfl c6 (show zyR _ _ _ _ [some (.ref (43 + 3)), some (.int x1)] [.int ((zy_up (zy_up p2.2 54 2 ((p2.2.1 54 2) + (1 : Int32))) 44 (((16 : Int32) + x1)).toNatClampNeg ((p2.2.1 44 (((16 : Int32) + x1)).toNatClampNeg) + (1 : Int32))).1 44 (((16 : Int32) + x1)).toNatClampNeg)] _ _ from ?_)
        obtain ⟨rfl, rfl⟩ := zy_pi h
        exact zy_4 rfl ⟨rfl, rfl⟩
      · replace h := zy_ifn h b7
        refine zy_0 rfl rfl (show zyR _ _ _ _ [some (.ref (43 + 3)), some (.int x1)] [.ref (43 + 3)] _ _ from ?_)
        refine zy_33 rfl rfl (show zyR _ _ _ _ [some (.ref (43 + 3)), some (.int x1)] [.ref (43 + 3), .ref (43 + 3)] _ _ from ?_)
        refine zy_1 (c := 43) rfl rfl rfl (show zyR _ _ _ _ [some (.ref (43 + 3)), some (.int x1)] [.int (p2.2.1 43 7), .ref (43 + 3)] _ _ from ?_)
        refine zy_3 rfl rfl (show zyR _ _ _ _ [some (.ref (43 + 3)), some (.int x1)] [.int (1 : Int32), .int (p2.2.1 43 7), .ref (43 + 3)] _ _ from ?_)
        refine zy_2 rfl rfl (show zyR _ _ _ _ [some (.ref (43 + 3)), some (.int x1)] [.int x1, .int (1 : Int32), .int (p2.2.1 43 7), .ref (43 + 3)] _ _ from ?_)
        refine zy_16 rfl (show zyR _ _ _ _ [some (.ref (43 + 3)), some (.int x1)] [.int ((1 : Int32) <<< (x1 &&& 31)), .int (p2.2.1 43 7), .ref (43 + 3)] _ _ from ?_)
        refine zy_3 rfl rfl (show zyR _ _ _ _ [some (.ref (43 + 3)), some (.int x1)] [.int (-1 : Int32), .int ((1 : Int32) <<< (x1 &&& 31)), .int (p2.2.1 43 7), .ref (43 + 3)] _ _ from ?_)
        refine zy_15 rfl (show zyR _ _ _ _ [some (.ref (43 + 3)), some (.int x1)] [.int (((1 : Int32) <<< (x1 &&& 31)) ^^^ (-1 : Int32)), .int (p2.2.1 43 7), .ref (43 + 3)] _ _ from ?_)
        refine zy_13 rfl (show zyR _ _ _ _ [some (.ref (43 + 3)), some (.int x1)] [.int ((p2.2.1 43 7) &&& (((1 : Int32) <<< (x1 &&& 31)) ^^^ (-1 : Int32))), .ref (43 + 3)] _ _ from ?_)
        refine zy_52 (c := 43) rfl rfl rfl (show zyR _ _ _ _ [some (.ref (43 + 3)), some (.int x1)] [] _ _ from ?_)
        refine zy_0 rfl rfl (show zyR _ _ _ _ [some (.ref (43 + 3)), some (.int x1)] [.ref (43 + 3)] _ _ from ?_)
        refine zy_1r (c := 43) rfl rfl rfl (show zyR _ _ _ _ [some (.ref (43 + 3)), some (.int x1)] [.ref (54 + 3)] _ _ from ?_)
        refine zy_3 rfl rfl (show zyR _ _ _ _ [some (.ref (43 + 3)), some (.int x1)] [.int (4 : Int32), .ref (54 + 3)] _ _ from ?_)
        refine zy_35 rfl rfl rfl (show zyR _ _ _ _ [some (.ref (43 + 3)), some (.int x1)] [.int (4 : Int32), .ref (54 + 3), .int (4 : Int32), .ref (54 + 3)] _ _ from ?_)
        refine zy_26 (c := 54) rfl rfl (by decide) (show zyR _ _ _ _ [some (.ref (43 + 3)), some (.int x1)] [.int (p2.2.1 54 4), .int (4 : Int32), .ref (54 + 3)] _ _ from ?_)
        refine zy_3 rfl rfl (show zyR _ _ _ _ [some (.ref (43 + 3)), some (.int x1)] [.int (1 : Int32), .int (p2.2.1 54 4), .int (4 : Int32), .ref (54 + 3)] _ _ from ?_)
        refine zy_10 rfl (show zyR _ _ _ _ [some (.ref (43 + 3)), some (.int x1)] [.int ((p2.2.1 54 4) + (1 : Int32)), .int (4 : Int32), .ref (54 + 3)] _ _ from ?_)
        refine zy_27 (c := 54) rfl rfl (by decide) (show zyR _ _ _ _ [some (.ref (43 + 3)), some (.int x1)] [] _ _ from ?_)
        refine zy_3 rfl rfl (show zyR _ _ _ _ [some (.ref (43 + 3)), some (.int x1)] [.int (10 : Int32)] _ _ from ?_)
        obtain ⟨rfl, rfl⟩ := zy_pi h
        exact zy_4 rfl ⟨rfl, rfl⟩
    · replace h := zy_ifn h b8
      refine zy_3 rfl rfl (show zyR _ _ _ _ [some (.ref (43 + 3)), some (.int x1)] [.int (-5 : Int32)] _ _ from ?_)
      obtain ⟨rfl, rfl⟩ := zy_pi h
      exact zy_4 rfl ⟨rfl, rfl⟩
  · replace h := zy_ifn h b9
    refine zy_3 rfl rfl (show zyR _ _ _ _ [some (.ref (43 + 3)), some (.int x1)] [.int (-1 : Int32)] _ _ from ?_)
    obtain ⟨rfl, rfl⟩ := zy_pi h
    exact zy_4 rfl ⟨rfl, rfl⟩
/-! NineOpinionsModel.viewIn(II)I -/
noncomputable def zyF206   (x0 : Int32) (x1 : Int32) (s : zy_S) : Option (Int32 × zy_S) :=
some (((x0 >>> (((2 : Int32) * x1) &&& 31)) &&& (3 : Int32)), s)
theorem zyC206 {X : zx_X}     {x0 : Int32} {x1 : Int32} {s : zy_S} {r : Int32} {s' : zy_S}  (h : zyF206 x0 x1 s = some (r, s')) : zyR X 1 206 0 [some (.int x0), some (.int x1)] [] s (zyE (some (.int r)) s') := by
  unfold zyF206 at h
  refine zy_2 rfl rfl (show zyR _ _ _ _ [some (.int x0), some (.int x1)] [.int x0] _ _ from ?_)
  refine zy_3 rfl rfl (show zyR _ _ _ _ [some (.int x0), some (.int x1)] [.int (2 : Int32), .int x0] _ _ from ?_)
  refine zy_2 rfl rfl (show zyR _ _ _ _ [some (.int x0), some (.int x1)] [.int x1, .int (2 : Int32), .int x0] _ _ from ?_)
  refine zy_12 rfl (show zyR _ _ _ _ [some (.int x0), some (.int x1)] [.int ((2 : Int32) * x1), .int x0] _ _ from ?_)
  refine zy_17 rfl (show zyR _ _ _ _ [some (.int x0), some (.int x1)] [.int (x0 >>> (((2 : Int32) * x1) &&& 31))] _ _ from ?_)
  refine zy_3 rfl rfl (show zyR _ _ _ _ [some (.int x0), some (.int x1)] [.int (3 : Int32), .int (x0 >>> (((2 : Int32) * x1) &&& 31))] _ _ from ?_)
  refine zy_13 rfl (show zyR _ _ _ _ [some (.int x0), some (.int x1)] [.int ((x0 >>> (((2 : Int32) * x1) &&& 31)) &&& (3 : Int32))] _ _ from ?_)
  obtain ⟨rfl, rfl⟩ := zy_pi h
  exact zy_4 rfl ⟨rfl, rfl⟩
/-! NineOpinionsModel.viewOf(II)I -/
noncomputable def zyF205   (x1 : Int32) (x2 : Int32) (s : zy_S) : Option (Int32 × zy_S) :=
if zy_in x1 41 then
(zyF206 (s.1 44 (x1).toNatClampNeg) x2 s).bind fun p2 =>
some (p2.1, p2.2)
else none
theorem zyC205 {X : zx_X}     {x1 : Int32} {x2 : Int32} {s : zy_S} {r : Int32} {s' : zy_S}  (h : zyF205 x1 x2 s = some (r, s')) : zyR X 2 205 0 [some (.ref (43 + 3)), some (.int x1), some (.int x2)] [] s (zyE (some (.int r)) s') := by
  unfold zyF205 at h
  refine zy_0 rfl rfl (show zyR _ _ _ _ [some (.ref (43 + 3)), some (.int x1), some (.int x2)] [.ref (43 + 3)] _ _ from ?_)
  refine zy_1r (c := 43) rfl rfl rfl (show zyR _ _ _ _ [some (.ref (43 + 3)), some (.int x1), some (.int x2)] [.ref (44 + 3)] _ _ from ?_)
  refine zy_2 rfl rfl (show zyR _ _ _ _ [some (.ref (43 + 3)), some (.int x1), some (.int x2)] [.int x1, .ref (44 + 3)] _ _ from ?_)
  obtain ⟨c1, h⟩ := zy_if h
  refine zy_26 (c := 44) rfl rfl c1 (show zyR _ _ _ _ [some (.ref (43 + 3)), some (.int x1), some (.int x2)] [.int (s.1 44 (x1).toNatClampNeg)] _ _ from ?_)
  refine zy_2 rfl rfl (show zyR _ _ _ _ [some (.ref (43 + 3)), some (.int x1), some (.int x2)] [.int x2, .int (s.1 44 (x1).toNatClampNeg)] _ _ from ?_)
  obtain ⟨p2, hp2, h⟩ := zy_bind h
  refine zy_60 (as := [.int (s.1 44 (x1).toNatClampNeg), .int x2]) (rest := []) (L := [some (.int (s.1 44 (x1).toNatClampNeg)), some (.int x2)]) (d' := 1) rfl rfl (Nat.le_of_ble_eq_true rfl) (Nat.le_of_ble_eq_true rfl) rfl (Nat.le_of_ble_eq_true rfl) rfl rfl (zyC206 hp2) ?_
  show zyR _ _ _ _ [some (.ref (43 + 3)), some (.int x1), some (.int x2)] [.int p2.1] _ _
  obtain ⟨rfl, rfl⟩ := zy_pi h
  exact zy_4 rfl ⟨rfl, rfl⟩
/-! NineOpinionsModel.isBelieved(II)Z -/
noncomputable def zyF222   (x1 : Int32) (x2 : Int32) (s : zy_S) : Option (Int32 × zy_S) :=
(zyF205 x1 (x2 / (4 : Int32)) s).bind fun p1 =>
if p1.1 ≠ (x2 - x2 / (4 : Int32) * (4 : Int32)) then
some ((0 : Int32), p1.2)
else
some ((1 : Int32), p1.2)
theorem zyC222 {X : zx_X}     {x1 : Int32} {x2 : Int32} {s : zy_S} {r : Int32} {s' : zy_S}  (h : zyF222 x1 x2 s = some (r, s')) : zyR X 3 222 0 [some (.ref (43 + 3)), some (.int x1), some (.int x2)] [] s (zyE (some (.int r)) s') := by
  unfold zyF222 at h
  refine zy_0 rfl rfl (show zyR _ _ _ _ [some (.ref (43 + 3)), some (.int x1), some (.int x2)] [.ref (43 + 3)] _ _ from ?_)
  refine zy_2 rfl rfl (show zyR _ _ _ _ [some (.ref (43 + 3)), some (.int x1), some (.int x2)] [.int x1, .ref (43 + 3)] _ _ from ?_)
  refine zy_2 rfl rfl (show zyR _ _ _ _ [some (.ref (43 + 3)), some (.int x1), some (.int x2)] [.int x2, .int x1, .ref (43 + 3)] _ _ from ?_)
  refine zy_3 rfl rfl (show zyR _ _ _ _ [some (.ref (43 + 3)), some (.int x1), some (.int x2)] [.int (4 : Int32), .int x2, .int x1, .ref (43 + 3)] _ _ from ?_)
  refine zy_19 rfl (by decide) (show zyR _ _ _ _ [some (.ref (43 + 3)), some (.int x1), some (.int x2)] [.int (x2 / (4 : Int32)), .int x1, .ref (43 + 3)] _ _ from ?_)
  obtain ⟨p1, hp1, h⟩ := zy_bind h
  refine zy_5 (c := 43) (as := [.int x1, .int (x2 / (4 : Int32))]) (rest := []) (L := [some (.ref (43 + 3)), some (.int x1), some (.int (x2 / (4 : Int32)))]) (d' := 2) rfl rfl rfl (Nat.le_of_ble_eq_true rfl) (Nat.le_of_ble_eq_true rfl) rfl (Nat.le_of_ble_eq_true rfl) rfl rfl (zyC205 hp1) ?_
  show zyR _ _ _ _ [some (.ref (43 + 3)), some (.int x1), some (.int x2)] [.int p1.1] _ _
  refine zy_2 rfl rfl (show zyR _ _ _ _ [some (.ref (43 + 3)), some (.int x1), some (.int x2)] [.int x2, .int p1.1] _ _ from ?_)
  refine zy_3 rfl rfl (show zyR _ _ _ _ [some (.ref (43 + 3)), some (.int x1), some (.int x2)] [.int (4 : Int32), .int x2, .int p1.1] _ _ from ?_)
  refine zy_20 rfl (by decide) (show zyR _ _ _ _ [some (.ref (43 + 3)), some (.int x1), some (.int x2)] [.int (x2 - x2 / (4 : Int32) * (4 : Int32)), .int p1.1] _ _ from ?_)
  refine zy_25_1 rfl (fun b2 => (show zyR _ _ _ _ [some (.ref (43 + 3)), some (.int x1), some (.int x2)] [] _ _ from ?_)) (fun b2 => (show zyR _ _ _ _ [some (.ref (43 + 3)), some (.int x1), some (.int x2)] [] _ _ from ?_))
  · replace h := zy_ifp h b2
    refine zy_3 rfl rfl (show zyR _ _ _ _ [some (.ref (43 + 3)), some (.int x1), some (.int x2)] [.int (0 : Int32)] _ _ from ?_)
    cases h
    exact zy_4b rfl ⟨rfl, rfl⟩ (Or.inl rfl)
  · replace h := zy_ifn h b2
    refine zy_3 rfl rfl (show zyR _ _ _ _ [some (.ref (43 + 3)), some (.int x1), some (.int x2)] [.int (1 : Int32)] _ _ from ?_)
    refine zy_6 rfl (show zyR _ _ _ _ [some (.ref (43 + 3)), some (.int x1), some (.int x2)] [.int (1 : Int32)] _ _ from ?_)
    cases h
    exact zy_4b rfl ⟨rfl, rfl⟩ (Or.inr rfl)
/-! NineOpinionsModel.won(II)I -/
noncomputable def zyF243   (x1 : Int32) (x2 : Int32) (s : zy_S) : Option (Int32 × zy_S) :=
(zyF185 (x1).toInt64 s).bind fun p1 =>
if p1.1 = 0 then
some ((-1 : Int32), p1.2)
else
(zyF186 (x2).toInt64 p1.2).bind fun p2 =>
if p2.1 ≠ 0 then
(zyF222 x1 x2 p2.2).bind fun p3 =>
if p3.1 = 0 then
if zy_in x1 41 then
if zy_in x1 41 then
if zy_in x1 41 then
some (((zy_up p3.2 44 (x1).toNatClampNeg (((p3.2.1 44 (x1).toNatClampNeg) &&& (((3 : Int32) <<< (((2 : Int32) * (x2 / (4 : Int32))) &&& 31)) ^^^ (-1 : Int32))) ||| ((x2 - x2 / (4 : Int32) * (4 : Int32)) <<< (((2 : Int32) * (x2 / (4 : Int32))) &&& 31)))).1 44 (x1).toNatClampNeg), (zy_up (zy_up p3.2 44 (x1).toNatClampNeg (((p3.2.1 44 (x1).toNatClampNeg) &&& (((3 : Int32) <<< (((2 : Int32) * (x2 / (4 : Int32))) &&& 31)) ^^^ (-1 : Int32))) ||| ((x2 - x2 / (4 : Int32) * (4 : Int32)) <<< (((2 : Int32) * (x2 / (4 : Int32))) &&& 31)))) 54 3 ((p3.2.1 54 3) + (1 : Int32))))
else none
else none
else none
else
some ((-5 : Int32), p3.2)
else
some ((-1 : Int32), p2.2)
theorem zyC243 {X : zx_X}     {x1 : Int32} {x2 : Int32} {s : zy_S} {r : Int32} {s' : zy_S}  (h : zyF243 x1 x2 s = some (r, s')) : zyR X 4 243 0 [some (.ref (43 + 3)), some (.int x1), some (.int x2), none] [] s (zyE (some (.int r)) s') := by
  unfold zyF243 at h
  refine zy_0 rfl rfl (show zyR _ _ _ _ [some (.ref (43 + 3)), some (.int x1), some (.int x2), none] [.ref (43 + 3)] _ _ from ?_)
  refine zy_2 rfl rfl (show zyR _ _ _ _ [some (.ref (43 + 3)), some (.int x1), some (.int x2), none] [.int x1, .ref (43 + 3)] _ _ from ?_)
  refine zy_40 rfl (show zyR _ _ _ _ [some (.ref (43 + 3)), some (.int x1), some (.int x2), none] [.long (x1).toInt64, .ref (43 + 3)] _ _ from ?_)
  obtain ⟨p1, hp1, h⟩ := zy_bind h
  refine zy_5 (c := 43) (as := [.long (x1).toInt64]) (rest := []) (L := [some (.ref (43 + 3)), some (.long (x1).toInt64), none]) (d' := 2) rfl rfl rfl (Nat.le_of_ble_eq_true rfl) (Nat.le_of_ble_eq_true rfl) rfl (Nat.le_of_ble_eq_true rfl) rfl rfl (zyC185 hp1) ?_
  show zyR _ _ _ _ [some (.ref (43 + 3)), some (.int x1), some (.int x2), none] [.int p1.1] _ _
  refine zy_24_0 rfl (fun b9 => (show zyR _ _ _ _ [some (.ref (43 + 3)), some (.int x1), some (.int x2), none] [] _ _ from ?_)) (fun b9 => (show zyR _ _ _ _ [some (.ref (43 + 3)), some (.int x1), some (.int x2), none] [] _ _ from ?_))
  · replace h := zy_ifp h b9
    refine zy_3 rfl rfl (show zyR _ _ _ _ [some (.ref (43 + 3)), some (.int x1), some (.int x2), none] [.int (-1 : Int32)] _ _ from ?_)
    obtain ⟨rfl, rfl⟩ := zy_pi h
    exact zy_4 rfl ⟨rfl, rfl⟩
  · replace h := zy_ifn h b9
    refine zy_2 rfl rfl (show zyR _ _ _ _ [some (.ref (43 + 3)), some (.int x1), some (.int x2), none] [.int x2] _ _ from ?_)
    refine zy_40 rfl (show zyR _ _ _ _ [some (.ref (43 + 3)), some (.int x1), some (.int x2), none] [.long (x2).toInt64] _ _ from ?_)
    obtain ⟨p2, hp2, h⟩ := zy_bind h
    refine zy_60 (as := [.long (x2).toInt64]) (rest := []) (L := [some (.long (x2).toInt64), none]) (d' := 2) rfl rfl (Nat.le_of_ble_eq_true rfl) (Nat.le_of_ble_eq_true rfl) rfl (Nat.le_of_ble_eq_true rfl) rfl rfl (zyC186 hp2) ?_
    show zyR _ _ _ _ [some (.ref (43 + 3)), some (.int x1), some (.int x2), none] [.int p2.1] _ _
    refine zy_24_1 rfl (fun b8 => (show zyR _ _ _ _ [some (.ref (43 + 3)), some (.int x1), some (.int x2), none] [] _ _ from ?_)) (fun b8 => (show zyR _ _ _ _ [some (.ref (43 + 3)), some (.int x1), some (.int x2), none] [] _ _ from ?_))
    · replace h := zy_ifp h b8
      refine zy_0 rfl rfl (show zyR _ _ _ _ [some (.ref (43 + 3)), some (.int x1), some (.int x2), none] [.ref (43 + 3)] _ _ from ?_)
      refine zy_2 rfl rfl (show zyR _ _ _ _ [some (.ref (43 + 3)), some (.int x1), some (.int x2), none] [.int x1, .ref (43 + 3)] _ _ from ?_)
      refine zy_2 rfl rfl (show zyR _ _ _ _ [some (.ref (43 + 3)), some (.int x1), some (.int x2), none] [.int x2, .int x1, .ref (43 + 3)] _ _ from ?_)
      obtain ⟨p3, hp3, h⟩ := zy_bind h
      refine zy_5 (c := 43) (as := [.int x1, .int x2]) (rest := []) (L := [some (.ref (43 + 3)), some (.int x1), some (.int x2)]) (d' := 3) rfl rfl rfl (Nat.le_of_ble_eq_true rfl) (Nat.le_of_ble_eq_true rfl) rfl (Nat.le_of_ble_eq_true rfl) rfl rfl (zyC222 hp3) ?_
      show zyR _ _ _ _ [some (.ref (43 + 3)), some (.int x1), some (.int x2), none] [.int p3.1] _ _
      refine zy_24_0 rfl (fun b7 => (show zyR _ _ _ _ [some (.ref (43 + 3)), some (.int x1), some (.int x2), none] [] _ _ from ?_)) (fun b7 => (show zyR _ _ _ _ [some (.ref (43 + 3)), some (.int x1), some (.int x2), none] [] _ _ from ?_))
      · replace h := zy_ifp h b7
        refine zy_2 rfl rfl (show zyR _ _ _ _ [some (.ref (43 + 3)), some (.int x1), some (.int x2), none] [.int x2] _ _ from ?_)
        refine zy_3 rfl rfl (show zyR _ _ _ _ [some (.ref (43 + 3)), some (.int x1), some (.int x2), none] [.int (4 : Int32), .int x2] _ _ from ?_)
        refine zy_19 rfl (by decide) (show zyR _ _ _ _ [some (.ref (43 + 3)), some (.int x1), some (.int x2), none] [.int (x2 / (4 : Int32))] _ _ from ?_)
        refine zy_23 rfl rfl (show zyR _ _ _ _ [some (.ref (43 + 3)), some (.int x1), some (.int x2), some (.int (x2 / (4 : Int32)))] [] _ _ from ?_)
        refine zy_0 rfl rfl (show zyR _ _ _ _ [some (.ref (43 + 3)), some (.int x1), some (.int x2), some (.int (x2 / (4 : Int32)))] [.ref (43 + 3)] _ _ from ?_)
        refine zy_1r (c := 43) rfl rfl rfl (show zyR _ _ _ _ [some (.ref (43 + 3)), some (.int x1), some (.int x2), some (.int (x2 / (4 : Int32)))] [.ref (44 + 3)] _ _ from ?_)
        refine zy_2 rfl rfl (show zyR _ _ _ _ [some (.ref (43 + 3)), some (.int x1), some (.int x2), some (.int (x2 / (4 : Int32)))] [.int x1, .ref (44 + 3)] _ _ from ?_)
        refine zy_0 rfl rfl (show zyR _ _ _ _ [some (.ref (43 + 3)), some (.int x1), some (.int x2), some (.int (x2 / (4 : Int32)))] [.ref (43 + 3), .int x1, .ref (44 + 3)] _ _ from ?_)
        refine zy_1r (c := 43) rfl rfl rfl (show zyR _ _ _ _ [some (.ref (43 + 3)), some (.int x1), some (.int x2), some (.int (x2 / (4 : Int32)))] [.ref (44 + 3), .int x1, .ref (44 + 3)] _ _ from ?_)
        refine zy_2 rfl rfl (show zyR _ _ _ _ [some (.ref (43 + 3)), some (.int x1), some (.int x2), some (.int (x2 / (4 : Int32)))] [.int x1, .ref (44 + 3), .int x1, .ref (44 + 3)] _ _ from ?_)
        obtain ⟨c4, h⟩ := zy_if h
        refine zy_26 (c := 44) rfl rfl c4 (show zyR _ _ _ _ [some (.ref (43 + 3)), some (.int x1), some (.int x2), some (.int (x2 / (4 : Int32)))] [.int (p3.2.1 44 (x1).toNatClampNeg), .int x1, .ref (44 + 3)] _ _ from ?_)
        refine zy_3 rfl rfl (show zyR _ _ _ _ [some (.ref (43 + 3)), some (.int x1), some (.int x2), some (.int (x2 / (4 : Int32)))] [.int (3 : Int32), .int (p3.2.1 44 (x1).toNatClampNeg), .int x1, .ref (44 + 3)] _ _ from ?_)
        refine zy_3 rfl rfl (show zyR _ _ _ _ [some (.ref (43 + 3)), some (.int x1), some (.int x2), some (.int (x2 / (4 : Int32)))] [.int (2 : Int32), .int (3 : Int32), .int (p3.2.1 44 (x1).toNatClampNeg), .int x1, .ref (44 + 3)] _ _ from ?_)
        refine zy_2 rfl rfl (show zyR _ _ _ _ [some (.ref (43 + 3)), some (.int x1), some (.int x2), some (.int (x2 / (4 : Int32)))] [.int (x2 / (4 : Int32)), .int (2 : Int32), .int (3 : Int32), .int (p3.2.1 44 (x1).toNatClampNeg), .int x1, .ref (44 + 3)] _ _ from ?_)
        refine zy_12 rfl (show zyR _ _ _ _ [some (.ref (43 + 3)), some (.int x1), some (.int x2), some (.int (x2 / (4 : Int32)))] [.int ((2 : Int32) * (x2 / (4 : Int32))), .int (3 : Int32), .int (p3.2.1 44 (x1).toNatClampNeg), .int x1, .ref (44 + 3)] _ _ from ?_)
        refine zy_16 rfl (show zyR _ _ _ _ [some (.ref (43 + 3)), some (.int x1), some (.int x2), some (.int (x2 / (4 : Int32)))] [.int ((3 : Int32) <<< (((2 : Int32) * (x2 / (4 : Int32))) &&& 31)), .int (p3.2.1 44 (x1).toNatClampNeg), .int x1, .ref (44 + 3)] _ _ from ?_)
        refine zy_3 rfl rfl (show zyR _ _ _ _ [some (.ref (43 + 3)), some (.int x1), some (.int x2), some (.int (x2 / (4 : Int32)))] [.int (-1 : Int32), .int ((3 : Int32) <<< (((2 : Int32) * (x2 / (4 : Int32))) &&& 31)), .int (p3.2.1 44 (x1).toNatClampNeg), .int x1, .ref (44 + 3)] _ _ from ?_)
        refine zy_15 rfl (show zyR _ _ _ _ [some (.ref (43 + 3)), some (.int x1), some (.int x2), some (.int (x2 / (4 : Int32)))] [.int (((3 : Int32) <<< (((2 : Int32) * (x2 / (4 : Int32))) &&& 31)) ^^^ (-1 : Int32)), .int (p3.2.1 44 (x1).toNatClampNeg), .int x1, .ref (44 + 3)] _ _ from ?_)
        refine zy_13 rfl (show zyR _ _ _ _ [some (.ref (43 + 3)), some (.int x1), some (.int x2), some (.int (x2 / (4 : Int32)))] [.int ((p3.2.1 44 (x1).toNatClampNeg) &&& (((3 : Int32) <<< (((2 : Int32) * (x2 / (4 : Int32))) &&& 31)) ^^^ (-1 : Int32))), .int x1, .ref (44 + 3)] _ _ from ?_)
        refine zy_2 rfl rfl (show zyR _ _ _ _ [some (.ref (43 + 3)), some (.int x1), some (.int x2), some (.int (x2 / (4 : Int32)))] [.int x2, .int ((p3.2.1 44 (x1).toNatClampNeg) &&& (((3 : Int32) <<< (((2 : Int32) * (x2 / (4 : Int32))) &&& 31)) ^^^ (-1 : Int32))), .int x1, .ref (44 + 3)] _ _ from ?_)
        refine zy_3 rfl rfl (show zyR _ _ _ _ [some (.ref (43 + 3)), some (.int x1), some (.int x2), some (.int (x2 / (4 : Int32)))] [.int (4 : Int32), .int x2, .int ((p3.2.1 44 (x1).toNatClampNeg) &&& (((3 : Int32) <<< (((2 : Int32) * (x2 / (4 : Int32))) &&& 31)) ^^^ (-1 : Int32))), .int x1, .ref (44 + 3)] _ _ from ?_)
        refine zy_20 rfl (by decide) (show zyR _ _ _ _ [some (.ref (43 + 3)), some (.int x1), some (.int x2), some (.int (x2 / (4 : Int32)))] [.int (x2 - x2 / (4 : Int32) * (4 : Int32)), .int ((p3.2.1 44 (x1).toNatClampNeg) &&& (((3 : Int32) <<< (((2 : Int32) * (x2 / (4 : Int32))) &&& 31)) ^^^ (-1 : Int32))), .int x1, .ref (44 + 3)] _ _ from ?_)
        refine zy_3 rfl rfl (show zyR _ _ _ _ [some (.ref (43 + 3)), some (.int x1), some (.int x2), some (.int (x2 / (4 : Int32)))] [.int (2 : Int32), .int (x2 - x2 / (4 : Int32) * (4 : Int32)), .int ((p3.2.1 44 (x1).toNatClampNeg) &&& (((3 : Int32) <<< (((2 : Int32) * (x2 / (4 : Int32))) &&& 31)) ^^^ (-1 : Int32))), .int x1, .ref (44 + 3)] _ _ from ?_)
        refine zy_2 rfl rfl (show zyR _ _ _ _ [some (.ref (43 + 3)), some (.int x1), some (.int x2), some (.int (x2 / (4 : Int32)))] [.int (x2 / (4 : Int32)), .int (2 : Int32), .int (x2 - x2 / (4 : Int32) * (4 : Int32)), .int ((p3.2.1 44 (x1).toNatClampNeg) &&& (((3 : Int32) <<< (((2 : Int32) * (x2 / (4 : Int32))) &&& 31)) ^^^ (-1 : Int32))), .int x1, .ref (44 + 3)] _ _ from ?_)
        refine zy_12 rfl (show zyR _ _ _ _ [some (.ref (43 + 3)), some (.int x1), some (.int x2), some (.int (x2 / (4 : Int32)))] [.int ((2 : Int32) * (x2 / (4 : Int32))), .int (x2 - x2 / (4 : Int32) * (4 : Int32)), .int ((p3.2.1 44 (x1).toNatClampNeg) &&& (((3 : Int32) <<< (((2 : Int32) * (x2 / (4 : Int32))) &&& 31)) ^^^ (-1 : Int32))), .int x1, .ref (44 + 3)] _ _ from ?_)
        refine zy_16 rfl (show zyR _ _ _ _ [some (.ref (43 + 3)), some (.int x1), some (.int x2), some (.int (x2 / (4 : Int32)))] [.int ((x2 - x2 / (4 : Int32) * (4 : Int32)) <<< (((2 : Int32) * (x2 / (4 : Int32))) &&& 31)), .int ((p3.2.1 44 (x1).toNatClampNeg) &&& (((3 : Int32) <<< (((2 : Int32) * (x2 / (4 : Int32))) &&& 31)) ^^^ (-1 : Int32))), .int x1, .ref (44 + 3)] _ _ from ?_)
        refine zy_14 rfl (show zyR _ _ _ _ [some (.ref (43 + 3)), some (.int x1), some (.int x2), some (.int (x2 / (4 : Int32)))] [.int (((p3.2.1 44 (x1).toNatClampNeg) &&& (((3 : Int32) <<< (((2 : Int32) * (x2 / (4 : Int32))) &&& 31)) ^^^ (-1 : Int32))) ||| ((x2 - x2 / (4 : Int32) * (4 : Int32)) <<< (((2 : Int32) * (x2 / (4 : Int32))) &&& 31))), .int x1, .ref (44 + 3)] _ _ from ?_)
        obtain ⟨c5, h⟩ := zy_if h
        refine zy_27 (c := 44) rfl rfl c5 (show zyR _ _ _ _ [some (.ref (43 + 3)), some (.int x1), some (.int x2), some (.int (x2 / (4 : Int32)))] [] _ _ from ?_)
        refine zy_0 rfl rfl (show zyR _ _ _ _ [some (.ref (43 + 3)), some (.int x1), some (.int x2), some (.int (x2 / (4 : Int32)))] [.ref (43 + 3)] _ _ from ?_)
        refine zy_1r (c := 43) rfl rfl rfl (show zyR _ _ _ _ [some (.ref (43 + 3)), some (.int x1), some (.int x2), some (.int (x2 / (4 : Int32)))] [.ref (54 + 3)] _ _ from ?_)
        refine zy_3 rfl rfl (show zyR _ _ _ _ [some (.ref (43 + 3)), some (.int x1), some (.int x2), some (.int (x2 / (4 : Int32)))] [.int (3 : Int32), .ref (54 + 3)] _ _ from ?_)
        refine zy_35 rfl rfl rfl (show zyR _ _ _ _ [some (.ref (43 + 3)), some (.int x1), some (.int x2), some (.int (x2 / (4 : Int32)))] [.int (3 : Int32), .ref (54 + 3), .int (3 : Int32), .ref (54 + 3)] _ _ from ?_)
        refine zy_26 (c := 54) rfl rfl (by decide) (show zyR _ _ _ _ [some (.ref (43 + 3)), some (.int x1), some (.int x2), some (.int (x2 / (4 : Int32)))] [.int (p3.2.1 54 3), .int (3 : Int32), .ref (54 + 3)] _ _ from ?_)
        refine zy_3 rfl rfl (show zyR _ _ _ _ [some (.ref (43 + 3)), some (.int x1), some (.int x2), some (.int (x2 / (4 : Int32)))] [.int (1 : Int32), .int (p3.2.1 54 3), .int (3 : Int32), .ref (54 + 3)] _ _ from ?_)
        refine zy_10 rfl (show zyR _ _ _ _ [some (.ref (43 + 3)), some (.int x1), some (.int x2), some (.int (x2 / (4 : Int32)))] [.int ((p3.2.1 54 3) + (1 : Int32)), .int (3 : Int32), .ref (54 + 3)] _ _ from ?_)
        refine zy_27 (c := 54) rfl rfl (by decide) (show zyR _ _ _ _ [some (.ref (43 + 3)), some (.int x1), some (.int x2), some (.int (x2 / (4 : Int32)))] [] _ _ from ?_)
        refine zy_0 rfl rfl (show zyR _ _ _ _ [some (.ref (43 + 3)), some (.int x1), some (.int x2), some (.int (x2 / (4 : Int32)))] [.ref (43 + 3)] _ _ from ?_)
        refine zy_1r (c := 43) rfl rfl rfl (show zyR _ _ _ _ [some (.ref (43 + 3)), some (.int x1), some (.int x2), some (.int (x2 / (4 : Int32)))] [.ref (44 + 3)] _ _ from ?_)
        refine zy_2 rfl rfl (show zyR _ _ _ _ [some (.ref (43 + 3)), some (.int x1), some (.int x2), some (.int (x2 / (4 : Int32)))] [.int x1, .ref (44 + 3)] _ _ from ?_)
        obtain ⟨c6, h⟩ := zy_if h
        refine zy_26 (c := 44) rfl rfl c6 (show zyR _ _ _ _ [some (.ref (43 + 3)), some (.int x1), some (.int x2), some (.int (x2 / (4 : Int32)))] [.int ((zy_up p3.2 44 (x1).toNatClampNeg (((p3.2.1 44 (x1).toNatClampNeg) &&& (((3 : Int32) <<< (((2 : Int32) * (x2 / (4 : Int32))) &&& 31)) ^^^ (-1 : Int32))) ||| ((x2 - x2 / (4 : Int32) * (4 : Int32)) <<< (((2 : Int32) * (x2 / (4 : Int32))) &&& 31)))).1 44 (x1).toNatClampNeg)] _ _ from ?_)
        obtain ⟨rfl, rfl⟩ := zy_pi h
        exact zy_4 rfl ⟨rfl, rfl⟩
      · replace h := zy_ifn h b7
        refine zy_3 rfl rfl (show zyR _ _ _ _ [some (.ref (43 + 3)), some (.int x1), some (.int x2), none] [.int (-5 : Int32)] _ _ from ?_)
        obtain ⟨rfl, rfl⟩ := zy_pi h
        exact zy_4 rfl ⟨rfl, rfl⟩
    · replace h := zy_ifn h b8
      refine zy_3 rfl rfl (show zyR _ _ _ _ [some (.ref (43 + 3)), some (.int x1), some (.int x2), none] [.int (-1 : Int32)] _ _ from ?_)
      obtain ⟨rfl, rfl⟩ := zy_pi h
      exact zy_4 rfl ⟨rfl, rfl⟩
end
section
/-! PART 41.08: methods as functions. Made by wip/v4/dcp.py. -/
/-! NineOpinionsModel.image()I -/
noncomputable def zyF245_80b  (k80 : Int32 → zy_S → Option (Int32 × zy_S)) (x1 : Int32) (s : zy_S) : Option (Int32 × zy_S) :=
if (5 : Int32) ≤ x1 then
(zyF209 (s.1 43 7) s).bind fun p1 =>
some (p1.1, p1.2)
else
if zy_in x1 5 then
if zy_in x1 5 then
k80 (x1 + (1 : Int32)) (zy_up s 57 (x1).toNatClampNeg (s.1 54 (x1).toNatClampNeg))
else none
else none
theorem zyC245_80b {X : zx_X}  {k80 : Int32 → zy_S → Option (Int32 × zy_S)}  (hk80 : ∀ (x1 : Int32) (s : zy_S) (r : Int32) (s' : zy_S), k80 x1 s = some (r, s') → zyR X 2 245 80 [some (.ref (43 + 3)), some (.int x1)] [] s (zyE (some (.int r)) s')) {x1 : Int32} {s : zy_S} {r : Int32} {s' : zy_S}  (h : zyF245_80b k80 x1 s = some (r, s')) : zyR X 2 245 80 [some (.ref (43 + 3)), some (.int x1)] [] s (zyE (some (.int r)) s') := by
  unfold zyF245_80b at h
  refine zy_2 rfl rfl (show zyR _ _ _ _ [some (.ref (43 + 3)), some (.int x1)] [.int x1] _ _ from ?_)
  refine zy_3 rfl rfl (show zyR _ _ _ _ [some (.ref (43 + 3)), some (.int x1)] [.int (5 : Int32), .int x1] _ _ from ?_)
  refine zy_25_3 rfl (fun b4 => (show zyR _ _ _ _ [some (.ref (43 + 3)), some (.int x1)] [] _ _ from ?_)) (fun b4 => (show zyR _ _ _ _ [some (.ref (43 + 3)), some (.int x1)] [] _ _ from ?_))
  · replace h := zy_ifp h b4
    refine zy_0 rfl rfl (show zyR _ _ _ _ [some (.ref (43 + 3)), some (.int x1)] [.ref (43 + 3)] _ _ from ?_)
    refine zy_1 (c := 43) rfl rfl rfl (show zyR _ _ _ _ [some (.ref (43 + 3)), some (.int x1)] [.int (s.1 43 7)] _ _ from ?_)
    obtain ⟨p1, hp1, h⟩ := zy_bind h
    refine zy_60 (as := [.int (s.1 43 7)]) (rest := []) (L := [some (.int (s.1 43 7)), none, none]) (d' := 1) rfl rfl (Nat.le_of_ble_eq_true rfl) (Nat.le_of_ble_eq_true rfl) rfl (Nat.le_of_ble_eq_true rfl) rfl rfl (zyC209 hp1) ?_
    show zyR _ _ _ _ [some (.ref (43 + 3)), some (.int x1)] [.int p1.1] _ _
    obtain ⟨rfl, rfl⟩ := zy_pi h
    exact zy_4 rfl ⟨rfl, rfl⟩
  · replace h := zy_ifn h b4
    refine zy_0 rfl rfl (show zyR _ _ _ _ [some (.ref (43 + 3)), some (.int x1)] [.ref (43 + 3)] _ _ from ?_)
    refine zy_1r (c := 43) rfl rfl rfl (show zyR _ _ _ _ [some (.ref (43 + 3)), some (.int x1)] [.ref (57 + 3)] _ _ from ?_)
    refine zy_2 rfl rfl (show zyR _ _ _ _ [some (.ref (43 + 3)), some (.int x1)] [.int x1, .ref (57 + 3)] _ _ from ?_)
    refine zy_0 rfl rfl (show zyR _ _ _ _ [some (.ref (43 + 3)), some (.int x1)] [.ref (43 + 3), .int x1, .ref (57 + 3)] _ _ from ?_)
    refine zy_1r (c := 43) rfl rfl rfl (show zyR _ _ _ _ [some (.ref (43 + 3)), some (.int x1)] [.ref (54 + 3), .int x1, .ref (57 + 3)] _ _ from ?_)
    refine zy_2 rfl rfl (show zyR _ _ _ _ [some (.ref (43 + 3)), some (.int x1)] [.int x1, .ref (54 + 3), .int x1, .ref (57 + 3)] _ _ from ?_)
    obtain ⟨c2, h⟩ := zy_if h
    refine zy_26 (c := 54) rfl rfl c2 (show zyR _ _ _ _ [some (.ref (43 + 3)), some (.int x1)] [.int (s.1 54 (x1).toNatClampNeg), .int x1, .ref (57 + 3)] _ _ from ?_)
    obtain ⟨c3, h⟩ := zy_if h
    refine zy_27 (c := 57) rfl rfl c3 (show zyR _ _ _ _ [some (.ref (43 + 3)), some (.int x1)] [] _ _ from ?_)
    refine zy_22 rfl rfl rfl rfl (show zyR _ _ _ _ [some (.ref (43 + 3)), some (.int (x1 + (1 : Int32)))] [] _ _ from ?_)
    refine zy_6 rfl (show zyR _ _ _ _ [some (.ref (43 + 3)), some (.int (x1 + (1 : Int32)))] [] _ _ from ?_)
    exact zy_sub (show zy_le [some (.ref (43 + 3)), some (.int (x1 + (1 : Int32)))] [some (.ref (43 + 3)), some (.int (x1 + (1 : Int32)))] from ⟨rfl, ⟨rfl, trivial⟩⟩) (hk80 (x1 + (1 : Int32)) (zy_up s 57 (x1).toNatClampNeg (s.1 54 (x1).toNatClampNeg)) _ _ h)
noncomputable def zyF245_80   (n : Nat) : Int32 → zy_S → Option (Int32 × zy_S) := Nat.rec (fun _ _ => none) (fun _ k80 => zyF245_80b k80) n
theorem zyC245_80 {X : zx_X}     : ∀ (n : Nat) (x1 : Int32) (s : zy_S) (r : Int32) (s' : zy_S), zyF245_80 n x1 s = some (r, s') → zyR X 2 245 80 [some (.ref (43 + 3)), some (.int x1)] [] s (zyE (some (.int r)) s')
  | 0, _ => by
    intro s r s'  h
    have h : (none : Option (Int32 × zy_S)) = some (r, s') := h
    cases h
  | n + 1, x1 => by
    intro s r s'  h
    exact zyC245_80b (k80 := zyF245_80 n) (fun x1 s r s'  h => zyC245_80  n x1 s r s'  h) h
noncomputable def zyF245_51b  (k51 : Int32 → zy_S → Option (Int32 × zy_S)) (x1 : Int32) (s : zy_S) : Option (Int32 × zy_S) :=
if (24 : Int32) ≤ x1 then
zyF245_80 zy_fu (0 : Int32) s
else
if zy_in ((16 : Int32) + x1) 41 then
if zy_in x1 24 then
k51 (x1 + (1 : Int32)) (zy_up s 56 (x1).toNatClampNeg (s.1 44 (((16 : Int32) + x1)).toNatClampNeg))
else none
else none
theorem zyC245_51b {X : zx_X}  {k51 : Int32 → zy_S → Option (Int32 × zy_S)}  (hk51 : ∀ (x1 : Int32) (s : zy_S) (r : Int32) (s' : zy_S), k51 x1 s = some (r, s') → zyR X 2 245 51 [some (.ref (43 + 3)), some (.int x1)] [] s (zyE (some (.int r)) s')) {x1 : Int32} {s : zy_S} {r : Int32} {s' : zy_S}  (h : zyF245_51b k51 x1 s = some (r, s')) : zyR X 2 245 51 [some (.ref (43 + 3)), some (.int x1)] [] s (zyE (some (.int r)) s') := by
  unfold zyF245_51b at h
  refine zy_2 rfl rfl (show zyR _ _ _ _ [some (.ref (43 + 3)), some (.int x1)] [.int x1] _ _ from ?_)
  refine zy_3 rfl rfl (show zyR _ _ _ _ [some (.ref (43 + 3)), some (.int x1)] [.int (24 : Int32), .int x1] _ _ from ?_)
  refine zy_25_3 rfl (fun b7 => (show zyR _ _ _ _ [some (.ref (43 + 3)), some (.int x1)] [] _ _ from ?_)) (fun b7 => (show zyR _ _ _ _ [some (.ref (43 + 3)), some (.int x1)] [] _ _ from ?_))
  · replace h := zy_ifp h b7
    refine zy_3 rfl rfl (show zyR _ _ _ _ [some (.ref (43 + 3)), some (.int x1)] [.int (0 : Int32)] _ _ from ?_)
    refine zy_23 rfl rfl (show zyR _ _ _ _ [some (.ref (43 + 3)), some (.int (0 : Int32))] [] _ _ from ?_)
    exact zy_sub (show zy_le [some (.ref (43 + 3)), some (.int (0 : Int32))] [some (.ref (43 + 3)), some (.int (0 : Int32))] from ⟨rfl, ⟨rfl, trivial⟩⟩) (zyC245_80 zy_fu (0 : Int32) s _ _ h)
  · replace h := zy_ifn h b7
    refine zy_0 rfl rfl (show zyR _ _ _ _ [some (.ref (43 + 3)), some (.int x1)] [.ref (43 + 3)] _ _ from ?_)
    refine zy_1r (c := 43) rfl rfl rfl (show zyR _ _ _ _ [some (.ref (43 + 3)), some (.int x1)] [.ref (56 + 3)] _ _ from ?_)
    refine zy_2 rfl rfl (show zyR _ _ _ _ [some (.ref (43 + 3)), some (.int x1)] [.int x1, .ref (56 + 3)] _ _ from ?_)
    refine zy_0 rfl rfl (show zyR _ _ _ _ [some (.ref (43 + 3)), some (.int x1)] [.ref (43 + 3), .int x1, .ref (56 + 3)] _ _ from ?_)
    refine zy_1r (c := 43) rfl rfl rfl (show zyR _ _ _ _ [some (.ref (43 + 3)), some (.int x1)] [.ref (44 + 3), .int x1, .ref (56 + 3)] _ _ from ?_)
    refine zy_3 rfl rfl (show zyR _ _ _ _ [some (.ref (43 + 3)), some (.int x1)] [.int (16 : Int32), .ref (44 + 3), .int x1, .ref (56 + 3)] _ _ from ?_)
    refine zy_2 rfl rfl (show zyR _ _ _ _ [some (.ref (43 + 3)), some (.int x1)] [.int x1, .int (16 : Int32), .ref (44 + 3), .int x1, .ref (56 + 3)] _ _ from ?_)
    refine zy_10 rfl (show zyR _ _ _ _ [some (.ref (43 + 3)), some (.int x1)] [.int ((16 : Int32) + x1), .ref (44 + 3), .int x1, .ref (56 + 3)] _ _ from ?_)
    obtain ⟨c5, h⟩ := zy_if h
    refine zy_26 (c := 44) rfl rfl c5 (show zyR _ _ _ _ [some (.ref (43 + 3)), some (.int x1)] [.int (s.1 44 (((16 : Int32) + x1)).toNatClampNeg), .int x1, .ref (56 + 3)] _ _ from ?_)
    obtain ⟨c6, h⟩ := zy_if h
    refine zy_27 (c := 56) rfl rfl c6 (show zyR _ _ _ _ [some (.ref (43 + 3)), some (.int x1)] [] _ _ from ?_)
    refine zy_22 rfl rfl rfl rfl (show zyR _ _ _ _ [some (.ref (43 + 3)), some (.int (x1 + (1 : Int32)))] [] _ _ from ?_)
    refine zy_6 rfl (show zyR _ _ _ _ [some (.ref (43 + 3)), some (.int (x1 + (1 : Int32)))] [] _ _ from ?_)
    exact zy_sub (show zy_le [some (.ref (43 + 3)), some (.int (x1 + (1 : Int32)))] [some (.ref (43 + 3)), some (.int (x1 + (1 : Int32)))] from ⟨rfl, ⟨rfl, trivial⟩⟩) (hk51 (x1 + (1 : Int32)) (zy_up s 56 (x1).toNatClampNeg (s.1 44 (((16 : Int32) + x1)).toNatClampNeg)) _ _ h)
noncomputable def zyF245_51   (n : Nat) : Int32 → zy_S → Option (Int32 × zy_S) := Nat.rec (fun _ _ => none) (fun _ k51 => zyF245_51b k51) n
theorem zyC245_51 {X : zx_X}     : ∀ (n : Nat) (x1 : Int32) (s : zy_S) (r : Int32) (s' : zy_S), zyF245_51 n x1 s = some (r, s') → zyR X 2 245 51 [some (.ref (43 + 3)), some (.int x1)] [] s (zyE (some (.int r)) s')
  | 0, _ => by
    intro s r s'  h
    have h : (none : Option (Int32 × zy_S)) = some (r, s') := h
    cases h
  | n + 1, x1 => by
    intro s r s'  h
    exact zyC245_51b (k51 := zyF245_51 n) (fun x1 s r s'  h => zyC245_51  n x1 s r s'  h) h
noncomputable def zyF245_23b  (k23 : Int32 → zy_S → Option (Int32 × zy_S)) (x1 : Int32) (s : zy_S) : Option (Int32 × zy_S) :=
if (s.1 43 6) ≤ x1 then
zyF245_51 zy_fu (0 : Int32) s
else
if zy_in x1 41 then
if zy_in x1 8 then
k23 (x1 + (1 : Int32)) (zy_up s 55 (x1).toNatClampNeg (s.1 44 (x1).toNatClampNeg))
else none
else none
theorem zyC245_23b {X : zx_X}  {k23 : Int32 → zy_S → Option (Int32 × zy_S)}  (hk23 : ∀ (x1 : Int32) (s : zy_S) (r : Int32) (s' : zy_S), k23 x1 s = some (r, s') → zyR X 2 245 23 [some (.ref (43 + 3)), some (.int x1)] [] s (zyE (some (.int r)) s')) {x1 : Int32} {s : zy_S} {r : Int32} {s' : zy_S}  (h : zyF245_23b k23 x1 s = some (r, s')) : zyR X 2 245 23 [some (.ref (43 + 3)), some (.int x1)] [] s (zyE (some (.int r)) s') := by
  unfold zyF245_23b at h
  refine zy_2 rfl rfl (show zyR _ _ _ _ [some (.ref (43 + 3)), some (.int x1)] [.int x1] _ _ from ?_)
  refine zy_0 rfl rfl (show zyR _ _ _ _ [some (.ref (43 + 3)), some (.int x1)] [.ref (43 + 3), .int x1] _ _ from ?_)
  refine zy_1 (c := 43) rfl rfl rfl (show zyR _ _ _ _ [some (.ref (43 + 3)), some (.int x1)] [.int (s.1 43 6), .int x1] _ _ from ?_)
  refine zy_25_3 rfl (fun b10 => (show zyR _ _ _ _ [some (.ref (43 + 3)), some (.int x1)] [] _ _ from ?_)) (fun b10 => (show zyR _ _ _ _ [some (.ref (43 + 3)), some (.int x1)] [] _ _ from ?_))
  · replace h := zy_ifp h b10
    refine zy_3 rfl rfl (show zyR _ _ _ _ [some (.ref (43 + 3)), some (.int x1)] [.int (0 : Int32)] _ _ from ?_)
    refine zy_23 rfl rfl (show zyR _ _ _ _ [some (.ref (43 + 3)), some (.int (0 : Int32))] [] _ _ from ?_)
    exact zy_sub (show zy_le [some (.ref (43 + 3)), some (.int (0 : Int32))] [some (.ref (43 + 3)), some (.int (0 : Int32))] from ⟨rfl, ⟨rfl, trivial⟩⟩) (zyC245_51 zy_fu (0 : Int32) s _ _ h)
  · replace h := zy_ifn h b10
    refine zy_0 rfl rfl (show zyR _ _ _ _ [some (.ref (43 + 3)), some (.int x1)] [.ref (43 + 3)] _ _ from ?_)
    refine zy_1r (c := 43) rfl rfl rfl (show zyR _ _ _ _ [some (.ref (43 + 3)), some (.int x1)] [.ref (55 + 3)] _ _ from ?_)
    refine zy_2 rfl rfl (show zyR _ _ _ _ [some (.ref (43 + 3)), some (.int x1)] [.int x1, .ref (55 + 3)] _ _ from ?_)
    refine zy_0 rfl rfl (show zyR _ _ _ _ [some (.ref (43 + 3)), some (.int x1)] [.ref (43 + 3), .int x1, .ref (55 + 3)] _ _ from ?_)
    refine zy_1r (c := 43) rfl rfl rfl (show zyR _ _ _ _ [some (.ref (43 + 3)), some (.int x1)] [.ref (44 + 3), .int x1, .ref (55 + 3)] _ _ from ?_)
    refine zy_2 rfl rfl (show zyR _ _ _ _ [some (.ref (43 + 3)), some (.int x1)] [.int x1, .ref (44 + 3), .int x1, .ref (55 + 3)] _ _ from ?_)
    obtain ⟨c8, h⟩ := zy_if h
    refine zy_26 (c := 44) rfl rfl c8 (show zyR _ _ _ _ [some (.ref (43 + 3)), some (.int x1)] [.int (s.1 44 (x1).toNatClampNeg), .int x1, .ref (55 + 3)] _ _ from ?_)
    obtain ⟨c9, h⟩ := zy_if h
    refine zy_27 (c := 55) rfl rfl c9 (show zyR _ _ _ _ [some (.ref (43 + 3)), some (.int x1)] [] _ _ from ?_)
    refine zy_22 rfl rfl rfl rfl (show zyR _ _ _ _ [some (.ref (43 + 3)), some (.int (x1 + (1 : Int32)))] [] _ _ from ?_)
    refine zy_6 rfl (show zyR _ _ _ _ [some (.ref (43 + 3)), some (.int (x1 + (1 : Int32)))] [] _ _ from ?_)
    exact zy_sub (show zy_le [some (.ref (43 + 3)), some (.int (x1 + (1 : Int32)))] [some (.ref (43 + 3)), some (.int (x1 + (1 : Int32)))] from ⟨rfl, ⟨rfl, trivial⟩⟩) (hk23 (x1 + (1 : Int32)) (zy_up s 55 (x1).toNatClampNeg (s.1 44 (x1).toNatClampNeg)) _ _ h)
noncomputable def zyF245_23   (n : Nat) : Int32 → zy_S → Option (Int32 × zy_S) := Nat.rec (fun _ _ => none) (fun _ k23 => zyF245_23b k23) n
theorem zyC245_23 {X : zx_X}     : ∀ (n : Nat) (x1 : Int32) (s : zy_S) (r : Int32) (s' : zy_S), zyF245_23 n x1 s = some (r, s') → zyR X 2 245 23 [some (.ref (43 + 3)), some (.int x1)] [] s (zyE (some (.int r)) s')
  | 0, _ => by
    intro s r s'  h
    have h : (none : Option (Int32 × zy_S)) = some (r, s') := h
    cases h
  | n + 1, x1 => by
    intro s r s'  h
    exact zyC245_23b (k23 := zyF245_23 n) (fun x1 s r s'  h => zyC245_23  n x1 s r s'  h) h
noncomputable def zyF245    (s : zy_S) : Option (Int32 × zy_S) :=
zyF245_23 zy_fu (0 : Int32) (zy_up (zy_up (zy_up s 43 22 (1 : Int32)) 43 23 (s.1 43 6)) 43 24 (s.1 43 7))
theorem zyC245 {X : zx_X}      {s : zy_S} {r : Int32} {s' : zy_S}  (h : zyF245 s = some (r, s')) : zyR X 2 245 0 [some (.ref (43 + 3)), none] [] s (zyE (some (.int r)) s') := by
  unfold zyF245 at h
  refine zy_0 rfl rfl (show zyR _ _ _ _ [some (.ref (43 + 3)), none] [.ref (43 + 3)] _ _ from ?_)
  refine zy_3 rfl rfl (show zyR _ _ _ _ [some (.ref (43 + 3)), none] [.int (1 : Int32), .ref (43 + 3)] _ _ from ?_)
  refine zy_52b (c := 43) rfl rfl rfl (Or.inr rfl) (show zyR _ _ _ _ [some (.ref (43 + 3)), none] [] _ _ from ?_)
  refine zy_0 rfl rfl (show zyR _ _ _ _ [some (.ref (43 + 3)), none] [.ref (43 + 3)] _ _ from ?_)
  refine zy_0 rfl rfl (show zyR _ _ _ _ [some (.ref (43 + 3)), none] [.ref (43 + 3), .ref (43 + 3)] _ _ from ?_)
  refine zy_1 (c := 43) rfl rfl rfl (show zyR _ _ _ _ [some (.ref (43 + 3)), none] [.int (s.1 43 6), .ref (43 + 3)] _ _ from ?_)
  refine zy_52 (c := 43) rfl rfl rfl (show zyR _ _ _ _ [some (.ref (43 + 3)), none] [] _ _ from ?_)
  refine zy_0 rfl rfl (show zyR _ _ _ _ [some (.ref (43 + 3)), none] [.ref (43 + 3)] _ _ from ?_)
  refine zy_0 rfl rfl (show zyR _ _ _ _ [some (.ref (43 + 3)), none] [.ref (43 + 3), .ref (43 + 3)] _ _ from ?_)
  refine zy_1 (c := 43) rfl rfl rfl (show zyR _ _ _ _ [some (.ref (43 + 3)), none] [.int (s.1 43 7), .ref (43 + 3)] _ _ from ?_)
  refine zy_52 (c := 43) rfl rfl rfl (show zyR _ _ _ _ [some (.ref (43 + 3)), none] [] _ _ from ?_)
  refine zy_3 rfl rfl (show zyR _ _ _ _ [some (.ref (43 + 3)), none] [.int (0 : Int32)] _ _ from ?_)
  refine zy_23 rfl rfl (show zyR _ _ _ _ [some (.ref (43 + 3)), some (.int (0 : Int32))] [] _ _ from ?_)
  exact zy_sub (show zy_le [some (.ref (43 + 3)), some (.int (0 : Int32))] [some (.ref (43 + 3)), some (.int (0 : Int32))] from ⟨rfl, ⟨rfl, trivial⟩⟩) (zyC245_23 zy_fu (0 : Int32) (zy_up (zy_up (zy_up s 43 22 (1 : Int32)) 43 23 (s.1 43 6)) 43 24 (s.1 43 7)) _ _ h)
/-! NineOpinionsModel.back()I -/
noncomputable def zyF246_77b  (k77 : Int32 → zy_S → Option (Int32 × zy_S)) (x1 : Int32) (s : zy_S) : Option (Int32 × zy_S) :=
if (5 : Int32) ≤ x1 then
(zyF209 (s.1 43 7) s).bind fun p1 =>
some (p1.1, p1.2)
else
if zy_in x1 5 then
if zy_in x1 5 then
k77 (x1 + (1 : Int32)) (zy_up s 54 (x1).toNatClampNeg (s.1 57 (x1).toNatClampNeg))
else none
else none
theorem zyC246_77b {X : zx_X}  {k77 : Int32 → zy_S → Option (Int32 × zy_S)}  (hk77 : ∀ (x1 : Int32) (s : zy_S) (r : Int32) (s' : zy_S), k77 x1 s = some (r, s') → zyR X 2 246 77 [some (.ref (43 + 3)), some (.int x1)] [] s (zyE (some (.int r)) s')) {x1 : Int32} {s : zy_S} {r : Int32} {s' : zy_S}  (h : zyF246_77b k77 x1 s = some (r, s')) : zyR X 2 246 77 [some (.ref (43 + 3)), some (.int x1)] [] s (zyE (some (.int r)) s') := by
  unfold zyF246_77b at h
  refine zy_2 rfl rfl (show zyR _ _ _ _ [some (.ref (43 + 3)), some (.int x1)] [.int x1] _ _ from ?_)
  refine zy_3 rfl rfl (show zyR _ _ _ _ [some (.ref (43 + 3)), some (.int x1)] [.int (5 : Int32), .int x1] _ _ from ?_)
  refine zy_25_3 rfl (fun b4 => (show zyR _ _ _ _ [some (.ref (43 + 3)), some (.int x1)] [] _ _ from ?_)) (fun b4 => (show zyR _ _ _ _ [some (.ref (43 + 3)), some (.int x1)] [] _ _ from ?_))
  · replace h := zy_ifp h b4
    refine zy_0 rfl rfl (show zyR _ _ _ _ [some (.ref (43 + 3)), some (.int x1)] [.ref (43 + 3)] _ _ from ?_)
    refine zy_1 (c := 43) rfl rfl rfl (show zyR _ _ _ _ [some (.ref (43 + 3)), some (.int x1)] [.int (s.1 43 7)] _ _ from ?_)
    obtain ⟨p1, hp1, h⟩ := zy_bind h
    refine zy_60 (as := [.int (s.1 43 7)]) (rest := []) (L := [some (.int (s.1 43 7)), none, none]) (d' := 1) rfl rfl (Nat.le_of_ble_eq_true rfl) (Nat.le_of_ble_eq_true rfl) rfl (Nat.le_of_ble_eq_true rfl) rfl rfl (zyC209 hp1) ?_
    show zyR _ _ _ _ [some (.ref (43 + 3)), some (.int x1)] [.int p1.1] _ _
    obtain ⟨rfl, rfl⟩ := zy_pi h
    exact zy_4 rfl ⟨rfl, rfl⟩
  · replace h := zy_ifn h b4
    refine zy_0 rfl rfl (show zyR _ _ _ _ [some (.ref (43 + 3)), some (.int x1)] [.ref (43 + 3)] _ _ from ?_)
    refine zy_1r (c := 43) rfl rfl rfl (show zyR _ _ _ _ [some (.ref (43 + 3)), some (.int x1)] [.ref (54 + 3)] _ _ from ?_)
    refine zy_2 rfl rfl (show zyR _ _ _ _ [some (.ref (43 + 3)), some (.int x1)] [.int x1, .ref (54 + 3)] _ _ from ?_)
    refine zy_0 rfl rfl (show zyR _ _ _ _ [some (.ref (43 + 3)), some (.int x1)] [.ref (43 + 3), .int x1, .ref (54 + 3)] _ _ from ?_)
    refine zy_1r (c := 43) rfl rfl rfl (show zyR _ _ _ _ [some (.ref (43 + 3)), some (.int x1)] [.ref (57 + 3), .int x1, .ref (54 + 3)] _ _ from ?_)
    refine zy_2 rfl rfl (show zyR _ _ _ _ [some (.ref (43 + 3)), some (.int x1)] [.int x1, .ref (57 + 3), .int x1, .ref (54 + 3)] _ _ from ?_)
    obtain ⟨c2, h⟩ := zy_if h
    refine zy_26 (c := 57) rfl rfl c2 (show zyR _ _ _ _ [some (.ref (43 + 3)), some (.int x1)] [.int (s.1 57 (x1).toNatClampNeg), .int x1, .ref (54 + 3)] _ _ from ?_)
    obtain ⟨c3, h⟩ := zy_if h
    refine zy_27 (c := 54) rfl rfl c3 (show zyR _ _ _ _ [some (.ref (43 + 3)), some (.int x1)] [] _ _ from ?_)
    refine zy_22 rfl rfl rfl rfl (show zyR _ _ _ _ [some (.ref (43 + 3)), some (.int (x1 + (1 : Int32)))] [] _ _ from ?_)
    refine zy_6 rfl (show zyR _ _ _ _ [some (.ref (43 + 3)), some (.int (x1 + (1 : Int32)))] [] _ _ from ?_)
    exact zy_sub (show zy_le [some (.ref (43 + 3)), some (.int (x1 + (1 : Int32)))] [some (.ref (43 + 3)), some (.int (x1 + (1 : Int32)))] from ⟨rfl, ⟨rfl, trivial⟩⟩) (hk77 (x1 + (1 : Int32)) (zy_up s 54 (x1).toNatClampNeg (s.1 57 (x1).toNatClampNeg)) _ _ h)
noncomputable def zyF246_77   (n : Nat) : Int32 → zy_S → Option (Int32 × zy_S) := Nat.rec (fun _ _ => none) (fun _ k77 => zyF246_77b k77) n
theorem zyC246_77 {X : zx_X}     : ∀ (n : Nat) (x1 : Int32) (s : zy_S) (r : Int32) (s' : zy_S), zyF246_77 n x1 s = some (r, s') → zyR X 2 246 77 [some (.ref (43 + 3)), some (.int x1)] [] s (zyE (some (.int r)) s')
  | 0, _ => by
    intro s r s'  h
    have h : (none : Option (Int32 × zy_S)) = some (r, s') := h
    cases h
  | n + 1, x1 => by
    intro s r s'  h
    exact zyC246_77b (k77 := zyF246_77 n) (fun x1 s r s'  h => zyC246_77  n x1 s r s'  h) h
noncomputable def zyF246_48b  (k48 : Int32 → zy_S → Option (Int32 × zy_S)) (x1 : Int32) (s : zy_S) : Option (Int32 × zy_S) :=
if (24 : Int32) ≤ x1 then
zyF246_77 zy_fu (0 : Int32) s
else
if zy_in x1 24 then
if zy_in ((16 : Int32) + x1) 41 then
k48 (x1 + (1 : Int32)) (zy_up s 44 (((16 : Int32) + x1)).toNatClampNeg (s.1 56 (x1).toNatClampNeg))
else none
else none
theorem zyC246_48b {X : zx_X}  {k48 : Int32 → zy_S → Option (Int32 × zy_S)}  (hk48 : ∀ (x1 : Int32) (s : zy_S) (r : Int32) (s' : zy_S), k48 x1 s = some (r, s') → zyR X 2 246 48 [some (.ref (43 + 3)), some (.int x1)] [] s (zyE (some (.int r)) s')) {x1 : Int32} {s : zy_S} {r : Int32} {s' : zy_S}  (h : zyF246_48b k48 x1 s = some (r, s')) : zyR X 2 246 48 [some (.ref (43 + 3)), some (.int x1)] [] s (zyE (some (.int r)) s') := by
  unfold zyF246_48b at h
  refine zy_2 rfl rfl (show zyR _ _ _ _ [some (.ref (43 + 3)), some (.int x1)] [.int x1] _ _ from ?_)
  refine zy_3 rfl rfl (show zyR _ _ _ _ [some (.ref (43 + 3)), some (.int x1)] [.int (24 : Int32), .int x1] _ _ from ?_)
  refine zy_25_3 rfl (fun b7 => (show zyR _ _ _ _ [some (.ref (43 + 3)), some (.int x1)] [] _ _ from ?_)) (fun b7 => (show zyR _ _ _ _ [some (.ref (43 + 3)), some (.int x1)] [] _ _ from ?_))
  · replace h := zy_ifp h b7
    refine zy_3 rfl rfl (show zyR _ _ _ _ [some (.ref (43 + 3)), some (.int x1)] [.int (0 : Int32)] _ _ from ?_)
    refine zy_23 rfl rfl (show zyR _ _ _ _ [some (.ref (43 + 3)), some (.int (0 : Int32))] [] _ _ from ?_)
    exact zy_sub (show zy_le [some (.ref (43 + 3)), some (.int (0 : Int32))] [some (.ref (43 + 3)), some (.int (0 : Int32))] from ⟨rfl, ⟨rfl, trivial⟩⟩) (zyC246_77 zy_fu (0 : Int32) s _ _ h)
  · replace h := zy_ifn h b7
    refine zy_0 rfl rfl (show zyR _ _ _ _ [some (.ref (43 + 3)), some (.int x1)] [.ref (43 + 3)] _ _ from ?_)
    refine zy_1r (c := 43) rfl rfl rfl (show zyR _ _ _ _ [some (.ref (43 + 3)), some (.int x1)] [.ref (44 + 3)] _ _ from ?_)
    refine zy_3 rfl rfl (show zyR _ _ _ _ [some (.ref (43 + 3)), some (.int x1)] [.int (16 : Int32), .ref (44 + 3)] _ _ from ?_)
    refine zy_2 rfl rfl (show zyR _ _ _ _ [some (.ref (43 + 3)), some (.int x1)] [.int x1, .int (16 : Int32), .ref (44 + 3)] _ _ from ?_)
    refine zy_10 rfl (show zyR _ _ _ _ [some (.ref (43 + 3)), some (.int x1)] [.int ((16 : Int32) + x1), .ref (44 + 3)] _ _ from ?_)
    refine zy_0 rfl rfl (show zyR _ _ _ _ [some (.ref (43 + 3)), some (.int x1)] [.ref (43 + 3), .int ((16 : Int32) + x1), .ref (44 + 3)] _ _ from ?_)
    refine zy_1r (c := 43) rfl rfl rfl (show zyR _ _ _ _ [some (.ref (43 + 3)), some (.int x1)] [.ref (56 + 3), .int ((16 : Int32) + x1), .ref (44 + 3)] _ _ from ?_)
    refine zy_2 rfl rfl (show zyR _ _ _ _ [some (.ref (43 + 3)), some (.int x1)] [.int x1, .ref (56 + 3), .int ((16 : Int32) + x1), .ref (44 + 3)] _ _ from ?_)
    obtain ⟨c5, h⟩ := zy_if h
    refine zy_26 (c := 56) rfl rfl c5 (show zyR _ _ _ _ [some (.ref (43 + 3)), some (.int x1)] [.int (s.1 56 (x1).toNatClampNeg), .int ((16 : Int32) + x1), .ref (44 + 3)] _ _ from ?_)
    obtain ⟨c6, h⟩ := zy_if h
    refine zy_27 (c := 44) rfl rfl c6 (show zyR _ _ _ _ [some (.ref (43 + 3)), some (.int x1)] [] _ _ from ?_)
    refine zy_22 rfl rfl rfl rfl (show zyR _ _ _ _ [some (.ref (43 + 3)), some (.int (x1 + (1 : Int32)))] [] _ _ from ?_)
    refine zy_6 rfl (show zyR _ _ _ _ [some (.ref (43 + 3)), some (.int (x1 + (1 : Int32)))] [] _ _ from ?_)
    exact zy_sub (show zy_le [some (.ref (43 + 3)), some (.int (x1 + (1 : Int32)))] [some (.ref (43 + 3)), some (.int (x1 + (1 : Int32)))] from ⟨rfl, ⟨rfl, trivial⟩⟩) (hk48 (x1 + (1 : Int32)) (zy_up s 44 (((16 : Int32) + x1)).toNatClampNeg (s.1 56 (x1).toNatClampNeg)) _ _ h)
noncomputable def zyF246_48   (n : Nat) : Int32 → zy_S → Option (Int32 × zy_S) := Nat.rec (fun _ _ => none) (fun _ k48 => zyF246_48b k48) n
theorem zyC246_48 {X : zx_X}     : ∀ (n : Nat) (x1 : Int32) (s : zy_S) (r : Int32) (s' : zy_S), zyF246_48 n x1 s = some (r, s') → zyR X 2 246 48 [some (.ref (43 + 3)), some (.int x1)] [] s (zyE (some (.int r)) s')
  | 0, _ => by
    intro s r s'  h
    have h : (none : Option (Int32 × zy_S)) = some (r, s') := h
    cases h
  | n + 1, x1 => by
    intro s r s'  h
    exact zyC246_48b (k48 := zyF246_48 n) (fun x1 s r s'  h => zyC246_48  n x1 s r s'  h) h
noncomputable def zyF246_20b  (k20 : Int32 → zy_S → Option (Int32 × zy_S)) (x1 : Int32) (s : zy_S) : Option (Int32 × zy_S) :=
if (s.1 43 23) ≤ x1 then
zyF246_48 zy_fu (0 : Int32) s
else
if zy_in x1 8 then
if zy_in x1 41 then
k20 (x1 + (1 : Int32)) (zy_up s 44 (x1).toNatClampNeg (s.1 55 (x1).toNatClampNeg))
else none
else none
theorem zyC246_20b {X : zx_X}  {k20 : Int32 → zy_S → Option (Int32 × zy_S)}  (hk20 : ∀ (x1 : Int32) (s : zy_S) (r : Int32) (s' : zy_S), k20 x1 s = some (r, s') → zyR X 2 246 20 [some (.ref (43 + 3)), some (.int x1)] [] s (zyE (some (.int r)) s')) {x1 : Int32} {s : zy_S} {r : Int32} {s' : zy_S}  (h : zyF246_20b k20 x1 s = some (r, s')) : zyR X 2 246 20 [some (.ref (43 + 3)), some (.int x1)] [] s (zyE (some (.int r)) s') := by
  unfold zyF246_20b at h
  refine zy_2 rfl rfl (show zyR _ _ _ _ [some (.ref (43 + 3)), some (.int x1)] [.int x1] _ _ from ?_)
  refine zy_0 rfl rfl (show zyR _ _ _ _ [some (.ref (43 + 3)), some (.int x1)] [.ref (43 + 3), .int x1] _ _ from ?_)
  refine zy_1 (c := 43) rfl rfl rfl (show zyR _ _ _ _ [some (.ref (43 + 3)), some (.int x1)] [.int (s.1 43 23), .int x1] _ _ from ?_)
  refine zy_25_3 rfl (fun b10 => (show zyR _ _ _ _ [some (.ref (43 + 3)), some (.int x1)] [] _ _ from ?_)) (fun b10 => (show zyR _ _ _ _ [some (.ref (43 + 3)), some (.int x1)] [] _ _ from ?_))
  · replace h := zy_ifp h b10
    refine zy_3 rfl rfl (show zyR _ _ _ _ [some (.ref (43 + 3)), some (.int x1)] [.int (0 : Int32)] _ _ from ?_)
    refine zy_23 rfl rfl (show zyR _ _ _ _ [some (.ref (43 + 3)), some (.int (0 : Int32))] [] _ _ from ?_)
    exact zy_sub (show zy_le [some (.ref (43 + 3)), some (.int (0 : Int32))] [some (.ref (43 + 3)), some (.int (0 : Int32))] from ⟨rfl, ⟨rfl, trivial⟩⟩) (zyC246_48 zy_fu (0 : Int32) s _ _ h)
  · replace h := zy_ifn h b10
    refine zy_0 rfl rfl (show zyR _ _ _ _ [some (.ref (43 + 3)), some (.int x1)] [.ref (43 + 3)] _ _ from ?_)
    refine zy_1r (c := 43) rfl rfl rfl (show zyR _ _ _ _ [some (.ref (43 + 3)), some (.int x1)] [.ref (44 + 3)] _ _ from ?_)
    refine zy_2 rfl rfl (show zyR _ _ _ _ [some (.ref (43 + 3)), some (.int x1)] [.int x1, .ref (44 + 3)] _ _ from ?_)
    refine zy_0 rfl rfl (show zyR _ _ _ _ [some (.ref (43 + 3)), some (.int x1)] [.ref (43 + 3), .int x1, .ref (44 + 3)] _ _ from ?_)
    refine zy_1r (c := 43) rfl rfl rfl (show zyR _ _ _ _ [some (.ref (43 + 3)), some (.int x1)] [.ref (55 + 3), .int x1, .ref (44 + 3)] _ _ from ?_)
    refine zy_2 rfl rfl (show zyR _ _ _ _ [some (.ref (43 + 3)), some (.int x1)] [.int x1, .ref (55 + 3), .int x1, .ref (44 + 3)] _ _ from ?_)
    obtain ⟨c8, h⟩ := zy_if h
    refine zy_26 (c := 55) rfl rfl c8 (show zyR _ _ _ _ [some (.ref (43 + 3)), some (.int x1)] [.int (s.1 55 (x1).toNatClampNeg), .int x1, .ref (44 + 3)] _ _ from ?_)
    obtain ⟨c9, h⟩ := zy_if h
    refine zy_27 (c := 44) rfl rfl c9 (show zyR _ _ _ _ [some (.ref (43 + 3)), some (.int x1)] [] _ _ from ?_)
    refine zy_22 rfl rfl rfl rfl (show zyR _ _ _ _ [some (.ref (43 + 3)), some (.int (x1 + (1 : Int32)))] [] _ _ from ?_)
    refine zy_6 rfl (show zyR _ _ _ _ [some (.ref (43 + 3)), some (.int (x1 + (1 : Int32)))] [] _ _ from ?_)
    exact zy_sub (show zy_le [some (.ref (43 + 3)), some (.int (x1 + (1 : Int32)))] [some (.ref (43 + 3)), some (.int (x1 + (1 : Int32)))] from ⟨rfl, ⟨rfl, trivial⟩⟩) (hk20 (x1 + (1 : Int32)) (zy_up s 44 (x1).toNatClampNeg (s.1 55 (x1).toNatClampNeg)) _ _ h)
noncomputable def zyF246_20   (n : Nat) : Int32 → zy_S → Option (Int32 × zy_S) := Nat.rec (fun _ _ => none) (fun _ k20 => zyF246_20b k20) n
theorem zyC246_20 {X : zx_X}     : ∀ (n : Nat) (x1 : Int32) (s : zy_S) (r : Int32) (s' : zy_S), zyF246_20 n x1 s = some (r, s') → zyR X 2 246 20 [some (.ref (43 + 3)), some (.int x1)] [] s (zyE (some (.int r)) s')
  | 0, _ => by
    intro s r s'  h
    have h : (none : Option (Int32 × zy_S)) = some (r, s') := h
    cases h
  | n + 1, x1 => by
    intro s r s'  h
    exact zyC246_20b (k20 := zyF246_20 n) (fun x1 s r s'  h => zyC246_20  n x1 s r s'  h) h
noncomputable def zyF246    (s : zy_S) : Option (Int32 × zy_S) :=
if (s.1 43 22) ≠ 0 then
zyF246_20 zy_fu (0 : Int32) (zy_up s 43 7 (s.1 43 24))
else
some ((-5 : Int32), s)
theorem zyC246 {X : zx_X}      {s : zy_S} {r : Int32} {s' : zy_S}  (h : zyF246 s = some (r, s')) : zyR X 2 246 0 [some (.ref (43 + 3)), none] [] s (zyE (some (.int r)) s') := by
  unfold zyF246 at h
  refine zy_0 rfl rfl (show zyR _ _ _ _ [some (.ref (43 + 3)), none] [.ref (43 + 3)] _ _ from ?_)
  refine zy_1 (c := 43) rfl rfl rfl (show zyR _ _ _ _ [some (.ref (43 + 3)), none] [.int (s.1 43 22)] _ _ from ?_)
  refine zy_24_1 rfl (fun b11 => (show zyR _ _ _ _ [some (.ref (43 + 3)), none] [] _ _ from ?_)) (fun b11 => (show zyR _ _ _ _ [some (.ref (43 + 3)), none] [] _ _ from ?_))
  · replace h := zy_ifp h b11
    refine zy_0 rfl rfl (show zyR _ _ _ _ [some (.ref (43 + 3)), none] [.ref (43 + 3)] _ _ from ?_)
    refine zy_0 rfl rfl (show zyR _ _ _ _ [some (.ref (43 + 3)), none] [.ref (43 + 3), .ref (43 + 3)] _ _ from ?_)
    refine zy_1 (c := 43) rfl rfl rfl (show zyR _ _ _ _ [some (.ref (43 + 3)), none] [.int (s.1 43 24), .ref (43 + 3)] _ _ from ?_)
    refine zy_52 (c := 43) rfl rfl rfl (show zyR _ _ _ _ [some (.ref (43 + 3)), none] [] _ _ from ?_)
    refine zy_3 rfl rfl (show zyR _ _ _ _ [some (.ref (43 + 3)), none] [.int (0 : Int32)] _ _ from ?_)
    refine zy_23 rfl rfl (show zyR _ _ _ _ [some (.ref (43 + 3)), some (.int (0 : Int32))] [] _ _ from ?_)
    exact zy_sub (show zy_le [some (.ref (43 + 3)), some (.int (0 : Int32))] [some (.ref (43 + 3)), some (.int (0 : Int32))] from ⟨rfl, ⟨rfl, trivial⟩⟩) (zyC246_20 zy_fu (0 : Int32) (zy_up s 43 7 (s.1 43 24)) _ _ h)
  · replace h := zy_ifn h b11
    refine zy_3 rfl rfl (show zyR _ _ _ _ [some (.ref (43 + 3)), none] [.int (-5 : Int32)] _ _ from ?_)
    obtain ⟨rfl, rfl⟩ := zy_pi h
    exact zy_4 rfl ⟨rfl, rfl⟩
/-! NineOpinionsModel.body(I)I -/
noncomputable def zyF247   (x1 : Int32) (s : zy_S) : Option (Int32 × zy_S) :=
(zyF179 (x1).toInt64 (0 : Int64) (7 : Int64) s).bind fun p1 =>
if p1.1 ≠ 0 then
if (p1.2.1 43 28) ≠ (50 : Int32) then
if zy_in (p1.2.1 43 28) 50 then
some ((((p1.2.1 43 28) + (1 : Int32)) - (1 : Int32)), (zy_up (zy_up p1.2 58 ((p1.2.1 43 28)).toNatClampNeg x1) 43 28 ((p1.2.1 43 28) + (1 : Int32))))
else none
else
some ((-3 : Int32), p1.2)
else
some ((-1 : Int32), p1.2)
theorem zyC247 {X : zx_X}     {x1 : Int32} {s : zy_S} {r : Int32} {s' : zy_S}  (h : zyF247 x1 s = some (r, s')) : zyR X 2 247 0 [some (.ref (43 + 3)), some (.int x1)] [] s (zyE (some (.int r)) s') := by
  unfold zyF247 at h
  refine zy_2 rfl rfl (show zyR _ _ _ _ [some (.ref (43 + 3)), some (.int x1)] [.int x1] _ _ from ?_)
  refine zy_40 rfl (show zyR _ _ _ _ [some (.ref (43 + 3)), some (.int x1)] [.long (x1).toInt64] _ _ from ?_)
  refine zy_36 rfl rfl (show zyR _ _ _ _ [some (.ref (43 + 3)), some (.int x1)] [.long (0 : Int64), .long (x1).toInt64] _ _ from ?_)
  refine zy_36c rfl rfl (show zyR _ _ _ _ [some (.ref (43 + 3)), some (.int x1)] [.long (7 : Int64), .long (0 : Int64), .long (x1).toInt64] _ _ from ?_)
  obtain ⟨p1, hp1, h⟩ := zy_bind h
  refine zy_60 (as := [.long (x1).toInt64, .long (0 : Int64), .long (7 : Int64)]) (rest := []) (L := [some (.long (x1).toInt64), none, some (.long (0 : Int64)), none, some (.long (7 : Int64)), none]) (d' := 1) rfl rfl (Nat.le_of_ble_eq_true rfl) (Nat.le_of_ble_eq_true rfl) rfl (Nat.le_of_ble_eq_true rfl) rfl rfl (zyC179 hp1) ?_
  show zyR _ _ _ _ [some (.ref (43 + 3)), some (.int x1)] [.int p1.1] _ _
  refine zy_24_1 rfl (fun b4 => (show zyR _ _ _ _ [some (.ref (43 + 3)), some (.int x1)] [] _ _ from ?_)) (fun b4 => (show zyR _ _ _ _ [some (.ref (43 + 3)), some (.int x1)] [] _ _ from ?_))
  · replace h := zy_ifp h b4
    refine zy_0 rfl rfl (show zyR _ _ _ _ [some (.ref (43 + 3)), some (.int x1)] [.ref (43 + 3)] _ _ from ?_)
    refine zy_1 (c := 43) rfl rfl rfl (show zyR _ _ _ _ [some (.ref (43 + 3)), some (.int x1)] [.int (p1.2.1 43 28)] _ _ from ?_)
    refine zy_3 rfl rfl (show zyR _ _ _ _ [some (.ref (43 + 3)), some (.int x1)] [.int (50 : Int32), .int (p1.2.1 43 28)] _ _ from ?_)
    refine zy_25_1 rfl (fun b3 => (show zyR _ _ _ _ [some (.ref (43 + 3)), some (.int x1)] [] _ _ from ?_)) (fun b3 => (show zyR _ _ _ _ [some (.ref (43 + 3)), some (.int x1)] [] _ _ from ?_))
    · replace h := zy_ifp h b3
      refine zy_0 rfl rfl (show zyR _ _ _ _ [some (.ref (43 + 3)), some (.int x1)] [.ref (43 + 3)] _ _ from ?_)
      refine zy_1r (c := 43) rfl rfl rfl (show zyR _ _ _ _ [some (.ref (43 + 3)), some (.int x1)] [.ref (58 + 3)] _ _ from ?_)
      refine zy_0 rfl rfl (show zyR _ _ _ _ [some (.ref (43 + 3)), some (.int x1)] [.ref (43 + 3), .ref (58 + 3)] _ _ from ?_)
      refine zy_1 (c := 43) rfl rfl rfl (show zyR _ _ _ _ [some (.ref (43 + 3)), some (.int x1)] [.int (p1.2.1 43 28), .ref (58 + 3)] _ _ from ?_)
      refine zy_2 rfl rfl (show zyR _ _ _ _ [some (.ref (43 + 3)), some (.int x1)] [.int x1, .int (p1.2.1 43 28), .ref (58 + 3)] _ _ from ?_)
      obtain ⟨c2, h⟩ := zy_if h
      refine zy_27 (c := 58) rfl rfl c2 (show zyR _ _ _ _ [some (.ref (43 + 3)), some (.int x1)] [] _ _ from ?_)
      refine zy_0 rfl rfl (show zyR _ _ _ _ [some (.ref (43 + 3)), some (.int x1)] [.ref (43 + 3)] _ _ from ?_)
      refine zy_33 rfl rfl (show zyR _ _ _ _ [some (.ref (43 + 3)), some (.int x1)] [.ref (43 + 3), .ref (43 + 3)] _ _ from ?_)
      refine zy_1 (c := 43) rfl rfl rfl (show zyR _ _ _ _ [some (.ref (43 + 3)), some (.int x1)] [.int (p1.2.1 43 28), .ref (43 + 3)] _ _ from ?_)
      refine zy_3 rfl rfl (show zyR _ _ _ _ [some (.ref (43 + 3)), some (.int x1)] [.int (1 : Int32), .int (p1.2.1 43 28), .ref (43 + 3)] _ _ from ?_)
      refine zy_10 rfl (show zyR _ _ _ _ [some (.ref (43 + 3)), some (.int x1)] [.int ((p1.2.1 43 28) + (1 : Int32)), .ref (43 + 3)] _ _ from ?_)
      refine zy_52 (c := 43) rfl rfl rfl (show zyR _ _ _ _ [some (.ref (43 + 3)), some (.int x1)] [] _ _ from ?_)
      refine zy_0 rfl rfl (show zyR _ _ _ _ [some (.ref (43 + 3)), some (.int x1)] [.ref (43 + 3)] _ _ from ?_)
      refine zy_1 (c := 43) rfl rfl rfl (show zyR _ _ _ _ [some (.ref (43 + 3)), some (.int x1)] [.int ((p1.2.1 43 28) + (1 : Int32))] _ _ from ?_)
      refine zy_3 rfl rfl (show zyR _ _ _ _ [some (.ref (43 + 3)), some (.int x1)] [.int (1 : Int32), .int ((p1.2.1 43 28) + (1 : Int32))] _ _ from ?_)
      refine zy_11 rfl (show zyR _ _ _ _ [some (.ref (43 + 3)), some (.int x1)] [.int (((p1.2.1 43 28) + (1 : Int32)) - (1 : Int32))] _ _ from ?_)
      obtain ⟨rfl, rfl⟩ := zy_pi h
      exact zy_4 rfl ⟨rfl, rfl⟩
    · replace h := zy_ifn h b3
      refine zy_3 rfl rfl (show zyR _ _ _ _ [some (.ref (43 + 3)), some (.int x1)] [.int (-3 : Int32)] _ _ from ?_)
      obtain ⟨rfl, rfl⟩ := zy_pi h
      exact zy_4 rfl ⟨rfl, rfl⟩
  · replace h := zy_ifn h b4
    refine zy_3 rfl rfl (show zyR _ _ _ _ [some (.ref (43 + 3)), some (.int x1)] [.int (-1 : Int32)] _ _ from ?_)
    obtain ⟨rfl, rfl⟩ := zy_pi h
    exact zy_4 rfl ⟨rfl, rfl⟩
/-! NineOpinionsModel.isBody(I)Z -/
noncomputable def zyF249   (x1 : Int32) (s : zy_S) : Option (Int32 × zy_S) :=
(zyF179 (x1).toInt64 (0 : Int64) (((s.1 43 28) - (1 : Int32))).toInt64 s).bind fun p1 =>
if p1.1 = 0 ∨ p1.1 = 1 then
some (p1.1, p1.2)
else none
theorem zyC249 {X : zx_X}     {x1 : Int32} {s : zy_S} {r : Int32} {s' : zy_S}  (h : zyF249 x1 s = some (r, s')) : zyR X 2 249 0 [some (.ref (43 + 3)), some (.int x1)] [] s (zyE (some (.int r)) s') := by
  unfold zyF249 at h
  refine zy_2 rfl rfl (show zyR _ _ _ _ [some (.ref (43 + 3)), some (.int x1)] [.int x1] _ _ from ?_)
  refine zy_40 rfl (show zyR _ _ _ _ [some (.ref (43 + 3)), some (.int x1)] [.long (x1).toInt64] _ _ from ?_)
  refine zy_36 rfl rfl (show zyR _ _ _ _ [some (.ref (43 + 3)), some (.int x1)] [.long (0 : Int64), .long (x1).toInt64] _ _ from ?_)
  refine zy_0 rfl rfl (show zyR _ _ _ _ [some (.ref (43 + 3)), some (.int x1)] [.ref (43 + 3), .long (0 : Int64), .long (x1).toInt64] _ _ from ?_)
  refine zy_1 (c := 43) rfl rfl rfl (show zyR _ _ _ _ [some (.ref (43 + 3)), some (.int x1)] [.int (s.1 43 28), .long (0 : Int64), .long (x1).toInt64] _ _ from ?_)
  refine zy_3 rfl rfl (show zyR _ _ _ _ [some (.ref (43 + 3)), some (.int x1)] [.int (1 : Int32), .int (s.1 43 28), .long (0 : Int64), .long (x1).toInt64] _ _ from ?_)
  refine zy_11 rfl (show zyR _ _ _ _ [some (.ref (43 + 3)), some (.int x1)] [.int ((s.1 43 28) - (1 : Int32)), .long (0 : Int64), .long (x1).toInt64] _ _ from ?_)
  refine zy_40 rfl (show zyR _ _ _ _ [some (.ref (43 + 3)), some (.int x1)] [.long (((s.1 43 28) - (1 : Int32))).toInt64, .long (0 : Int64), .long (x1).toInt64] _ _ from ?_)
  obtain ⟨p1, hp1, h⟩ := zy_bind h
  refine zy_60 (as := [.long (x1).toInt64, .long (0 : Int64), .long (((s.1 43 28) - (1 : Int32))).toInt64]) (rest := []) (L := [some (.long (x1).toInt64), none, some (.long (0 : Int64)), none, some (.long (((s.1 43 28) - (1 : Int32))).toInt64), none]) (d' := 1) rfl rfl (Nat.le_of_ble_eq_true rfl) (Nat.le_of_ble_eq_true rfl) rfl (Nat.le_of_ble_eq_true rfl) rfl rfl (zyC179 hp1) ?_
  show zyR _ _ _ _ [some (.ref (43 + 3)), some (.int x1)] [.int p1.1] _ _
  obtain ⟨c2, h⟩ := zy_if h
  cases h
  exact zy_4b rfl ⟨rfl, rfl⟩ c2
/-! NineOpinionsModel.keep(II)I -/
noncomputable def zyF256_22   (x1 : Int32) (x2 : Int32) (s : zy_S) : Option (Int32 × zy_S) :=
if zy_in x1 6 then
if zy_in x1 6 then
some ((1 : Int32), (zy_up (zy_up s 60 (x1).toNatClampNeg x2) 61 (x1).toNatClampNeg (0 : Int32)))
else none
else none
theorem zyC256_22 {X : zx_X}     {x1 : Int32} {x2 : Int32} {s : zy_S} {r : Int32} {s' : zy_S}  (h : zyF256_22 x1 x2 s = some (r, s')) : zyR X 3 256 22 [some (.ref (43 + 3)), some (.int x1), some (.int x2)] [] s (zyE (some (.int r)) s') := by
  unfold zyF256_22 at h
  refine zy_0 rfl rfl (show zyR _ _ _ _ [some (.ref (43 + 3)), some (.int x1), some (.int x2)] [.ref (43 + 3)] _ _ from ?_)
  refine zy_1r (c := 43) rfl rfl rfl (show zyR _ _ _ _ [some (.ref (43 + 3)), some (.int x1), some (.int x2)] [.ref (60 + 3)] _ _ from ?_)
  refine zy_2 rfl rfl (show zyR _ _ _ _ [some (.ref (43 + 3)), some (.int x1), some (.int x2)] [.int x1, .ref (60 + 3)] _ _ from ?_)
  refine zy_2 rfl rfl (show zyR _ _ _ _ [some (.ref (43 + 3)), some (.int x1), some (.int x2)] [.int x2, .int x1, .ref (60 + 3)] _ _ from ?_)
  obtain ⟨c1, h⟩ := zy_if h
  refine zy_27 (c := 60) rfl rfl c1 (show zyR _ _ _ _ [some (.ref (43 + 3)), some (.int x1), some (.int x2)] [] _ _ from ?_)
  refine zy_0 rfl rfl (show zyR _ _ _ _ [some (.ref (43 + 3)), some (.int x1), some (.int x2)] [.ref (43 + 3)] _ _ from ?_)
  refine zy_1r (c := 43) rfl rfl rfl (show zyR _ _ _ _ [some (.ref (43 + 3)), some (.int x1), some (.int x2)] [.ref (61 + 3)] _ _ from ?_)
  refine zy_2 rfl rfl (show zyR _ _ _ _ [some (.ref (43 + 3)), some (.int x1), some (.int x2)] [.int x1, .ref (61 + 3)] _ _ from ?_)
  refine zy_3 rfl rfl (show zyR _ _ _ _ [some (.ref (43 + 3)), some (.int x1), some (.int x2)] [.int (0 : Int32), .int x1, .ref (61 + 3)] _ _ from ?_)
  obtain ⟨c2, h⟩ := zy_if h
  refine zy_27 (c := 61) rfl rfl c2 (show zyR _ _ _ _ [some (.ref (43 + 3)), some (.int x1), some (.int x2)] [] _ _ from ?_)
  refine zy_3 rfl rfl (show zyR _ _ _ _ [some (.ref (43 + 3)), some (.int x1), some (.int x2)] [.int (1 : Int32)] _ _ from ?_)
  obtain ⟨rfl, rfl⟩ := zy_pi h
  exact zy_4 rfl ⟨rfl, rfl⟩
noncomputable def zyF256   (x1 : Int32) (x2 : Int32) (s : zy_S) : Option (Int32 × zy_S) :=
(zyF182 x1 s).bind fun p3 =>
if p3.1 = 0 then
some ((-1 : Int32), p3.2)
else
if x2 = (-1 : Int32) then
zyF256_22 x1 x2 p3.2
else
(zyF249 x2 p3.2).bind fun p4 =>
if p4.1 ≠ 0 then
zyF256_22 x1 x2 p4.2
else
some ((-1 : Int32), p4.2)
theorem zyC256 {X : zx_X}     {x1 : Int32} {x2 : Int32} {s : zy_S} {r : Int32} {s' : zy_S}  (h : zyF256 x1 x2 s = some (r, s')) : zyR X 3 256 0 [some (.ref (43 + 3)), some (.int x1), some (.int x2)] [] s (zyE (some (.int r)) s') := by
  unfold zyF256 at h
  refine zy_2 rfl rfl (show zyR _ _ _ _ [some (.ref (43 + 3)), some (.int x1), some (.int x2)] [.int x1] _ _ from ?_)
  obtain ⟨p3, hp3, h⟩ := zy_bind h
  refine zy_60 (as := [.int x1]) (rest := []) (L := [some (.int x1)]) (d' := 2) rfl rfl (Nat.le_of_ble_eq_true rfl) (Nat.le_of_ble_eq_true rfl) rfl (Nat.le_of_ble_eq_true rfl) rfl rfl (zyC182 hp3) ?_
  show zyR _ _ _ _ [some (.ref (43 + 3)), some (.int x1), some (.int x2)] [.int p3.1] _ _
  refine zy_24_0 rfl (fun b7 => (show zyR _ _ _ _ [some (.ref (43 + 3)), some (.int x1), some (.int x2)] [] _ _ from ?_)) (fun b7 => (show zyR _ _ _ _ [some (.ref (43 + 3)), some (.int x1), some (.int x2)] [] _ _ from ?_))
  · replace h := zy_ifp h b7
    refine zy_3 rfl rfl (show zyR _ _ _ _ [some (.ref (43 + 3)), some (.int x1), some (.int x2)] [.int (-1 : Int32)] _ _ from ?_)
    obtain ⟨rfl, rfl⟩ := zy_pi h
    exact zy_4 rfl ⟨rfl, rfl⟩
  · replace h := zy_ifn h b7
    refine zy_2 rfl rfl (show zyR _ _ _ _ [some (.ref (43 + 3)), some (.int x1), some (.int x2)] [.int x2] _ _ from ?_)
    refine zy_3 rfl rfl (show zyR _ _ _ _ [some (.ref (43 + 3)), some (.int x1), some (.int x2)] [.int (-1 : Int32), .int x2] _ _ from ?_)
    refine zy_25_0 rfl (fun b6 => (show zyR _ _ _ _ [some (.ref (43 + 3)), some (.int x1), some (.int x2)] [] _ _ from ?_)) (fun b6 => (show zyR _ _ _ _ [some (.ref (43 + 3)), some (.int x1), some (.int x2)] [] _ _ from ?_))
    · replace h := zy_ifp h b6
      exact zy_sub (show zy_le [some (.ref (43 + 3)), some (.int x1), some (.int x2)] [some (.ref (43 + 3)), some (.int x1), some (.int x2)] from ⟨rfl, ⟨rfl, ⟨rfl, trivial⟩⟩⟩) (zyC256_22 h)
    · replace h := zy_ifn h b6
      refine zy_0 rfl rfl (show zyR _ _ _ _ [some (.ref (43 + 3)), some (.int x1), some (.int x2)] [.ref (43 + 3)] _ _ from ?_)
      refine zy_2 rfl rfl (show zyR _ _ _ _ [some (.ref (43 + 3)), some (.int x1), some (.int x2)] [.int x2, .ref (43 + 3)] _ _ from ?_)
      obtain ⟨p4, hp4, h⟩ := zy_bind h
      refine zy_5 (c := 43) (as := [.int x2]) (rest := []) (L := [some (.ref (43 + 3)), some (.int x2)]) (d' := 2) rfl rfl rfl (Nat.le_of_ble_eq_true rfl) (Nat.le_of_ble_eq_true rfl) rfl (Nat.le_of_ble_eq_true rfl) rfl rfl (zyC249 hp4) ?_
      show zyR _ _ _ _ [some (.ref (43 + 3)), some (.int x1), some (.int x2)] [.int p4.1] _ _
      refine zy_24_1 rfl (fun b5 => (show zyR _ _ _ _ [some (.ref (43 + 3)), some (.int x1), some (.int x2)] [] _ _ from ?_)) (fun b5 => (show zyR _ _ _ _ [some (.ref (43 + 3)), some (.int x1), some (.int x2)] [] _ _ from ?_))
      · replace h := zy_ifp h b5
        exact zy_sub (show zy_le [some (.ref (43 + 3)), some (.int x1), some (.int x2)] [some (.ref (43 + 3)), some (.int x1), some (.int x2)] from ⟨rfl, ⟨rfl, ⟨rfl, trivial⟩⟩⟩) (zyC256_22 h)
      · replace h := zy_ifn h b5
        refine zy_3 rfl rfl (show zyR _ _ _ _ [some (.ref (43 + 3)), some (.int x1), some (.int x2)] [.int (-1 : Int32)] _ _ from ?_)
        obtain ⟨rfl, rfl⟩ := zy_pi h
        exact zy_4 rfl ⟨rfl, rfl⟩
/-! NineOpinionsModel.row(III)I -/
noncomputable def zyF257_57b  (k57 : Int32 → Int32 → zy_S → Option (Int32 × zy_S)) (x1 : Int32) (x4 : Int32) (s : zy_S) : Option (Int32 × zy_S) :=
if (((60 : Int32) * x1) + (60 : Int32)) ≤ x4 then
some ((1 : Int32), s)
else
if zy_in x4 360 then
k57 x1 (x4 + (1 : Int32)) (zy_uj s 62 (x4).toNatClampNeg (0 : Int64))
else none
theorem zyC257_57b {X : zx_X}  {k57 : Int32 → Int32 → zy_S → Option (Int32 × zy_S)}  (hk57 : ∀ (x1 : Int32) (x4 : Int32) (s : zy_S) (r : Int32) (s' : zy_S), k57 x1 x4 s = some (r, s') → zyR X 3 257 57 [some (.ref (43 + 3)), some (.int x1), none, none, some (.int x4)] [] s (zyE (some (.int r)) s')) {x1 : Int32} {x4 : Int32} {s : zy_S} {r : Int32} {s' : zy_S}  (h : zyF257_57b k57 x1 x4 s = some (r, s')) : zyR X 3 257 57 [some (.ref (43 + 3)), some (.int x1), none, none, some (.int x4)] [] s (zyE (some (.int r)) s') := by
  unfold zyF257_57b at h
  refine zy_2 rfl rfl (show zyR _ _ _ _ [some (.ref (43 + 3)), some (.int x1), none, none, some (.int x4)] [.int x4] _ _ from ?_)
  refine zy_3 rfl rfl (show zyR _ _ _ _ [some (.ref (43 + 3)), some (.int x1), none, none, some (.int x4)] [.int (60 : Int32), .int x4] _ _ from ?_)
  refine zy_2 rfl rfl (show zyR _ _ _ _ [some (.ref (43 + 3)), some (.int x1), none, none, some (.int x4)] [.int x1, .int (60 : Int32), .int x4] _ _ from ?_)
  refine zy_12 rfl (show zyR _ _ _ _ [some (.ref (43 + 3)), some (.int x1), none, none, some (.int x4)] [.int ((60 : Int32) * x1), .int x4] _ _ from ?_)
  refine zy_3 rfl rfl (show zyR _ _ _ _ [some (.ref (43 + 3)), some (.int x1), none, none, some (.int x4)] [.int (60 : Int32), .int ((60 : Int32) * x1), .int x4] _ _ from ?_)
  refine zy_10 rfl (show zyR _ _ _ _ [some (.ref (43 + 3)), some (.int x1), none, none, some (.int x4)] [.int (((60 : Int32) * x1) + (60 : Int32)), .int x4] _ _ from ?_)
  refine zy_25_3 rfl (fun b2 => (show zyR _ _ _ _ [some (.ref (43 + 3)), some (.int x1), none, none, some (.int x4)] [] _ _ from ?_)) (fun b2 => (show zyR _ _ _ _ [some (.ref (43 + 3)), some (.int x1), none, none, some (.int x4)] [] _ _ from ?_))
  · replace h := zy_ifp h b2
    refine zy_3 rfl rfl (show zyR _ _ _ _ [some (.ref (43 + 3)), some (.int x1), none, none, some (.int x4)] [.int (1 : Int32)] _ _ from ?_)
    obtain ⟨rfl, rfl⟩ := zy_pi h
    exact zy_4 rfl ⟨rfl, rfl⟩
  · replace h := zy_ifn h b2
    refine zy_0 rfl rfl (show zyR _ _ _ _ [some (.ref (43 + 3)), some (.int x1), none, none, some (.int x4)] [.ref (43 + 3)] _ _ from ?_)
    refine zy_1r (c := 43) rfl rfl rfl (show zyR _ _ _ _ [some (.ref (43 + 3)), some (.int x1), none, none, some (.int x4)] [.ref (62 + 3)] _ _ from ?_)
    refine zy_2 rfl rfl (show zyR _ _ _ _ [some (.ref (43 + 3)), some (.int x1), none, none, some (.int x4)] [.int x4, .ref (62 + 3)] _ _ from ?_)
    refine zy_36 rfl rfl (show zyR _ _ _ _ [some (.ref (43 + 3)), some (.int x1), none, none, some (.int x4)] [.long (0 : Int64), .int x4, .ref (62 + 3)] _ _ from ?_)
    obtain ⟨c1, h⟩ := zy_if h
    refine zy_31 (c := 62) rfl rfl c1 (show zyR _ _ _ _ [some (.ref (43 + 3)), some (.int x1), none, none, some (.int x4)] [] _ _ from ?_)
    refine zy_22 rfl rfl rfl rfl (show zyR _ _ _ _ [some (.ref (43 + 3)), some (.int x1), none, none, some (.int (x4 + (1 : Int32)))] [] _ _ from ?_)
    refine zy_6 rfl (show zyR _ _ _ _ [some (.ref (43 + 3)), some (.int x1), none, none, some (.int (x4 + (1 : Int32)))] [] _ _ from ?_)
    exact zy_sub (show zy_le [some (.ref (43 + 3)), some (.int x1), none, none, some (.int (x4 + (1 : Int32)))] [some (.ref (43 + 3)), some (.int x1), none, none, some (.int (x4 + (1 : Int32)))] from ⟨rfl, ⟨rfl, ⟨rfl, trivial⟩⟩⟩) (hk57 x1 (x4 + (1 : Int32)) (zy_uj s 62 (x4).toNatClampNeg (0 : Int64)) _ _ h)
noncomputable def zyF257_57   (n : Nat) : Int32 → Int32 → zy_S → Option (Int32 × zy_S) := Nat.rec (fun _ _ _ => none) (fun _ k57 => zyF257_57b k57) n
theorem zyC257_57 {X : zx_X}     : ∀ (n : Nat) (x1 : Int32) (x4 : Int32) (s : zy_S) (r : Int32) (s' : zy_S), zyF257_57 n x1 x4 s = some (r, s') → zyR X 3 257 57 [some (.ref (43 + 3)), some (.int x1), none, none, some (.int x4)] [] s (zyE (some (.int r)) s')
  | 0, _, _ => by
    intro s r s'  h
    have h : (none : Option (Int32 × zy_S)) = some (r, s') := h
    cases h
  | n + 1, x1, x4 => by
    intro s r s'  h
    exact zyC257_57b (k57 := zyF257_57 n) (fun x1 x4 s r s'  h => zyC257_57  n x1 x4 s r s'  h) h
noncomputable def zyF257   (x1 : Int32) (x2 : Int32) (x3 : Int32) (s : zy_S) : Option (Int32 × zy_S) :=
(zyF182 x1 s).bind fun p3 =>
if p3.1 = 0 then
some ((-1 : Int32), p3.2)
else
(zyF179 (x2).toInt64 (0 : Int64) (4 : Int64) p3.2).bind fun p4 =>
if p4.1 = 0 then
some ((-1 : Int32), p4.2)
else
if x3 ≤ (60 : Int32) then
if 0 ≤ x3 then
if zy_in x1 6 then
if zy_in x1 6 then
zyF257_57 zy_fu x1 ((60 : Int32) * x1) (zy_up (zy_up p4.2 60 (x1).toNatClampNeg ((50 : Int32) + x2)) 61 (x1).toNatClampNeg x3)
else none
else none
else
some ((-14 : Int32), p4.2)
else
some ((-1 : Int32), p4.2)
theorem zyC257 {X : zx_X}     {x1 : Int32} {x2 : Int32} {x3 : Int32} {s : zy_S} {r : Int32} {s' : zy_S}  (h : zyF257 x1 x2 x3 s = some (r, s')) : zyR X 3 257 0 [some (.ref (43 + 3)), some (.int x1), some (.int x2), some (.int x3), none] [] s (zyE (some (.int r)) s') := by
  unfold zyF257 at h
  refine zy_2 rfl rfl (show zyR _ _ _ _ [some (.ref (43 + 3)), some (.int x1), some (.int x2), some (.int x3), none] [.int x1] _ _ from ?_)
  obtain ⟨p3, hp3, h⟩ := zy_bind h
  refine zy_60 (as := [.int x1]) (rest := []) (L := [some (.int x1)]) (d' := 2) rfl rfl (Nat.le_of_ble_eq_true rfl) (Nat.le_of_ble_eq_true rfl) rfl (Nat.le_of_ble_eq_true rfl) rfl rfl (zyC182 hp3) ?_
  show zyR _ _ _ _ [some (.ref (43 + 3)), some (.int x1), some (.int x2), some (.int x3), none] [.int p3.1] _ _
  refine zy_24_0 rfl (fun b10 => (show zyR _ _ _ _ [some (.ref (43 + 3)), some (.int x1), some (.int x2), some (.int x3), none] [] _ _ from ?_)) (fun b10 => (show zyR _ _ _ _ [some (.ref (43 + 3)), some (.int x1), some (.int x2), some (.int x3), none] [] _ _ from ?_))
  · replace h := zy_ifp h b10
    refine zy_3 rfl rfl (show zyR _ _ _ _ [some (.ref (43 + 3)), some (.int x1), some (.int x2), some (.int x3), none] [.int (-1 : Int32)] _ _ from ?_)
    obtain ⟨rfl, rfl⟩ := zy_pi h
    exact zy_4 rfl ⟨rfl, rfl⟩
  · replace h := zy_ifn h b10
    refine zy_2 rfl rfl (show zyR _ _ _ _ [some (.ref (43 + 3)), some (.int x1), some (.int x2), some (.int x3), none] [.int x2] _ _ from ?_)
    refine zy_40 rfl (show zyR _ _ _ _ [some (.ref (43 + 3)), some (.int x1), some (.int x2), some (.int x3), none] [.long (x2).toInt64] _ _ from ?_)
    refine zy_36 rfl rfl (show zyR _ _ _ _ [some (.ref (43 + 3)), some (.int x1), some (.int x2), some (.int x3), none] [.long (0 : Int64), .long (x2).toInt64] _ _ from ?_)
    refine zy_36c rfl rfl (show zyR _ _ _ _ [some (.ref (43 + 3)), some (.int x1), some (.int x2), some (.int x3), none] [.long (4 : Int64), .long (0 : Int64), .long (x2).toInt64] _ _ from ?_)
    obtain ⟨p4, hp4, h⟩ := zy_bind h
    refine zy_60 (as := [.long (x2).toInt64, .long (0 : Int64), .long (4 : Int64)]) (rest := []) (L := [some (.long (x2).toInt64), none, some (.long (0 : Int64)), none, some (.long (4 : Int64)), none]) (d' := 1) rfl rfl (Nat.le_of_ble_eq_true rfl) (Nat.le_of_ble_eq_true rfl) rfl (Nat.le_of_ble_eq_true rfl) rfl rfl (zyC179 hp4) ?_
    show zyR _ _ _ _ [some (.ref (43 + 3)), some (.int x1), some (.int x2), some (.int x3), none] [.int p4.1] _ _
    refine zy_24_0 rfl (fun b9 => (show zyR _ _ _ _ [some (.ref (43 + 3)), some (.int x1), some (.int x2), some (.int x3), none] [] _ _ from ?_)) (fun b9 => (show zyR _ _ _ _ [some (.ref (43 + 3)), some (.int x1), some (.int x2), some (.int x3), none] [] _ _ from ?_))
    · replace h := zy_ifp h b9
      refine zy_3 rfl rfl (show zyR _ _ _ _ [some (.ref (43 + 3)), some (.int x1), some (.int x2), some (.int x3), none] [.int (-1 : Int32)] _ _ from ?_)
      obtain ⟨rfl, rfl⟩ := zy_pi h
      exact zy_4 rfl ⟨rfl, rfl⟩
    · replace h := zy_ifn h b9
      refine zy_2 rfl rfl (show zyR _ _ _ _ [some (.ref (43 + 3)), some (.int x1), some (.int x2), some (.int x3), none] [.int x3] _ _ from ?_)
      refine zy_3 rfl rfl (show zyR _ _ _ _ [some (.ref (43 + 3)), some (.int x1), some (.int x2), some (.int x3), none] [.int (60 : Int32), .int x3] _ _ from ?_)
      refine zy_25_5 rfl (fun b8 => (show zyR _ _ _ _ [some (.ref (43 + 3)), some (.int x1), some (.int x2), some (.int x3), none] [] _ _ from ?_)) (fun b8 => (show zyR _ _ _ _ [some (.ref (43 + 3)), some (.int x1), some (.int x2), some (.int x3), none] [] _ _ from ?_))
      · replace h := zy_ifp h b8
        refine zy_2 rfl rfl (show zyR _ _ _ _ [some (.ref (43 + 3)), some (.int x1), some (.int x2), some (.int x3), none] [.int x3] _ _ from ?_)
        refine zy_24_3 rfl (fun b7 => (show zyR _ _ _ _ [some (.ref (43 + 3)), some (.int x1), some (.int x2), some (.int x3), none] [] _ _ from ?_)) (fun b7 => (show zyR _ _ _ _ [some (.ref (43 + 3)), some (.int x1), some (.int x2), some (.int x3), none] [] _ _ from ?_))
        · replace h := zy_ifp h b7
          refine zy_0 rfl rfl (show zyR _ _ _ _ [some (.ref (43 + 3)), some (.int x1), some (.int x2), some (.int x3), none] [.ref (43 + 3)] _ _ from ?_)
          refine zy_1r (c := 43) rfl rfl rfl (show zyR _ _ _ _ [some (.ref (43 + 3)), some (.int x1), some (.int x2), some (.int x3), none] [.ref (60 + 3)] _ _ from ?_)
          refine zy_2 rfl rfl (show zyR _ _ _ _ [some (.ref (43 + 3)), some (.int x1), some (.int x2), some (.int x3), none] [.int x1, .ref (60 + 3)] _ _ from ?_)
          refine zy_3 rfl rfl (show zyR _ _ _ _ [some (.ref (43 + 3)), some (.int x1), some (.int x2), some (.int x3), none] [.int (50 : Int32), .int x1, .ref (60 + 3)] _ _ from ?_)
          refine zy_2 rfl rfl (show zyR _ _ _ _ [some (.ref (43 + 3)), some (.int x1), some (.int x2), some (.int x3), none] [.int x2, .int (50 : Int32), .int x1, .ref (60 + 3)] _ _ from ?_)
          refine zy_10 rfl (show zyR _ _ _ _ [some (.ref (43 + 3)), some (.int x1), some (.int x2), some (.int x3), none] [.int ((50 : Int32) + x2), .int x1, .ref (60 + 3)] _ _ from ?_)
          obtain ⟨c5, h⟩ := zy_if h
          refine zy_27 (c := 60) rfl rfl c5 (show zyR _ _ _ _ [some (.ref (43 + 3)), some (.int x1), some (.int x2), some (.int x3), none] [] _ _ from ?_)
          refine zy_0 rfl rfl (show zyR _ _ _ _ [some (.ref (43 + 3)), some (.int x1), some (.int x2), some (.int x3), none] [.ref (43 + 3)] _ _ from ?_)
          refine zy_1r (c := 43) rfl rfl rfl (show zyR _ _ _ _ [some (.ref (43 + 3)), some (.int x1), some (.int x2), some (.int x3), none] [.ref (61 + 3)] _ _ from ?_)
          refine zy_2 rfl rfl (show zyR _ _ _ _ [some (.ref (43 + 3)), some (.int x1), some (.int x2), some (.int x3), none] [.int x1, .ref (61 + 3)] _ _ from ?_)
          refine zy_2 rfl rfl (show zyR _ _ _ _ [some (.ref (43 + 3)), some (.int x1), some (.int x2), some (.int x3), none] [.int x3, .int x1, .ref (61 + 3)] _ _ from ?_)
          obtain ⟨c6, h⟩ := zy_if h
          refine zy_27 (c := 61) rfl rfl c6 (show zyR _ _ _ _ [some (.ref (43 + 3)), some (.int x1), some (.int x2), some (.int x3), none] [] _ _ from ?_)
          refine zy_3 rfl rfl (show zyR _ _ _ _ [some (.ref (43 + 3)), some (.int x1), some (.int x2), some (.int x3), none] [.int (60 : Int32)] _ _ from ?_)
          refine zy_2 rfl rfl (show zyR _ _ _ _ [some (.ref (43 + 3)), some (.int x1), some (.int x2), some (.int x3), none] [.int x1, .int (60 : Int32)] _ _ from ?_)
          refine zy_12 rfl (show zyR _ _ _ _ [some (.ref (43 + 3)), some (.int x1), some (.int x2), some (.int x3), none] [.int ((60 : Int32) * x1)] _ _ from ?_)
          refine zy_23 rfl rfl (show zyR _ _ _ _ [some (.ref (43 + 3)), some (.int x1), some (.int x2), some (.int x3), some (.int ((60 : Int32) * x1))] [] _ _ from ?_)
          exact zy_sub (show zy_le [some (.ref (43 + 3)), some (.int x1), none, none, some (.int ((60 : Int32) * x1))] [some (.ref (43 + 3)), some (.int x1), some (.int x2), some (.int x3), some (.int ((60 : Int32) * x1))] from ⟨rfl, ⟨rfl, ⟨rfl, trivial⟩⟩⟩) (zyC257_57 zy_fu x1 ((60 : Int32) * x1) (zy_up (zy_up p4.2 60 (x1).toNatClampNeg ((50 : Int32) + x2)) 61 (x1).toNatClampNeg x3) _ _ h)
        · replace h := zy_ifn h b7
          refine zy_3 rfl rfl (show zyR _ _ _ _ [some (.ref (43 + 3)), some (.int x1), some (.int x2), some (.int x3), none] [.int (-14 : Int32)] _ _ from ?_)
          obtain ⟨rfl, rfl⟩ := zy_pi h
          exact zy_4 rfl ⟨rfl, rfl⟩
      · replace h := zy_ifn h b8
        refine zy_3 rfl rfl (show zyR _ _ _ _ [some (.ref (43 + 3)), some (.int x1), some (.int x2), some (.int x3), none] [.int (-1 : Int32)] _ _ from ?_)
        obtain ⟨rfl, rfl⟩ := zy_pi h
        exact zy_4 rfl ⟨rfl, rfl⟩
end
section
/-! PART 41.09: methods as functions. Made by wip/v4/dcp.py. -/
/-! NineOpinionsModel.refusal(II)I -/
noncomputable def zyF259   (x1 : Int32) (x2 : Int32) (s : zy_S) : Option (Int32 × zy_S) :=
(zyF182 x1 s).bind fun p1 =>
if p1.1 ≠ 0 then
if zy_in x1 6 then
if 0 ≤ (p1.2.1 60 (x1).toNatClampNeg) then
if zy_in x1 6 then
if (50 : Int32) ≤ (p1.2.1 60 (x1).toNatClampNeg) then
if x2 < 0 then
some ((-13 : Int32), p1.2)
else
if zy_in x1 6 then
if (p1.2.1 61 (x1).toNatClampNeg) ≤ x2 then
some ((-13 : Int32), p1.2)
else
some ((0 : Int32), p1.2)
else none
else
some ((-12 : Int32), p1.2)
else none
else
some ((-11 : Int32), p1.2)
else none
else
some ((-1 : Int32), p1.2)
theorem zyC259 {X : zx_X}     {x1 : Int32} {x2 : Int32} {s : zy_S} {r : Int32} {s' : zy_S}  (h : zyF259 x1 x2 s = some (r, s')) : zyR X 3 259 0 [some (.ref (43 + 3)), some (.int x1), some (.int x2)] [] s (zyE (some (.int r)) s') := by
  unfold zyF259 at h
  refine zy_2 rfl rfl (show zyR _ _ _ _ [some (.ref (43 + 3)), some (.int x1), some (.int x2)] [.int x1] _ _ from ?_)
  obtain ⟨p1, hp1, h⟩ := zy_bind h
  refine zy_60 (as := [.int x1]) (rest := []) (L := [some (.int x1)]) (d' := 2) rfl rfl (Nat.le_of_ble_eq_true rfl) (Nat.le_of_ble_eq_true rfl) rfl (Nat.le_of_ble_eq_true rfl) rfl rfl (zyC182 hp1) ?_
  show zyR _ _ _ _ [some (.ref (43 + 3)), some (.int x1), some (.int x2)] [.int p1.1] _ _
  refine zy_24_1 rfl (fun b9 => (show zyR _ _ _ _ [some (.ref (43 + 3)), some (.int x1), some (.int x2)] [] _ _ from ?_)) (fun b9 => (show zyR _ _ _ _ [some (.ref (43 + 3)), some (.int x1), some (.int x2)] [] _ _ from ?_))
  · replace h := zy_ifp h b9
    refine zy_0 rfl rfl (show zyR _ _ _ _ [some (.ref (43 + 3)), some (.int x1), some (.int x2)] [.ref (43 + 3)] _ _ from ?_)
    refine zy_1r (c := 43) rfl rfl rfl (show zyR _ _ _ _ [some (.ref (43 + 3)), some (.int x1), some (.int x2)] [.ref (60 + 3)] _ _ from ?_)
    refine zy_2 rfl rfl (show zyR _ _ _ _ [some (.ref (43 + 3)), some (.int x1), some (.int x2)] [.int x1, .ref (60 + 3)] _ _ from ?_)
    obtain ⟨c2, h⟩ := zy_if h
    refine zy_26 (c := 60) rfl rfl c2 (show zyR _ _ _ _ [some (.ref (43 + 3)), some (.int x1), some (.int x2)] [.int (p1.2.1 60 (x1).toNatClampNeg)] _ _ from ?_)
    refine zy_24_3 rfl (fun b8 => (show zyR _ _ _ _ [some (.ref (43 + 3)), some (.int x1), some (.int x2)] [] _ _ from ?_)) (fun b8 => (show zyR _ _ _ _ [some (.ref (43 + 3)), some (.int x1), some (.int x2)] [] _ _ from ?_))
    · replace h := zy_ifp h b8
      refine zy_0 rfl rfl (show zyR _ _ _ _ [some (.ref (43 + 3)), some (.int x1), some (.int x2)] [.ref (43 + 3)] _ _ from ?_)
      refine zy_1r (c := 43) rfl rfl rfl (show zyR _ _ _ _ [some (.ref (43 + 3)), some (.int x1), some (.int x2)] [.ref (60 + 3)] _ _ from ?_)
      refine zy_2 rfl rfl (show zyR _ _ _ _ [some (.ref (43 + 3)), some (.int x1), some (.int x2)] [.int x1, .ref (60 + 3)] _ _ from ?_)
      obtain ⟨c3, h⟩ := zy_if h
      refine zy_26 (c := 60) rfl rfl c3 (show zyR _ _ _ _ [some (.ref (43 + 3)), some (.int x1), some (.int x2)] [.int (p1.2.1 60 (x1).toNatClampNeg)] _ _ from ?_)
      refine zy_3 rfl rfl (show zyR _ _ _ _ [some (.ref (43 + 3)), some (.int x1), some (.int x2)] [.int (50 : Int32), .int (p1.2.1 60 (x1).toNatClampNeg)] _ _ from ?_)
      refine zy_25_3 rfl (fun b7 => (show zyR _ _ _ _ [some (.ref (43 + 3)), some (.int x1), some (.int x2)] [] _ _ from ?_)) (fun b7 => (show zyR _ _ _ _ [some (.ref (43 + 3)), some (.int x1), some (.int x2)] [] _ _ from ?_))
      · replace h := zy_ifp h b7
        refine zy_2 rfl rfl (show zyR _ _ _ _ [some (.ref (43 + 3)), some (.int x1), some (.int x2)] [.int x2] _ _ from ?_)
        refine zy_24_2 rfl (fun b6 => (show zyR _ _ _ _ [some (.ref (43 + 3)), some (.int x1), some (.int x2)] [] _ _ from ?_)) (fun b6 => (show zyR _ _ _ _ [some (.ref (43 + 3)), some (.int x1), some (.int x2)] [] _ _ from ?_))
        · replace h := zy_ifp h b6
          refine zy_3 rfl rfl (show zyR _ _ _ _ [some (.ref (43 + 3)), some (.int x1), some (.int x2)] [.int (-13 : Int32)] _ _ from ?_)
          obtain ⟨rfl, rfl⟩ := zy_pi h
          exact zy_4 rfl ⟨rfl, rfl⟩
        · replace h := zy_ifn h b6
          refine zy_2 rfl rfl (show zyR _ _ _ _ [some (.ref (43 + 3)), some (.int x1), some (.int x2)] [.int x2] _ _ from ?_)
          refine zy_0 rfl rfl (show zyR _ _ _ _ [some (.ref (43 + 3)), some (.int x1), some (.int x2)] [.ref (43 + 3), .int x2] _ _ from ?_)
          refine zy_1r (c := 43) rfl rfl rfl (show zyR _ _ _ _ [some (.ref (43 + 3)), some (.int x1), some (.int x2)] [.ref (61 + 3), .int x2] _ _ from ?_)
          refine zy_2 rfl rfl (show zyR _ _ _ _ [some (.ref (43 + 3)), some (.int x1), some (.int x2)] [.int x1, .ref (61 + 3), .int x2] _ _ from ?_)
          obtain ⟨c4, h⟩ := zy_if h
          refine zy_26 (c := 61) rfl rfl c4 (show zyR _ _ _ _ [some (.ref (43 + 3)), some (.int x1), some (.int x2)] [.int (p1.2.1 61 (x1).toNatClampNeg), .int x2] _ _ from ?_)
          refine zy_25_3 rfl (fun b5 => (show zyR _ _ _ _ [some (.ref (43 + 3)), some (.int x1), some (.int x2)] [] _ _ from ?_)) (fun b5 => (show zyR _ _ _ _ [some (.ref (43 + 3)), some (.int x1), some (.int x2)] [] _ _ from ?_))
          · replace h := zy_ifp h b5
            refine zy_3 rfl rfl (show zyR _ _ _ _ [some (.ref (43 + 3)), some (.int x1), some (.int x2)] [.int (-13 : Int32)] _ _ from ?_)
            obtain ⟨rfl, rfl⟩ := zy_pi h
            exact zy_4 rfl ⟨rfl, rfl⟩
          · replace h := zy_ifn h b5
            refine zy_3 rfl rfl (show zyR _ _ _ _ [some (.ref (43 + 3)), some (.int x1), some (.int x2)] [.int (0 : Int32)] _ _ from ?_)
            refine zy_6 rfl (show zyR _ _ _ _ [some (.ref (43 + 3)), some (.int x1), some (.int x2)] [.int (0 : Int32)] _ _ from ?_)
            obtain ⟨rfl, rfl⟩ := zy_pi h
            exact zy_4 rfl ⟨rfl, rfl⟩
      · replace h := zy_ifn h b7
        refine zy_3 rfl rfl (show zyR _ _ _ _ [some (.ref (43 + 3)), some (.int x1), some (.int x2)] [.int (-12 : Int32)] _ _ from ?_)
        obtain ⟨rfl, rfl⟩ := zy_pi h
        exact zy_4 rfl ⟨rfl, rfl⟩
    · replace h := zy_ifn h b8
      refine zy_3 rfl rfl (show zyR _ _ _ _ [some (.ref (43 + 3)), some (.int x1), some (.int x2)] [.int (-11 : Int32)] _ _ from ?_)
      obtain ⟨rfl, rfl⟩ := zy_pi h
      exact zy_4 rfl ⟨rfl, rfl⟩
  · replace h := zy_ifn h b9
    refine zy_3 rfl rfl (show zyR _ _ _ _ [some (.ref (43 + 3)), some (.int x1), some (.int x2)] [.int (-1 : Int32)] _ _ from ?_)
    obtain ⟨rfl, rfl⟩ := zy_pi h
    exact zy_4 rfl ⟨rfl, rfl⟩
/-! NineOpinionsModel.asSort(IJ)J -/
noncomputable def zyF260   (x0 : Int32) (x1 : Int64) (s : zy_S) : Option (Int64 × zy_S) :=
if x0 ≠ 0 then
if x0 ≠ (1 : Int32) then
if x0 ≠ (2 : Int32) then
if x0 ≠ (4 : Int32) then
some (x1, s)
else
if (lg_cmp x1 (0 : Int64)) = 0 then
some ((0 : Int64), s)
else
some ((1 : Int64), s)
else
some (((x1).toInt32).toInt64, s)
else
some ((((x1).toInt32).toInt16.toInt32).toInt64, s)
else
some ((((x1).toInt32).toInt8.toInt32).toInt64, s)
theorem zyC260 {X : zx_X}     {x0 : Int32} {x1 : Int64} {s : zy_S} {r : Int64} {s' : zy_S}  (h : zyF260 x0 x1 s = some (r, s')) : zyR X 1 260 0 [some (.int x0), some (.long x1), none] [] s (zyE (some (.long r)) s') := by
  unfold zyF260 at h
  refine zy_2 rfl rfl (show zyR _ _ _ _ [some (.int x0), some (.long x1), none] [.int x0] _ _ from ?_)
  refine zy_24_1 rfl (fun b5 => (show zyR _ _ _ _ [some (.int x0), some (.long x1), none] [] _ _ from ?_)) (fun b5 => (show zyR _ _ _ _ [some (.int x0), some (.long x1), none] [] _ _ from ?_))
  · replace h := zy_ifp h b5
    refine zy_2 rfl rfl (show zyR _ _ _ _ [some (.int x0), some (.long x1), none] [.int x0] _ _ from ?_)
    refine zy_3 rfl rfl (show zyR _ _ _ _ [some (.int x0), some (.long x1), none] [.int (1 : Int32), .int x0] _ _ from ?_)
    refine zy_25_1 rfl (fun b4 => (show zyR _ _ _ _ [some (.int x0), some (.long x1), none] [] _ _ from ?_)) (fun b4 => (show zyR _ _ _ _ [some (.int x0), some (.long x1), none] [] _ _ from ?_))
    · replace h := zy_ifp h b4
      refine zy_2 rfl rfl (show zyR _ _ _ _ [some (.int x0), some (.long x1), none] [.int x0] _ _ from ?_)
      refine zy_3 rfl rfl (show zyR _ _ _ _ [some (.int x0), some (.long x1), none] [.int (2 : Int32), .int x0] _ _ from ?_)
      refine zy_25_1 rfl (fun b3 => (show zyR _ _ _ _ [some (.int x0), some (.long x1), none] [] _ _ from ?_)) (fun b3 => (show zyR _ _ _ _ [some (.int x0), some (.long x1), none] [] _ _ from ?_))
      · replace h := zy_ifp h b3
        refine zy_2 rfl rfl (show zyR _ _ _ _ [some (.int x0), some (.long x1), none] [.int x0] _ _ from ?_)
        refine zy_3 rfl rfl (show zyR _ _ _ _ [some (.int x0), some (.long x1), none] [.int (4 : Int32), .int x0] _ _ from ?_)
        refine zy_25_1 rfl (fun b2 => (show zyR _ _ _ _ [some (.int x0), some (.long x1), none] [] _ _ from ?_)) (fun b2 => (show zyR _ _ _ _ [some (.int x0), some (.long x1), none] [] _ _ from ?_))
        · replace h := zy_ifp h b2
          refine zy_37 rfl rfl (show zyR _ _ _ _ [some (.int x0), some (.long x1), none] [.long x1] _ _ from ?_)
          cases h
          exact zy_65 rfl ⟨rfl, rfl⟩
        · replace h := zy_ifn h b2
          refine zy_37 rfl rfl (show zyR _ _ _ _ [some (.int x0), some (.long x1), none] [.long x1] _ _ from ?_)
          refine zy_36 rfl rfl (show zyR _ _ _ _ [some (.int x0), some (.long x1), none] [.long (0 : Int64), .long x1] _ _ from ?_)
          refine zy_44 rfl (show zyR _ _ _ _ [some (.int x0), some (.long x1), none] [.int (lg_cmp x1 (0 : Int64))] _ _ from ?_)
          refine zy_24_0 rfl (fun b1 => (show zyR _ _ _ _ [some (.int x0), some (.long x1), none] [] _ _ from ?_)) (fun b1 => (show zyR _ _ _ _ [some (.int x0), some (.long x1), none] [] _ _ from ?_))
          · replace h := zy_ifp h b1
            refine zy_36 rfl rfl (show zyR _ _ _ _ [some (.int x0), some (.long x1), none] [.long (0 : Int64)] _ _ from ?_)
            refine zy_6 rfl (show zyR _ _ _ _ [some (.int x0), some (.long x1), none] [.long (0 : Int64)] _ _ from ?_)
            cases h
            exact zy_65 rfl ⟨rfl, rfl⟩
          · replace h := zy_ifn h b1
            refine zy_36 rfl rfl (show zyR _ _ _ _ [some (.int x0), some (.long x1), none] [.long (1 : Int64)] _ _ from ?_)
            refine zy_6 rfl (show zyR _ _ _ _ [some (.int x0), some (.long x1), none] [.long (1 : Int64)] _ _ from ?_)
            cases h
            exact zy_65 rfl ⟨rfl, rfl⟩
      · replace h := zy_ifn h b3
        refine zy_37 rfl rfl (show zyR _ _ _ _ [some (.int x0), some (.long x1), none] [.long x1] _ _ from ?_)
        refine zy_41 rfl (show zyR _ _ _ _ [some (.int x0), some (.long x1), none] [.int (x1).toInt32] _ _ from ?_)
        refine zy_40 rfl (show zyR _ _ _ _ [some (.int x0), some (.long x1), none] [.long ((x1).toInt32).toInt64] _ _ from ?_)
        refine zy_6 rfl (show zyR _ _ _ _ [some (.int x0), some (.long x1), none] [.long ((x1).toInt32).toInt64] _ _ from ?_)
        cases h
        exact zy_65 rfl ⟨rfl, rfl⟩
    · replace h := zy_ifn h b4
      refine zy_37 rfl rfl (show zyR _ _ _ _ [some (.int x0), some (.long x1), none] [.long x1] _ _ from ?_)
      refine zy_41 rfl (show zyR _ _ _ _ [some (.int x0), some (.long x1), none] [.int (x1).toInt32] _ _ from ?_)
      refine zy_43 rfl (show zyR _ _ _ _ [some (.int x0), some (.long x1), none] [.int ((x1).toInt32).toInt16.toInt32] _ _ from ?_)
      refine zy_40 rfl (show zyR _ _ _ _ [some (.int x0), some (.long x1), none] [.long (((x1).toInt32).toInt16.toInt32).toInt64] _ _ from ?_)
      refine zy_6 rfl (show zyR _ _ _ _ [some (.int x0), some (.long x1), none] [.long (((x1).toInt32).toInt16.toInt32).toInt64] _ _ from ?_)
      cases h
      exact zy_65 rfl ⟨rfl, rfl⟩
  · replace h := zy_ifn h b5
    refine zy_37 rfl rfl (show zyR _ _ _ _ [some (.int x0), some (.long x1), none] [.long x1] _ _ from ?_)
    refine zy_41 rfl (show zyR _ _ _ _ [some (.int x0), some (.long x1), none] [.int (x1).toInt32] _ _ from ?_)
    refine zy_42 rfl (show zyR _ _ _ _ [some (.int x0), some (.long x1), none] [.int ((x1).toInt32).toInt8.toInt32] _ _ from ?_)
    refine zy_40 rfl (show zyR _ _ _ _ [some (.int x0), some (.long x1), none] [.long (((x1).toInt32).toInt8.toInt32).toInt64] _ _ from ?_)
    refine zy_6 rfl (show zyR _ _ _ _ [some (.int x0), some (.long x1), none] [.long (((x1).toInt32).toInt8.toInt32).toInt64] _ _ from ?_)
    cases h
    exact zy_65 rfl ⟨rfl, rfl⟩
/-! NineOpinionsModel.put(IIJ)I -/
noncomputable def zyF258_37   (x5 : Int32) (s : zy_S) : Option (Int32 × zy_S) :=
if x5 ≠ 0 then
some (x5, s)
else
some ((1 : Int32), s)
theorem zyC258_37 {X : zx_X}     {x5 : Int32} {s : zy_S} {r : Int32} {s' : zy_S}  (h : zyF258_37 x5 s = some (r, s')) : zyR X 4 258 37 [none, none, none, none, none, some (.int x5)] [] s (zyE (some (.int r)) s') := by
  unfold zyF258_37 at h
  refine zy_2 rfl rfl (show zyR _ _ _ _ [none, none, none, none, none, some (.int x5)] [.int x5] _ _ from ?_)
  refine zy_24_1 rfl (fun b1 => (show zyR _ _ _ _ [none, none, none, none, none, some (.int x5)] [] _ _ from ?_)) (fun b1 => (show zyR _ _ _ _ [none, none, none, none, none, some (.int x5)] [] _ _ from ?_))
  · replace h := zy_ifp h b1
    refine zy_2 rfl rfl (show zyR _ _ _ _ [none, none, none, none, none, some (.int x5)] [.int x5] _ _ from ?_)
    obtain ⟨rfl, rfl⟩ := zy_pi h
    exact zy_4 rfl ⟨rfl, rfl⟩
  · replace h := zy_ifn h b1
    refine zy_3 rfl rfl (show zyR _ _ _ _ [none, none, none, none, none, some (.int x5)] [.int (1 : Int32)] _ _ from ?_)
    refine zy_6 rfl (show zyR _ _ _ _ [none, none, none, none, none, some (.int x5)] [.int (1 : Int32)] _ _ from ?_)
    obtain ⟨rfl, rfl⟩ := zy_pi h
    exact zy_4 rfl ⟨rfl, rfl⟩
noncomputable def zyF258   (x1 : Int32) (x2 : Int32) (x3 : Int64) (s : zy_S) : Option (Int32 × zy_S) :=
(zyF259 x1 x2 s).bind fun p2 =>
if p2.1 ≠ 0 then
zyF258_37 p2.1 p2.2
else
if zy_in x1 6 then
(zyF260 ((p2.2.1 60 (x1).toNatClampNeg) - (50 : Int32)) x3 p2.2).bind fun p4 =>
if zy_in (((60 : Int32) * x1) + x2) 360 then
zyF258_37 p2.1 (zy_uj p4.2 62 ((((60 : Int32) * x1) + x2)).toNatClampNeg p4.1)
else none
else none
theorem zyC258 {X : zx_X}     {x1 : Int32} {x2 : Int32} {x3 : Int64} {s : zy_S} {r : Int32} {s' : zy_S}  (h : zyF258 x1 x2 x3 s = some (r, s')) : zyR X 4 258 0 [some (.ref (43 + 3)), some (.int x1), some (.int x2), some (.long x3), none, none] [] s (zyE (some (.int r)) s') := by
  unfold zyF258 at h
  refine zy_0 rfl rfl (show zyR _ _ _ _ [some (.ref (43 + 3)), some (.int x1), some (.int x2), some (.long x3), none, none] [.ref (43 + 3)] _ _ from ?_)
  refine zy_2 rfl rfl (show zyR _ _ _ _ [some (.ref (43 + 3)), some (.int x1), some (.int x2), some (.long x3), none, none] [.int x1, .ref (43 + 3)] _ _ from ?_)
  refine zy_2 rfl rfl (show zyR _ _ _ _ [some (.ref (43 + 3)), some (.int x1), some (.int x2), some (.long x3), none, none] [.int x2, .int x1, .ref (43 + 3)] _ _ from ?_)
  obtain ⟨p2, hp2, h⟩ := zy_bind h
  refine zy_5 (c := 43) (as := [.int x1, .int x2]) (rest := []) (L := [some (.ref (43 + 3)), some (.int x1), some (.int x2)]) (d' := 3) rfl rfl rfl (Nat.le_of_ble_eq_true rfl) (Nat.le_of_ble_eq_true rfl) rfl (Nat.le_of_ble_eq_true rfl) rfl rfl (zyC259 hp2) ?_
  show zyR _ _ _ _ [some (.ref (43 + 3)), some (.int x1), some (.int x2), some (.long x3), none, none] [.int p2.1] _ _
  refine zy_23 rfl rfl (show zyR _ _ _ _ [some (.ref (43 + 3)), some (.int x1), some (.int x2), some (.long x3), none, some (.int p2.1)] [] _ _ from ?_)
  refine zy_2 rfl rfl (show zyR _ _ _ _ [some (.ref (43 + 3)), some (.int x1), some (.int x2), some (.long x3), none, some (.int p2.1)] [.int p2.1] _ _ from ?_)
  refine zy_24_1 rfl (fun b6 => (show zyR _ _ _ _ [some (.ref (43 + 3)), some (.int x1), some (.int x2), some (.long x3), none, some (.int p2.1)] [] _ _ from ?_)) (fun b6 => (show zyR _ _ _ _ [some (.ref (43 + 3)), some (.int x1), some (.int x2), some (.long x3), none, some (.int p2.1)] [] _ _ from ?_))
  · replace h := zy_ifp h b6
    exact zy_sub (show zy_le [none, none, none, none, none, some (.int p2.1)] [some (.ref (43 + 3)), some (.int x1), some (.int x2), some (.long x3), none, some (.int p2.1)] from ⟨rfl, trivial⟩) (zyC258_37 h)
  · replace h := zy_ifn h b6
    refine zy_0 rfl rfl (show zyR _ _ _ _ [some (.ref (43 + 3)), some (.int x1), some (.int x2), some (.long x3), none, some (.int p2.1)] [.ref (43 + 3)] _ _ from ?_)
    refine zy_1r (c := 43) rfl rfl rfl (show zyR _ _ _ _ [some (.ref (43 + 3)), some (.int x1), some (.int x2), some (.long x3), none, some (.int p2.1)] [.ref (62 + 3)] _ _ from ?_)
    refine zy_3 rfl rfl (show zyR _ _ _ _ [some (.ref (43 + 3)), some (.int x1), some (.int x2), some (.long x3), none, some (.int p2.1)] [.int (60 : Int32), .ref (62 + 3)] _ _ from ?_)
    refine zy_2 rfl rfl (show zyR _ _ _ _ [some (.ref (43 + 3)), some (.int x1), some (.int x2), some (.long x3), none, some (.int p2.1)] [.int x1, .int (60 : Int32), .ref (62 + 3)] _ _ from ?_)
    refine zy_12 rfl (show zyR _ _ _ _ [some (.ref (43 + 3)), some (.int x1), some (.int x2), some (.long x3), none, some (.int p2.1)] [.int ((60 : Int32) * x1), .ref (62 + 3)] _ _ from ?_)
    refine zy_2 rfl rfl (show zyR _ _ _ _ [some (.ref (43 + 3)), some (.int x1), some (.int x2), some (.long x3), none, some (.int p2.1)] [.int x2, .int ((60 : Int32) * x1), .ref (62 + 3)] _ _ from ?_)
    refine zy_10 rfl (show zyR _ _ _ _ [some (.ref (43 + 3)), some (.int x1), some (.int x2), some (.long x3), none, some (.int p2.1)] [.int (((60 : Int32) * x1) + x2), .ref (62 + 3)] _ _ from ?_)
    refine zy_0 rfl rfl (show zyR _ _ _ _ [some (.ref (43 + 3)), some (.int x1), some (.int x2), some (.long x3), none, some (.int p2.1)] [.ref (43 + 3), .int (((60 : Int32) * x1) + x2), .ref (62 + 3)] _ _ from ?_)
    refine zy_1r (c := 43) rfl rfl rfl (show zyR _ _ _ _ [some (.ref (43 + 3)), some (.int x1), some (.int x2), some (.long x3), none, some (.int p2.1)] [.ref (60 + 3), .int (((60 : Int32) * x1) + x2), .ref (62 + 3)] _ _ from ?_)
    refine zy_2 rfl rfl (show zyR _ _ _ _ [some (.ref (43 + 3)), some (.int x1), some (.int x2), some (.long x3), none, some (.int p2.1)] [.int x1, .ref (60 + 3), .int (((60 : Int32) * x1) + x2), .ref (62 + 3)] _ _ from ?_)
    obtain ⟨c3, h⟩ := zy_if h
    refine zy_26 (c := 60) rfl rfl c3 (show zyR _ _ _ _ [some (.ref (43 + 3)), some (.int x1), some (.int x2), some (.long x3), none, some (.int p2.1)] [.int (p2.2.1 60 (x1).toNatClampNeg), .int (((60 : Int32) * x1) + x2), .ref (62 + 3)] _ _ from ?_)
    refine zy_3 rfl rfl (show zyR _ _ _ _ [some (.ref (43 + 3)), some (.int x1), some (.int x2), some (.long x3), none, some (.int p2.1)] [.int (50 : Int32), .int (p2.2.1 60 (x1).toNatClampNeg), .int (((60 : Int32) * x1) + x2), .ref (62 + 3)] _ _ from ?_)
    refine zy_11 rfl (show zyR _ _ _ _ [some (.ref (43 + 3)), some (.int x1), some (.int x2), some (.long x3), none, some (.int p2.1)] [.int ((p2.2.1 60 (x1).toNatClampNeg) - (50 : Int32)), .int (((60 : Int32) * x1) + x2), .ref (62 + 3)] _ _ from ?_)
    refine zy_37 rfl rfl (show zyR _ _ _ _ [some (.ref (43 + 3)), some (.int x1), some (.int x2), some (.long x3), none, some (.int p2.1)] [.long x3, .int ((p2.2.1 60 (x1).toNatClampNeg) - (50 : Int32)), .int (((60 : Int32) * x1) + x2), .ref (62 + 3)] _ _ from ?_)
    obtain ⟨p4, hp4, h⟩ := zy_bind h
    refine zy_60 (as := [.int ((p2.2.1 60 (x1).toNatClampNeg) - (50 : Int32)), .long x3]) (rest := [.int (((60 : Int32) * x1) + x2), .ref (62 + 3)]) (L := [some (.int ((p2.2.1 60 (x1).toNatClampNeg) - (50 : Int32))), some (.long x3), none]) (d' := 1) rfl rfl (Nat.le_of_ble_eq_true rfl) (Nat.le_of_ble_eq_true rfl) rfl (Nat.le_of_ble_eq_true rfl) rfl rfl (zyC260 hp4) ?_
    show zyR _ _ _ _ [some (.ref (43 + 3)), some (.int x1), some (.int x2), some (.long x3), none, some (.int p2.1)] [.long p4.1, .int (((60 : Int32) * x1) + x2), .ref (62 + 3)] _ _
    obtain ⟨c5, h⟩ := zy_if h
    refine zy_31 (c := 62) rfl rfl c5 (show zyR _ _ _ _ [some (.ref (43 + 3)), some (.int x1), some (.int x2), some (.long x3), none, some (.int p2.1)] [] _ _ from ?_)
    exact zy_sub (show zy_le [none, none, none, none, none, some (.int p2.1)] [some (.ref (43 + 3)), some (.int x1), some (.int x2), some (.long x3), none, some (.int p2.1)] from ⟨rfl, trivial⟩) (zyC258_37 h)
/-! NineOpinionsModel.shift(IIIII)I -/
noncomputable def zyF262_150b  (k150 : Int32 → Int32 → Int32 → Int32 → zy_S → Option (Int32 × zy_S)) (x3 : Int32) (x4 : Int32) (x5 : Int32) (x6 : Int32) (s : zy_S) : Option (Int32 × zy_S) :=
if x5 ≤ x6 then
some (x5, s)
else
if zy_in x6 60 then
if zy_in ((((60 : Int32) * x3) + x4) + x6) 360 then
k150 x3 x4 x5 (x6 + (1 : Int32)) (zy_uj s 62 (((((60 : Int32) * x3) + x4) + x6)).toNatClampNeg (s.2.1 63 (x6).toNatClampNeg))
else none
else none
theorem zyC262_150b {X : zx_X}  {k150 : Int32 → Int32 → Int32 → Int32 → zy_S → Option (Int32 × zy_S)}  (hk150 : ∀ (x3 : Int32) (x4 : Int32) (x5 : Int32) (x6 : Int32) (s : zy_S) (r : Int32) (s' : zy_S), k150 x3 x4 x5 x6 s = some (r, s') → zyR X 3 262 150 [some (.ref (43 + 3)), none, none, some (.int x3), some (.int x4), some (.int x5), some (.int x6)] [] s (zyE (some (.int r)) s')) {x3 : Int32} {x4 : Int32} {x5 : Int32} {x6 : Int32} {s : zy_S} {r : Int32} {s' : zy_S}  (h : zyF262_150b k150 x3 x4 x5 x6 s = some (r, s')) : zyR X 3 262 150 [some (.ref (43 + 3)), none, none, some (.int x3), some (.int x4), some (.int x5), some (.int x6)] [] s (zyE (some (.int r)) s') := by
  unfold zyF262_150b at h
  refine zy_2 rfl rfl (show zyR _ _ _ _ [some (.ref (43 + 3)), none, none, some (.int x3), some (.int x4), some (.int x5), some (.int x6)] [.int x6] _ _ from ?_)
  refine zy_2 rfl rfl (show zyR _ _ _ _ [some (.ref (43 + 3)), none, none, some (.int x3), some (.int x4), some (.int x5), some (.int x6)] [.int x5, .int x6] _ _ from ?_)
  refine zy_25_3 rfl (fun b3 => (show zyR _ _ _ _ [some (.ref (43 + 3)), none, none, some (.int x3), some (.int x4), some (.int x5), some (.int x6)] [] _ _ from ?_)) (fun b3 => (show zyR _ _ _ _ [some (.ref (43 + 3)), none, none, some (.int x3), some (.int x4), some (.int x5), some (.int x6)] [] _ _ from ?_))
  · replace h := zy_ifp h b3
    refine zy_2 rfl rfl (show zyR _ _ _ _ [some (.ref (43 + 3)), none, none, some (.int x3), some (.int x4), some (.int x5), some (.int x6)] [.int x5] _ _ from ?_)
    obtain ⟨rfl, rfl⟩ := zy_pi h
    exact zy_4 rfl ⟨rfl, rfl⟩
  · replace h := zy_ifn h b3
    refine zy_0 rfl rfl (show zyR _ _ _ _ [some (.ref (43 + 3)), none, none, some (.int x3), some (.int x4), some (.int x5), some (.int x6)] [.ref (43 + 3)] _ _ from ?_)
    refine zy_1r (c := 43) rfl rfl rfl (show zyR _ _ _ _ [some (.ref (43 + 3)), none, none, some (.int x3), some (.int x4), some (.int x5), some (.int x6)] [.ref (62 + 3)] _ _ from ?_)
    refine zy_3 rfl rfl (show zyR _ _ _ _ [some (.ref (43 + 3)), none, none, some (.int x3), some (.int x4), some (.int x5), some (.int x6)] [.int (60 : Int32), .ref (62 + 3)] _ _ from ?_)
    refine zy_2 rfl rfl (show zyR _ _ _ _ [some (.ref (43 + 3)), none, none, some (.int x3), some (.int x4), some (.int x5), some (.int x6)] [.int x3, .int (60 : Int32), .ref (62 + 3)] _ _ from ?_)
    refine zy_12 rfl (show zyR _ _ _ _ [some (.ref (43 + 3)), none, none, some (.int x3), some (.int x4), some (.int x5), some (.int x6)] [.int ((60 : Int32) * x3), .ref (62 + 3)] _ _ from ?_)
    refine zy_2 rfl rfl (show zyR _ _ _ _ [some (.ref (43 + 3)), none, none, some (.int x3), some (.int x4), some (.int x5), some (.int x6)] [.int x4, .int ((60 : Int32) * x3), .ref (62 + 3)] _ _ from ?_)
    refine zy_10 rfl (show zyR _ _ _ _ [some (.ref (43 + 3)), none, none, some (.int x3), some (.int x4), some (.int x5), some (.int x6)] [.int (((60 : Int32) * x3) + x4), .ref (62 + 3)] _ _ from ?_)
    refine zy_2 rfl rfl (show zyR _ _ _ _ [some (.ref (43 + 3)), none, none, some (.int x3), some (.int x4), some (.int x5), some (.int x6)] [.int x6, .int (((60 : Int32) * x3) + x4), .ref (62 + 3)] _ _ from ?_)
    refine zy_10 rfl (show zyR _ _ _ _ [some (.ref (43 + 3)), none, none, some (.int x3), some (.int x4), some (.int x5), some (.int x6)] [.int ((((60 : Int32) * x3) + x4) + x6), .ref (62 + 3)] _ _ from ?_)
    refine zy_0 rfl rfl (show zyR _ _ _ _ [some (.ref (43 + 3)), none, none, some (.int x3), some (.int x4), some (.int x5), some (.int x6)] [.ref (43 + 3), .int ((((60 : Int32) * x3) + x4) + x6), .ref (62 + 3)] _ _ from ?_)
    refine zy_1r (c := 43) rfl rfl rfl (show zyR _ _ _ _ [some (.ref (43 + 3)), none, none, some (.int x3), some (.int x4), some (.int x5), some (.int x6)] [.ref (63 + 3), .int ((((60 : Int32) * x3) + x4) + x6), .ref (62 + 3)] _ _ from ?_)
    refine zy_2 rfl rfl (show zyR _ _ _ _ [some (.ref (43 + 3)), none, none, some (.int x3), some (.int x4), some (.int x5), some (.int x6)] [.int x6, .ref (63 + 3), .int ((((60 : Int32) * x3) + x4) + x6), .ref (62 + 3)] _ _ from ?_)
    obtain ⟨c1, h⟩ := zy_if h
    refine zy_30 (c := 63) rfl rfl c1 (show zyR _ _ _ _ [some (.ref (43 + 3)), none, none, some (.int x3), some (.int x4), some (.int x5), some (.int x6)] [.long (s.2.1 63 (x6).toNatClampNeg), .int ((((60 : Int32) * x3) + x4) + x6), .ref (62 + 3)] _ _ from ?_)
    obtain ⟨c2, h⟩ := zy_if h
    refine zy_31 (c := 62) rfl rfl c2 (show zyR _ _ _ _ [some (.ref (43 + 3)), none, none, some (.int x3), some (.int x4), some (.int x5), some (.int x6)] [] _ _ from ?_)
    refine zy_22 rfl rfl rfl rfl (show zyR _ _ _ _ [some (.ref (43 + 3)), none, none, some (.int x3), some (.int x4), some (.int x5), some (.int (x6 + (1 : Int32)))] [] _ _ from ?_)
    refine zy_6 rfl (show zyR _ _ _ _ [some (.ref (43 + 3)), none, none, some (.int x3), some (.int x4), some (.int x5), some (.int (x6 + (1 : Int32)))] [] _ _ from ?_)
    exact zy_sub (show zy_le [some (.ref (43 + 3)), none, none, some (.int x3), some (.int x4), some (.int x5), some (.int (x6 + (1 : Int32)))] [some (.ref (43 + 3)), none, none, some (.int x3), some (.int x4), some (.int x5), some (.int (x6 + (1 : Int32)))] from ⟨rfl, ⟨rfl, ⟨rfl, ⟨rfl, ⟨rfl, trivial⟩⟩⟩⟩⟩) (hk150 x3 x4 x5 (x6 + (1 : Int32)) (zy_uj s 62 (((((60 : Int32) * x3) + x4) + x6)).toNatClampNeg (s.2.1 63 (x6).toNatClampNeg)) _ _ h)
noncomputable def zyF262_150   (n : Nat) : Int32 → Int32 → Int32 → Int32 → zy_S → Option (Int32 × zy_S) := Nat.rec (fun _ _ _ _ _ => none) (fun _ k150 => zyF262_150b k150) n
theorem zyC262_150 {X : zx_X}     : ∀ (n : Nat) (x3 : Int32) (x4 : Int32) (x5 : Int32) (x6 : Int32) (s : zy_S) (r : Int32) (s' : zy_S), zyF262_150 n x3 x4 x5 x6 s = some (r, s') → zyR X 3 262 150 [some (.ref (43 + 3)), none, none, some (.int x3), some (.int x4), some (.int x5), some (.int x6)] [] s (zyE (some (.int r)) s')
  | 0, _, _, _, _ => by
    intro s r s'  h
    have h : (none : Option (Int32 × zy_S)) = some (r, s') := h
    cases h
  | n + 1, x3, x4, x5, x6 => by
    intro s r s'  h
    exact zyC262_150b (k150 := zyF262_150 n) (fun x3 x4 x5 x6 s r s'  h => zyC262_150  n x3 x4 x5 x6 s r s'  h) h
noncomputable def zyF262_113b  (k113 : Int32 → Int32 → Int32 → Int32 → Int32 → Int32 → zy_S → Option (Int32 × zy_S)) (x1 : Int32) (x2 : Int32) (x3 : Int32) (x4 : Int32) (x5 : Int32) (x6 : Int32) (s : zy_S) : Option (Int32 × zy_S) :=
if x5 ≤ x6 then
zyF262_150 zy_fu x3 x4 x5 (0 : Int32) s
else
if zy_in ((((60 : Int32) * x1) + x2) + x6) 360 then
if zy_in x6 60 then
k113 x1 x2 x3 x4 x5 (x6 + (1 : Int32)) (zy_uj s 63 (x6).toNatClampNeg (s.2.1 62 (((((60 : Int32) * x1) + x2) + x6)).toNatClampNeg))
else none
else none
theorem zyC262_113b {X : zx_X}  {k113 : Int32 → Int32 → Int32 → Int32 → Int32 → Int32 → zy_S → Option (Int32 × zy_S)}  (hk113 : ∀ (x1 : Int32) (x2 : Int32) (x3 : Int32) (x4 : Int32) (x5 : Int32) (x6 : Int32) (s : zy_S) (r : Int32) (s' : zy_S), k113 x1 x2 x3 x4 x5 x6 s = some (r, s') → zyR X 3 262 113 [some (.ref (43 + 3)), some (.int x1), some (.int x2), some (.int x3), some (.int x4), some (.int x5), some (.int x6)] [] s (zyE (some (.int r)) s')) {x1 : Int32} {x2 : Int32} {x3 : Int32} {x4 : Int32} {x5 : Int32} {x6 : Int32} {s : zy_S} {r : Int32} {s' : zy_S}  (h : zyF262_113b k113 x1 x2 x3 x4 x5 x6 s = some (r, s')) : zyR X 3 262 113 [some (.ref (43 + 3)), some (.int x1), some (.int x2), some (.int x3), some (.int x4), some (.int x5), some (.int x6)] [] s (zyE (some (.int r)) s') := by
  unfold zyF262_113b at h
  refine zy_2 rfl rfl (show zyR _ _ _ _ [some (.ref (43 + 3)), some (.int x1), some (.int x2), some (.int x3), some (.int x4), some (.int x5), some (.int x6)] [.int x6] _ _ from ?_)
  refine zy_2 rfl rfl (show zyR _ _ _ _ [some (.ref (43 + 3)), some (.int x1), some (.int x2), some (.int x3), some (.int x4), some (.int x5), some (.int x6)] [.int x5, .int x6] _ _ from ?_)
  refine zy_25_3 rfl (fun b6 => (show zyR _ _ _ _ [some (.ref (43 + 3)), some (.int x1), some (.int x2), some (.int x3), some (.int x4), some (.int x5), some (.int x6)] [] _ _ from ?_)) (fun b6 => (show zyR _ _ _ _ [some (.ref (43 + 3)), some (.int x1), some (.int x2), some (.int x3), some (.int x4), some (.int x5), some (.int x6)] [] _ _ from ?_))
  · replace h := zy_ifp h b6
    refine zy_3 rfl rfl (show zyR _ _ _ _ [some (.ref (43 + 3)), some (.int x1), some (.int x2), some (.int x3), some (.int x4), some (.int x5), some (.int x6)] [.int (0 : Int32)] _ _ from ?_)
    refine zy_23 rfl rfl (show zyR _ _ _ _ [some (.ref (43 + 3)), some (.int x1), some (.int x2), some (.int x3), some (.int x4), some (.int x5), some (.int (0 : Int32))] [] _ _ from ?_)
    exact zy_sub (show zy_le [some (.ref (43 + 3)), none, none, some (.int x3), some (.int x4), some (.int x5), some (.int (0 : Int32))] [some (.ref (43 + 3)), some (.int x1), some (.int x2), some (.int x3), some (.int x4), some (.int x5), some (.int (0 : Int32))] from ⟨rfl, ⟨rfl, ⟨rfl, ⟨rfl, ⟨rfl, trivial⟩⟩⟩⟩⟩) (zyC262_150 zy_fu x3 x4 x5 (0 : Int32) s _ _ h)
  · replace h := zy_ifn h b6
    refine zy_0 rfl rfl (show zyR _ _ _ _ [some (.ref (43 + 3)), some (.int x1), some (.int x2), some (.int x3), some (.int x4), some (.int x5), some (.int x6)] [.ref (43 + 3)] _ _ from ?_)
    refine zy_1r (c := 43) rfl rfl rfl (show zyR _ _ _ _ [some (.ref (43 + 3)), some (.int x1), some (.int x2), some (.int x3), some (.int x4), some (.int x5), some (.int x6)] [.ref (63 + 3)] _ _ from ?_)
    refine zy_2 rfl rfl (show zyR _ _ _ _ [some (.ref (43 + 3)), some (.int x1), some (.int x2), some (.int x3), some (.int x4), some (.int x5), some (.int x6)] [.int x6, .ref (63 + 3)] _ _ from ?_)
    refine zy_0 rfl rfl (show zyR _ _ _ _ [some (.ref (43 + 3)), some (.int x1), some (.int x2), some (.int x3), some (.int x4), some (.int x5), some (.int x6)] [.ref (43 + 3), .int x6, .ref (63 + 3)] _ _ from ?_)
    refine zy_1r (c := 43) rfl rfl rfl (show zyR _ _ _ _ [some (.ref (43 + 3)), some (.int x1), some (.int x2), some (.int x3), some (.int x4), some (.int x5), some (.int x6)] [.ref (62 + 3), .int x6, .ref (63 + 3)] _ _ from ?_)
    refine zy_3 rfl rfl (show zyR _ _ _ _ [some (.ref (43 + 3)), some (.int x1), some (.int x2), some (.int x3), some (.int x4), some (.int x5), some (.int x6)] [.int (60 : Int32), .ref (62 + 3), .int x6, .ref (63 + 3)] _ _ from ?_)
    refine zy_2 rfl rfl (show zyR _ _ _ _ [some (.ref (43 + 3)), some (.int x1), some (.int x2), some (.int x3), some (.int x4), some (.int x5), some (.int x6)] [.int x1, .int (60 : Int32), .ref (62 + 3), .int x6, .ref (63 + 3)] _ _ from ?_)
    refine zy_12 rfl (show zyR _ _ _ _ [some (.ref (43 + 3)), some (.int x1), some (.int x2), some (.int x3), some (.int x4), some (.int x5), some (.int x6)] [.int ((60 : Int32) * x1), .ref (62 + 3), .int x6, .ref (63 + 3)] _ _ from ?_)
    refine zy_2 rfl rfl (show zyR _ _ _ _ [some (.ref (43 + 3)), some (.int x1), some (.int x2), some (.int x3), some (.int x4), some (.int x5), some (.int x6)] [.int x2, .int ((60 : Int32) * x1), .ref (62 + 3), .int x6, .ref (63 + 3)] _ _ from ?_)
    refine zy_10 rfl (show zyR _ _ _ _ [some (.ref (43 + 3)), some (.int x1), some (.int x2), some (.int x3), some (.int x4), some (.int x5), some (.int x6)] [.int (((60 : Int32) * x1) + x2), .ref (62 + 3), .int x6, .ref (63 + 3)] _ _ from ?_)
    refine zy_2 rfl rfl (show zyR _ _ _ _ [some (.ref (43 + 3)), some (.int x1), some (.int x2), some (.int x3), some (.int x4), some (.int x5), some (.int x6)] [.int x6, .int (((60 : Int32) * x1) + x2), .ref (62 + 3), .int x6, .ref (63 + 3)] _ _ from ?_)
    refine zy_10 rfl (show zyR _ _ _ _ [some (.ref (43 + 3)), some (.int x1), some (.int x2), some (.int x3), some (.int x4), some (.int x5), some (.int x6)] [.int ((((60 : Int32) * x1) + x2) + x6), .ref (62 + 3), .int x6, .ref (63 + 3)] _ _ from ?_)
    obtain ⟨c4, h⟩ := zy_if h
    refine zy_30 (c := 62) rfl rfl c4 (show zyR _ _ _ _ [some (.ref (43 + 3)), some (.int x1), some (.int x2), some (.int x3), some (.int x4), some (.int x5), some (.int x6)] [.long (s.2.1 62 (((((60 : Int32) * x1) + x2) + x6)).toNatClampNeg), .int x6, .ref (63 + 3)] _ _ from ?_)
    obtain ⟨c5, h⟩ := zy_if h
    refine zy_31 (c := 63) rfl rfl c5 (show zyR _ _ _ _ [some (.ref (43 + 3)), some (.int x1), some (.int x2), some (.int x3), some (.int x4), some (.int x5), some (.int x6)] [] _ _ from ?_)
    refine zy_22 rfl rfl rfl rfl (show zyR _ _ _ _ [some (.ref (43 + 3)), some (.int x1), some (.int x2), some (.int x3), some (.int x4), some (.int x5), some (.int (x6 + (1 : Int32)))] [] _ _ from ?_)
    refine zy_6 rfl (show zyR _ _ _ _ [some (.ref (43 + 3)), some (.int x1), some (.int x2), some (.int x3), some (.int x4), some (.int x5), some (.int (x6 + (1 : Int32)))] [] _ _ from ?_)
    exact zy_sub (show zy_le [some (.ref (43 + 3)), some (.int x1), some (.int x2), some (.int x3), some (.int x4), some (.int x5), some (.int (x6 + (1 : Int32)))] [some (.ref (43 + 3)), some (.int x1), some (.int x2), some (.int x3), some (.int x4), some (.int x5), some (.int (x6 + (1 : Int32)))] from ⟨rfl, ⟨rfl, ⟨rfl, ⟨rfl, ⟨rfl, ⟨rfl, ⟨rfl, trivial⟩⟩⟩⟩⟩⟩⟩) (hk113 x1 x2 x3 x4 x5 (x6 + (1 : Int32)) (zy_uj s 63 (x6).toNatClampNeg (s.2.1 62 (((((60 : Int32) * x1) + x2) + x6)).toNatClampNeg)) _ _ h)
noncomputable def zyF262_113   (n : Nat) : Int32 → Int32 → Int32 → Int32 → Int32 → Int32 → zy_S → Option (Int32 × zy_S) := Nat.rec (fun _ _ _ _ _ _ _ => none) (fun _ k113 => zyF262_113b k113) n
theorem zyC262_113 {X : zx_X}     : ∀ (n : Nat) (x1 : Int32) (x2 : Int32) (x3 : Int32) (x4 : Int32) (x5 : Int32) (x6 : Int32) (s : zy_S) (r : Int32) (s' : zy_S), zyF262_113 n x1 x2 x3 x4 x5 x6 s = some (r, s') → zyR X 3 262 113 [some (.ref (43 + 3)), some (.int x1), some (.int x2), some (.int x3), some (.int x4), some (.int x5), some (.int x6)] [] s (zyE (some (.int r)) s')
  | 0, _, _, _, _, _, _ => by
    intro s r s'  h
    have h : (none : Option (Int32 × zy_S)) = some (r, s') := h
    cases h
  | n + 1, x1, x2, x3, x4, x5, x6 => by
    intro s r s'  h
    exact zyC262_113b (k113 := zyF262_113 n) (fun x1 x2 x3 x4 x5 x6 s r s'  h => zyC262_113  n x1 x2 x3 x4 x5 x6 s r s'  h) h
noncomputable def zyF262   (x1 : Int32) (x2 : Int32) (x3 : Int32) (x4 : Int32) (x5 : Int32) (s : zy_S) : Option (Int32 × zy_S) :=
(zyF182 x1 s).bind fun p7 =>
if p7.1 = 0 then
some ((-1 : Int32), p7.2)
else
(zyF182 x3 p7.2).bind fun p8 =>
if p8.1 ≠ 0 then
if zy_in x1 6 then
if (p8.2.1 60 (x1).toNatClampNeg) < 0 then
some ((-11 : Int32), p8.2)
else
if zy_in x3 6 then
if 0 ≤ (p8.2.1 60 (x3).toNatClampNeg) then
if zy_in x1 6 then
if (p8.2.1 60 (x1).toNatClampNeg) < (50 : Int32) then
some ((-12 : Int32), p8.2)
else
if zy_in x1 6 then
if zy_in x3 6 then
if (p8.2.1 60 (x1).toNatClampNeg) = (p8.2.1 60 (x3).toNatClampNeg) then
if x5 < 0 then
some ((-13 : Int32), p8.2)
else
if x2 < 0 then
some ((-13 : Int32), p8.2)
else
if x4 < 0 then
some ((-13 : Int32), p8.2)
else
if zy_in x1 6 then
if ((p8.2.1 61 (x1).toNatClampNeg) - x5) < x2 then
some ((-13 : Int32), p8.2)
else
if zy_in x3 6 then
if x4 ≤ ((p8.2.1 61 (x3).toNatClampNeg) - x5) then
zyF262_113 zy_fu x1 x2 x3 x4 x5 (0 : Int32) p8.2
else
some ((-13 : Int32), p8.2)
else none
else none
else
some ((-12 : Int32), p8.2)
else none
else none
else none
else
some ((-11 : Int32), p8.2)
else none
else none
else
some ((-1 : Int32), p8.2)
theorem zyC262 {X : zx_X}     {x1 : Int32} {x2 : Int32} {x3 : Int32} {x4 : Int32} {x5 : Int32} {s : zy_S} {r : Int32} {s' : zy_S}  (h : zyF262 x1 x2 x3 x4 x5 s = some (r, s')) : zyR X 3 262 0 [some (.ref (43 + 3)), some (.int x1), some (.int x2), some (.int x3), some (.int x4), some (.int x5), none] [] s (zyE (some (.int r)) s') := by
  unfold zyF262 at h
  refine zy_2 rfl rfl (show zyR _ _ _ _ [some (.ref (43 + 3)), some (.int x1), some (.int x2), some (.int x3), some (.int x4), some (.int x5), none] [.int x1] _ _ from ?_)
  obtain ⟨p7, hp7, h⟩ := zy_bind h
  refine zy_60 (as := [.int x1]) (rest := []) (L := [some (.int x1)]) (d' := 2) rfl rfl (Nat.le_of_ble_eq_true rfl) (Nat.le_of_ble_eq_true rfl) rfl (Nat.le_of_ble_eq_true rfl) rfl rfl (zyC182 hp7) ?_
  show zyR _ _ _ _ [some (.ref (43 + 3)), some (.int x1), some (.int x2), some (.int x3), some (.int x4), some (.int x5), none] [.int p7.1] _ _
  refine zy_24_0 rfl (fun b26 => (show zyR _ _ _ _ [some (.ref (43 + 3)), some (.int x1), some (.int x2), some (.int x3), some (.int x4), some (.int x5), none] [] _ _ from ?_)) (fun b26 => (show zyR _ _ _ _ [some (.ref (43 + 3)), some (.int x1), some (.int x2), some (.int x3), some (.int x4), some (.int x5), none] [] _ _ from ?_))
  · replace h := zy_ifp h b26
    refine zy_3 rfl rfl (show zyR _ _ _ _ [some (.ref (43 + 3)), some (.int x1), some (.int x2), some (.int x3), some (.int x4), some (.int x5), none] [.int (-1 : Int32)] _ _ from ?_)
    obtain ⟨rfl, rfl⟩ := zy_pi h
    exact zy_4 rfl ⟨rfl, rfl⟩
  · replace h := zy_ifn h b26
    refine zy_2 rfl rfl (show zyR _ _ _ _ [some (.ref (43 + 3)), some (.int x1), some (.int x2), some (.int x3), some (.int x4), some (.int x5), none] [.int x3] _ _ from ?_)
    obtain ⟨p8, hp8, h⟩ := zy_bind h
    refine zy_60 (as := [.int x3]) (rest := []) (L := [some (.int x3)]) (d' := 2) rfl rfl (Nat.le_of_ble_eq_true rfl) (Nat.le_of_ble_eq_true rfl) rfl (Nat.le_of_ble_eq_true rfl) rfl rfl (zyC182 hp8) ?_
    show zyR _ _ _ _ [some (.ref (43 + 3)), some (.int x1), some (.int x2), some (.int x3), some (.int x4), some (.int x5), none] [.int p8.1] _ _
    refine zy_24_1 rfl (fun b25 => (show zyR _ _ _ _ [some (.ref (43 + 3)), some (.int x1), some (.int x2), some (.int x3), some (.int x4), some (.int x5), none] [] _ _ from ?_)) (fun b25 => (show zyR _ _ _ _ [some (.ref (43 + 3)), some (.int x1), some (.int x2), some (.int x3), some (.int x4), some (.int x5), none] [] _ _ from ?_))
    · replace h := zy_ifp h b25
      refine zy_0 rfl rfl (show zyR _ _ _ _ [some (.ref (43 + 3)), some (.int x1), some (.int x2), some (.int x3), some (.int x4), some (.int x5), none] [.ref (43 + 3)] _ _ from ?_)
      refine zy_1r (c := 43) rfl rfl rfl (show zyR _ _ _ _ [some (.ref (43 + 3)), some (.int x1), some (.int x2), some (.int x3), some (.int x4), some (.int x5), none] [.ref (60 + 3)] _ _ from ?_)
      refine zy_2 rfl rfl (show zyR _ _ _ _ [some (.ref (43 + 3)), some (.int x1), some (.int x2), some (.int x3), some (.int x4), some (.int x5), none] [.int x1, .ref (60 + 3)] _ _ from ?_)
      obtain ⟨c9, h⟩ := zy_if h
      refine zy_26 (c := 60) rfl rfl c9 (show zyR _ _ _ _ [some (.ref (43 + 3)), some (.int x1), some (.int x2), some (.int x3), some (.int x4), some (.int x5), none] [.int (p8.2.1 60 (x1).toNatClampNeg)] _ _ from ?_)
      refine zy_24_2 rfl (fun b24 => (show zyR _ _ _ _ [some (.ref (43 + 3)), some (.int x1), some (.int x2), some (.int x3), some (.int x4), some (.int x5), none] [] _ _ from ?_)) (fun b24 => (show zyR _ _ _ _ [some (.ref (43 + 3)), some (.int x1), some (.int x2), some (.int x3), some (.int x4), some (.int x5), none] [] _ _ from ?_))
      · replace h := zy_ifp h b24
        refine zy_3 rfl rfl (show zyR _ _ _ _ [some (.ref (43 + 3)), some (.int x1), some (.int x2), some (.int x3), some (.int x4), some (.int x5), none] [.int (-11 : Int32)] _ _ from ?_)
        obtain ⟨rfl, rfl⟩ := zy_pi h
        exact zy_4 rfl ⟨rfl, rfl⟩
      · replace h := zy_ifn h b24
        refine zy_0 rfl rfl (show zyR _ _ _ _ [some (.ref (43 + 3)), some (.int x1), some (.int x2), some (.int x3), some (.int x4), some (.int x5), none] [.ref (43 + 3)] _ _ from ?_)
        refine zy_1r (c := 43) rfl rfl rfl (show zyR _ _ _ _ [some (.ref (43 + 3)), some (.int x1), some (.int x2), some (.int x3), some (.int x4), some (.int x5), none] [.ref (60 + 3)] _ _ from ?_)
        refine zy_2 rfl rfl (show zyR _ _ _ _ [some (.ref (43 + 3)), some (.int x1), some (.int x2), some (.int x3), some (.int x4), some (.int x5), none] [.int x3, .ref (60 + 3)] _ _ from ?_)
        obtain ⟨c10, h⟩ := zy_if h
        refine zy_26 (c := 60) rfl rfl c10 (show zyR _ _ _ _ [some (.ref (43 + 3)), some (.int x1), some (.int x2), some (.int x3), some (.int x4), some (.int x5), none] [.int (p8.2.1 60 (x3).toNatClampNeg)] _ _ from ?_)
        refine zy_24_3 rfl (fun b23 => (show zyR _ _ _ _ [some (.ref (43 + 3)), some (.int x1), some (.int x2), some (.int x3), some (.int x4), some (.int x5), none] [] _ _ from ?_)) (fun b23 => (show zyR _ _ _ _ [some (.ref (43 + 3)), some (.int x1), some (.int x2), some (.int x3), some (.int x4), some (.int x5), none] [] _ _ from ?_))
        · replace h := zy_ifp h b23
          refine zy_0 rfl rfl (show zyR _ _ _ _ [some (.ref (43 + 3)), some (.int x1), some (.int x2), some (.int x3), some (.int x4), some (.int x5), none] [.ref (43 + 3)] _ _ from ?_)
          refine zy_1r (c := 43) rfl rfl rfl (show zyR _ _ _ _ [some (.ref (43 + 3)), some (.int x1), some (.int x2), some (.int x3), some (.int x4), some (.int x5), none] [.ref (60 + 3)] _ _ from ?_)
          refine zy_2 rfl rfl (show zyR _ _ _ _ [some (.ref (43 + 3)), some (.int x1), some (.int x2), some (.int x3), some (.int x4), some (.int x5), none] [.int x1, .ref (60 + 3)] _ _ from ?_)
          obtain ⟨c11, h⟩ := zy_if h
          refine zy_26 (c := 60) rfl rfl c11 (show zyR _ _ _ _ [some (.ref (43 + 3)), some (.int x1), some (.int x2), some (.int x3), some (.int x4), some (.int x5), none] [.int (p8.2.1 60 (x1).toNatClampNeg)] _ _ from ?_)
          refine zy_3 rfl rfl (show zyR _ _ _ _ [some (.ref (43 + 3)), some (.int x1), some (.int x2), some (.int x3), some (.int x4), some (.int x5), none] [.int (50 : Int32), .int (p8.2.1 60 (x1).toNatClampNeg)] _ _ from ?_)
          refine zy_25_2 rfl (fun b22 => (show zyR _ _ _ _ [some (.ref (43 + 3)), some (.int x1), some (.int x2), some (.int x3), some (.int x4), some (.int x5), none] [] _ _ from ?_)) (fun b22 => (show zyR _ _ _ _ [some (.ref (43 + 3)), some (.int x1), some (.int x2), some (.int x3), some (.int x4), some (.int x5), none] [] _ _ from ?_))
          · replace h := zy_ifp h b22
            refine zy_3 rfl rfl (show zyR _ _ _ _ [some (.ref (43 + 3)), some (.int x1), some (.int x2), some (.int x3), some (.int x4), some (.int x5), none] [.int (-12 : Int32)] _ _ from ?_)
            obtain ⟨rfl, rfl⟩ := zy_pi h
            exact zy_4 rfl ⟨rfl, rfl⟩
          · replace h := zy_ifn h b22
            refine zy_0 rfl rfl (show zyR _ _ _ _ [some (.ref (43 + 3)), some (.int x1), some (.int x2), some (.int x3), some (.int x4), some (.int x5), none] [.ref (43 + 3)] _ _ from ?_)
            refine zy_1r (c := 43) rfl rfl rfl (show zyR _ _ _ _ [some (.ref (43 + 3)), some (.int x1), some (.int x2), some (.int x3), some (.int x4), some (.int x5), none] [.ref (60 + 3)] _ _ from ?_)
            refine zy_2 rfl rfl (show zyR _ _ _ _ [some (.ref (43 + 3)), some (.int x1), some (.int x2), some (.int x3), some (.int x4), some (.int x5), none] [.int x1, .ref (60 + 3)] _ _ from ?_)
            obtain ⟨c12, h⟩ := zy_if h
            refine zy_26 (c := 60) rfl rfl c12 (show zyR _ _ _ _ [some (.ref (43 + 3)), some (.int x1), some (.int x2), some (.int x3), some (.int x4), some (.int x5), none] [.int (p8.2.1 60 (x1).toNatClampNeg)] _ _ from ?_)
            refine zy_0 rfl rfl (show zyR _ _ _ _ [some (.ref (43 + 3)), some (.int x1), some (.int x2), some (.int x3), some (.int x4), some (.int x5), none] [.ref (43 + 3), .int (p8.2.1 60 (x1).toNatClampNeg)] _ _ from ?_)
            refine zy_1r (c := 43) rfl rfl rfl (show zyR _ _ _ _ [some (.ref (43 + 3)), some (.int x1), some (.int x2), some (.int x3), some (.int x4), some (.int x5), none] [.ref (60 + 3), .int (p8.2.1 60 (x1).toNatClampNeg)] _ _ from ?_)
            refine zy_2 rfl rfl (show zyR _ _ _ _ [some (.ref (43 + 3)), some (.int x1), some (.int x2), some (.int x3), some (.int x4), some (.int x5), none] [.int x3, .ref (60 + 3), .int (p8.2.1 60 (x1).toNatClampNeg)] _ _ from ?_)
            obtain ⟨c13, h⟩ := zy_if h
            refine zy_26 (c := 60) rfl rfl c13 (show zyR _ _ _ _ [some (.ref (43 + 3)), some (.int x1), some (.int x2), some (.int x3), some (.int x4), some (.int x5), none] [.int (p8.2.1 60 (x3).toNatClampNeg), .int (p8.2.1 60 (x1).toNatClampNeg)] _ _ from ?_)
            refine zy_25_0 rfl (fun b21 => (show zyR _ _ _ _ [some (.ref (43 + 3)), some (.int x1), some (.int x2), some (.int x3), some (.int x4), some (.int x5), none] [] _ _ from ?_)) (fun b21 => (show zyR _ _ _ _ [some (.ref (43 + 3)), some (.int x1), some (.int x2), some (.int x3), some (.int x4), some (.int x5), none] [] _ _ from ?_))
            · replace h := zy_ifp h b21
              refine zy_2 rfl rfl (show zyR _ _ _ _ [some (.ref (43 + 3)), some (.int x1), some (.int x2), some (.int x3), some (.int x4), some (.int x5), none] [.int x5] _ _ from ?_)
              refine zy_24_2 rfl (fun b20 => (show zyR _ _ _ _ [some (.ref (43 + 3)), some (.int x1), some (.int x2), some (.int x3), some (.int x4), some (.int x5), none] [] _ _ from ?_)) (fun b20 => (show zyR _ _ _ _ [some (.ref (43 + 3)), some (.int x1), some (.int x2), some (.int x3), some (.int x4), some (.int x5), none] [] _ _ from ?_))
              · replace h := zy_ifp h b20
                refine zy_3 rfl rfl (show zyR _ _ _ _ [some (.ref (43 + 3)), some (.int x1), some (.int x2), some (.int x3), some (.int x4), some (.int x5), none] [.int (-13 : Int32)] _ _ from ?_)
                obtain ⟨rfl, rfl⟩ := zy_pi h
                exact zy_4 rfl ⟨rfl, rfl⟩
              · replace h := zy_ifn h b20
                refine zy_2 rfl rfl (show zyR _ _ _ _ [some (.ref (43 + 3)), some (.int x1), some (.int x2), some (.int x3), some (.int x4), some (.int x5), none] [.int x2] _ _ from ?_)
                refine zy_24_2 rfl (fun b19 => (show zyR _ _ _ _ [some (.ref (43 + 3)), some (.int x1), some (.int x2), some (.int x3), some (.int x4), some (.int x5), none] [] _ _ from ?_)) (fun b19 => (show zyR _ _ _ _ [some (.ref (43 + 3)), some (.int x1), some (.int x2), some (.int x3), some (.int x4), some (.int x5), none] [] _ _ from ?_))
                · replace h := zy_ifp h b19
                  refine zy_3 rfl rfl (show zyR _ _ _ _ [some (.ref (43 + 3)), some (.int x1), some (.int x2), some (.int x3), some (.int x4), some (.int x5), none] [.int (-13 : Int32)] _ _ from ?_)
                  obtain ⟨rfl, rfl⟩ := zy_pi h
                  exact zy_4 rfl ⟨rfl, rfl⟩
                · replace h := zy_ifn h b19
                  refine zy_2 rfl rfl (show zyR _ _ _ _ [some (.ref (43 + 3)), some (.int x1), some (.int x2), some (.int x3), some (.int x4), some (.int x5), none] [.int x4] _ _ from ?_)
                  refine zy_24_2 rfl (fun b18 => (show zyR _ _ _ _ [some (.ref (43 + 3)), some (.int x1), some (.int x2), some (.int x3), some (.int x4), some (.int x5), none] [] _ _ from ?_)) (fun b18 => (show zyR _ _ _ _ [some (.ref (43 + 3)), some (.int x1), some (.int x2), some (.int x3), some (.int x4), some (.int x5), none] [] _ _ from ?_))
                  · replace h := zy_ifp h b18
                    refine zy_3 rfl rfl (show zyR _ _ _ _ [some (.ref (43 + 3)), some (.int x1), some (.int x2), some (.int x3), some (.int x4), some (.int x5), none] [.int (-13 : Int32)] _ _ from ?_)
                    obtain ⟨rfl, rfl⟩ := zy_pi h
                    exact zy_4 rfl ⟨rfl, rfl⟩
                  · replace h := zy_ifn h b18
                    refine zy_2 rfl rfl (show zyR _ _ _ _ [some (.ref (43 + 3)), some (.int x1), some (.int x2), some (.int x3), some (.int x4), some (.int x5), none] [.int x2] _ _ from ?_)
                    refine zy_0 rfl rfl (show zyR _ _ _ _ [some (.ref (43 + 3)), some (.int x1), some (.int x2), some (.int x3), some (.int x4), some (.int x5), none] [.ref (43 + 3), .int x2] _ _ from ?_)
                    refine zy_1r (c := 43) rfl rfl rfl (show zyR _ _ _ _ [some (.ref (43 + 3)), some (.int x1), some (.int x2), some (.int x3), some (.int x4), some (.int x5), none] [.ref (61 + 3), .int x2] _ _ from ?_)
                    refine zy_2 rfl rfl (show zyR _ _ _ _ [some (.ref (43 + 3)), some (.int x1), some (.int x2), some (.int x3), some (.int x4), some (.int x5), none] [.int x1, .ref (61 + 3), .int x2] _ _ from ?_)
                    obtain ⟨c14, h⟩ := zy_if h
                    refine zy_26 (c := 61) rfl rfl c14 (show zyR _ _ _ _ [some (.ref (43 + 3)), some (.int x1), some (.int x2), some (.int x3), some (.int x4), some (.int x5), none] [.int (p8.2.1 61 (x1).toNatClampNeg), .int x2] _ _ from ?_)
                    refine zy_2 rfl rfl (show zyR _ _ _ _ [some (.ref (43 + 3)), some (.int x1), some (.int x2), some (.int x3), some (.int x4), some (.int x5), none] [.int x5, .int (p8.2.1 61 (x1).toNatClampNeg), .int x2] _ _ from ?_)
                    refine zy_11 rfl (show zyR _ _ _ _ [some (.ref (43 + 3)), some (.int x1), some (.int x2), some (.int x3), some (.int x4), some (.int x5), none] [.int ((p8.2.1 61 (x1).toNatClampNeg) - x5), .int x2] _ _ from ?_)
                    refine zy_25_4 rfl (fun b17 => (show zyR _ _ _ _ [some (.ref (43 + 3)), some (.int x1), some (.int x2), some (.int x3), some (.int x4), some (.int x5), none] [] _ _ from ?_)) (fun b17 => (show zyR _ _ _ _ [some (.ref (43 + 3)), some (.int x1), some (.int x2), some (.int x3), some (.int x4), some (.int x5), none] [] _ _ from ?_))
                    · replace h := zy_ifp h b17
                      refine zy_3 rfl rfl (show zyR _ _ _ _ [some (.ref (43 + 3)), some (.int x1), some (.int x2), some (.int x3), some (.int x4), some (.int x5), none] [.int (-13 : Int32)] _ _ from ?_)
                      obtain ⟨rfl, rfl⟩ := zy_pi h
                      exact zy_4 rfl ⟨rfl, rfl⟩
                    · replace h := zy_ifn h b17
                      refine zy_2 rfl rfl (show zyR _ _ _ _ [some (.ref (43 + 3)), some (.int x1), some (.int x2), some (.int x3), some (.int x4), some (.int x5), none] [.int x4] _ _ from ?_)
                      refine zy_0 rfl rfl (show zyR _ _ _ _ [some (.ref (43 + 3)), some (.int x1), some (.int x2), some (.int x3), some (.int x4), some (.int x5), none] [.ref (43 + 3), .int x4] _ _ from ?_)
                      refine zy_1r (c := 43) rfl rfl rfl (show zyR _ _ _ _ [some (.ref (43 + 3)), some (.int x1), some (.int x2), some (.int x3), some (.int x4), some (.int x5), none] [.ref (61 + 3), .int x4] _ _ from ?_)
                      refine zy_2 rfl rfl (show zyR _ _ _ _ [some (.ref (43 + 3)), some (.int x1), some (.int x2), some (.int x3), some (.int x4), some (.int x5), none] [.int x3, .ref (61 + 3), .int x4] _ _ from ?_)
                      obtain ⟨c15, h⟩ := zy_if h
                      refine zy_26 (c := 61) rfl rfl c15 (show zyR _ _ _ _ [some (.ref (43 + 3)), some (.int x1), some (.int x2), some (.int x3), some (.int x4), some (.int x5), none] [.int (p8.2.1 61 (x3).toNatClampNeg), .int x4] _ _ from ?_)
                      refine zy_2 rfl rfl (show zyR _ _ _ _ [some (.ref (43 + 3)), some (.int x1), some (.int x2), some (.int x3), some (.int x4), some (.int x5), none] [.int x5, .int (p8.2.1 61 (x3).toNatClampNeg), .int x4] _ _ from ?_)
                      refine zy_11 rfl (show zyR _ _ _ _ [some (.ref (43 + 3)), some (.int x1), some (.int x2), some (.int x3), some (.int x4), some (.int x5), none] [.int ((p8.2.1 61 (x3).toNatClampNeg) - x5), .int x4] _ _ from ?_)
                      refine zy_25_5 rfl (fun b16 => (show zyR _ _ _ _ [some (.ref (43 + 3)), some (.int x1), some (.int x2), some (.int x3), some (.int x4), some (.int x5), none] [] _ _ from ?_)) (fun b16 => (show zyR _ _ _ _ [some (.ref (43 + 3)), some (.int x1), some (.int x2), some (.int x3), some (.int x4), some (.int x5), none] [] _ _ from ?_))
                      · replace h := zy_ifp h b16
                        refine zy_3 rfl rfl (show zyR _ _ _ _ [some (.ref (43 + 3)), some (.int x1), some (.int x2), some (.int x3), some (.int x4), some (.int x5), none] [.int (0 : Int32)] _ _ from ?_)
                        refine zy_23 rfl rfl (show zyR _ _ _ _ [some (.ref (43 + 3)), some (.int x1), some (.int x2), some (.int x3), some (.int x4), some (.int x5), some (.int (0 : Int32))] [] _ _ from ?_)
                        exact zy_sub (show zy_le [some (.ref (43 + 3)), some (.int x1), some (.int x2), some (.int x3), some (.int x4), some (.int x5), some (.int (0 : Int32))] [some (.ref (43 + 3)), some (.int x1), some (.int x2), some (.int x3), some (.int x4), some (.int x5), some (.int (0 : Int32))] from ⟨rfl, ⟨rfl, ⟨rfl, ⟨rfl, ⟨rfl, ⟨rfl, ⟨rfl, trivial⟩⟩⟩⟩⟩⟩⟩) (zyC262_113 zy_fu x1 x2 x3 x4 x5 (0 : Int32) p8.2 _ _ h)
                      · replace h := zy_ifn h b16
                        refine zy_3 rfl rfl (show zyR _ _ _ _ [some (.ref (43 + 3)), some (.int x1), some (.int x2), some (.int x3), some (.int x4), some (.int x5), none] [.int (-13 : Int32)] _ _ from ?_)
                        obtain ⟨rfl, rfl⟩ := zy_pi h
                        exact zy_4 rfl ⟨rfl, rfl⟩
            · replace h := zy_ifn h b21
              refine zy_3 rfl rfl (show zyR _ _ _ _ [some (.ref (43 + 3)), some (.int x1), some (.int x2), some (.int x3), some (.int x4), some (.int x5), none] [.int (-12 : Int32)] _ _ from ?_)
              obtain ⟨rfl, rfl⟩ := zy_pi h
              exact zy_4 rfl ⟨rfl, rfl⟩
        · replace h := zy_ifn h b23
          refine zy_3 rfl rfl (show zyR _ _ _ _ [some (.ref (43 + 3)), some (.int x1), some (.int x2), some (.int x3), some (.int x4), some (.int x5), none] [.int (-11 : Int32)] _ _ from ?_)
          obtain ⟨rfl, rfl⟩ := zy_pi h
          exact zy_4 rfl ⟨rfl, rfl⟩
    · replace h := zy_ifn h b25
      refine zy_3 rfl rfl (show zyR _ _ _ _ [some (.ref (43 + 3)), some (.int x1), some (.int x2), some (.int x3), some (.int x4), some (.int x5), none] [.int (-1 : Int32)] _ _ from ?_)
      obtain ⟨rfl, rfl⟩ := zy_pi h
      exact zy_4 rfl ⟨rfl, rfl⟩
/-! NineOpinions.element(II)J -/
noncomputable def zyF170   (x1 : Int32) (x2 : Int32) (s : zy_S) : Option (Int64 × zy_S) :=
(zyF18 x1 s).bind fun p1 =>
if p1.1 = 0 then
some ((-9223372036854775808 : Int64), p1.2)
else
if zy_in x1 6 then
if zy_Wb p1.2 then
(zyF167 (zy_sh (x1).toNatClampNeg) x2 p1.2).bind fun p4 =>
if p4.1 ≠ 0 then
some ((-9223372036854775808 : Int64), p4.2)
else
if zy_in x1 6 then
if zy_Wb p4.2 then
if zy_in x2 60 then
some ((p4.2.2.1 ((zy_sh (x1).toNatClampNeg) + 1) (x2).toNatClampNeg), p4.2)
else none
else none
else none
else none
else none
theorem zyC170 {X : zx_X}     {x1 : Int32} {x2 : Int32} {s : zy_S} {r : Int64} {s' : zy_S}  (h : zyF170 x1 x2 s = some (r, s')) : zyR X 4 170 0 [some (.ref (0 + 3)), some (.int x1), some (.int x2)] [] s (zyE (some (.long r)) s') := by
  unfold zyF170 at h
  refine zy_2 rfl rfl (show zyR _ _ _ _ [some (.ref (0 + 3)), some (.int x1), some (.int x2)] [.int x1] _ _ from ?_)
  obtain ⟨p1, hp1, h⟩ := zy_bind h
  refine zy_60 (as := [.int x1]) (rest := []) (L := [some (.int x1)]) (d' := 1) rfl rfl (Nat.le_of_ble_eq_true rfl) (Nat.le_of_ble_eq_true rfl) rfl (Nat.le_of_ble_eq_true rfl) rfl rfl (zyC18 hp1) ?_
  show zyR _ _ _ _ [some (.ref (0 + 3)), some (.int x1), some (.int x2)] [.int p1.1] _ _
  refine zy_24_0 rfl (fun b9 => (show zyR _ _ _ _ [some (.ref (0 + 3)), some (.int x1), some (.int x2)] [] _ _ from ?_)) (fun b9 => (show zyR _ _ _ _ [some (.ref (0 + 3)), some (.int x1), some (.int x2)] [] _ _ from ?_))
  · replace h := zy_ifp h b9
    refine zy_36c rfl rfl (show zyR _ _ _ _ [some (.ref (0 + 3)), some (.int x1), some (.int x2)] [.long (-9223372036854775808 : Int64)] _ _ from ?_)
    cases h
    exact zy_65 rfl ⟨rfl, rfl⟩
  · replace h := zy_ifn h b9
    refine zy_0 rfl rfl (show zyR _ _ _ _ [some (.ref (0 + 3)), some (.int x1), some (.int x2)] [.ref (0 + 3)] _ _ from ?_)
    refine zy_1r (c := 0) rfl rfl rfl (show zyR _ _ _ _ [some (.ref (0 + 3)), some (.int x1), some (.int x2)] [.ref (30 + 3)] _ _ from ?_)
    refine zy_2 rfl rfl (show zyR _ _ _ _ [some (.ref (0 + 3)), some (.int x1), some (.int x2)] [.int x1, .ref (30 + 3)] _ _ from ?_)
    obtain ⟨c2, h⟩ := zy_if h
    obtain ⟨c3, h⟩ := zy_if h
    refine zy_28 rfl (zy_Wb_g c3) c2 (show zyR _ _ _ _ [some (.ref (0 + 3)), some (.int x1), some (.int x2)] [.ref ((zy_sh (x1).toNatClampNeg) + 3)] _ _ from ?_)
    refine zy_2 rfl rfl (show zyR _ _ _ _ [some (.ref (0 + 3)), some (.int x1), some (.int x2)] [.int x2, .ref ((zy_sh (x1).toNatClampNeg) + 3)] _ _ from ?_)
    obtain ⟨p4, hp4, h⟩ := zy_bind h
    refine zy_5 (c := (zy_sh (x1).toNatClampNeg)) (as := [.int x2]) (rest := []) (L := [some (.ref ((zy_sh (x1).toNatClampNeg) + 3)), some (.int x2)]) (d' := 3) rfl rfl (zy_isSh_of (zy_in_lt c2)).1 (Nat.le_of_ble_eq_true rfl) (Nat.le_of_ble_eq_true rfl) rfl (Nat.le_of_ble_eq_true rfl) rfl rfl (zyC167 (zy_isSh_of (zy_in_lt c2)) hp4) ?_
    show zyR _ _ _ _ [some (.ref (0 + 3)), some (.int x1), some (.int x2)] [.int p4.1] _ _
    refine zy_24_1 rfl (fun b8 => (show zyR _ _ _ _ [some (.ref (0 + 3)), some (.int x1), some (.int x2)] [] _ _ from ?_)) (fun b8 => (show zyR _ _ _ _ [some (.ref (0 + 3)), some (.int x1), some (.int x2)] [] _ _ from ?_))
    · replace h := zy_ifp h b8
      refine zy_36c rfl rfl (show zyR _ _ _ _ [some (.ref (0 + 3)), some (.int x1), some (.int x2)] [.long (-9223372036854775808 : Int64)] _ _ from ?_)
      cases h
      exact zy_65 rfl ⟨rfl, rfl⟩
    · replace h := zy_ifn h b8
      refine zy_0 rfl rfl (show zyR _ _ _ _ [some (.ref (0 + 3)), some (.int x1), some (.int x2)] [.ref (0 + 3)] _ _ from ?_)
      refine zy_1r (c := 0) rfl rfl rfl (show zyR _ _ _ _ [some (.ref (0 + 3)), some (.int x1), some (.int x2)] [.ref (30 + 3)] _ _ from ?_)
      refine zy_2 rfl rfl (show zyR _ _ _ _ [some (.ref (0 + 3)), some (.int x1), some (.int x2)] [.int x1, .ref (30 + 3)] _ _ from ?_)
      obtain ⟨c5, h⟩ := zy_if h
      obtain ⟨c6, h⟩ := zy_if h
      refine zy_28 rfl (zy_Wb_g c6) c5 (show zyR _ _ _ _ [some (.ref (0 + 3)), some (.int x1), some (.int x2)] [.ref ((zy_sh (x1).toNatClampNeg) + 3)] _ _ from ?_)
      refine zy_1r (c := (zy_sh (x1).toNatClampNeg)) rfl (zy_isSh_of (zy_in_lt c5)).1 rfl (show zyR _ _ _ _ [some (.ref (0 + 3)), some (.int x1), some (.int x2)] [.ref ((zy_sh (x1).toNatClampNeg) + 1 + 3)] _ _ from ?_)
      refine zy_2 rfl rfl (show zyR _ _ _ _ [some (.ref (0 + 3)), some (.int x1), some (.int x2)] [.int x2, .ref ((zy_sh (x1).toNatClampNeg) + 1 + 3)] _ _ from ?_)
      obtain ⟨c7, h⟩ := zy_if h
      refine zy_30 (c := ((zy_sh (x1).toNatClampNeg) + 1)) rfl (zy_isSh_of (zy_in_lt c5)).2 c7 (show zyR _ _ _ _ [some (.ref (0 + 3)), some (.int x1), some (.int x2)] [.long (p4.2.2.1 ((zy_sh (x1).toNatClampNeg) + 1) (x2).toNatClampNeg)] _ _ from ?_)
      refine zy_6 rfl (show zyR _ _ _ _ [some (.ref (0 + 3)), some (.int x1), some (.int x2)] [.long (p4.2.2.1 ((zy_sh (x1).toNatClampNeg) + 1) (x2).toNatClampNeg)] _ _ from ?_)
      cases h
      exact zy_65 rfl ⟨rfl, rfl⟩
end
section
/-! PART 41.10: methods as functions. Made by wip/v4/dcp.py. -/
/-! NineOpinionsModel.element(II)J -/
noncomputable def zyF261   (x1 : Int32) (x2 : Int32) (s : zy_S) : Option (Int64 × zy_S) :=
(zyF259 x1 x2 s).bind fun p1 =>
if p1.1 = 0 then
if zy_in (((60 : Int32) * x1) + x2) 360 then
some ((p1.2.2.1 62 ((((60 : Int32) * x1) + x2)).toNatClampNeg), p1.2)
else none
else
some ((-9223372036854775808 : Int64), p1.2)
theorem zyC261 {X : zx_X}     {x1 : Int32} {x2 : Int32} {s : zy_S} {r : Int64} {s' : zy_S}  (h : zyF261 x1 x2 s = some (r, s')) : zyR X 4 261 0 [some (.ref (43 + 3)), some (.int x1), some (.int x2)] [] s (zyE (some (.long r)) s') := by
  unfold zyF261 at h
  refine zy_0 rfl rfl (show zyR _ _ _ _ [some (.ref (43 + 3)), some (.int x1), some (.int x2)] [.ref (43 + 3)] _ _ from ?_)
  refine zy_2 rfl rfl (show zyR _ _ _ _ [some (.ref (43 + 3)), some (.int x1), some (.int x2)] [.int x1, .ref (43 + 3)] _ _ from ?_)
  refine zy_2 rfl rfl (show zyR _ _ _ _ [some (.ref (43 + 3)), some (.int x1), some (.int x2)] [.int x2, .int x1, .ref (43 + 3)] _ _ from ?_)
  obtain ⟨p1, hp1, h⟩ := zy_bind h
  refine zy_5 (c := 43) (as := [.int x1, .int x2]) (rest := []) (L := [some (.ref (43 + 3)), some (.int x1), some (.int x2)]) (d' := 3) rfl rfl rfl (Nat.le_of_ble_eq_true rfl) (Nat.le_of_ble_eq_true rfl) rfl (Nat.le_of_ble_eq_true rfl) rfl rfl (zyC259 hp1) ?_
  show zyR _ _ _ _ [some (.ref (43 + 3)), some (.int x1), some (.int x2)] [.int p1.1] _ _
  refine zy_24_0 rfl (fun b3 => (show zyR _ _ _ _ [some (.ref (43 + 3)), some (.int x1), some (.int x2)] [] _ _ from ?_)) (fun b3 => (show zyR _ _ _ _ [some (.ref (43 + 3)), some (.int x1), some (.int x2)] [] _ _ from ?_))
  · replace h := zy_ifp h b3
    refine zy_0 rfl rfl (show zyR _ _ _ _ [some (.ref (43 + 3)), some (.int x1), some (.int x2)] [.ref (43 + 3)] _ _ from ?_)
    refine zy_1r (c := 43) rfl rfl rfl (show zyR _ _ _ _ [some (.ref (43 + 3)), some (.int x1), some (.int x2)] [.ref (62 + 3)] _ _ from ?_)
    refine zy_3 rfl rfl (show zyR _ _ _ _ [some (.ref (43 + 3)), some (.int x1), some (.int x2)] [.int (60 : Int32), .ref (62 + 3)] _ _ from ?_)
    refine zy_2 rfl rfl (show zyR _ _ _ _ [some (.ref (43 + 3)), some (.int x1), some (.int x2)] [.int x1, .int (60 : Int32), .ref (62 + 3)] _ _ from ?_)
    refine zy_12 rfl (show zyR _ _ _ _ [some (.ref (43 + 3)), some (.int x1), some (.int x2)] [.int ((60 : Int32) * x1), .ref (62 + 3)] _ _ from ?_)
    refine zy_2 rfl rfl (show zyR _ _ _ _ [some (.ref (43 + 3)), some (.int x1), some (.int x2)] [.int x2, .int ((60 : Int32) * x1), .ref (62 + 3)] _ _ from ?_)
    refine zy_10 rfl (show zyR _ _ _ _ [some (.ref (43 + 3)), some (.int x1), some (.int x2)] [.int (((60 : Int32) * x1) + x2), .ref (62 + 3)] _ _ from ?_)
    obtain ⟨c2, h⟩ := zy_if h
    refine zy_30 (c := 62) rfl rfl c2 (show zyR _ _ _ _ [some (.ref (43 + 3)), some (.int x1), some (.int x2)] [.long (p1.2.2.1 62 ((((60 : Int32) * x1) + x2)).toNatClampNeg)] _ _ from ?_)
    cases h
    exact zy_65 rfl ⟨rfl, rfl⟩
  · replace h := zy_ifn h b3
    refine zy_36c rfl rfl (show zyR _ _ _ _ [some (.ref (43 + 3)), some (.int x1), some (.int x2)] [.long (-9223372036854775808 : Int64)] _ _ from ?_)
    refine zy_6 rfl (show zyR _ _ _ _ [some (.ref (43 + 3)), some (.int x1), some (.int x2)] [.long (-9223372036854775808 : Int64)] _ _ from ?_)
    cases h
    exact zy_65 rfl ⟨rfl, rfl⟩
/-! NineOpinions.of(II)I -/
noncomputable def zyF31   (x1 : Int32) (x2 : Int32) (s : zy_S) : Option (Int32 × zy_S) :=
if x2 ≠ (4 : Int32) then
(zyF25 x2 x1 s).bind fun p1 =>
if p1.1 = 0 then
some ((-1 : Int32), p1.2)
else
(zyF27 x2 x1 p1.2).bind fun p2 =>
some (p2.1, p2.2)
else
(zyF26 x1 s).bind fun p4 =>
if p4.1 = 0 then
some ((-1 : Int32), p4.2)
else
(zyF32 (p4.2.1 1 3) x1 p4.2).bind fun p5 =>
some (p5.1, p5.2)
theorem zyC31 {X : zx_X}     {x1 : Int32} {x2 : Int32} {s : zy_S} {r : Int32} {s' : zy_S}  (h : zyF31 x1 x2 s = some (r, s')) : zyR X 3 31 0 [some (.ref (0 + 3)), some (.int x1), some (.int x2)] [] s (zyE (some (.int r)) s') := by
  unfold zyF31 at h
  refine zy_2 rfl rfl (show zyR _ _ _ _ [some (.ref (0 + 3)), some (.int x1), some (.int x2)] [.int x2] _ _ from ?_)
  refine zy_3 rfl rfl (show zyR _ _ _ _ [some (.ref (0 + 3)), some (.int x1), some (.int x2)] [.int (4 : Int32), .int x2] _ _ from ?_)
  refine zy_25_1 rfl (fun b7 => (show zyR _ _ _ _ [some (.ref (0 + 3)), some (.int x1), some (.int x2)] [] _ _ from ?_)) (fun b7 => (show zyR _ _ _ _ [some (.ref (0 + 3)), some (.int x1), some (.int x2)] [] _ _ from ?_))
  · replace h := zy_ifp h b7
    refine zy_0 rfl rfl (show zyR _ _ _ _ [some (.ref (0 + 3)), some (.int x1), some (.int x2)] [.ref (0 + 3)] _ _ from ?_)
    refine zy_1r (c := 0) rfl rfl rfl (show zyR _ _ _ _ [some (.ref (0 + 3)), some (.int x1), some (.int x2)] [.ref (1 + 3)] _ _ from ?_)
    refine zy_2 rfl rfl (show zyR _ _ _ _ [some (.ref (0 + 3)), some (.int x1), some (.int x2)] [.int x2, .ref (1 + 3)] _ _ from ?_)
    refine zy_2 rfl rfl (show zyR _ _ _ _ [some (.ref (0 + 3)), some (.int x1), some (.int x2)] [.int x1, .int x2, .ref (1 + 3)] _ _ from ?_)
    obtain ⟨p1, hp1, h⟩ := zy_bind h
    refine zy_5 (c := 1) (as := [.int x2, .int x1]) (rest := []) (L := [some (.ref (1 + 3)), some (.int x2), some (.int x1)]) (d' := 2) rfl rfl rfl (Nat.le_of_ble_eq_true rfl) (Nat.le_of_ble_eq_true rfl) rfl (Nat.le_of_ble_eq_true rfl) rfl rfl (zyC25 hp1) ?_
    show zyR _ _ _ _ [some (.ref (0 + 3)), some (.int x1), some (.int x2)] [.int p1.1] _ _
    refine zy_24_0 rfl (fun b3 => (show zyR _ _ _ _ [some (.ref (0 + 3)), some (.int x1), some (.int x2)] [] _ _ from ?_)) (fun b3 => (show zyR _ _ _ _ [some (.ref (0 + 3)), some (.int x1), some (.int x2)] [] _ _ from ?_))
    · replace h := zy_ifp h b3
      refine zy_3 rfl rfl (show zyR _ _ _ _ [some (.ref (0 + 3)), some (.int x1), some (.int x2)] [.int (-1 : Int32)] _ _ from ?_)
      obtain ⟨rfl, rfl⟩ := zy_pi h
      exact zy_4 rfl ⟨rfl, rfl⟩
    · replace h := zy_ifn h b3
      refine zy_0 rfl rfl (show zyR _ _ _ _ [some (.ref (0 + 3)), some (.int x1), some (.int x2)] [.ref (0 + 3)] _ _ from ?_)
      refine zy_1r (c := 0) rfl rfl rfl (show zyR _ _ _ _ [some (.ref (0 + 3)), some (.int x1), some (.int x2)] [.ref (1 + 3)] _ _ from ?_)
      refine zy_2 rfl rfl (show zyR _ _ _ _ [some (.ref (0 + 3)), some (.int x1), some (.int x2)] [.int x2, .ref (1 + 3)] _ _ from ?_)
      refine zy_2 rfl rfl (show zyR _ _ _ _ [some (.ref (0 + 3)), some (.int x1), some (.int x2)] [.int x1, .int x2, .ref (1 + 3)] _ _ from ?_)
      obtain ⟨p2, hp2, h⟩ := zy_bind h
      refine zy_5 (c := 1) (as := [.int x2, .int x1]) (rest := []) (L := [some (.ref (1 + 3)), some (.int x2), some (.int x1)]) (d' := 1) rfl rfl rfl (Nat.le_of_ble_eq_true rfl) (Nat.le_of_ble_eq_true rfl) rfl (Nat.le_of_ble_eq_true rfl) rfl rfl (zyC27 hp2) ?_
      show zyR _ _ _ _ [some (.ref (0 + 3)), some (.int x1), some (.int x2)] [.int p2.1] _ _
      refine zy_6 rfl (show zyR _ _ _ _ [some (.ref (0 + 3)), some (.int x1), some (.int x2)] [.int p2.1] _ _ from ?_)
      obtain ⟨rfl, rfl⟩ := zy_pi h
      exact zy_4 rfl ⟨rfl, rfl⟩
  · replace h := zy_ifn h b7
    refine zy_2 rfl rfl (show zyR _ _ _ _ [some (.ref (0 + 3)), some (.int x1), some (.int x2)] [.int x1] _ _ from ?_)
    obtain ⟨p4, hp4, h⟩ := zy_bind h
    refine zy_60 (as := [.int x1]) (rest := []) (L := [some (.int x1)]) (d' := 1) rfl rfl (Nat.le_of_ble_eq_true rfl) (Nat.le_of_ble_eq_true rfl) rfl (Nat.le_of_ble_eq_true rfl) rfl rfl (zyC26 hp4) ?_
    show zyR _ _ _ _ [some (.ref (0 + 3)), some (.int x1), some (.int x2)] [.int p4.1] _ _
    refine zy_24_0 rfl (fun b6 => (show zyR _ _ _ _ [some (.ref (0 + 3)), some (.int x1), some (.int x2)] [] _ _ from ?_)) (fun b6 => (show zyR _ _ _ _ [some (.ref (0 + 3)), some (.int x1), some (.int x2)] [] _ _ from ?_))
    · replace h := zy_ifp h b6
      refine zy_3 rfl rfl (show zyR _ _ _ _ [some (.ref (0 + 3)), some (.int x1), some (.int x2)] [.int (-1 : Int32)] _ _ from ?_)
      obtain ⟨rfl, rfl⟩ := zy_pi h
      exact zy_4 rfl ⟨rfl, rfl⟩
    · replace h := zy_ifn h b6
      refine zy_0 rfl rfl (show zyR _ _ _ _ [some (.ref (0 + 3)), some (.int x1), some (.int x2)] [.ref (0 + 3)] _ _ from ?_)
      refine zy_1r (c := 0) rfl rfl rfl (show zyR _ _ _ _ [some (.ref (0 + 3)), some (.int x1), some (.int x2)] [.ref (1 + 3)] _ _ from ?_)
      refine zy_1 (c := 1) rfl rfl rfl (show zyR _ _ _ _ [some (.ref (0 + 3)), some (.int x1), some (.int x2)] [.int (p4.2.1 1 3)] _ _ from ?_)
      refine zy_2 rfl rfl (show zyR _ _ _ _ [some (.ref (0 + 3)), some (.int x1), some (.int x2)] [.int x1, .int (p4.2.1 1 3)] _ _ from ?_)
      obtain ⟨p5, hp5, h⟩ := zy_bind h
      refine zy_60 (as := [.int (p4.2.1 1 3), .int x1]) (rest := []) (L := [some (.int (p4.2.1 1 3)), some (.int x1)]) (d' := 1) rfl rfl (Nat.le_of_ble_eq_true rfl) (Nat.le_of_ble_eq_true rfl) rfl (Nat.le_of_ble_eq_true rfl) rfl rfl (zyC32 hp5) ?_
      show zyR _ _ _ _ [some (.ref (0 + 3)), some (.int x1), some (.int x2)] [.int p5.1] _ _
      refine zy_6 rfl (show zyR _ _ _ _ [some (.ref (0 + 3)), some (.int x1), some (.int x2)] [.int p5.1] _ _ from ?_)
      obtain ⟨rfl, rfl⟩ := zy_pi h
      exact zy_4 rfl ⟨rfl, rfl⟩
/-! NineOpinionsModel.of(II)I -/
noncomputable def zyF188   (x1 : Int32) (x2 : Int32) (s : zy_S) : Option (Int32 × zy_S) :=
(zyF184 x1 x2 s).bind fun p1 =>
if p1.1 < 0 then
if x2 ≠ (4 : Int32) then
some ((-1 : Int32), p1.2)
else
(zyF186 (x1).toInt64 p1.2).bind fun p2 =>
if p2.1 = 0 then
some ((-1 : Int32), p2.2)
else
some ((((p2.2.1 43 7) >>> (x1 &&& 31)) &&& (1 : Int32)), p2.2)
else
if zy_in p1.1 41 then
some ((p1.2.1 44 (p1.1).toNatClampNeg), p1.2)
else none
theorem zyC188 {X : zx_X}     {x1 : Int32} {x2 : Int32} {s : zy_S} {r : Int32} {s' : zy_S}  (h : zyF188 x1 x2 s = some (r, s')) : zyR X 4 188 0 [some (.ref (43 + 3)), some (.int x1), some (.int x2), none] [] s (zyE (some (.int r)) s') := by
  unfold zyF188 at h
  refine zy_0 rfl rfl (show zyR _ _ _ _ [some (.ref (43 + 3)), some (.int x1), some (.int x2), none] [.ref (43 + 3)] _ _ from ?_)
  refine zy_2 rfl rfl (show zyR _ _ _ _ [some (.ref (43 + 3)), some (.int x1), some (.int x2), none] [.int x1, .ref (43 + 3)] _ _ from ?_)
  refine zy_2 rfl rfl (show zyR _ _ _ _ [some (.ref (43 + 3)), some (.int x1), some (.int x2), none] [.int x2, .int x1, .ref (43 + 3)] _ _ from ?_)
  obtain ⟨p1, hp1, h⟩ := zy_bind h
  refine zy_5 (c := 43) (as := [.int x1, .int x2]) (rest := []) (L := [some (.ref (43 + 3)), some (.int x1), some (.int x2)]) (d' := 3) rfl rfl rfl (Nat.le_of_ble_eq_true rfl) (Nat.le_of_ble_eq_true rfl) rfl (Nat.le_of_ble_eq_true rfl) rfl rfl (zyC184 hp1) ?_
  show zyR _ _ _ _ [some (.ref (43 + 3)), some (.int x1), some (.int x2), none] [.int p1.1] _ _
  refine zy_23 rfl rfl (show zyR _ _ _ _ [some (.ref (43 + 3)), some (.int x1), some (.int x2), some (.int p1.1)] [] _ _ from ?_)
  refine zy_2 rfl rfl (show zyR _ _ _ _ [some (.ref (43 + 3)), some (.int x1), some (.int x2), some (.int p1.1)] [.int p1.1] _ _ from ?_)
  refine zy_24_2 rfl (fun b6 => (show zyR _ _ _ _ [some (.ref (43 + 3)), some (.int x1), some (.int x2), some (.int p1.1)] [] _ _ from ?_)) (fun b6 => (show zyR _ _ _ _ [some (.ref (43 + 3)), some (.int x1), some (.int x2), some (.int p1.1)] [] _ _ from ?_))
  · replace h := zy_ifp h b6
    refine zy_2 rfl rfl (show zyR _ _ _ _ [some (.ref (43 + 3)), some (.int x1), some (.int x2), some (.int p1.1)] [.int x2] _ _ from ?_)
    refine zy_3 rfl rfl (show zyR _ _ _ _ [some (.ref (43 + 3)), some (.int x1), some (.int x2), some (.int p1.1)] [.int (4 : Int32), .int x2] _ _ from ?_)
    refine zy_25_1 rfl (fun b4 => (show zyR _ _ _ _ [some (.ref (43 + 3)), some (.int x1), some (.int x2), some (.int p1.1)] [] _ _ from ?_)) (fun b4 => (show zyR _ _ _ _ [some (.ref (43 + 3)), some (.int x1), some (.int x2), some (.int p1.1)] [] _ _ from ?_))
    · replace h := zy_ifp h b4
      refine zy_3 rfl rfl (show zyR _ _ _ _ [some (.ref (43 + 3)), some (.int x1), some (.int x2), some (.int p1.1)] [.int (-1 : Int32)] _ _ from ?_)
      obtain ⟨rfl, rfl⟩ := zy_pi h
      exact zy_4 rfl ⟨rfl, rfl⟩
    · replace h := zy_ifn h b4
      refine zy_2 rfl rfl (show zyR _ _ _ _ [some (.ref (43 + 3)), some (.int x1), some (.int x2), some (.int p1.1)] [.int x1] _ _ from ?_)
      refine zy_40 rfl (show zyR _ _ _ _ [some (.ref (43 + 3)), some (.int x1), some (.int x2), some (.int p1.1)] [.long (x1).toInt64] _ _ from ?_)
      obtain ⟨p2, hp2, h⟩ := zy_bind h
      refine zy_60 (as := [.long (x1).toInt64]) (rest := []) (L := [some (.long (x1).toInt64), none]) (d' := 2) rfl rfl (Nat.le_of_ble_eq_true rfl) (Nat.le_of_ble_eq_true rfl) rfl (Nat.le_of_ble_eq_true rfl) rfl rfl (zyC186 hp2) ?_
      show zyR _ _ _ _ [some (.ref (43 + 3)), some (.int x1), some (.int x2), some (.int p1.1)] [.int p2.1] _ _
      refine zy_24_0 rfl (fun b3 => (show zyR _ _ _ _ [some (.ref (43 + 3)), some (.int x1), some (.int x2), some (.int p1.1)] [] _ _ from ?_)) (fun b3 => (show zyR _ _ _ _ [some (.ref (43 + 3)), some (.int x1), some (.int x2), some (.int p1.1)] [] _ _ from ?_))
      · replace h := zy_ifp h b3
        refine zy_3 rfl rfl (show zyR _ _ _ _ [some (.ref (43 + 3)), some (.int x1), some (.int x2), some (.int p1.1)] [.int (-1 : Int32)] _ _ from ?_)
        obtain ⟨rfl, rfl⟩ := zy_pi h
        exact zy_4 rfl ⟨rfl, rfl⟩
      · replace h := zy_ifn h b3
        refine zy_0 rfl rfl (show zyR _ _ _ _ [some (.ref (43 + 3)), some (.int x1), some (.int x2), some (.int p1.1)] [.ref (43 + 3)] _ _ from ?_)
        refine zy_1 (c := 43) rfl rfl rfl (show zyR _ _ _ _ [some (.ref (43 + 3)), some (.int x1), some (.int x2), some (.int p1.1)] [.int (p2.2.1 43 7)] _ _ from ?_)
        refine zy_2 rfl rfl (show zyR _ _ _ _ [some (.ref (43 + 3)), some (.int x1), some (.int x2), some (.int p1.1)] [.int x1, .int (p2.2.1 43 7)] _ _ from ?_)
        refine zy_17 rfl (show zyR _ _ _ _ [some (.ref (43 + 3)), some (.int x1), some (.int x2), some (.int p1.1)] [.int ((p2.2.1 43 7) >>> (x1 &&& 31))] _ _ from ?_)
        refine zy_3 rfl rfl (show zyR _ _ _ _ [some (.ref (43 + 3)), some (.int x1), some (.int x2), some (.int p1.1)] [.int (1 : Int32), .int ((p2.2.1 43 7) >>> (x1 &&& 31))] _ _ from ?_)
        refine zy_13 rfl (show zyR _ _ _ _ [some (.ref (43 + 3)), some (.int x1), some (.int x2), some (.int p1.1)] [.int (((p2.2.1 43 7) >>> (x1 &&& 31)) &&& (1 : Int32))] _ _ from ?_)
        refine zy_6 rfl (show zyR _ _ _ _ [some (.ref (43 + 3)), some (.int x1), some (.int x2), some (.int p1.1)] [.int (((p2.2.1 43 7) >>> (x1 &&& 31)) &&& (1 : Int32))] _ _ from ?_)
        obtain ⟨rfl, rfl⟩ := zy_pi h
        exact zy_4 rfl ⟨rfl, rfl⟩
  · replace h := zy_ifn h b6
    refine zy_0 rfl rfl (show zyR _ _ _ _ [some (.ref (43 + 3)), some (.int x1), some (.int x2), some (.int p1.1)] [.ref (43 + 3)] _ _ from ?_)
    refine zy_1r (c := 43) rfl rfl rfl (show zyR _ _ _ _ [some (.ref (43 + 3)), some (.int x1), some (.int x2), some (.int p1.1)] [.ref (44 + 3)] _ _ from ?_)
    refine zy_2 rfl rfl (show zyR _ _ _ _ [some (.ref (43 + 3)), some (.int x1), some (.int x2), some (.int p1.1)] [.int p1.1, .ref (44 + 3)] _ _ from ?_)
    obtain ⟨c5, h⟩ := zy_if h
    refine zy_26 (c := 44) rfl rfl c5 (show zyR _ _ _ _ [some (.ref (43 + 3)), some (.int x1), some (.int x2), some (.int p1.1)] [.int (p1.2.1 44 (p1.1).toNatClampNeg)] _ _ from ?_)
    refine zy_6 rfl (show zyR _ _ _ _ [some (.ref (43 + 3)), some (.int x1), some (.int x2), some (.int p1.1)] [.int (p1.2.1 44 (p1.1).toNatClampNeg)] _ _ from ?_)
    obtain ⟨rfl, rfl⟩ := zy_pi h
    exact zy_4 rfl ⟨rfl, rfl⟩
/-! NineOpinions.led(I)I -/
noncomputable def zyF139   (x1 : Int32) (s : zy_S) : Option (Int32 × zy_S) :=
if x1 < 0 then
some ((-1 : Int32), s)
else
if (5 : Int32) ≤ x1 then
some ((-1 : Int32), s)
else
if zy_in x1 5 then
some ((s.1 18 (x1).toNatClampNeg), s)
else none
theorem zyC139 {X : zx_X}     {x1 : Int32} {s : zy_S} {r : Int32} {s' : zy_S}  (h : zyF139 x1 s = some (r, s')) : zyR X 1 139 0 [some (.ref (0 + 3)), some (.int x1)] [] s (zyE (some (.int r)) s') := by
  unfold zyF139 at h
  refine zy_2 rfl rfl (show zyR _ _ _ _ [some (.ref (0 + 3)), some (.int x1)] [.int x1] _ _ from ?_)
  refine zy_24_2 rfl (fun b3 => (show zyR _ _ _ _ [some (.ref (0 + 3)), some (.int x1)] [] _ _ from ?_)) (fun b3 => (show zyR _ _ _ _ [some (.ref (0 + 3)), some (.int x1)] [] _ _ from ?_))
  · replace h := zy_ifp h b3
    refine zy_3 rfl rfl (show zyR _ _ _ _ [some (.ref (0 + 3)), some (.int x1)] [.int (-1 : Int32)] _ _ from ?_)
    obtain ⟨rfl, rfl⟩ := zy_pi h
    exact zy_4 rfl ⟨rfl, rfl⟩
  · replace h := zy_ifn h b3
    refine zy_2 rfl rfl (show zyR _ _ _ _ [some (.ref (0 + 3)), some (.int x1)] [.int x1] _ _ from ?_)
    refine zy_3 rfl rfl (show zyR _ _ _ _ [some (.ref (0 + 3)), some (.int x1)] [.int (5 : Int32), .int x1] _ _ from ?_)
    refine zy_25_3 rfl (fun b2 => (show zyR _ _ _ _ [some (.ref (0 + 3)), some (.int x1)] [] _ _ from ?_)) (fun b2 => (show zyR _ _ _ _ [some (.ref (0 + 3)), some (.int x1)] [] _ _ from ?_))
    · replace h := zy_ifp h b2
      refine zy_3 rfl rfl (show zyR _ _ _ _ [some (.ref (0 + 3)), some (.int x1)] [.int (-1 : Int32)] _ _ from ?_)
      obtain ⟨rfl, rfl⟩ := zy_pi h
      exact zy_4 rfl ⟨rfl, rfl⟩
    · replace h := zy_ifn h b2
      refine zy_0 rfl rfl (show zyR _ _ _ _ [some (.ref (0 + 3)), some (.int x1)] [.ref (0 + 3)] _ _ from ?_)
      refine zy_1r (c := 0) rfl rfl rfl (show zyR _ _ _ _ [some (.ref (0 + 3)), some (.int x1)] [.ref (17 + 3)] _ _ from ?_)
      refine zy_1r (c := 17) rfl rfl rfl (show zyR _ _ _ _ [some (.ref (0 + 3)), some (.int x1)] [.ref (18 + 3)] _ _ from ?_)
      refine zy_2 rfl rfl (show zyR _ _ _ _ [some (.ref (0 + 3)), some (.int x1)] [.int x1, .ref (18 + 3)] _ _ from ?_)
      obtain ⟨c1, h⟩ := zy_if h
      refine zy_26 (c := 18) rfl rfl c1 (show zyR _ _ _ _ [some (.ref (0 + 3)), some (.int x1)] [.int (s.1 18 (x1).toNatClampNeg)] _ _ from ?_)
      refine zy_6 rfl (show zyR _ _ _ _ [some (.ref (0 + 3)), some (.int x1)] [.int (s.1 18 (x1).toNatClampNeg)] _ _ from ?_)
      obtain ⟨rfl, rfl⟩ := zy_pi h
      exact zy_4 rfl ⟨rfl, rfl⟩
/-! NineOpinionsModel.led(I)I -/
noncomputable def zyF244   (x1 : Int32) (s : zy_S) : Option (Int32 × zy_S) :=
(zyF179 (x1).toInt64 (0 : Int64) (4 : Int64) s).bind fun p1 =>
if p1.1 = 0 then
some ((-1 : Int32), p1.2)
else
if zy_in x1 5 then
some ((p1.2.1 54 (x1).toNatClampNeg), p1.2)
else none
theorem zyC244 {X : zx_X}     {x1 : Int32} {s : zy_S} {r : Int32} {s' : zy_S}  (h : zyF244 x1 s = some (r, s')) : zyR X 2 244 0 [some (.ref (43 + 3)), some (.int x1)] [] s (zyE (some (.int r)) s') := by
  unfold zyF244 at h
  refine zy_2 rfl rfl (show zyR _ _ _ _ [some (.ref (43 + 3)), some (.int x1)] [.int x1] _ _ from ?_)
  refine zy_40 rfl (show zyR _ _ _ _ [some (.ref (43 + 3)), some (.int x1)] [.long (x1).toInt64] _ _ from ?_)
  refine zy_36 rfl rfl (show zyR _ _ _ _ [some (.ref (43 + 3)), some (.int x1)] [.long (0 : Int64), .long (x1).toInt64] _ _ from ?_)
  refine zy_36c rfl rfl (show zyR _ _ _ _ [some (.ref (43 + 3)), some (.int x1)] [.long (4 : Int64), .long (0 : Int64), .long (x1).toInt64] _ _ from ?_)
  obtain ⟨p1, hp1, h⟩ := zy_bind h
  refine zy_60 (as := [.long (x1).toInt64, .long (0 : Int64), .long (4 : Int64)]) (rest := []) (L := [some (.long (x1).toInt64), none, some (.long (0 : Int64)), none, some (.long (4 : Int64)), none]) (d' := 1) rfl rfl (Nat.le_of_ble_eq_true rfl) (Nat.le_of_ble_eq_true rfl) rfl (Nat.le_of_ble_eq_true rfl) rfl rfl (zyC179 hp1) ?_
  show zyR _ _ _ _ [some (.ref (43 + 3)), some (.int x1)] [.int p1.1] _ _
  refine zy_24_0 rfl (fun b3 => (show zyR _ _ _ _ [some (.ref (43 + 3)), some (.int x1)] [] _ _ from ?_)) (fun b3 => (show zyR _ _ _ _ [some (.ref (43 + 3)), some (.int x1)] [] _ _ from ?_))
  · replace h := zy_ifp h b3
    refine zy_3 rfl rfl (show zyR _ _ _ _ [some (.ref (43 + 3)), some (.int x1)] [.int (-1 : Int32)] _ _ from ?_)
    obtain ⟨rfl, rfl⟩ := zy_pi h
    exact zy_4 rfl ⟨rfl, rfl⟩
  · replace h := zy_ifn h b3
    refine zy_0 rfl rfl (show zyR _ _ _ _ [some (.ref (43 + 3)), some (.int x1)] [.ref (43 + 3)] _ _ from ?_)
    refine zy_1r (c := 43) rfl rfl rfl (show zyR _ _ _ _ [some (.ref (43 + 3)), some (.int x1)] [.ref (54 + 3)] _ _ from ?_)
    refine zy_2 rfl rfl (show zyR _ _ _ _ [some (.ref (43 + 3)), some (.int x1)] [.int x1, .ref (54 + 3)] _ _ from ?_)
    obtain ⟨c2, h⟩ := zy_if h
    refine zy_26 (c := 54) rfl rfl c2 (show zyR _ _ _ _ [some (.ref (43 + 3)), some (.int x1)] [.int (p1.2.1 54 (x1).toNatClampNeg)] _ _ from ?_)
    refine zy_6 rfl (show zyR _ _ _ _ [some (.ref (43 + 3)), some (.int x1)] [.int (p1.2.1 54 (x1).toNatClampNeg)] _ _ from ?_)
    obtain ⟨rfl, rfl⟩ := zy_pi h
    exact zy_4 rfl ⟨rfl, rfl⟩
/-! NineOpinions$Bodies.isUnder(II)Z -/
noncomputable def zyF173_34   (x1 : Int32) (x2 : Int32) (s : zy_S) : Option (Int32 × zy_S) :=
if x2 ≠ x1 then
some ((0 : Int32), s)
else
some ((1 : Int32), s)
theorem zyC173_34 {X : zx_X}     {x1 : Int32} {x2 : Int32} {s : zy_S} {r : Int32} {s' : zy_S}  (h : zyF173_34 x1 x2 s = some (r, s')) : zyR X 2 173 34 [none, some (.int x1), some (.int x2), none] [] s (zyE (some (.int r)) s') := by
  unfold zyF173_34 at h
  refine zy_2 rfl rfl (show zyR _ _ _ _ [none, some (.int x1), some (.int x2), none] [.int x2] _ _ from ?_)
  refine zy_2 rfl rfl (show zyR _ _ _ _ [none, some (.int x1), some (.int x2), none] [.int x1, .int x2] _ _ from ?_)
  refine zy_25_1 rfl (fun b1 => (show zyR _ _ _ _ [none, some (.int x1), some (.int x2), none] [] _ _ from ?_)) (fun b1 => (show zyR _ _ _ _ [none, some (.int x1), some (.int x2), none] [] _ _ from ?_))
  · replace h := zy_ifp h b1
    refine zy_3 rfl rfl (show zyR _ _ _ _ [none, some (.int x1), some (.int x2), none] [.int (0 : Int32)] _ _ from ?_)
    cases h
    exact zy_4b rfl ⟨rfl, rfl⟩ (Or.inl rfl)
  · replace h := zy_ifn h b1
    refine zy_3 rfl rfl (show zyR _ _ _ _ [none, some (.int x1), some (.int x2), none] [.int (1 : Int32)] _ _ from ?_)
    refine zy_6 rfl (show zyR _ _ _ _ [none, some (.int x1), some (.int x2), none] [.int (1 : Int32)] _ _ from ?_)
    cases h
    exact zy_4b rfl ⟨rfl, rfl⟩ (Or.inr rfl)
noncomputable def zyF173_4b  (k4 : Int32 → Int32 → Int32 → zy_S → Option (Int32 × zy_S)) (x1 : Int32) (x2 : Int32) (x3 : Int32) (s : zy_S) : Option (Int32 × zy_S) :=
if (8 : Int32) ≤ x3 then
zyF173_34 x1 x2 s
else
(zyF149 x2 s).bind fun p2 =>
if p2.1 = 0 then
zyF173_34 x1 x2 p2.2
else
if x2 = x1 then
zyF173_34 x1 x2 p2.2
else
if zy_in x2 8 then
k4 x1 (zs_abv.getD (x2).toNatClampNeg 0) (x3 + (1 : Int32)) p2.2
else none
theorem zyC173_4b {X : zx_X}  {k4 : Int32 → Int32 → Int32 → zy_S → Option (Int32 × zy_S)}  (hk4 : ∀ (x1 : Int32) (x2 : Int32) (x3 : Int32) (s : zy_S) (r : Int32) (s' : zy_S), k4 x1 x2 x3 s = some (r, s') → zyR X 2 173 4 [none, some (.int x1), some (.int x2), some (.int x3)] [] s (zyE (some (.int r)) s')) {x1 : Int32} {x2 : Int32} {x3 : Int32} {s : zy_S} {r : Int32} {s' : zy_S}  (h : zyF173_4b k4 x1 x2 x3 s = some (r, s')) : zyR X 2 173 4 [none, some (.int x1), some (.int x2), some (.int x3)] [] s (zyE (some (.int r)) s') := by
  unfold zyF173_4b at h
  refine zy_2 rfl rfl (show zyR _ _ _ _ [none, some (.int x1), some (.int x2), some (.int x3)] [.int x3] _ _ from ?_)
  refine zy_3 rfl rfl (show zyR _ _ _ _ [none, some (.int x1), some (.int x2), some (.int x3)] [.int (8 : Int32), .int x3] _ _ from ?_)
  refine zy_25_3 rfl (fun b6 => (show zyR _ _ _ _ [none, some (.int x1), some (.int x2), some (.int x3)] [] _ _ from ?_)) (fun b6 => (show zyR _ _ _ _ [none, some (.int x1), some (.int x2), some (.int x3)] [] _ _ from ?_))
  · replace h := zy_ifp h b6
    exact zy_sub (show zy_le [none, some (.int x1), some (.int x2), none] [none, some (.int x1), some (.int x2), some (.int x3)] from ⟨rfl, ⟨rfl, trivial⟩⟩) (zyC173_34 h)
  · replace h := zy_ifn h b6
    refine zy_2 rfl rfl (show zyR _ _ _ _ [none, some (.int x1), some (.int x2), some (.int x3)] [.int x2] _ _ from ?_)
    obtain ⟨p2, hp2, h⟩ := zy_bind h
    refine zy_60 (as := [.int x2]) (rest := []) (L := [some (.int x2)]) (d' := 1) rfl rfl (Nat.le_of_ble_eq_true rfl) (Nat.le_of_ble_eq_true rfl) rfl (Nat.le_of_ble_eq_true rfl) rfl rfl (zyC149 hp2) ?_
    show zyR _ _ _ _ [none, some (.int x1), some (.int x2), some (.int x3)] [.int p2.1] _ _
    refine zy_24_0 rfl (fun b5 => (show zyR _ _ _ _ [none, some (.int x1), some (.int x2), some (.int x3)] [] _ _ from ?_)) (fun b5 => (show zyR _ _ _ _ [none, some (.int x1), some (.int x2), some (.int x3)] [] _ _ from ?_))
    · replace h := zy_ifp h b5
      exact zy_sub (show zy_le [none, some (.int x1), some (.int x2), none] [none, some (.int x1), some (.int x2), some (.int x3)] from ⟨rfl, ⟨rfl, trivial⟩⟩) (zyC173_34 h)
    · replace h := zy_ifn h b5
      refine zy_2 rfl rfl (show zyR _ _ _ _ [none, some (.int x1), some (.int x2), some (.int x3)] [.int x2] _ _ from ?_)
      refine zy_2 rfl rfl (show zyR _ _ _ _ [none, some (.int x1), some (.int x2), some (.int x3)] [.int x1, .int x2] _ _ from ?_)
      refine zy_25_0 rfl (fun b4 => (show zyR _ _ _ _ [none, some (.int x1), some (.int x2), some (.int x3)] [] _ _ from ?_)) (fun b4 => (show zyR _ _ _ _ [none, some (.int x1), some (.int x2), some (.int x3)] [] _ _ from ?_))
      · replace h := zy_ifp h b4
        exact zy_sub (show zy_le [none, some (.int x1), some (.int x2), none] [none, some (.int x1), some (.int x2), some (.int x3)] from ⟨rfl, ⟨rfl, trivial⟩⟩) (zyC173_34 h)
      · replace h := zy_ifn h b4
        refine zy_54 rfl rfl (show zyR _ _ _ _ [none, some (.int x1), some (.int x2), some (.int x3)] [.ref 1] _ _ from ?_)
        refine zy_2 rfl rfl (show zyR _ _ _ _ [none, some (.int x1), some (.int x2), some (.int x3)] [.int x2, .ref 1] _ _ from ?_)
        obtain ⟨c3, h⟩ := zy_if h
        refine zy_26a rfl c3 (show zyR _ _ _ _ [none, some (.int x1), some (.int x2), some (.int x3)] [.int (zs_abv.getD (x2).toNatClampNeg 0)] _ _ from ?_)
        refine zy_23 rfl rfl (show zyR _ _ _ _ [none, some (.int x1), some (.int (zs_abv.getD (x2).toNatClampNeg 0)), some (.int x3)] [] _ _ from ?_)
        refine zy_22 rfl rfl rfl rfl (show zyR _ _ _ _ [none, some (.int x1), some (.int (zs_abv.getD (x2).toNatClampNeg 0)), some (.int (x3 + (1 : Int32)))] [] _ _ from ?_)
        refine zy_6 rfl (show zyR _ _ _ _ [none, some (.int x1), some (.int (zs_abv.getD (x2).toNatClampNeg 0)), some (.int (x3 + (1 : Int32)))] [] _ _ from ?_)
        exact zy_sub (show zy_le [none, some (.int x1), some (.int (zs_abv.getD (x2).toNatClampNeg 0)), some (.int (x3 + (1 : Int32)))] [none, some (.int x1), some (.int (zs_abv.getD (x2).toNatClampNeg 0)), some (.int (x3 + (1 : Int32)))] from ⟨rfl, ⟨rfl, ⟨rfl, trivial⟩⟩⟩) (hk4 x1 (zs_abv.getD (x2).toNatClampNeg 0) (x3 + (1 : Int32)) p2.2 _ _ h)
noncomputable def zyF173_4   (n : Nat) : Int32 → Int32 → Int32 → zy_S → Option (Int32 × zy_S) := Nat.rec (fun _ _ _ _ => none) (fun _ k4 => zyF173_4b k4) n
theorem zyC173_4 {X : zx_X}     : ∀ (n : Nat) (x1 : Int32) (x2 : Int32) (x3 : Int32) (s : zy_S) (r : Int32) (s' : zy_S), zyF173_4 n x1 x2 x3 s = some (r, s') → zyR X 2 173 4 [none, some (.int x1), some (.int x2), some (.int x3)] [] s (zyE (some (.int r)) s')
  | 0, _, _, _ => by
    intro s r s'  h
    have h : (none : Option (Int32 × zy_S)) = some (r, s') := h
    cases h
  | n + 1, x1, x2, x3 => by
    intro s r s'  h
    exact zyC173_4b (k4 := zyF173_4 n) (fun x1 x2 x3 s r s'  h => zyC173_4  n x1 x2 x3 s r s'  h) h
noncomputable def zyF173   (x0 : Int32) (x1 : Int32) (s : zy_S) : Option (Int32 × zy_S) :=
zyF173_4 zy_fu x1 x0 (0 : Int32) s
theorem zyC173 {X : zx_X}     {x0 : Int32} {x1 : Int32} {s : zy_S} {r : Int32} {s' : zy_S}  (h : zyF173 x0 x1 s = some (r, s')) : zyR X 2 173 0 [some (.int x0), some (.int x1), none, none] [] s (zyE (some (.int r)) s') := by
  unfold zyF173 at h
  refine zy_2 rfl rfl (show zyR _ _ _ _ [some (.int x0), some (.int x1), none, none] [.int x0] _ _ from ?_)
  refine zy_23 rfl rfl (show zyR _ _ _ _ [some (.int x0), some (.int x1), some (.int x0), none] [] _ _ from ?_)
  refine zy_3 rfl rfl (show zyR _ _ _ _ [some (.int x0), some (.int x1), some (.int x0), none] [.int (0 : Int32)] _ _ from ?_)
  refine zy_23 rfl rfl (show zyR _ _ _ _ [some (.int x0), some (.int x1), some (.int x0), some (.int (0 : Int32))] [] _ _ from ?_)
  exact zy_sub (show zy_le [none, some (.int x1), some (.int x0), some (.int (0 : Int32))] [some (.int x0), some (.int x1), some (.int x0), some (.int (0 : Int32))] from ⟨rfl, ⟨rfl, ⟨rfl, trivial⟩⟩⟩) (zyC173_4 zy_fu x1 x0 (0 : Int32) s _ _ h)
/-! NineOpinions.taken(II)I -/
noncomputable def zyF172   (x1 : Int32) (x2 : Int32) (s : zy_S) : Option (Int32 × zy_S) :=
(zyF18 x1 s).bind fun p1 =>
if p1.1 = 0 then
some ((-1 : Int32), p1.2)
else
(zyF149 x2 p1.2).bind fun p2 =>
if p2.1 ≠ 0 then
if zy_in x1 6 then
if zy_Wb p2.2 then
(zyF19 (zy_sh (x1).toNatClampNeg) p2.2).bind fun p5 =>
if p5.1 = 0 then
if zy_in x1 6 then
if zy_Wb p5.2 then
(zyF154 (p5.2.1 (zy_sh (x1).toNatClampNeg) 1) p5.2).bind fun p8 =>
if p8.1 = 0 then
some ((-12 : Int32), p8.2)
else
if zy_in (p5.2.1 (zy_sh (x1).toNatClampNeg) 1) 50 then
(zyF173 (p8.2.1 28 ((p5.2.1 (zy_sh (x1).toNatClampNeg) 1)).toNatClampNeg) x2 p8.2).bind fun p10 =>
if p10.1 = 0 then
some ((-12 : Int32), p10.2)
else
if zy_in (p5.2.1 (zy_sh (x1).toNatClampNeg) 1) 50 then
some ((p10.2.1 28 ((p5.2.1 (zy_sh (x1).toNatClampNeg) 1)).toNatClampNeg), p10.2)
else none
else none
else none
else none
else
some ((-11 : Int32), p5.2)
else none
else none
else
some ((-1 : Int32), p2.2)
theorem zyC172 {X : zx_X}     {x1 : Int32} {x2 : Int32} {s : zy_S} {r : Int32} {s' : zy_S}  (h : zyF172 x1 x2 s = some (r, s')) : zyR X 3 172 0 [some (.ref (0 + 3)), some (.int x1), some (.int x2), none] [] s (zyE (some (.int r)) s') := by
  unfold zyF172 at h
  refine zy_2 rfl rfl (show zyR _ _ _ _ [some (.ref (0 + 3)), some (.int x1), some (.int x2), none] [.int x1] _ _ from ?_)
  obtain ⟨p1, hp1, h⟩ := zy_bind h
  refine zy_60 (as := [.int x1]) (rest := []) (L := [some (.int x1)]) (d' := 1) rfl rfl (Nat.le_of_ble_eq_true rfl) (Nat.le_of_ble_eq_true rfl) rfl (Nat.le_of_ble_eq_true rfl) rfl rfl (zyC18 hp1) ?_
  show zyR _ _ _ _ [some (.ref (0 + 3)), some (.int x1), some (.int x2), none] [.int p1.1] _ _
  refine zy_24_0 rfl (fun b16 => (show zyR _ _ _ _ [some (.ref (0 + 3)), some (.int x1), some (.int x2), none] [] _ _ from ?_)) (fun b16 => (show zyR _ _ _ _ [some (.ref (0 + 3)), some (.int x1), some (.int x2), none] [] _ _ from ?_))
  · replace h := zy_ifp h b16
    refine zy_3 rfl rfl (show zyR _ _ _ _ [some (.ref (0 + 3)), some (.int x1), some (.int x2), none] [.int (-1 : Int32)] _ _ from ?_)
    obtain ⟨rfl, rfl⟩ := zy_pi h
    exact zy_4 rfl ⟨rfl, rfl⟩
  · replace h := zy_ifn h b16
    refine zy_2 rfl rfl (show zyR _ _ _ _ [some (.ref (0 + 3)), some (.int x1), some (.int x2), none] [.int x2] _ _ from ?_)
    obtain ⟨p2, hp2, h⟩ := zy_bind h
    refine zy_60 (as := [.int x2]) (rest := []) (L := [some (.int x2)]) (d' := 1) rfl rfl (Nat.le_of_ble_eq_true rfl) (Nat.le_of_ble_eq_true rfl) rfl (Nat.le_of_ble_eq_true rfl) rfl rfl (zyC149 hp2) ?_
    show zyR _ _ _ _ [some (.ref (0 + 3)), some (.int x1), some (.int x2), none] [.int p2.1] _ _
    refine zy_24_1 rfl (fun b15 => (show zyR _ _ _ _ [some (.ref (0 + 3)), some (.int x1), some (.int x2), none] [] _ _ from ?_)) (fun b15 => (show zyR _ _ _ _ [some (.ref (0 + 3)), some (.int x1), some (.int x2), none] [] _ _ from ?_))
    · replace h := zy_ifp h b15
      refine zy_0 rfl rfl (show zyR _ _ _ _ [some (.ref (0 + 3)), some (.int x1), some (.int x2), none] [.ref (0 + 3)] _ _ from ?_)
      refine zy_1r (c := 0) rfl rfl rfl (show zyR _ _ _ _ [some (.ref (0 + 3)), some (.int x1), some (.int x2), none] [.ref (30 + 3)] _ _ from ?_)
      refine zy_2 rfl rfl (show zyR _ _ _ _ [some (.ref (0 + 3)), some (.int x1), some (.int x2), none] [.int x1, .ref (30 + 3)] _ _ from ?_)
      obtain ⟨c3, h⟩ := zy_if h
      obtain ⟨c4, h⟩ := zy_if h
      refine zy_28 rfl (zy_Wb_g c4) c3 (show zyR _ _ _ _ [some (.ref (0 + 3)), some (.int x1), some (.int x2), none] [.ref ((zy_sh (x1).toNatClampNeg) + 3)] _ _ from ?_)
      obtain ⟨p5, hp5, h⟩ := zy_bind h
      refine zy_5 (c := (zy_sh (x1).toNatClampNeg)) (as := []) (rest := []) (L := [some (.ref ((zy_sh (x1).toNatClampNeg) + 3))]) (d' := 2) rfl rfl (zy_isSh_of (zy_in_lt c3)).1 (Nat.le_of_ble_eq_true rfl) (Nat.le_of_ble_eq_true rfl) rfl (Nat.le_of_ble_eq_true rfl) rfl rfl (zyC19 (zy_isSh_of (zy_in_lt c3)) hp5) ?_
      show zyR _ _ _ _ [some (.ref (0 + 3)), some (.int x1), some (.int x2), none] [.int p5.1] _ _
      refine zy_24_0 rfl (fun b14 => (show zyR _ _ _ _ [some (.ref (0 + 3)), some (.int x1), some (.int x2), none] [] _ _ from ?_)) (fun b14 => (show zyR _ _ _ _ [some (.ref (0 + 3)), some (.int x1), some (.int x2), none] [] _ _ from ?_))
      · replace h := zy_ifp h b14
        refine zy_0 rfl rfl (show zyR _ _ _ _ [some (.ref (0 + 3)), some (.int x1), some (.int x2), none] [.ref (0 + 3)] _ _ from ?_)
        refine zy_1r (c := 0) rfl rfl rfl (show zyR _ _ _ _ [some (.ref (0 + 3)), some (.int x1), some (.int x2), none] [.ref (30 + 3)] _ _ from ?_)
        refine zy_2 rfl rfl (show zyR _ _ _ _ [some (.ref (0 + 3)), some (.int x1), some (.int x2), none] [.int x1, .ref (30 + 3)] _ _ from ?_)
        obtain ⟨c6, h⟩ := zy_if h
        obtain ⟨c7, h⟩ := zy_if h
        refine zy_28 rfl (zy_Wb_g c7) c6 (show zyR _ _ _ _ [some (.ref (0 + 3)), some (.int x1), some (.int x2), none] [.ref ((zy_sh (x1).toNatClampNeg) + 3)] _ _ from ?_)
        refine zy_1 (c := (zy_sh (x1).toNatClampNeg)) rfl (zy_isSh_of (zy_in_lt c6)).1 rfl (show zyR _ _ _ _ [some (.ref (0 + 3)), some (.int x1), some (.int x2), none] [.int (p5.2.1 (zy_sh (x1).toNatClampNeg) 1)] _ _ from ?_)
        refine zy_23 rfl rfl (show zyR _ _ _ _ [some (.ref (0 + 3)), some (.int x1), some (.int x2), some (.int (p5.2.1 (zy_sh (x1).toNatClampNeg) 1))] [] _ _ from ?_)
        refine zy_0 rfl rfl (show zyR _ _ _ _ [some (.ref (0 + 3)), some (.int x1), some (.int x2), some (.int (p5.2.1 (zy_sh (x1).toNatClampNeg) 1))] [.ref (0 + 3)] _ _ from ?_)
        refine zy_1r (c := 0) rfl rfl rfl (show zyR _ _ _ _ [some (.ref (0 + 3)), some (.int x1), some (.int x2), some (.int (p5.2.1 (zy_sh (x1).toNatClampNeg) 1))] [.ref (27 + 3)] _ _ from ?_)
        refine zy_2 rfl rfl (show zyR _ _ _ _ [some (.ref (0 + 3)), some (.int x1), some (.int x2), some (.int (p5.2.1 (zy_sh (x1).toNatClampNeg) 1))] [.int (p5.2.1 (zy_sh (x1).toNatClampNeg) 1), .ref (27 + 3)] _ _ from ?_)
        obtain ⟨p8, hp8, h⟩ := zy_bind h
        refine zy_5 (c := 27) (as := [.int (p5.2.1 (zy_sh (x1).toNatClampNeg) 1)]) (rest := []) (L := [some (.ref (27 + 3)), some (.int (p5.2.1 (zy_sh (x1).toNatClampNeg) 1))]) (d' := 1) rfl rfl rfl (Nat.le_of_ble_eq_true rfl) (Nat.le_of_ble_eq_true rfl) rfl (Nat.le_of_ble_eq_true rfl) rfl rfl (zyC154 hp8) ?_
        show zyR _ _ _ _ [some (.ref (0 + 3)), some (.int x1), some (.int x2), some (.int (p5.2.1 (zy_sh (x1).toNatClampNeg) 1))] [.int p8.1] _ _
        refine zy_24_0 rfl (fun b13 => (show zyR _ _ _ _ [some (.ref (0 + 3)), some (.int x1), some (.int x2), some (.int (p5.2.1 (zy_sh (x1).toNatClampNeg) 1))] [] _ _ from ?_)) (fun b13 => (show zyR _ _ _ _ [some (.ref (0 + 3)), some (.int x1), some (.int x2), some (.int (p5.2.1 (zy_sh (x1).toNatClampNeg) 1))] [] _ _ from ?_))
        · replace h := zy_ifp h b13
          refine zy_3 rfl rfl (show zyR _ _ _ _ [some (.ref (0 + 3)), some (.int x1), some (.int x2), some (.int (p5.2.1 (zy_sh (x1).toNatClampNeg) 1))] [.int (-12 : Int32)] _ _ from ?_)
          obtain ⟨rfl, rfl⟩ := zy_pi h
          exact zy_4 rfl ⟨rfl, rfl⟩
        · replace h := zy_ifn h b13
          refine zy_0 rfl rfl (show zyR _ _ _ _ [some (.ref (0 + 3)), some (.int x1), some (.int x2), some (.int (p5.2.1 (zy_sh (x1).toNatClampNeg) 1))] [.ref (0 + 3)] _ _ from ?_)
          refine zy_1r (c := 0) rfl rfl rfl (show zyR _ _ _ _ [some (.ref (0 + 3)), some (.int x1), some (.int x2), some (.int (p5.2.1 (zy_sh (x1).toNatClampNeg) 1))] [.ref (27 + 3)] _ _ from ?_)
          refine zy_1r (c := 27) rfl rfl rfl (show zyR _ _ _ _ [some (.ref (0 + 3)), some (.int x1), some (.int x2), some (.int (p5.2.1 (zy_sh (x1).toNatClampNeg) 1))] [.ref (28 + 3)] _ _ from ?_)
          refine zy_2 rfl rfl (show zyR _ _ _ _ [some (.ref (0 + 3)), some (.int x1), some (.int x2), some (.int (p5.2.1 (zy_sh (x1).toNatClampNeg) 1))] [.int (p5.2.1 (zy_sh (x1).toNatClampNeg) 1), .ref (28 + 3)] _ _ from ?_)
          obtain ⟨c9, h⟩ := zy_if h
          refine zy_26 (c := 28) rfl rfl c9 (show zyR _ _ _ _ [some (.ref (0 + 3)), some (.int x1), some (.int x2), some (.int (p5.2.1 (zy_sh (x1).toNatClampNeg) 1))] [.int (p8.2.1 28 ((p5.2.1 (zy_sh (x1).toNatClampNeg) 1)).toNatClampNeg)] _ _ from ?_)
          refine zy_2 rfl rfl (show zyR _ _ _ _ [some (.ref (0 + 3)), some (.int x1), some (.int x2), some (.int (p5.2.1 (zy_sh (x1).toNatClampNeg) 1))] [.int x2, .int (p8.2.1 28 ((p5.2.1 (zy_sh (x1).toNatClampNeg) 1)).toNatClampNeg)] _ _ from ?_)
          obtain ⟨p10, hp10, h⟩ := zy_bind h
          refine zy_60 (as := [.int (p8.2.1 28 ((p5.2.1 (zy_sh (x1).toNatClampNeg) 1)).toNatClampNeg), .int x2]) (rest := []) (L := [some (.int (p8.2.1 28 ((p5.2.1 (zy_sh (x1).toNatClampNeg) 1)).toNatClampNeg)), some (.int x2), none, none]) (d' := 2) rfl rfl (Nat.le_of_ble_eq_true rfl) (Nat.le_of_ble_eq_true rfl) rfl (Nat.le_of_ble_eq_true rfl) rfl rfl (zyC173 hp10) ?_
          show zyR _ _ _ _ [some (.ref (0 + 3)), some (.int x1), some (.int x2), some (.int (p5.2.1 (zy_sh (x1).toNatClampNeg) 1))] [.int p10.1] _ _
          refine zy_24_0 rfl (fun b12 => (show zyR _ _ _ _ [some (.ref (0 + 3)), some (.int x1), some (.int x2), some (.int (p5.2.1 (zy_sh (x1).toNatClampNeg) 1))] [] _ _ from ?_)) (fun b12 => (show zyR _ _ _ _ [some (.ref (0 + 3)), some (.int x1), some (.int x2), some (.int (p5.2.1 (zy_sh (x1).toNatClampNeg) 1))] [] _ _ from ?_))
          · replace h := zy_ifp h b12
            refine zy_3 rfl rfl (show zyR _ _ _ _ [some (.ref (0 + 3)), some (.int x1), some (.int x2), some (.int (p5.2.1 (zy_sh (x1).toNatClampNeg) 1))] [.int (-12 : Int32)] _ _ from ?_)
            obtain ⟨rfl, rfl⟩ := zy_pi h
            exact zy_4 rfl ⟨rfl, rfl⟩
          · replace h := zy_ifn h b12
            refine zy_0 rfl rfl (show zyR _ _ _ _ [some (.ref (0 + 3)), some (.int x1), some (.int x2), some (.int (p5.2.1 (zy_sh (x1).toNatClampNeg) 1))] [.ref (0 + 3)] _ _ from ?_)
            refine zy_1r (c := 0) rfl rfl rfl (show zyR _ _ _ _ [some (.ref (0 + 3)), some (.int x1), some (.int x2), some (.int (p5.2.1 (zy_sh (x1).toNatClampNeg) 1))] [.ref (27 + 3)] _ _ from ?_)
            refine zy_1r (c := 27) rfl rfl rfl (show zyR _ _ _ _ [some (.ref (0 + 3)), some (.int x1), some (.int x2), some (.int (p5.2.1 (zy_sh (x1).toNatClampNeg) 1))] [.ref (28 + 3)] _ _ from ?_)
            refine zy_2 rfl rfl (show zyR _ _ _ _ [some (.ref (0 + 3)), some (.int x1), some (.int x2), some (.int (p5.2.1 (zy_sh (x1).toNatClampNeg) 1))] [.int (p5.2.1 (zy_sh (x1).toNatClampNeg) 1), .ref (28 + 3)] _ _ from ?_)
            obtain ⟨c11, h⟩ := zy_if h
            refine zy_26 (c := 28) rfl rfl c11 (show zyR _ _ _ _ [some (.ref (0 + 3)), some (.int x1), some (.int x2), some (.int (p5.2.1 (zy_sh (x1).toNatClampNeg) 1))] [.int (p10.2.1 28 ((p5.2.1 (zy_sh (x1).toNatClampNeg) 1)).toNatClampNeg)] _ _ from ?_)
            refine zy_6 rfl (show zyR _ _ _ _ [some (.ref (0 + 3)), some (.int x1), some (.int x2), some (.int (p5.2.1 (zy_sh (x1).toNatClampNeg) 1))] [.int (p10.2.1 28 ((p5.2.1 (zy_sh (x1).toNatClampNeg) 1)).toNatClampNeg)] _ _ from ?_)
            obtain ⟨rfl, rfl⟩ := zy_pi h
            exact zy_4 rfl ⟨rfl, rfl⟩
      · replace h := zy_ifn h b14
        refine zy_3 rfl rfl (show zyR _ _ _ _ [some (.ref (0 + 3)), some (.int x1), some (.int x2), none] [.int (-11 : Int32)] _ _ from ?_)
        obtain ⟨rfl, rfl⟩ := zy_pi h
        exact zy_4 rfl ⟨rfl, rfl⟩
    · replace h := zy_ifn h b15
      refine zy_3 rfl rfl (show zyR _ _ _ _ [some (.ref (0 + 3)), some (.int x1), some (.int x2), none] [.int (-1 : Int32)] _ _ from ?_)
      obtain ⟨rfl, rfl⟩ := zy_pi h
      exact zy_4 rfl ⟨rfl, rfl⟩
/-! NineOpinionsModel.kindOf(I)I -/
noncomputable def zyF264   (x1 : Int32) (s : zy_S) : Option (Int32 × zy_S) :=
if zy_in x1 50 then
some ((s.1 58 (x1).toNatClampNeg), s)
else none
theorem zyC264 {X : zx_X}     {x1 : Int32} {s : zy_S} {r : Int32} {s' : zy_S}  (h : zyF264 x1 s = some (r, s')) : zyR X 1 264 0 [some (.ref (43 + 3)), some (.int x1)] [] s (zyE (some (.int r)) s') := by
  unfold zyF264 at h
  refine zy_0 rfl rfl (show zyR _ _ _ _ [some (.ref (43 + 3)), some (.int x1)] [.ref (43 + 3)] _ _ from ?_)
  refine zy_1r (c := 43) rfl rfl rfl (show zyR _ _ _ _ [some (.ref (43 + 3)), some (.int x1)] [.ref (58 + 3)] _ _ from ?_)
  refine zy_2 rfl rfl (show zyR _ _ _ _ [some (.ref (43 + 3)), some (.int x1)] [.int x1, .ref (58 + 3)] _ _ from ?_)
  obtain ⟨c1, h⟩ := zy_if h
  refine zy_26 (c := 58) rfl rfl c1 (show zyR _ _ _ _ [some (.ref (43 + 3)), some (.int x1)] [.int (s.1 58 (x1).toNatClampNeg)] _ _ from ?_)
  obtain ⟨rfl, rfl⟩ := zy_pi h
  exact zy_4 rfl ⟨rfl, rfl⟩
/-! NineOpinionsModel.above(I)I -/
noncomputable def zyF265   (x0 : Int32) (s : zy_S) : Option (Int32 × zy_S) :=
if x0 ≠ (3 : Int32) then
if x0 ≠ (4 : Int32) then
if x0 ≠ (5 : Int32) then
if x0 ≠ (7 : Int32) then
some ((0 : Int32), s)
else
some ((4 : Int32), s)
else
some ((3 : Int32), s)
else
some ((1 : Int32), s)
else
some ((2 : Int32), s)
theorem zyC265 {X : zx_X}     {x0 : Int32} {s : zy_S} {r : Int32} {s' : zy_S}  (h : zyF265 x0 s = some (r, s')) : zyR X 1 265 0 [some (.int x0)] [] s (zyE (some (.int r)) s') := by
  unfold zyF265 at h
  refine zy_2 rfl rfl (show zyR _ _ _ _ [some (.int x0)] [.int x0] _ _ from ?_)
  refine zy_3 rfl rfl (show zyR _ _ _ _ [some (.int x0)] [.int (3 : Int32), .int x0] _ _ from ?_)
  refine zy_25_1 rfl (fun b4 => (show zyR _ _ _ _ [some (.int x0)] [] _ _ from ?_)) (fun b4 => (show zyR _ _ _ _ [some (.int x0)] [] _ _ from ?_))
  · replace h := zy_ifp h b4
    refine zy_2 rfl rfl (show zyR _ _ _ _ [some (.int x0)] [.int x0] _ _ from ?_)
    refine zy_3 rfl rfl (show zyR _ _ _ _ [some (.int x0)] [.int (4 : Int32), .int x0] _ _ from ?_)
    refine zy_25_1 rfl (fun b3 => (show zyR _ _ _ _ [some (.int x0)] [] _ _ from ?_)) (fun b3 => (show zyR _ _ _ _ [some (.int x0)] [] _ _ from ?_))
    · replace h := zy_ifp h b3
      refine zy_2 rfl rfl (show zyR _ _ _ _ [some (.int x0)] [.int x0] _ _ from ?_)
      refine zy_3 rfl rfl (show zyR _ _ _ _ [some (.int x0)] [.int (5 : Int32), .int x0] _ _ from ?_)
      refine zy_25_1 rfl (fun b2 => (show zyR _ _ _ _ [some (.int x0)] [] _ _ from ?_)) (fun b2 => (show zyR _ _ _ _ [some (.int x0)] [] _ _ from ?_))
      · replace h := zy_ifp h b2
        refine zy_2 rfl rfl (show zyR _ _ _ _ [some (.int x0)] [.int x0] _ _ from ?_)
        refine zy_3 rfl rfl (show zyR _ _ _ _ [some (.int x0)] [.int (7 : Int32), .int x0] _ _ from ?_)
        refine zy_25_1 rfl (fun b1 => (show zyR _ _ _ _ [some (.int x0)] [] _ _ from ?_)) (fun b1 => (show zyR _ _ _ _ [some (.int x0)] [] _ _ from ?_))
        · replace h := zy_ifp h b1
          refine zy_3 rfl rfl (show zyR _ _ _ _ [some (.int x0)] [.int (0 : Int32)] _ _ from ?_)
          obtain ⟨rfl, rfl⟩ := zy_pi h
          exact zy_4 rfl ⟨rfl, rfl⟩
        · replace h := zy_ifn h b1
          refine zy_3 rfl rfl (show zyR _ _ _ _ [some (.int x0)] [.int (4 : Int32)] _ _ from ?_)
          refine zy_6 rfl (show zyR _ _ _ _ [some (.int x0)] [.int (4 : Int32)] _ _ from ?_)
          obtain ⟨rfl, rfl⟩ := zy_pi h
          exact zy_4 rfl ⟨rfl, rfl⟩
      · replace h := zy_ifn h b2
        refine zy_3 rfl rfl (show zyR _ _ _ _ [some (.int x0)] [.int (3 : Int32)] _ _ from ?_)
        refine zy_6 rfl (show zyR _ _ _ _ [some (.int x0)] [.int (3 : Int32)] _ _ from ?_)
        obtain ⟨rfl, rfl⟩ := zy_pi h
        exact zy_4 rfl ⟨rfl, rfl⟩
    · replace h := zy_ifn h b3
      refine zy_3 rfl rfl (show zyR _ _ _ _ [some (.int x0)] [.int (1 : Int32)] _ _ from ?_)
      refine zy_6 rfl (show zyR _ _ _ _ [some (.int x0)] [.int (1 : Int32)] _ _ from ?_)
      obtain ⟨rfl, rfl⟩ := zy_pi h
      exact zy_4 rfl ⟨rfl, rfl⟩
  · replace h := zy_ifn h b4
    refine zy_3 rfl rfl (show zyR _ _ _ _ [some (.int x0)] [.int (2 : Int32)] _ _ from ?_)
    refine zy_6 rfl (show zyR _ _ _ _ [some (.int x0)] [.int (2 : Int32)] _ _ from ?_)
    obtain ⟨rfl, rfl⟩ := zy_pi h
    exact zy_4 rfl ⟨rfl, rfl⟩
/-! NineOpinionsModel.taken(II)I -/
noncomputable def zyF263_75   (x1 : Int32) (x2 : Int32) (x3 : Int32) (s : zy_S) : Option (Int32 × zy_S) :=
if x3 ≠ x2 then
some ((-12 : Int32), s)
else
if zy_in x1 6 then
(zyF264 (s.1 60 (x1).toNatClampNeg) s).bind fun p2 =>
some (p2.1, p2.2)
else none
theorem zyC263_75 {X : zx_X}     {x1 : Int32} {x2 : Int32} {x3 : Int32} {s : zy_S} {r : Int32} {s' : zy_S}  (h : zyF263_75 x1 x2 x3 s = some (r, s')) : zyR X 3 263 75 [some (.ref (43 + 3)), some (.int x1), some (.int x2), some (.int x3)] [] s (zyE (some (.int r)) s') := by
  unfold zyF263_75 at h
  refine zy_2 rfl rfl (show zyR _ _ _ _ [some (.ref (43 + 3)), some (.int x1), some (.int x2), some (.int x3)] [.int x3] _ _ from ?_)
  refine zy_2 rfl rfl (show zyR _ _ _ _ [some (.ref (43 + 3)), some (.int x1), some (.int x2), some (.int x3)] [.int x2, .int x3] _ _ from ?_)
  refine zy_25_1 rfl (fun b3 => (show zyR _ _ _ _ [some (.ref (43 + 3)), some (.int x1), some (.int x2), some (.int x3)] [] _ _ from ?_)) (fun b3 => (show zyR _ _ _ _ [some (.ref (43 + 3)), some (.int x1), some (.int x2), some (.int x3)] [] _ _ from ?_))
  · replace h := zy_ifp h b3
    refine zy_3 rfl rfl (show zyR _ _ _ _ [some (.ref (43 + 3)), some (.int x1), some (.int x2), some (.int x3)] [.int (-12 : Int32)] _ _ from ?_)
    obtain ⟨rfl, rfl⟩ := zy_pi h
    exact zy_4 rfl ⟨rfl, rfl⟩
  · replace h := zy_ifn h b3
    refine zy_0 rfl rfl (show zyR _ _ _ _ [some (.ref (43 + 3)), some (.int x1), some (.int x2), some (.int x3)] [.ref (43 + 3)] _ _ from ?_)
    refine zy_0 rfl rfl (show zyR _ _ _ _ [some (.ref (43 + 3)), some (.int x1), some (.int x2), some (.int x3)] [.ref (43 + 3), .ref (43 + 3)] _ _ from ?_)
    refine zy_1r (c := 43) rfl rfl rfl (show zyR _ _ _ _ [some (.ref (43 + 3)), some (.int x1), some (.int x2), some (.int x3)] [.ref (60 + 3), .ref (43 + 3)] _ _ from ?_)
    refine zy_2 rfl rfl (show zyR _ _ _ _ [some (.ref (43 + 3)), some (.int x1), some (.int x2), some (.int x3)] [.int x1, .ref (60 + 3), .ref (43 + 3)] _ _ from ?_)
    obtain ⟨c1, h⟩ := zy_if h
    refine zy_26 (c := 60) rfl rfl c1 (show zyR _ _ _ _ [some (.ref (43 + 3)), some (.int x1), some (.int x2), some (.int x3)] [.int (s.1 60 (x1).toNatClampNeg), .ref (43 + 3)] _ _ from ?_)
    obtain ⟨p2, hp2, h⟩ := zy_bind h
    refine zy_5 (c := 43) (as := [.int (s.1 60 (x1).toNatClampNeg)]) (rest := []) (L := [some (.ref (43 + 3)), some (.int (s.1 60 (x1).toNatClampNeg))]) (d' := 1) rfl rfl rfl (Nat.le_of_ble_eq_true rfl) (Nat.le_of_ble_eq_true rfl) rfl (Nat.le_of_ble_eq_true rfl) rfl rfl (zyC264 hp2) ?_
    show zyR _ _ _ _ [some (.ref (43 + 3)), some (.int x1), some (.int x2), some (.int x3)] [.int p2.1] _ _
    refine zy_6 rfl (show zyR _ _ _ _ [some (.ref (43 + 3)), some (.int x1), some (.int x2), some (.int x3)] [.int p2.1] _ _ from ?_)
    obtain ⟨rfl, rfl⟩ := zy_pi h
    exact zy_4 rfl ⟨rfl, rfl⟩
noncomputable def zyF263_58b  (k58 : Int32 → Int32 → Int32 → zy_S → Option (Int32 × zy_S)) (x1 : Int32) (x2 : Int32) (x3 : Int32) (s : zy_S) : Option (Int32 × zy_S) :=
if x3 = x2 then
zyF263_75 x1 x2 x3 s
else
if x3 ≤ 0 then
zyF263_75 x1 x2 x3 s
else
(zyF265 x3 s).bind fun p4 =>
k58 x1 x2 p4.1 p4.2
theorem zyC263_58b {X : zx_X}  {k58 : Int32 → Int32 → Int32 → zy_S → Option (Int32 × zy_S)}  (hk58 : ∀ (x1 : Int32) (x2 : Int32) (x3 : Int32) (s : zy_S) (r : Int32) (s' : zy_S), k58 x1 x2 x3 s = some (r, s') → zyR X 3 263 58 [some (.ref (43 + 3)), some (.int x1), some (.int x2), some (.int x3)] [] s (zyE (some (.int r)) s')) {x1 : Int32} {x2 : Int32} {x3 : Int32} {s : zy_S} {r : Int32} {s' : zy_S}  (h : zyF263_58b k58 x1 x2 x3 s = some (r, s')) : zyR X 3 263 58 [some (.ref (43 + 3)), some (.int x1), some (.int x2), some (.int x3)] [] s (zyE (some (.int r)) s') := by
  unfold zyF263_58b at h
  refine zy_2 rfl rfl (show zyR _ _ _ _ [some (.ref (43 + 3)), some (.int x1), some (.int x2), some (.int x3)] [.int x3] _ _ from ?_)
  refine zy_2 rfl rfl (show zyR _ _ _ _ [some (.ref (43 + 3)), some (.int x1), some (.int x2), some (.int x3)] [.int x2, .int x3] _ _ from ?_)
  refine zy_25_0 rfl (fun b6 => (show zyR _ _ _ _ [some (.ref (43 + 3)), some (.int x1), some (.int x2), some (.int x3)] [] _ _ from ?_)) (fun b6 => (show zyR _ _ _ _ [some (.ref (43 + 3)), some (.int x1), some (.int x2), some (.int x3)] [] _ _ from ?_))
  · replace h := zy_ifp h b6
    exact zy_sub (show zy_le [some (.ref (43 + 3)), some (.int x1), some (.int x2), some (.int x3)] [some (.ref (43 + 3)), some (.int x1), some (.int x2), some (.int x3)] from ⟨rfl, ⟨rfl, ⟨rfl, ⟨rfl, trivial⟩⟩⟩⟩) (zyC263_75 h)
  · replace h := zy_ifn h b6
    refine zy_2 rfl rfl (show zyR _ _ _ _ [some (.ref (43 + 3)), some (.int x1), some (.int x2), some (.int x3)] [.int x3] _ _ from ?_)
    refine zy_24_5 rfl (fun b5 => (show zyR _ _ _ _ [some (.ref (43 + 3)), some (.int x1), some (.int x2), some (.int x3)] [] _ _ from ?_)) (fun b5 => (show zyR _ _ _ _ [some (.ref (43 + 3)), some (.int x1), some (.int x2), some (.int x3)] [] _ _ from ?_))
    · replace h := zy_ifp h b5
      exact zy_sub (show zy_le [some (.ref (43 + 3)), some (.int x1), some (.int x2), some (.int x3)] [some (.ref (43 + 3)), some (.int x1), some (.int x2), some (.int x3)] from ⟨rfl, ⟨rfl, ⟨rfl, ⟨rfl, trivial⟩⟩⟩⟩) (zyC263_75 h)
    · replace h := zy_ifn h b5
      refine zy_2 rfl rfl (show zyR _ _ _ _ [some (.ref (43 + 3)), some (.int x1), some (.int x2), some (.int x3)] [.int x3] _ _ from ?_)
      obtain ⟨p4, hp4, h⟩ := zy_bind h
      refine zy_60 (as := [.int x3]) (rest := []) (L := [some (.int x3)]) (d' := 1) rfl rfl (Nat.le_of_ble_eq_true rfl) (Nat.le_of_ble_eq_true rfl) rfl (Nat.le_of_ble_eq_true rfl) rfl rfl (zyC265 hp4) ?_
      show zyR _ _ _ _ [some (.ref (43 + 3)), some (.int x1), some (.int x2), some (.int x3)] [.int p4.1] _ _
      refine zy_23 rfl rfl (show zyR _ _ _ _ [some (.ref (43 + 3)), some (.int x1), some (.int x2), some (.int p4.1)] [] _ _ from ?_)
      refine zy_6 rfl (show zyR _ _ _ _ [some (.ref (43 + 3)), some (.int x1), some (.int x2), some (.int p4.1)] [] _ _ from ?_)
      exact zy_sub (show zy_le [some (.ref (43 + 3)), some (.int x1), some (.int x2), some (.int p4.1)] [some (.ref (43 + 3)), some (.int x1), some (.int x2), some (.int p4.1)] from ⟨rfl, ⟨rfl, ⟨rfl, ⟨rfl, trivial⟩⟩⟩⟩) (hk58 x1 x2 p4.1 p4.2 _ _ h)
noncomputable def zyF263_58   (n : Nat) : Int32 → Int32 → Int32 → zy_S → Option (Int32 × zy_S) := Nat.rec (fun _ _ _ _ => none) (fun _ k58 => zyF263_58b k58) n
theorem zyC263_58 {X : zx_X}     : ∀ (n : Nat) (x1 : Int32) (x2 : Int32) (x3 : Int32) (s : zy_S) (r : Int32) (s' : zy_S), zyF263_58 n x1 x2 x3 s = some (r, s') → zyR X 3 263 58 [some (.ref (43 + 3)), some (.int x1), some (.int x2), some (.int x3)] [] s (zyE (some (.int r)) s')
  | 0, _, _, _ => by
    intro s r s'  h
    have h : (none : Option (Int32 × zy_S)) = some (r, s') := h
    cases h
  | n + 1, x1, x2, x3 => by
    intro s r s'  h
    exact zyC263_58b (k58 := zyF263_58 n) (fun x1 x2 x3 s r s'  h => zyC263_58  n x1 x2 x3 s r s'  h) h
noncomputable def zyF263   (x1 : Int32) (x2 : Int32) (s : zy_S) : Option (Int32 × zy_S) :=
(zyF182 x1 s).bind fun p7 =>
if p7.1 = 0 then
some ((-1 : Int32), p7.2)
else
(zyF179 (x2).toInt64 (0 : Int64) (7 : Int64) p7.2).bind fun p8 =>
if p8.1 ≠ 0 then
if zy_in x1 6 then
if 0 ≤ (p8.2.1 60 (x1).toNatClampNeg) then
if zy_in x1 6 then
if (p8.2.1 60 (x1).toNatClampNeg) < (50 : Int32) then
if zy_in x1 6 then
(zyF264 (p8.2.1 60 (x1).toNatClampNeg) p8.2).bind fun p12 =>
zyF263_58 zy_fu x1 x2 p12.1 p12.2
else none
else
some ((-12 : Int32), p8.2)
else none
else
some ((-11 : Int32), p8.2)
else none
else
some ((-1 : Int32), p8.2)
theorem zyC263 {X : zx_X}     {x1 : Int32} {x2 : Int32} {s : zy_S} {r : Int32} {s' : zy_S}  (h : zyF263 x1 x2 s = some (r, s')) : zyR X 3 263 0 [some (.ref (43 + 3)), some (.int x1), some (.int x2), none] [] s (zyE (some (.int r)) s') := by
  unfold zyF263 at h
  refine zy_2 rfl rfl (show zyR _ _ _ _ [some (.ref (43 + 3)), some (.int x1), some (.int x2), none] [.int x1] _ _ from ?_)
  obtain ⟨p7, hp7, h⟩ := zy_bind h
  refine zy_60 (as := [.int x1]) (rest := []) (L := [some (.int x1)]) (d' := 2) rfl rfl (Nat.le_of_ble_eq_true rfl) (Nat.le_of_ble_eq_true rfl) rfl (Nat.le_of_ble_eq_true rfl) rfl rfl (zyC182 hp7) ?_
  show zyR _ _ _ _ [some (.ref (43 + 3)), some (.int x1), some (.int x2), none] [.int p7.1] _ _
  refine zy_24_0 rfl (fun b16 => (show zyR _ _ _ _ [some (.ref (43 + 3)), some (.int x1), some (.int x2), none] [] _ _ from ?_)) (fun b16 => (show zyR _ _ _ _ [some (.ref (43 + 3)), some (.int x1), some (.int x2), none] [] _ _ from ?_))
  · replace h := zy_ifp h b16
    refine zy_3 rfl rfl (show zyR _ _ _ _ [some (.ref (43 + 3)), some (.int x1), some (.int x2), none] [.int (-1 : Int32)] _ _ from ?_)
    obtain ⟨rfl, rfl⟩ := zy_pi h
    exact zy_4 rfl ⟨rfl, rfl⟩
  · replace h := zy_ifn h b16
    refine zy_2 rfl rfl (show zyR _ _ _ _ [some (.ref (43 + 3)), some (.int x1), some (.int x2), none] [.int x2] _ _ from ?_)
    refine zy_40 rfl (show zyR _ _ _ _ [some (.ref (43 + 3)), some (.int x1), some (.int x2), none] [.long (x2).toInt64] _ _ from ?_)
    refine zy_36 rfl rfl (show zyR _ _ _ _ [some (.ref (43 + 3)), some (.int x1), some (.int x2), none] [.long (0 : Int64), .long (x2).toInt64] _ _ from ?_)
    refine zy_36c rfl rfl (show zyR _ _ _ _ [some (.ref (43 + 3)), some (.int x1), some (.int x2), none] [.long (7 : Int64), .long (0 : Int64), .long (x2).toInt64] _ _ from ?_)
    obtain ⟨p8, hp8, h⟩ := zy_bind h
    refine zy_60 (as := [.long (x2).toInt64, .long (0 : Int64), .long (7 : Int64)]) (rest := []) (L := [some (.long (x2).toInt64), none, some (.long (0 : Int64)), none, some (.long (7 : Int64)), none]) (d' := 1) rfl rfl (Nat.le_of_ble_eq_true rfl) (Nat.le_of_ble_eq_true rfl) rfl (Nat.le_of_ble_eq_true rfl) rfl rfl (zyC179 hp8) ?_
    show zyR _ _ _ _ [some (.ref (43 + 3)), some (.int x1), some (.int x2), none] [.int p8.1] _ _
    refine zy_24_1 rfl (fun b15 => (show zyR _ _ _ _ [some (.ref (43 + 3)), some (.int x1), some (.int x2), none] [] _ _ from ?_)) (fun b15 => (show zyR _ _ _ _ [some (.ref (43 + 3)), some (.int x1), some (.int x2), none] [] _ _ from ?_))
    · replace h := zy_ifp h b15
      refine zy_0 rfl rfl (show zyR _ _ _ _ [some (.ref (43 + 3)), some (.int x1), some (.int x2), none] [.ref (43 + 3)] _ _ from ?_)
      refine zy_1r (c := 43) rfl rfl rfl (show zyR _ _ _ _ [some (.ref (43 + 3)), some (.int x1), some (.int x2), none] [.ref (60 + 3)] _ _ from ?_)
      refine zy_2 rfl rfl (show zyR _ _ _ _ [some (.ref (43 + 3)), some (.int x1), some (.int x2), none] [.int x1, .ref (60 + 3)] _ _ from ?_)
      obtain ⟨c9, h⟩ := zy_if h
      refine zy_26 (c := 60) rfl rfl c9 (show zyR _ _ _ _ [some (.ref (43 + 3)), some (.int x1), some (.int x2), none] [.int (p8.2.1 60 (x1).toNatClampNeg)] _ _ from ?_)
      refine zy_24_3 rfl (fun b14 => (show zyR _ _ _ _ [some (.ref (43 + 3)), some (.int x1), some (.int x2), none] [] _ _ from ?_)) (fun b14 => (show zyR _ _ _ _ [some (.ref (43 + 3)), some (.int x1), some (.int x2), none] [] _ _ from ?_))
      · replace h := zy_ifp h b14
        refine zy_0 rfl rfl (show zyR _ _ _ _ [some (.ref (43 + 3)), some (.int x1), some (.int x2), none] [.ref (43 + 3)] _ _ from ?_)
        refine zy_1r (c := 43) rfl rfl rfl (show zyR _ _ _ _ [some (.ref (43 + 3)), some (.int x1), some (.int x2), none] [.ref (60 + 3)] _ _ from ?_)
        refine zy_2 rfl rfl (show zyR _ _ _ _ [some (.ref (43 + 3)), some (.int x1), some (.int x2), none] [.int x1, .ref (60 + 3)] _ _ from ?_)
        obtain ⟨c10, h⟩ := zy_if h
        refine zy_26 (c := 60) rfl rfl c10 (show zyR _ _ _ _ [some (.ref (43 + 3)), some (.int x1), some (.int x2), none] [.int (p8.2.1 60 (x1).toNatClampNeg)] _ _ from ?_)
        refine zy_3 rfl rfl (show zyR _ _ _ _ [some (.ref (43 + 3)), some (.int x1), some (.int x2), none] [.int (50 : Int32), .int (p8.2.1 60 (x1).toNatClampNeg)] _ _ from ?_)
        refine zy_25_2 rfl (fun b13 => (show zyR _ _ _ _ [some (.ref (43 + 3)), some (.int x1), some (.int x2), none] [] _ _ from ?_)) (fun b13 => (show zyR _ _ _ _ [some (.ref (43 + 3)), some (.int x1), some (.int x2), none] [] _ _ from ?_))
        · replace h := zy_ifp h b13
          refine zy_0 rfl rfl (show zyR _ _ _ _ [some (.ref (43 + 3)), some (.int x1), some (.int x2), none] [.ref (43 + 3)] _ _ from ?_)
          refine zy_0 rfl rfl (show zyR _ _ _ _ [some (.ref (43 + 3)), some (.int x1), some (.int x2), none] [.ref (43 + 3), .ref (43 + 3)] _ _ from ?_)
          refine zy_1r (c := 43) rfl rfl rfl (show zyR _ _ _ _ [some (.ref (43 + 3)), some (.int x1), some (.int x2), none] [.ref (60 + 3), .ref (43 + 3)] _ _ from ?_)
          refine zy_2 rfl rfl (show zyR _ _ _ _ [some (.ref (43 + 3)), some (.int x1), some (.int x2), none] [.int x1, .ref (60 + 3), .ref (43 + 3)] _ _ from ?_)
          obtain ⟨c11, h⟩ := zy_if h
          refine zy_26 (c := 60) rfl rfl c11 (show zyR _ _ _ _ [some (.ref (43 + 3)), some (.int x1), some (.int x2), none] [.int (p8.2.1 60 (x1).toNatClampNeg), .ref (43 + 3)] _ _ from ?_)
          obtain ⟨p12, hp12, h⟩ := zy_bind h
          refine zy_5 (c := 43) (as := [.int (p8.2.1 60 (x1).toNatClampNeg)]) (rest := []) (L := [some (.ref (43 + 3)), some (.int (p8.2.1 60 (x1).toNatClampNeg))]) (d' := 1) rfl rfl rfl (Nat.le_of_ble_eq_true rfl) (Nat.le_of_ble_eq_true rfl) rfl (Nat.le_of_ble_eq_true rfl) rfl rfl (zyC264 hp12) ?_
          show zyR _ _ _ _ [some (.ref (43 + 3)), some (.int x1), some (.int x2), none] [.int p12.1] _ _
          refine zy_23 rfl rfl (show zyR _ _ _ _ [some (.ref (43 + 3)), some (.int x1), some (.int x2), some (.int p12.1)] [] _ _ from ?_)
          exact zy_sub (show zy_le [some (.ref (43 + 3)), some (.int x1), some (.int x2), some (.int p12.1)] [some (.ref (43 + 3)), some (.int x1), some (.int x2), some (.int p12.1)] from ⟨rfl, ⟨rfl, ⟨rfl, ⟨rfl, trivial⟩⟩⟩⟩) (zyC263_58 zy_fu x1 x2 p12.1 p12.2 _ _ h)
        · replace h := zy_ifn h b13
          refine zy_3 rfl rfl (show zyR _ _ _ _ [some (.ref (43 + 3)), some (.int x1), some (.int x2), none] [.int (-12 : Int32)] _ _ from ?_)
          obtain ⟨rfl, rfl⟩ := zy_pi h
          exact zy_4 rfl ⟨rfl, rfl⟩
      · replace h := zy_ifn h b14
        refine zy_3 rfl rfl (show zyR _ _ _ _ [some (.ref (43 + 3)), some (.int x1), some (.int x2), none] [.int (-11 : Int32)] _ _ from ?_)
        obtain ⟨rfl, rfl⟩ := zy_pi h
        exact zy_4 rfl ⟨rfl, rfl⟩
    · replace h := zy_ifn h b15
      refine zy_3 rfl rfl (show zyR _ _ _ _ [some (.ref (43 + 3)), some (.int x1), some (.int x2), none] [.int (-1 : Int32)] _ _ from ?_)
      obtain ⟨rfl, rfl⟩ := zy_pi h
      exact zy_4 rfl ⟨rfl, rfl⟩
end
section
/-! PART 41.11: methods as functions. Made by wip/v4/dcp.py. -/
/-! NineOpinions$Shelf.refusesAsRowOf(I)I -/
noncomputable def zyF107   (x0 : Nat) (x1 : Int32) (s : zy_S) : Option (Int32 × zy_S) :=
(zyF19 x0 s).bind fun p1 =>
if p1.1 = 0 then
(zyF21 x0 x1 p1.2).bind fun p2 =>
if p2.1 = 0 then
some ((-12 : Int32), p2.2)
else
some ((0 : Int32), p2.2)
else
some ((-11 : Int32), p1.2)
theorem zyC107 {X : zx_X}     {x0 : Nat} {x1 : Int32} {s : zy_S} {r : Int32} {s' : zy_S} (hs_x0 : zy_isSh x0) (h : zyF107 x0 x1 s = some (r, s')) : zyR X 3 107 0 [some (.ref (x0 + 3)), some (.int x1)] [] s (zyE (some (.int r)) s') := by
  unfold zyF107 at h
  refine zy_0 rfl rfl (show zyR _ _ _ _ [some (.ref (x0 + 3)), some (.int x1)] [.ref (x0 + 3)] _ _ from ?_)
  obtain ⟨p1, hp1, h⟩ := zy_bind h
  refine zy_5 (c := x0) (as := []) (rest := []) (L := [some (.ref (x0 + 3))]) (d' := 2) rfl rfl hs_x0.1 (Nat.le_of_ble_eq_true rfl) (Nat.le_of_ble_eq_true rfl) rfl (Nat.le_of_ble_eq_true rfl) rfl rfl (zyC19 hs_x0 hp1) ?_
  show zyR _ _ _ _ [some (.ref (x0 + 3)), some (.int x1)] [.int p1.1] _ _
  refine zy_24_0 rfl (fun b4 => (show zyR _ _ _ _ [some (.ref (x0 + 3)), some (.int x1)] [] _ _ from ?_)) (fun b4 => (show zyR _ _ _ _ [some (.ref (x0 + 3)), some (.int x1)] [] _ _ from ?_))
  · replace h := zy_ifp h b4
    refine zy_0 rfl rfl (show zyR _ _ _ _ [some (.ref (x0 + 3)), some (.int x1)] [.ref (x0 + 3)] _ _ from ?_)
    refine zy_2 rfl rfl (show zyR _ _ _ _ [some (.ref (x0 + 3)), some (.int x1)] [.int x1, .ref (x0 + 3)] _ _ from ?_)
    obtain ⟨p2, hp2, h⟩ := zy_bind h
    refine zy_5 (c := x0) (as := [.int x1]) (rest := []) (L := [some (.ref (x0 + 3)), some (.int x1)]) (d' := 2) rfl rfl hs_x0.1 (Nat.le_of_ble_eq_true rfl) (Nat.le_of_ble_eq_true rfl) rfl (Nat.le_of_ble_eq_true rfl) rfl rfl (zyC21 hs_x0 hp2) ?_
    show zyR _ _ _ _ [some (.ref (x0 + 3)), some (.int x1)] [.int p2.1] _ _
    refine zy_24_0 rfl (fun b3 => (show zyR _ _ _ _ [some (.ref (x0 + 3)), some (.int x1)] [] _ _ from ?_)) (fun b3 => (show zyR _ _ _ _ [some (.ref (x0 + 3)), some (.int x1)] [] _ _ from ?_))
    · replace h := zy_ifp h b3
      refine zy_3 rfl rfl (show zyR _ _ _ _ [some (.ref (x0 + 3)), some (.int x1)] [.int (-12 : Int32)] _ _ from ?_)
      obtain ⟨rfl, rfl⟩ := zy_pi h
      exact zy_4 rfl ⟨rfl, rfl⟩
    · replace h := zy_ifn h b3
      refine zy_3 rfl rfl (show zyR _ _ _ _ [some (.ref (x0 + 3)), some (.int x1)] [.int (0 : Int32)] _ _ from ?_)
      refine zy_6 rfl (show zyR _ _ _ _ [some (.ref (x0 + 3)), some (.int x1)] [.int (0 : Int32)] _ _ from ?_)
      obtain ⟨rfl, rfl⟩ := zy_pi h
      exact zy_4 rfl ⟨rfl, rfl⟩
  · replace h := zy_ifn h b4
    refine zy_3 rfl rfl (show zyR _ _ _ _ [some (.ref (x0 + 3)), some (.int x1)] [.int (-11 : Int32)] _ _ from ?_)
    obtain ⟨rfl, rfl⟩ := zy_pi h
    exact zy_4 rfl ⟨rfl, rfl⟩
/-! NineOpinions$Book.twos(LNineOpinions$Shelf;)I -/
noncomputable def zyF109   (x0 : Nat) (s : zy_S) : Option (Int32 × zy_S) :=
some ((((s.1 x0 3) + (1 : Int32)) / (2 : Int32)), s)
theorem zyC109 {X : zx_X}     {x0 : Nat} {s : zy_S} {r : Int32} {s' : zy_S} (hs_x0 : zy_isSh x0) (h : zyF109 x0 s = some (r, s')) : zyR X 1 109 0 [some (.ref (x0 + 3))] [] s (zyE (some (.int r)) s') := by
  unfold zyF109 at h
  refine zy_0 rfl rfl (show zyR _ _ _ _ [some (.ref (x0 + 3))] [.ref (x0 + 3)] _ _ from ?_)
  refine zy_1 (c := x0) rfl hs_x0.1 rfl (show zyR _ _ _ _ [some (.ref (x0 + 3))] [.int (s.1 x0 3)] _ _ from ?_)
  refine zy_3 rfl rfl (show zyR _ _ _ _ [some (.ref (x0 + 3))] [.int (1 : Int32), .int (s.1 x0 3)] _ _ from ?_)
  refine zy_10 rfl (show zyR _ _ _ _ [some (.ref (x0 + 3))] [.int ((s.1 x0 3) + (1 : Int32))] _ _ from ?_)
  refine zy_3 rfl rfl (show zyR _ _ _ _ [some (.ref (x0 + 3))] [.int (2 : Int32), .int ((s.1 x0 3) + (1 : Int32))] _ _ from ?_)
  refine zy_19 rfl (by decide) (show zyR _ _ _ _ [some (.ref (x0 + 3))] [.int (((s.1 x0 3) + (1 : Int32)) / (2 : Int32))] _ _ from ?_)
  obtain ⟨rfl, rfl⟩ := zy_pi h
  exact zy_4 rfl ⟨rfl, rfl⟩
/-! NineOpinions$Book.lineOf(LNineOpinions$Shelf;I)I -/
noncomputable def zyF110   (x0 : Nat) (x1 : Int32) (s : zy_S) : Option (Int32 × zy_S) :=
if zy_in ((2 : Int32) * x1) 60 then
(zyF26 ((s.2.1 (x0 + 1) (((2 : Int32) * x1)).toNatClampNeg)).toInt32 s).bind fun p2 =>
if p2.1 = 0 then
some ((-1 : Int32), p2.2)
else
some (((s.2.1 (x0 + 1) (((2 : Int32) * x1)).toNatClampNeg)).toInt32, p2.2)
else none
theorem zyC110 {X : zx_X}     {x0 : Nat} {x1 : Int32} {s : zy_S} {r : Int32} {s' : zy_S} (hs_x0 : zy_isSh x0) (h : zyF110 x0 x1 s = some (r, s')) : zyR X 2 110 0 [some (.ref (x0 + 3)), some (.int x1), none] [] s (zyE (some (.int r)) s') := by
  unfold zyF110 at h
  refine zy_0 rfl rfl (show zyR _ _ _ _ [some (.ref (x0 + 3)), some (.int x1), none] [.ref (x0 + 3)] _ _ from ?_)
  refine zy_1r (c := x0) rfl hs_x0.1 rfl (show zyR _ _ _ _ [some (.ref (x0 + 3)), some (.int x1), none] [.ref (x0 + 1 + 3)] _ _ from ?_)
  refine zy_3 rfl rfl (show zyR _ _ _ _ [some (.ref (x0 + 3)), some (.int x1), none] [.int (2 : Int32), .ref (x0 + 1 + 3)] _ _ from ?_)
  refine zy_2 rfl rfl (show zyR _ _ _ _ [some (.ref (x0 + 3)), some (.int x1), none] [.int x1, .int (2 : Int32), .ref (x0 + 1 + 3)] _ _ from ?_)
  refine zy_12 rfl (show zyR _ _ _ _ [some (.ref (x0 + 3)), some (.int x1), none] [.int ((2 : Int32) * x1), .ref (x0 + 1 + 3)] _ _ from ?_)
  obtain ⟨c1, h⟩ := zy_if h
  refine zy_30 (c := (x0 + 1)) rfl hs_x0.2 c1 (show zyR _ _ _ _ [some (.ref (x0 + 3)), some (.int x1), none] [.long (s.2.1 (x0 + 1) (((2 : Int32) * x1)).toNatClampNeg)] _ _ from ?_)
  refine zy_41 rfl (show zyR _ _ _ _ [some (.ref (x0 + 3)), some (.int x1), none] [.int ((s.2.1 (x0 + 1) (((2 : Int32) * x1)).toNatClampNeg)).toInt32] _ _ from ?_)
  refine zy_23 rfl rfl (show zyR _ _ _ _ [some (.ref (x0 + 3)), some (.int x1), some (.int ((s.2.1 (x0 + 1) (((2 : Int32) * x1)).toNatClampNeg)).toInt32)] [] _ _ from ?_)
  refine zy_2 rfl rfl (show zyR _ _ _ _ [some (.ref (x0 + 3)), some (.int x1), some (.int ((s.2.1 (x0 + 1) (((2 : Int32) * x1)).toNatClampNeg)).toInt32)] [.int ((s.2.1 (x0 + 1) (((2 : Int32) * x1)).toNatClampNeg)).toInt32] _ _ from ?_)
  obtain ⟨p2, hp2, h⟩ := zy_bind h
  refine zy_61 (as := [.int ((s.2.1 (x0 + 1) (((2 : Int32) * x1)).toNatClampNeg)).toInt32]) (rest := []) (L := [some (.int ((s.2.1 (x0 + 1) (((2 : Int32) * x1)).toNatClampNeg)).toInt32)]) (d' := 1) rfl rfl (Nat.le_of_ble_eq_true rfl) (Nat.le_of_ble_eq_true rfl) rfl (Nat.le_of_ble_eq_true rfl) rfl rfl (zyC26 hp2) ?_
  show zyR _ _ _ _ [some (.ref (x0 + 3)), some (.int x1), some (.int ((s.2.1 (x0 + 1) (((2 : Int32) * x1)).toNatClampNeg)).toInt32)] [.int p2.1] _ _
  refine zy_24_0 rfl (fun b3 => (show zyR _ _ _ _ [some (.ref (x0 + 3)), some (.int x1), some (.int ((s.2.1 (x0 + 1) (((2 : Int32) * x1)).toNatClampNeg)).toInt32)] [] _ _ from ?_)) (fun b3 => (show zyR _ _ _ _ [some (.ref (x0 + 3)), some (.int x1), some (.int ((s.2.1 (x0 + 1) (((2 : Int32) * x1)).toNatClampNeg)).toInt32)] [] _ _ from ?_))
  · replace h := zy_ifp h b3
    refine zy_3 rfl rfl (show zyR _ _ _ _ [some (.ref (x0 + 3)), some (.int x1), some (.int ((s.2.1 (x0 + 1) (((2 : Int32) * x1)).toNatClampNeg)).toInt32)] [.int (-1 : Int32)] _ _ from ?_)
    obtain ⟨rfl, rfl⟩ := zy_pi h
    exact zy_4 rfl ⟨rfl, rfl⟩
  · replace h := zy_ifn h b3
    refine zy_2 rfl rfl (show zyR _ _ _ _ [some (.ref (x0 + 3)), some (.int x1), some (.int ((s.2.1 (x0 + 1) (((2 : Int32) * x1)).toNatClampNeg)).toInt32)] [.int ((s.2.1 (x0 + 1) (((2 : Int32) * x1)).toNatClampNeg)).toInt32] _ _ from ?_)
    refine zy_6 rfl (show zyR _ _ _ _ [some (.ref (x0 + 3)), some (.int x1), some (.int ((s.2.1 (x0 + 1) (((2 : Int32) * x1)).toNatClampNeg)).toInt32)] [.int ((s.2.1 (x0 + 1) (((2 : Int32) * x1)).toNatClampNeg)).toInt32] _ _ from ?_)
    obtain ⟨rfl, rfl⟩ := zy_pi h
    exact zy_4 rfl ⟨rfl, rfl⟩
/-! NineOpinions$Book.isSo(LNineOpinions$Shelf;II)Z -/
noncomputable def zyF111_46   (y0 : Int32) (y1 : Int64) (s : zy_S) : Option (Int32 × zy_S) :=
if (lg_cmp y1 (y0).toInt64) ≠ 0 then
some ((0 : Int32), s)
else
some ((1 : Int32), s)
theorem zyC111_46 {X : zx_X}     {y0 : Int32} {y1 : Int64} {s : zy_S} {r : Int32} {s' : zy_S}  (h : zyF111_46 y0 y1 s = some (r, s')) : zyR X 3 111 46 [none, none, none, none] [.int y0, .long y1] s (zyE (some (.int r)) s') := by
  unfold zyF111_46 at h
  refine zy_40 rfl (show zyR _ _ _ _ [none, none, none, none] [.long (y0).toInt64, .long y1] _ _ from ?_)
  refine zy_44 rfl (show zyR _ _ _ _ [none, none, none, none] [.int (lg_cmp y1 (y0).toInt64)] _ _ from ?_)
  refine zy_24_1 rfl (fun b1 => (show zyR _ _ _ _ [none, none, none, none] [] _ _ from ?_)) (fun b1 => (show zyR _ _ _ _ [none, none, none, none] [] _ _ from ?_))
  · replace h := zy_ifp h b1
    refine zy_3 rfl rfl (show zyR _ _ _ _ [none, none, none, none] [.int (0 : Int32)] _ _ from ?_)
    cases h
    exact zy_4b rfl ⟨rfl, rfl⟩ (Or.inl rfl)
  · replace h := zy_ifn h b1
    refine zy_3 rfl rfl (show zyR _ _ _ _ [none, none, none, none] [.int (1 : Int32)] _ _ from ?_)
    refine zy_6 rfl (show zyR _ _ _ _ [none, none, none, none] [.int (1 : Int32)] _ _ from ?_)
    cases h
    exact zy_4b rfl ⟨rfl, rfl⟩ (Or.inr rfl)
noncomputable def zyF111   (x0 : Nat) (x1 : Int32) (x2 : Int32) (s : zy_S) : Option (Int32 × zy_S) :=
(zyF110 x0 x1 s).bind fun p2 =>
if p2.1 = (-1 : Int32) then
some ((0 : Int32), p2.2)
else
(zyF23 x0 ((2 : Int32) * x1) (2 : Int32) p2.2).bind fun p3 =>
if p3.1 ≠ 0 then
if zy_in (((2 : Int32) * x1) + (1 : Int32)) 60 then
if (p2.1 - p2.1 / (4 : Int32) * (4 : Int32)) ≠ x2 then
zyF111_46 (1 : Int32) (p3.2.2.1 (x0 + 1) ((((2 : Int32) * x1) + (1 : Int32))).toNatClampNeg) p3.2
else
zyF111_46 (0 : Int32) (p3.2.2.1 (x0 + 1) ((((2 : Int32) * x1) + (1 : Int32))).toNatClampNeg) p3.2
else none
else
some ((0 : Int32), p3.2)
theorem zyC111 {X : zx_X}     {x0 : Nat} {x1 : Int32} {x2 : Int32} {s : zy_S} {r : Int32} {s' : zy_S} (hs_x0 : zy_isSh x0) (h : zyF111 x0 x1 x2 s = some (r, s')) : zyR X 3 111 0 [some (.ref (x0 + 3)), some (.int x1), some (.int x2), none] [] s (zyE (some (.int r)) s') := by
  unfold zyF111 at h
  refine zy_0 rfl rfl (show zyR _ _ _ _ [some (.ref (x0 + 3)), some (.int x1), some (.int x2), none] [.ref (x0 + 3)] _ _ from ?_)
  refine zy_2 rfl rfl (show zyR _ _ _ _ [some (.ref (x0 + 3)), some (.int x1), some (.int x2), none] [.int x1, .ref (x0 + 3)] _ _ from ?_)
  obtain ⟨p2, hp2, h⟩ := zy_bind h
  refine zy_60 (as := [.ref (x0 + 3), .int x1]) (rest := []) (L := [some (.ref (x0 + 3)), some (.int x1), none]) (d' := 2) rfl rfl (Nat.le_of_ble_eq_true rfl) (Nat.le_of_ble_eq_true rfl) rfl (Nat.le_of_ble_eq_true rfl) rfl rfl (zyC110 hs_x0 hp2) ?_
  show zyR _ _ _ _ [some (.ref (x0 + 3)), some (.int x1), some (.int x2), none] [.int p2.1] _ _
  refine zy_23 rfl rfl (show zyR _ _ _ _ [some (.ref (x0 + 3)), some (.int x1), some (.int x2), some (.int p2.1)] [] _ _ from ?_)
  refine zy_2 rfl rfl (show zyR _ _ _ _ [some (.ref (x0 + 3)), some (.int x1), some (.int x2), some (.int p2.1)] [.int p2.1] _ _ from ?_)
  refine zy_3 rfl rfl (show zyR _ _ _ _ [some (.ref (x0 + 3)), some (.int x1), some (.int x2), some (.int p2.1)] [.int (-1 : Int32), .int p2.1] _ _ from ?_)
  refine zy_25_0 rfl (fun b7 => (show zyR _ _ _ _ [some (.ref (x0 + 3)), some (.int x1), some (.int x2), some (.int p2.1)] [] _ _ from ?_)) (fun b7 => (show zyR _ _ _ _ [some (.ref (x0 + 3)), some (.int x1), some (.int x2), some (.int p2.1)] [] _ _ from ?_))
  · replace h := zy_ifp h b7
    refine zy_3 rfl rfl (show zyR _ _ _ _ [some (.ref (x0 + 3)), some (.int x1), some (.int x2), some (.int p2.1)] [.int (0 : Int32)] _ _ from ?_)
    cases h
    exact zy_4b rfl ⟨rfl, rfl⟩ (Or.inl rfl)
  · replace h := zy_ifn h b7
    refine zy_0 rfl rfl (show zyR _ _ _ _ [some (.ref (x0 + 3)), some (.int x1), some (.int x2), some (.int p2.1)] [.ref (x0 + 3)] _ _ from ?_)
    refine zy_3 rfl rfl (show zyR _ _ _ _ [some (.ref (x0 + 3)), some (.int x1), some (.int x2), some (.int p2.1)] [.int (2 : Int32), .ref (x0 + 3)] _ _ from ?_)
    refine zy_2 rfl rfl (show zyR _ _ _ _ [some (.ref (x0 + 3)), some (.int x1), some (.int x2), some (.int p2.1)] [.int x1, .int (2 : Int32), .ref (x0 + 3)] _ _ from ?_)
    refine zy_12 rfl (show zyR _ _ _ _ [some (.ref (x0 + 3)), some (.int x1), some (.int x2), some (.int p2.1)] [.int ((2 : Int32) * x1), .ref (x0 + 3)] _ _ from ?_)
    refine zy_3 rfl rfl (show zyR _ _ _ _ [some (.ref (x0 + 3)), some (.int x1), some (.int x2), some (.int p2.1)] [.int (2 : Int32), .int ((2 : Int32) * x1), .ref (x0 + 3)] _ _ from ?_)
    obtain ⟨p3, hp3, h⟩ := zy_bind h
    refine zy_5 (c := x0) (as := [.int ((2 : Int32) * x1), .int (2 : Int32)]) (rest := []) (L := [some (.ref (x0 + 3)), some (.int ((2 : Int32) * x1)), some (.int (2 : Int32))]) (d' := 1) rfl rfl hs_x0.1 (Nat.le_of_ble_eq_true rfl) (Nat.le_of_ble_eq_true rfl) rfl (Nat.le_of_ble_eq_true rfl) rfl rfl (zyC23 hs_x0 hp3) ?_
    show zyR _ _ _ _ [some (.ref (x0 + 3)), some (.int x1), some (.int x2), some (.int p2.1)] [.int p3.1] _ _
    refine zy_24_1 rfl (fun b6 => (show zyR _ _ _ _ [some (.ref (x0 + 3)), some (.int x1), some (.int x2), some (.int p2.1)] [] _ _ from ?_)) (fun b6 => (show zyR _ _ _ _ [some (.ref (x0 + 3)), some (.int x1), some (.int x2), some (.int p2.1)] [] _ _ from ?_))
    · replace h := zy_ifp h b6
      refine zy_0 rfl rfl (show zyR _ _ _ _ [some (.ref (x0 + 3)), some (.int x1), some (.int x2), some (.int p2.1)] [.ref (x0 + 3)] _ _ from ?_)
      refine zy_1r (c := x0) rfl hs_x0.1 rfl (show zyR _ _ _ _ [some (.ref (x0 + 3)), some (.int x1), some (.int x2), some (.int p2.1)] [.ref (x0 + 1 + 3)] _ _ from ?_)
      refine zy_3 rfl rfl (show zyR _ _ _ _ [some (.ref (x0 + 3)), some (.int x1), some (.int x2), some (.int p2.1)] [.int (2 : Int32), .ref (x0 + 1 + 3)] _ _ from ?_)
      refine zy_2 rfl rfl (show zyR _ _ _ _ [some (.ref (x0 + 3)), some (.int x1), some (.int x2), some (.int p2.1)] [.int x1, .int (2 : Int32), .ref (x0 + 1 + 3)] _ _ from ?_)
      refine zy_12 rfl (show zyR _ _ _ _ [some (.ref (x0 + 3)), some (.int x1), some (.int x2), some (.int p2.1)] [.int ((2 : Int32) * x1), .ref (x0 + 1 + 3)] _ _ from ?_)
      refine zy_3 rfl rfl (show zyR _ _ _ _ [some (.ref (x0 + 3)), some (.int x1), some (.int x2), some (.int p2.1)] [.int (1 : Int32), .int ((2 : Int32) * x1), .ref (x0 + 1 + 3)] _ _ from ?_)
      refine zy_10 rfl (show zyR _ _ _ _ [some (.ref (x0 + 3)), some (.int x1), some (.int x2), some (.int p2.1)] [.int (((2 : Int32) * x1) + (1 : Int32)), .ref (x0 + 1 + 3)] _ _ from ?_)
      obtain ⟨c4, h⟩ := zy_if h
      refine zy_30 (c := (x0 + 1)) rfl hs_x0.2 c4 (show zyR _ _ _ _ [some (.ref (x0 + 3)), some (.int x1), some (.int x2), some (.int p2.1)] [.long (p3.2.2.1 (x0 + 1) ((((2 : Int32) * x1) + (1 : Int32))).toNatClampNeg)] _ _ from ?_)
      refine zy_2 rfl rfl (show zyR _ _ _ _ [some (.ref (x0 + 3)), some (.int x1), some (.int x2), some (.int p2.1)] [.int p2.1, .long (p3.2.2.1 (x0 + 1) ((((2 : Int32) * x1) + (1 : Int32))).toNatClampNeg)] _ _ from ?_)
      refine zy_3 rfl rfl (show zyR _ _ _ _ [some (.ref (x0 + 3)), some (.int x1), some (.int x2), some (.int p2.1)] [.int (4 : Int32), .int p2.1, .long (p3.2.2.1 (x0 + 1) ((((2 : Int32) * x1) + (1 : Int32))).toNatClampNeg)] _ _ from ?_)
      refine zy_20 rfl (by decide) (show zyR _ _ _ _ [some (.ref (x0 + 3)), some (.int x1), some (.int x2), some (.int p2.1)] [.int (p2.1 - p2.1 / (4 : Int32) * (4 : Int32)), .long (p3.2.2.1 (x0 + 1) ((((2 : Int32) * x1) + (1 : Int32))).toNatClampNeg)] _ _ from ?_)
      refine zy_2 rfl rfl (show zyR _ _ _ _ [some (.ref (x0 + 3)), some (.int x1), some (.int x2), some (.int p2.1)] [.int x2, .int (p2.1 - p2.1 / (4 : Int32) * (4 : Int32)), .long (p3.2.2.1 (x0 + 1) ((((2 : Int32) * x1) + (1 : Int32))).toNatClampNeg)] _ _ from ?_)
      refine zy_25_1 rfl (fun b5 => (show zyR _ _ _ _ [some (.ref (x0 + 3)), some (.int x1), some (.int x2), some (.int p2.1)] [.long (p3.2.2.1 (x0 + 1) ((((2 : Int32) * x1) + (1 : Int32))).toNatClampNeg)] _ _ from ?_)) (fun b5 => (show zyR _ _ _ _ [some (.ref (x0 + 3)), some (.int x1), some (.int x2), some (.int p2.1)] [.long (p3.2.2.1 (x0 + 1) ((((2 : Int32) * x1) + (1 : Int32))).toNatClampNeg)] _ _ from ?_))
      · replace h := zy_ifp h b5
        refine zy_3 rfl rfl (show zyR _ _ _ _ [some (.ref (x0 + 3)), some (.int x1), some (.int x2), some (.int p2.1)] [.int (1 : Int32), .long (p3.2.2.1 (x0 + 1) ((((2 : Int32) * x1) + (1 : Int32))).toNatClampNeg)] _ _ from ?_)
        exact zy_sub (show zy_le [none, none, none, none] [some (.ref (x0 + 3)), some (.int x1), some (.int x2), some (.int p2.1)] from trivial) (zyC111_46 h)
      · replace h := zy_ifn h b5
        refine zy_3 rfl rfl (show zyR _ _ _ _ [some (.ref (x0 + 3)), some (.int x1), some (.int x2), some (.int p2.1)] [.int (0 : Int32), .long (p3.2.2.1 (x0 + 1) ((((2 : Int32) * x1) + (1 : Int32))).toNatClampNeg)] _ _ from ?_)
        refine zy_6 rfl (show zyR _ _ _ _ [some (.ref (x0 + 3)), some (.int x1), some (.int x2), some (.int p2.1)] [.int (0 : Int32), .long (p3.2.2.1 (x0 + 1) ((((2 : Int32) * x1) + (1 : Int32))).toNatClampNeg)] _ _ from ?_)
        exact zy_sub (show zy_le [none, none, none, none] [some (.ref (x0 + 3)), some (.int x1), some (.int x2), some (.int p2.1)] from trivial) (zyC111_46 h)
    · replace h := zy_ifn h b6
      refine zy_3 rfl rfl (show zyR _ _ _ _ [some (.ref (x0 + 3)), some (.int x1), some (.int x2), some (.int p2.1)] [.int (0 : Int32)] _ _ from ?_)
      cases h
      exact zy_4b rfl ⟨rfl, rfl⟩ (Or.inl rfl)
/-! NineOpinions$Book.firstWrong(LNineOpinions$Shelf;I)I -/
noncomputable def zyF108_2b  (k2 : Nat → Int32 → Int32 → zy_S → Option (Int32 × zy_S)) (x0 : Nat) (x1 : Int32) (x2 : Int32) (s : zy_S) : Option (Int32 × zy_S) :=
(zyF109 x0 s).bind fun p1 =>
if p1.1 ≤ x2 then
some ((-2 : Int32), p1.2)
else
(zyF110 x0 x2 p1.2).bind fun p2 =>
if p2.1 = (-1 : Int32) then
some (x2, p2.2)
else
(zyF60 x1 (p2.1 / (4 : Int32)) p2.2).bind fun p3 =>
(zyF111 x0 x2 p3.1 p3.2).bind fun p4 =>
if p4.1 ≠ 0 then
k2 x0 x1 (x2 + (1 : Int32)) p4.2
else
some (x2, p4.2)
theorem zyC108_2b {X : zx_X}  {k2 : Nat → Int32 → Int32 → zy_S → Option (Int32 × zy_S)}  (hk2 : ∀ (x0 : Nat) (x1 : Int32) (x2 : Int32) (s : zy_S) (r : Int32) (s' : zy_S) (hs_x0 : zy_isSh x0), k2 x0 x1 x2 s = some (r, s') → zyR X 4 108 2 [some (.ref (x0 + 3)), some (.int x1), some (.int x2), none] [] s (zyE (some (.int r)) s')) {x0 : Nat} {x1 : Int32} {x2 : Int32} {s : zy_S} {r : Int32} {s' : zy_S} (hs_x0 : zy_isSh x0) (h : zyF108_2b k2 x0 x1 x2 s = some (r, s')) : zyR X 4 108 2 [some (.ref (x0 + 3)), some (.int x1), some (.int x2), none] [] s (zyE (some (.int r)) s') := by
  unfold zyF108_2b at h
  refine zy_2 rfl rfl (show zyR _ _ _ _ [some (.ref (x0 + 3)), some (.int x1), some (.int x2), none] [.int x2] _ _ from ?_)
  refine zy_0 rfl rfl (show zyR _ _ _ _ [some (.ref (x0 + 3)), some (.int x1), some (.int x2), none] [.ref (x0 + 3), .int x2] _ _ from ?_)
  obtain ⟨p1, hp1, h⟩ := zy_bind h
  refine zy_60 (as := [.ref (x0 + 3)]) (rest := [.int x2]) (L := [some (.ref (x0 + 3))]) (d' := 1) rfl rfl (Nat.le_of_ble_eq_true rfl) (Nat.le_of_ble_eq_true rfl) rfl (Nat.le_of_ble_eq_true rfl) rfl rfl (zyC109 hs_x0 hp1) ?_
  show zyR _ _ _ _ [some (.ref (x0 + 3)), some (.int x1), some (.int x2), none] [.int p1.1, .int x2] _ _
  refine zy_25_3 rfl (fun b7 => (show zyR _ _ _ _ [some (.ref (x0 + 3)), some (.int x1), some (.int x2), none] [] _ _ from ?_)) (fun b7 => (show zyR _ _ _ _ [some (.ref (x0 + 3)), some (.int x1), some (.int x2), none] [] _ _ from ?_))
  · replace h := zy_ifp h b7
    refine zy_3 rfl rfl (show zyR _ _ _ _ [some (.ref (x0 + 3)), some (.int x1), some (.int x2), none] [.int (-2 : Int32)] _ _ from ?_)
    obtain ⟨rfl, rfl⟩ := zy_pi h
    exact zy_4 rfl ⟨rfl, rfl⟩
  · replace h := zy_ifn h b7
    refine zy_0 rfl rfl (show zyR _ _ _ _ [some (.ref (x0 + 3)), some (.int x1), some (.int x2), none] [.ref (x0 + 3)] _ _ from ?_)
    refine zy_2 rfl rfl (show zyR _ _ _ _ [some (.ref (x0 + 3)), some (.int x1), some (.int x2), none] [.int x2, .ref (x0 + 3)] _ _ from ?_)
    obtain ⟨p2, hp2, h⟩ := zy_bind h
    refine zy_60 (as := [.ref (x0 + 3), .int x2]) (rest := []) (L := [some (.ref (x0 + 3)), some (.int x2), none]) (d' := 2) rfl rfl (Nat.le_of_ble_eq_true rfl) (Nat.le_of_ble_eq_true rfl) rfl (Nat.le_of_ble_eq_true rfl) rfl rfl (zyC110 hs_x0 hp2) ?_
    show zyR _ _ _ _ [some (.ref (x0 + 3)), some (.int x1), some (.int x2), none] [.int p2.1] _ _
    refine zy_23 rfl rfl (show zyR _ _ _ _ [some (.ref (x0 + 3)), some (.int x1), some (.int x2), some (.int p2.1)] [] _ _ from ?_)
    refine zy_2 rfl rfl (show zyR _ _ _ _ [some (.ref (x0 + 3)), some (.int x1), some (.int x2), some (.int p2.1)] [.int p2.1] _ _ from ?_)
    refine zy_3 rfl rfl (show zyR _ _ _ _ [some (.ref (x0 + 3)), some (.int x1), some (.int x2), some (.int p2.1)] [.int (-1 : Int32), .int p2.1] _ _ from ?_)
    refine zy_25_0 rfl (fun b6 => (show zyR _ _ _ _ [some (.ref (x0 + 3)), some (.int x1), some (.int x2), some (.int p2.1)] [] _ _ from ?_)) (fun b6 => (show zyR _ _ _ _ [some (.ref (x0 + 3)), some (.int x1), some (.int x2), some (.int p2.1)] [] _ _ from ?_))
    · replace h := zy_ifp h b6
      refine zy_2 rfl rfl (show zyR _ _ _ _ [some (.ref (x0 + 3)), some (.int x1), some (.int x2), some (.int p2.1)] [.int x2] _ _ from ?_)
      obtain ⟨rfl, rfl⟩ := zy_pi h
      exact zy_4 rfl ⟨rfl, rfl⟩
    · replace h := zy_ifn h b6
      refine zy_0 rfl rfl (show zyR _ _ _ _ [some (.ref (x0 + 3)), some (.int x1), some (.int x2), some (.int p2.1)] [.ref (x0 + 3)] _ _ from ?_)
      refine zy_2 rfl rfl (show zyR _ _ _ _ [some (.ref (x0 + 3)), some (.int x1), some (.int x2), some (.int p2.1)] [.int x2, .ref (x0 + 3)] _ _ from ?_)
      refine zy_2 rfl rfl (show zyR _ _ _ _ [some (.ref (x0 + 3)), some (.int x1), some (.int x2), some (.int p2.1)] [.int x1, .int x2, .ref (x0 + 3)] _ _ from ?_)
      refine zy_2 rfl rfl (show zyR _ _ _ _ [some (.ref (x0 + 3)), some (.int x1), some (.int x2), some (.int p2.1)] [.int p2.1, .int x1, .int x2, .ref (x0 + 3)] _ _ from ?_)
      refine zy_3 rfl rfl (show zyR _ _ _ _ [some (.ref (x0 + 3)), some (.int x1), some (.int x2), some (.int p2.1)] [.int (4 : Int32), .int p2.1, .int x1, .int x2, .ref (x0 + 3)] _ _ from ?_)
      refine zy_19 rfl (by decide) (show zyR _ _ _ _ [some (.ref (x0 + 3)), some (.int x1), some (.int x2), some (.int p2.1)] [.int (p2.1 / (4 : Int32)), .int x1, .int x2, .ref (x0 + 3)] _ _ from ?_)
      obtain ⟨p3, hp3, h⟩ := zy_bind h
      refine zy_61 (as := [.int x1, .int (p2.1 / (4 : Int32))]) (rest := [.int x2, .ref (x0 + 3)]) (L := [some (.int x1), some (.int (p2.1 / (4 : Int32)))]) (d' := 1) rfl rfl (Nat.le_of_ble_eq_true rfl) (Nat.le_of_ble_eq_true rfl) rfl (Nat.le_of_ble_eq_true rfl) rfl rfl (zyC60 hp3) ?_
      show zyR _ _ _ _ [some (.ref (x0 + 3)), some (.int x1), some (.int x2), some (.int p2.1)] [.int p3.1, .int x2, .ref (x0 + 3)] _ _
      obtain ⟨p4, hp4, h⟩ := zy_bind h
      refine zy_60 (as := [.ref (x0 + 3), .int x2, .int p3.1]) (rest := []) (L := [some (.ref (x0 + 3)), some (.int x2), some (.int p3.1), none]) (d' := 3) rfl rfl (Nat.le_of_ble_eq_true rfl) (Nat.le_of_ble_eq_true rfl) rfl (Nat.le_of_ble_eq_true rfl) rfl rfl (zyC111 hs_x0 hp4) ?_
      show zyR _ _ _ _ [some (.ref (x0 + 3)), some (.int x1), some (.int x2), some (.int p2.1)] [.int p4.1] _ _
      refine zy_24_1 rfl (fun b5 => (show zyR _ _ _ _ [some (.ref (x0 + 3)), some (.int x1), some (.int x2), some (.int p2.1)] [] _ _ from ?_)) (fun b5 => (show zyR _ _ _ _ [some (.ref (x0 + 3)), some (.int x1), some (.int x2), some (.int p2.1)] [] _ _ from ?_))
      · replace h := zy_ifp h b5
        refine zy_22 rfl rfl rfl rfl (show zyR _ _ _ _ [some (.ref (x0 + 3)), some (.int x1), some (.int (x2 + (1 : Int32))), some (.int p2.1)] [] _ _ from ?_)
        refine zy_6 rfl (show zyR _ _ _ _ [some (.ref (x0 + 3)), some (.int x1), some (.int (x2 + (1 : Int32))), some (.int p2.1)] [] _ _ from ?_)
        exact zy_sub (show zy_le [some (.ref (x0 + 3)), some (.int x1), some (.int (x2 + (1 : Int32))), none] [some (.ref (x0 + 3)), some (.int x1), some (.int (x2 + (1 : Int32))), some (.int p2.1)] from ⟨rfl, ⟨rfl, ⟨rfl, trivial⟩⟩⟩) (hk2 x0 x1 (x2 + (1 : Int32)) p4.2 _ _ hs_x0 h)
      · replace h := zy_ifn h b5
        refine zy_2 rfl rfl (show zyR _ _ _ _ [some (.ref (x0 + 3)), some (.int x1), some (.int x2), some (.int p2.1)] [.int x2] _ _ from ?_)
        obtain ⟨rfl, rfl⟩ := zy_pi h
        exact zy_4 rfl ⟨rfl, rfl⟩
noncomputable def zyF108_2   (n : Nat) : Nat → Int32 → Int32 → zy_S → Option (Int32 × zy_S) := Nat.rec (fun _ _ _ _ => none) (fun _ k2 => zyF108_2b k2) n
theorem zyC108_2 {X : zx_X}     : ∀ (n : Nat) (x0 : Nat) (x1 : Int32) (x2 : Int32) (s : zy_S) (r : Int32) (s' : zy_S) (hs_x0 : zy_isSh x0), zyF108_2 n x0 x1 x2 s = some (r, s') → zyR X 4 108 2 [some (.ref (x0 + 3)), some (.int x1), some (.int x2), none] [] s (zyE (some (.int r)) s')
  | 0, _, _, _ => by
    intro s r s' hs_x0 h
    have h : (none : Option (Int32 × zy_S)) = some (r, s') := h
    cases h
  | n + 1, x0, x1, x2 => by
    intro s r s' hs_x0 h
    exact zyC108_2b (k2 := zyF108_2 n) (fun x0 x1 x2 s r s' hs_x0 h => zyC108_2  n x0 x1 x2 s r s' hs_x0 h) hs_x0 h
noncomputable def zyF108   (x0 : Nat) (x1 : Int32) (s : zy_S) : Option (Int32 × zy_S) :=
zyF108_2 zy_fu x0 x1 (0 : Int32) s
theorem zyC108 {X : zx_X}     {x0 : Nat} {x1 : Int32} {s : zy_S} {r : Int32} {s' : zy_S} (hs_x0 : zy_isSh x0) (h : zyF108 x0 x1 s = some (r, s')) : zyR X 4 108 0 [some (.ref (x0 + 3)), some (.int x1), none, none] [] s (zyE (some (.int r)) s') := by
  unfold zyF108 at h
  refine zy_3 rfl rfl (show zyR _ _ _ _ [some (.ref (x0 + 3)), some (.int x1), none, none] [.int (0 : Int32)] _ _ from ?_)
  refine zy_23 rfl rfl (show zyR _ _ _ _ [some (.ref (x0 + 3)), some (.int x1), some (.int (0 : Int32)), none] [] _ _ from ?_)
  exact zy_sub (show zy_le [some (.ref (x0 + 3)), some (.int x1), some (.int (0 : Int32)), none] [some (.ref (x0 + 3)), some (.int x1), some (.int (0 : Int32)), none] from ⟨rfl, ⟨rfl, ⟨rfl, trivial⟩⟩⟩) (zyC108_2 zy_fu x0 x1 (0 : Int32) s _ _ hs_x0 h)
/-! NineOpinions.judge(II)I -/
noncomputable def zyF106   (x1 : Int32) (x2 : Int32) (s : zy_S) : Option (Int32 × zy_S) :=
(zyF18 x1 s).bind fun p1 =>
if p1.1 = 0 then
some ((-1 : Int32), p1.2)
else
(zyF25 (0 : Int32) x2 p1.2).bind fun p2 =>
if p2.1 ≠ 0 then
if zy_in x1 6 then
if zy_Wb p2.2 then
(zyF107 (zy_sh (x1).toNatClampNeg) (0 : Int32) p2.2).bind fun p5 =>
if p5.1 = 0 then
if zy_in x1 6 then
if zy_Wb p5.2 then
if zy_in x2 8 then
(zyF108 (zy_sh (x1).toNatClampNeg) (p5.2.1 3 (x2).toNatClampNeg) p5.2).bind fun p9 =>
some (p9.1, p9.2)
else none
else none
else none
else
some (p5.1, p5.2)
else none
else none
else
some ((-1 : Int32), p2.2)
theorem zyC106 {X : zx_X}     {x1 : Int32} {x2 : Int32} {s : zy_S} {r : Int32} {s' : zy_S}  (h : zyF106 x1 x2 s = some (r, s')) : zyR X 5 106 0 [some (.ref (0 + 3)), some (.int x1), some (.int x2), none] [] s (zyE (some (.int r)) s') := by
  unfold zyF106 at h
  refine zy_2 rfl rfl (show zyR _ _ _ _ [some (.ref (0 + 3)), some (.int x1), some (.int x2), none] [.int x1] _ _ from ?_)
  obtain ⟨p1, hp1, h⟩ := zy_bind h
  refine zy_60 (as := [.int x1]) (rest := []) (L := [some (.int x1)]) (d' := 1) rfl rfl (Nat.le_of_ble_eq_true rfl) (Nat.le_of_ble_eq_true rfl) rfl (Nat.le_of_ble_eq_true rfl) rfl rfl (zyC18 hp1) ?_
  show zyR _ _ _ _ [some (.ref (0 + 3)), some (.int x1), some (.int x2), none] [.int p1.1] _ _
  refine zy_24_0 rfl (fun b12 => (show zyR _ _ _ _ [some (.ref (0 + 3)), some (.int x1), some (.int x2), none] [] _ _ from ?_)) (fun b12 => (show zyR _ _ _ _ [some (.ref (0 + 3)), some (.int x1), some (.int x2), none] [] _ _ from ?_))
  · replace h := zy_ifp h b12
    refine zy_3 rfl rfl (show zyR _ _ _ _ [some (.ref (0 + 3)), some (.int x1), some (.int x2), none] [.int (-1 : Int32)] _ _ from ?_)
    obtain ⟨rfl, rfl⟩ := zy_pi h
    exact zy_4 rfl ⟨rfl, rfl⟩
  · replace h := zy_ifn h b12
    refine zy_0 rfl rfl (show zyR _ _ _ _ [some (.ref (0 + 3)), some (.int x1), some (.int x2), none] [.ref (0 + 3)] _ _ from ?_)
    refine zy_1r (c := 0) rfl rfl rfl (show zyR _ _ _ _ [some (.ref (0 + 3)), some (.int x1), some (.int x2), none] [.ref (1 + 3)] _ _ from ?_)
    refine zy_3 rfl rfl (show zyR _ _ _ _ [some (.ref (0 + 3)), some (.int x1), some (.int x2), none] [.int (0 : Int32), .ref (1 + 3)] _ _ from ?_)
    refine zy_2 rfl rfl (show zyR _ _ _ _ [some (.ref (0 + 3)), some (.int x1), some (.int x2), none] [.int x2, .int (0 : Int32), .ref (1 + 3)] _ _ from ?_)
    obtain ⟨p2, hp2, h⟩ := zy_bind h
    refine zy_5 (c := 1) (as := [.int (0 : Int32), .int x2]) (rest := []) (L := [some (.ref (1 + 3)), some (.int (0 : Int32)), some (.int x2)]) (d' := 2) rfl rfl rfl (Nat.le_of_ble_eq_true rfl) (Nat.le_of_ble_eq_true rfl) rfl (Nat.le_of_ble_eq_true rfl) rfl rfl (zyC25 hp2) ?_
    show zyR _ _ _ _ [some (.ref (0 + 3)), some (.int x1), some (.int x2), none] [.int p2.1] _ _
    refine zy_24_1 rfl (fun b11 => (show zyR _ _ _ _ [some (.ref (0 + 3)), some (.int x1), some (.int x2), none] [] _ _ from ?_)) (fun b11 => (show zyR _ _ _ _ [some (.ref (0 + 3)), some (.int x1), some (.int x2), none] [] _ _ from ?_))
    · replace h := zy_ifp h b11
      refine zy_0 rfl rfl (show zyR _ _ _ _ [some (.ref (0 + 3)), some (.int x1), some (.int x2), none] [.ref (0 + 3)] _ _ from ?_)
      refine zy_1r (c := 0) rfl rfl rfl (show zyR _ _ _ _ [some (.ref (0 + 3)), some (.int x1), some (.int x2), none] [.ref (30 + 3)] _ _ from ?_)
      refine zy_2 rfl rfl (show zyR _ _ _ _ [some (.ref (0 + 3)), some (.int x1), some (.int x2), none] [.int x1, .ref (30 + 3)] _ _ from ?_)
      obtain ⟨c3, h⟩ := zy_if h
      obtain ⟨c4, h⟩ := zy_if h
      refine zy_28 rfl (zy_Wb_g c4) c3 (show zyR _ _ _ _ [some (.ref (0 + 3)), some (.int x1), some (.int x2), none] [.ref ((zy_sh (x1).toNatClampNeg) + 3)] _ _ from ?_)
      refine zy_3 rfl rfl (show zyR _ _ _ _ [some (.ref (0 + 3)), some (.int x1), some (.int x2), none] [.int (0 : Int32), .ref ((zy_sh (x1).toNatClampNeg) + 3)] _ _ from ?_)
      obtain ⟨p5, hp5, h⟩ := zy_bind h
      refine zy_5 (c := (zy_sh (x1).toNatClampNeg)) (as := [.int (0 : Int32)]) (rest := []) (L := [some (.ref ((zy_sh (x1).toNatClampNeg) + 3)), some (.int (0 : Int32))]) (d' := 3) rfl rfl (zy_isSh_of (zy_in_lt c3)).1 (Nat.le_of_ble_eq_true rfl) (Nat.le_of_ble_eq_true rfl) rfl (Nat.le_of_ble_eq_true rfl) rfl rfl (zyC107 (zy_isSh_of (zy_in_lt c3)) hp5) ?_
      show zyR _ _ _ _ [some (.ref (0 + 3)), some (.int x1), some (.int x2), none] [.int p5.1] _ _
      refine zy_23 rfl rfl (show zyR _ _ _ _ [some (.ref (0 + 3)), some (.int x1), some (.int x2), some (.int p5.1)] [] _ _ from ?_)
      refine zy_2 rfl rfl (show zyR _ _ _ _ [some (.ref (0 + 3)), some (.int x1), some (.int x2), some (.int p5.1)] [.int p5.1] _ _ from ?_)
      refine zy_24_0 rfl (fun b10 => (show zyR _ _ _ _ [some (.ref (0 + 3)), some (.int x1), some (.int x2), some (.int p5.1)] [] _ _ from ?_)) (fun b10 => (show zyR _ _ _ _ [some (.ref (0 + 3)), some (.int x1), some (.int x2), some (.int p5.1)] [] _ _ from ?_))
      · replace h := zy_ifp h b10
        refine zy_0 rfl rfl (show zyR _ _ _ _ [some (.ref (0 + 3)), some (.int x1), some (.int x2), some (.int p5.1)] [.ref (0 + 3)] _ _ from ?_)
        refine zy_1r (c := 0) rfl rfl rfl (show zyR _ _ _ _ [some (.ref (0 + 3)), some (.int x1), some (.int x2), some (.int p5.1)] [.ref (30 + 3)] _ _ from ?_)
        refine zy_2 rfl rfl (show zyR _ _ _ _ [some (.ref (0 + 3)), some (.int x1), some (.int x2), some (.int p5.1)] [.int x1, .ref (30 + 3)] _ _ from ?_)
        obtain ⟨c6, h⟩ := zy_if h
        obtain ⟨c7, h⟩ := zy_if h
        refine zy_28 rfl (zy_Wb_g c7) c6 (show zyR _ _ _ _ [some (.ref (0 + 3)), some (.int x1), some (.int x2), some (.int p5.1)] [.ref ((zy_sh (x1).toNatClampNeg) + 3)] _ _ from ?_)
        refine zy_0 rfl rfl (show zyR _ _ _ _ [some (.ref (0 + 3)), some (.int x1), some (.int x2), some (.int p5.1)] [.ref (0 + 3), .ref ((zy_sh (x1).toNatClampNeg) + 3)] _ _ from ?_)
        refine zy_1r (c := 0) rfl rfl rfl (show zyR _ _ _ _ [some (.ref (0 + 3)), some (.int x1), some (.int x2), some (.int p5.1)] [.ref (1 + 3), .ref ((zy_sh (x1).toNatClampNeg) + 3)] _ _ from ?_)
        refine zy_1r (c := 1) rfl rfl rfl (show zyR _ _ _ _ [some (.ref (0 + 3)), some (.int x1), some (.int x2), some (.int p5.1)] [.ref (3 + 3), .ref ((zy_sh (x1).toNatClampNeg) + 3)] _ _ from ?_)
        refine zy_2 rfl rfl (show zyR _ _ _ _ [some (.ref (0 + 3)), some (.int x1), some (.int x2), some (.int p5.1)] [.int x2, .ref (3 + 3), .ref ((zy_sh (x1).toNatClampNeg) + 3)] _ _ from ?_)
        obtain ⟨c8, h⟩ := zy_if h
        refine zy_26 (c := 3) rfl rfl c8 (show zyR _ _ _ _ [some (.ref (0 + 3)), some (.int x1), some (.int x2), some (.int p5.1)] [.int (p5.2.1 3 (x2).toNatClampNeg), .ref ((zy_sh (x1).toNatClampNeg) + 3)] _ _ from ?_)
        obtain ⟨p9, hp9, h⟩ := zy_bind h
        refine zy_60 (as := [.ref ((zy_sh (x1).toNatClampNeg) + 3), .int (p5.2.1 3 (x2).toNatClampNeg)]) (rest := []) (L := [some (.ref ((zy_sh (x1).toNatClampNeg) + 3)), some (.int (p5.2.1 3 (x2).toNatClampNeg)), none, none]) (d' := 4) rfl rfl (Nat.le_of_ble_eq_true rfl) (Nat.le_of_ble_eq_true rfl) rfl (Nat.le_of_ble_eq_true rfl) rfl rfl (zyC108 (zy_isSh_of (zy_in_lt c6)) hp9) ?_
        show zyR _ _ _ _ [some (.ref (0 + 3)), some (.int x1), some (.int x2), some (.int p5.1)] [.int p9.1] _ _
        obtain ⟨rfl, rfl⟩ := zy_pi h
        exact zy_4 rfl ⟨rfl, rfl⟩
      · replace h := zy_ifn h b10
        refine zy_2 rfl rfl (show zyR _ _ _ _ [some (.ref (0 + 3)), some (.int x1), some (.int x2), some (.int p5.1)] [.int p5.1] _ _ from ?_)
        refine zy_6 rfl (show zyR _ _ _ _ [some (.ref (0 + 3)), some (.int x1), some (.int x2), some (.int p5.1)] [.int p5.1] _ _ from ?_)
        obtain ⟨rfl, rfl⟩ := zy_pi h
        exact zy_4 rfl ⟨rfl, rfl⟩
    · replace h := zy_ifn h b11
      refine zy_3 rfl rfl (show zyR _ _ _ _ [some (.ref (0 + 3)), some (.int x1), some (.int x2), none] [.int (-1 : Int32)] _ _ from ?_)
      obtain ⟨rfl, rfl⟩ := zy_pi h
      exact zy_4 rfl ⟨rfl, rfl⟩
/-! NineOpinionsModel.bytesIs(I)I -/
noncomputable def zyF229   (x1 : Int32) (s : zy_S) : Option (Int32 × zy_S) :=
(zyF182 x1 s).bind fun p1 =>
if p1.1 ≠ 0 then
if zy_in x1 6 then
if 0 ≤ (p1.2.1 60 (x1).toNatClampNeg) then
if zy_in x1 6 then
if (p1.2.1 60 (x1).toNatClampNeg) ≠ (50 : Int32) then
some ((-12 : Int32), p1.2)
else
some ((1 : Int32), p1.2)
else none
else
some ((-11 : Int32), p1.2)
else none
else
some ((-1 : Int32), p1.2)
theorem zyC229 {X : zx_X}     {x1 : Int32} {s : zy_S} {r : Int32} {s' : zy_S}  (h : zyF229 x1 s = some (r, s')) : zyR X 3 229 0 [some (.ref (43 + 3)), some (.int x1)] [] s (zyE (some (.int r)) s') := by
  unfold zyF229 at h
  refine zy_2 rfl rfl (show zyR _ _ _ _ [some (.ref (43 + 3)), some (.int x1)] [.int x1] _ _ from ?_)
  obtain ⟨p1, hp1, h⟩ := zy_bind h
  refine zy_60 (as := [.int x1]) (rest := []) (L := [some (.int x1)]) (d' := 2) rfl rfl (Nat.le_of_ble_eq_true rfl) (Nat.le_of_ble_eq_true rfl) rfl (Nat.le_of_ble_eq_true rfl) rfl rfl (zyC182 hp1) ?_
  show zyR _ _ _ _ [some (.ref (43 + 3)), some (.int x1)] [.int p1.1] _ _
  refine zy_24_1 rfl (fun b6 => (show zyR _ _ _ _ [some (.ref (43 + 3)), some (.int x1)] [] _ _ from ?_)) (fun b6 => (show zyR _ _ _ _ [some (.ref (43 + 3)), some (.int x1)] [] _ _ from ?_))
  · replace h := zy_ifp h b6
    refine zy_0 rfl rfl (show zyR _ _ _ _ [some (.ref (43 + 3)), some (.int x1)] [.ref (43 + 3)] _ _ from ?_)
    refine zy_1r (c := 43) rfl rfl rfl (show zyR _ _ _ _ [some (.ref (43 + 3)), some (.int x1)] [.ref (60 + 3)] _ _ from ?_)
    refine zy_2 rfl rfl (show zyR _ _ _ _ [some (.ref (43 + 3)), some (.int x1)] [.int x1, .ref (60 + 3)] _ _ from ?_)
    obtain ⟨c2, h⟩ := zy_if h
    refine zy_26 (c := 60) rfl rfl c2 (show zyR _ _ _ _ [some (.ref (43 + 3)), some (.int x1)] [.int (p1.2.1 60 (x1).toNatClampNeg)] _ _ from ?_)
    refine zy_24_3 rfl (fun b5 => (show zyR _ _ _ _ [some (.ref (43 + 3)), some (.int x1)] [] _ _ from ?_)) (fun b5 => (show zyR _ _ _ _ [some (.ref (43 + 3)), some (.int x1)] [] _ _ from ?_))
    · replace h := zy_ifp h b5
      refine zy_0 rfl rfl (show zyR _ _ _ _ [some (.ref (43 + 3)), some (.int x1)] [.ref (43 + 3)] _ _ from ?_)
      refine zy_1r (c := 43) rfl rfl rfl (show zyR _ _ _ _ [some (.ref (43 + 3)), some (.int x1)] [.ref (60 + 3)] _ _ from ?_)
      refine zy_2 rfl rfl (show zyR _ _ _ _ [some (.ref (43 + 3)), some (.int x1)] [.int x1, .ref (60 + 3)] _ _ from ?_)
      obtain ⟨c3, h⟩ := zy_if h
      refine zy_26 (c := 60) rfl rfl c3 (show zyR _ _ _ _ [some (.ref (43 + 3)), some (.int x1)] [.int (p1.2.1 60 (x1).toNatClampNeg)] _ _ from ?_)
      refine zy_3 rfl rfl (show zyR _ _ _ _ [some (.ref (43 + 3)), some (.int x1)] [.int (50 : Int32), .int (p1.2.1 60 (x1).toNatClampNeg)] _ _ from ?_)
      refine zy_25_1 rfl (fun b4 => (show zyR _ _ _ _ [some (.ref (43 + 3)), some (.int x1)] [] _ _ from ?_)) (fun b4 => (show zyR _ _ _ _ [some (.ref (43 + 3)), some (.int x1)] [] _ _ from ?_))
      · replace h := zy_ifp h b4
        refine zy_3 rfl rfl (show zyR _ _ _ _ [some (.ref (43 + 3)), some (.int x1)] [.int (-12 : Int32)] _ _ from ?_)
        obtain ⟨rfl, rfl⟩ := zy_pi h
        exact zy_4 rfl ⟨rfl, rfl⟩
      · replace h := zy_ifn h b4
        refine zy_3 rfl rfl (show zyR _ _ _ _ [some (.ref (43 + 3)), some (.int x1)] [.int (1 : Int32)] _ _ from ?_)
        refine zy_6 rfl (show zyR _ _ _ _ [some (.ref (43 + 3)), some (.int x1)] [.int (1 : Int32)] _ _ from ?_)
        obtain ⟨rfl, rfl⟩ := zy_pi h
        exact zy_4 rfl ⟨rfl, rfl⟩
    · replace h := zy_ifn h b5
      refine zy_3 rfl rfl (show zyR _ _ _ _ [some (.ref (43 + 3)), some (.int x1)] [.int (-11 : Int32)] _ _ from ?_)
      refine zy_6 rfl (show zyR _ _ _ _ [some (.ref (43 + 3)), some (.int x1)] [.int (-11 : Int32)] _ _ from ?_)
      obtain ⟨rfl, rfl⟩ := zy_pi h
      exact zy_4 rfl ⟨rfl, rfl⟩
  · replace h := zy_ifn h b6
    refine zy_3 rfl rfl (show zyR _ _ _ _ [some (.ref (43 + 3)), some (.int x1)] [.int (-1 : Int32)] _ _ from ?_)
    refine zy_6 rfl (show zyR _ _ _ _ [some (.ref (43 + 3)), some (.int x1)] [.int (-1 : Int32)] _ _ from ?_)
    obtain ⟨rfl, rfl⟩ := zy_pi h
    exact zy_4 rfl ⟨rfl, rfl⟩
end
section
/-! PART 41.12: methods as functions. Made by wip/v4/dcp.py. -/
/-! NineOpinionsModel.firstFalse(II)I -/
noncomputable def zyF230_92  (k2 : Int32 → Int32 → Int32 → zy_S → Option (Int32 × zy_S)) (x1 : Int32) (x2 : Int32) (x3 : Int32) (y0 : Int64) (y1 : Int64) (s : zy_S) : Option (Int32 × zy_S) :=
if (lg_cmp y1 y0) = 0 then
k2 x1 x2 (x3 + (1 : Int32)) s
else
some (x3, s)
theorem zyC230_92 {X : zx_X}  {k2 : Int32 → Int32 → Int32 → zy_S → Option (Int32 × zy_S)}  (hk2 : ∀ (x1 : Int32) (x2 : Int32) (x3 : Int32) (s : zy_S) (r : Int32) (s' : zy_S), k2 x1 x2 x3 s = some (r, s') → zyR X 3 230 2 [some (.ref (43 + 3)), some (.int x1), some (.int x2), some (.int x3), none, none] [] s (zyE (some (.int r)) s')) {x1 : Int32} {x2 : Int32} {x3 : Int32} {y0 : Int64} {y1 : Int64} {s : zy_S} {r : Int32} {s' : zy_S}  (h : zyF230_92 k2 x1 x2 x3 y0 y1 s = some (r, s')) : zyR X 3 230 92 [some (.ref (43 + 3)), some (.int x1), some (.int x2), some (.int x3), none, none] [.long y0, .long y1] s (zyE (some (.int r)) s') := by
  unfold zyF230_92 at h
  refine zy_44 rfl (show zyR _ _ _ _ [some (.ref (43 + 3)), some (.int x1), some (.int x2), some (.int x3), none, none] [.int (lg_cmp y1 y0)] _ _ from ?_)
  refine zy_24_0 rfl (fun b1 => (show zyR _ _ _ _ [some (.ref (43 + 3)), some (.int x1), some (.int x2), some (.int x3), none, none] [] _ _ from ?_)) (fun b1 => (show zyR _ _ _ _ [some (.ref (43 + 3)), some (.int x1), some (.int x2), some (.int x3), none, none] [] _ _ from ?_))
  · replace h := zy_ifp h b1
    refine zy_22 rfl rfl rfl rfl (show zyR _ _ _ _ [some (.ref (43 + 3)), some (.int x1), some (.int x2), some (.int (x3 + (1 : Int32))), none, none] [] _ _ from ?_)
    refine zy_6 rfl (show zyR _ _ _ _ [some (.ref (43 + 3)), some (.int x1), some (.int x2), some (.int (x3 + (1 : Int32))), none, none] [] _ _ from ?_)
    exact zy_sub (show zy_le [some (.ref (43 + 3)), some (.int x1), some (.int x2), some (.int (x3 + (1 : Int32))), none, none] [some (.ref (43 + 3)), some (.int x1), some (.int x2), some (.int (x3 + (1 : Int32))), none, none] from ⟨rfl, ⟨rfl, ⟨rfl, ⟨rfl, trivial⟩⟩⟩⟩) (hk2 x1 x2 (x3 + (1 : Int32)) s _ _ h)
  · replace h := zy_ifn h b1
    refine zy_2 rfl rfl (show zyR _ _ _ _ [some (.ref (43 + 3)), some (.int x1), some (.int x2), some (.int x3), none, none] [.int x3] _ _ from ?_)
    obtain ⟨rfl, rfl⟩ := zy_pi h
    exact zy_4 rfl ⟨rfl, rfl⟩
noncomputable def zyF230_2b  (k2 : Int32 → Int32 → Int32 → zy_S → Option (Int32 × zy_S)) (x1 : Int32) (x2 : Int32) (x3 : Int32) (s : zy_S) : Option (Int32 × zy_S) :=
if zy_in x1 6 then
if (s.1 61 (x1).toNatClampNeg) ≤ ((2 : Int32) * x3) then
some ((-2 : Int32), s)
else
if zy_in x1 6 then
if (s.1 61 (x1).toNatClampNeg) ≤ (((2 : Int32) * x3) + (1 : Int32)) then
some (x3, s)
else
if zy_in (((60 : Int32) * x1) + ((2 : Int32) * x3)) 360 then
(zyF186 (s.2.1 62 ((((60 : Int32) * x1) + ((2 : Int32) * x3))).toNatClampNeg) s).bind fun p5 =>
if p5.1 ≠ 0 then
if zy_in (((60 : Int32) * x1) + ((2 : Int32) * x3)) 360 then
if zy_in ((((60 : Int32) * x1) + ((2 : Int32) * x3)) + (1 : Int32)) 360 then
(zyF206 x2 (((p5.2.2.1 62 ((((60 : Int32) * x1) + ((2 : Int32) * x3))).toNatClampNeg)).toInt32 / (4 : Int32)) p5.2).bind fun p8 =>
if p8.1 ≠ (((p5.2.2.1 62 ((((60 : Int32) * x1) + ((2 : Int32) * x3))).toNatClampNeg)).toInt32 - ((p5.2.2.1 62 ((((60 : Int32) * x1) + ((2 : Int32) * x3))).toNatClampNeg)).toInt32 / (4 : Int32) * (4 : Int32)) then
zyF230_92 k2 x1 x2 x3 (1 : Int64) (p5.2.2.1 62 (((((60 : Int32) * x1) + ((2 : Int32) * x3)) + (1 : Int32))).toNatClampNeg) p8.2
else
zyF230_92 k2 x1 x2 x3 (0 : Int64) (p5.2.2.1 62 (((((60 : Int32) * x1) + ((2 : Int32) * x3)) + (1 : Int32))).toNatClampNeg) p8.2
else none
else none
else
some (x3, p5.2)
else none
else none
else none
theorem zyC230_2b {X : zx_X}  {k2 : Int32 → Int32 → Int32 → zy_S → Option (Int32 × zy_S)}  (hk2 : ∀ (x1 : Int32) (x2 : Int32) (x3 : Int32) (s : zy_S) (r : Int32) (s' : zy_S), k2 x1 x2 x3 s = some (r, s') → zyR X 3 230 2 [some (.ref (43 + 3)), some (.int x1), some (.int x2), some (.int x3), none, none] [] s (zyE (some (.int r)) s')) {x1 : Int32} {x2 : Int32} {x3 : Int32} {s : zy_S} {r : Int32} {s' : zy_S}  (h : zyF230_2b k2 x1 x2 x3 s = some (r, s')) : zyR X 3 230 2 [some (.ref (43 + 3)), some (.int x1), some (.int x2), some (.int x3), none, none] [] s (zyE (some (.int r)) s') := by
  unfold zyF230_2b at h
  refine zy_3 rfl rfl (show zyR _ _ _ _ [some (.ref (43 + 3)), some (.int x1), some (.int x2), some (.int x3), none, none] [.int (2 : Int32)] _ _ from ?_)
  refine zy_2 rfl rfl (show zyR _ _ _ _ [some (.ref (43 + 3)), some (.int x1), some (.int x2), some (.int x3), none, none] [.int x3, .int (2 : Int32)] _ _ from ?_)
  refine zy_12 rfl (show zyR _ _ _ _ [some (.ref (43 + 3)), some (.int x1), some (.int x2), some (.int x3), none, none] [.int ((2 : Int32) * x3)] _ _ from ?_)
  refine zy_0 rfl rfl (show zyR _ _ _ _ [some (.ref (43 + 3)), some (.int x1), some (.int x2), some (.int x3), none, none] [.ref (43 + 3), .int ((2 : Int32) * x3)] _ _ from ?_)
  refine zy_1r (c := 43) rfl rfl rfl (show zyR _ _ _ _ [some (.ref (43 + 3)), some (.int x1), some (.int x2), some (.int x3), none, none] [.ref (61 + 3), .int ((2 : Int32) * x3)] _ _ from ?_)
  refine zy_2 rfl rfl (show zyR _ _ _ _ [some (.ref (43 + 3)), some (.int x1), some (.int x2), some (.int x3), none, none] [.int x1, .ref (61 + 3), .int ((2 : Int32) * x3)] _ _ from ?_)
  obtain ⟨c2, h⟩ := zy_if h
  refine zy_26 (c := 61) rfl rfl c2 (show zyR _ _ _ _ [some (.ref (43 + 3)), some (.int x1), some (.int x2), some (.int x3), none, none] [.int (s.1 61 (x1).toNatClampNeg), .int ((2 : Int32) * x3)] _ _ from ?_)
  refine zy_25_3 rfl (fun b12 => (show zyR _ _ _ _ [some (.ref (43 + 3)), some (.int x1), some (.int x2), some (.int x3), none, none] [] _ _ from ?_)) (fun b12 => (show zyR _ _ _ _ [some (.ref (43 + 3)), some (.int x1), some (.int x2), some (.int x3), none, none] [] _ _ from ?_))
  · replace h := zy_ifp h b12
    refine zy_3 rfl rfl (show zyR _ _ _ _ [some (.ref (43 + 3)), some (.int x1), some (.int x2), some (.int x3), none, none] [.int (-2 : Int32)] _ _ from ?_)
    obtain ⟨rfl, rfl⟩ := zy_pi h
    exact zy_4 rfl ⟨rfl, rfl⟩
  · replace h := zy_ifn h b12
    refine zy_3 rfl rfl (show zyR _ _ _ _ [some (.ref (43 + 3)), some (.int x1), some (.int x2), some (.int x3), none, none] [.int (60 : Int32)] _ _ from ?_)
    refine zy_2 rfl rfl (show zyR _ _ _ _ [some (.ref (43 + 3)), some (.int x1), some (.int x2), some (.int x3), none, none] [.int x1, .int (60 : Int32)] _ _ from ?_)
    refine zy_12 rfl (show zyR _ _ _ _ [some (.ref (43 + 3)), some (.int x1), some (.int x2), some (.int x3), none, none] [.int ((60 : Int32) * x1)] _ _ from ?_)
    refine zy_3 rfl rfl (show zyR _ _ _ _ [some (.ref (43 + 3)), some (.int x1), some (.int x2), some (.int x3), none, none] [.int (2 : Int32), .int ((60 : Int32) * x1)] _ _ from ?_)
    refine zy_2 rfl rfl (show zyR _ _ _ _ [some (.ref (43 + 3)), some (.int x1), some (.int x2), some (.int x3), none, none] [.int x3, .int (2 : Int32), .int ((60 : Int32) * x1)] _ _ from ?_)
    refine zy_12 rfl (show zyR _ _ _ _ [some (.ref (43 + 3)), some (.int x1), some (.int x2), some (.int x3), none, none] [.int ((2 : Int32) * x3), .int ((60 : Int32) * x1)] _ _ from ?_)
    refine zy_10 rfl (show zyR _ _ _ _ [some (.ref (43 + 3)), some (.int x1), some (.int x2), some (.int x3), none, none] [.int (((60 : Int32) * x1) + ((2 : Int32) * x3))] _ _ from ?_)
    refine zy_23 rfl rfl (show zyR _ _ _ _ [some (.ref (43 + 3)), some (.int x1), some (.int x2), some (.int x3), some (.int (((60 : Int32) * x1) + ((2 : Int32) * x3))), none] [] _ _ from ?_)
    refine zy_3 rfl rfl (show zyR _ _ _ _ [some (.ref (43 + 3)), some (.int x1), some (.int x2), some (.int x3), some (.int (((60 : Int32) * x1) + ((2 : Int32) * x3))), none] [.int (2 : Int32)] _ _ from ?_)
    refine zy_2 rfl rfl (show zyR _ _ _ _ [some (.ref (43 + 3)), some (.int x1), some (.int x2), some (.int x3), some (.int (((60 : Int32) * x1) + ((2 : Int32) * x3))), none] [.int x3, .int (2 : Int32)] _ _ from ?_)
    refine zy_12 rfl (show zyR _ _ _ _ [some (.ref (43 + 3)), some (.int x1), some (.int x2), some (.int x3), some (.int (((60 : Int32) * x1) + ((2 : Int32) * x3))), none] [.int ((2 : Int32) * x3)] _ _ from ?_)
    refine zy_3 rfl rfl (show zyR _ _ _ _ [some (.ref (43 + 3)), some (.int x1), some (.int x2), some (.int x3), some (.int (((60 : Int32) * x1) + ((2 : Int32) * x3))), none] [.int (1 : Int32), .int ((2 : Int32) * x3)] _ _ from ?_)
    refine zy_10 rfl (show zyR _ _ _ _ [some (.ref (43 + 3)), some (.int x1), some (.int x2), some (.int x3), some (.int (((60 : Int32) * x1) + ((2 : Int32) * x3))), none] [.int (((2 : Int32) * x3) + (1 : Int32))] _ _ from ?_)
    refine zy_0 rfl rfl (show zyR _ _ _ _ [some (.ref (43 + 3)), some (.int x1), some (.int x2), some (.int x3), some (.int (((60 : Int32) * x1) + ((2 : Int32) * x3))), none] [.ref (43 + 3), .int (((2 : Int32) * x3) + (1 : Int32))] _ _ from ?_)
    refine zy_1r (c := 43) rfl rfl rfl (show zyR _ _ _ _ [some (.ref (43 + 3)), some (.int x1), some (.int x2), some (.int x3), some (.int (((60 : Int32) * x1) + ((2 : Int32) * x3))), none] [.ref (61 + 3), .int (((2 : Int32) * x3) + (1 : Int32))] _ _ from ?_)
    refine zy_2 rfl rfl (show zyR _ _ _ _ [some (.ref (43 + 3)), some (.int x1), some (.int x2), some (.int x3), some (.int (((60 : Int32) * x1) + ((2 : Int32) * x3))), none] [.int x1, .ref (61 + 3), .int (((2 : Int32) * x3) + (1 : Int32))] _ _ from ?_)
    obtain ⟨c3, h⟩ := zy_if h
    refine zy_26 (c := 61) rfl rfl c3 (show zyR _ _ _ _ [some (.ref (43 + 3)), some (.int x1), some (.int x2), some (.int x3), some (.int (((60 : Int32) * x1) + ((2 : Int32) * x3))), none] [.int (s.1 61 (x1).toNatClampNeg), .int (((2 : Int32) * x3) + (1 : Int32))] _ _ from ?_)
    refine zy_25_3 rfl (fun b11 => (show zyR _ _ _ _ [some (.ref (43 + 3)), some (.int x1), some (.int x2), some (.int x3), some (.int (((60 : Int32) * x1) + ((2 : Int32) * x3))), none] [] _ _ from ?_)) (fun b11 => (show zyR _ _ _ _ [some (.ref (43 + 3)), some (.int x1), some (.int x2), some (.int x3), some (.int (((60 : Int32) * x1) + ((2 : Int32) * x3))), none] [] _ _ from ?_))
    · replace h := zy_ifp h b11
      refine zy_2 rfl rfl (show zyR _ _ _ _ [some (.ref (43 + 3)), some (.int x1), some (.int x2), some (.int x3), some (.int (((60 : Int32) * x1) + ((2 : Int32) * x3))), none] [.int x3] _ _ from ?_)
      obtain ⟨rfl, rfl⟩ := zy_pi h
      exact zy_4 rfl ⟨rfl, rfl⟩
    · replace h := zy_ifn h b11
      refine zy_0 rfl rfl (show zyR _ _ _ _ [some (.ref (43 + 3)), some (.int x1), some (.int x2), some (.int x3), some (.int (((60 : Int32) * x1) + ((2 : Int32) * x3))), none] [.ref (43 + 3)] _ _ from ?_)
      refine zy_1r (c := 43) rfl rfl rfl (show zyR _ _ _ _ [some (.ref (43 + 3)), some (.int x1), some (.int x2), some (.int x3), some (.int (((60 : Int32) * x1) + ((2 : Int32) * x3))), none] [.ref (62 + 3)] _ _ from ?_)
      refine zy_2 rfl rfl (show zyR _ _ _ _ [some (.ref (43 + 3)), some (.int x1), some (.int x2), some (.int x3), some (.int (((60 : Int32) * x1) + ((2 : Int32) * x3))), none] [.int (((60 : Int32) * x1) + ((2 : Int32) * x3)), .ref (62 + 3)] _ _ from ?_)
      obtain ⟨c4, h⟩ := zy_if h
      refine zy_30 (c := 62) rfl rfl c4 (show zyR _ _ _ _ [some (.ref (43 + 3)), some (.int x1), some (.int x2), some (.int x3), some (.int (((60 : Int32) * x1) + ((2 : Int32) * x3))), none] [.long (s.2.1 62 ((((60 : Int32) * x1) + ((2 : Int32) * x3))).toNatClampNeg)] _ _ from ?_)
      obtain ⟨p5, hp5, h⟩ := zy_bind h
      refine zy_60 (as := [.long (s.2.1 62 ((((60 : Int32) * x1) + ((2 : Int32) * x3))).toNatClampNeg)]) (rest := []) (L := [some (.long (s.2.1 62 ((((60 : Int32) * x1) + ((2 : Int32) * x3))).toNatClampNeg)), none]) (d' := 2) rfl rfl (Nat.le_of_ble_eq_true rfl) (Nat.le_of_ble_eq_true rfl) rfl (Nat.le_of_ble_eq_true rfl) rfl rfl (zyC186 hp5) ?_
      show zyR _ _ _ _ [some (.ref (43 + 3)), some (.int x1), some (.int x2), some (.int x3), some (.int (((60 : Int32) * x1) + ((2 : Int32) * x3))), none] [.int p5.1] _ _
      refine zy_24_1 rfl (fun b10 => (show zyR _ _ _ _ [some (.ref (43 + 3)), some (.int x1), some (.int x2), some (.int x3), some (.int (((60 : Int32) * x1) + ((2 : Int32) * x3))), none] [] _ _ from ?_)) (fun b10 => (show zyR _ _ _ _ [some (.ref (43 + 3)), some (.int x1), some (.int x2), some (.int x3), some (.int (((60 : Int32) * x1) + ((2 : Int32) * x3))), none] [] _ _ from ?_))
      · replace h := zy_ifp h b10
        refine zy_0 rfl rfl (show zyR _ _ _ _ [some (.ref (43 + 3)), some (.int x1), some (.int x2), some (.int x3), some (.int (((60 : Int32) * x1) + ((2 : Int32) * x3))), none] [.ref (43 + 3)] _ _ from ?_)
        refine zy_1r (c := 43) rfl rfl rfl (show zyR _ _ _ _ [some (.ref (43 + 3)), some (.int x1), some (.int x2), some (.int x3), some (.int (((60 : Int32) * x1) + ((2 : Int32) * x3))), none] [.ref (62 + 3)] _ _ from ?_)
        refine zy_2 rfl rfl (show zyR _ _ _ _ [some (.ref (43 + 3)), some (.int x1), some (.int x2), some (.int x3), some (.int (((60 : Int32) * x1) + ((2 : Int32) * x3))), none] [.int (((60 : Int32) * x1) + ((2 : Int32) * x3)), .ref (62 + 3)] _ _ from ?_)
        obtain ⟨c6, h⟩ := zy_if h
        refine zy_30 (c := 62) rfl rfl c6 (show zyR _ _ _ _ [some (.ref (43 + 3)), some (.int x1), some (.int x2), some (.int x3), some (.int (((60 : Int32) * x1) + ((2 : Int32) * x3))), none] [.long (p5.2.2.1 62 ((((60 : Int32) * x1) + ((2 : Int32) * x3))).toNatClampNeg)] _ _ from ?_)
        refine zy_41 rfl (show zyR _ _ _ _ [some (.ref (43 + 3)), some (.int x1), some (.int x2), some (.int x3), some (.int (((60 : Int32) * x1) + ((2 : Int32) * x3))), none] [.int ((p5.2.2.1 62 ((((60 : Int32) * x1) + ((2 : Int32) * x3))).toNatClampNeg)).toInt32] _ _ from ?_)
        refine zy_23 rfl rfl (show zyR _ _ _ _ [some (.ref (43 + 3)), some (.int x1), some (.int x2), some (.int x3), some (.int (((60 : Int32) * x1) + ((2 : Int32) * x3))), some (.int ((p5.2.2.1 62 ((((60 : Int32) * x1) + ((2 : Int32) * x3))).toNatClampNeg)).toInt32)] [] _ _ from ?_)
        refine zy_0 rfl rfl (show zyR _ _ _ _ [some (.ref (43 + 3)), some (.int x1), some (.int x2), some (.int x3), some (.int (((60 : Int32) * x1) + ((2 : Int32) * x3))), some (.int ((p5.2.2.1 62 ((((60 : Int32) * x1) + ((2 : Int32) * x3))).toNatClampNeg)).toInt32)] [.ref (43 + 3)] _ _ from ?_)
        refine zy_1r (c := 43) rfl rfl rfl (show zyR _ _ _ _ [some (.ref (43 + 3)), some (.int x1), some (.int x2), some (.int x3), some (.int (((60 : Int32) * x1) + ((2 : Int32) * x3))), some (.int ((p5.2.2.1 62 ((((60 : Int32) * x1) + ((2 : Int32) * x3))).toNatClampNeg)).toInt32)] [.ref (62 + 3)] _ _ from ?_)
        refine zy_2 rfl rfl (show zyR _ _ _ _ [some (.ref (43 + 3)), some (.int x1), some (.int x2), some (.int x3), some (.int (((60 : Int32) * x1) + ((2 : Int32) * x3))), some (.int ((p5.2.2.1 62 ((((60 : Int32) * x1) + ((2 : Int32) * x3))).toNatClampNeg)).toInt32)] [.int (((60 : Int32) * x1) + ((2 : Int32) * x3)), .ref (62 + 3)] _ _ from ?_)
        refine zy_3 rfl rfl (show zyR _ _ _ _ [some (.ref (43 + 3)), some (.int x1), some (.int x2), some (.int x3), some (.int (((60 : Int32) * x1) + ((2 : Int32) * x3))), some (.int ((p5.2.2.1 62 ((((60 : Int32) * x1) + ((2 : Int32) * x3))).toNatClampNeg)).toInt32)] [.int (1 : Int32), .int (((60 : Int32) * x1) + ((2 : Int32) * x3)), .ref (62 + 3)] _ _ from ?_)
        refine zy_10 rfl (show zyR _ _ _ _ [some (.ref (43 + 3)), some (.int x1), some (.int x2), some (.int x3), some (.int (((60 : Int32) * x1) + ((2 : Int32) * x3))), some (.int ((p5.2.2.1 62 ((((60 : Int32) * x1) + ((2 : Int32) * x3))).toNatClampNeg)).toInt32)] [.int ((((60 : Int32) * x1) + ((2 : Int32) * x3)) + (1 : Int32)), .ref (62 + 3)] _ _ from ?_)
        obtain ⟨c7, h⟩ := zy_if h
        refine zy_30 (c := 62) rfl rfl c7 (show zyR _ _ _ _ [some (.ref (43 + 3)), some (.int x1), some (.int x2), some (.int x3), some (.int (((60 : Int32) * x1) + ((2 : Int32) * x3))), some (.int ((p5.2.2.1 62 ((((60 : Int32) * x1) + ((2 : Int32) * x3))).toNatClampNeg)).toInt32)] [.long (p5.2.2.1 62 (((((60 : Int32) * x1) + ((2 : Int32) * x3)) + (1 : Int32))).toNatClampNeg)] _ _ from ?_)
        refine zy_2 rfl rfl (show zyR _ _ _ _ [some (.ref (43 + 3)), some (.int x1), some (.int x2), some (.int x3), some (.int (((60 : Int32) * x1) + ((2 : Int32) * x3))), some (.int ((p5.2.2.1 62 ((((60 : Int32) * x1) + ((2 : Int32) * x3))).toNatClampNeg)).toInt32)] [.int x2, .long (p5.2.2.1 62 (((((60 : Int32) * x1) + ((2 : Int32) * x3)) + (1 : Int32))).toNatClampNeg)] _ _ from ?_)
        refine zy_2 rfl rfl (show zyR _ _ _ _ [some (.ref (43 + 3)), some (.int x1), some (.int x2), some (.int x3), some (.int (((60 : Int32) * x1) + ((2 : Int32) * x3))), some (.int ((p5.2.2.1 62 ((((60 : Int32) * x1) + ((2 : Int32) * x3))).toNatClampNeg)).toInt32)] [.int ((p5.2.2.1 62 ((((60 : Int32) * x1) + ((2 : Int32) * x3))).toNatClampNeg)).toInt32, .int x2, .long (p5.2.2.1 62 (((((60 : Int32) * x1) + ((2 : Int32) * x3)) + (1 : Int32))).toNatClampNeg)] _ _ from ?_)
        refine zy_3 rfl rfl (show zyR _ _ _ _ [some (.ref (43 + 3)), some (.int x1), some (.int x2), some (.int x3), some (.int (((60 : Int32) * x1) + ((2 : Int32) * x3))), some (.int ((p5.2.2.1 62 ((((60 : Int32) * x1) + ((2 : Int32) * x3))).toNatClampNeg)).toInt32)] [.int (4 : Int32), .int ((p5.2.2.1 62 ((((60 : Int32) * x1) + ((2 : Int32) * x3))).toNatClampNeg)).toInt32, .int x2, .long (p5.2.2.1 62 (((((60 : Int32) * x1) + ((2 : Int32) * x3)) + (1 : Int32))).toNatClampNeg)] _ _ from ?_)
        refine zy_19 rfl (by decide) (show zyR _ _ _ _ [some (.ref (43 + 3)), some (.int x1), some (.int x2), some (.int x3), some (.int (((60 : Int32) * x1) + ((2 : Int32) * x3))), some (.int ((p5.2.2.1 62 ((((60 : Int32) * x1) + ((2 : Int32) * x3))).toNatClampNeg)).toInt32)] [.int (((p5.2.2.1 62 ((((60 : Int32) * x1) + ((2 : Int32) * x3))).toNatClampNeg)).toInt32 / (4 : Int32)), .int x2, .long (p5.2.2.1 62 (((((60 : Int32) * x1) + ((2 : Int32) * x3)) + (1 : Int32))).toNatClampNeg)] _ _ from ?_)
        obtain ⟨p8, hp8, h⟩ := zy_bind h
        refine zy_60 (as := [.int x2, .int (((p5.2.2.1 62 ((((60 : Int32) * x1) + ((2 : Int32) * x3))).toNatClampNeg)).toInt32 / (4 : Int32))]) (rest := [.long (p5.2.2.1 62 (((((60 : Int32) * x1) + ((2 : Int32) * x3)) + (1 : Int32))).toNatClampNeg)]) (L := [some (.int x2), some (.int (((p5.2.2.1 62 ((((60 : Int32) * x1) + ((2 : Int32) * x3))).toNatClampNeg)).toInt32 / (4 : Int32)))]) (d' := 1) rfl rfl (Nat.le_of_ble_eq_true rfl) (Nat.le_of_ble_eq_true rfl) rfl (Nat.le_of_ble_eq_true rfl) rfl rfl (zyC206 hp8) ?_
        show zyR _ _ _ _ [some (.ref (43 + 3)), some (.int x1), some (.int x2), some (.int x3), some (.int (((60 : Int32) * x1) + ((2 : Int32) * x3))), some (.int ((p5.2.2.1 62 ((((60 : Int32) * x1) + ((2 : Int32) * x3))).toNatClampNeg)).toInt32)] [.int p8.1, .long (p5.2.2.1 62 (((((60 : Int32) * x1) + ((2 : Int32) * x3)) + (1 : Int32))).toNatClampNeg)] _ _
        refine zy_2 rfl rfl (show zyR _ _ _ _ [some (.ref (43 + 3)), some (.int x1), some (.int x2), some (.int x3), some (.int (((60 : Int32) * x1) + ((2 : Int32) * x3))), some (.int ((p5.2.2.1 62 ((((60 : Int32) * x1) + ((2 : Int32) * x3))).toNatClampNeg)).toInt32)] [.int ((p5.2.2.1 62 ((((60 : Int32) * x1) + ((2 : Int32) * x3))).toNatClampNeg)).toInt32, .int p8.1, .long (p5.2.2.1 62 (((((60 : Int32) * x1) + ((2 : Int32) * x3)) + (1 : Int32))).toNatClampNeg)] _ _ from ?_)
        refine zy_3 rfl rfl (show zyR _ _ _ _ [some (.ref (43 + 3)), some (.int x1), some (.int x2), some (.int x3), some (.int (((60 : Int32) * x1) + ((2 : Int32) * x3))), some (.int ((p5.2.2.1 62 ((((60 : Int32) * x1) + ((2 : Int32) * x3))).toNatClampNeg)).toInt32)] [.int (4 : Int32), .int ((p5.2.2.1 62 ((((60 : Int32) * x1) + ((2 : Int32) * x3))).toNatClampNeg)).toInt32, .int p8.1, .long (p5.2.2.1 62 (((((60 : Int32) * x1) + ((2 : Int32) * x3)) + (1 : Int32))).toNatClampNeg)] _ _ from ?_)
        refine zy_20 rfl (by decide) (show zyR _ _ _ _ [some (.ref (43 + 3)), some (.int x1), some (.int x2), some (.int x3), some (.int (((60 : Int32) * x1) + ((2 : Int32) * x3))), some (.int ((p5.2.2.1 62 ((((60 : Int32) * x1) + ((2 : Int32) * x3))).toNatClampNeg)).toInt32)] [.int (((p5.2.2.1 62 ((((60 : Int32) * x1) + ((2 : Int32) * x3))).toNatClampNeg)).toInt32 - ((p5.2.2.1 62 ((((60 : Int32) * x1) + ((2 : Int32) * x3))).toNatClampNeg)).toInt32 / (4 : Int32) * (4 : Int32)), .int p8.1, .long (p5.2.2.1 62 (((((60 : Int32) * x1) + ((2 : Int32) * x3)) + (1 : Int32))).toNatClampNeg)] _ _ from ?_)
        refine zy_25_1 rfl (fun b9 => (show zyR _ _ _ _ [some (.ref (43 + 3)), some (.int x1), some (.int x2), some (.int x3), some (.int (((60 : Int32) * x1) + ((2 : Int32) * x3))), some (.int ((p5.2.2.1 62 ((((60 : Int32) * x1) + ((2 : Int32) * x3))).toNatClampNeg)).toInt32)] [.long (p5.2.2.1 62 (((((60 : Int32) * x1) + ((2 : Int32) * x3)) + (1 : Int32))).toNatClampNeg)] _ _ from ?_)) (fun b9 => (show zyR _ _ _ _ [some (.ref (43 + 3)), some (.int x1), some (.int x2), some (.int x3), some (.int (((60 : Int32) * x1) + ((2 : Int32) * x3))), some (.int ((p5.2.2.1 62 ((((60 : Int32) * x1) + ((2 : Int32) * x3))).toNatClampNeg)).toInt32)] [.long (p5.2.2.1 62 (((((60 : Int32) * x1) + ((2 : Int32) * x3)) + (1 : Int32))).toNatClampNeg)] _ _ from ?_))
        · replace h := zy_ifp h b9
          refine zy_36 rfl rfl (show zyR _ _ _ _ [some (.ref (43 + 3)), some (.int x1), some (.int x2), some (.int x3), some (.int (((60 : Int32) * x1) + ((2 : Int32) * x3))), some (.int ((p5.2.2.1 62 ((((60 : Int32) * x1) + ((2 : Int32) * x3))).toNatClampNeg)).toInt32)] [.long (1 : Int64), .long (p5.2.2.1 62 (((((60 : Int32) * x1) + ((2 : Int32) * x3)) + (1 : Int32))).toNatClampNeg)] _ _ from ?_)
          exact zy_sub (show zy_le [some (.ref (43 + 3)), some (.int x1), some (.int x2), some (.int x3), none, none] [some (.ref (43 + 3)), some (.int x1), some (.int x2), some (.int x3), some (.int (((60 : Int32) * x1) + ((2 : Int32) * x3))), some (.int ((p5.2.2.1 62 ((((60 : Int32) * x1) + ((2 : Int32) * x3))).toNatClampNeg)).toInt32)] from ⟨rfl, ⟨rfl, ⟨rfl, ⟨rfl, trivial⟩⟩⟩⟩) (zyC230_92 hk2 h)
        · replace h := zy_ifn h b9
          refine zy_36 rfl rfl (show zyR _ _ _ _ [some (.ref (43 + 3)), some (.int x1), some (.int x2), some (.int x3), some (.int (((60 : Int32) * x1) + ((2 : Int32) * x3))), some (.int ((p5.2.2.1 62 ((((60 : Int32) * x1) + ((2 : Int32) * x3))).toNatClampNeg)).toInt32)] [.long (0 : Int64), .long (p5.2.2.1 62 (((((60 : Int32) * x1) + ((2 : Int32) * x3)) + (1 : Int32))).toNatClampNeg)] _ _ from ?_)
          refine zy_6 rfl (show zyR _ _ _ _ [some (.ref (43 + 3)), some (.int x1), some (.int x2), some (.int x3), some (.int (((60 : Int32) * x1) + ((2 : Int32) * x3))), some (.int ((p5.2.2.1 62 ((((60 : Int32) * x1) + ((2 : Int32) * x3))).toNatClampNeg)).toInt32)] [.long (0 : Int64), .long (p5.2.2.1 62 (((((60 : Int32) * x1) + ((2 : Int32) * x3)) + (1 : Int32))).toNatClampNeg)] _ _ from ?_)
          exact zy_sub (show zy_le [some (.ref (43 + 3)), some (.int x1), some (.int x2), some (.int x3), none, none] [some (.ref (43 + 3)), some (.int x1), some (.int x2), some (.int x3), some (.int (((60 : Int32) * x1) + ((2 : Int32) * x3))), some (.int ((p5.2.2.1 62 ((((60 : Int32) * x1) + ((2 : Int32) * x3))).toNatClampNeg)).toInt32)] from ⟨rfl, ⟨rfl, ⟨rfl, ⟨rfl, trivial⟩⟩⟩⟩) (zyC230_92 hk2 h)
      · replace h := zy_ifn h b10
        refine zy_2 rfl rfl (show zyR _ _ _ _ [some (.ref (43 + 3)), some (.int x1), some (.int x2), some (.int x3), some (.int (((60 : Int32) * x1) + ((2 : Int32) * x3))), none] [.int x3] _ _ from ?_)
        obtain ⟨rfl, rfl⟩ := zy_pi h
        exact zy_4 rfl ⟨rfl, rfl⟩
noncomputable def zyF230_2   (n : Nat) : Int32 → Int32 → Int32 → zy_S → Option (Int32 × zy_S) := Nat.rec (fun _ _ _ _ => none) (fun _ k2 => zyF230_2b k2) n
theorem zyC230_2 {X : zx_X}     : ∀ (n : Nat) (x1 : Int32) (x2 : Int32) (x3 : Int32) (s : zy_S) (r : Int32) (s' : zy_S), zyF230_2 n x1 x2 x3 s = some (r, s') → zyR X 3 230 2 [some (.ref (43 + 3)), some (.int x1), some (.int x2), some (.int x3), none, none] [] s (zyE (some (.int r)) s')
  | 0, _, _, _ => by
    intro s r s'  h
    have h : (none : Option (Int32 × zy_S)) = some (r, s') := h
    cases h
  | n + 1, x1, x2, x3 => by
    intro s r s'  h
    exact zyC230_2b (k2 := zyF230_2 n) (fun x1 x2 x3 s r s'  h => zyC230_2  n x1 x2 x3 s r s'  h) h
noncomputable def zyF230   (x1 : Int32) (x2 : Int32) (s : zy_S) : Option (Int32 × zy_S) :=
zyF230_2 zy_fu x1 x2 (0 : Int32) s
theorem zyC230 {X : zx_X}     {x1 : Int32} {x2 : Int32} {s : zy_S} {r : Int32} {s' : zy_S}  (h : zyF230 x1 x2 s = some (r, s')) : zyR X 3 230 0 [some (.ref (43 + 3)), some (.int x1), some (.int x2), none, none, none] [] s (zyE (some (.int r)) s') := by
  unfold zyF230 at h
  refine zy_3 rfl rfl (show zyR _ _ _ _ [some (.ref (43 + 3)), some (.int x1), some (.int x2), none, none, none] [.int (0 : Int32)] _ _ from ?_)
  refine zy_23 rfl rfl (show zyR _ _ _ _ [some (.ref (43 + 3)), some (.int x1), some (.int x2), some (.int (0 : Int32)), none, none] [] _ _ from ?_)
  exact zy_sub (show zy_le [some (.ref (43 + 3)), some (.int x1), some (.int x2), some (.int (0 : Int32)), none, none] [some (.ref (43 + 3)), some (.int x1), some (.int x2), some (.int (0 : Int32)), none, none] from ⟨rfl, ⟨rfl, ⟨rfl, ⟨rfl, trivial⟩⟩⟩⟩) (zyC230_2 zy_fu x1 x2 (0 : Int32) s _ _ h)
/-! NineOpinionsModel.judge(II)I -/
noncomputable def zyF228   (x1 : Int32) (x2 : Int32) (s : zy_S) : Option (Int32 × zy_S) :=
(zyF229 x1 s).bind fun p1 =>
if p1.1 = (-1 : Int32) then
some ((-1 : Int32), p1.2)
else
(zyF185 (x2).toInt64 p1.2).bind fun p2 =>
if p2.1 ≠ 0 then
(zyF229 x1 p2.2).bind fun p3 =>
if 0 ≤ p3.1 then
if zy_in x2 41 then
(zyF230 x1 (p3.2.1 44 (x2).toNatClampNeg) p3.2).bind fun p5 =>
some (p5.1, p5.2)
else none
else
(zyF229 x1 p3.2).bind fun p6 =>
some (p6.1, p6.2)
else
some ((-1 : Int32), p2.2)
theorem zyC228 {X : zx_X}     {x1 : Int32} {x2 : Int32} {s : zy_S} {r : Int32} {s' : zy_S}  (h : zyF228 x1 x2 s = some (r, s')) : zyR X 4 228 0 [some (.ref (43 + 3)), some (.int x1), some (.int x2)] [] s (zyE (some (.int r)) s') := by
  unfold zyF228 at h
  refine zy_0 rfl rfl (show zyR _ _ _ _ [some (.ref (43 + 3)), some (.int x1), some (.int x2)] [.ref (43 + 3)] _ _ from ?_)
  refine zy_2 rfl rfl (show zyR _ _ _ _ [some (.ref (43 + 3)), some (.int x1), some (.int x2)] [.int x1, .ref (43 + 3)] _ _ from ?_)
  obtain ⟨p1, hp1, h⟩ := zy_bind h
  refine zy_5 (c := 43) (as := [.int x1]) (rest := []) (L := [some (.ref (43 + 3)), some (.int x1)]) (d' := 3) rfl rfl rfl (Nat.le_of_ble_eq_true rfl) (Nat.le_of_ble_eq_true rfl) rfl (Nat.le_of_ble_eq_true rfl) rfl rfl (zyC229 hp1) ?_
  show zyR _ _ _ _ [some (.ref (43 + 3)), some (.int x1), some (.int x2)] [.int p1.1] _ _
  refine zy_3 rfl rfl (show zyR _ _ _ _ [some (.ref (43 + 3)), some (.int x1), some (.int x2)] [.int (-1 : Int32), .int p1.1] _ _ from ?_)
  refine zy_25_0 rfl (fun b9 => (show zyR _ _ _ _ [some (.ref (43 + 3)), some (.int x1), some (.int x2)] [] _ _ from ?_)) (fun b9 => (show zyR _ _ _ _ [some (.ref (43 + 3)), some (.int x1), some (.int x2)] [] _ _ from ?_))
  · replace h := zy_ifp h b9
    refine zy_3 rfl rfl (show zyR _ _ _ _ [some (.ref (43 + 3)), some (.int x1), some (.int x2)] [.int (-1 : Int32)] _ _ from ?_)
    refine zy_6 rfl (show zyR _ _ _ _ [some (.ref (43 + 3)), some (.int x1), some (.int x2)] [.int (-1 : Int32)] _ _ from ?_)
    obtain ⟨rfl, rfl⟩ := zy_pi h
    exact zy_4 rfl ⟨rfl, rfl⟩
  · replace h := zy_ifn h b9
    refine zy_0 rfl rfl (show zyR _ _ _ _ [some (.ref (43 + 3)), some (.int x1), some (.int x2)] [.ref (43 + 3)] _ _ from ?_)
    refine zy_2 rfl rfl (show zyR _ _ _ _ [some (.ref (43 + 3)), some (.int x1), some (.int x2)] [.int x2, .ref (43 + 3)] _ _ from ?_)
    refine zy_40 rfl (show zyR _ _ _ _ [some (.ref (43 + 3)), some (.int x1), some (.int x2)] [.long (x2).toInt64, .ref (43 + 3)] _ _ from ?_)
    obtain ⟨p2, hp2, h⟩ := zy_bind h
    refine zy_5 (c := 43) (as := [.long (x2).toInt64]) (rest := []) (L := [some (.ref (43 + 3)), some (.long (x2).toInt64), none]) (d' := 2) rfl rfl rfl (Nat.le_of_ble_eq_true rfl) (Nat.le_of_ble_eq_true rfl) rfl (Nat.le_of_ble_eq_true rfl) rfl rfl (zyC185 hp2) ?_
    show zyR _ _ _ _ [some (.ref (43 + 3)), some (.int x1), some (.int x2)] [.int p2.1] _ _
    refine zy_24_1 rfl (fun b8 => (show zyR _ _ _ _ [some (.ref (43 + 3)), some (.int x1), some (.int x2)] [] _ _ from ?_)) (fun b8 => (show zyR _ _ _ _ [some (.ref (43 + 3)), some (.int x1), some (.int x2)] [] _ _ from ?_))
    · replace h := zy_ifp h b8
      refine zy_0 rfl rfl (show zyR _ _ _ _ [some (.ref (43 + 3)), some (.int x1), some (.int x2)] [.ref (43 + 3)] _ _ from ?_)
      refine zy_2 rfl rfl (show zyR _ _ _ _ [some (.ref (43 + 3)), some (.int x1), some (.int x2)] [.int x1, .ref (43 + 3)] _ _ from ?_)
      obtain ⟨p3, hp3, h⟩ := zy_bind h
      refine zy_5 (c := 43) (as := [.int x1]) (rest := []) (L := [some (.ref (43 + 3)), some (.int x1)]) (d' := 3) rfl rfl rfl (Nat.le_of_ble_eq_true rfl) (Nat.le_of_ble_eq_true rfl) rfl (Nat.le_of_ble_eq_true rfl) rfl rfl (zyC229 hp3) ?_
      show zyR _ _ _ _ [some (.ref (43 + 3)), some (.int x1), some (.int x2)] [.int p3.1] _ _
      refine zy_24_3 rfl (fun b7 => (show zyR _ _ _ _ [some (.ref (43 + 3)), some (.int x1), some (.int x2)] [] _ _ from ?_)) (fun b7 => (show zyR _ _ _ _ [some (.ref (43 + 3)), some (.int x1), some (.int x2)] [] _ _ from ?_))
      · replace h := zy_ifp h b7
        refine zy_0 rfl rfl (show zyR _ _ _ _ [some (.ref (43 + 3)), some (.int x1), some (.int x2)] [.ref (43 + 3)] _ _ from ?_)
        refine zy_2 rfl rfl (show zyR _ _ _ _ [some (.ref (43 + 3)), some (.int x1), some (.int x2)] [.int x1, .ref (43 + 3)] _ _ from ?_)
        refine zy_0 rfl rfl (show zyR _ _ _ _ [some (.ref (43 + 3)), some (.int x1), some (.int x2)] [.ref (43 + 3), .int x1, .ref (43 + 3)] _ _ from ?_)
        refine zy_1r (c := 43) rfl rfl rfl (show zyR _ _ _ _ [some (.ref (43 + 3)), some (.int x1), some (.int x2)] [.ref (44 + 3), .int x1, .ref (43 + 3)] _ _ from ?_)
        refine zy_2 rfl rfl (show zyR _ _ _ _ [some (.ref (43 + 3)), some (.int x1), some (.int x2)] [.int x2, .ref (44 + 3), .int x1, .ref (43 + 3)] _ _ from ?_)
        obtain ⟨c4, h⟩ := zy_if h
        refine zy_26 (c := 44) rfl rfl c4 (show zyR _ _ _ _ [some (.ref (43 + 3)), some (.int x1), some (.int x2)] [.int (p3.2.1 44 (x2).toNatClampNeg), .int x1, .ref (43 + 3)] _ _ from ?_)
        obtain ⟨p5, hp5, h⟩ := zy_bind h
        refine zy_5 (c := 43) (as := [.int x1, .int (p3.2.1 44 (x2).toNatClampNeg)]) (rest := []) (L := [some (.ref (43 + 3)), some (.int x1), some (.int (p3.2.1 44 (x2).toNatClampNeg)), none, none, none]) (d' := 3) rfl rfl rfl (Nat.le_of_ble_eq_true rfl) (Nat.le_of_ble_eq_true rfl) rfl (Nat.le_of_ble_eq_true rfl) rfl rfl (zyC230 hp5) ?_
        show zyR _ _ _ _ [some (.ref (43 + 3)), some (.int x1), some (.int x2)] [.int p5.1] _ _
        obtain ⟨rfl, rfl⟩ := zy_pi h
        exact zy_4 rfl ⟨rfl, rfl⟩
      · replace h := zy_ifn h b7
        refine zy_0 rfl rfl (show zyR _ _ _ _ [some (.ref (43 + 3)), some (.int x1), some (.int x2)] [.ref (43 + 3)] _ _ from ?_)
        refine zy_2 rfl rfl (show zyR _ _ _ _ [some (.ref (43 + 3)), some (.int x1), some (.int x2)] [.int x1, .ref (43 + 3)] _ _ from ?_)
        obtain ⟨p6, hp6, h⟩ := zy_bind h
        refine zy_5 (c := 43) (as := [.int x1]) (rest := []) (L := [some (.ref (43 + 3)), some (.int x1)]) (d' := 3) rfl rfl rfl (Nat.le_of_ble_eq_true rfl) (Nat.le_of_ble_eq_true rfl) rfl (Nat.le_of_ble_eq_true rfl) rfl rfl (zyC229 hp6) ?_
        show zyR _ _ _ _ [some (.ref (43 + 3)), some (.int x1), some (.int x2)] [.int p6.1] _ _
        refine zy_6 rfl (show zyR _ _ _ _ [some (.ref (43 + 3)), some (.int x1), some (.int x2)] [.int p6.1] _ _ from ?_)
        obtain ⟨rfl, rfl⟩ := zy_pi h
        exact zy_4 rfl ⟨rfl, rfl⟩
    · replace h := zy_ifn h b8
      refine zy_3 rfl rfl (show zyR _ _ _ _ [some (.ref (43 + 3)), some (.int x1), some (.int x2)] [.int (-1 : Int32)] _ _ from ?_)
      refine zy_6 rfl (show zyR _ _ _ _ [some (.ref (43 + 3)), some (.int x1), some (.int x2)] [.int (-1 : Int32)] _ _ from ?_)
      obtain ⟨rfl, rfl⟩ := zy_pi h
      exact zy_4 rfl ⟨rfl, rfl⟩
/-! NineOpinions.isOneOfTwo(I)Z -/
noncomputable def zyF84   (x0 : Int32) (s : zy_S) : Option (Int32 × zy_S) :=
if x0 = 0 then
some ((1 : Int32), s)
else
if x0 ≠ (1 : Int32) then
some ((0 : Int32), s)
else
some ((1 : Int32), s)
theorem zyC84 {X : zx_X}     {x0 : Int32} {s : zy_S} {r : Int32} {s' : zy_S}  (h : zyF84 x0 s = some (r, s')) : zyR X 1 84 0 [some (.int x0)] [] s (zyE (some (.int r)) s') := by
  unfold zyF84 at h
  refine zy_2 rfl rfl (show zyR _ _ _ _ [some (.int x0)] [.int x0] _ _ from ?_)
  refine zy_24_0 rfl (fun b2 => (show zyR _ _ _ _ [some (.int x0)] [] _ _ from ?_)) (fun b2 => (show zyR _ _ _ _ [some (.int x0)] [] _ _ from ?_))
  · replace h := zy_ifp h b2
    refine zy_3 rfl rfl (show zyR _ _ _ _ [some (.int x0)] [.int (1 : Int32)] _ _ from ?_)
    refine zy_6 rfl (show zyR _ _ _ _ [some (.int x0)] [.int (1 : Int32)] _ _ from ?_)
    cases h
    exact zy_4b rfl ⟨rfl, rfl⟩ (Or.inr rfl)
  · replace h := zy_ifn h b2
    refine zy_2 rfl rfl (show zyR _ _ _ _ [some (.int x0)] [.int x0] _ _ from ?_)
    refine zy_3 rfl rfl (show zyR _ _ _ _ [some (.int x0)] [.int (1 : Int32), .int x0] _ _ from ?_)
    refine zy_25_1 rfl (fun b1 => (show zyR _ _ _ _ [some (.int x0)] [] _ _ from ?_)) (fun b1 => (show zyR _ _ _ _ [some (.int x0)] [] _ _ from ?_))
    · replace h := zy_ifp h b1
      refine zy_3 rfl rfl (show zyR _ _ _ _ [some (.int x0)] [.int (0 : Int32)] _ _ from ?_)
      cases h
      exact zy_4b rfl ⟨rfl, rfl⟩ (Or.inl rfl)
    · replace h := zy_ifn h b1
      refine zy_3 rfl rfl (show zyR _ _ _ _ [some (.int x0)] [.int (1 : Int32)] _ _ from ?_)
      refine zy_6 rfl (show zyR _ _ _ _ [some (.int x0)] [.int (1 : Int32)] _ _ from ?_)
      cases h
      exact zy_4b rfl ⟨rfl, rfl⟩ (Or.inr rfl)
/-! java/lang/Math.abs(I)I -/
noncomputable def zyF62   (x0 : Int32) (s : zy_S) : Option (Int32 × zy_S) :=
if 0 ≤ x0 then
some (x0, s)
else
some ((-x0), s)
theorem zyC62 {X : zx_X}     {x0 : Int32} {s : zy_S} {r : Int32} {s' : zy_S}  (h : zyF62 x0 s = some (r, s')) : zyR X 1 62 0 [some (.int x0)] [] s (zyE (some (.int r)) s') := by
  unfold zyF62 at h
  refine zy_2 rfl rfl (show zyR _ _ _ _ [some (.int x0)] [.int x0] _ _ from ?_)
  refine zy_24_3 rfl (fun b1 => (show zyR _ _ _ _ [some (.int x0)] [] _ _ from ?_)) (fun b1 => (show zyR _ _ _ _ [some (.int x0)] [] _ _ from ?_))
  · replace h := zy_ifp h b1
    refine zy_2 rfl rfl (show zyR _ _ _ _ [some (.int x0)] [.int x0] _ _ from ?_)
    obtain ⟨rfl, rfl⟩ := zy_pi h
    exact zy_4 rfl ⟨rfl, rfl⟩
  · replace h := zy_ifn h b1
    refine zy_2 rfl rfl (show zyR _ _ _ _ [some (.int x0)] [.int x0] _ _ from ?_)
    refine zy_21 rfl (show zyR _ _ _ _ [some (.int x0)] [.int (-x0)] _ _ from ?_)
    refine zy_6 rfl (show zyR _ _ _ _ [some (.int x0)] [.int (-x0)] _ _ from ?_)
    obtain ⟨rfl, rfl⟩ := zy_pi h
    exact zy_4 rfl ⟨rfl, rfl⟩
/-! NineOpinions$Votes.apartOn(III)I -/
noncomputable def zyF121   (x1 : Int32) (x2 : Int32) (x3 : Int32) (s : zy_S) : Option (Int32 × zy_S) :=
if zy_in x2 8 then
(zyF60 (s.1 3 (x2).toNatClampNeg) x1 s).bind fun p2 =>
if zy_in x3 8 then
(zyF60 (p2.2.1 3 (x3).toNatClampNeg) x1 p2.2).bind fun p4 =>
(zyF62 (p2.1 - p4.1) p4.2).bind fun p5 =>
some (p5.1, p5.2)
else none
else none
theorem zyC121 {X : zx_X}     {x1 : Int32} {x2 : Int32} {x3 : Int32} {s : zy_S} {r : Int32} {s' : zy_S}  (h : zyF121 x1 x2 x3 s = some (r, s')) : zyR X 2 121 0 [some (.ref (16 + 3)), some (.int x1), some (.int x2), some (.int x3)] [] s (zyE (some (.int r)) s') := by
  unfold zyF121 at h
  refine zy_0 rfl rfl (show zyR _ _ _ _ [some (.ref (16 + 3)), some (.int x1), some (.int x2), some (.int x3)] [.ref (16 + 3)] _ _ from ?_)
  refine zy_1r (c := 16) rfl rfl rfl (show zyR _ _ _ _ [some (.ref (16 + 3)), some (.int x1), some (.int x2), some (.int x3)] [.ref (1 + 3)] _ _ from ?_)
  refine zy_1r (c := 1) rfl rfl rfl (show zyR _ _ _ _ [some (.ref (16 + 3)), some (.int x1), some (.int x2), some (.int x3)] [.ref (3 + 3)] _ _ from ?_)
  refine zy_2 rfl rfl (show zyR _ _ _ _ [some (.ref (16 + 3)), some (.int x1), some (.int x2), some (.int x3)] [.int x2, .ref (3 + 3)] _ _ from ?_)
  obtain ⟨c1, h⟩ := zy_if h
  refine zy_26 (c := 3) rfl rfl c1 (show zyR _ _ _ _ [some (.ref (16 + 3)), some (.int x1), some (.int x2), some (.int x3)] [.int (s.1 3 (x2).toNatClampNeg)] _ _ from ?_)
  refine zy_2 rfl rfl (show zyR _ _ _ _ [some (.ref (16 + 3)), some (.int x1), some (.int x2), some (.int x3)] [.int x1, .int (s.1 3 (x2).toNatClampNeg)] _ _ from ?_)
  obtain ⟨p2, hp2, h⟩ := zy_bind h
  refine zy_61 (as := [.int (s.1 3 (x2).toNatClampNeg), .int x1]) (rest := []) (L := [some (.int (s.1 3 (x2).toNatClampNeg)), some (.int x1)]) (d' := 1) rfl rfl (Nat.le_of_ble_eq_true rfl) (Nat.le_of_ble_eq_true rfl) rfl (Nat.le_of_ble_eq_true rfl) rfl rfl (zyC60 hp2) ?_
  show zyR _ _ _ _ [some (.ref (16 + 3)), some (.int x1), some (.int x2), some (.int x3)] [.int p2.1] _ _
  refine zy_0 rfl rfl (show zyR _ _ _ _ [some (.ref (16 + 3)), some (.int x1), some (.int x2), some (.int x3)] [.ref (16 + 3), .int p2.1] _ _ from ?_)
  refine zy_1r (c := 16) rfl rfl rfl (show zyR _ _ _ _ [some (.ref (16 + 3)), some (.int x1), some (.int x2), some (.int x3)] [.ref (1 + 3), .int p2.1] _ _ from ?_)
  refine zy_1r (c := 1) rfl rfl rfl (show zyR _ _ _ _ [some (.ref (16 + 3)), some (.int x1), some (.int x2), some (.int x3)] [.ref (3 + 3), .int p2.1] _ _ from ?_)
  refine zy_2 rfl rfl (show zyR _ _ _ _ [some (.ref (16 + 3)), some (.int x1), some (.int x2), some (.int x3)] [.int x3, .ref (3 + 3), .int p2.1] _ _ from ?_)
  obtain ⟨c3, h⟩ := zy_if h
  refine zy_26 (c := 3) rfl rfl c3 (show zyR _ _ _ _ [some (.ref (16 + 3)), some (.int x1), some (.int x2), some (.int x3)] [.int (p2.2.1 3 (x3).toNatClampNeg), .int p2.1] _ _ from ?_)
  refine zy_2 rfl rfl (show zyR _ _ _ _ [some (.ref (16 + 3)), some (.int x1), some (.int x2), some (.int x3)] [.int x1, .int (p2.2.1 3 (x3).toNatClampNeg), .int p2.1] _ _ from ?_)
  obtain ⟨p4, hp4, h⟩ := zy_bind h
  refine zy_61 (as := [.int (p2.2.1 3 (x3).toNatClampNeg), .int x1]) (rest := [.int p2.1]) (L := [some (.int (p2.2.1 3 (x3).toNatClampNeg)), some (.int x1)]) (d' := 1) rfl rfl (Nat.le_of_ble_eq_true rfl) (Nat.le_of_ble_eq_true rfl) rfl (Nat.le_of_ble_eq_true rfl) rfl rfl (zyC60 hp4) ?_
  show zyR _ _ _ _ [some (.ref (16 + 3)), some (.int x1), some (.int x2), some (.int x3)] [.int p4.1, .int p2.1] _ _
  refine zy_11 rfl (show zyR _ _ _ _ [some (.ref (16 + 3)), some (.int x1), some (.int x2), some (.int x3)] [.int (p2.1 - p4.1)] _ _ from ?_)
  obtain ⟨p5, hp5, h⟩ := zy_bind h
  refine zy_60 (as := [.int (p2.1 - p4.1)]) (rest := []) (L := [some (.int (p2.1 - p4.1))]) (d' := 1) rfl rfl (Nat.le_of_ble_eq_true rfl) (Nat.le_of_ble_eq_true rfl) rfl (Nat.le_of_ble_eq_true rfl) rfl rfl (zyC62 hp5) ?_
  show zyR _ _ _ _ [some (.ref (16 + 3)), some (.int x1), some (.int x2), some (.int x3)] [.int p5.1] _ _
  obtain ⟨rfl, rfl⟩ := zy_pi h
  exact zy_4 rfl ⟨rfl, rfl⟩
/-! NineOpinions$Votes.sameViews(II)I -/
noncomputable def zyF120_29  (k5 : Int32 → Int32 → Int32 → Int32 → zy_S → Option (Int32 × zy_S)) (x1 : Int32) (x2 : Int32) (x4 : Int32) (y0 : Int32) (y1 : Int32) (s : zy_S) : Option (Int32 × zy_S) :=
k5 x1 x2 (y1 + y0) (x4 + (1 : Int32)) s
theorem zyC120_29 {X : zx_X}  {k5 : Int32 → Int32 → Int32 → Int32 → zy_S → Option (Int32 × zy_S)}  (hk5 : ∀ (x1 : Int32) (x2 : Int32) (x3 : Int32) (x4 : Int32) (s : zy_S) (r : Int32) (s' : zy_S), k5 x1 x2 x3 x4 s = some (r, s') → zyR X 3 120 5 [some (.ref (16 + 3)), some (.int x1), some (.int x2), some (.int x3), some (.int x4)] [] s (zyE (some (.int r)) s')) {x1 : Int32} {x2 : Int32} {x4 : Int32} {y0 : Int32} {y1 : Int32} {s : zy_S} {r : Int32} {s' : zy_S}  (h : zyF120_29 k5 x1 x2 x4 y0 y1 s = some (r, s')) : zyR X 3 120 29 [some (.ref (16 + 3)), some (.int x1), some (.int x2), none, some (.int x4)] [.int y0, .int y1] s (zyE (some (.int r)) s') := by
  unfold zyF120_29 at h
  refine zy_10 rfl (show zyR _ _ _ _ [some (.ref (16 + 3)), some (.int x1), some (.int x2), none, some (.int x4)] [.int (y1 + y0)] _ _ from ?_)
  refine zy_23 rfl rfl (show zyR _ _ _ _ [some (.ref (16 + 3)), some (.int x1), some (.int x2), some (.int (y1 + y0)), some (.int x4)] [] _ _ from ?_)
  refine zy_22 rfl rfl rfl rfl (show zyR _ _ _ _ [some (.ref (16 + 3)), some (.int x1), some (.int x2), some (.int (y1 + y0)), some (.int (x4 + (1 : Int32)))] [] _ _ from ?_)
  refine zy_6 rfl (show zyR _ _ _ _ [some (.ref (16 + 3)), some (.int x1), some (.int x2), some (.int (y1 + y0)), some (.int (x4 + (1 : Int32)))] [] _ _ from ?_)
  exact zy_sub (show zy_le [some (.ref (16 + 3)), some (.int x1), some (.int x2), some (.int (y1 + y0)), some (.int (x4 + (1 : Int32)))] [some (.ref (16 + 3)), some (.int x1), some (.int x2), some (.int (y1 + y0)), some (.int (x4 + (1 : Int32)))] from ⟨rfl, ⟨rfl, ⟨rfl, ⟨rfl, ⟨rfl, trivial⟩⟩⟩⟩⟩) (hk5 x1 x2 (y1 + y0) (x4 + (1 : Int32)) s _ _ h)
noncomputable def zyF120_5b  (k5 : Int32 → Int32 → Int32 → Int32 → zy_S → Option (Int32 × zy_S)) (x1 : Int32) (x2 : Int32) (x3 : Int32) (x4 : Int32) (s : zy_S) : Option (Int32 × zy_S) :=
if (6 : Int32) ≤ x4 then
some (x3, s)
else
(zyF121 x4 x1 x2 s).bind fun p1 =>
if p1.1 ≠ 0 then
zyF120_29 k5 x1 x2 x4 (0 : Int32) x3 p1.2
else
zyF120_29 k5 x1 x2 x4 (1 : Int32) x3 p1.2
theorem zyC120_5b {X : zx_X}  {k5 : Int32 → Int32 → Int32 → Int32 → zy_S → Option (Int32 × zy_S)}  (hk5 : ∀ (x1 : Int32) (x2 : Int32) (x3 : Int32) (x4 : Int32) (s : zy_S) (r : Int32) (s' : zy_S), k5 x1 x2 x3 x4 s = some (r, s') → zyR X 3 120 5 [some (.ref (16 + 3)), some (.int x1), some (.int x2), some (.int x3), some (.int x4)] [] s (zyE (some (.int r)) s')) {x1 : Int32} {x2 : Int32} {x3 : Int32} {x4 : Int32} {s : zy_S} {r : Int32} {s' : zy_S}  (h : zyF120_5b k5 x1 x2 x3 x4 s = some (r, s')) : zyR X 3 120 5 [some (.ref (16 + 3)), some (.int x1), some (.int x2), some (.int x3), some (.int x4)] [] s (zyE (some (.int r)) s') := by
  unfold zyF120_5b at h
  refine zy_2 rfl rfl (show zyR _ _ _ _ [some (.ref (16 + 3)), some (.int x1), some (.int x2), some (.int x3), some (.int x4)] [.int x4] _ _ from ?_)
  refine zy_3 rfl rfl (show zyR _ _ _ _ [some (.ref (16 + 3)), some (.int x1), some (.int x2), some (.int x3), some (.int x4)] [.int (6 : Int32), .int x4] _ _ from ?_)
  refine zy_25_3 rfl (fun b3 => (show zyR _ _ _ _ [some (.ref (16 + 3)), some (.int x1), some (.int x2), some (.int x3), some (.int x4)] [] _ _ from ?_)) (fun b3 => (show zyR _ _ _ _ [some (.ref (16 + 3)), some (.int x1), some (.int x2), some (.int x3), some (.int x4)] [] _ _ from ?_))
  · replace h := zy_ifp h b3
    refine zy_2 rfl rfl (show zyR _ _ _ _ [some (.ref (16 + 3)), some (.int x1), some (.int x2), some (.int x3), some (.int x4)] [.int x3] _ _ from ?_)
    obtain ⟨rfl, rfl⟩ := zy_pi h
    exact zy_4 rfl ⟨rfl, rfl⟩
  · replace h := zy_ifn h b3
    refine zy_2 rfl rfl (show zyR _ _ _ _ [some (.ref (16 + 3)), some (.int x1), some (.int x2), some (.int x3), some (.int x4)] [.int x3] _ _ from ?_)
    refine zy_0 rfl rfl (show zyR _ _ _ _ [some (.ref (16 + 3)), some (.int x1), some (.int x2), some (.int x3), some (.int x4)] [.ref (16 + 3), .int x3] _ _ from ?_)
    refine zy_2 rfl rfl (show zyR _ _ _ _ [some (.ref (16 + 3)), some (.int x1), some (.int x2), some (.int x3), some (.int x4)] [.int x4, .ref (16 + 3), .int x3] _ _ from ?_)
    refine zy_2 rfl rfl (show zyR _ _ _ _ [some (.ref (16 + 3)), some (.int x1), some (.int x2), some (.int x3), some (.int x4)] [.int x1, .int x4, .ref (16 + 3), .int x3] _ _ from ?_)
    refine zy_2 rfl rfl (show zyR _ _ _ _ [some (.ref (16 + 3)), some (.int x1), some (.int x2), some (.int x3), some (.int x4)] [.int x2, .int x1, .int x4, .ref (16 + 3), .int x3] _ _ from ?_)
    obtain ⟨p1, hp1, h⟩ := zy_bind h
    refine zy_5 (c := 16) (as := [.int x4, .int x1, .int x2]) (rest := [.int x3]) (L := [some (.ref (16 + 3)), some (.int x4), some (.int x1), some (.int x2)]) (d' := 2) rfl rfl rfl (Nat.le_of_ble_eq_true rfl) (Nat.le_of_ble_eq_true rfl) rfl (Nat.le_of_ble_eq_true rfl) rfl rfl (zyC121 hp1) ?_
    show zyR _ _ _ _ [some (.ref (16 + 3)), some (.int x1), some (.int x2), some (.int x3), some (.int x4)] [.int p1.1, .int x3] _ _
    refine zy_24_1 rfl (fun b2 => (show zyR _ _ _ _ [some (.ref (16 + 3)), some (.int x1), some (.int x2), some (.int x3), some (.int x4)] [.int x3] _ _ from ?_)) (fun b2 => (show zyR _ _ _ _ [some (.ref (16 + 3)), some (.int x1), some (.int x2), some (.int x3), some (.int x4)] [.int x3] _ _ from ?_))
    · replace h := zy_ifp h b2
      refine zy_3 rfl rfl (show zyR _ _ _ _ [some (.ref (16 + 3)), some (.int x1), some (.int x2), some (.int x3), some (.int x4)] [.int (0 : Int32), .int x3] _ _ from ?_)
      exact zy_sub (show zy_le [some (.ref (16 + 3)), some (.int x1), some (.int x2), none, some (.int x4)] [some (.ref (16 + 3)), some (.int x1), some (.int x2), some (.int x3), some (.int x4)] from ⟨rfl, ⟨rfl, ⟨rfl, ⟨rfl, trivial⟩⟩⟩⟩) (zyC120_29 hk5 h)
    · replace h := zy_ifn h b2
      refine zy_3 rfl rfl (show zyR _ _ _ _ [some (.ref (16 + 3)), some (.int x1), some (.int x2), some (.int x3), some (.int x4)] [.int (1 : Int32), .int x3] _ _ from ?_)
      refine zy_6 rfl (show zyR _ _ _ _ [some (.ref (16 + 3)), some (.int x1), some (.int x2), some (.int x3), some (.int x4)] [.int (1 : Int32), .int x3] _ _ from ?_)
      exact zy_sub (show zy_le [some (.ref (16 + 3)), some (.int x1), some (.int x2), none, some (.int x4)] [some (.ref (16 + 3)), some (.int x1), some (.int x2), some (.int x3), some (.int x4)] from ⟨rfl, ⟨rfl, ⟨rfl, ⟨rfl, trivial⟩⟩⟩⟩) (zyC120_29 hk5 h)
noncomputable def zyF120_5   (n : Nat) : Int32 → Int32 → Int32 → Int32 → zy_S → Option (Int32 × zy_S) := Nat.rec (fun _ _ _ _ _ => none) (fun _ k5 => zyF120_5b k5) n
theorem zyC120_5 {X : zx_X}     : ∀ (n : Nat) (x1 : Int32) (x2 : Int32) (x3 : Int32) (x4 : Int32) (s : zy_S) (r : Int32) (s' : zy_S), zyF120_5 n x1 x2 x3 x4 s = some (r, s') → zyR X 3 120 5 [some (.ref (16 + 3)), some (.int x1), some (.int x2), some (.int x3), some (.int x4)] [] s (zyE (some (.int r)) s')
  | 0, _, _, _, _ => by
    intro s r s'  h
    have h : (none : Option (Int32 × zy_S)) = some (r, s') := h
    cases h
  | n + 1, x1, x2, x3, x4 => by
    intro s r s'  h
    exact zyC120_5b (k5 := zyF120_5 n) (fun x1 x2 x3 x4 s r s'  h => zyC120_5  n x1 x2 x3 x4 s r s'  h) h
noncomputable def zyF120   (x1 : Int32) (x2 : Int32) (s : zy_S) : Option (Int32 × zy_S) :=
zyF120_5 zy_fu x1 x2 (0 : Int32) (0 : Int32) s
theorem zyC120 {X : zx_X}     {x1 : Int32} {x2 : Int32} {s : zy_S} {r : Int32} {s' : zy_S}  (h : zyF120 x1 x2 s = some (r, s')) : zyR X 3 120 0 [some (.ref (16 + 3)), some (.int x1), some (.int x2), none, none] [] s (zyE (some (.int r)) s') := by
  unfold zyF120 at h
  refine zy_3 rfl rfl (show zyR _ _ _ _ [some (.ref (16 + 3)), some (.int x1), some (.int x2), none, none] [.int (0 : Int32)] _ _ from ?_)
  refine zy_23 rfl rfl (show zyR _ _ _ _ [some (.ref (16 + 3)), some (.int x1), some (.int x2), some (.int (0 : Int32)), none] [] _ _ from ?_)
  refine zy_3 rfl rfl (show zyR _ _ _ _ [some (.ref (16 + 3)), some (.int x1), some (.int x2), some (.int (0 : Int32)), none] [.int (0 : Int32)] _ _ from ?_)
  refine zy_23 rfl rfl (show zyR _ _ _ _ [some (.ref (16 + 3)), some (.int x1), some (.int x2), some (.int (0 : Int32)), some (.int (0 : Int32))] [] _ _ from ?_)
  exact zy_sub (show zy_le [some (.ref (16 + 3)), some (.int x1), some (.int x2), some (.int (0 : Int32)), some (.int (0 : Int32))] [some (.ref (16 + 3)), some (.int x1), some (.int x2), some (.int (0 : Int32)), some (.int (0 : Int32))] from ⟨rfl, ⟨rfl, ⟨rfl, ⟨rfl, ⟨rfl, trivial⟩⟩⟩⟩⟩) (zyC120_5 zy_fu x1 x2 (0 : Int32) (0 : Int32) s _ _ h)
/-! NineOpinions$Votes.apart(II)I -/
noncomputable def zyF122_5b  (k5 : Int32 → Int32 → Int32 → Int32 → zy_S → Option (Int32 × zy_S)) (x1 : Int32) (x2 : Int32) (x3 : Int32) (x4 : Int32) (s : zy_S) : Option (Int32 × zy_S) :=
if (6 : Int32) ≤ x4 then
some (x3, s)
else
(zyF121 x4 x1 x2 s).bind fun p1 =>
k5 x1 x2 (x3 + p1.1) (x4 + (1 : Int32)) p1.2
theorem zyC122_5b {X : zx_X}  {k5 : Int32 → Int32 → Int32 → Int32 → zy_S → Option (Int32 × zy_S)}  (hk5 : ∀ (x1 : Int32) (x2 : Int32) (x3 : Int32) (x4 : Int32) (s : zy_S) (r : Int32) (s' : zy_S), k5 x1 x2 x3 x4 s = some (r, s') → zyR X 3 122 5 [some (.ref (16 + 3)), some (.int x1), some (.int x2), some (.int x3), some (.int x4)] [] s (zyE (some (.int r)) s')) {x1 : Int32} {x2 : Int32} {x3 : Int32} {x4 : Int32} {s : zy_S} {r : Int32} {s' : zy_S}  (h : zyF122_5b k5 x1 x2 x3 x4 s = some (r, s')) : zyR X 3 122 5 [some (.ref (16 + 3)), some (.int x1), some (.int x2), some (.int x3), some (.int x4)] [] s (zyE (some (.int r)) s') := by
  unfold zyF122_5b at h
  refine zy_2 rfl rfl (show zyR _ _ _ _ [some (.ref (16 + 3)), some (.int x1), some (.int x2), some (.int x3), some (.int x4)] [.int x4] _ _ from ?_)
  refine zy_3 rfl rfl (show zyR _ _ _ _ [some (.ref (16 + 3)), some (.int x1), some (.int x2), some (.int x3), some (.int x4)] [.int (6 : Int32), .int x4] _ _ from ?_)
  refine zy_25_3 rfl (fun b2 => (show zyR _ _ _ _ [some (.ref (16 + 3)), some (.int x1), some (.int x2), some (.int x3), some (.int x4)] [] _ _ from ?_)) (fun b2 => (show zyR _ _ _ _ [some (.ref (16 + 3)), some (.int x1), some (.int x2), some (.int x3), some (.int x4)] [] _ _ from ?_))
  · replace h := zy_ifp h b2
    refine zy_2 rfl rfl (show zyR _ _ _ _ [some (.ref (16 + 3)), some (.int x1), some (.int x2), some (.int x3), some (.int x4)] [.int x3] _ _ from ?_)
    obtain ⟨rfl, rfl⟩ := zy_pi h
    exact zy_4 rfl ⟨rfl, rfl⟩
  · replace h := zy_ifn h b2
    refine zy_2 rfl rfl (show zyR _ _ _ _ [some (.ref (16 + 3)), some (.int x1), some (.int x2), some (.int x3), some (.int x4)] [.int x3] _ _ from ?_)
    refine zy_0 rfl rfl (show zyR _ _ _ _ [some (.ref (16 + 3)), some (.int x1), some (.int x2), some (.int x3), some (.int x4)] [.ref (16 + 3), .int x3] _ _ from ?_)
    refine zy_2 rfl rfl (show zyR _ _ _ _ [some (.ref (16 + 3)), some (.int x1), some (.int x2), some (.int x3), some (.int x4)] [.int x4, .ref (16 + 3), .int x3] _ _ from ?_)
    refine zy_2 rfl rfl (show zyR _ _ _ _ [some (.ref (16 + 3)), some (.int x1), some (.int x2), some (.int x3), some (.int x4)] [.int x1, .int x4, .ref (16 + 3), .int x3] _ _ from ?_)
    refine zy_2 rfl rfl (show zyR _ _ _ _ [some (.ref (16 + 3)), some (.int x1), some (.int x2), some (.int x3), some (.int x4)] [.int x2, .int x1, .int x4, .ref (16 + 3), .int x3] _ _ from ?_)
    obtain ⟨p1, hp1, h⟩ := zy_bind h
    refine zy_5 (c := 16) (as := [.int x4, .int x1, .int x2]) (rest := [.int x3]) (L := [some (.ref (16 + 3)), some (.int x4), some (.int x1), some (.int x2)]) (d' := 2) rfl rfl rfl (Nat.le_of_ble_eq_true rfl) (Nat.le_of_ble_eq_true rfl) rfl (Nat.le_of_ble_eq_true rfl) rfl rfl (zyC121 hp1) ?_
    show zyR _ _ _ _ [some (.ref (16 + 3)), some (.int x1), some (.int x2), some (.int x3), some (.int x4)] [.int p1.1, .int x3] _ _
    refine zy_10 rfl (show zyR _ _ _ _ [some (.ref (16 + 3)), some (.int x1), some (.int x2), some (.int x3), some (.int x4)] [.int (x3 + p1.1)] _ _ from ?_)
    refine zy_23 rfl rfl (show zyR _ _ _ _ [some (.ref (16 + 3)), some (.int x1), some (.int x2), some (.int (x3 + p1.1)), some (.int x4)] [] _ _ from ?_)
    refine zy_22 rfl rfl rfl rfl (show zyR _ _ _ _ [some (.ref (16 + 3)), some (.int x1), some (.int x2), some (.int (x3 + p1.1)), some (.int (x4 + (1 : Int32)))] [] _ _ from ?_)
    refine zy_6 rfl (show zyR _ _ _ _ [some (.ref (16 + 3)), some (.int x1), some (.int x2), some (.int (x3 + p1.1)), some (.int (x4 + (1 : Int32)))] [] _ _ from ?_)
    exact zy_sub (show zy_le [some (.ref (16 + 3)), some (.int x1), some (.int x2), some (.int (x3 + p1.1)), some (.int (x4 + (1 : Int32)))] [some (.ref (16 + 3)), some (.int x1), some (.int x2), some (.int (x3 + p1.1)), some (.int (x4 + (1 : Int32)))] from ⟨rfl, ⟨rfl, ⟨rfl, ⟨rfl, ⟨rfl, trivial⟩⟩⟩⟩⟩) (hk5 x1 x2 (x3 + p1.1) (x4 + (1 : Int32)) p1.2 _ _ h)
noncomputable def zyF122_5   (n : Nat) : Int32 → Int32 → Int32 → Int32 → zy_S → Option (Int32 × zy_S) := Nat.rec (fun _ _ _ _ _ => none) (fun _ k5 => zyF122_5b k5) n
theorem zyC122_5 {X : zx_X}     : ∀ (n : Nat) (x1 : Int32) (x2 : Int32) (x3 : Int32) (x4 : Int32) (s : zy_S) (r : Int32) (s' : zy_S), zyF122_5 n x1 x2 x3 x4 s = some (r, s') → zyR X 3 122 5 [some (.ref (16 + 3)), some (.int x1), some (.int x2), some (.int x3), some (.int x4)] [] s (zyE (some (.int r)) s')
  | 0, _, _, _, _ => by
    intro s r s'  h
    have h : (none : Option (Int32 × zy_S)) = some (r, s') := h
    cases h
  | n + 1, x1, x2, x3, x4 => by
    intro s r s'  h
    exact zyC122_5b (k5 := zyF122_5 n) (fun x1 x2 x3 x4 s r s'  h => zyC122_5  n x1 x2 x3 x4 s r s'  h) h
noncomputable def zyF122   (x1 : Int32) (x2 : Int32) (s : zy_S) : Option (Int32 × zy_S) :=
zyF122_5 zy_fu x1 x2 (0 : Int32) (0 : Int32) s
theorem zyC122 {X : zx_X}     {x1 : Int32} {x2 : Int32} {s : zy_S} {r : Int32} {s' : zy_S}  (h : zyF122 x1 x2 s = some (r, s')) : zyR X 3 122 0 [some (.ref (16 + 3)), some (.int x1), some (.int x2), none, none] [] s (zyE (some (.int r)) s') := by
  unfold zyF122 at h
  refine zy_3 rfl rfl (show zyR _ _ _ _ [some (.ref (16 + 3)), some (.int x1), some (.int x2), none, none] [.int (0 : Int32)] _ _ from ?_)
  refine zy_23 rfl rfl (show zyR _ _ _ _ [some (.ref (16 + 3)), some (.int x1), some (.int x2), some (.int (0 : Int32)), none] [] _ _ from ?_)
  refine zy_3 rfl rfl (show zyR _ _ _ _ [some (.ref (16 + 3)), some (.int x1), some (.int x2), some (.int (0 : Int32)), none] [.int (0 : Int32)] _ _ from ?_)
  refine zy_23 rfl rfl (show zyR _ _ _ _ [some (.ref (16 + 3)), some (.int x1), some (.int x2), some (.int (0 : Int32)), some (.int (0 : Int32))] [] _ _ from ?_)
  exact zy_sub (show zy_le [some (.ref (16 + 3)), some (.int x1), some (.int x2), some (.int (0 : Int32)), some (.int (0 : Int32))] [some (.ref (16 + 3)), some (.int x1), some (.int x2), some (.int (0 : Int32)), some (.int (0 : Int32))] from ⟨rfl, ⟨rfl, ⟨rfl, ⟨rfl, ⟨rfl, trivial⟩⟩⟩⟩⟩) (zyC122_5 zy_fu x1 x2 (0 : Int32) (0 : Int32) s _ _ h)
end
section
/-! PART 41.13: methods as functions. Made by wip/v4/dcp.py. -/
/-! NineOpinions.agree(II)I -/
noncomputable def zyF119   (x1 : Int32) (x2 : Int32) (s : zy_S) : Option (Int32 × zy_S) :=
if x1 < 0 then
some ((-1 : Int32), s)
else
(zyF84 x2 s).bind fun p1 =>
if p1.1 = 0 then
some ((-1 : Int32), p1.2)
else
(zyF25 (0 : Int32) (x1 / (10 : Int32)) p1.2).bind fun p2 =>
if p2.1 = 0 then
some ((-1 : Int32), p2.2)
else
(zyF25 (0 : Int32) (x1 - x1 / (10 : Int32) * (10 : Int32)) p2.2).bind fun p3 =>
if p3.1 ≠ 0 then
if x2 ≠ 0 then
(zyF122 (x1 / (10 : Int32)) (x1 - x1 / (10 : Int32) * (10 : Int32)) p3.2).bind fun p4 =>
some (p4.1, p4.2)
else
(zyF120 (x1 / (10 : Int32)) (x1 - x1 / (10 : Int32) * (10 : Int32)) p3.2).bind fun p5 =>
some (p5.1, p5.2)
else
some ((-1 : Int32), p3.2)
theorem zyC119 {X : zx_X}     {x1 : Int32} {x2 : Int32} {s : zy_S} {r : Int32} {s' : zy_S}  (h : zyF119 x1 x2 s = some (r, s')) : zyR X 4 119 0 [some (.ref (0 + 3)), some (.int x1), some (.int x2)] [] s (zyE (some (.int r)) s') := by
  unfold zyF119 at h
  refine zy_2 rfl rfl (show zyR _ _ _ _ [some (.ref (0 + 3)), some (.int x1), some (.int x2)] [.int x1] _ _ from ?_)
  refine zy_24_2 rfl (fun b10 => (show zyR _ _ _ _ [some (.ref (0 + 3)), some (.int x1), some (.int x2)] [] _ _ from ?_)) (fun b10 => (show zyR _ _ _ _ [some (.ref (0 + 3)), some (.int x1), some (.int x2)] [] _ _ from ?_))
  · replace h := zy_ifp h b10
    refine zy_3 rfl rfl (show zyR _ _ _ _ [some (.ref (0 + 3)), some (.int x1), some (.int x2)] [.int (-1 : Int32)] _ _ from ?_)
    obtain ⟨rfl, rfl⟩ := zy_pi h
    exact zy_4 rfl ⟨rfl, rfl⟩
  · replace h := zy_ifn h b10
    refine zy_2 rfl rfl (show zyR _ _ _ _ [some (.ref (0 + 3)), some (.int x1), some (.int x2)] [.int x2] _ _ from ?_)
    obtain ⟨p1, hp1, h⟩ := zy_bind h
    refine zy_60 (as := [.int x2]) (rest := []) (L := [some (.int x2)]) (d' := 1) rfl rfl (Nat.le_of_ble_eq_true rfl) (Nat.le_of_ble_eq_true rfl) rfl (Nat.le_of_ble_eq_true rfl) rfl rfl (zyC84 hp1) ?_
    show zyR _ _ _ _ [some (.ref (0 + 3)), some (.int x1), some (.int x2)] [.int p1.1] _ _
    refine zy_24_0 rfl (fun b9 => (show zyR _ _ _ _ [some (.ref (0 + 3)), some (.int x1), some (.int x2)] [] _ _ from ?_)) (fun b9 => (show zyR _ _ _ _ [some (.ref (0 + 3)), some (.int x1), some (.int x2)] [] _ _ from ?_))
    · replace h := zy_ifp h b9
      refine zy_3 rfl rfl (show zyR _ _ _ _ [some (.ref (0 + 3)), some (.int x1), some (.int x2)] [.int (-1 : Int32)] _ _ from ?_)
      obtain ⟨rfl, rfl⟩ := zy_pi h
      exact zy_4 rfl ⟨rfl, rfl⟩
    · replace h := zy_ifn h b9
      refine zy_0 rfl rfl (show zyR _ _ _ _ [some (.ref (0 + 3)), some (.int x1), some (.int x2)] [.ref (0 + 3)] _ _ from ?_)
      refine zy_1r (c := 0) rfl rfl rfl (show zyR _ _ _ _ [some (.ref (0 + 3)), some (.int x1), some (.int x2)] [.ref (1 + 3)] _ _ from ?_)
      refine zy_3 rfl rfl (show zyR _ _ _ _ [some (.ref (0 + 3)), some (.int x1), some (.int x2)] [.int (0 : Int32), .ref (1 + 3)] _ _ from ?_)
      refine zy_2 rfl rfl (show zyR _ _ _ _ [some (.ref (0 + 3)), some (.int x1), some (.int x2)] [.int x1, .int (0 : Int32), .ref (1 + 3)] _ _ from ?_)
      refine zy_3 rfl rfl (show zyR _ _ _ _ [some (.ref (0 + 3)), some (.int x1), some (.int x2)] [.int (10 : Int32), .int x1, .int (0 : Int32), .ref (1 + 3)] _ _ from ?_)
      refine zy_19 rfl (by decide) (show zyR _ _ _ _ [some (.ref (0 + 3)), some (.int x1), some (.int x2)] [.int (x1 / (10 : Int32)), .int (0 : Int32), .ref (1 + 3)] _ _ from ?_)
      obtain ⟨p2, hp2, h⟩ := zy_bind h
      refine zy_5 (c := 1) (as := [.int (0 : Int32), .int (x1 / (10 : Int32))]) (rest := []) (L := [some (.ref (1 + 3)), some (.int (0 : Int32)), some (.int (x1 / (10 : Int32)))]) (d' := 2) rfl rfl rfl (Nat.le_of_ble_eq_true rfl) (Nat.le_of_ble_eq_true rfl) rfl (Nat.le_of_ble_eq_true rfl) rfl rfl (zyC25 hp2) ?_
      show zyR _ _ _ _ [some (.ref (0 + 3)), some (.int x1), some (.int x2)] [.int p2.1] _ _
      refine zy_24_0 rfl (fun b8 => (show zyR _ _ _ _ [some (.ref (0 + 3)), some (.int x1), some (.int x2)] [] _ _ from ?_)) (fun b8 => (show zyR _ _ _ _ [some (.ref (0 + 3)), some (.int x1), some (.int x2)] [] _ _ from ?_))
      · replace h := zy_ifp h b8
        refine zy_3 rfl rfl (show zyR _ _ _ _ [some (.ref (0 + 3)), some (.int x1), some (.int x2)] [.int (-1 : Int32)] _ _ from ?_)
        obtain ⟨rfl, rfl⟩ := zy_pi h
        exact zy_4 rfl ⟨rfl, rfl⟩
      · replace h := zy_ifn h b8
        refine zy_0 rfl rfl (show zyR _ _ _ _ [some (.ref (0 + 3)), some (.int x1), some (.int x2)] [.ref (0 + 3)] _ _ from ?_)
        refine zy_1r (c := 0) rfl rfl rfl (show zyR _ _ _ _ [some (.ref (0 + 3)), some (.int x1), some (.int x2)] [.ref (1 + 3)] _ _ from ?_)
        refine zy_3 rfl rfl (show zyR _ _ _ _ [some (.ref (0 + 3)), some (.int x1), some (.int x2)] [.int (0 : Int32), .ref (1 + 3)] _ _ from ?_)
        refine zy_2 rfl rfl (show zyR _ _ _ _ [some (.ref (0 + 3)), some (.int x1), some (.int x2)] [.int x1, .int (0 : Int32), .ref (1 + 3)] _ _ from ?_)
        refine zy_3 rfl rfl (show zyR _ _ _ _ [some (.ref (0 + 3)), some (.int x1), some (.int x2)] [.int (10 : Int32), .int x1, .int (0 : Int32), .ref (1 + 3)] _ _ from ?_)
        refine zy_20 rfl (by decide) (show zyR _ _ _ _ [some (.ref (0 + 3)), some (.int x1), some (.int x2)] [.int (x1 - x1 / (10 : Int32) * (10 : Int32)), .int (0 : Int32), .ref (1 + 3)] _ _ from ?_)
        obtain ⟨p3, hp3, h⟩ := zy_bind h
        refine zy_5 (c := 1) (as := [.int (0 : Int32), .int (x1 - x1 / (10 : Int32) * (10 : Int32))]) (rest := []) (L := [some (.ref (1 + 3)), some (.int (0 : Int32)), some (.int (x1 - x1 / (10 : Int32) * (10 : Int32)))]) (d' := 2) rfl rfl rfl (Nat.le_of_ble_eq_true rfl) (Nat.le_of_ble_eq_true rfl) rfl (Nat.le_of_ble_eq_true rfl) rfl rfl (zyC25 hp3) ?_
        show zyR _ _ _ _ [some (.ref (0 + 3)), some (.int x1), some (.int x2)] [.int p3.1] _ _
        refine zy_24_1 rfl (fun b7 => (show zyR _ _ _ _ [some (.ref (0 + 3)), some (.int x1), some (.int x2)] [] _ _ from ?_)) (fun b7 => (show zyR _ _ _ _ [some (.ref (0 + 3)), some (.int x1), some (.int x2)] [] _ _ from ?_))
        · replace h := zy_ifp h b7
          refine zy_2 rfl rfl (show zyR _ _ _ _ [some (.ref (0 + 3)), some (.int x1), some (.int x2)] [.int x2] _ _ from ?_)
          refine zy_24_1 rfl (fun b6 => (show zyR _ _ _ _ [some (.ref (0 + 3)), some (.int x1), some (.int x2)] [] _ _ from ?_)) (fun b6 => (show zyR _ _ _ _ [some (.ref (0 + 3)), some (.int x1), some (.int x2)] [] _ _ from ?_))
          · replace h := zy_ifp h b6
            refine zy_0 rfl rfl (show zyR _ _ _ _ [some (.ref (0 + 3)), some (.int x1), some (.int x2)] [.ref (0 + 3)] _ _ from ?_)
            refine zy_1r (c := 0) rfl rfl rfl (show zyR _ _ _ _ [some (.ref (0 + 3)), some (.int x1), some (.int x2)] [.ref (16 + 3)] _ _ from ?_)
            refine zy_2 rfl rfl (show zyR _ _ _ _ [some (.ref (0 + 3)), some (.int x1), some (.int x2)] [.int x1, .ref (16 + 3)] _ _ from ?_)
            refine zy_3 rfl rfl (show zyR _ _ _ _ [some (.ref (0 + 3)), some (.int x1), some (.int x2)] [.int (10 : Int32), .int x1, .ref (16 + 3)] _ _ from ?_)
            refine zy_19 rfl (by decide) (show zyR _ _ _ _ [some (.ref (0 + 3)), some (.int x1), some (.int x2)] [.int (x1 / (10 : Int32)), .ref (16 + 3)] _ _ from ?_)
            refine zy_2 rfl rfl (show zyR _ _ _ _ [some (.ref (0 + 3)), some (.int x1), some (.int x2)] [.int x1, .int (x1 / (10 : Int32)), .ref (16 + 3)] _ _ from ?_)
            refine zy_3 rfl rfl (show zyR _ _ _ _ [some (.ref (0 + 3)), some (.int x1), some (.int x2)] [.int (10 : Int32), .int x1, .int (x1 / (10 : Int32)), .ref (16 + 3)] _ _ from ?_)
            refine zy_20 rfl (by decide) (show zyR _ _ _ _ [some (.ref (0 + 3)), some (.int x1), some (.int x2)] [.int (x1 - x1 / (10 : Int32) * (10 : Int32)), .int (x1 / (10 : Int32)), .ref (16 + 3)] _ _ from ?_)
            obtain ⟨p4, hp4, h⟩ := zy_bind h
            refine zy_5 (c := 16) (as := [.int (x1 / (10 : Int32)), .int (x1 - x1 / (10 : Int32) * (10 : Int32))]) (rest := []) (L := [some (.ref (16 + 3)), some (.int (x1 / (10 : Int32))), some (.int (x1 - x1 / (10 : Int32) * (10 : Int32))), none, none]) (d' := 3) rfl rfl rfl (Nat.le_of_ble_eq_true rfl) (Nat.le_of_ble_eq_true rfl) rfl (Nat.le_of_ble_eq_true rfl) rfl rfl (zyC122 hp4) ?_
            show zyR _ _ _ _ [some (.ref (0 + 3)), some (.int x1), some (.int x2)] [.int p4.1] _ _
            obtain ⟨rfl, rfl⟩ := zy_pi h
            exact zy_4 rfl ⟨rfl, rfl⟩
          · replace h := zy_ifn h b6
            refine zy_0 rfl rfl (show zyR _ _ _ _ [some (.ref (0 + 3)), some (.int x1), some (.int x2)] [.ref (0 + 3)] _ _ from ?_)
            refine zy_1r (c := 0) rfl rfl rfl (show zyR _ _ _ _ [some (.ref (0 + 3)), some (.int x1), some (.int x2)] [.ref (16 + 3)] _ _ from ?_)
            refine zy_2 rfl rfl (show zyR _ _ _ _ [some (.ref (0 + 3)), some (.int x1), some (.int x2)] [.int x1, .ref (16 + 3)] _ _ from ?_)
            refine zy_3 rfl rfl (show zyR _ _ _ _ [some (.ref (0 + 3)), some (.int x1), some (.int x2)] [.int (10 : Int32), .int x1, .ref (16 + 3)] _ _ from ?_)
            refine zy_19 rfl (by decide) (show zyR _ _ _ _ [some (.ref (0 + 3)), some (.int x1), some (.int x2)] [.int (x1 / (10 : Int32)), .ref (16 + 3)] _ _ from ?_)
            refine zy_2 rfl rfl (show zyR _ _ _ _ [some (.ref (0 + 3)), some (.int x1), some (.int x2)] [.int x1, .int (x1 / (10 : Int32)), .ref (16 + 3)] _ _ from ?_)
            refine zy_3 rfl rfl (show zyR _ _ _ _ [some (.ref (0 + 3)), some (.int x1), some (.int x2)] [.int (10 : Int32), .int x1, .int (x1 / (10 : Int32)), .ref (16 + 3)] _ _ from ?_)
            refine zy_20 rfl (by decide) (show zyR _ _ _ _ [some (.ref (0 + 3)), some (.int x1), some (.int x2)] [.int (x1 - x1 / (10 : Int32) * (10 : Int32)), .int (x1 / (10 : Int32)), .ref (16 + 3)] _ _ from ?_)
            obtain ⟨p5, hp5, h⟩ := zy_bind h
            refine zy_5 (c := 16) (as := [.int (x1 / (10 : Int32)), .int (x1 - x1 / (10 : Int32) * (10 : Int32))]) (rest := []) (L := [some (.ref (16 + 3)), some (.int (x1 / (10 : Int32))), some (.int (x1 - x1 / (10 : Int32) * (10 : Int32))), none, none]) (d' := 3) rfl rfl rfl (Nat.le_of_ble_eq_true rfl) (Nat.le_of_ble_eq_true rfl) rfl (Nat.le_of_ble_eq_true rfl) rfl rfl (zyC120 hp5) ?_
            show zyR _ _ _ _ [some (.ref (0 + 3)), some (.int x1), some (.int x2)] [.int p5.1] _ _
            refine zy_6 rfl (show zyR _ _ _ _ [some (.ref (0 + 3)), some (.int x1), some (.int x2)] [.int p5.1] _ _ from ?_)
            obtain ⟨rfl, rfl⟩ := zy_pi h
            exact zy_4 rfl ⟨rfl, rfl⟩
        · replace h := zy_ifn h b7
          refine zy_3 rfl rfl (show zyR _ _ _ _ [some (.ref (0 + 3)), some (.int x1), some (.int x2)] [.int (-1 : Int32)] _ _ from ?_)
          obtain ⟨rfl, rfl⟩ := zy_pi h
          exact zy_4 rfl ⟨rfl, rfl⟩
/-! NineOpinionsModel.farOf(II)I -/
noncomputable def zyF235_43  (k5 : Int32 → Int32 → Int32 → Int32 → zy_S → Option (Int32 × zy_S)) (x1 : Int32) (x2 : Int32) (x4 : Int32) (y0 : Int32) (y1 : Int32) (s : zy_S) : Option (Int32 × zy_S) :=
k5 x1 x2 (y1 + y0) (x4 + (1 : Int32)) s
theorem zyC235_43 {X : zx_X}  {k5 : Int32 → Int32 → Int32 → Int32 → zy_S → Option (Int32 × zy_S)}  (hk5 : ∀ (x1 : Int32) (x2 : Int32) (x3 : Int32) (x4 : Int32) (s : zy_S) (r : Int32) (s' : zy_S), k5 x1 x2 x3 x4 s = some (r, s') → zyR X 3 235 5 [some (.ref (43 + 3)), some (.int x1), some (.int x2), some (.int x3), some (.int x4), none] [] s (zyE (some (.int r)) s')) {x1 : Int32} {x2 : Int32} {x4 : Int32} {y0 : Int32} {y1 : Int32} {s : zy_S} {r : Int32} {s' : zy_S}  (h : zyF235_43 k5 x1 x2 x4 y0 y1 s = some (r, s')) : zyR X 3 235 43 [some (.ref (43 + 3)), some (.int x1), some (.int x2), none, some (.int x4), none] [.int y0, .int y1] s (zyE (some (.int r)) s') := by
  unfold zyF235_43 at h
  refine zy_10 rfl (show zyR _ _ _ _ [some (.ref (43 + 3)), some (.int x1), some (.int x2), none, some (.int x4), none] [.int (y1 + y0)] _ _ from ?_)
  refine zy_23 rfl rfl (show zyR _ _ _ _ [some (.ref (43 + 3)), some (.int x1), some (.int x2), some (.int (y1 + y0)), some (.int x4), none] [] _ _ from ?_)
  refine zy_22 rfl rfl rfl rfl (show zyR _ _ _ _ [some (.ref (43 + 3)), some (.int x1), some (.int x2), some (.int (y1 + y0)), some (.int (x4 + (1 : Int32))), none] [] _ _ from ?_)
  refine zy_6 rfl (show zyR _ _ _ _ [some (.ref (43 + 3)), some (.int x1), some (.int x2), some (.int (y1 + y0)), some (.int (x4 + (1 : Int32))), none] [] _ _ from ?_)
  exact zy_sub (show zy_le [some (.ref (43 + 3)), some (.int x1), some (.int x2), some (.int (y1 + y0)), some (.int (x4 + (1 : Int32))), none] [some (.ref (43 + 3)), some (.int x1), some (.int x2), some (.int (y1 + y0)), some (.int (x4 + (1 : Int32))), none] from ⟨rfl, ⟨rfl, ⟨rfl, ⟨rfl, ⟨rfl, trivial⟩⟩⟩⟩⟩) (hk5 x1 x2 (y1 + y0) (x4 + (1 : Int32)) s _ _ h)
noncomputable def zyF235_5b  (k5 : Int32 → Int32 → Int32 → Int32 → zy_S → Option (Int32 × zy_S)) (x1 : Int32) (x2 : Int32) (x3 : Int32) (x4 : Int32) (s : zy_S) : Option (Int32 × zy_S) :=
if (6 : Int32) ≤ x4 then
some (x3, s)
else
(zyF205 x1 x4 s).bind fun p1 =>
(zyF205 x2 x4 p1.2).bind fun p2 =>
if 0 ≤ (p1.1 - p2.1) then
zyF235_43 k5 x1 x2 x4 (p1.1 - p2.1) x3 p2.2
else
zyF235_43 k5 x1 x2 x4 (-(p1.1 - p2.1)) x3 p2.2
theorem zyC235_5b {X : zx_X}  {k5 : Int32 → Int32 → Int32 → Int32 → zy_S → Option (Int32 × zy_S)}  (hk5 : ∀ (x1 : Int32) (x2 : Int32) (x3 : Int32) (x4 : Int32) (s : zy_S) (r : Int32) (s' : zy_S), k5 x1 x2 x3 x4 s = some (r, s') → zyR X 3 235 5 [some (.ref (43 + 3)), some (.int x1), some (.int x2), some (.int x3), some (.int x4), none] [] s (zyE (some (.int r)) s')) {x1 : Int32} {x2 : Int32} {x3 : Int32} {x4 : Int32} {s : zy_S} {r : Int32} {s' : zy_S}  (h : zyF235_5b k5 x1 x2 x3 x4 s = some (r, s')) : zyR X 3 235 5 [some (.ref (43 + 3)), some (.int x1), some (.int x2), some (.int x3), some (.int x4), none] [] s (zyE (some (.int r)) s') := by
  unfold zyF235_5b at h
  refine zy_2 rfl rfl (show zyR _ _ _ _ [some (.ref (43 + 3)), some (.int x1), some (.int x2), some (.int x3), some (.int x4), none] [.int x4] _ _ from ?_)
  refine zy_3 rfl rfl (show zyR _ _ _ _ [some (.ref (43 + 3)), some (.int x1), some (.int x2), some (.int x3), some (.int x4), none] [.int (6 : Int32), .int x4] _ _ from ?_)
  refine zy_25_3 rfl (fun b4 => (show zyR _ _ _ _ [some (.ref (43 + 3)), some (.int x1), some (.int x2), some (.int x3), some (.int x4), none] [] _ _ from ?_)) (fun b4 => (show zyR _ _ _ _ [some (.ref (43 + 3)), some (.int x1), some (.int x2), some (.int x3), some (.int x4), none] [] _ _ from ?_))
  · replace h := zy_ifp h b4
    refine zy_2 rfl rfl (show zyR _ _ _ _ [some (.ref (43 + 3)), some (.int x1), some (.int x2), some (.int x3), some (.int x4), none] [.int x3] _ _ from ?_)
    obtain ⟨rfl, rfl⟩ := zy_pi h
    exact zy_4 rfl ⟨rfl, rfl⟩
  · replace h := zy_ifn h b4
    refine zy_0 rfl rfl (show zyR _ _ _ _ [some (.ref (43 + 3)), some (.int x1), some (.int x2), some (.int x3), some (.int x4), none] [.ref (43 + 3)] _ _ from ?_)
    refine zy_2 rfl rfl (show zyR _ _ _ _ [some (.ref (43 + 3)), some (.int x1), some (.int x2), some (.int x3), some (.int x4), none] [.int x1, .ref (43 + 3)] _ _ from ?_)
    refine zy_2 rfl rfl (show zyR _ _ _ _ [some (.ref (43 + 3)), some (.int x1), some (.int x2), some (.int x3), some (.int x4), none] [.int x4, .int x1, .ref (43 + 3)] _ _ from ?_)
    obtain ⟨p1, hp1, h⟩ := zy_bind h
    refine zy_5 (c := 43) (as := [.int x1, .int x4]) (rest := []) (L := [some (.ref (43 + 3)), some (.int x1), some (.int x4)]) (d' := 2) rfl rfl rfl (Nat.le_of_ble_eq_true rfl) (Nat.le_of_ble_eq_true rfl) rfl (Nat.le_of_ble_eq_true rfl) rfl rfl (zyC205 hp1) ?_
    show zyR _ _ _ _ [some (.ref (43 + 3)), some (.int x1), some (.int x2), some (.int x3), some (.int x4), none] [.int p1.1] _ _
    refine zy_0 rfl rfl (show zyR _ _ _ _ [some (.ref (43 + 3)), some (.int x1), some (.int x2), some (.int x3), some (.int x4), none] [.ref (43 + 3), .int p1.1] _ _ from ?_)
    refine zy_2 rfl rfl (show zyR _ _ _ _ [some (.ref (43 + 3)), some (.int x1), some (.int x2), some (.int x3), some (.int x4), none] [.int x2, .ref (43 + 3), .int p1.1] _ _ from ?_)
    refine zy_2 rfl rfl (show zyR _ _ _ _ [some (.ref (43 + 3)), some (.int x1), some (.int x2), some (.int x3), some (.int x4), none] [.int x4, .int x2, .ref (43 + 3), .int p1.1] _ _ from ?_)
    obtain ⟨p2, hp2, h⟩ := zy_bind h
    refine zy_5 (c := 43) (as := [.int x2, .int x4]) (rest := [.int p1.1]) (L := [some (.ref (43 + 3)), some (.int x2), some (.int x4)]) (d' := 2) rfl rfl rfl (Nat.le_of_ble_eq_true rfl) (Nat.le_of_ble_eq_true rfl) rfl (Nat.le_of_ble_eq_true rfl) rfl rfl (zyC205 hp2) ?_
    show zyR _ _ _ _ [some (.ref (43 + 3)), some (.int x1), some (.int x2), some (.int x3), some (.int x4), none] [.int p2.1, .int p1.1] _ _
    refine zy_11 rfl (show zyR _ _ _ _ [some (.ref (43 + 3)), some (.int x1), some (.int x2), some (.int x3), some (.int x4), none] [.int (p1.1 - p2.1)] _ _ from ?_)
    refine zy_23 rfl rfl (show zyR _ _ _ _ [some (.ref (43 + 3)), some (.int x1), some (.int x2), some (.int x3), some (.int x4), some (.int (p1.1 - p2.1))] [] _ _ from ?_)
    refine zy_2 rfl rfl (show zyR _ _ _ _ [some (.ref (43 + 3)), some (.int x1), some (.int x2), some (.int x3), some (.int x4), some (.int (p1.1 - p2.1))] [.int x3] _ _ from ?_)
    refine zy_2 rfl rfl (show zyR _ _ _ _ [some (.ref (43 + 3)), some (.int x1), some (.int x2), some (.int x3), some (.int x4), some (.int (p1.1 - p2.1))] [.int (p1.1 - p2.1), .int x3] _ _ from ?_)
    refine zy_24_3 rfl (fun b3 => (show zyR _ _ _ _ [some (.ref (43 + 3)), some (.int x1), some (.int x2), some (.int x3), some (.int x4), some (.int (p1.1 - p2.1))] [.int x3] _ _ from ?_)) (fun b3 => (show zyR _ _ _ _ [some (.ref (43 + 3)), some (.int x1), some (.int x2), some (.int x3), some (.int x4), some (.int (p1.1 - p2.1))] [.int x3] _ _ from ?_))
    · replace h := zy_ifp h b3
      refine zy_2 rfl rfl (show zyR _ _ _ _ [some (.ref (43 + 3)), some (.int x1), some (.int x2), some (.int x3), some (.int x4), some (.int (p1.1 - p2.1))] [.int (p1.1 - p2.1), .int x3] _ _ from ?_)
      exact zy_sub (show zy_le [some (.ref (43 + 3)), some (.int x1), some (.int x2), none, some (.int x4), none] [some (.ref (43 + 3)), some (.int x1), some (.int x2), some (.int x3), some (.int x4), some (.int (p1.1 - p2.1))] from ⟨rfl, ⟨rfl, ⟨rfl, ⟨rfl, trivial⟩⟩⟩⟩) (zyC235_43 hk5 h)
    · replace h := zy_ifn h b3
      refine zy_2 rfl rfl (show zyR _ _ _ _ [some (.ref (43 + 3)), some (.int x1), some (.int x2), some (.int x3), some (.int x4), some (.int (p1.1 - p2.1))] [.int (p1.1 - p2.1), .int x3] _ _ from ?_)
      refine zy_21 rfl (show zyR _ _ _ _ [some (.ref (43 + 3)), some (.int x1), some (.int x2), some (.int x3), some (.int x4), some (.int (p1.1 - p2.1))] [.int (-(p1.1 - p2.1)), .int x3] _ _ from ?_)
      refine zy_6 rfl (show zyR _ _ _ _ [some (.ref (43 + 3)), some (.int x1), some (.int x2), some (.int x3), some (.int x4), some (.int (p1.1 - p2.1))] [.int (-(p1.1 - p2.1)), .int x3] _ _ from ?_)
      exact zy_sub (show zy_le [some (.ref (43 + 3)), some (.int x1), some (.int x2), none, some (.int x4), none] [some (.ref (43 + 3)), some (.int x1), some (.int x2), some (.int x3), some (.int x4), some (.int (p1.1 - p2.1))] from ⟨rfl, ⟨rfl, ⟨rfl, ⟨rfl, trivial⟩⟩⟩⟩) (zyC235_43 hk5 h)
noncomputable def zyF235_5   (n : Nat) : Int32 → Int32 → Int32 → Int32 → zy_S → Option (Int32 × zy_S) := Nat.rec (fun _ _ _ _ _ => none) (fun _ k5 => zyF235_5b k5) n
theorem zyC235_5 {X : zx_X}     : ∀ (n : Nat) (x1 : Int32) (x2 : Int32) (x3 : Int32) (x4 : Int32) (s : zy_S) (r : Int32) (s' : zy_S), zyF235_5 n x1 x2 x3 x4 s = some (r, s') → zyR X 3 235 5 [some (.ref (43 + 3)), some (.int x1), some (.int x2), some (.int x3), some (.int x4), none] [] s (zyE (some (.int r)) s')
  | 0, _, _, _, _ => by
    intro s r s'  h
    have h : (none : Option (Int32 × zy_S)) = some (r, s') := h
    cases h
  | n + 1, x1, x2, x3, x4 => by
    intro s r s'  h
    exact zyC235_5b (k5 := zyF235_5 n) (fun x1 x2 x3 x4 s r s'  h => zyC235_5  n x1 x2 x3 x4 s r s'  h) h
noncomputable def zyF235   (x1 : Int32) (x2 : Int32) (s : zy_S) : Option (Int32 × zy_S) :=
zyF235_5 zy_fu x1 x2 (0 : Int32) (0 : Int32) s
theorem zyC235 {X : zx_X}     {x1 : Int32} {x2 : Int32} {s : zy_S} {r : Int32} {s' : zy_S}  (h : zyF235 x1 x2 s = some (r, s')) : zyR X 3 235 0 [some (.ref (43 + 3)), some (.int x1), some (.int x2), none, none, none] [] s (zyE (some (.int r)) s') := by
  unfold zyF235 at h
  refine zy_3 rfl rfl (show zyR _ _ _ _ [some (.ref (43 + 3)), some (.int x1), some (.int x2), none, none, none] [.int (0 : Int32)] _ _ from ?_)
  refine zy_23 rfl rfl (show zyR _ _ _ _ [some (.ref (43 + 3)), some (.int x1), some (.int x2), some (.int (0 : Int32)), none, none] [] _ _ from ?_)
  refine zy_3 rfl rfl (show zyR _ _ _ _ [some (.ref (43 + 3)), some (.int x1), some (.int x2), some (.int (0 : Int32)), none, none] [.int (0 : Int32)] _ _ from ?_)
  refine zy_23 rfl rfl (show zyR _ _ _ _ [some (.ref (43 + 3)), some (.int x1), some (.int x2), some (.int (0 : Int32)), some (.int (0 : Int32)), none] [] _ _ from ?_)
  exact zy_sub (show zy_le [some (.ref (43 + 3)), some (.int x1), some (.int x2), some (.int (0 : Int32)), some (.int (0 : Int32)), none] [some (.ref (43 + 3)), some (.int x1), some (.int x2), some (.int (0 : Int32)), some (.int (0 : Int32)), none] from ⟨rfl, ⟨rfl, ⟨rfl, ⟨rfl, ⟨rfl, trivial⟩⟩⟩⟩⟩) (zyC235_5 zy_fu x1 x2 (0 : Int32) (0 : Int32) s _ _ h)
/-! NineOpinionsModel.agree(II)I -/
noncomputable def zyF234_81  (k45 : Int32 → Int32 → Int32 → Int32 → zy_S → Option (Int32 × zy_S)) (x1 : Int32) (x2 : Int32) (x4 : Int32) (y0 : Int32) (y1 : Int32) (s : zy_S) : Option (Int32 × zy_S) :=
k45 x1 x2 (y1 + y0) (x4 + (1 : Int32)) s
theorem zyC234_81 {X : zx_X}  {k45 : Int32 → Int32 → Int32 → Int32 → zy_S → Option (Int32 × zy_S)}  (hk45 : ∀ (x1 : Int32) (x2 : Int32) (x3 : Int32) (x4 : Int32) (s : zy_S) (r : Int32) (s' : zy_S), k45 x1 x2 x3 x4 s = some (r, s') → zyR X 4 234 45 [some (.ref (43 + 3)), some (.int x1), some (.int x2), some (.int x3), some (.int x4)] [] s (zyE (some (.int r)) s')) {x1 : Int32} {x2 : Int32} {x4 : Int32} {y0 : Int32} {y1 : Int32} {s : zy_S} {r : Int32} {s' : zy_S}  (h : zyF234_81 k45 x1 x2 x4 y0 y1 s = some (r, s')) : zyR X 4 234 81 [some (.ref (43 + 3)), some (.int x1), some (.int x2), none, some (.int x4)] [.int y0, .int y1] s (zyE (some (.int r)) s') := by
  unfold zyF234_81 at h
  refine zy_10 rfl (show zyR _ _ _ _ [some (.ref (43 + 3)), some (.int x1), some (.int x2), none, some (.int x4)] [.int (y1 + y0)] _ _ from ?_)
  refine zy_23 rfl rfl (show zyR _ _ _ _ [some (.ref (43 + 3)), some (.int x1), some (.int x2), some (.int (y1 + y0)), some (.int x4)] [] _ _ from ?_)
  refine zy_22 rfl rfl rfl rfl (show zyR _ _ _ _ [some (.ref (43 + 3)), some (.int x1), some (.int x2), some (.int (y1 + y0)), some (.int (x4 + (1 : Int32)))] [] _ _ from ?_)
  refine zy_6 rfl (show zyR _ _ _ _ [some (.ref (43 + 3)), some (.int x1), some (.int x2), some (.int (y1 + y0)), some (.int (x4 + (1 : Int32)))] [] _ _ from ?_)
  exact zy_sub (show zy_le [some (.ref (43 + 3)), some (.int x1), some (.int x2), some (.int (y1 + y0)), some (.int (x4 + (1 : Int32)))] [some (.ref (43 + 3)), some (.int x1), some (.int x2), some (.int (y1 + y0)), some (.int (x4 + (1 : Int32)))] from ⟨rfl, ⟨rfl, ⟨rfl, ⟨rfl, ⟨rfl, trivial⟩⟩⟩⟩⟩) (hk45 x1 x2 (y1 + y0) (x4 + (1 : Int32)) s _ _ h)
noncomputable def zyF234_45b  (k45 : Int32 → Int32 → Int32 → Int32 → zy_S → Option (Int32 × zy_S)) (x1 : Int32) (x2 : Int32) (x3 : Int32) (x4 : Int32) (s : zy_S) : Option (Int32 × zy_S) :=
if (6 : Int32) ≤ x4 then
if x2 ≠ 0 then
(zyF235 (x1 / (10 : Int32)) (x1 - x1 / (10 : Int32) * (10 : Int32)) s).bind fun p1 =>
some (p1.1, p1.2)
else
some (x3, s)
else
(zyF205 (x1 / (10 : Int32)) x4 s).bind fun p3 =>
(zyF205 (x1 - x1 / (10 : Int32) * (10 : Int32)) x4 p3.2).bind fun p4 =>
if p3.1 ≠ p4.1 then
zyF234_81 k45 x1 x2 x4 (0 : Int32) x3 p4.2
else
zyF234_81 k45 x1 x2 x4 (1 : Int32) x3 p4.2
theorem zyC234_45b {X : zx_X}  {k45 : Int32 → Int32 → Int32 → Int32 → zy_S → Option (Int32 × zy_S)}  (hk45 : ∀ (x1 : Int32) (x2 : Int32) (x3 : Int32) (x4 : Int32) (s : zy_S) (r : Int32) (s' : zy_S), k45 x1 x2 x3 x4 s = some (r, s') → zyR X 4 234 45 [some (.ref (43 + 3)), some (.int x1), some (.int x2), some (.int x3), some (.int x4)] [] s (zyE (some (.int r)) s')) {x1 : Int32} {x2 : Int32} {x3 : Int32} {x4 : Int32} {s : zy_S} {r : Int32} {s' : zy_S}  (h : zyF234_45b k45 x1 x2 x3 x4 s = some (r, s')) : zyR X 4 234 45 [some (.ref (43 + 3)), some (.int x1), some (.int x2), some (.int x3), some (.int x4)] [] s (zyE (some (.int r)) s') := by
  unfold zyF234_45b at h
  refine zy_2 rfl rfl (show zyR _ _ _ _ [some (.ref (43 + 3)), some (.int x1), some (.int x2), some (.int x3), some (.int x4)] [.int x4] _ _ from ?_)
  refine zy_3 rfl rfl (show zyR _ _ _ _ [some (.ref (43 + 3)), some (.int x1), some (.int x2), some (.int x3), some (.int x4)] [.int (6 : Int32), .int x4] _ _ from ?_)
  refine zy_25_3 rfl (fun b6 => (show zyR _ _ _ _ [some (.ref (43 + 3)), some (.int x1), some (.int x2), some (.int x3), some (.int x4)] [] _ _ from ?_)) (fun b6 => (show zyR _ _ _ _ [some (.ref (43 + 3)), some (.int x1), some (.int x2), some (.int x3), some (.int x4)] [] _ _ from ?_))
  · replace h := zy_ifp h b6
    refine zy_2 rfl rfl (show zyR _ _ _ _ [some (.ref (43 + 3)), some (.int x1), some (.int x2), some (.int x3), some (.int x4)] [.int x2] _ _ from ?_)
    refine zy_24_1 rfl (fun b2 => (show zyR _ _ _ _ [some (.ref (43 + 3)), some (.int x1), some (.int x2), some (.int x3), some (.int x4)] [] _ _ from ?_)) (fun b2 => (show zyR _ _ _ _ [some (.ref (43 + 3)), some (.int x1), some (.int x2), some (.int x3), some (.int x4)] [] _ _ from ?_))
    · replace h := zy_ifp h b2
      refine zy_0 rfl rfl (show zyR _ _ _ _ [some (.ref (43 + 3)), some (.int x1), some (.int x2), some (.int x3), some (.int x4)] [.ref (43 + 3)] _ _ from ?_)
      refine zy_2 rfl rfl (show zyR _ _ _ _ [some (.ref (43 + 3)), some (.int x1), some (.int x2), some (.int x3), some (.int x4)] [.int x1, .ref (43 + 3)] _ _ from ?_)
      refine zy_3 rfl rfl (show zyR _ _ _ _ [some (.ref (43 + 3)), some (.int x1), some (.int x2), some (.int x3), some (.int x4)] [.int (10 : Int32), .int x1, .ref (43 + 3)] _ _ from ?_)
      refine zy_19 rfl (by decide) (show zyR _ _ _ _ [some (.ref (43 + 3)), some (.int x1), some (.int x2), some (.int x3), some (.int x4)] [.int (x1 / (10 : Int32)), .ref (43 + 3)] _ _ from ?_)
      refine zy_2 rfl rfl (show zyR _ _ _ _ [some (.ref (43 + 3)), some (.int x1), some (.int x2), some (.int x3), some (.int x4)] [.int x1, .int (x1 / (10 : Int32)), .ref (43 + 3)] _ _ from ?_)
      refine zy_3 rfl rfl (show zyR _ _ _ _ [some (.ref (43 + 3)), some (.int x1), some (.int x2), some (.int x3), some (.int x4)] [.int (10 : Int32), .int x1, .int (x1 / (10 : Int32)), .ref (43 + 3)] _ _ from ?_)
      refine zy_20 rfl (by decide) (show zyR _ _ _ _ [some (.ref (43 + 3)), some (.int x1), some (.int x2), some (.int x3), some (.int x4)] [.int (x1 - x1 / (10 : Int32) * (10 : Int32)), .int (x1 / (10 : Int32)), .ref (43 + 3)] _ _ from ?_)
      obtain ⟨p1, hp1, h⟩ := zy_bind h
      refine zy_5 (c := 43) (as := [.int (x1 / (10 : Int32)), .int (x1 - x1 / (10 : Int32) * (10 : Int32))]) (rest := []) (L := [some (.ref (43 + 3)), some (.int (x1 / (10 : Int32))), some (.int (x1 - x1 / (10 : Int32) * (10 : Int32))), none, none, none]) (d' := 3) rfl rfl rfl (Nat.le_of_ble_eq_true rfl) (Nat.le_of_ble_eq_true rfl) rfl (Nat.le_of_ble_eq_true rfl) rfl rfl (zyC235 hp1) ?_
      show zyR _ _ _ _ [some (.ref (43 + 3)), some (.int x1), some (.int x2), some (.int x3), some (.int x4)] [.int p1.1] _ _
      obtain ⟨rfl, rfl⟩ := zy_pi h
      exact zy_4 rfl ⟨rfl, rfl⟩
    · replace h := zy_ifn h b2
      refine zy_2 rfl rfl (show zyR _ _ _ _ [some (.ref (43 + 3)), some (.int x1), some (.int x2), some (.int x3), some (.int x4)] [.int x3] _ _ from ?_)
      refine zy_6 rfl (show zyR _ _ _ _ [some (.ref (43 + 3)), some (.int x1), some (.int x2), some (.int x3), some (.int x4)] [.int x3] _ _ from ?_)
      obtain ⟨rfl, rfl⟩ := zy_pi h
      exact zy_4 rfl ⟨rfl, rfl⟩
  · replace h := zy_ifn h b6
    refine zy_2 rfl rfl (show zyR _ _ _ _ [some (.ref (43 + 3)), some (.int x1), some (.int x2), some (.int x3), some (.int x4)] [.int x3] _ _ from ?_)
    refine zy_0 rfl rfl (show zyR _ _ _ _ [some (.ref (43 + 3)), some (.int x1), some (.int x2), some (.int x3), some (.int x4)] [.ref (43 + 3), .int x3] _ _ from ?_)
    refine zy_2 rfl rfl (show zyR _ _ _ _ [some (.ref (43 + 3)), some (.int x1), some (.int x2), some (.int x3), some (.int x4)] [.int x1, .ref (43 + 3), .int x3] _ _ from ?_)
    refine zy_3 rfl rfl (show zyR _ _ _ _ [some (.ref (43 + 3)), some (.int x1), some (.int x2), some (.int x3), some (.int x4)] [.int (10 : Int32), .int x1, .ref (43 + 3), .int x3] _ _ from ?_)
    refine zy_19 rfl (by decide) (show zyR _ _ _ _ [some (.ref (43 + 3)), some (.int x1), some (.int x2), some (.int x3), some (.int x4)] [.int (x1 / (10 : Int32)), .ref (43 + 3), .int x3] _ _ from ?_)
    refine zy_2 rfl rfl (show zyR _ _ _ _ [some (.ref (43 + 3)), some (.int x1), some (.int x2), some (.int x3), some (.int x4)] [.int x4, .int (x1 / (10 : Int32)), .ref (43 + 3), .int x3] _ _ from ?_)
    obtain ⟨p3, hp3, h⟩ := zy_bind h
    refine zy_5 (c := 43) (as := [.int (x1 / (10 : Int32)), .int x4]) (rest := [.int x3]) (L := [some (.ref (43 + 3)), some (.int (x1 / (10 : Int32))), some (.int x4)]) (d' := 2) rfl rfl rfl (Nat.le_of_ble_eq_true rfl) (Nat.le_of_ble_eq_true rfl) rfl (Nat.le_of_ble_eq_true rfl) rfl rfl (zyC205 hp3) ?_
    show zyR _ _ _ _ [some (.ref (43 + 3)), some (.int x1), some (.int x2), some (.int x3), some (.int x4)] [.int p3.1, .int x3] _ _
    refine zy_0 rfl rfl (show zyR _ _ _ _ [some (.ref (43 + 3)), some (.int x1), some (.int x2), some (.int x3), some (.int x4)] [.ref (43 + 3), .int p3.1, .int x3] _ _ from ?_)
    refine zy_2 rfl rfl (show zyR _ _ _ _ [some (.ref (43 + 3)), some (.int x1), some (.int x2), some (.int x3), some (.int x4)] [.int x1, .ref (43 + 3), .int p3.1, .int x3] _ _ from ?_)
    refine zy_3 rfl rfl (show zyR _ _ _ _ [some (.ref (43 + 3)), some (.int x1), some (.int x2), some (.int x3), some (.int x4)] [.int (10 : Int32), .int x1, .ref (43 + 3), .int p3.1, .int x3] _ _ from ?_)
    refine zy_20 rfl (by decide) (show zyR _ _ _ _ [some (.ref (43 + 3)), some (.int x1), some (.int x2), some (.int x3), some (.int x4)] [.int (x1 - x1 / (10 : Int32) * (10 : Int32)), .ref (43 + 3), .int p3.1, .int x3] _ _ from ?_)
    refine zy_2 rfl rfl (show zyR _ _ _ _ [some (.ref (43 + 3)), some (.int x1), some (.int x2), some (.int x3), some (.int x4)] [.int x4, .int (x1 - x1 / (10 : Int32) * (10 : Int32)), .ref (43 + 3), .int p3.1, .int x3] _ _ from ?_)
    obtain ⟨p4, hp4, h⟩ := zy_bind h
    refine zy_5 (c := 43) (as := [.int (x1 - x1 / (10 : Int32) * (10 : Int32)), .int x4]) (rest := [.int p3.1, .int x3]) (L := [some (.ref (43 + 3)), some (.int (x1 - x1 / (10 : Int32) * (10 : Int32))), some (.int x4)]) (d' := 2) rfl rfl rfl (Nat.le_of_ble_eq_true rfl) (Nat.le_of_ble_eq_true rfl) rfl (Nat.le_of_ble_eq_true rfl) rfl rfl (zyC205 hp4) ?_
    show zyR _ _ _ _ [some (.ref (43 + 3)), some (.int x1), some (.int x2), some (.int x3), some (.int x4)] [.int p4.1, .int p3.1, .int x3] _ _
    refine zy_25_1 rfl (fun b5 => (show zyR _ _ _ _ [some (.ref (43 + 3)), some (.int x1), some (.int x2), some (.int x3), some (.int x4)] [.int x3] _ _ from ?_)) (fun b5 => (show zyR _ _ _ _ [some (.ref (43 + 3)), some (.int x1), some (.int x2), some (.int x3), some (.int x4)] [.int x3] _ _ from ?_))
    · replace h := zy_ifp h b5
      refine zy_3 rfl rfl (show zyR _ _ _ _ [some (.ref (43 + 3)), some (.int x1), some (.int x2), some (.int x3), some (.int x4)] [.int (0 : Int32), .int x3] _ _ from ?_)
      exact zy_sub (show zy_le [some (.ref (43 + 3)), some (.int x1), some (.int x2), none, some (.int x4)] [some (.ref (43 + 3)), some (.int x1), some (.int x2), some (.int x3), some (.int x4)] from ⟨rfl, ⟨rfl, ⟨rfl, ⟨rfl, trivial⟩⟩⟩⟩) (zyC234_81 hk45 h)
    · replace h := zy_ifn h b5
      refine zy_3 rfl rfl (show zyR _ _ _ _ [some (.ref (43 + 3)), some (.int x1), some (.int x2), some (.int x3), some (.int x4)] [.int (1 : Int32), .int x3] _ _ from ?_)
      refine zy_6 rfl (show zyR _ _ _ _ [some (.ref (43 + 3)), some (.int x1), some (.int x2), some (.int x3), some (.int x4)] [.int (1 : Int32), .int x3] _ _ from ?_)
      exact zy_sub (show zy_le [some (.ref (43 + 3)), some (.int x1), some (.int x2), none, some (.int x4)] [some (.ref (43 + 3)), some (.int x1), some (.int x2), some (.int x3), some (.int x4)] from ⟨rfl, ⟨rfl, ⟨rfl, ⟨rfl, trivial⟩⟩⟩⟩) (zyC234_81 hk45 h)
noncomputable def zyF234_45   (n : Nat) : Int32 → Int32 → Int32 → Int32 → zy_S → Option (Int32 × zy_S) := Nat.rec (fun _ _ _ _ _ => none) (fun _ k45 => zyF234_45b k45) n
theorem zyC234_45 {X : zx_X}     : ∀ (n : Nat) (x1 : Int32) (x2 : Int32) (x3 : Int32) (x4 : Int32) (s : zy_S) (r : Int32) (s' : zy_S), zyF234_45 n x1 x2 x3 x4 s = some (r, s') → zyR X 4 234 45 [some (.ref (43 + 3)), some (.int x1), some (.int x2), some (.int x3), some (.int x4)] [] s (zyE (some (.int r)) s')
  | 0, _, _, _, _ => by
    intro s r s'  h
    have h : (none : Option (Int32 × zy_S)) = some (r, s') := h
    cases h
  | n + 1, x1, x2, x3, x4 => by
    intro s r s'  h
    exact zyC234_45b (k45 := zyF234_45 n) (fun x1 x2 x3 x4 s r s'  h => zyC234_45  n x1 x2 x3 x4 s r s'  h) h
noncomputable def zyF234   (x1 : Int32) (x2 : Int32) (s : zy_S) : Option (Int32 × zy_S) :=
if x1 < 0 then
some ((-1 : Int32), s)
else
(zyF185 ((x1 / (10 : Int32))).toInt64 s).bind fun p7 =>
if p7.1 = 0 then
some ((-1 : Int32), p7.2)
else
(zyF185 ((x1 - x1 / (10 : Int32) * (10 : Int32))).toInt64 p7.2).bind fun p8 =>
if p8.1 = 0 then
some ((-1 : Int32), p8.2)
else
(zyF179 (x2).toInt64 (0 : Int64) (1 : Int64) p8.2).bind fun p9 =>
if p9.1 ≠ 0 then
zyF234_45 zy_fu x1 x2 (0 : Int32) (0 : Int32) p9.2
else
some ((-1 : Int32), p9.2)
theorem zyC234 {X : zx_X}     {x1 : Int32} {x2 : Int32} {s : zy_S} {r : Int32} {s' : zy_S}  (h : zyF234 x1 x2 s = some (r, s')) : zyR X 4 234 0 [some (.ref (43 + 3)), some (.int x1), some (.int x2), none, none] [] s (zyE (some (.int r)) s') := by
  unfold zyF234 at h
  refine zy_2 rfl rfl (show zyR _ _ _ _ [some (.ref (43 + 3)), some (.int x1), some (.int x2), none, none] [.int x1] _ _ from ?_)
  refine zy_24_2 rfl (fun b13 => (show zyR _ _ _ _ [some (.ref (43 + 3)), some (.int x1), some (.int x2), none, none] [] _ _ from ?_)) (fun b13 => (show zyR _ _ _ _ [some (.ref (43 + 3)), some (.int x1), some (.int x2), none, none] [] _ _ from ?_))
  · replace h := zy_ifp h b13
    refine zy_3 rfl rfl (show zyR _ _ _ _ [some (.ref (43 + 3)), some (.int x1), some (.int x2), none, none] [.int (-1 : Int32)] _ _ from ?_)
    obtain ⟨rfl, rfl⟩ := zy_pi h
    exact zy_4 rfl ⟨rfl, rfl⟩
  · replace h := zy_ifn h b13
    refine zy_0 rfl rfl (show zyR _ _ _ _ [some (.ref (43 + 3)), some (.int x1), some (.int x2), none, none] [.ref (43 + 3)] _ _ from ?_)
    refine zy_2 rfl rfl (show zyR _ _ _ _ [some (.ref (43 + 3)), some (.int x1), some (.int x2), none, none] [.int x1, .ref (43 + 3)] _ _ from ?_)
    refine zy_3 rfl rfl (show zyR _ _ _ _ [some (.ref (43 + 3)), some (.int x1), some (.int x2), none, none] [.int (10 : Int32), .int x1, .ref (43 + 3)] _ _ from ?_)
    refine zy_19 rfl (by decide) (show zyR _ _ _ _ [some (.ref (43 + 3)), some (.int x1), some (.int x2), none, none] [.int (x1 / (10 : Int32)), .ref (43 + 3)] _ _ from ?_)
    refine zy_40 rfl (show zyR _ _ _ _ [some (.ref (43 + 3)), some (.int x1), some (.int x2), none, none] [.long ((x1 / (10 : Int32))).toInt64, .ref (43 + 3)] _ _ from ?_)
    obtain ⟨p7, hp7, h⟩ := zy_bind h
    refine zy_5 (c := 43) (as := [.long ((x1 / (10 : Int32))).toInt64]) (rest := []) (L := [some (.ref (43 + 3)), some (.long ((x1 / (10 : Int32))).toInt64), none]) (d' := 2) rfl rfl rfl (Nat.le_of_ble_eq_true rfl) (Nat.le_of_ble_eq_true rfl) rfl (Nat.le_of_ble_eq_true rfl) rfl rfl (zyC185 hp7) ?_
    show zyR _ _ _ _ [some (.ref (43 + 3)), some (.int x1), some (.int x2), none, none] [.int p7.1] _ _
    refine zy_24_0 rfl (fun b12 => (show zyR _ _ _ _ [some (.ref (43 + 3)), some (.int x1), some (.int x2), none, none] [] _ _ from ?_)) (fun b12 => (show zyR _ _ _ _ [some (.ref (43 + 3)), some (.int x1), some (.int x2), none, none] [] _ _ from ?_))
    · replace h := zy_ifp h b12
      refine zy_3 rfl rfl (show zyR _ _ _ _ [some (.ref (43 + 3)), some (.int x1), some (.int x2), none, none] [.int (-1 : Int32)] _ _ from ?_)
      obtain ⟨rfl, rfl⟩ := zy_pi h
      exact zy_4 rfl ⟨rfl, rfl⟩
    · replace h := zy_ifn h b12
      refine zy_0 rfl rfl (show zyR _ _ _ _ [some (.ref (43 + 3)), some (.int x1), some (.int x2), none, none] [.ref (43 + 3)] _ _ from ?_)
      refine zy_2 rfl rfl (show zyR _ _ _ _ [some (.ref (43 + 3)), some (.int x1), some (.int x2), none, none] [.int x1, .ref (43 + 3)] _ _ from ?_)
      refine zy_3 rfl rfl (show zyR _ _ _ _ [some (.ref (43 + 3)), some (.int x1), some (.int x2), none, none] [.int (10 : Int32), .int x1, .ref (43 + 3)] _ _ from ?_)
      refine zy_20 rfl (by decide) (show zyR _ _ _ _ [some (.ref (43 + 3)), some (.int x1), some (.int x2), none, none] [.int (x1 - x1 / (10 : Int32) * (10 : Int32)), .ref (43 + 3)] _ _ from ?_)
      refine zy_40 rfl (show zyR _ _ _ _ [some (.ref (43 + 3)), some (.int x1), some (.int x2), none, none] [.long ((x1 - x1 / (10 : Int32) * (10 : Int32))).toInt64, .ref (43 + 3)] _ _ from ?_)
      obtain ⟨p8, hp8, h⟩ := zy_bind h
      refine zy_5 (c := 43) (as := [.long ((x1 - x1 / (10 : Int32) * (10 : Int32))).toInt64]) (rest := []) (L := [some (.ref (43 + 3)), some (.long ((x1 - x1 / (10 : Int32) * (10 : Int32))).toInt64), none]) (d' := 2) rfl rfl rfl (Nat.le_of_ble_eq_true rfl) (Nat.le_of_ble_eq_true rfl) rfl (Nat.le_of_ble_eq_true rfl) rfl rfl (zyC185 hp8) ?_
      show zyR _ _ _ _ [some (.ref (43 + 3)), some (.int x1), some (.int x2), none, none] [.int p8.1] _ _
      refine zy_24_0 rfl (fun b11 => (show zyR _ _ _ _ [some (.ref (43 + 3)), some (.int x1), some (.int x2), none, none] [] _ _ from ?_)) (fun b11 => (show zyR _ _ _ _ [some (.ref (43 + 3)), some (.int x1), some (.int x2), none, none] [] _ _ from ?_))
      · replace h := zy_ifp h b11
        refine zy_3 rfl rfl (show zyR _ _ _ _ [some (.ref (43 + 3)), some (.int x1), some (.int x2), none, none] [.int (-1 : Int32)] _ _ from ?_)
        obtain ⟨rfl, rfl⟩ := zy_pi h
        exact zy_4 rfl ⟨rfl, rfl⟩
      · replace h := zy_ifn h b11
        refine zy_2 rfl rfl (show zyR _ _ _ _ [some (.ref (43 + 3)), some (.int x1), some (.int x2), none, none] [.int x2] _ _ from ?_)
        refine zy_40 rfl (show zyR _ _ _ _ [some (.ref (43 + 3)), some (.int x1), some (.int x2), none, none] [.long (x2).toInt64] _ _ from ?_)
        refine zy_36 rfl rfl (show zyR _ _ _ _ [some (.ref (43 + 3)), some (.int x1), some (.int x2), none, none] [.long (0 : Int64), .long (x2).toInt64] _ _ from ?_)
        refine zy_36 rfl rfl (show zyR _ _ _ _ [some (.ref (43 + 3)), some (.int x1), some (.int x2), none, none] [.long (1 : Int64), .long (0 : Int64), .long (x2).toInt64] _ _ from ?_)
        obtain ⟨p9, hp9, h⟩ := zy_bind h
        refine zy_60 (as := [.long (x2).toInt64, .long (0 : Int64), .long (1 : Int64)]) (rest := []) (L := [some (.long (x2).toInt64), none, some (.long (0 : Int64)), none, some (.long (1 : Int64)), none]) (d' := 1) rfl rfl (Nat.le_of_ble_eq_true rfl) (Nat.le_of_ble_eq_true rfl) rfl (Nat.le_of_ble_eq_true rfl) rfl rfl (zyC179 hp9) ?_
        show zyR _ _ _ _ [some (.ref (43 + 3)), some (.int x1), some (.int x2), none, none] [.int p9.1] _ _
        refine zy_24_1 rfl (fun b10 => (show zyR _ _ _ _ [some (.ref (43 + 3)), some (.int x1), some (.int x2), none, none] [] _ _ from ?_)) (fun b10 => (show zyR _ _ _ _ [some (.ref (43 + 3)), some (.int x1), some (.int x2), none, none] [] _ _ from ?_))
        · replace h := zy_ifp h b10
          refine zy_3 rfl rfl (show zyR _ _ _ _ [some (.ref (43 + 3)), some (.int x1), some (.int x2), none, none] [.int (0 : Int32)] _ _ from ?_)
          refine zy_23 rfl rfl (show zyR _ _ _ _ [some (.ref (43 + 3)), some (.int x1), some (.int x2), some (.int (0 : Int32)), none] [] _ _ from ?_)
          refine zy_3 rfl rfl (show zyR _ _ _ _ [some (.ref (43 + 3)), some (.int x1), some (.int x2), some (.int (0 : Int32)), none] [.int (0 : Int32)] _ _ from ?_)
          refine zy_23 rfl rfl (show zyR _ _ _ _ [some (.ref (43 + 3)), some (.int x1), some (.int x2), some (.int (0 : Int32)), some (.int (0 : Int32))] [] _ _ from ?_)
          exact zy_sub (show zy_le [some (.ref (43 + 3)), some (.int x1), some (.int x2), some (.int (0 : Int32)), some (.int (0 : Int32))] [some (.ref (43 + 3)), some (.int x1), some (.int x2), some (.int (0 : Int32)), some (.int (0 : Int32))] from ⟨rfl, ⟨rfl, ⟨rfl, ⟨rfl, ⟨rfl, trivial⟩⟩⟩⟩⟩) (zyC234_45 zy_fu x1 x2 (0 : Int32) (0 : Int32) p9.2 _ _ h)
        · replace h := zy_ifn h b10
          refine zy_3 rfl rfl (show zyR _ _ _ _ [some (.ref (43 + 3)), some (.int x1), some (.int x2), none, none] [.int (-1 : Int32)] _ _ from ?_)
          obtain ⟨rfl, rfl⟩ := zy_pi h
          exact zy_4 rfl ⟨rfl, rfl⟩
/-! NineOpinions$Votes.leastFar(I)I -/
noncomputable def zyF124_44  (k5 : Int32 → Int32 → Int32 → zy_S → Option (Int32 × zy_S)) (x1 : Int32) (x2 : Int32) (x3 : Int32) (s : zy_S) : Option (Int32 × zy_S) :=
k5 x1 x2 (x3 + (1 : Int32)) s
theorem zyC124_44 {X : zx_X}  {k5 : Int32 → Int32 → Int32 → zy_S → Option (Int32 × zy_S)}  (hk5 : ∀ (x1 : Int32) (x2 : Int32) (x3 : Int32) (s : zy_S) (r : Int32) (s' : zy_S), k5 x1 x2 x3 s = some (r, s') → zyR X 4 124 5 [some (.ref (16 + 3)), some (.int x1), some (.int x2), some (.int x3)] [] s (zyE (some (.int r)) s')) {x1 : Int32} {x2 : Int32} {x3 : Int32} {s : zy_S} {r : Int32} {s' : zy_S}  (h : zyF124_44 k5 x1 x2 x3 s = some (r, s')) : zyR X 4 124 44 [some (.ref (16 + 3)), some (.int x1), some (.int x2), some (.int x3)] [] s (zyE (some (.int r)) s') := by
  unfold zyF124_44 at h
  refine zy_22 rfl rfl rfl rfl (show zyR _ _ _ _ [some (.ref (16 + 3)), some (.int x1), some (.int x2), some (.int (x3 + (1 : Int32)))] [] _ _ from ?_)
  refine zy_6 rfl (show zyR _ _ _ _ [some (.ref (16 + 3)), some (.int x1), some (.int x2), some (.int (x3 + (1 : Int32)))] [] _ _ from ?_)
  exact zy_sub (show zy_le [some (.ref (16 + 3)), some (.int x1), some (.int x2), some (.int (x3 + (1 : Int32)))] [some (.ref (16 + 3)), some (.int x1), some (.int x2), some (.int (x3 + (1 : Int32)))] from ⟨rfl, ⟨rfl, ⟨rfl, ⟨rfl, trivial⟩⟩⟩⟩) (hk5 x1 x2 (x3 + (1 : Int32)) s _ _ h)
noncomputable def zyF124_42  (k5 : Int32 → Int32 → Int32 → zy_S → Option (Int32 × zy_S)) (x1 : Int32) (x3 : Int32) (s : zy_S) : Option (Int32 × zy_S) :=
zyF124_44 k5 x1 x3 x3 s
theorem zyC124_42 {X : zx_X}  {k5 : Int32 → Int32 → Int32 → zy_S → Option (Int32 × zy_S)}  (hk5 : ∀ (x1 : Int32) (x2 : Int32) (x3 : Int32) (s : zy_S) (r : Int32) (s' : zy_S), k5 x1 x2 x3 s = some (r, s') → zyR X 4 124 5 [some (.ref (16 + 3)), some (.int x1), some (.int x2), some (.int x3)] [] s (zyE (some (.int r)) s')) {x1 : Int32} {x3 : Int32} {s : zy_S} {r : Int32} {s' : zy_S}  (h : zyF124_42 k5 x1 x3 s = some (r, s')) : zyR X 4 124 42 [some (.ref (16 + 3)), some (.int x1), none, some (.int x3)] [] s (zyE (some (.int r)) s') := by
  unfold zyF124_42 at h
  refine zy_2 rfl rfl (show zyR _ _ _ _ [some (.ref (16 + 3)), some (.int x1), none, some (.int x3)] [.int x3] _ _ from ?_)
  refine zy_23 rfl rfl (show zyR _ _ _ _ [some (.ref (16 + 3)), some (.int x1), some (.int x3), some (.int x3)] [] _ _ from ?_)
  exact zy_sub (show zy_le [some (.ref (16 + 3)), some (.int x1), some (.int x3), some (.int x3)] [some (.ref (16 + 3)), some (.int x1), some (.int x3), some (.int x3)] from ⟨rfl, ⟨rfl, ⟨rfl, ⟨rfl, trivial⟩⟩⟩⟩) (zyC124_44 hk5 h)
noncomputable def zyF124_5b  (k5 : Int32 → Int32 → Int32 → zy_S → Option (Int32 × zy_S)) (x1 : Int32) (x2 : Int32) (x3 : Int32) (s : zy_S) : Option (Int32 × zy_S) :=
if (s.1 1 5) ≤ x3 then
some (x2, s)
else
if x3 = x1 then
zyF124_44 k5 x1 x2 x3 s
else
if x2 = (-2 : Int32) then
zyF124_42 k5 x1 x3 s
else
(zyF122 x1 x3 s).bind fun p1 =>
(zyF122 x1 x2 p1.2).bind fun p2 =>
if p2.1 ≤ p1.1 then
zyF124_44 k5 x1 x2 x3 p2.2
else
zyF124_42 k5 x1 x3 p2.2
theorem zyC124_5b {X : zx_X}  {k5 : Int32 → Int32 → Int32 → zy_S → Option (Int32 × zy_S)}  (hk5 : ∀ (x1 : Int32) (x2 : Int32) (x3 : Int32) (s : zy_S) (r : Int32) (s' : zy_S), k5 x1 x2 x3 s = some (r, s') → zyR X 4 124 5 [some (.ref (16 + 3)), some (.int x1), some (.int x2), some (.int x3)] [] s (zyE (some (.int r)) s')) {x1 : Int32} {x2 : Int32} {x3 : Int32} {s : zy_S} {r : Int32} {s' : zy_S}  (h : zyF124_5b k5 x1 x2 x3 s = some (r, s')) : zyR X 4 124 5 [some (.ref (16 + 3)), some (.int x1), some (.int x2), some (.int x3)] [] s (zyE (some (.int r)) s') := by
  unfold zyF124_5b at h
  refine zy_2 rfl rfl (show zyR _ _ _ _ [some (.ref (16 + 3)), some (.int x1), some (.int x2), some (.int x3)] [.int x3] _ _ from ?_)
  refine zy_0 rfl rfl (show zyR _ _ _ _ [some (.ref (16 + 3)), some (.int x1), some (.int x2), some (.int x3)] [.ref (16 + 3), .int x3] _ _ from ?_)
  refine zy_1r (c := 16) rfl rfl rfl (show zyR _ _ _ _ [some (.ref (16 + 3)), some (.int x1), some (.int x2), some (.int x3)] [.ref (1 + 3), .int x3] _ _ from ?_)
  refine zy_1 (c := 1) rfl rfl rfl (show zyR _ _ _ _ [some (.ref (16 + 3)), some (.int x1), some (.int x2), some (.int x3)] [.int (s.1 1 5), .int x3] _ _ from ?_)
  refine zy_25_3 rfl (fun b6 => (show zyR _ _ _ _ [some (.ref (16 + 3)), some (.int x1), some (.int x2), some (.int x3)] [] _ _ from ?_)) (fun b6 => (show zyR _ _ _ _ [some (.ref (16 + 3)), some (.int x1), some (.int x2), some (.int x3)] [] _ _ from ?_))
  · replace h := zy_ifp h b6
    refine zy_2 rfl rfl (show zyR _ _ _ _ [some (.ref (16 + 3)), some (.int x1), some (.int x2), some (.int x3)] [.int x2] _ _ from ?_)
    obtain ⟨rfl, rfl⟩ := zy_pi h
    exact zy_4 rfl ⟨rfl, rfl⟩
  · replace h := zy_ifn h b6
    refine zy_2 rfl rfl (show zyR _ _ _ _ [some (.ref (16 + 3)), some (.int x1), some (.int x2), some (.int x3)] [.int x3] _ _ from ?_)
    refine zy_2 rfl rfl (show zyR _ _ _ _ [some (.ref (16 + 3)), some (.int x1), some (.int x2), some (.int x3)] [.int x1, .int x3] _ _ from ?_)
    refine zy_25_0 rfl (fun b5 => (show zyR _ _ _ _ [some (.ref (16 + 3)), some (.int x1), some (.int x2), some (.int x3)] [] _ _ from ?_)) (fun b5 => (show zyR _ _ _ _ [some (.ref (16 + 3)), some (.int x1), some (.int x2), some (.int x3)] [] _ _ from ?_))
    · replace h := zy_ifp h b5
      exact zy_sub (show zy_le [some (.ref (16 + 3)), some (.int x1), some (.int x2), some (.int x3)] [some (.ref (16 + 3)), some (.int x1), some (.int x2), some (.int x3)] from ⟨rfl, ⟨rfl, ⟨rfl, ⟨rfl, trivial⟩⟩⟩⟩) (zyC124_44 hk5 h)
    · replace h := zy_ifn h b5
      refine zy_2 rfl rfl (show zyR _ _ _ _ [some (.ref (16 + 3)), some (.int x1), some (.int x2), some (.int x3)] [.int x2] _ _ from ?_)
      refine zy_3 rfl rfl (show zyR _ _ _ _ [some (.ref (16 + 3)), some (.int x1), some (.int x2), some (.int x3)] [.int (-2 : Int32), .int x2] _ _ from ?_)
      refine zy_25_0 rfl (fun b4 => (show zyR _ _ _ _ [some (.ref (16 + 3)), some (.int x1), some (.int x2), some (.int x3)] [] _ _ from ?_)) (fun b4 => (show zyR _ _ _ _ [some (.ref (16 + 3)), some (.int x1), some (.int x2), some (.int x3)] [] _ _ from ?_))
      · replace h := zy_ifp h b4
        exact zy_sub (show zy_le [some (.ref (16 + 3)), some (.int x1), none, some (.int x3)] [some (.ref (16 + 3)), some (.int x1), some (.int x2), some (.int x3)] from ⟨rfl, ⟨rfl, ⟨rfl, trivial⟩⟩⟩) (zyC124_42 hk5 h)
      · replace h := zy_ifn h b4
        refine zy_0 rfl rfl (show zyR _ _ _ _ [some (.ref (16 + 3)), some (.int x1), some (.int x2), some (.int x3)] [.ref (16 + 3)] _ _ from ?_)
        refine zy_2 rfl rfl (show zyR _ _ _ _ [some (.ref (16 + 3)), some (.int x1), some (.int x2), some (.int x3)] [.int x1, .ref (16 + 3)] _ _ from ?_)
        refine zy_2 rfl rfl (show zyR _ _ _ _ [some (.ref (16 + 3)), some (.int x1), some (.int x2), some (.int x3)] [.int x3, .int x1, .ref (16 + 3)] _ _ from ?_)
        obtain ⟨p1, hp1, h⟩ := zy_bind h
        refine zy_5 (c := 16) (as := [.int x1, .int x3]) (rest := []) (L := [some (.ref (16 + 3)), some (.int x1), some (.int x3), none, none]) (d' := 3) rfl rfl rfl (Nat.le_of_ble_eq_true rfl) (Nat.le_of_ble_eq_true rfl) rfl (Nat.le_of_ble_eq_true rfl) rfl rfl (zyC122 hp1) ?_
        show zyR _ _ _ _ [some (.ref (16 + 3)), some (.int x1), some (.int x2), some (.int x3)] [.int p1.1] _ _
        refine zy_0 rfl rfl (show zyR _ _ _ _ [some (.ref (16 + 3)), some (.int x1), some (.int x2), some (.int x3)] [.ref (16 + 3), .int p1.1] _ _ from ?_)
        refine zy_2 rfl rfl (show zyR _ _ _ _ [some (.ref (16 + 3)), some (.int x1), some (.int x2), some (.int x3)] [.int x1, .ref (16 + 3), .int p1.1] _ _ from ?_)
        refine zy_2 rfl rfl (show zyR _ _ _ _ [some (.ref (16 + 3)), some (.int x1), some (.int x2), some (.int x3)] [.int x2, .int x1, .ref (16 + 3), .int p1.1] _ _ from ?_)
        obtain ⟨p2, hp2, h⟩ := zy_bind h
        refine zy_5 (c := 16) (as := [.int x1, .int x2]) (rest := [.int p1.1]) (L := [some (.ref (16 + 3)), some (.int x1), some (.int x2), none, none]) (d' := 3) rfl rfl rfl (Nat.le_of_ble_eq_true rfl) (Nat.le_of_ble_eq_true rfl) rfl (Nat.le_of_ble_eq_true rfl) rfl rfl (zyC122 hp2) ?_
        show zyR _ _ _ _ [some (.ref (16 + 3)), some (.int x1), some (.int x2), some (.int x3)] [.int p2.1, .int p1.1] _ _
        refine zy_25_3 rfl (fun b3 => (show zyR _ _ _ _ [some (.ref (16 + 3)), some (.int x1), some (.int x2), some (.int x3)] [] _ _ from ?_)) (fun b3 => (show zyR _ _ _ _ [some (.ref (16 + 3)), some (.int x1), some (.int x2), some (.int x3)] [] _ _ from ?_))
        · replace h := zy_ifp h b3
          exact zy_sub (show zy_le [some (.ref (16 + 3)), some (.int x1), some (.int x2), some (.int x3)] [some (.ref (16 + 3)), some (.int x1), some (.int x2), some (.int x3)] from ⟨rfl, ⟨rfl, ⟨rfl, ⟨rfl, trivial⟩⟩⟩⟩) (zyC124_44 hk5 h)
        · replace h := zy_ifn h b3
          exact zy_sub (show zy_le [some (.ref (16 + 3)), some (.int x1), none, some (.int x3)] [some (.ref (16 + 3)), some (.int x1), some (.int x2), some (.int x3)] from ⟨rfl, ⟨rfl, ⟨rfl, trivial⟩⟩⟩) (zyC124_42 hk5 h)
noncomputable def zyF124_5   (n : Nat) : Int32 → Int32 → Int32 → zy_S → Option (Int32 × zy_S) := Nat.rec (fun _ _ _ _ => none) (fun _ k5 => zyF124_5b k5) n
theorem zyC124_5 {X : zx_X}     : ∀ (n : Nat) (x1 : Int32) (x2 : Int32) (x3 : Int32) (s : zy_S) (r : Int32) (s' : zy_S), zyF124_5 n x1 x2 x3 s = some (r, s') → zyR X 4 124 5 [some (.ref (16 + 3)), some (.int x1), some (.int x2), some (.int x3)] [] s (zyE (some (.int r)) s')
  | 0, _, _, _ => by
    intro s r s'  h
    have h : (none : Option (Int32 × zy_S)) = some (r, s') := h
    cases h
  | n + 1, x1, x2, x3 => by
    intro s r s'  h
    exact zyC124_5b (k5 := zyF124_5 n) (fun x1 x2 x3 s r s'  h => zyC124_5  n x1 x2 x3 s r s'  h) h
noncomputable def zyF124   (x1 : Int32) (s : zy_S) : Option (Int32 × zy_S) :=
zyF124_5 zy_fu x1 (-2 : Int32) (0 : Int32) s
theorem zyC124 {X : zx_X}     {x1 : Int32} {s : zy_S} {r : Int32} {s' : zy_S}  (h : zyF124 x1 s = some (r, s')) : zyR X 4 124 0 [some (.ref (16 + 3)), some (.int x1), none, none] [] s (zyE (some (.int r)) s') := by
  unfold zyF124 at h
  refine zy_3 rfl rfl (show zyR _ _ _ _ [some (.ref (16 + 3)), some (.int x1), none, none] [.int (-2 : Int32)] _ _ from ?_)
  refine zy_23 rfl rfl (show zyR _ _ _ _ [some (.ref (16 + 3)), some (.int x1), some (.int (-2 : Int32)), none] [] _ _ from ?_)
  refine zy_3 rfl rfl (show zyR _ _ _ _ [some (.ref (16 + 3)), some (.int x1), some (.int (-2 : Int32)), none] [.int (0 : Int32)] _ _ from ?_)
  refine zy_23 rfl rfl (show zyR _ _ _ _ [some (.ref (16 + 3)), some (.int x1), some (.int (-2 : Int32)), some (.int (0 : Int32))] [] _ _ from ?_)
  exact zy_sub (show zy_le [some (.ref (16 + 3)), some (.int x1), some (.int (-2 : Int32)), some (.int (0 : Int32))] [some (.ref (16 + 3)), some (.int x1), some (.int (-2 : Int32)), some (.int (0 : Int32))] from ⟨rfl, ⟨rfl, ⟨rfl, ⟨rfl, trivial⟩⟩⟩⟩) (zyC124_5 zy_fu x1 (-2 : Int32) (0 : Int32) s _ _ h)
/-! NineOpinions.like(I)I -/
noncomputable def zyF123   (x1 : Int32) (s : zy_S) : Option (Int32 × zy_S) :=
(zyF25 (0 : Int32) x1 s).bind fun p1 =>
if p1.1 = 0 then
some ((-1 : Int32), p1.2)
else
(zyF124 x1 p1.2).bind fun p2 =>
some (p2.1, p2.2)
theorem zyC123 {X : zx_X}     {x1 : Int32} {s : zy_S} {r : Int32} {s' : zy_S}  (h : zyF123 x1 s = some (r, s')) : zyR X 5 123 0 [some (.ref (0 + 3)), some (.int x1)] [] s (zyE (some (.int r)) s') := by
  unfold zyF123 at h
  refine zy_0 rfl rfl (show zyR _ _ _ _ [some (.ref (0 + 3)), some (.int x1)] [.ref (0 + 3)] _ _ from ?_)
  refine zy_1r (c := 0) rfl rfl rfl (show zyR _ _ _ _ [some (.ref (0 + 3)), some (.int x1)] [.ref (1 + 3)] _ _ from ?_)
  refine zy_3 rfl rfl (show zyR _ _ _ _ [some (.ref (0 + 3)), some (.int x1)] [.int (0 : Int32), .ref (1 + 3)] _ _ from ?_)
  refine zy_2 rfl rfl (show zyR _ _ _ _ [some (.ref (0 + 3)), some (.int x1)] [.int x1, .int (0 : Int32), .ref (1 + 3)] _ _ from ?_)
  obtain ⟨p1, hp1, h⟩ := zy_bind h
  refine zy_5 (c := 1) (as := [.int (0 : Int32), .int x1]) (rest := []) (L := [some (.ref (1 + 3)), some (.int (0 : Int32)), some (.int x1)]) (d' := 2) rfl rfl rfl (Nat.le_of_ble_eq_true rfl) (Nat.le_of_ble_eq_true rfl) rfl (Nat.le_of_ble_eq_true rfl) rfl rfl (zyC25 hp1) ?_
  show zyR _ _ _ _ [some (.ref (0 + 3)), some (.int x1)] [.int p1.1] _ _
  refine zy_24_0 rfl (fun b3 => (show zyR _ _ _ _ [some (.ref (0 + 3)), some (.int x1)] [] _ _ from ?_)) (fun b3 => (show zyR _ _ _ _ [some (.ref (0 + 3)), some (.int x1)] [] _ _ from ?_))
  · replace h := zy_ifp h b3
    refine zy_3 rfl rfl (show zyR _ _ _ _ [some (.ref (0 + 3)), some (.int x1)] [.int (-1 : Int32)] _ _ from ?_)
    obtain ⟨rfl, rfl⟩ := zy_pi h
    exact zy_4 rfl ⟨rfl, rfl⟩
  · replace h := zy_ifn h b3
    refine zy_0 rfl rfl (show zyR _ _ _ _ [some (.ref (0 + 3)), some (.int x1)] [.ref (0 + 3)] _ _ from ?_)
    refine zy_1r (c := 0) rfl rfl rfl (show zyR _ _ _ _ [some (.ref (0 + 3)), some (.int x1)] [.ref (16 + 3)] _ _ from ?_)
    refine zy_2 rfl rfl (show zyR _ _ _ _ [some (.ref (0 + 3)), some (.int x1)] [.int x1, .ref (16 + 3)] _ _ from ?_)
    obtain ⟨p2, hp2, h⟩ := zy_bind h
    refine zy_5 (c := 16) (as := [.int x1]) (rest := []) (L := [some (.ref (16 + 3)), some (.int x1), none, none]) (d' := 4) rfl rfl rfl (Nat.le_of_ble_eq_true rfl) (Nat.le_of_ble_eq_true rfl) rfl (Nat.le_of_ble_eq_true rfl) rfl rfl (zyC124 hp2) ?_
    show zyR _ _ _ _ [some (.ref (0 + 3)), some (.int x1)] [.int p2.1] _ _
    refine zy_6 rfl (show zyR _ _ _ _ [some (.ref (0 + 3)), some (.int x1)] [.int p2.1] _ _ from ?_)
    obtain ⟨rfl, rfl⟩ := zy_pi h
    exact zy_4 rfl ⟨rfl, rfl⟩
end
section
/-! PART 41.14: methods as functions. Made by wip/v4/dcp.py. -/
/-! NineOpinionsModel.like(I)I -/
noncomputable def zyF236_50  (k16 : Int32 → Int32 → Int32 → zy_S → Option (Int32 × zy_S)) (x1 : Int32) (x2 : Int32) (x3 : Int32) (s : zy_S) : Option (Int32 × zy_S) :=
k16 x1 x2 (x3 + (1 : Int32)) s
theorem zyC236_50 {X : zx_X}  {k16 : Int32 → Int32 → Int32 → zy_S → Option (Int32 × zy_S)}  (hk16 : ∀ (x1 : Int32) (x2 : Int32) (x3 : Int32) (s : zy_S) (r : Int32) (s' : zy_S), k16 x1 x2 x3 s = some (r, s') → zyR X 4 236 16 [some (.ref (43 + 3)), some (.int x1), some (.int x2), some (.int x3)] [] s (zyE (some (.int r)) s')) {x1 : Int32} {x2 : Int32} {x3 : Int32} {s : zy_S} {r : Int32} {s' : zy_S}  (h : zyF236_50 k16 x1 x2 x3 s = some (r, s')) : zyR X 4 236 50 [some (.ref (43 + 3)), some (.int x1), some (.int x2), some (.int x3)] [] s (zyE (some (.int r)) s') := by
  unfold zyF236_50 at h
  refine zy_22 rfl rfl rfl rfl (show zyR _ _ _ _ [some (.ref (43 + 3)), some (.int x1), some (.int x2), some (.int (x3 + (1 : Int32)))] [] _ _ from ?_)
  refine zy_6 rfl (show zyR _ _ _ _ [some (.ref (43 + 3)), some (.int x1), some (.int x2), some (.int (x3 + (1 : Int32)))] [] _ _ from ?_)
  exact zy_sub (show zy_le [some (.ref (43 + 3)), some (.int x1), some (.int x2), some (.int (x3 + (1 : Int32)))] [some (.ref (43 + 3)), some (.int x1), some (.int x2), some (.int (x3 + (1 : Int32)))] from ⟨rfl, ⟨rfl, ⟨rfl, ⟨rfl, trivial⟩⟩⟩⟩) (hk16 x1 x2 (x3 + (1 : Int32)) s _ _ h)
noncomputable def zyF236_48  (k16 : Int32 → Int32 → Int32 → zy_S → Option (Int32 × zy_S)) (x1 : Int32) (x3 : Int32) (s : zy_S) : Option (Int32 × zy_S) :=
zyF236_50 k16 x1 x3 x3 s
theorem zyC236_48 {X : zx_X}  {k16 : Int32 → Int32 → Int32 → zy_S → Option (Int32 × zy_S)}  (hk16 : ∀ (x1 : Int32) (x2 : Int32) (x3 : Int32) (s : zy_S) (r : Int32) (s' : zy_S), k16 x1 x2 x3 s = some (r, s') → zyR X 4 236 16 [some (.ref (43 + 3)), some (.int x1), some (.int x2), some (.int x3)] [] s (zyE (some (.int r)) s')) {x1 : Int32} {x3 : Int32} {s : zy_S} {r : Int32} {s' : zy_S}  (h : zyF236_48 k16 x1 x3 s = some (r, s')) : zyR X 4 236 48 [some (.ref (43 + 3)), some (.int x1), none, some (.int x3)] [] s (zyE (some (.int r)) s') := by
  unfold zyF236_48 at h
  refine zy_2 rfl rfl (show zyR _ _ _ _ [some (.ref (43 + 3)), some (.int x1), none, some (.int x3)] [.int x3] _ _ from ?_)
  refine zy_23 rfl rfl (show zyR _ _ _ _ [some (.ref (43 + 3)), some (.int x1), some (.int x3), some (.int x3)] [] _ _ from ?_)
  exact zy_sub (show zy_le [some (.ref (43 + 3)), some (.int x1), some (.int x3), some (.int x3)] [some (.ref (43 + 3)), some (.int x1), some (.int x3), some (.int x3)] from ⟨rfl, ⟨rfl, ⟨rfl, ⟨rfl, trivial⟩⟩⟩⟩) (zyC236_50 hk16 h)
noncomputable def zyF236_16b  (k16 : Int32 → Int32 → Int32 → zy_S → Option (Int32 × zy_S)) (x1 : Int32) (x2 : Int32) (x3 : Int32) (s : zy_S) : Option (Int32 × zy_S) :=
if (s.1 43 6) ≤ x3 then
some (x2, s)
else
if x3 = x1 then
zyF236_50 k16 x1 x2 x3 s
else
if x2 < 0 then
zyF236_48 k16 x1 x3 s
else
(zyF235 x1 x3 s).bind fun p1 =>
(zyF235 x1 x2 p1.2).bind fun p2 =>
if p2.1 ≤ p1.1 then
zyF236_50 k16 x1 x2 x3 p2.2
else
zyF236_48 k16 x1 x3 p2.2
theorem zyC236_16b {X : zx_X}  {k16 : Int32 → Int32 → Int32 → zy_S → Option (Int32 × zy_S)}  (hk16 : ∀ (x1 : Int32) (x2 : Int32) (x3 : Int32) (s : zy_S) (r : Int32) (s' : zy_S), k16 x1 x2 x3 s = some (r, s') → zyR X 4 236 16 [some (.ref (43 + 3)), some (.int x1), some (.int x2), some (.int x3)] [] s (zyE (some (.int r)) s')) {x1 : Int32} {x2 : Int32} {x3 : Int32} {s : zy_S} {r : Int32} {s' : zy_S}  (h : zyF236_16b k16 x1 x2 x3 s = some (r, s')) : zyR X 4 236 16 [some (.ref (43 + 3)), some (.int x1), some (.int x2), some (.int x3)] [] s (zyE (some (.int r)) s') := by
  unfold zyF236_16b at h
  refine zy_2 rfl rfl (show zyR _ _ _ _ [some (.ref (43 + 3)), some (.int x1), some (.int x2), some (.int x3)] [.int x3] _ _ from ?_)
  refine zy_0 rfl rfl (show zyR _ _ _ _ [some (.ref (43 + 3)), some (.int x1), some (.int x2), some (.int x3)] [.ref (43 + 3), .int x3] _ _ from ?_)
  refine zy_1 (c := 43) rfl rfl rfl (show zyR _ _ _ _ [some (.ref (43 + 3)), some (.int x1), some (.int x2), some (.int x3)] [.int (s.1 43 6), .int x3] _ _ from ?_)
  refine zy_25_3 rfl (fun b6 => (show zyR _ _ _ _ [some (.ref (43 + 3)), some (.int x1), some (.int x2), some (.int x3)] [] _ _ from ?_)) (fun b6 => (show zyR _ _ _ _ [some (.ref (43 + 3)), some (.int x1), some (.int x2), some (.int x3)] [] _ _ from ?_))
  · replace h := zy_ifp h b6
    refine zy_2 rfl rfl (show zyR _ _ _ _ [some (.ref (43 + 3)), some (.int x1), some (.int x2), some (.int x3)] [.int x2] _ _ from ?_)
    obtain ⟨rfl, rfl⟩ := zy_pi h
    exact zy_4 rfl ⟨rfl, rfl⟩
  · replace h := zy_ifn h b6
    refine zy_2 rfl rfl (show zyR _ _ _ _ [some (.ref (43 + 3)), some (.int x1), some (.int x2), some (.int x3)] [.int x3] _ _ from ?_)
    refine zy_2 rfl rfl (show zyR _ _ _ _ [some (.ref (43 + 3)), some (.int x1), some (.int x2), some (.int x3)] [.int x1, .int x3] _ _ from ?_)
    refine zy_25_0 rfl (fun b5 => (show zyR _ _ _ _ [some (.ref (43 + 3)), some (.int x1), some (.int x2), some (.int x3)] [] _ _ from ?_)) (fun b5 => (show zyR _ _ _ _ [some (.ref (43 + 3)), some (.int x1), some (.int x2), some (.int x3)] [] _ _ from ?_))
    · replace h := zy_ifp h b5
      exact zy_sub (show zy_le [some (.ref (43 + 3)), some (.int x1), some (.int x2), some (.int x3)] [some (.ref (43 + 3)), some (.int x1), some (.int x2), some (.int x3)] from ⟨rfl, ⟨rfl, ⟨rfl, ⟨rfl, trivial⟩⟩⟩⟩) (zyC236_50 hk16 h)
    · replace h := zy_ifn h b5
      refine zy_2 rfl rfl (show zyR _ _ _ _ [some (.ref (43 + 3)), some (.int x1), some (.int x2), some (.int x3)] [.int x2] _ _ from ?_)
      refine zy_24_2 rfl (fun b4 => (show zyR _ _ _ _ [some (.ref (43 + 3)), some (.int x1), some (.int x2), some (.int x3)] [] _ _ from ?_)) (fun b4 => (show zyR _ _ _ _ [some (.ref (43 + 3)), some (.int x1), some (.int x2), some (.int x3)] [] _ _ from ?_))
      · replace h := zy_ifp h b4
        exact zy_sub (show zy_le [some (.ref (43 + 3)), some (.int x1), none, some (.int x3)] [some (.ref (43 + 3)), some (.int x1), some (.int x2), some (.int x3)] from ⟨rfl, ⟨rfl, ⟨rfl, trivial⟩⟩⟩) (zyC236_48 hk16 h)
      · replace h := zy_ifn h b4
        refine zy_0 rfl rfl (show zyR _ _ _ _ [some (.ref (43 + 3)), some (.int x1), some (.int x2), some (.int x3)] [.ref (43 + 3)] _ _ from ?_)
        refine zy_2 rfl rfl (show zyR _ _ _ _ [some (.ref (43 + 3)), some (.int x1), some (.int x2), some (.int x3)] [.int x1, .ref (43 + 3)] _ _ from ?_)
        refine zy_2 rfl rfl (show zyR _ _ _ _ [some (.ref (43 + 3)), some (.int x1), some (.int x2), some (.int x3)] [.int x3, .int x1, .ref (43 + 3)] _ _ from ?_)
        obtain ⟨p1, hp1, h⟩ := zy_bind h
        refine zy_5 (c := 43) (as := [.int x1, .int x3]) (rest := []) (L := [some (.ref (43 + 3)), some (.int x1), some (.int x3), none, none, none]) (d' := 3) rfl rfl rfl (Nat.le_of_ble_eq_true rfl) (Nat.le_of_ble_eq_true rfl) rfl (Nat.le_of_ble_eq_true rfl) rfl rfl (zyC235 hp1) ?_
        show zyR _ _ _ _ [some (.ref (43 + 3)), some (.int x1), some (.int x2), some (.int x3)] [.int p1.1] _ _
        refine zy_0 rfl rfl (show zyR _ _ _ _ [some (.ref (43 + 3)), some (.int x1), some (.int x2), some (.int x3)] [.ref (43 + 3), .int p1.1] _ _ from ?_)
        refine zy_2 rfl rfl (show zyR _ _ _ _ [some (.ref (43 + 3)), some (.int x1), some (.int x2), some (.int x3)] [.int x1, .ref (43 + 3), .int p1.1] _ _ from ?_)
        refine zy_2 rfl rfl (show zyR _ _ _ _ [some (.ref (43 + 3)), some (.int x1), some (.int x2), some (.int x3)] [.int x2, .int x1, .ref (43 + 3), .int p1.1] _ _ from ?_)
        obtain ⟨p2, hp2, h⟩ := zy_bind h
        refine zy_5 (c := 43) (as := [.int x1, .int x2]) (rest := [.int p1.1]) (L := [some (.ref (43 + 3)), some (.int x1), some (.int x2), none, none, none]) (d' := 3) rfl rfl rfl (Nat.le_of_ble_eq_true rfl) (Nat.le_of_ble_eq_true rfl) rfl (Nat.le_of_ble_eq_true rfl) rfl rfl (zyC235 hp2) ?_
        show zyR _ _ _ _ [some (.ref (43 + 3)), some (.int x1), some (.int x2), some (.int x3)] [.int p2.1, .int p1.1] _ _
        refine zy_25_3 rfl (fun b3 => (show zyR _ _ _ _ [some (.ref (43 + 3)), some (.int x1), some (.int x2), some (.int x3)] [] _ _ from ?_)) (fun b3 => (show zyR _ _ _ _ [some (.ref (43 + 3)), some (.int x1), some (.int x2), some (.int x3)] [] _ _ from ?_))
        · replace h := zy_ifp h b3
          exact zy_sub (show zy_le [some (.ref (43 + 3)), some (.int x1), some (.int x2), some (.int x3)] [some (.ref (43 + 3)), some (.int x1), some (.int x2), some (.int x3)] from ⟨rfl, ⟨rfl, ⟨rfl, ⟨rfl, trivial⟩⟩⟩⟩) (zyC236_50 hk16 h)
        · replace h := zy_ifn h b3
          exact zy_sub (show zy_le [some (.ref (43 + 3)), some (.int x1), none, some (.int x3)] [some (.ref (43 + 3)), some (.int x1), some (.int x2), some (.int x3)] from ⟨rfl, ⟨rfl, ⟨rfl, trivial⟩⟩⟩) (zyC236_48 hk16 h)
noncomputable def zyF236_16   (n : Nat) : Int32 → Int32 → Int32 → zy_S → Option (Int32 × zy_S) := Nat.rec (fun _ _ _ _ => none) (fun _ k16 => zyF236_16b k16) n
theorem zyC236_16 {X : zx_X}     : ∀ (n : Nat) (x1 : Int32) (x2 : Int32) (x3 : Int32) (s : zy_S) (r : Int32) (s' : zy_S), zyF236_16 n x1 x2 x3 s = some (r, s') → zyR X 4 236 16 [some (.ref (43 + 3)), some (.int x1), some (.int x2), some (.int x3)] [] s (zyE (some (.int r)) s')
  | 0, _, _, _ => by
    intro s r s'  h
    have h : (none : Option (Int32 × zy_S)) = some (r, s') := h
    cases h
  | n + 1, x1, x2, x3 => by
    intro s r s'  h
    exact zyC236_16b (k16 := zyF236_16 n) (fun x1 x2 x3 s r s'  h => zyC236_16  n x1 x2 x3 s r s'  h) h
noncomputable def zyF236   (x1 : Int32) (s : zy_S) : Option (Int32 × zy_S) :=
(zyF185 (x1).toInt64 s).bind fun p7 =>
if p7.1 ≠ 0 then
zyF236_16 zy_fu x1 (-2 : Int32) (0 : Int32) p7.2
else
some ((-1 : Int32), p7.2)
theorem zyC236 {X : zx_X}     {x1 : Int32} {s : zy_S} {r : Int32} {s' : zy_S}  (h : zyF236 x1 s = some (r, s')) : zyR X 4 236 0 [some (.ref (43 + 3)), some (.int x1), none, none] [] s (zyE (some (.int r)) s') := by
  unfold zyF236 at h
  refine zy_0 rfl rfl (show zyR _ _ _ _ [some (.ref (43 + 3)), some (.int x1), none, none] [.ref (43 + 3)] _ _ from ?_)
  refine zy_2 rfl rfl (show zyR _ _ _ _ [some (.ref (43 + 3)), some (.int x1), none, none] [.int x1, .ref (43 + 3)] _ _ from ?_)
  refine zy_40 rfl (show zyR _ _ _ _ [some (.ref (43 + 3)), some (.int x1), none, none] [.long (x1).toInt64, .ref (43 + 3)] _ _ from ?_)
  obtain ⟨p7, hp7, h⟩ := zy_bind h
  refine zy_5 (c := 43) (as := [.long (x1).toInt64]) (rest := []) (L := [some (.ref (43 + 3)), some (.long (x1).toInt64), none]) (d' := 2) rfl rfl rfl (Nat.le_of_ble_eq_true rfl) (Nat.le_of_ble_eq_true rfl) rfl (Nat.le_of_ble_eq_true rfl) rfl rfl (zyC185 hp7) ?_
  show zyR _ _ _ _ [some (.ref (43 + 3)), some (.int x1), none, none] [.int p7.1] _ _
  refine zy_24_1 rfl (fun b8 => (show zyR _ _ _ _ [some (.ref (43 + 3)), some (.int x1), none, none] [] _ _ from ?_)) (fun b8 => (show zyR _ _ _ _ [some (.ref (43 + 3)), some (.int x1), none, none] [] _ _ from ?_))
  · replace h := zy_ifp h b8
    refine zy_3 rfl rfl (show zyR _ _ _ _ [some (.ref (43 + 3)), some (.int x1), none, none] [.int (-2 : Int32)] _ _ from ?_)
    refine zy_23 rfl rfl (show zyR _ _ _ _ [some (.ref (43 + 3)), some (.int x1), some (.int (-2 : Int32)), none] [] _ _ from ?_)
    refine zy_3 rfl rfl (show zyR _ _ _ _ [some (.ref (43 + 3)), some (.int x1), some (.int (-2 : Int32)), none] [.int (0 : Int32)] _ _ from ?_)
    refine zy_23 rfl rfl (show zyR _ _ _ _ [some (.ref (43 + 3)), some (.int x1), some (.int (-2 : Int32)), some (.int (0 : Int32))] [] _ _ from ?_)
    exact zy_sub (show zy_le [some (.ref (43 + 3)), some (.int x1), some (.int (-2 : Int32)), some (.int (0 : Int32))] [some (.ref (43 + 3)), some (.int x1), some (.int (-2 : Int32)), some (.int (0 : Int32))] from ⟨rfl, ⟨rfl, ⟨rfl, ⟨rfl, trivial⟩⟩⟩⟩) (zyC236_16 zy_fu x1 (-2 : Int32) (0 : Int32) p7.2 _ _ h)
  · replace h := zy_ifn h b8
    refine zy_3 rfl rfl (show zyR _ _ _ _ [some (.ref (43 + 3)), some (.int x1), none, none] [.int (-1 : Int32)] _ _ from ?_)
    obtain ⟨rfl, rfl⟩ := zy_pi h
    exact zy_4 rfl ⟨rfl, rfl⟩
/-! NineOpinions.viewsOn(II)I -/
noncomputable def zyF57   (x0 : Int32) (x1 : Int32) (s : zy_S) : Option (Int32 × zy_S) :=
some (((x0 >>> (((4 : Int32) * x1) &&& 31)) &&& (15 : Int32)), s)
theorem zyC57 {X : zx_X}     {x0 : Int32} {x1 : Int32} {s : zy_S} {r : Int32} {s' : zy_S}  (h : zyF57 x0 x1 s = some (r, s')) : zyR X 1 57 0 [some (.int x0), some (.int x1)] [] s (zyE (some (.int r)) s') := by
  unfold zyF57 at h
  refine zy_2 rfl rfl (show zyR _ _ _ _ [some (.int x0), some (.int x1)] [.int x0] _ _ from ?_)
  refine zy_3 rfl rfl (show zyR _ _ _ _ [some (.int x0), some (.int x1)] [.int (4 : Int32), .int x0] _ _ from ?_)
  refine zy_2 rfl rfl (show zyR _ _ _ _ [some (.int x0), some (.int x1)] [.int x1, .int (4 : Int32), .int x0] _ _ from ?_)
  refine zy_12 rfl (show zyR _ _ _ _ [some (.int x0), some (.int x1)] [.int ((4 : Int32) * x1), .int x0] _ _ from ?_)
  refine zy_17 rfl (show zyR _ _ _ _ [some (.int x0), some (.int x1)] [.int (x0 >>> (((4 : Int32) * x1) &&& 31))] _ _ from ?_)
  refine zy_3 rfl rfl (show zyR _ _ _ _ [some (.int x0), some (.int x1)] [.int (15 : Int32), .int (x0 >>> (((4 : Int32) * x1) &&& 31))] _ _ from ?_)
  refine zy_13 rfl (show zyR _ _ _ _ [some (.int x0), some (.int x1)] [.int ((x0 >>> (((4 : Int32) * x1) &&& 31)) &&& (15 : Int32))] _ _ from ?_)
  obtain ⟨rfl, rfl⟩ := zy_pi h
  exact zy_4 rfl ⟨rfl, rfl⟩
/-! NineOpinions.matters(I)I -/
noncomputable def zyF102_102  (k15 : Int32 → Int32 → Int32 → zy_S → Option (Int32 × zy_S)) (x1 : Int32) (x3 : Int32) (y0 : Int32) (y1 : Int32) (s : zy_S) : Option (Int32 × zy_S) :=
k15 x1 (y1 ||| y0) (x3 + (1 : Int32)) s
theorem zyC102_102 {X : zx_X}  {k15 : Int32 → Int32 → Int32 → zy_S → Option (Int32 × zy_S)}  (hk15 : ∀ (x1 : Int32) (x2 : Int32) (x3 : Int32) (s : zy_S) (r : Int32) (s' : zy_S), k15 x1 x2 x3 s = some (r, s') → zyR X 2 102 15 [some (.ref (0 + 3)), some (.int x1), some (.int x2), some (.int x3), none, none] [] s (zyE (some (.int r)) s')) {x1 : Int32} {x3 : Int32} {y0 : Int32} {y1 : Int32} {s : zy_S} {r : Int32} {s' : zy_S}  (h : zyF102_102 k15 x1 x3 y0 y1 s = some (r, s')) : zyR X 2 102 102 [some (.ref (0 + 3)), some (.int x1), none, some (.int x3), none, none] [.int y0, .int y1] s (zyE (some (.int r)) s') := by
  unfold zyF102_102 at h
  refine zy_14 rfl (show zyR _ _ _ _ [some (.ref (0 + 3)), some (.int x1), none, some (.int x3), none, none] [.int (y1 ||| y0)] _ _ from ?_)
  refine zy_23 rfl rfl (show zyR _ _ _ _ [some (.ref (0 + 3)), some (.int x1), some (.int (y1 ||| y0)), some (.int x3), none, none] [] _ _ from ?_)
  refine zy_22 rfl rfl rfl rfl (show zyR _ _ _ _ [some (.ref (0 + 3)), some (.int x1), some (.int (y1 ||| y0)), some (.int (x3 + (1 : Int32))), none, none] [] _ _ from ?_)
  refine zy_6 rfl (show zyR _ _ _ _ [some (.ref (0 + 3)), some (.int x1), some (.int (y1 ||| y0)), some (.int (x3 + (1 : Int32))), none, none] [] _ _ from ?_)
  exact zy_sub (show zy_le [some (.ref (0 + 3)), some (.int x1), some (.int (y1 ||| y0)), some (.int (x3 + (1 : Int32))), none, none] [some (.ref (0 + 3)), some (.int x1), some (.int (y1 ||| y0)), some (.int (x3 + (1 : Int32))), none, none] from ⟨rfl, ⟨rfl, ⟨rfl, ⟨rfl, trivial⟩⟩⟩⟩) (hk15 x1 (y1 ||| y0) (x3 + (1 : Int32)) s _ _ h)
noncomputable def zyF102_87  (k15 : Int32 → Int32 → Int32 → zy_S → Option (Int32 × zy_S)) (x1 : Int32) (x2 : Int32) (x3 : Int32) (y0 : Int32) (s : zy_S) : Option (Int32 × zy_S) :=
if y0 = 0 then
zyF102_102 k15 x1 x3 (0 : Int32) x2 s
else
zyF102_102 k15 x1 x3 ((1 : Int32) <<< (x3 &&& 31)) x2 s
theorem zyC102_87 {X : zx_X}  {k15 : Int32 → Int32 → Int32 → zy_S → Option (Int32 × zy_S)}  (hk15 : ∀ (x1 : Int32) (x2 : Int32) (x3 : Int32) (s : zy_S) (r : Int32) (s' : zy_S), k15 x1 x2 x3 s = some (r, s') → zyR X 2 102 15 [some (.ref (0 + 3)), some (.int x1), some (.int x2), some (.int x3), none, none] [] s (zyE (some (.int r)) s')) {x1 : Int32} {x2 : Int32} {x3 : Int32} {y0 : Int32} {s : zy_S} {r : Int32} {s' : zy_S}  (h : zyF102_87 k15 x1 x2 x3 y0 s = some (r, s')) : zyR X 2 102 87 [some (.ref (0 + 3)), some (.int x1), some (.int x2), some (.int x3), none, none] [.int y0] s (zyE (some (.int r)) s') := by
  unfold zyF102_87 at h
  refine zy_23 rfl rfl (show zyR _ _ _ _ [some (.ref (0 + 3)), some (.int x1), some (.int x2), some (.int x3), none, some (.int y0)] [] _ _ from ?_)
  refine zy_2 rfl rfl (show zyR _ _ _ _ [some (.ref (0 + 3)), some (.int x1), some (.int x2), some (.int x3), none, some (.int y0)] [.int x2] _ _ from ?_)
  refine zy_2 rfl rfl (show zyR _ _ _ _ [some (.ref (0 + 3)), some (.int x1), some (.int x2), some (.int x3), none, some (.int y0)] [.int y0, .int x2] _ _ from ?_)
  refine zy_24_0 rfl (fun b1 => (show zyR _ _ _ _ [some (.ref (0 + 3)), some (.int x1), some (.int x2), some (.int x3), none, some (.int y0)] [.int x2] _ _ from ?_)) (fun b1 => (show zyR _ _ _ _ [some (.ref (0 + 3)), some (.int x1), some (.int x2), some (.int x3), none, some (.int y0)] [.int x2] _ _ from ?_))
  · replace h := zy_ifp h b1
    refine zy_3 rfl rfl (show zyR _ _ _ _ [some (.ref (0 + 3)), some (.int x1), some (.int x2), some (.int x3), none, some (.int y0)] [.int (0 : Int32), .int x2] _ _ from ?_)
    exact zy_sub (show zy_le [some (.ref (0 + 3)), some (.int x1), none, some (.int x3), none, none] [some (.ref (0 + 3)), some (.int x1), some (.int x2), some (.int x3), none, some (.int y0)] from ⟨rfl, ⟨rfl, ⟨rfl, trivial⟩⟩⟩) (zyC102_102 hk15 h)
  · replace h := zy_ifn h b1
    refine zy_3 rfl rfl (show zyR _ _ _ _ [some (.ref (0 + 3)), some (.int x1), some (.int x2), some (.int x3), none, some (.int y0)] [.int (1 : Int32), .int x2] _ _ from ?_)
    refine zy_2 rfl rfl (show zyR _ _ _ _ [some (.ref (0 + 3)), some (.int x1), some (.int x2), some (.int x3), none, some (.int y0)] [.int x3, .int (1 : Int32), .int x2] _ _ from ?_)
    refine zy_16 rfl (show zyR _ _ _ _ [some (.ref (0 + 3)), some (.int x1), some (.int x2), some (.int x3), none, some (.int y0)] [.int ((1 : Int32) <<< (x3 &&& 31)), .int x2] _ _ from ?_)
    refine zy_6 rfl (show zyR _ _ _ _ [some (.ref (0 + 3)), some (.int x1), some (.int x2), some (.int x3), none, some (.int y0)] [.int ((1 : Int32) <<< (x3 &&& 31)), .int x2] _ _ from ?_)
    exact zy_sub (show zy_le [some (.ref (0 + 3)), some (.int x1), none, some (.int x3), none, none] [some (.ref (0 + 3)), some (.int x1), some (.int x2), some (.int x3), none, some (.int y0)] from ⟨rfl, ⟨rfl, ⟨rfl, trivial⟩⟩⟩) (zyC102_102 hk15 h)
noncomputable def zyF102_86  (k15 : Int32 → Int32 → Int32 → zy_S → Option (Int32 × zy_S)) (x1 : Int32) (x2 : Int32) (x3 : Int32) (s : zy_S) : Option (Int32 × zy_S) :=
zyF102_87 k15 x1 x2 x3 (0 : Int32) s
theorem zyC102_86 {X : zx_X}  {k15 : Int32 → Int32 → Int32 → zy_S → Option (Int32 × zy_S)}  (hk15 : ∀ (x1 : Int32) (x2 : Int32) (x3 : Int32) (s : zy_S) (r : Int32) (s' : zy_S), k15 x1 x2 x3 s = some (r, s') → zyR X 2 102 15 [some (.ref (0 + 3)), some (.int x1), some (.int x2), some (.int x3), none, none] [] s (zyE (some (.int r)) s')) {x1 : Int32} {x2 : Int32} {x3 : Int32} {s : zy_S} {r : Int32} {s' : zy_S}  (h : zyF102_86 k15 x1 x2 x3 s = some (r, s')) : zyR X 2 102 86 [some (.ref (0 + 3)), some (.int x1), some (.int x2), some (.int x3), none, none] [] s (zyE (some (.int r)) s') := by
  unfold zyF102_86 at h
  refine zy_3 rfl rfl (show zyR _ _ _ _ [some (.ref (0 + 3)), some (.int x1), some (.int x2), some (.int x3), none, none] [.int (0 : Int32)] _ _ from ?_)
  exact zy_sub (show zy_le [some (.ref (0 + 3)), some (.int x1), some (.int x2), some (.int x3), none, none] [some (.ref (0 + 3)), some (.int x1), some (.int x2), some (.int x3), none, none] from ⟨rfl, ⟨rfl, ⟨rfl, ⟨rfl, trivial⟩⟩⟩⟩) (zyC102_87 hk15 h)
noncomputable def zyF102_82  (k15 : Int32 → Int32 → Int32 → zy_S → Option (Int32 × zy_S)) (x1 : Int32) (x2 : Int32) (x3 : Int32) (s : zy_S) : Option (Int32 × zy_S) :=
zyF102_87 k15 x1 x2 x3 (1 : Int32) s
theorem zyC102_82 {X : zx_X}  {k15 : Int32 → Int32 → Int32 → zy_S → Option (Int32 × zy_S)}  (hk15 : ∀ (x1 : Int32) (x2 : Int32) (x3 : Int32) (s : zy_S) (r : Int32) (s' : zy_S), k15 x1 x2 x3 s = some (r, s') → zyR X 2 102 15 [some (.ref (0 + 3)), some (.int x1), some (.int x2), some (.int x3), none, none] [] s (zyE (some (.int r)) s')) {x1 : Int32} {x2 : Int32} {x3 : Int32} {s : zy_S} {r : Int32} {s' : zy_S}  (h : zyF102_82 k15 x1 x2 x3 s = some (r, s')) : zyR X 2 102 82 [some (.ref (0 + 3)), some (.int x1), some (.int x2), some (.int x3), none, none] [] s (zyE (some (.int r)) s') := by
  unfold zyF102_82 at h
  refine zy_3 rfl rfl (show zyR _ _ _ _ [some (.ref (0 + 3)), some (.int x1), some (.int x2), some (.int x3), none, none] [.int (1 : Int32)] _ _ from ?_)
  refine zy_6 rfl (show zyR _ _ _ _ [some (.ref (0 + 3)), some (.int x1), some (.int x2), some (.int x3), none, none] [.int (1 : Int32)] _ _ from ?_)
  exact zy_sub (show zy_le [some (.ref (0 + 3)), some (.int x1), some (.int x2), some (.int x3), none, none] [some (.ref (0 + 3)), some (.int x1), some (.int x2), some (.int x3), none, none] from ⟨rfl, ⟨rfl, ⟨rfl, ⟨rfl, trivial⟩⟩⟩⟩) (zyC102_87 hk15 h)
noncomputable def zyF102_68  (k15 : Int32 → Int32 → Int32 → zy_S → Option (Int32 × zy_S)) (x1 : Int32) (x2 : Int32) (x3 : Int32) (x4 : Int32) (s : zy_S) : Option (Int32 × zy_S) :=
if x1 ≠ (2 : Int32) then
zyF102_86 k15 x1 x2 x3 s
else
(zyF63 x4 s).bind fun p2 =>
if p2.1 ≠ (1 : Int32) then
zyF102_86 k15 x1 x2 x3 p2.2
else
zyF102_82 k15 x1 x2 x3 p2.2
theorem zyC102_68 {X : zx_X}  {k15 : Int32 → Int32 → Int32 → zy_S → Option (Int32 × zy_S)}  (hk15 : ∀ (x1 : Int32) (x2 : Int32) (x3 : Int32) (s : zy_S) (r : Int32) (s' : zy_S), k15 x1 x2 x3 s = some (r, s') → zyR X 2 102 15 [some (.ref (0 + 3)), some (.int x1), some (.int x2), some (.int x3), none, none] [] s (zyE (some (.int r)) s')) {x1 : Int32} {x2 : Int32} {x3 : Int32} {x4 : Int32} {s : zy_S} {r : Int32} {s' : zy_S}  (h : zyF102_68 k15 x1 x2 x3 x4 s = some (r, s')) : zyR X 2 102 68 [some (.ref (0 + 3)), some (.int x1), some (.int x2), some (.int x3), some (.int x4), none] [] s (zyE (some (.int r)) s') := by
  unfold zyF102_68 at h
  refine zy_2 rfl rfl (show zyR _ _ _ _ [some (.ref (0 + 3)), some (.int x1), some (.int x2), some (.int x3), some (.int x4), none] [.int x1] _ _ from ?_)
  refine zy_3 rfl rfl (show zyR _ _ _ _ [some (.ref (0 + 3)), some (.int x1), some (.int x2), some (.int x3), some (.int x4), none] [.int (2 : Int32), .int x1] _ _ from ?_)
  refine zy_25_1 rfl (fun b4 => (show zyR _ _ _ _ [some (.ref (0 + 3)), some (.int x1), some (.int x2), some (.int x3), some (.int x4), none] [] _ _ from ?_)) (fun b4 => (show zyR _ _ _ _ [some (.ref (0 + 3)), some (.int x1), some (.int x2), some (.int x3), some (.int x4), none] [] _ _ from ?_))
  · replace h := zy_ifp h b4
    exact zy_sub (show zy_le [some (.ref (0 + 3)), some (.int x1), some (.int x2), some (.int x3), none, none] [some (.ref (0 + 3)), some (.int x1), some (.int x2), some (.int x3), some (.int x4), none] from ⟨rfl, ⟨rfl, ⟨rfl, ⟨rfl, trivial⟩⟩⟩⟩) (zyC102_86 hk15 h)
  · replace h := zy_ifn h b4
    refine zy_2 rfl rfl (show zyR _ _ _ _ [some (.ref (0 + 3)), some (.int x1), some (.int x2), some (.int x3), some (.int x4), none] [.int x4] _ _ from ?_)
    obtain ⟨p2, hp2, h⟩ := zy_bind h
    refine zy_60 (as := [.int x4]) (rest := []) (L := [some (.int x4)]) (d' := 1) rfl rfl (Nat.le_of_ble_eq_true rfl) (Nat.le_of_ble_eq_true rfl) rfl (Nat.le_of_ble_eq_true rfl) rfl rfl (zyC63 hp2) ?_
    show zyR _ _ _ _ [some (.ref (0 + 3)), some (.int x1), some (.int x2), some (.int x3), some (.int x4), none] [.int p2.1] _ _
    refine zy_3 rfl rfl (show zyR _ _ _ _ [some (.ref (0 + 3)), some (.int x1), some (.int x2), some (.int x3), some (.int x4), none] [.int (1 : Int32), .int p2.1] _ _ from ?_)
    refine zy_25_1 rfl (fun b3 => (show zyR _ _ _ _ [some (.ref (0 + 3)), some (.int x1), some (.int x2), some (.int x3), some (.int x4), none] [] _ _ from ?_)) (fun b3 => (show zyR _ _ _ _ [some (.ref (0 + 3)), some (.int x1), some (.int x2), some (.int x3), some (.int x4), none] [] _ _ from ?_))
    · replace h := zy_ifp h b3
      exact zy_sub (show zy_le [some (.ref (0 + 3)), some (.int x1), some (.int x2), some (.int x3), none, none] [some (.ref (0 + 3)), some (.int x1), some (.int x2), some (.int x3), some (.int x4), none] from ⟨rfl, ⟨rfl, ⟨rfl, ⟨rfl, trivial⟩⟩⟩⟩) (zyC102_86 hk15 h)
    · replace h := zy_ifn h b3
      exact zy_sub (show zy_le [some (.ref (0 + 3)), some (.int x1), some (.int x2), some (.int x3), none, none] [some (.ref (0 + 3)), some (.int x1), some (.int x2), some (.int x3), some (.int x4), none] from ⟨rfl, ⟨rfl, ⟨rfl, ⟨rfl, trivial⟩⟩⟩⟩) (zyC102_82 hk15 h)
noncomputable def zyF102_43  (k15 : Int32 → Int32 → Int32 → zy_S → Option (Int32 × zy_S)) (x1 : Int32) (x2 : Int32) (x3 : Int32) (x4 : Int32) (s : zy_S) : Option (Int32 × zy_S) :=
if x1 ≠ (1 : Int32) then
zyF102_68 k15 x1 x2 x3 x4 s
else
(zyF32 x4 (0 : Int32) s).bind fun p5 =>
if p5.1 ≠ (1 : Int32) then
zyF102_68 k15 x1 x2 x3 x4 p5.2
else
(zyF32 x4 (3 : Int32) p5.2).bind fun p6 =>
if p6.1 = (1 : Int32) then
zyF102_82 k15 x1 x2 x3 p6.2
else
zyF102_68 k15 x1 x2 x3 x4 p6.2
theorem zyC102_43 {X : zx_X}  {k15 : Int32 → Int32 → Int32 → zy_S → Option (Int32 × zy_S)}  (hk15 : ∀ (x1 : Int32) (x2 : Int32) (x3 : Int32) (s : zy_S) (r : Int32) (s' : zy_S), k15 x1 x2 x3 s = some (r, s') → zyR X 2 102 15 [some (.ref (0 + 3)), some (.int x1), some (.int x2), some (.int x3), none, none] [] s (zyE (some (.int r)) s')) {x1 : Int32} {x2 : Int32} {x3 : Int32} {x4 : Int32} {s : zy_S} {r : Int32} {s' : zy_S}  (h : zyF102_43 k15 x1 x2 x3 x4 s = some (r, s')) : zyR X 2 102 43 [some (.ref (0 + 3)), some (.int x1), some (.int x2), some (.int x3), some (.int x4), none] [] s (zyE (some (.int r)) s') := by
  unfold zyF102_43 at h
  refine zy_2 rfl rfl (show zyR _ _ _ _ [some (.ref (0 + 3)), some (.int x1), some (.int x2), some (.int x3), some (.int x4), none] [.int x1] _ _ from ?_)
  refine zy_3 rfl rfl (show zyR _ _ _ _ [some (.ref (0 + 3)), some (.int x1), some (.int x2), some (.int x3), some (.int x4), none] [.int (1 : Int32), .int x1] _ _ from ?_)
  refine zy_25_1 rfl (fun b9 => (show zyR _ _ _ _ [some (.ref (0 + 3)), some (.int x1), some (.int x2), some (.int x3), some (.int x4), none] [] _ _ from ?_)) (fun b9 => (show zyR _ _ _ _ [some (.ref (0 + 3)), some (.int x1), some (.int x2), some (.int x3), some (.int x4), none] [] _ _ from ?_))
  · replace h := zy_ifp h b9
    exact zy_sub (show zy_le [some (.ref (0 + 3)), some (.int x1), some (.int x2), some (.int x3), some (.int x4), none] [some (.ref (0 + 3)), some (.int x1), some (.int x2), some (.int x3), some (.int x4), none] from ⟨rfl, ⟨rfl, ⟨rfl, ⟨rfl, ⟨rfl, trivial⟩⟩⟩⟩⟩) (zyC102_68 hk15 h)
  · replace h := zy_ifn h b9
    refine zy_2 rfl rfl (show zyR _ _ _ _ [some (.ref (0 + 3)), some (.int x1), some (.int x2), some (.int x3), some (.int x4), none] [.int x4] _ _ from ?_)
    refine zy_3 rfl rfl (show zyR _ _ _ _ [some (.ref (0 + 3)), some (.int x1), some (.int x2), some (.int x3), some (.int x4), none] [.int (0 : Int32), .int x4] _ _ from ?_)
    obtain ⟨p5, hp5, h⟩ := zy_bind h
    refine zy_60 (as := [.int x4, .int (0 : Int32)]) (rest := []) (L := [some (.int x4), some (.int (0 : Int32))]) (d' := 1) rfl rfl (Nat.le_of_ble_eq_true rfl) (Nat.le_of_ble_eq_true rfl) rfl (Nat.le_of_ble_eq_true rfl) rfl rfl (zyC32 hp5) ?_
    show zyR _ _ _ _ [some (.ref (0 + 3)), some (.int x1), some (.int x2), some (.int x3), some (.int x4), none] [.int p5.1] _ _
    refine zy_3 rfl rfl (show zyR _ _ _ _ [some (.ref (0 + 3)), some (.int x1), some (.int x2), some (.int x3), some (.int x4), none] [.int (1 : Int32), .int p5.1] _ _ from ?_)
    refine zy_25_1 rfl (fun b8 => (show zyR _ _ _ _ [some (.ref (0 + 3)), some (.int x1), some (.int x2), some (.int x3), some (.int x4), none] [] _ _ from ?_)) (fun b8 => (show zyR _ _ _ _ [some (.ref (0 + 3)), some (.int x1), some (.int x2), some (.int x3), some (.int x4), none] [] _ _ from ?_))
    · replace h := zy_ifp h b8
      exact zy_sub (show zy_le [some (.ref (0 + 3)), some (.int x1), some (.int x2), some (.int x3), some (.int x4), none] [some (.ref (0 + 3)), some (.int x1), some (.int x2), some (.int x3), some (.int x4), none] from ⟨rfl, ⟨rfl, ⟨rfl, ⟨rfl, ⟨rfl, trivial⟩⟩⟩⟩⟩) (zyC102_68 hk15 h)
    · replace h := zy_ifn h b8
      refine zy_2 rfl rfl (show zyR _ _ _ _ [some (.ref (0 + 3)), some (.int x1), some (.int x2), some (.int x3), some (.int x4), none] [.int x4] _ _ from ?_)
      refine zy_3 rfl rfl (show zyR _ _ _ _ [some (.ref (0 + 3)), some (.int x1), some (.int x2), some (.int x3), some (.int x4), none] [.int (3 : Int32), .int x4] _ _ from ?_)
      obtain ⟨p6, hp6, h⟩ := zy_bind h
      refine zy_60 (as := [.int x4, .int (3 : Int32)]) (rest := []) (L := [some (.int x4), some (.int (3 : Int32))]) (d' := 1) rfl rfl (Nat.le_of_ble_eq_true rfl) (Nat.le_of_ble_eq_true rfl) rfl (Nat.le_of_ble_eq_true rfl) rfl rfl (zyC32 hp6) ?_
      show zyR _ _ _ _ [some (.ref (0 + 3)), some (.int x1), some (.int x2), some (.int x3), some (.int x4), none] [.int p6.1] _ _
      refine zy_3 rfl rfl (show zyR _ _ _ _ [some (.ref (0 + 3)), some (.int x1), some (.int x2), some (.int x3), some (.int x4), none] [.int (1 : Int32), .int p6.1] _ _ from ?_)
      refine zy_25_0 rfl (fun b7 => (show zyR _ _ _ _ [some (.ref (0 + 3)), some (.int x1), some (.int x2), some (.int x3), some (.int x4), none] [] _ _ from ?_)) (fun b7 => (show zyR _ _ _ _ [some (.ref (0 + 3)), some (.int x1), some (.int x2), some (.int x3), some (.int x4), none] [] _ _ from ?_))
      · replace h := zy_ifp h b7
        exact zy_sub (show zy_le [some (.ref (0 + 3)), some (.int x1), some (.int x2), some (.int x3), none, none] [some (.ref (0 + 3)), some (.int x1), some (.int x2), some (.int x3), some (.int x4), none] from ⟨rfl, ⟨rfl, ⟨rfl, ⟨rfl, trivial⟩⟩⟩⟩) (zyC102_82 hk15 h)
      · replace h := zy_ifn h b7
        exact zy_sub (show zy_le [some (.ref (0 + 3)), some (.int x1), some (.int x2), some (.int x3), some (.int x4), none] [some (.ref (0 + 3)), some (.int x1), some (.int x2), some (.int x3), some (.int x4), none] from ⟨rfl, ⟨rfl, ⟨rfl, ⟨rfl, ⟨rfl, trivial⟩⟩⟩⟩⟩) (zyC102_68 hk15 h)
noncomputable def zyF102_15b  (k15 : Int32 → Int32 → Int32 → zy_S → Option (Int32 × zy_S)) (x1 : Int32) (x2 : Int32) (x3 : Int32) (s : zy_S) : Option (Int32 × zy_S) :=
if (6 : Int32) ≤ x3 then
some (x2, s)
else
(zyF57 (s.1 1 3) x3 s).bind fun p10 =>
if x1 ≠ 0 then
zyF102_43 k15 x1 x2 x3 p10.1 p10.2
else
if p10.1 = 0 then
zyF102_82 k15 x1 x2 x3 p10.2
else
zyF102_43 k15 x1 x2 x3 p10.1 p10.2
theorem zyC102_15b {X : zx_X}  {k15 : Int32 → Int32 → Int32 → zy_S → Option (Int32 × zy_S)}  (hk15 : ∀ (x1 : Int32) (x2 : Int32) (x3 : Int32) (s : zy_S) (r : Int32) (s' : zy_S), k15 x1 x2 x3 s = some (r, s') → zyR X 2 102 15 [some (.ref (0 + 3)), some (.int x1), some (.int x2), some (.int x3), none, none] [] s (zyE (some (.int r)) s')) {x1 : Int32} {x2 : Int32} {x3 : Int32} {s : zy_S} {r : Int32} {s' : zy_S}  (h : zyF102_15b k15 x1 x2 x3 s = some (r, s')) : zyR X 2 102 15 [some (.ref (0 + 3)), some (.int x1), some (.int x2), some (.int x3), none, none] [] s (zyE (some (.int r)) s') := by
  unfold zyF102_15b at h
  refine zy_2 rfl rfl (show zyR _ _ _ _ [some (.ref (0 + 3)), some (.int x1), some (.int x2), some (.int x3), none, none] [.int x3] _ _ from ?_)
  refine zy_3 rfl rfl (show zyR _ _ _ _ [some (.ref (0 + 3)), some (.int x1), some (.int x2), some (.int x3), none, none] [.int (6 : Int32), .int x3] _ _ from ?_)
  refine zy_25_3 rfl (fun b13 => (show zyR _ _ _ _ [some (.ref (0 + 3)), some (.int x1), some (.int x2), some (.int x3), none, none] [] _ _ from ?_)) (fun b13 => (show zyR _ _ _ _ [some (.ref (0 + 3)), some (.int x1), some (.int x2), some (.int x3), none, none] [] _ _ from ?_))
  · replace h := zy_ifp h b13
    refine zy_2 rfl rfl (show zyR _ _ _ _ [some (.ref (0 + 3)), some (.int x1), some (.int x2), some (.int x3), none, none] [.int x2] _ _ from ?_)
    obtain ⟨rfl, rfl⟩ := zy_pi h
    exact zy_4 rfl ⟨rfl, rfl⟩
  · replace h := zy_ifn h b13
    refine zy_0 rfl rfl (show zyR _ _ _ _ [some (.ref (0 + 3)), some (.int x1), some (.int x2), some (.int x3), none, none] [.ref (0 + 3)] _ _ from ?_)
    refine zy_1r (c := 0) rfl rfl rfl (show zyR _ _ _ _ [some (.ref (0 + 3)), some (.int x1), some (.int x2), some (.int x3), none, none] [.ref (1 + 3)] _ _ from ?_)
    refine zy_1 (c := 1) rfl rfl rfl (show zyR _ _ _ _ [some (.ref (0 + 3)), some (.int x1), some (.int x2), some (.int x3), none, none] [.int (s.1 1 3)] _ _ from ?_)
    refine zy_2 rfl rfl (show zyR _ _ _ _ [some (.ref (0 + 3)), some (.int x1), some (.int x2), some (.int x3), none, none] [.int x3, .int (s.1 1 3)] _ _ from ?_)
    obtain ⟨p10, hp10, h⟩ := zy_bind h
    refine zy_60 (as := [.int (s.1 1 3), .int x3]) (rest := []) (L := [some (.int (s.1 1 3)), some (.int x3)]) (d' := 1) rfl rfl (Nat.le_of_ble_eq_true rfl) (Nat.le_of_ble_eq_true rfl) rfl (Nat.le_of_ble_eq_true rfl) rfl rfl (zyC57 hp10) ?_
    show zyR _ _ _ _ [some (.ref (0 + 3)), some (.int x1), some (.int x2), some (.int x3), none, none] [.int p10.1] _ _
    refine zy_23 rfl rfl (show zyR _ _ _ _ [some (.ref (0 + 3)), some (.int x1), some (.int x2), some (.int x3), some (.int p10.1), none] [] _ _ from ?_)
    refine zy_2 rfl rfl (show zyR _ _ _ _ [some (.ref (0 + 3)), some (.int x1), some (.int x2), some (.int x3), some (.int p10.1), none] [.int x1] _ _ from ?_)
    refine zy_24_1 rfl (fun b12 => (show zyR _ _ _ _ [some (.ref (0 + 3)), some (.int x1), some (.int x2), some (.int x3), some (.int p10.1), none] [] _ _ from ?_)) (fun b12 => (show zyR _ _ _ _ [some (.ref (0 + 3)), some (.int x1), some (.int x2), some (.int x3), some (.int p10.1), none] [] _ _ from ?_))
    · replace h := zy_ifp h b12
      exact zy_sub (show zy_le [some (.ref (0 + 3)), some (.int x1), some (.int x2), some (.int x3), some (.int p10.1), none] [some (.ref (0 + 3)), some (.int x1), some (.int x2), some (.int x3), some (.int p10.1), none] from ⟨rfl, ⟨rfl, ⟨rfl, ⟨rfl, ⟨rfl, trivial⟩⟩⟩⟩⟩) (zyC102_43 hk15 h)
    · replace h := zy_ifn h b12
      refine zy_2 rfl rfl (show zyR _ _ _ _ [some (.ref (0 + 3)), some (.int x1), some (.int x2), some (.int x3), some (.int p10.1), none] [.int p10.1] _ _ from ?_)
      refine zy_24_0 rfl (fun b11 => (show zyR _ _ _ _ [some (.ref (0 + 3)), some (.int x1), some (.int x2), some (.int x3), some (.int p10.1), none] [] _ _ from ?_)) (fun b11 => (show zyR _ _ _ _ [some (.ref (0 + 3)), some (.int x1), some (.int x2), some (.int x3), some (.int p10.1), none] [] _ _ from ?_))
      · replace h := zy_ifp h b11
        exact zy_sub (show zy_le [some (.ref (0 + 3)), some (.int x1), some (.int x2), some (.int x3), none, none] [some (.ref (0 + 3)), some (.int x1), some (.int x2), some (.int x3), some (.int p10.1), none] from ⟨rfl, ⟨rfl, ⟨rfl, ⟨rfl, trivial⟩⟩⟩⟩) (zyC102_82 hk15 h)
      · replace h := zy_ifn h b11
        exact zy_sub (show zy_le [some (.ref (0 + 3)), some (.int x1), some (.int x2), some (.int x3), some (.int p10.1), none] [some (.ref (0 + 3)), some (.int x1), some (.int x2), some (.int x3), some (.int p10.1), none] from ⟨rfl, ⟨rfl, ⟨rfl, ⟨rfl, ⟨rfl, trivial⟩⟩⟩⟩⟩) (zyC102_43 hk15 h)
noncomputable def zyF102_15   (n : Nat) : Int32 → Int32 → Int32 → zy_S → Option (Int32 × zy_S) := Nat.rec (fun _ _ _ _ => none) (fun _ k15 => zyF102_15b k15) n
theorem zyC102_15 {X : zx_X}     : ∀ (n : Nat) (x1 : Int32) (x2 : Int32) (x3 : Int32) (s : zy_S) (r : Int32) (s' : zy_S), zyF102_15 n x1 x2 x3 s = some (r, s') → zyR X 2 102 15 [some (.ref (0 + 3)), some (.int x1), some (.int x2), some (.int x3), none, none] [] s (zyE (some (.int r)) s')
  | 0, _, _, _ => by
    intro s r s'  h
    have h : (none : Option (Int32 × zy_S)) = some (r, s') := h
    cases h
  | n + 1, x1, x2, x3 => by
    intro s r s'  h
    exact zyC102_15b (k15 := zyF102_15 n) (fun x1 x2 x3 s r s'  h => zyC102_15  n x1 x2 x3 s r s'  h) h
noncomputable def zyF102   (x1 : Int32) (s : zy_S) : Option (Int32 × zy_S) :=
if x1 < 0 then
some ((-1 : Int32), s)
else
if x1 ≤ (2 : Int32) then
zyF102_15 zy_fu x1 (0 : Int32) (0 : Int32) s
else
some ((-1 : Int32), s)
theorem zyC102 {X : zx_X}     {x1 : Int32} {s : zy_S} {r : Int32} {s' : zy_S}  (h : zyF102 x1 s = some (r, s')) : zyR X 2 102 0 [some (.ref (0 + 3)), some (.int x1), none, none, none, none] [] s (zyE (some (.int r)) s') := by
  unfold zyF102 at h
  refine zy_2 rfl rfl (show zyR _ _ _ _ [some (.ref (0 + 3)), some (.int x1), none, none, none, none] [.int x1] _ _ from ?_)
  refine zy_24_2 rfl (fun b15 => (show zyR _ _ _ _ [some (.ref (0 + 3)), some (.int x1), none, none, none, none] [] _ _ from ?_)) (fun b15 => (show zyR _ _ _ _ [some (.ref (0 + 3)), some (.int x1), none, none, none, none] [] _ _ from ?_))
  · replace h := zy_ifp h b15
    refine zy_3 rfl rfl (show zyR _ _ _ _ [some (.ref (0 + 3)), some (.int x1), none, none, none, none] [.int (-1 : Int32)] _ _ from ?_)
    obtain ⟨rfl, rfl⟩ := zy_pi h
    exact zy_4 rfl ⟨rfl, rfl⟩
  · replace h := zy_ifn h b15
    refine zy_2 rfl rfl (show zyR _ _ _ _ [some (.ref (0 + 3)), some (.int x1), none, none, none, none] [.int x1] _ _ from ?_)
    refine zy_3 rfl rfl (show zyR _ _ _ _ [some (.ref (0 + 3)), some (.int x1), none, none, none, none] [.int (2 : Int32), .int x1] _ _ from ?_)
    refine zy_25_5 rfl (fun b14 => (show zyR _ _ _ _ [some (.ref (0 + 3)), some (.int x1), none, none, none, none] [] _ _ from ?_)) (fun b14 => (show zyR _ _ _ _ [some (.ref (0 + 3)), some (.int x1), none, none, none, none] [] _ _ from ?_))
    · replace h := zy_ifp h b14
      refine zy_3 rfl rfl (show zyR _ _ _ _ [some (.ref (0 + 3)), some (.int x1), none, none, none, none] [.int (0 : Int32)] _ _ from ?_)
      refine zy_23 rfl rfl (show zyR _ _ _ _ [some (.ref (0 + 3)), some (.int x1), some (.int (0 : Int32)), none, none, none] [] _ _ from ?_)
      refine zy_3 rfl rfl (show zyR _ _ _ _ [some (.ref (0 + 3)), some (.int x1), some (.int (0 : Int32)), none, none, none] [.int (0 : Int32)] _ _ from ?_)
      refine zy_23 rfl rfl (show zyR _ _ _ _ [some (.ref (0 + 3)), some (.int x1), some (.int (0 : Int32)), some (.int (0 : Int32)), none, none] [] _ _ from ?_)
      exact zy_sub (show zy_le [some (.ref (0 + 3)), some (.int x1), some (.int (0 : Int32)), some (.int (0 : Int32)), none, none] [some (.ref (0 + 3)), some (.int x1), some (.int (0 : Int32)), some (.int (0 : Int32)), none, none] from ⟨rfl, ⟨rfl, ⟨rfl, ⟨rfl, trivial⟩⟩⟩⟩) (zyC102_15 zy_fu x1 (0 : Int32) (0 : Int32) s _ _ h)
    · replace h := zy_ifn h b14
      refine zy_3 rfl rfl (show zyR _ _ _ _ [some (.ref (0 + 3)), some (.int x1), none, none, none, none] [.int (-1 : Int32)] _ _ from ?_)
      obtain ⟨rfl, rfl⟩ := zy_pi h
      exact zy_4 rfl ⟨rfl, rfl⟩
end
section
/-! PART 41.15: methods as functions. Made by wip/v4/dcp.py. -/
/-! NineOpinionsModel.matters(I)I -/
noncomputable def zyF225_106  (k18 : Int32 → Int32 → Int32 → zy_S → Option (Int32 × zy_S)) (x1 : Int32) (x3 : Int32) (y0 : Int32) (y1 : Int32) (s : zy_S) : Option (Int32 × zy_S) :=
k18 x1 (y1 ||| y0) (x3 + (1 : Int32)) s
theorem zyC225_106 {X : zx_X}  {k18 : Int32 → Int32 → Int32 → zy_S → Option (Int32 × zy_S)}  (hk18 : ∀ (x1 : Int32) (x2 : Int32) (x3 : Int32) (s : zy_S) (r : Int32) (s' : zy_S), k18 x1 x2 x3 s = some (r, s') → zyR X 2 225 18 [some (.ref (43 + 3)), some (.int x1), some (.int x2), some (.int x3), none, none] [] s (zyE (some (.int r)) s')) {x1 : Int32} {x3 : Int32} {y0 : Int32} {y1 : Int32} {s : zy_S} {r : Int32} {s' : zy_S}  (h : zyF225_106 k18 x1 x3 y0 y1 s = some (r, s')) : zyR X 2 225 106 [some (.ref (43 + 3)), some (.int x1), none, some (.int x3), none, none] [.int y0, .int y1] s (zyE (some (.int r)) s') := by
  unfold zyF225_106 at h
  refine zy_14 rfl (show zyR _ _ _ _ [some (.ref (43 + 3)), some (.int x1), none, some (.int x3), none, none] [.int (y1 ||| y0)] _ _ from ?_)
  refine zy_23 rfl rfl (show zyR _ _ _ _ [some (.ref (43 + 3)), some (.int x1), some (.int (y1 ||| y0)), some (.int x3), none, none] [] _ _ from ?_)
  refine zy_22 rfl rfl rfl rfl (show zyR _ _ _ _ [some (.ref (43 + 3)), some (.int x1), some (.int (y1 ||| y0)), some (.int (x3 + (1 : Int32))), none, none] [] _ _ from ?_)
  refine zy_6 rfl (show zyR _ _ _ _ [some (.ref (43 + 3)), some (.int x1), some (.int (y1 ||| y0)), some (.int (x3 + (1 : Int32))), none, none] [] _ _ from ?_)
  exact zy_sub (show zy_le [some (.ref (43 + 3)), some (.int x1), some (.int (y1 ||| y0)), some (.int (x3 + (1 : Int32))), none, none] [some (.ref (43 + 3)), some (.int x1), some (.int (y1 ||| y0)), some (.int (x3 + (1 : Int32))), none, none] from ⟨rfl, ⟨rfl, ⟨rfl, ⟨rfl, trivial⟩⟩⟩⟩) (hk18 x1 (y1 ||| y0) (x3 + (1 : Int32)) s _ _ h)
noncomputable def zyF225_91  (k18 : Int32 → Int32 → Int32 → zy_S → Option (Int32 × zy_S)) (x1 : Int32) (x2 : Int32) (x3 : Int32) (y0 : Int32) (s : zy_S) : Option (Int32 × zy_S) :=
if y0 = 0 then
zyF225_106 k18 x1 x3 (0 : Int32) x2 s
else
zyF225_106 k18 x1 x3 ((1 : Int32) <<< (x3 &&& 31)) x2 s
theorem zyC225_91 {X : zx_X}  {k18 : Int32 → Int32 → Int32 → zy_S → Option (Int32 × zy_S)}  (hk18 : ∀ (x1 : Int32) (x2 : Int32) (x3 : Int32) (s : zy_S) (r : Int32) (s' : zy_S), k18 x1 x2 x3 s = some (r, s') → zyR X 2 225 18 [some (.ref (43 + 3)), some (.int x1), some (.int x2), some (.int x3), none, none] [] s (zyE (some (.int r)) s')) {x1 : Int32} {x2 : Int32} {x3 : Int32} {y0 : Int32} {s : zy_S} {r : Int32} {s' : zy_S}  (h : zyF225_91 k18 x1 x2 x3 y0 s = some (r, s')) : zyR X 2 225 91 [some (.ref (43 + 3)), some (.int x1), some (.int x2), some (.int x3), none, none] [.int y0] s (zyE (some (.int r)) s') := by
  unfold zyF225_91 at h
  refine zy_23 rfl rfl (show zyR _ _ _ _ [some (.ref (43 + 3)), some (.int x1), some (.int x2), some (.int x3), none, some (.int y0)] [] _ _ from ?_)
  refine zy_2 rfl rfl (show zyR _ _ _ _ [some (.ref (43 + 3)), some (.int x1), some (.int x2), some (.int x3), none, some (.int y0)] [.int x2] _ _ from ?_)
  refine zy_2 rfl rfl (show zyR _ _ _ _ [some (.ref (43 + 3)), some (.int x1), some (.int x2), some (.int x3), none, some (.int y0)] [.int y0, .int x2] _ _ from ?_)
  refine zy_24_0 rfl (fun b1 => (show zyR _ _ _ _ [some (.ref (43 + 3)), some (.int x1), some (.int x2), some (.int x3), none, some (.int y0)] [.int x2] _ _ from ?_)) (fun b1 => (show zyR _ _ _ _ [some (.ref (43 + 3)), some (.int x1), some (.int x2), some (.int x3), none, some (.int y0)] [.int x2] _ _ from ?_))
  · replace h := zy_ifp h b1
    refine zy_3 rfl rfl (show zyR _ _ _ _ [some (.ref (43 + 3)), some (.int x1), some (.int x2), some (.int x3), none, some (.int y0)] [.int (0 : Int32), .int x2] _ _ from ?_)
    exact zy_sub (show zy_le [some (.ref (43 + 3)), some (.int x1), none, some (.int x3), none, none] [some (.ref (43 + 3)), some (.int x1), some (.int x2), some (.int x3), none, some (.int y0)] from ⟨rfl, ⟨rfl, ⟨rfl, trivial⟩⟩⟩) (zyC225_106 hk18 h)
  · replace h := zy_ifn h b1
    refine zy_3 rfl rfl (show zyR _ _ _ _ [some (.ref (43 + 3)), some (.int x1), some (.int x2), some (.int x3), none, some (.int y0)] [.int (1 : Int32), .int x2] _ _ from ?_)
    refine zy_2 rfl rfl (show zyR _ _ _ _ [some (.ref (43 + 3)), some (.int x1), some (.int x2), some (.int x3), none, some (.int y0)] [.int x3, .int (1 : Int32), .int x2] _ _ from ?_)
    refine zy_16 rfl (show zyR _ _ _ _ [some (.ref (43 + 3)), some (.int x1), some (.int x2), some (.int x3), none, some (.int y0)] [.int ((1 : Int32) <<< (x3 &&& 31)), .int x2] _ _ from ?_)
    refine zy_6 rfl (show zyR _ _ _ _ [some (.ref (43 + 3)), some (.int x1), some (.int x2), some (.int x3), none, some (.int y0)] [.int ((1 : Int32) <<< (x3 &&& 31)), .int x2] _ _ from ?_)
    exact zy_sub (show zy_le [some (.ref (43 + 3)), some (.int x1), none, some (.int x3), none, none] [some (.ref (43 + 3)), some (.int x1), some (.int x2), some (.int x3), none, some (.int y0)] from ⟨rfl, ⟨rfl, ⟨rfl, trivial⟩⟩⟩) (zyC225_106 hk18 h)
noncomputable def zyF225_18b  (k18 : Int32 → Int32 → Int32 → zy_S → Option (Int32 × zy_S)) (x1 : Int32) (x2 : Int32) (x3 : Int32) (s : zy_S) : Option (Int32 × zy_S) :=
if (6 : Int32) ≤ x3 then
some (x2, s)
else
if x1 ≠ 0 then
if x1 ≠ (1 : Int32) then
(zyF209 (((s.1 43 7) >>> (((4 : Int32) * x3) &&& 31)) &&& (15 : Int32)) s).bind fun p2 =>
if p2.1 ≠ (1 : Int32) then
zyF225_91 k18 x1 x2 x3 (0 : Int32) p2.2
else
zyF225_91 k18 x1 x2 x3 (1 : Int32) p2.2
else
if ((((s.1 43 7) >>> (((4 : Int32) * x3) &&& 31)) &&& (15 : Int32)) &&& (9 : Int32)) ≠ (9 : Int32) then
zyF225_91 k18 x1 x2 x3 (0 : Int32) s
else
zyF225_91 k18 x1 x2 x3 (1 : Int32) s
else
if (((s.1 43 7) >>> (((4 : Int32) * x3) &&& 31)) &&& (15 : Int32)) ≠ 0 then
zyF225_91 k18 x1 x2 x3 (0 : Int32) s
else
zyF225_91 k18 x1 x2 x3 (1 : Int32) s
theorem zyC225_18b {X : zx_X}  {k18 : Int32 → Int32 → Int32 → zy_S → Option (Int32 × zy_S)}  (hk18 : ∀ (x1 : Int32) (x2 : Int32) (x3 : Int32) (s : zy_S) (r : Int32) (s' : zy_S), k18 x1 x2 x3 s = some (r, s') → zyR X 2 225 18 [some (.ref (43 + 3)), some (.int x1), some (.int x2), some (.int x3), none, none] [] s (zyE (some (.int r)) s')) {x1 : Int32} {x2 : Int32} {x3 : Int32} {s : zy_S} {r : Int32} {s' : zy_S}  (h : zyF225_18b k18 x1 x2 x3 s = some (r, s')) : zyR X 2 225 18 [some (.ref (43 + 3)), some (.int x1), some (.int x2), some (.int x3), none, none] [] s (zyE (some (.int r)) s') := by
  unfold zyF225_18b at h
  refine zy_2 rfl rfl (show zyR _ _ _ _ [some (.ref (43 + 3)), some (.int x1), some (.int x2), some (.int x3), none, none] [.int x3] _ _ from ?_)
  refine zy_3 rfl rfl (show zyR _ _ _ _ [some (.ref (43 + 3)), some (.int x1), some (.int x2), some (.int x3), none, none] [.int (6 : Int32), .int x3] _ _ from ?_)
  refine zy_25_3 rfl (fun b8 => (show zyR _ _ _ _ [some (.ref (43 + 3)), some (.int x1), some (.int x2), some (.int x3), none, none] [] _ _ from ?_)) (fun b8 => (show zyR _ _ _ _ [some (.ref (43 + 3)), some (.int x1), some (.int x2), some (.int x3), none, none] [] _ _ from ?_))
  · replace h := zy_ifp h b8
    refine zy_2 rfl rfl (show zyR _ _ _ _ [some (.ref (43 + 3)), some (.int x1), some (.int x2), some (.int x3), none, none] [.int x2] _ _ from ?_)
    obtain ⟨rfl, rfl⟩ := zy_pi h
    exact zy_4 rfl ⟨rfl, rfl⟩
  · replace h := zy_ifn h b8
    refine zy_0 rfl rfl (show zyR _ _ _ _ [some (.ref (43 + 3)), some (.int x1), some (.int x2), some (.int x3), none, none] [.ref (43 + 3)] _ _ from ?_)
    refine zy_1 (c := 43) rfl rfl rfl (show zyR _ _ _ _ [some (.ref (43 + 3)), some (.int x1), some (.int x2), some (.int x3), none, none] [.int (s.1 43 7)] _ _ from ?_)
    refine zy_3 rfl rfl (show zyR _ _ _ _ [some (.ref (43 + 3)), some (.int x1), some (.int x2), some (.int x3), none, none] [.int (4 : Int32), .int (s.1 43 7)] _ _ from ?_)
    refine zy_2 rfl rfl (show zyR _ _ _ _ [some (.ref (43 + 3)), some (.int x1), some (.int x2), some (.int x3), none, none] [.int x3, .int (4 : Int32), .int (s.1 43 7)] _ _ from ?_)
    refine zy_12 rfl (show zyR _ _ _ _ [some (.ref (43 + 3)), some (.int x1), some (.int x2), some (.int x3), none, none] [.int ((4 : Int32) * x3), .int (s.1 43 7)] _ _ from ?_)
    refine zy_17 rfl (show zyR _ _ _ _ [some (.ref (43 + 3)), some (.int x1), some (.int x2), some (.int x3), none, none] [.int ((s.1 43 7) >>> (((4 : Int32) * x3) &&& 31))] _ _ from ?_)
    refine zy_3 rfl rfl (show zyR _ _ _ _ [some (.ref (43 + 3)), some (.int x1), some (.int x2), some (.int x3), none, none] [.int (15 : Int32), .int ((s.1 43 7) >>> (((4 : Int32) * x3) &&& 31))] _ _ from ?_)
    refine zy_13 rfl (show zyR _ _ _ _ [some (.ref (43 + 3)), some (.int x1), some (.int x2), some (.int x3), none, none] [.int (((s.1 43 7) >>> (((4 : Int32) * x3) &&& 31)) &&& (15 : Int32))] _ _ from ?_)
    refine zy_23 rfl rfl (show zyR _ _ _ _ [some (.ref (43 + 3)), some (.int x1), some (.int x2), some (.int x3), some (.int (((s.1 43 7) >>> (((4 : Int32) * x3) &&& 31)) &&& (15 : Int32))), none] [] _ _ from ?_)
    refine zy_2 rfl rfl (show zyR _ _ _ _ [some (.ref (43 + 3)), some (.int x1), some (.int x2), some (.int x3), some (.int (((s.1 43 7) >>> (((4 : Int32) * x3) &&& 31)) &&& (15 : Int32))), none] [.int x1] _ _ from ?_)
    refine zy_24_1 rfl (fun b7 => (show zyR _ _ _ _ [some (.ref (43 + 3)), some (.int x1), some (.int x2), some (.int x3), some (.int (((s.1 43 7) >>> (((4 : Int32) * x3) &&& 31)) &&& (15 : Int32))), none] [] _ _ from ?_)) (fun b7 => (show zyR _ _ _ _ [some (.ref (43 + 3)), some (.int x1), some (.int x2), some (.int x3), some (.int (((s.1 43 7) >>> (((4 : Int32) * x3) &&& 31)) &&& (15 : Int32))), none] [] _ _ from ?_))
    · replace h := zy_ifp h b7
      refine zy_2 rfl rfl (show zyR _ _ _ _ [some (.ref (43 + 3)), some (.int x1), some (.int x2), some (.int x3), some (.int (((s.1 43 7) >>> (((4 : Int32) * x3) &&& 31)) &&& (15 : Int32))), none] [.int x1] _ _ from ?_)
      refine zy_3 rfl rfl (show zyR _ _ _ _ [some (.ref (43 + 3)), some (.int x1), some (.int x2), some (.int x3), some (.int (((s.1 43 7) >>> (((4 : Int32) * x3) &&& 31)) &&& (15 : Int32))), none] [.int (1 : Int32), .int x1] _ _ from ?_)
      refine zy_25_1 rfl (fun b5 => (show zyR _ _ _ _ [some (.ref (43 + 3)), some (.int x1), some (.int x2), some (.int x3), some (.int (((s.1 43 7) >>> (((4 : Int32) * x3) &&& 31)) &&& (15 : Int32))), none] [] _ _ from ?_)) (fun b5 => (show zyR _ _ _ _ [some (.ref (43 + 3)), some (.int x1), some (.int x2), some (.int x3), some (.int (((s.1 43 7) >>> (((4 : Int32) * x3) &&& 31)) &&& (15 : Int32))), none] [] _ _ from ?_))
      · replace h := zy_ifp h b5
        refine zy_2 rfl rfl (show zyR _ _ _ _ [some (.ref (43 + 3)), some (.int x1), some (.int x2), some (.int x3), some (.int (((s.1 43 7) >>> (((4 : Int32) * x3) &&& 31)) &&& (15 : Int32))), none] [.int (((s.1 43 7) >>> (((4 : Int32) * x3) &&& 31)) &&& (15 : Int32))] _ _ from ?_)
        obtain ⟨p2, hp2, h⟩ := zy_bind h
        refine zy_60 (as := [.int (((s.1 43 7) >>> (((4 : Int32) * x3) &&& 31)) &&& (15 : Int32))]) (rest := []) (L := [some (.int (((s.1 43 7) >>> (((4 : Int32) * x3) &&& 31)) &&& (15 : Int32))), none, none]) (d' := 1) rfl rfl (Nat.le_of_ble_eq_true rfl) (Nat.le_of_ble_eq_true rfl) rfl (Nat.le_of_ble_eq_true rfl) rfl rfl (zyC209 hp2) ?_
        show zyR _ _ _ _ [some (.ref (43 + 3)), some (.int x1), some (.int x2), some (.int x3), some (.int (((s.1 43 7) >>> (((4 : Int32) * x3) &&& 31)) &&& (15 : Int32))), none] [.int p2.1] _ _
        refine zy_3 rfl rfl (show zyR _ _ _ _ [some (.ref (43 + 3)), some (.int x1), some (.int x2), some (.int x3), some (.int (((s.1 43 7) >>> (((4 : Int32) * x3) &&& 31)) &&& (15 : Int32))), none] [.int (1 : Int32), .int p2.1] _ _ from ?_)
        refine zy_25_1 rfl (fun b3 => (show zyR _ _ _ _ [some (.ref (43 + 3)), some (.int x1), some (.int x2), some (.int x3), some (.int (((s.1 43 7) >>> (((4 : Int32) * x3) &&& 31)) &&& (15 : Int32))), none] [] _ _ from ?_)) (fun b3 => (show zyR _ _ _ _ [some (.ref (43 + 3)), some (.int x1), some (.int x2), some (.int x3), some (.int (((s.1 43 7) >>> (((4 : Int32) * x3) &&& 31)) &&& (15 : Int32))), none] [] _ _ from ?_))
        · replace h := zy_ifp h b3
          refine zy_3 rfl rfl (show zyR _ _ _ _ [some (.ref (43 + 3)), some (.int x1), some (.int x2), some (.int x3), some (.int (((s.1 43 7) >>> (((4 : Int32) * x3) &&& 31)) &&& (15 : Int32))), none] [.int (0 : Int32)] _ _ from ?_)
          exact zy_sub (show zy_le [some (.ref (43 + 3)), some (.int x1), some (.int x2), some (.int x3), none, none] [some (.ref (43 + 3)), some (.int x1), some (.int x2), some (.int x3), some (.int (((s.1 43 7) >>> (((4 : Int32) * x3) &&& 31)) &&& (15 : Int32))), none] from ⟨rfl, ⟨rfl, ⟨rfl, ⟨rfl, trivial⟩⟩⟩⟩) (zyC225_91 hk18 h)
        · replace h := zy_ifn h b3
          refine zy_3 rfl rfl (show zyR _ _ _ _ [some (.ref (43 + 3)), some (.int x1), some (.int x2), some (.int x3), some (.int (((s.1 43 7) >>> (((4 : Int32) * x3) &&& 31)) &&& (15 : Int32))), none] [.int (1 : Int32)] _ _ from ?_)
          refine zy_6 rfl (show zyR _ _ _ _ [some (.ref (43 + 3)), some (.int x1), some (.int x2), some (.int x3), some (.int (((s.1 43 7) >>> (((4 : Int32) * x3) &&& 31)) &&& (15 : Int32))), none] [.int (1 : Int32)] _ _ from ?_)
          exact zy_sub (show zy_le [some (.ref (43 + 3)), some (.int x1), some (.int x2), some (.int x3), none, none] [some (.ref (43 + 3)), some (.int x1), some (.int x2), some (.int x3), some (.int (((s.1 43 7) >>> (((4 : Int32) * x3) &&& 31)) &&& (15 : Int32))), none] from ⟨rfl, ⟨rfl, ⟨rfl, ⟨rfl, trivial⟩⟩⟩⟩) (zyC225_91 hk18 h)
      · replace h := zy_ifn h b5
        refine zy_2 rfl rfl (show zyR _ _ _ _ [some (.ref (43 + 3)), some (.int x1), some (.int x2), some (.int x3), some (.int (((s.1 43 7) >>> (((4 : Int32) * x3) &&& 31)) &&& (15 : Int32))), none] [.int (((s.1 43 7) >>> (((4 : Int32) * x3) &&& 31)) &&& (15 : Int32))] _ _ from ?_)
        refine zy_3 rfl rfl (show zyR _ _ _ _ [some (.ref (43 + 3)), some (.int x1), some (.int x2), some (.int x3), some (.int (((s.1 43 7) >>> (((4 : Int32) * x3) &&& 31)) &&& (15 : Int32))), none] [.int (9 : Int32), .int (((s.1 43 7) >>> (((4 : Int32) * x3) &&& 31)) &&& (15 : Int32))] _ _ from ?_)
        refine zy_13 rfl (show zyR _ _ _ _ [some (.ref (43 + 3)), some (.int x1), some (.int x2), some (.int x3), some (.int (((s.1 43 7) >>> (((4 : Int32) * x3) &&& 31)) &&& (15 : Int32))), none] [.int ((((s.1 43 7) >>> (((4 : Int32) * x3) &&& 31)) &&& (15 : Int32)) &&& (9 : Int32))] _ _ from ?_)
        refine zy_3 rfl rfl (show zyR _ _ _ _ [some (.ref (43 + 3)), some (.int x1), some (.int x2), some (.int x3), some (.int (((s.1 43 7) >>> (((4 : Int32) * x3) &&& 31)) &&& (15 : Int32))), none] [.int (9 : Int32), .int ((((s.1 43 7) >>> (((4 : Int32) * x3) &&& 31)) &&& (15 : Int32)) &&& (9 : Int32))] _ _ from ?_)
        refine zy_25_1 rfl (fun b4 => (show zyR _ _ _ _ [some (.ref (43 + 3)), some (.int x1), some (.int x2), some (.int x3), some (.int (((s.1 43 7) >>> (((4 : Int32) * x3) &&& 31)) &&& (15 : Int32))), none] [] _ _ from ?_)) (fun b4 => (show zyR _ _ _ _ [some (.ref (43 + 3)), some (.int x1), some (.int x2), some (.int x3), some (.int (((s.1 43 7) >>> (((4 : Int32) * x3) &&& 31)) &&& (15 : Int32))), none] [] _ _ from ?_))
        · replace h := zy_ifp h b4
          refine zy_3 rfl rfl (show zyR _ _ _ _ [some (.ref (43 + 3)), some (.int x1), some (.int x2), some (.int x3), some (.int (((s.1 43 7) >>> (((4 : Int32) * x3) &&& 31)) &&& (15 : Int32))), none] [.int (0 : Int32)] _ _ from ?_)
          refine zy_6 rfl (show zyR _ _ _ _ [some (.ref (43 + 3)), some (.int x1), some (.int x2), some (.int x3), some (.int (((s.1 43 7) >>> (((4 : Int32) * x3) &&& 31)) &&& (15 : Int32))), none] [.int (0 : Int32)] _ _ from ?_)
          exact zy_sub (show zy_le [some (.ref (43 + 3)), some (.int x1), some (.int x2), some (.int x3), none, none] [some (.ref (43 + 3)), some (.int x1), some (.int x2), some (.int x3), some (.int (((s.1 43 7) >>> (((4 : Int32) * x3) &&& 31)) &&& (15 : Int32))), none] from ⟨rfl, ⟨rfl, ⟨rfl, ⟨rfl, trivial⟩⟩⟩⟩) (zyC225_91 hk18 h)
        · replace h := zy_ifn h b4
          refine zy_3 rfl rfl (show zyR _ _ _ _ [some (.ref (43 + 3)), some (.int x1), some (.int x2), some (.int x3), some (.int (((s.1 43 7) >>> (((4 : Int32) * x3) &&& 31)) &&& (15 : Int32))), none] [.int (1 : Int32)] _ _ from ?_)
          refine zy_6 rfl (show zyR _ _ _ _ [some (.ref (43 + 3)), some (.int x1), some (.int x2), some (.int x3), some (.int (((s.1 43 7) >>> (((4 : Int32) * x3) &&& 31)) &&& (15 : Int32))), none] [.int (1 : Int32)] _ _ from ?_)
          exact zy_sub (show zy_le [some (.ref (43 + 3)), some (.int x1), some (.int x2), some (.int x3), none, none] [some (.ref (43 + 3)), some (.int x1), some (.int x2), some (.int x3), some (.int (((s.1 43 7) >>> (((4 : Int32) * x3) &&& 31)) &&& (15 : Int32))), none] from ⟨rfl, ⟨rfl, ⟨rfl, ⟨rfl, trivial⟩⟩⟩⟩) (zyC225_91 hk18 h)
    · replace h := zy_ifn h b7
      refine zy_2 rfl rfl (show zyR _ _ _ _ [some (.ref (43 + 3)), some (.int x1), some (.int x2), some (.int x3), some (.int (((s.1 43 7) >>> (((4 : Int32) * x3) &&& 31)) &&& (15 : Int32))), none] [.int (((s.1 43 7) >>> (((4 : Int32) * x3) &&& 31)) &&& (15 : Int32))] _ _ from ?_)
      refine zy_24_1 rfl (fun b6 => (show zyR _ _ _ _ [some (.ref (43 + 3)), some (.int x1), some (.int x2), some (.int x3), some (.int (((s.1 43 7) >>> (((4 : Int32) * x3) &&& 31)) &&& (15 : Int32))), none] [] _ _ from ?_)) (fun b6 => (show zyR _ _ _ _ [some (.ref (43 + 3)), some (.int x1), some (.int x2), some (.int x3), some (.int (((s.1 43 7) >>> (((4 : Int32) * x3) &&& 31)) &&& (15 : Int32))), none] [] _ _ from ?_))
      · replace h := zy_ifp h b6
        refine zy_3 rfl rfl (show zyR _ _ _ _ [some (.ref (43 + 3)), some (.int x1), some (.int x2), some (.int x3), some (.int (((s.1 43 7) >>> (((4 : Int32) * x3) &&& 31)) &&& (15 : Int32))), none] [.int (0 : Int32)] _ _ from ?_)
        refine zy_6 rfl (show zyR _ _ _ _ [some (.ref (43 + 3)), some (.int x1), some (.int x2), some (.int x3), some (.int (((s.1 43 7) >>> (((4 : Int32) * x3) &&& 31)) &&& (15 : Int32))), none] [.int (0 : Int32)] _ _ from ?_)
        exact zy_sub (show zy_le [some (.ref (43 + 3)), some (.int x1), some (.int x2), some (.int x3), none, none] [some (.ref (43 + 3)), some (.int x1), some (.int x2), some (.int x3), some (.int (((s.1 43 7) >>> (((4 : Int32) * x3) &&& 31)) &&& (15 : Int32))), none] from ⟨rfl, ⟨rfl, ⟨rfl, ⟨rfl, trivial⟩⟩⟩⟩) (zyC225_91 hk18 h)
      · replace h := zy_ifn h b6
        refine zy_3 rfl rfl (show zyR _ _ _ _ [some (.ref (43 + 3)), some (.int x1), some (.int x2), some (.int x3), some (.int (((s.1 43 7) >>> (((4 : Int32) * x3) &&& 31)) &&& (15 : Int32))), none] [.int (1 : Int32)] _ _ from ?_)
        refine zy_6 rfl (show zyR _ _ _ _ [some (.ref (43 + 3)), some (.int x1), some (.int x2), some (.int x3), some (.int (((s.1 43 7) >>> (((4 : Int32) * x3) &&& 31)) &&& (15 : Int32))), none] [.int (1 : Int32)] _ _ from ?_)
        exact zy_sub (show zy_le [some (.ref (43 + 3)), some (.int x1), some (.int x2), some (.int x3), none, none] [some (.ref (43 + 3)), some (.int x1), some (.int x2), some (.int x3), some (.int (((s.1 43 7) >>> (((4 : Int32) * x3) &&& 31)) &&& (15 : Int32))), none] from ⟨rfl, ⟨rfl, ⟨rfl, ⟨rfl, trivial⟩⟩⟩⟩) (zyC225_91 hk18 h)
noncomputable def zyF225_18   (n : Nat) : Int32 → Int32 → Int32 → zy_S → Option (Int32 × zy_S) := Nat.rec (fun _ _ _ _ => none) (fun _ k18 => zyF225_18b k18) n
theorem zyC225_18 {X : zx_X}     : ∀ (n : Nat) (x1 : Int32) (x2 : Int32) (x3 : Int32) (s : zy_S) (r : Int32) (s' : zy_S), zyF225_18 n x1 x2 x3 s = some (r, s') → zyR X 2 225 18 [some (.ref (43 + 3)), some (.int x1), some (.int x2), some (.int x3), none, none] [] s (zyE (some (.int r)) s')
  | 0, _, _, _ => by
    intro s r s'  h
    have h : (none : Option (Int32 × zy_S)) = some (r, s') := h
    cases h
  | n + 1, x1, x2, x3 => by
    intro s r s'  h
    exact zyC225_18b (k18 := zyF225_18 n) (fun x1 x2 x3 s r s'  h => zyC225_18  n x1 x2 x3 s r s'  h) h
noncomputable def zyF225   (x1 : Int32) (s : zy_S) : Option (Int32 × zy_S) :=
(zyF179 (x1).toInt64 (0 : Int64) (2 : Int64) s).bind fun p9 =>
if p9.1 ≠ 0 then
zyF225_18 zy_fu x1 (0 : Int32) (0 : Int32) p9.2
else
some ((-1 : Int32), p9.2)
theorem zyC225 {X : zx_X}     {x1 : Int32} {s : zy_S} {r : Int32} {s' : zy_S}  (h : zyF225 x1 s = some (r, s')) : zyR X 2 225 0 [some (.ref (43 + 3)), some (.int x1), none, none, none, none] [] s (zyE (some (.int r)) s') := by
  unfold zyF225 at h
  refine zy_2 rfl rfl (show zyR _ _ _ _ [some (.ref (43 + 3)), some (.int x1), none, none, none, none] [.int x1] _ _ from ?_)
  refine zy_40 rfl (show zyR _ _ _ _ [some (.ref (43 + 3)), some (.int x1), none, none, none, none] [.long (x1).toInt64] _ _ from ?_)
  refine zy_36 rfl rfl (show zyR _ _ _ _ [some (.ref (43 + 3)), some (.int x1), none, none, none, none] [.long (0 : Int64), .long (x1).toInt64] _ _ from ?_)
  refine zy_36c rfl rfl (show zyR _ _ _ _ [some (.ref (43 + 3)), some (.int x1), none, none, none, none] [.long (2 : Int64), .long (0 : Int64), .long (x1).toInt64] _ _ from ?_)
  obtain ⟨p9, hp9, h⟩ := zy_bind h
  refine zy_60 (as := [.long (x1).toInt64, .long (0 : Int64), .long (2 : Int64)]) (rest := []) (L := [some (.long (x1).toInt64), none, some (.long (0 : Int64)), none, some (.long (2 : Int64)), none]) (d' := 1) rfl rfl (Nat.le_of_ble_eq_true rfl) (Nat.le_of_ble_eq_true rfl) rfl (Nat.le_of_ble_eq_true rfl) rfl rfl (zyC179 hp9) ?_
  show zyR _ _ _ _ [some (.ref (43 + 3)), some (.int x1), none, none, none, none] [.int p9.1] _ _
  refine zy_24_1 rfl (fun b10 => (show zyR _ _ _ _ [some (.ref (43 + 3)), some (.int x1), none, none, none, none] [] _ _ from ?_)) (fun b10 => (show zyR _ _ _ _ [some (.ref (43 + 3)), some (.int x1), none, none, none, none] [] _ _ from ?_))
  · replace h := zy_ifp h b10
    refine zy_3 rfl rfl (show zyR _ _ _ _ [some (.ref (43 + 3)), some (.int x1), none, none, none, none] [.int (0 : Int32)] _ _ from ?_)
    refine zy_23 rfl rfl (show zyR _ _ _ _ [some (.ref (43 + 3)), some (.int x1), some (.int (0 : Int32)), none, none, none] [] _ _ from ?_)
    refine zy_3 rfl rfl (show zyR _ _ _ _ [some (.ref (43 + 3)), some (.int x1), some (.int (0 : Int32)), none, none, none] [.int (0 : Int32)] _ _ from ?_)
    refine zy_23 rfl rfl (show zyR _ _ _ _ [some (.ref (43 + 3)), some (.int x1), some (.int (0 : Int32)), some (.int (0 : Int32)), none, none] [] _ _ from ?_)
    exact zy_sub (show zy_le [some (.ref (43 + 3)), some (.int x1), some (.int (0 : Int32)), some (.int (0 : Int32)), none, none] [some (.ref (43 + 3)), some (.int x1), some (.int (0 : Int32)), some (.int (0 : Int32)), none, none] from ⟨rfl, ⟨rfl, ⟨rfl, ⟨rfl, trivial⟩⟩⟩⟩) (zyC225_18 zy_fu x1 (0 : Int32) (0 : Int32) p9.2 _ _ h)
  · replace h := zy_ifn h b10
    refine zy_3 rfl rfl (show zyR _ _ _ _ [some (.ref (43 + 3)), some (.int x1), none, none, none, none] [.int (-1 : Int32)] _ _ from ?_)
    obtain ⟨rfl, rfl⟩ := zy_pi h
    exact zy_4 rfl ⟨rfl, rfl⟩
/-! NineOpinions$Votes.believersOf(I)I -/
noncomputable def zyF95_35  (k4 : Int32 → Int32 → Int32 → zy_S → Option (Int32 × zy_S)) (x1 : Int32) (x3 : Int32) (y0 : Int32) (y1 : Int32) (s : zy_S) : Option (Int32 × zy_S) :=
k4 x1 (y1 ||| y0) (x3 + (1 : Int32)) s
theorem zyC95_35 {X : zx_X}  {k4 : Int32 → Int32 → Int32 → zy_S → Option (Int32 × zy_S)}  (hk4 : ∀ (x1 : Int32) (x2 : Int32) (x3 : Int32) (s : zy_S) (r : Int32) (s' : zy_S), k4 x1 x2 x3 s = some (r, s') → zyR X 3 95 4 [some (.ref (16 + 3)), some (.int x1), some (.int x2), some (.int x3)] [] s (zyE (some (.int r)) s')) {x1 : Int32} {x3 : Int32} {y0 : Int32} {y1 : Int32} {s : zy_S} {r : Int32} {s' : zy_S}  (h : zyF95_35 k4 x1 x3 y0 y1 s = some (r, s')) : zyR X 3 95 35 [some (.ref (16 + 3)), some (.int x1), none, some (.int x3)] [.int y0, .int y1] s (zyE (some (.int r)) s') := by
  unfold zyF95_35 at h
  refine zy_14 rfl (show zyR _ _ _ _ [some (.ref (16 + 3)), some (.int x1), none, some (.int x3)] [.int (y1 ||| y0)] _ _ from ?_)
  refine zy_23 rfl rfl (show zyR _ _ _ _ [some (.ref (16 + 3)), some (.int x1), some (.int (y1 ||| y0)), some (.int x3)] [] _ _ from ?_)
  refine zy_22 rfl rfl rfl rfl (show zyR _ _ _ _ [some (.ref (16 + 3)), some (.int x1), some (.int (y1 ||| y0)), some (.int (x3 + (1 : Int32)))] [] _ _ from ?_)
  refine zy_6 rfl (show zyR _ _ _ _ [some (.ref (16 + 3)), some (.int x1), some (.int (y1 ||| y0)), some (.int (x3 + (1 : Int32)))] [] _ _ from ?_)
  exact zy_sub (show zy_le [some (.ref (16 + 3)), some (.int x1), some (.int (y1 ||| y0)), some (.int (x3 + (1 : Int32)))] [some (.ref (16 + 3)), some (.int x1), some (.int (y1 ||| y0)), some (.int (x3 + (1 : Int32)))] from ⟨rfl, ⟨rfl, ⟨rfl, ⟨rfl, trivial⟩⟩⟩⟩) (hk4 x1 (y1 ||| y0) (x3 + (1 : Int32)) s _ _ h)
noncomputable def zyF95_4b  (k4 : Int32 → Int32 → Int32 → zy_S → Option (Int32 × zy_S)) (x1 : Int32) (x2 : Int32) (x3 : Int32) (s : zy_S) : Option (Int32 × zy_S) :=
if (s.1 1 5) ≤ x3 then
some (x2, s)
else
(zyF96 x3 x1 s).bind fun p1 =>
if p1.1 = 0 then
zyF95_35 k4 x1 x3 (0 : Int32) x2 p1.2
else
zyF95_35 k4 x1 x3 ((1 : Int32) <<< (x3 &&& 31)) x2 p1.2
theorem zyC95_4b {X : zx_X}  {k4 : Int32 → Int32 → Int32 → zy_S → Option (Int32 × zy_S)}  (hk4 : ∀ (x1 : Int32) (x2 : Int32) (x3 : Int32) (s : zy_S) (r : Int32) (s' : zy_S), k4 x1 x2 x3 s = some (r, s') → zyR X 3 95 4 [some (.ref (16 + 3)), some (.int x1), some (.int x2), some (.int x3)] [] s (zyE (some (.int r)) s')) {x1 : Int32} {x2 : Int32} {x3 : Int32} {s : zy_S} {r : Int32} {s' : zy_S}  (h : zyF95_4b k4 x1 x2 x3 s = some (r, s')) : zyR X 3 95 4 [some (.ref (16 + 3)), some (.int x1), some (.int x2), some (.int x3)] [] s (zyE (some (.int r)) s') := by
  unfold zyF95_4b at h
  refine zy_2 rfl rfl (show zyR _ _ _ _ [some (.ref (16 + 3)), some (.int x1), some (.int x2), some (.int x3)] [.int x3] _ _ from ?_)
  refine zy_0 rfl rfl (show zyR _ _ _ _ [some (.ref (16 + 3)), some (.int x1), some (.int x2), some (.int x3)] [.ref (16 + 3), .int x3] _ _ from ?_)
  refine zy_1r (c := 16) rfl rfl rfl (show zyR _ _ _ _ [some (.ref (16 + 3)), some (.int x1), some (.int x2), some (.int x3)] [.ref (1 + 3), .int x3] _ _ from ?_)
  refine zy_1 (c := 1) rfl rfl rfl (show zyR _ _ _ _ [some (.ref (16 + 3)), some (.int x1), some (.int x2), some (.int x3)] [.int (s.1 1 5), .int x3] _ _ from ?_)
  refine zy_25_3 rfl (fun b3 => (show zyR _ _ _ _ [some (.ref (16 + 3)), some (.int x1), some (.int x2), some (.int x3)] [] _ _ from ?_)) (fun b3 => (show zyR _ _ _ _ [some (.ref (16 + 3)), some (.int x1), some (.int x2), some (.int x3)] [] _ _ from ?_))
  · replace h := zy_ifp h b3
    refine zy_2 rfl rfl (show zyR _ _ _ _ [some (.ref (16 + 3)), some (.int x1), some (.int x2), some (.int x3)] [.int x2] _ _ from ?_)
    obtain ⟨rfl, rfl⟩ := zy_pi h
    exact zy_4 rfl ⟨rfl, rfl⟩
  · replace h := zy_ifn h b3
    refine zy_2 rfl rfl (show zyR _ _ _ _ [some (.ref (16 + 3)), some (.int x1), some (.int x2), some (.int x3)] [.int x2] _ _ from ?_)
    refine zy_0 rfl rfl (show zyR _ _ _ _ [some (.ref (16 + 3)), some (.int x1), some (.int x2), some (.int x3)] [.ref (16 + 3), .int x2] _ _ from ?_)
    refine zy_1r (c := 16) rfl rfl rfl (show zyR _ _ _ _ [some (.ref (16 + 3)), some (.int x1), some (.int x2), some (.int x3)] [.ref (1 + 3), .int x2] _ _ from ?_)
    refine zy_2 rfl rfl (show zyR _ _ _ _ [some (.ref (16 + 3)), some (.int x1), some (.int x2), some (.int x3)] [.int x3, .ref (1 + 3), .int x2] _ _ from ?_)
    refine zy_2 rfl rfl (show zyR _ _ _ _ [some (.ref (16 + 3)), some (.int x1), some (.int x2), some (.int x3)] [.int x1, .int x3, .ref (1 + 3), .int x2] _ _ from ?_)
    obtain ⟨p1, hp1, h⟩ := zy_bind h
    refine zy_5 (c := 1) (as := [.int x3, .int x1]) (rest := [.int x2]) (L := [some (.ref (1 + 3)), some (.int x3), some (.int x1)]) (d' := 2) rfl rfl rfl (Nat.le_of_ble_eq_true rfl) (Nat.le_of_ble_eq_true rfl) rfl (Nat.le_of_ble_eq_true rfl) rfl rfl (zyC96 hp1) ?_
    show zyR _ _ _ _ [some (.ref (16 + 3)), some (.int x1), some (.int x2), some (.int x3)] [.int p1.1, .int x2] _ _
    refine zy_24_0 rfl (fun b2 => (show zyR _ _ _ _ [some (.ref (16 + 3)), some (.int x1), some (.int x2), some (.int x3)] [.int x2] _ _ from ?_)) (fun b2 => (show zyR _ _ _ _ [some (.ref (16 + 3)), some (.int x1), some (.int x2), some (.int x3)] [.int x2] _ _ from ?_))
    · replace h := zy_ifp h b2
      refine zy_3 rfl rfl (show zyR _ _ _ _ [some (.ref (16 + 3)), some (.int x1), some (.int x2), some (.int x3)] [.int (0 : Int32), .int x2] _ _ from ?_)
      exact zy_sub (show zy_le [some (.ref (16 + 3)), some (.int x1), none, some (.int x3)] [some (.ref (16 + 3)), some (.int x1), some (.int x2), some (.int x3)] from ⟨rfl, ⟨rfl, ⟨rfl, trivial⟩⟩⟩) (zyC95_35 hk4 h)
    · replace h := zy_ifn h b2
      refine zy_3 rfl rfl (show zyR _ _ _ _ [some (.ref (16 + 3)), some (.int x1), some (.int x2), some (.int x3)] [.int (1 : Int32), .int x2] _ _ from ?_)
      refine zy_2 rfl rfl (show zyR _ _ _ _ [some (.ref (16 + 3)), some (.int x1), some (.int x2), some (.int x3)] [.int x3, .int (1 : Int32), .int x2] _ _ from ?_)
      refine zy_16 rfl (show zyR _ _ _ _ [some (.ref (16 + 3)), some (.int x1), some (.int x2), some (.int x3)] [.int ((1 : Int32) <<< (x3 &&& 31)), .int x2] _ _ from ?_)
      refine zy_6 rfl (show zyR _ _ _ _ [some (.ref (16 + 3)), some (.int x1), some (.int x2), some (.int x3)] [.int ((1 : Int32) <<< (x3 &&& 31)), .int x2] _ _ from ?_)
      exact zy_sub (show zy_le [some (.ref (16 + 3)), some (.int x1), none, some (.int x3)] [some (.ref (16 + 3)), some (.int x1), some (.int x2), some (.int x3)] from ⟨rfl, ⟨rfl, ⟨rfl, trivial⟩⟩⟩) (zyC95_35 hk4 h)
noncomputable def zyF95_4   (n : Nat) : Int32 → Int32 → Int32 → zy_S → Option (Int32 × zy_S) := Nat.rec (fun _ _ _ _ => none) (fun _ k4 => zyF95_4b k4) n
theorem zyC95_4 {X : zx_X}     : ∀ (n : Nat) (x1 : Int32) (x2 : Int32) (x3 : Int32) (s : zy_S) (r : Int32) (s' : zy_S), zyF95_4 n x1 x2 x3 s = some (r, s') → zyR X 3 95 4 [some (.ref (16 + 3)), some (.int x1), some (.int x2), some (.int x3)] [] s (zyE (some (.int r)) s')
  | 0, _, _, _ => by
    intro s r s'  h
    have h : (none : Option (Int32 × zy_S)) = some (r, s') := h
    cases h
  | n + 1, x1, x2, x3 => by
    intro s r s'  h
    exact zyC95_4b (k4 := zyF95_4 n) (fun x1 x2 x3 s r s'  h => zyC95_4  n x1 x2 x3 s r s'  h) h
noncomputable def zyF95   (x1 : Int32) (s : zy_S) : Option (Int32 × zy_S) :=
zyF95_4 zy_fu x1 (0 : Int32) (0 : Int32) s
theorem zyC95 {X : zx_X}     {x1 : Int32} {s : zy_S} {r : Int32} {s' : zy_S}  (h : zyF95 x1 s = some (r, s')) : zyR X 3 95 0 [some (.ref (16 + 3)), some (.int x1), none, none] [] s (zyE (some (.int r)) s') := by
  unfold zyF95 at h
  refine zy_3 rfl rfl (show zyR _ _ _ _ [some (.ref (16 + 3)), some (.int x1), none, none] [.int (0 : Int32)] _ _ from ?_)
  refine zy_23 rfl rfl (show zyR _ _ _ _ [some (.ref (16 + 3)), some (.int x1), some (.int (0 : Int32)), none] [] _ _ from ?_)
  refine zy_3 rfl rfl (show zyR _ _ _ _ [some (.ref (16 + 3)), some (.int x1), some (.int (0 : Int32)), none] [.int (0 : Int32)] _ _ from ?_)
  refine zy_23 rfl rfl (show zyR _ _ _ _ [some (.ref (16 + 3)), some (.int x1), some (.int (0 : Int32)), some (.int (0 : Int32))] [] _ _ from ?_)
  exact zy_sub (show zy_le [some (.ref (16 + 3)), some (.int x1), some (.int (0 : Int32)), some (.int (0 : Int32))] [some (.ref (16 + 3)), some (.int x1), some (.int (0 : Int32)), some (.int (0 : Int32))] from ⟨rfl, ⟨rfl, ⟨rfl, ⟨rfl, trivial⟩⟩⟩⟩) (zyC95_4 zy_fu x1 (0 : Int32) (0 : Int32) s _ _ h)
/-! NineOpinions$Votes.standingOf(I)I -/
noncomputable def zyF98_38  (k4 : Int32 → Int32 → Int32 → zy_S → Option (Int32 × zy_S)) (x1 : Int32) (x3 : Int32) (y0 : Int32) (y1 : Int32) (s : zy_S) : Option (Int32 × zy_S) :=
k4 x1 (y1 + y0) (x3 + (1 : Int32)) s
theorem zyC98_38 {X : zx_X}  {k4 : Int32 → Int32 → Int32 → zy_S → Option (Int32 × zy_S)}  (hk4 : ∀ (x1 : Int32) (x2 : Int32) (x3 : Int32) (s : zy_S) (r : Int32) (s' : zy_S), k4 x1 x2 x3 s = some (r, s') → zyR X 2 98 4 [some (.ref (16 + 3)), some (.int x1), some (.int x2), some (.int x3)] [] s (zyE (some (.int r)) s')) {x1 : Int32} {x3 : Int32} {y0 : Int32} {y1 : Int32} {s : zy_S} {r : Int32} {s' : zy_S}  (h : zyF98_38 k4 x1 x3 y0 y1 s = some (r, s')) : zyR X 2 98 38 [some (.ref (16 + 3)), some (.int x1), none, some (.int x3)] [.int y0, .int y1] s (zyE (some (.int r)) s') := by
  unfold zyF98_38 at h
  refine zy_10 rfl (show zyR _ _ _ _ [some (.ref (16 + 3)), some (.int x1), none, some (.int x3)] [.int (y1 + y0)] _ _ from ?_)
  refine zy_23 rfl rfl (show zyR _ _ _ _ [some (.ref (16 + 3)), some (.int x1), some (.int (y1 + y0)), some (.int x3)] [] _ _ from ?_)
  refine zy_22 rfl rfl rfl rfl (show zyR _ _ _ _ [some (.ref (16 + 3)), some (.int x1), some (.int (y1 + y0)), some (.int (x3 + (1 : Int32)))] [] _ _ from ?_)
  refine zy_6 rfl (show zyR _ _ _ _ [some (.ref (16 + 3)), some (.int x1), some (.int (y1 + y0)), some (.int (x3 + (1 : Int32)))] [] _ _ from ?_)
  exact zy_sub (show zy_le [some (.ref (16 + 3)), some (.int x1), some (.int (y1 + y0)), some (.int (x3 + (1 : Int32)))] [some (.ref (16 + 3)), some (.int x1), some (.int (y1 + y0)), some (.int (x3 + (1 : Int32)))] from ⟨rfl, ⟨rfl, ⟨rfl, ⟨rfl, trivial⟩⟩⟩⟩) (hk4 x1 (y1 + y0) (x3 + (1 : Int32)) s _ _ h)
noncomputable def zyF98_4b  (k4 : Int32 → Int32 → Int32 → zy_S → Option (Int32 × zy_S)) (x1 : Int32) (x2 : Int32) (x3 : Int32) (s : zy_S) : Option (Int32 × zy_S) :=
if (s.1 1 5) ≤ x3 then
some (x2, s)
else
(zyF32 x1 x3 s).bind fun p1 =>
if p1.1 ≠ (1 : Int32) then
zyF98_38 k4 x1 x3 (0 : Int32) x2 p1.2
else
if zy_in x3 8 then
zyF98_38 k4 x1 x3 (p1.2.1 4 (x3).toNatClampNeg) x2 p1.2
else none
theorem zyC98_4b {X : zx_X}  {k4 : Int32 → Int32 → Int32 → zy_S → Option (Int32 × zy_S)}  (hk4 : ∀ (x1 : Int32) (x2 : Int32) (x3 : Int32) (s : zy_S) (r : Int32) (s' : zy_S), k4 x1 x2 x3 s = some (r, s') → zyR X 2 98 4 [some (.ref (16 + 3)), some (.int x1), some (.int x2), some (.int x3)] [] s (zyE (some (.int r)) s')) {x1 : Int32} {x2 : Int32} {x3 : Int32} {s : zy_S} {r : Int32} {s' : zy_S}  (h : zyF98_4b k4 x1 x2 x3 s = some (r, s')) : zyR X 2 98 4 [some (.ref (16 + 3)), some (.int x1), some (.int x2), some (.int x3)] [] s (zyE (some (.int r)) s') := by
  unfold zyF98_4b at h
  refine zy_2 rfl rfl (show zyR _ _ _ _ [some (.ref (16 + 3)), some (.int x1), some (.int x2), some (.int x3)] [.int x3] _ _ from ?_)
  refine zy_0 rfl rfl (show zyR _ _ _ _ [some (.ref (16 + 3)), some (.int x1), some (.int x2), some (.int x3)] [.ref (16 + 3), .int x3] _ _ from ?_)
  refine zy_1r (c := 16) rfl rfl rfl (show zyR _ _ _ _ [some (.ref (16 + 3)), some (.int x1), some (.int x2), some (.int x3)] [.ref (1 + 3), .int x3] _ _ from ?_)
  refine zy_1 (c := 1) rfl rfl rfl (show zyR _ _ _ _ [some (.ref (16 + 3)), some (.int x1), some (.int x2), some (.int x3)] [.int (s.1 1 5), .int x3] _ _ from ?_)
  refine zy_25_3 rfl (fun b4 => (show zyR _ _ _ _ [some (.ref (16 + 3)), some (.int x1), some (.int x2), some (.int x3)] [] _ _ from ?_)) (fun b4 => (show zyR _ _ _ _ [some (.ref (16 + 3)), some (.int x1), some (.int x2), some (.int x3)] [] _ _ from ?_))
  · replace h := zy_ifp h b4
    refine zy_2 rfl rfl (show zyR _ _ _ _ [some (.ref (16 + 3)), some (.int x1), some (.int x2), some (.int x3)] [.int x2] _ _ from ?_)
    obtain ⟨rfl, rfl⟩ := zy_pi h
    exact zy_4 rfl ⟨rfl, rfl⟩
  · replace h := zy_ifn h b4
    refine zy_2 rfl rfl (show zyR _ _ _ _ [some (.ref (16 + 3)), some (.int x1), some (.int x2), some (.int x3)] [.int x2] _ _ from ?_)
    refine zy_2 rfl rfl (show zyR _ _ _ _ [some (.ref (16 + 3)), some (.int x1), some (.int x2), some (.int x3)] [.int x1, .int x2] _ _ from ?_)
    refine zy_2 rfl rfl (show zyR _ _ _ _ [some (.ref (16 + 3)), some (.int x1), some (.int x2), some (.int x3)] [.int x3, .int x1, .int x2] _ _ from ?_)
    obtain ⟨p1, hp1, h⟩ := zy_bind h
    refine zy_61 (as := [.int x1, .int x3]) (rest := [.int x2]) (L := [some (.int x1), some (.int x3)]) (d' := 1) rfl rfl (Nat.le_of_ble_eq_true rfl) (Nat.le_of_ble_eq_true rfl) rfl (Nat.le_of_ble_eq_true rfl) rfl rfl (zyC32 hp1) ?_
    show zyR _ _ _ _ [some (.ref (16 + 3)), some (.int x1), some (.int x2), some (.int x3)] [.int p1.1, .int x2] _ _
    refine zy_3 rfl rfl (show zyR _ _ _ _ [some (.ref (16 + 3)), some (.int x1), some (.int x2), some (.int x3)] [.int (1 : Int32), .int p1.1, .int x2] _ _ from ?_)
    refine zy_25_1 rfl (fun b3 => (show zyR _ _ _ _ [some (.ref (16 + 3)), some (.int x1), some (.int x2), some (.int x3)] [.int x2] _ _ from ?_)) (fun b3 => (show zyR _ _ _ _ [some (.ref (16 + 3)), some (.int x1), some (.int x2), some (.int x3)] [.int x2] _ _ from ?_))
    · replace h := zy_ifp h b3
      refine zy_3 rfl rfl (show zyR _ _ _ _ [some (.ref (16 + 3)), some (.int x1), some (.int x2), some (.int x3)] [.int (0 : Int32), .int x2] _ _ from ?_)
      exact zy_sub (show zy_le [some (.ref (16 + 3)), some (.int x1), none, some (.int x3)] [some (.ref (16 + 3)), some (.int x1), some (.int x2), some (.int x3)] from ⟨rfl, ⟨rfl, ⟨rfl, trivial⟩⟩⟩) (zyC98_38 hk4 h)
    · replace h := zy_ifn h b3
      refine zy_0 rfl rfl (show zyR _ _ _ _ [some (.ref (16 + 3)), some (.int x1), some (.int x2), some (.int x3)] [.ref (16 + 3), .int x2] _ _ from ?_)
      refine zy_1r (c := 16) rfl rfl rfl (show zyR _ _ _ _ [some (.ref (16 + 3)), some (.int x1), some (.int x2), some (.int x3)] [.ref (1 + 3), .int x2] _ _ from ?_)
      refine zy_1r (c := 1) rfl rfl rfl (show zyR _ _ _ _ [some (.ref (16 + 3)), some (.int x1), some (.int x2), some (.int x3)] [.ref (4 + 3), .int x2] _ _ from ?_)
      refine zy_2 rfl rfl (show zyR _ _ _ _ [some (.ref (16 + 3)), some (.int x1), some (.int x2), some (.int x3)] [.int x3, .ref (4 + 3), .int x2] _ _ from ?_)
      obtain ⟨c2, h⟩ := zy_if h
      refine zy_26 (c := 4) rfl rfl c2 (show zyR _ _ _ _ [some (.ref (16 + 3)), some (.int x1), some (.int x2), some (.int x3)] [.int (p1.2.1 4 (x3).toNatClampNeg), .int x2] _ _ from ?_)
      refine zy_6 rfl (show zyR _ _ _ _ [some (.ref (16 + 3)), some (.int x1), some (.int x2), some (.int x3)] [.int (p1.2.1 4 (x3).toNatClampNeg), .int x2] _ _ from ?_)
      exact zy_sub (show zy_le [some (.ref (16 + 3)), some (.int x1), none, some (.int x3)] [some (.ref (16 + 3)), some (.int x1), some (.int x2), some (.int x3)] from ⟨rfl, ⟨rfl, ⟨rfl, trivial⟩⟩⟩) (zyC98_38 hk4 h)
noncomputable def zyF98_4   (n : Nat) : Int32 → Int32 → Int32 → zy_S → Option (Int32 × zy_S) := Nat.rec (fun _ _ _ _ => none) (fun _ k4 => zyF98_4b k4) n
theorem zyC98_4 {X : zx_X}     : ∀ (n : Nat) (x1 : Int32) (x2 : Int32) (x3 : Int32) (s : zy_S) (r : Int32) (s' : zy_S), zyF98_4 n x1 x2 x3 s = some (r, s') → zyR X 2 98 4 [some (.ref (16 + 3)), some (.int x1), some (.int x2), some (.int x3)] [] s (zyE (some (.int r)) s')
  | 0, _, _, _ => by
    intro s r s'  h
    have h : (none : Option (Int32 × zy_S)) = some (r, s') := h
    cases h
  | n + 1, x1, x2, x3 => by
    intro s r s'  h
    exact zyC98_4b (k4 := zyF98_4 n) (fun x1 x2 x3 s r s'  h => zyC98_4  n x1 x2 x3 s r s'  h) h
noncomputable def zyF98   (x1 : Int32) (s : zy_S) : Option (Int32 × zy_S) :=
zyF98_4 zy_fu x1 (0 : Int32) (0 : Int32) s
theorem zyC98 {X : zx_X}     {x1 : Int32} {s : zy_S} {r : Int32} {s' : zy_S}  (h : zyF98 x1 s = some (r, s')) : zyR X 2 98 0 [some (.ref (16 + 3)), some (.int x1), none, none] [] s (zyE (some (.int r)) s') := by
  unfold zyF98 at h
  refine zy_3 rfl rfl (show zyR _ _ _ _ [some (.ref (16 + 3)), some (.int x1), none, none] [.int (0 : Int32)] _ _ from ?_)
  refine zy_23 rfl rfl (show zyR _ _ _ _ [some (.ref (16 + 3)), some (.int x1), some (.int (0 : Int32)), none] [] _ _ from ?_)
  refine zy_3 rfl rfl (show zyR _ _ _ _ [some (.ref (16 + 3)), some (.int x1), some (.int (0 : Int32)), none] [.int (0 : Int32)] _ _ from ?_)
  refine zy_23 rfl rfl (show zyR _ _ _ _ [some (.ref (16 + 3)), some (.int x1), some (.int (0 : Int32)), some (.int (0 : Int32))] [] _ _ from ?_)
  exact zy_sub (show zy_le [some (.ref (16 + 3)), some (.int x1), some (.int (0 : Int32)), some (.int (0 : Int32))] [some (.ref (16 + 3)), some (.int x1), some (.int (0 : Int32)), some (.int (0 : Int32))] from ⟨rfl, ⟨rfl, ⟨rfl, ⟨rfl, trivial⟩⟩⟩⟩) (zyC98_4 zy_fu x1 (0 : Int32) (0 : Int32) s _ _ h)
/-! NineOpinions$Votes.standingFor(II)I -/
noncomputable def zyF128   (x1 : Int32) (x2 : Int32) (s : zy_S) : Option (Int32 × zy_S) :=
(zyF95 (((4 : Int32) * x1) + x2) s).bind fun p1 =>
(zyF98 p1.1 p1.2).bind fun p2 =>
some (p2.1, p2.2)
theorem zyC128 {X : zx_X}     {x1 : Int32} {x2 : Int32} {s : zy_S} {r : Int32} {s' : zy_S}  (h : zyF128 x1 x2 s = some (r, s')) : zyR X 4 128 0 [some (.ref (16 + 3)), some (.int x1), some (.int x2)] [] s (zyE (some (.int r)) s') := by
  unfold zyF128 at h
  refine zy_0 rfl rfl (show zyR _ _ _ _ [some (.ref (16 + 3)), some (.int x1), some (.int x2)] [.ref (16 + 3)] _ _ from ?_)
  refine zy_0 rfl rfl (show zyR _ _ _ _ [some (.ref (16 + 3)), some (.int x1), some (.int x2)] [.ref (16 + 3), .ref (16 + 3)] _ _ from ?_)
  refine zy_3 rfl rfl (show zyR _ _ _ _ [some (.ref (16 + 3)), some (.int x1), some (.int x2)] [.int (4 : Int32), .ref (16 + 3), .ref (16 + 3)] _ _ from ?_)
  refine zy_2 rfl rfl (show zyR _ _ _ _ [some (.ref (16 + 3)), some (.int x1), some (.int x2)] [.int x1, .int (4 : Int32), .ref (16 + 3), .ref (16 + 3)] _ _ from ?_)
  refine zy_12 rfl (show zyR _ _ _ _ [some (.ref (16 + 3)), some (.int x1), some (.int x2)] [.int ((4 : Int32) * x1), .ref (16 + 3), .ref (16 + 3)] _ _ from ?_)
  refine zy_2 rfl rfl (show zyR _ _ _ _ [some (.ref (16 + 3)), some (.int x1), some (.int x2)] [.int x2, .int ((4 : Int32) * x1), .ref (16 + 3), .ref (16 + 3)] _ _ from ?_)
  refine zy_10 rfl (show zyR _ _ _ _ [some (.ref (16 + 3)), some (.int x1), some (.int x2)] [.int (((4 : Int32) * x1) + x2), .ref (16 + 3), .ref (16 + 3)] _ _ from ?_)
  obtain ⟨p1, hp1, h⟩ := zy_bind h
  refine zy_5 (c := 16) (as := [.int (((4 : Int32) * x1) + x2)]) (rest := [.ref (16 + 3)]) (L := [some (.ref (16 + 3)), some (.int (((4 : Int32) * x1) + x2)), none, none]) (d' := 3) rfl rfl rfl (Nat.le_of_ble_eq_true rfl) (Nat.le_of_ble_eq_true rfl) rfl (Nat.le_of_ble_eq_true rfl) rfl rfl (zyC95 hp1) ?_
  show zyR _ _ _ _ [some (.ref (16 + 3)), some (.int x1), some (.int x2)] [.int p1.1, .ref (16 + 3)] _ _
  obtain ⟨p2, hp2, h⟩ := zy_bind h
  refine zy_5 (c := 16) (as := [.int p1.1]) (rest := []) (L := [some (.ref (16 + 3)), some (.int p1.1), none, none]) (d' := 2) rfl rfl rfl (Nat.le_of_ble_eq_true rfl) (Nat.le_of_ble_eq_true rfl) rfl (Nat.le_of_ble_eq_true rfl) rfl rfl (zyC98 hp2) ?_
  show zyR _ _ _ _ [some (.ref (16 + 3)), some (.int x1), some (.int x2)] [.int p2.1] _ _
  obtain ⟨rfl, rfl⟩ := zy_pi h
  exact zy_4 rfl ⟨rfl, rfl⟩
/-! NineOpinions$Votes.commonest(I)I -/
noncomputable def zyF127_29  (k4 : Int32 → Int32 → Int32 → zy_S → Option (Int32 × zy_S)) (x1 : Int32) (x3 : Int32) (y0 : Int32) (s : zy_S) : Option (Int32 × zy_S) :=
k4 x1 y0 (x3 + (1 : Int32)) s
theorem zyC127_29 {X : zx_X}  {k4 : Int32 → Int32 → Int32 → zy_S → Option (Int32 × zy_S)}  (hk4 : ∀ (x1 : Int32) (x2 : Int32) (x3 : Int32) (s : zy_S) (r : Int32) (s' : zy_S), k4 x1 x2 x3 s = some (r, s') → zyR X 5 127 4 [some (.ref (16 + 3)), some (.int x1), some (.int x2), some (.int x3)] [] s (zyE (some (.int r)) s')) {x1 : Int32} {x3 : Int32} {y0 : Int32} {s : zy_S} {r : Int32} {s' : zy_S}  (h : zyF127_29 k4 x1 x3 y0 s = some (r, s')) : zyR X 5 127 29 [some (.ref (16 + 3)), some (.int x1), none, some (.int x3)] [.int y0] s (zyE (some (.int r)) s') := by
  unfold zyF127_29 at h
  refine zy_23 rfl rfl (show zyR _ _ _ _ [some (.ref (16 + 3)), some (.int x1), some (.int y0), some (.int x3)] [] _ _ from ?_)
  refine zy_22 rfl rfl rfl rfl (show zyR _ _ _ _ [some (.ref (16 + 3)), some (.int x1), some (.int y0), some (.int (x3 + (1 : Int32)))] [] _ _ from ?_)
  refine zy_6 rfl (show zyR _ _ _ _ [some (.ref (16 + 3)), some (.int x1), some (.int y0), some (.int (x3 + (1 : Int32)))] [] _ _ from ?_)
  exact zy_sub (show zy_le [some (.ref (16 + 3)), some (.int x1), some (.int y0), some (.int (x3 + (1 : Int32)))] [some (.ref (16 + 3)), some (.int x1), some (.int y0), some (.int (x3 + (1 : Int32)))] from ⟨rfl, ⟨rfl, ⟨rfl, ⟨rfl, trivial⟩⟩⟩⟩) (hk4 x1 y0 (x3 + (1 : Int32)) s _ _ h)
noncomputable def zyF127_4b  (k4 : Int32 → Int32 → Int32 → zy_S → Option (Int32 × zy_S)) (x1 : Int32) (x2 : Int32) (x3 : Int32) (s : zy_S) : Option (Int32 × zy_S) :=
if (4 : Int32) ≤ x3 then
some (x2, s)
else
(zyF128 x1 x3 s).bind fun p1 =>
(zyF128 x1 x2 p1.2).bind fun p2 =>
if p1.1 ≤ p2.1 then
zyF127_29 k4 x1 x3 x2 p2.2
else
zyF127_29 k4 x1 x3 x3 p2.2
theorem zyC127_4b {X : zx_X}  {k4 : Int32 → Int32 → Int32 → zy_S → Option (Int32 × zy_S)}  (hk4 : ∀ (x1 : Int32) (x2 : Int32) (x3 : Int32) (s : zy_S) (r : Int32) (s' : zy_S), k4 x1 x2 x3 s = some (r, s') → zyR X 5 127 4 [some (.ref (16 + 3)), some (.int x1), some (.int x2), some (.int x3)] [] s (zyE (some (.int r)) s')) {x1 : Int32} {x2 : Int32} {x3 : Int32} {s : zy_S} {r : Int32} {s' : zy_S}  (h : zyF127_4b k4 x1 x2 x3 s = some (r, s')) : zyR X 5 127 4 [some (.ref (16 + 3)), some (.int x1), some (.int x2), some (.int x3)] [] s (zyE (some (.int r)) s') := by
  unfold zyF127_4b at h
  refine zy_2 rfl rfl (show zyR _ _ _ _ [some (.ref (16 + 3)), some (.int x1), some (.int x2), some (.int x3)] [.int x3] _ _ from ?_)
  refine zy_3 rfl rfl (show zyR _ _ _ _ [some (.ref (16 + 3)), some (.int x1), some (.int x2), some (.int x3)] [.int (4 : Int32), .int x3] _ _ from ?_)
  refine zy_25_3 rfl (fun b4 => (show zyR _ _ _ _ [some (.ref (16 + 3)), some (.int x1), some (.int x2), some (.int x3)] [] _ _ from ?_)) (fun b4 => (show zyR _ _ _ _ [some (.ref (16 + 3)), some (.int x1), some (.int x2), some (.int x3)] [] _ _ from ?_))
  · replace h := zy_ifp h b4
    refine zy_2 rfl rfl (show zyR _ _ _ _ [some (.ref (16 + 3)), some (.int x1), some (.int x2), some (.int x3)] [.int x2] _ _ from ?_)
    obtain ⟨rfl, rfl⟩ := zy_pi h
    exact zy_4 rfl ⟨rfl, rfl⟩
  · replace h := zy_ifn h b4
    refine zy_0 rfl rfl (show zyR _ _ _ _ [some (.ref (16 + 3)), some (.int x1), some (.int x2), some (.int x3)] [.ref (16 + 3)] _ _ from ?_)
    refine zy_2 rfl rfl (show zyR _ _ _ _ [some (.ref (16 + 3)), some (.int x1), some (.int x2), some (.int x3)] [.int x1, .ref (16 + 3)] _ _ from ?_)
    refine zy_2 rfl rfl (show zyR _ _ _ _ [some (.ref (16 + 3)), some (.int x1), some (.int x2), some (.int x3)] [.int x3, .int x1, .ref (16 + 3)] _ _ from ?_)
    obtain ⟨p1, hp1, h⟩ := zy_bind h
    refine zy_5 (c := 16) (as := [.int x1, .int x3]) (rest := []) (L := [some (.ref (16 + 3)), some (.int x1), some (.int x3)]) (d' := 4) rfl rfl rfl (Nat.le_of_ble_eq_true rfl) (Nat.le_of_ble_eq_true rfl) rfl (Nat.le_of_ble_eq_true rfl) rfl rfl (zyC128 hp1) ?_
    show zyR _ _ _ _ [some (.ref (16 + 3)), some (.int x1), some (.int x2), some (.int x3)] [.int p1.1] _ _
    refine zy_0 rfl rfl (show zyR _ _ _ _ [some (.ref (16 + 3)), some (.int x1), some (.int x2), some (.int x3)] [.ref (16 + 3), .int p1.1] _ _ from ?_)
    refine zy_2 rfl rfl (show zyR _ _ _ _ [some (.ref (16 + 3)), some (.int x1), some (.int x2), some (.int x3)] [.int x1, .ref (16 + 3), .int p1.1] _ _ from ?_)
    refine zy_2 rfl rfl (show zyR _ _ _ _ [some (.ref (16 + 3)), some (.int x1), some (.int x2), some (.int x3)] [.int x2, .int x1, .ref (16 + 3), .int p1.1] _ _ from ?_)
    obtain ⟨p2, hp2, h⟩ := zy_bind h
    refine zy_5 (c := 16) (as := [.int x1, .int x2]) (rest := [.int p1.1]) (L := [some (.ref (16 + 3)), some (.int x1), some (.int x2)]) (d' := 4) rfl rfl rfl (Nat.le_of_ble_eq_true rfl) (Nat.le_of_ble_eq_true rfl) rfl (Nat.le_of_ble_eq_true rfl) rfl rfl (zyC128 hp2) ?_
    show zyR _ _ _ _ [some (.ref (16 + 3)), some (.int x1), some (.int x2), some (.int x3)] [.int p2.1, .int p1.1] _ _
    refine zy_25_5 rfl (fun b3 => (show zyR _ _ _ _ [some (.ref (16 + 3)), some (.int x1), some (.int x2), some (.int x3)] [] _ _ from ?_)) (fun b3 => (show zyR _ _ _ _ [some (.ref (16 + 3)), some (.int x1), some (.int x2), some (.int x3)] [] _ _ from ?_))
    · replace h := zy_ifp h b3
      refine zy_2 rfl rfl (show zyR _ _ _ _ [some (.ref (16 + 3)), some (.int x1), some (.int x2), some (.int x3)] [.int x2] _ _ from ?_)
      exact zy_sub (show zy_le [some (.ref (16 + 3)), some (.int x1), none, some (.int x3)] [some (.ref (16 + 3)), some (.int x1), some (.int x2), some (.int x3)] from ⟨rfl, ⟨rfl, ⟨rfl, trivial⟩⟩⟩) (zyC127_29 hk4 h)
    · replace h := zy_ifn h b3
      refine zy_2 rfl rfl (show zyR _ _ _ _ [some (.ref (16 + 3)), some (.int x1), some (.int x2), some (.int x3)] [.int x3] _ _ from ?_)
      refine zy_6 rfl (show zyR _ _ _ _ [some (.ref (16 + 3)), some (.int x1), some (.int x2), some (.int x3)] [.int x3] _ _ from ?_)
      exact zy_sub (show zy_le [some (.ref (16 + 3)), some (.int x1), none, some (.int x3)] [some (.ref (16 + 3)), some (.int x1), some (.int x2), some (.int x3)] from ⟨rfl, ⟨rfl, ⟨rfl, trivial⟩⟩⟩) (zyC127_29 hk4 h)
noncomputable def zyF127_4   (n : Nat) : Int32 → Int32 → Int32 → zy_S → Option (Int32 × zy_S) := Nat.rec (fun _ _ _ _ => none) (fun _ k4 => zyF127_4b k4) n
theorem zyC127_4 {X : zx_X}     : ∀ (n : Nat) (x1 : Int32) (x2 : Int32) (x3 : Int32) (s : zy_S) (r : Int32) (s' : zy_S), zyF127_4 n x1 x2 x3 s = some (r, s') → zyR X 5 127 4 [some (.ref (16 + 3)), some (.int x1), some (.int x2), some (.int x3)] [] s (zyE (some (.int r)) s')
  | 0, _, _, _ => by
    intro s r s'  h
    have h : (none : Option (Int32 × zy_S)) = some (r, s') := h
    cases h
  | n + 1, x1, x2, x3 => by
    intro s r s'  h
    exact zyC127_4b (k4 := zyF127_4 n) (fun x1 x2 x3 s r s'  h => zyC127_4  n x1 x2 x3 s r s'  h) h
noncomputable def zyF127   (x1 : Int32) (s : zy_S) : Option (Int32 × zy_S) :=
zyF127_4 zy_fu x1 (0 : Int32) (1 : Int32) s
theorem zyC127 {X : zx_X}     {x1 : Int32} {s : zy_S} {r : Int32} {s' : zy_S}  (h : zyF127 x1 s = some (r, s')) : zyR X 5 127 0 [some (.ref (16 + 3)), some (.int x1), none, none] [] s (zyE (some (.int r)) s') := by
  unfold zyF127 at h
  refine zy_3 rfl rfl (show zyR _ _ _ _ [some (.ref (16 + 3)), some (.int x1), none, none] [.int (0 : Int32)] _ _ from ?_)
  refine zy_23 rfl rfl (show zyR _ _ _ _ [some (.ref (16 + 3)), some (.int x1), some (.int (0 : Int32)), none] [] _ _ from ?_)
  refine zy_3 rfl rfl (show zyR _ _ _ _ [some (.ref (16 + 3)), some (.int x1), some (.int (0 : Int32)), none] [.int (1 : Int32)] _ _ from ?_)
  refine zy_23 rfl rfl (show zyR _ _ _ _ [some (.ref (16 + 3)), some (.int x1), some (.int (0 : Int32)), some (.int (1 : Int32))] [] _ _ from ?_)
  exact zy_sub (show zy_le [some (.ref (16 + 3)), some (.int x1), some (.int (0 : Int32)), some (.int (1 : Int32))] [some (.ref (16 + 3)), some (.int x1), some (.int (0 : Int32)), some (.int (1 : Int32))] from ⟨rfl, ⟨rfl, ⟨rfl, ⟨rfl, trivial⟩⟩⟩⟩) (zyC127_4 zy_fu x1 (0 : Int32) (1 : Int32) s _ _ h)
/-! NineOpinions$Votes.mostUnlike()I -/
noncomputable def zyF126_40  (k4 : Int32 → Int32 → zy_S → Option (Int32 × zy_S)) (x2 : Int32) (y0 : Int32) (s : zy_S) : Option (Int32 × zy_S) :=
k4 y0 (x2 + (1 : Int32)) s
theorem zyC126_40 {X : zx_X}  {k4 : Int32 → Int32 → zy_S → Option (Int32 × zy_S)}  (hk4 : ∀ (x1 : Int32) (x2 : Int32) (s : zy_S) (r : Int32) (s' : zy_S), k4 x1 x2 s = some (r, s') → zyR X 6 126 4 [some (.ref (16 + 3)), some (.int x1), some (.int x2), none] [] s (zyE (some (.int r)) s')) {x2 : Int32} {y0 : Int32} {s : zy_S} {r : Int32} {s' : zy_S}  (h : zyF126_40 k4 x2 y0 s = some (r, s')) : zyR X 6 126 40 [some (.ref (16 + 3)), none, some (.int x2), none] [.int y0] s (zyE (some (.int r)) s') := by
  unfold zyF126_40 at h
  refine zy_23 rfl rfl (show zyR _ _ _ _ [some (.ref (16 + 3)), some (.int y0), some (.int x2), none] [] _ _ from ?_)
  refine zy_22 rfl rfl rfl rfl (show zyR _ _ _ _ [some (.ref (16 + 3)), some (.int y0), some (.int (x2 + (1 : Int32))), none] [] _ _ from ?_)
  refine zy_6 rfl (show zyR _ _ _ _ [some (.ref (16 + 3)), some (.int y0), some (.int (x2 + (1 : Int32))), none] [] _ _ from ?_)
  exact zy_sub (show zy_le [some (.ref (16 + 3)), some (.int y0), some (.int (x2 + (1 : Int32))), none] [some (.ref (16 + 3)), some (.int y0), some (.int (x2 + (1 : Int32))), none] from ⟨rfl, ⟨rfl, ⟨rfl, trivial⟩⟩⟩) (hk4 y0 (x2 + (1 : Int32)) s _ _ h)
noncomputable def zyF126_4b  (k4 : Int32 → Int32 → zy_S → Option (Int32 × zy_S)) (x1 : Int32) (x2 : Int32) (s : zy_S) : Option (Int32 × zy_S) :=
if (6 : Int32) ≤ x2 then
some (x1, s)
else
(zyF127 x2 s).bind fun p1 =>
(zyF128 x2 p1.1 p1.2).bind fun p2 =>
(zyF127 x1 p2.2).bind fun p3 =>
(zyF128 x1 p3.1 p3.2).bind fun p4 =>
if p4.1 ≤ p2.1 then
zyF126_40 k4 x2 x1 p4.2
else
zyF126_40 k4 x2 x2 p4.2
theorem zyC126_4b {X : zx_X}  {k4 : Int32 → Int32 → zy_S → Option (Int32 × zy_S)}  (hk4 : ∀ (x1 : Int32) (x2 : Int32) (s : zy_S) (r : Int32) (s' : zy_S), k4 x1 x2 s = some (r, s') → zyR X 6 126 4 [some (.ref (16 + 3)), some (.int x1), some (.int x2), none] [] s (zyE (some (.int r)) s')) {x1 : Int32} {x2 : Int32} {s : zy_S} {r : Int32} {s' : zy_S}  (h : zyF126_4b k4 x1 x2 s = some (r, s')) : zyR X 6 126 4 [some (.ref (16 + 3)), some (.int x1), some (.int x2), none] [] s (zyE (some (.int r)) s') := by
  unfold zyF126_4b at h
  refine zy_2 rfl rfl (show zyR _ _ _ _ [some (.ref (16 + 3)), some (.int x1), some (.int x2), none] [.int x2] _ _ from ?_)
  refine zy_3 rfl rfl (show zyR _ _ _ _ [some (.ref (16 + 3)), some (.int x1), some (.int x2), none] [.int (6 : Int32), .int x2] _ _ from ?_)
  refine zy_25_3 rfl (fun b6 => (show zyR _ _ _ _ [some (.ref (16 + 3)), some (.int x1), some (.int x2), none] [] _ _ from ?_)) (fun b6 => (show zyR _ _ _ _ [some (.ref (16 + 3)), some (.int x1), some (.int x2), none] [] _ _ from ?_))
  · replace h := zy_ifp h b6
    refine zy_2 rfl rfl (show zyR _ _ _ _ [some (.ref (16 + 3)), some (.int x1), some (.int x2), none] [.int x1] _ _ from ?_)
    obtain ⟨rfl, rfl⟩ := zy_pi h
    exact zy_4 rfl ⟨rfl, rfl⟩
  · replace h := zy_ifn h b6
    refine zy_0 rfl rfl (show zyR _ _ _ _ [some (.ref (16 + 3)), some (.int x1), some (.int x2), none] [.ref (16 + 3)] _ _ from ?_)
    refine zy_2 rfl rfl (show zyR _ _ _ _ [some (.ref (16 + 3)), some (.int x1), some (.int x2), none] [.int x2, .ref (16 + 3)] _ _ from ?_)
    refine zy_0 rfl rfl (show zyR _ _ _ _ [some (.ref (16 + 3)), some (.int x1), some (.int x2), none] [.ref (16 + 3), .int x2, .ref (16 + 3)] _ _ from ?_)
    refine zy_2 rfl rfl (show zyR _ _ _ _ [some (.ref (16 + 3)), some (.int x1), some (.int x2), none] [.int x2, .ref (16 + 3), .int x2, .ref (16 + 3)] _ _ from ?_)
    obtain ⟨p1, hp1, h⟩ := zy_bind h
    refine zy_5 (c := 16) (as := [.int x2]) (rest := [.int x2, .ref (16 + 3)]) (L := [some (.ref (16 + 3)), some (.int x2), none, none]) (d' := 5) rfl rfl rfl (Nat.le_of_ble_eq_true rfl) (Nat.le_of_ble_eq_true rfl) rfl (Nat.le_of_ble_eq_true rfl) rfl rfl (zyC127 hp1) ?_
    show zyR _ _ _ _ [some (.ref (16 + 3)), some (.int x1), some (.int x2), none] [.int p1.1, .int x2, .ref (16 + 3)] _ _
    obtain ⟨p2, hp2, h⟩ := zy_bind h
    refine zy_5 (c := 16) (as := [.int x2, .int p1.1]) (rest := []) (L := [some (.ref (16 + 3)), some (.int x2), some (.int p1.1)]) (d' := 4) rfl rfl rfl (Nat.le_of_ble_eq_true rfl) (Nat.le_of_ble_eq_true rfl) rfl (Nat.le_of_ble_eq_true rfl) rfl rfl (zyC128 hp2) ?_
    show zyR _ _ _ _ [some (.ref (16 + 3)), some (.int x1), some (.int x2), none] [.int p2.1] _ _
    refine zy_23 rfl rfl (show zyR _ _ _ _ [some (.ref (16 + 3)), some (.int x1), some (.int x2), some (.int p2.1)] [] _ _ from ?_)
    refine zy_2 rfl rfl (show zyR _ _ _ _ [some (.ref (16 + 3)), some (.int x1), some (.int x2), some (.int p2.1)] [.int p2.1] _ _ from ?_)
    refine zy_0 rfl rfl (show zyR _ _ _ _ [some (.ref (16 + 3)), some (.int x1), some (.int x2), some (.int p2.1)] [.ref (16 + 3), .int p2.1] _ _ from ?_)
    refine zy_2 rfl rfl (show zyR _ _ _ _ [some (.ref (16 + 3)), some (.int x1), some (.int x2), some (.int p2.1)] [.int x1, .ref (16 + 3), .int p2.1] _ _ from ?_)
    refine zy_0 rfl rfl (show zyR _ _ _ _ [some (.ref (16 + 3)), some (.int x1), some (.int x2), some (.int p2.1)] [.ref (16 + 3), .int x1, .ref (16 + 3), .int p2.1] _ _ from ?_)
    refine zy_2 rfl rfl (show zyR _ _ _ _ [some (.ref (16 + 3)), some (.int x1), some (.int x2), some (.int p2.1)] [.int x1, .ref (16 + 3), .int x1, .ref (16 + 3), .int p2.1] _ _ from ?_)
    obtain ⟨p3, hp3, h⟩ := zy_bind h
    refine zy_5 (c := 16) (as := [.int x1]) (rest := [.int x1, .ref (16 + 3), .int p2.1]) (L := [some (.ref (16 + 3)), some (.int x1), none, none]) (d' := 5) rfl rfl rfl (Nat.le_of_ble_eq_true rfl) (Nat.le_of_ble_eq_true rfl) rfl (Nat.le_of_ble_eq_true rfl) rfl rfl (zyC127 hp3) ?_
    show zyR _ _ _ _ [some (.ref (16 + 3)), some (.int x1), some (.int x2), some (.int p2.1)] [.int p3.1, .int x1, .ref (16 + 3), .int p2.1] _ _
    obtain ⟨p4, hp4, h⟩ := zy_bind h
    refine zy_5 (c := 16) (as := [.int x1, .int p3.1]) (rest := [.int p2.1]) (L := [some (.ref (16 + 3)), some (.int x1), some (.int p3.1)]) (d' := 4) rfl rfl rfl (Nat.le_of_ble_eq_true rfl) (Nat.le_of_ble_eq_true rfl) rfl (Nat.le_of_ble_eq_true rfl) rfl rfl (zyC128 hp4) ?_
    show zyR _ _ _ _ [some (.ref (16 + 3)), some (.int x1), some (.int x2), some (.int p2.1)] [.int p4.1, .int p2.1] _ _
    refine zy_25_3 rfl (fun b5 => (show zyR _ _ _ _ [some (.ref (16 + 3)), some (.int x1), some (.int x2), some (.int p2.1)] [] _ _ from ?_)) (fun b5 => (show zyR _ _ _ _ [some (.ref (16 + 3)), some (.int x1), some (.int x2), some (.int p2.1)] [] _ _ from ?_))
    · replace h := zy_ifp h b5
      refine zy_2 rfl rfl (show zyR _ _ _ _ [some (.ref (16 + 3)), some (.int x1), some (.int x2), some (.int p2.1)] [.int x1] _ _ from ?_)
      exact zy_sub (show zy_le [some (.ref (16 + 3)), none, some (.int x2), none] [some (.ref (16 + 3)), some (.int x1), some (.int x2), some (.int p2.1)] from ⟨rfl, ⟨rfl, trivial⟩⟩) (zyC126_40 hk4 h)
    · replace h := zy_ifn h b5
      refine zy_2 rfl rfl (show zyR _ _ _ _ [some (.ref (16 + 3)), some (.int x1), some (.int x2), some (.int p2.1)] [.int x2] _ _ from ?_)
      refine zy_6 rfl (show zyR _ _ _ _ [some (.ref (16 + 3)), some (.int x1), some (.int x2), some (.int p2.1)] [.int x2] _ _ from ?_)
      exact zy_sub (show zy_le [some (.ref (16 + 3)), none, some (.int x2), none] [some (.ref (16 + 3)), some (.int x1), some (.int x2), some (.int p2.1)] from ⟨rfl, ⟨rfl, trivial⟩⟩) (zyC126_40 hk4 h)
noncomputable def zyF126_4   (n : Nat) : Int32 → Int32 → zy_S → Option (Int32 × zy_S) := Nat.rec (fun _ _ _ => none) (fun _ k4 => zyF126_4b k4) n
theorem zyC126_4 {X : zx_X}     : ∀ (n : Nat) (x1 : Int32) (x2 : Int32) (s : zy_S) (r : Int32) (s' : zy_S), zyF126_4 n x1 x2 s = some (r, s') → zyR X 6 126 4 [some (.ref (16 + 3)), some (.int x1), some (.int x2), none] [] s (zyE (some (.int r)) s')
  | 0, _, _ => by
    intro s r s'  h
    have h : (none : Option (Int32 × zy_S)) = some (r, s') := h
    cases h
  | n + 1, x1, x2 => by
    intro s r s'  h
    exact zyC126_4b (k4 := zyF126_4 n) (fun x1 x2 s r s'  h => zyC126_4  n x1 x2 s r s'  h) h
noncomputable def zyF126    (s : zy_S) : Option (Int32 × zy_S) :=
zyF126_4 zy_fu (0 : Int32) (1 : Int32) s
theorem zyC126 {X : zx_X}      {s : zy_S} {r : Int32} {s' : zy_S}  (h : zyF126 s = some (r, s')) : zyR X 6 126 0 [some (.ref (16 + 3)), none, none, none] [] s (zyE (some (.int r)) s') := by
  unfold zyF126 at h
  refine zy_3 rfl rfl (show zyR _ _ _ _ [some (.ref (16 + 3)), none, none, none] [.int (0 : Int32)] _ _ from ?_)
  refine zy_23 rfl rfl (show zyR _ _ _ _ [some (.ref (16 + 3)), some (.int (0 : Int32)), none, none] [] _ _ from ?_)
  refine zy_3 rfl rfl (show zyR _ _ _ _ [some (.ref (16 + 3)), some (.int (0 : Int32)), none, none] [.int (1 : Int32)] _ _ from ?_)
  refine zy_23 rfl rfl (show zyR _ _ _ _ [some (.ref (16 + 3)), some (.int (0 : Int32)), some (.int (1 : Int32)), none] [] _ _ from ?_)
  exact zy_sub (show zy_le [some (.ref (16 + 3)), some (.int (0 : Int32)), some (.int (1 : Int32)), none] [some (.ref (16 + 3)), some (.int (0 : Int32)), some (.int (1 : Int32)), none] from ⟨rfl, ⟨rfl, ⟨rfl, trivial⟩⟩⟩) (zyC126_4 zy_fu (0 : Int32) (1 : Int32) s _ _ h)
end
section
/-! PART 41.16: methods as functions. Made by wip/v4/dcp.py. -/
/-! NineOpinions.split(I)I -/
noncomputable def zyF125   (x1 : Int32) (s : zy_S) : Option (Int32 × zy_S) :=
(zyF84 x1 s).bind fun p1 =>
if p1.1 ≠ 0 then
(zyF126 p1.2).bind fun p2 =>
if x1 ≠ 0 then
(zyF127 p2.1 p2.2).bind fun p3 =>
some (p3.1, p3.2)
else
some (p2.1, p2.2)
else
some ((-1 : Int32), p1.2)
theorem zyC125 {X : zx_X}     {x1 : Int32} {s : zy_S} {r : Int32} {s' : zy_S}  (h : zyF125 x1 s = some (r, s')) : zyR X 7 125 0 [some (.ref (0 + 3)), some (.int x1), none] [] s (zyE (some (.int r)) s') := by
  unfold zyF125 at h
  refine zy_2 rfl rfl (show zyR _ _ _ _ [some (.ref (0 + 3)), some (.int x1), none] [.int x1] _ _ from ?_)
  obtain ⟨p1, hp1, h⟩ := zy_bind h
  refine zy_60 (as := [.int x1]) (rest := []) (L := [some (.int x1)]) (d' := 1) rfl rfl (Nat.le_of_ble_eq_true rfl) (Nat.le_of_ble_eq_true rfl) rfl (Nat.le_of_ble_eq_true rfl) rfl rfl (zyC84 hp1) ?_
  show zyR _ _ _ _ [some (.ref (0 + 3)), some (.int x1), none] [.int p1.1] _ _
  refine zy_24_1 rfl (fun b5 => (show zyR _ _ _ _ [some (.ref (0 + 3)), some (.int x1), none] [] _ _ from ?_)) (fun b5 => (show zyR _ _ _ _ [some (.ref (0 + 3)), some (.int x1), none] [] _ _ from ?_))
  · replace h := zy_ifp h b5
    refine zy_0 rfl rfl (show zyR _ _ _ _ [some (.ref (0 + 3)), some (.int x1), none] [.ref (0 + 3)] _ _ from ?_)
    refine zy_1r (c := 0) rfl rfl rfl (show zyR _ _ _ _ [some (.ref (0 + 3)), some (.int x1), none] [.ref (16 + 3)] _ _ from ?_)
    obtain ⟨p2, hp2, h⟩ := zy_bind h
    refine zy_5 (c := 16) (as := []) (rest := []) (L := [some (.ref (16 + 3)), none, none, none]) (d' := 6) rfl rfl rfl (Nat.le_of_ble_eq_true rfl) (Nat.le_of_ble_eq_true rfl) rfl (Nat.le_of_ble_eq_true rfl) rfl rfl (zyC126 hp2) ?_
    show zyR _ _ _ _ [some (.ref (0 + 3)), some (.int x1), none] [.int p2.1] _ _
    refine zy_23 rfl rfl (show zyR _ _ _ _ [some (.ref (0 + 3)), some (.int x1), some (.int p2.1)] [] _ _ from ?_)
    refine zy_2 rfl rfl (show zyR _ _ _ _ [some (.ref (0 + 3)), some (.int x1), some (.int p2.1)] [.int x1] _ _ from ?_)
    refine zy_24_1 rfl (fun b4 => (show zyR _ _ _ _ [some (.ref (0 + 3)), some (.int x1), some (.int p2.1)] [] _ _ from ?_)) (fun b4 => (show zyR _ _ _ _ [some (.ref (0 + 3)), some (.int x1), some (.int p2.1)] [] _ _ from ?_))
    · replace h := zy_ifp h b4
      refine zy_0 rfl rfl (show zyR _ _ _ _ [some (.ref (0 + 3)), some (.int x1), some (.int p2.1)] [.ref (0 + 3)] _ _ from ?_)
      refine zy_1r (c := 0) rfl rfl rfl (show zyR _ _ _ _ [some (.ref (0 + 3)), some (.int x1), some (.int p2.1)] [.ref (16 + 3)] _ _ from ?_)
      refine zy_2 rfl rfl (show zyR _ _ _ _ [some (.ref (0 + 3)), some (.int x1), some (.int p2.1)] [.int p2.1, .ref (16 + 3)] _ _ from ?_)
      obtain ⟨p3, hp3, h⟩ := zy_bind h
      refine zy_5 (c := 16) (as := [.int p2.1]) (rest := []) (L := [some (.ref (16 + 3)), some (.int p2.1), none, none]) (d' := 5) rfl rfl rfl (Nat.le_of_ble_eq_true rfl) (Nat.le_of_ble_eq_true rfl) rfl (Nat.le_of_ble_eq_true rfl) rfl rfl (zyC127 hp3) ?_
      show zyR _ _ _ _ [some (.ref (0 + 3)), some (.int x1), some (.int p2.1)] [.int p3.1] _ _
      obtain ⟨rfl, rfl⟩ := zy_pi h
      exact zy_4 rfl ⟨rfl, rfl⟩
    · replace h := zy_ifn h b4
      refine zy_2 rfl rfl (show zyR _ _ _ _ [some (.ref (0 + 3)), some (.int x1), some (.int p2.1)] [.int p2.1] _ _ from ?_)
      refine zy_6 rfl (show zyR _ _ _ _ [some (.ref (0 + 3)), some (.int x1), some (.int p2.1)] [.int p2.1] _ _ from ?_)
      obtain ⟨rfl, rfl⟩ := zy_pi h
      exact zy_4 rfl ⟨rfl, rfl⟩
  · replace h := zy_ifn h b5
    refine zy_3 rfl rfl (show zyR _ _ _ _ [some (.ref (0 + 3)), some (.int x1), none] [.int (-1 : Int32)] _ _ from ?_)
    obtain ⟨rfl, rfl⟩ := zy_pi h
    exact zy_4 rfl ⟨rfl, rfl⟩
/-! NineOpinionsModel.standingWith(I)I -/
noncomputable def zyF238_35  (k4 : Int32 → Int32 → Int32 → zy_S → Option (Int32 × zy_S)) (x1 : Int32) (x3 : Int32) (y0 : Int32) (y1 : Int32) (s : zy_S) : Option (Int32 × zy_S) :=
k4 x1 (y1 + y0) (x3 + (1 : Int32)) s
theorem zyC238_35 {X : zx_X}  {k4 : Int32 → Int32 → Int32 → zy_S → Option (Int32 × zy_S)}  (hk4 : ∀ (x1 : Int32) (x2 : Int32) (x3 : Int32) (s : zy_S) (r : Int32) (s' : zy_S), k4 x1 x2 x3 s = some (r, s') → zyR X 4 238 4 [some (.ref (43 + 3)), some (.int x1), some (.int x2), some (.int x3)] [] s (zyE (some (.int r)) s')) {x1 : Int32} {x3 : Int32} {y0 : Int32} {y1 : Int32} {s : zy_S} {r : Int32} {s' : zy_S}  (h : zyF238_35 k4 x1 x3 y0 y1 s = some (r, s')) : zyR X 4 238 35 [some (.ref (43 + 3)), some (.int x1), none, some (.int x3)] [.int y0, .int y1] s (zyE (some (.int r)) s') := by
  unfold zyF238_35 at h
  refine zy_10 rfl (show zyR _ _ _ _ [some (.ref (43 + 3)), some (.int x1), none, some (.int x3)] [.int (y1 + y0)] _ _ from ?_)
  refine zy_23 rfl rfl (show zyR _ _ _ _ [some (.ref (43 + 3)), some (.int x1), some (.int (y1 + y0)), some (.int x3)] [] _ _ from ?_)
  refine zy_22 rfl rfl rfl rfl (show zyR _ _ _ _ [some (.ref (43 + 3)), some (.int x1), some (.int (y1 + y0)), some (.int (x3 + (1 : Int32)))] [] _ _ from ?_)
  refine zy_6 rfl (show zyR _ _ _ _ [some (.ref (43 + 3)), some (.int x1), some (.int (y1 + y0)), some (.int (x3 + (1 : Int32)))] [] _ _ from ?_)
  exact zy_sub (show zy_le [some (.ref (43 + 3)), some (.int x1), some (.int (y1 + y0)), some (.int (x3 + (1 : Int32)))] [some (.ref (43 + 3)), some (.int x1), some (.int (y1 + y0)), some (.int (x3 + (1 : Int32)))] from ⟨rfl, ⟨rfl, ⟨rfl, ⟨rfl, trivial⟩⟩⟩⟩) (hk4 x1 (y1 + y0) (x3 + (1 : Int32)) s _ _ h)
noncomputable def zyF238_4b  (k4 : Int32 → Int32 → Int32 → zy_S → Option (Int32 × zy_S)) (x1 : Int32) (x2 : Int32) (x3 : Int32) (s : zy_S) : Option (Int32 × zy_S) :=
if (s.1 43 6) ≤ x3 then
some (x2, s)
else
(zyF222 x3 x1 s).bind fun p1 =>
if p1.1 = 0 then
zyF238_35 k4 x1 x3 (0 : Int32) x2 p1.2
else
if zy_in ((8 : Int32) + x3) 41 then
zyF238_35 k4 x1 x3 (p1.2.1 44 (((8 : Int32) + x3)).toNatClampNeg) x2 p1.2
else none
theorem zyC238_4b {X : zx_X}  {k4 : Int32 → Int32 → Int32 → zy_S → Option (Int32 × zy_S)}  (hk4 : ∀ (x1 : Int32) (x2 : Int32) (x3 : Int32) (s : zy_S) (r : Int32) (s' : zy_S), k4 x1 x2 x3 s = some (r, s') → zyR X 4 238 4 [some (.ref (43 + 3)), some (.int x1), some (.int x2), some (.int x3)] [] s (zyE (some (.int r)) s')) {x1 : Int32} {x2 : Int32} {x3 : Int32} {s : zy_S} {r : Int32} {s' : zy_S}  (h : zyF238_4b k4 x1 x2 x3 s = some (r, s')) : zyR X 4 238 4 [some (.ref (43 + 3)), some (.int x1), some (.int x2), some (.int x3)] [] s (zyE (some (.int r)) s') := by
  unfold zyF238_4b at h
  refine zy_2 rfl rfl (show zyR _ _ _ _ [some (.ref (43 + 3)), some (.int x1), some (.int x2), some (.int x3)] [.int x3] _ _ from ?_)
  refine zy_0 rfl rfl (show zyR _ _ _ _ [some (.ref (43 + 3)), some (.int x1), some (.int x2), some (.int x3)] [.ref (43 + 3), .int x3] _ _ from ?_)
  refine zy_1 (c := 43) rfl rfl rfl (show zyR _ _ _ _ [some (.ref (43 + 3)), some (.int x1), some (.int x2), some (.int x3)] [.int (s.1 43 6), .int x3] _ _ from ?_)
  refine zy_25_3 rfl (fun b4 => (show zyR _ _ _ _ [some (.ref (43 + 3)), some (.int x1), some (.int x2), some (.int x3)] [] _ _ from ?_)) (fun b4 => (show zyR _ _ _ _ [some (.ref (43 + 3)), some (.int x1), some (.int x2), some (.int x3)] [] _ _ from ?_))
  · replace h := zy_ifp h b4
    refine zy_2 rfl rfl (show zyR _ _ _ _ [some (.ref (43 + 3)), some (.int x1), some (.int x2), some (.int x3)] [.int x2] _ _ from ?_)
    obtain ⟨rfl, rfl⟩ := zy_pi h
    exact zy_4 rfl ⟨rfl, rfl⟩
  · replace h := zy_ifn h b4
    refine zy_2 rfl rfl (show zyR _ _ _ _ [some (.ref (43 + 3)), some (.int x1), some (.int x2), some (.int x3)] [.int x2] _ _ from ?_)
    refine zy_0 rfl rfl (show zyR _ _ _ _ [some (.ref (43 + 3)), some (.int x1), some (.int x2), some (.int x3)] [.ref (43 + 3), .int x2] _ _ from ?_)
    refine zy_2 rfl rfl (show zyR _ _ _ _ [some (.ref (43 + 3)), some (.int x1), some (.int x2), some (.int x3)] [.int x3, .ref (43 + 3), .int x2] _ _ from ?_)
    refine zy_2 rfl rfl (show zyR _ _ _ _ [some (.ref (43 + 3)), some (.int x1), some (.int x2), some (.int x3)] [.int x1, .int x3, .ref (43 + 3), .int x2] _ _ from ?_)
    obtain ⟨p1, hp1, h⟩ := zy_bind h
    refine zy_5 (c := 43) (as := [.int x3, .int x1]) (rest := [.int x2]) (L := [some (.ref (43 + 3)), some (.int x3), some (.int x1)]) (d' := 3) rfl rfl rfl (Nat.le_of_ble_eq_true rfl) (Nat.le_of_ble_eq_true rfl) rfl (Nat.le_of_ble_eq_true rfl) rfl rfl (zyC222 hp1) ?_
    show zyR _ _ _ _ [some (.ref (43 + 3)), some (.int x1), some (.int x2), some (.int x3)] [.int p1.1, .int x2] _ _
    refine zy_24_0 rfl (fun b3 => (show zyR _ _ _ _ [some (.ref (43 + 3)), some (.int x1), some (.int x2), some (.int x3)] [.int x2] _ _ from ?_)) (fun b3 => (show zyR _ _ _ _ [some (.ref (43 + 3)), some (.int x1), some (.int x2), some (.int x3)] [.int x2] _ _ from ?_))
    · replace h := zy_ifp h b3
      refine zy_3 rfl rfl (show zyR _ _ _ _ [some (.ref (43 + 3)), some (.int x1), some (.int x2), some (.int x3)] [.int (0 : Int32), .int x2] _ _ from ?_)
      exact zy_sub (show zy_le [some (.ref (43 + 3)), some (.int x1), none, some (.int x3)] [some (.ref (43 + 3)), some (.int x1), some (.int x2), some (.int x3)] from ⟨rfl, ⟨rfl, ⟨rfl, trivial⟩⟩⟩) (zyC238_35 hk4 h)
    · replace h := zy_ifn h b3
      refine zy_0 rfl rfl (show zyR _ _ _ _ [some (.ref (43 + 3)), some (.int x1), some (.int x2), some (.int x3)] [.ref (43 + 3), .int x2] _ _ from ?_)
      refine zy_1r (c := 43) rfl rfl rfl (show zyR _ _ _ _ [some (.ref (43 + 3)), some (.int x1), some (.int x2), some (.int x3)] [.ref (44 + 3), .int x2] _ _ from ?_)
      refine zy_3 rfl rfl (show zyR _ _ _ _ [some (.ref (43 + 3)), some (.int x1), some (.int x2), some (.int x3)] [.int (8 : Int32), .ref (44 + 3), .int x2] _ _ from ?_)
      refine zy_2 rfl rfl (show zyR _ _ _ _ [some (.ref (43 + 3)), some (.int x1), some (.int x2), some (.int x3)] [.int x3, .int (8 : Int32), .ref (44 + 3), .int x2] _ _ from ?_)
      refine zy_10 rfl (show zyR _ _ _ _ [some (.ref (43 + 3)), some (.int x1), some (.int x2), some (.int x3)] [.int ((8 : Int32) + x3), .ref (44 + 3), .int x2] _ _ from ?_)
      obtain ⟨c2, h⟩ := zy_if h
      refine zy_26 (c := 44) rfl rfl c2 (show zyR _ _ _ _ [some (.ref (43 + 3)), some (.int x1), some (.int x2), some (.int x3)] [.int (p1.2.1 44 (((8 : Int32) + x3)).toNatClampNeg), .int x2] _ _ from ?_)
      refine zy_6 rfl (show zyR _ _ _ _ [some (.ref (43 + 3)), some (.int x1), some (.int x2), some (.int x3)] [.int (p1.2.1 44 (((8 : Int32) + x3)).toNatClampNeg), .int x2] _ _ from ?_)
      exact zy_sub (show zy_le [some (.ref (43 + 3)), some (.int x1), none, some (.int x3)] [some (.ref (43 + 3)), some (.int x1), some (.int x2), some (.int x3)] from ⟨rfl, ⟨rfl, ⟨rfl, trivial⟩⟩⟩) (zyC238_35 hk4 h)
noncomputable def zyF238_4   (n : Nat) : Int32 → Int32 → Int32 → zy_S → Option (Int32 × zy_S) := Nat.rec (fun _ _ _ _ => none) (fun _ k4 => zyF238_4b k4) n
theorem zyC238_4 {X : zx_X}     : ∀ (n : Nat) (x1 : Int32) (x2 : Int32) (x3 : Int32) (s : zy_S) (r : Int32) (s' : zy_S), zyF238_4 n x1 x2 x3 s = some (r, s') → zyR X 4 238 4 [some (.ref (43 + 3)), some (.int x1), some (.int x2), some (.int x3)] [] s (zyE (some (.int r)) s')
  | 0, _, _, _ => by
    intro s r s'  h
    have h : (none : Option (Int32 × zy_S)) = some (r, s') := h
    cases h
  | n + 1, x1, x2, x3 => by
    intro s r s'  h
    exact zyC238_4b (k4 := zyF238_4 n) (fun x1 x2 x3 s r s'  h => zyC238_4  n x1 x2 x3 s r s'  h) h
noncomputable def zyF238   (x1 : Int32) (s : zy_S) : Option (Int32 × zy_S) :=
zyF238_4 zy_fu x1 (0 : Int32) (0 : Int32) s
theorem zyC238 {X : zx_X}     {x1 : Int32} {s : zy_S} {r : Int32} {s' : zy_S}  (h : zyF238 x1 s = some (r, s')) : zyR X 4 238 0 [some (.ref (43 + 3)), some (.int x1), none, none] [] s (zyE (some (.int r)) s') := by
  unfold zyF238 at h
  refine zy_3 rfl rfl (show zyR _ _ _ _ [some (.ref (43 + 3)), some (.int x1), none, none] [.int (0 : Int32)] _ _ from ?_)
  refine zy_23 rfl rfl (show zyR _ _ _ _ [some (.ref (43 + 3)), some (.int x1), some (.int (0 : Int32)), none] [] _ _ from ?_)
  refine zy_3 rfl rfl (show zyR _ _ _ _ [some (.ref (43 + 3)), some (.int x1), some (.int (0 : Int32)), none] [.int (0 : Int32)] _ _ from ?_)
  refine zy_23 rfl rfl (show zyR _ _ _ _ [some (.ref (43 + 3)), some (.int x1), some (.int (0 : Int32)), some (.int (0 : Int32))] [] _ _ from ?_)
  exact zy_sub (show zy_le [some (.ref (43 + 3)), some (.int x1), some (.int (0 : Int32)), some (.int (0 : Int32))] [some (.ref (43 + 3)), some (.int x1), some (.int (0 : Int32)), some (.int (0 : Int32))] from ⟨rfl, ⟨rfl, ⟨rfl, ⟨rfl, trivial⟩⟩⟩⟩) (zyC238_4 zy_fu x1 (0 : Int32) (0 : Int32) s _ _ h)
/-! NineOpinionsModel.split(I)I -/
noncomputable def zyF237_117  (k23 : Int32 → Int32 → Int32 → Int32 → Int32 → zy_S → Option (Int32 × zy_S)) (x1 : Int32) (x2 : Int32) (x3 : Int32) (x4 : Int32) (x5 : Int32) (s : zy_S) : Option (Int32 × zy_S) :=
k23 x1 x2 x3 x4 (x5 + (1 : Int32)) s
theorem zyC237_117 {X : zx_X}  {k23 : Int32 → Int32 → Int32 → Int32 → Int32 → zy_S → Option (Int32 × zy_S)}  (hk23 : ∀ (x1 : Int32) (x2 : Int32) (x3 : Int32) (x4 : Int32) (x5 : Int32) (s : zy_S) (r : Int32) (s' : zy_S), k23 x1 x2 x3 x4 x5 s = some (r, s') → zyR X 5 237 23 [some (.ref (43 + 3)), some (.int x1), some (.int x2), some (.int x3), some (.int x4), some (.int x5), none, none] [] s (zyE (some (.int r)) s')) {x1 : Int32} {x2 : Int32} {x3 : Int32} {x4 : Int32} {x5 : Int32} {s : zy_S} {r : Int32} {s' : zy_S}  (h : zyF237_117 k23 x1 x2 x3 x4 x5 s = some (r, s')) : zyR X 5 237 117 [some (.ref (43 + 3)), some (.int x1), some (.int x2), some (.int x3), some (.int x4), some (.int x5), none, none] [] s (zyE (some (.int r)) s') := by
  unfold zyF237_117 at h
  refine zy_22 rfl rfl rfl rfl (show zyR _ _ _ _ [some (.ref (43 + 3)), some (.int x1), some (.int x2), some (.int x3), some (.int x4), some (.int (x5 + (1 : Int32))), none, none] [] _ _ from ?_)
  refine zy_6 rfl (show zyR _ _ _ _ [some (.ref (43 + 3)), some (.int x1), some (.int x2), some (.int x3), some (.int x4), some (.int (x5 + (1 : Int32))), none, none] [] _ _ from ?_)
  exact zy_sub (show zy_le [some (.ref (43 + 3)), some (.int x1), some (.int x2), some (.int x3), some (.int x4), some (.int (x5 + (1 : Int32))), none, none] [some (.ref (43 + 3)), some (.int x1), some (.int x2), some (.int x3), some (.int x4), some (.int (x5 + (1 : Int32))), none, none] from ⟨rfl, ⟨rfl, ⟨rfl, ⟨rfl, ⟨rfl, ⟨rfl, trivial⟩⟩⟩⟩⟩⟩) (hk23 x1 x2 x3 x4 (x5 + (1 : Int32)) s _ _ h)
noncomputable def zyF237_74  (k23 : Int32 → Int32 → Int32 → Int32 → Int32 → zy_S → Option (Int32 × zy_S)) (k36 : Int32 → Int32 → Int32 → Int32 → Int32 → Int32 → Int32 → zy_S → Option (Int32 × zy_S)) (x1 : Int32) (x2 : Int32) (x3 : Int32) (x4 : Int32) (x5 : Int32) (x7 : Int32) (y0 : Int32) (s : zy_S) : Option (Int32 × zy_S) :=
k36 x1 x2 x3 x4 x5 y0 (x7 + (1 : Int32)) s
theorem zyC237_74 {X : zx_X}  {k23 : Int32 → Int32 → Int32 → Int32 → Int32 → zy_S → Option (Int32 × zy_S)} {k36 : Int32 → Int32 → Int32 → Int32 → Int32 → Int32 → Int32 → zy_S → Option (Int32 × zy_S)}  (hk23 : ∀ (x1 : Int32) (x2 : Int32) (x3 : Int32) (x4 : Int32) (x5 : Int32) (s : zy_S) (r : Int32) (s' : zy_S), k23 x1 x2 x3 x4 x5 s = some (r, s') → zyR X 5 237 23 [some (.ref (43 + 3)), some (.int x1), some (.int x2), some (.int x3), some (.int x4), some (.int x5), none, none] [] s (zyE (some (.int r)) s')) (hk36 : ∀ (x1 : Int32) (x2 : Int32) (x3 : Int32) (x4 : Int32) (x5 : Int32) (x6 : Int32) (x7 : Int32) (s : zy_S) (r : Int32) (s' : zy_S), k36 x1 x2 x3 x4 x5 x6 x7 s = some (r, s') → zyR X 5 237 36 [some (.ref (43 + 3)), some (.int x1), some (.int x2), some (.int x3), some (.int x4), some (.int x5), some (.int x6), some (.int x7)] [] s (zyE (some (.int r)) s')) {x1 : Int32} {x2 : Int32} {x3 : Int32} {x4 : Int32} {x5 : Int32} {x7 : Int32} {y0 : Int32} {s : zy_S} {r : Int32} {s' : zy_S}  (h : zyF237_74 k23 k36 x1 x2 x3 x4 x5 x7 y0 s = some (r, s')) : zyR X 5 237 74 [some (.ref (43 + 3)), some (.int x1), some (.int x2), some (.int x3), some (.int x4), some (.int x5), none, some (.int x7)] [.int y0] s (zyE (some (.int r)) s') := by
  unfold zyF237_74 at h
  refine zy_23 rfl rfl (show zyR _ _ _ _ [some (.ref (43 + 3)), some (.int x1), some (.int x2), some (.int x3), some (.int x4), some (.int x5), some (.int y0), some (.int x7)] [] _ _ from ?_)
  refine zy_22 rfl rfl rfl rfl (show zyR _ _ _ _ [some (.ref (43 + 3)), some (.int x1), some (.int x2), some (.int x3), some (.int x4), some (.int x5), some (.int y0), some (.int (x7 + (1 : Int32)))] [] _ _ from ?_)
  refine zy_6 rfl (show zyR _ _ _ _ [some (.ref (43 + 3)), some (.int x1), some (.int x2), some (.int x3), some (.int x4), some (.int x5), some (.int y0), some (.int (x7 + (1 : Int32)))] [] _ _ from ?_)
  exact zy_sub (show zy_le [some (.ref (43 + 3)), some (.int x1), some (.int x2), some (.int x3), some (.int x4), some (.int x5), some (.int y0), some (.int (x7 + (1 : Int32)))] [some (.ref (43 + 3)), some (.int x1), some (.int x2), some (.int x3), some (.int x4), some (.int x5), some (.int y0), some (.int (x7 + (1 : Int32)))] from ⟨rfl, ⟨rfl, ⟨rfl, ⟨rfl, ⟨rfl, ⟨rfl, ⟨rfl, ⟨rfl, trivial⟩⟩⟩⟩⟩⟩⟩⟩) (hk36 x1 x2 x3 x4 x5 y0 (x7 + (1 : Int32)) s _ _ h)
noncomputable def zyF237_36b  (k23 : Int32 → Int32 → Int32 → Int32 → Int32 → zy_S → Option (Int32 × zy_S)) (k36 : Int32 → Int32 → Int32 → Int32 → Int32 → Int32 → Int32 → zy_S → Option (Int32 × zy_S)) (x1 : Int32) (x2 : Int32) (x3 : Int32) (x4 : Int32) (x5 : Int32) (x6 : Int32) (x7 : Int32) (s : zy_S) : Option (Int32 × zy_S) :=
if (4 : Int32) ≤ x7 then
(zyF238 (((4 : Int32) * x5) + x6) s).bind fun p1 =>
if x4 ≤ p1.1 then
zyF237_117 k23 x1 x2 x3 x4 x5 p1.2
else
(zyF238 (((4 : Int32) * x5) + x6) p1.2).bind fun p2 =>
zyF237_117 k23 x1 x5 x6 p2.1 x5 p2.2
else
(zyF238 (((4 : Int32) * x5) + x7) s).bind fun p4 =>
(zyF238 (((4 : Int32) * x5) + x6) p4.2).bind fun p5 =>
if p4.1 ≤ p5.1 then
zyF237_74 k23 k36 x1 x2 x3 x4 x5 x7 x6 p5.2
else
zyF237_74 k23 k36 x1 x2 x3 x4 x5 x7 x7 p5.2
theorem zyC237_36b {X : zx_X}  {k23 : Int32 → Int32 → Int32 → Int32 → Int32 → zy_S → Option (Int32 × zy_S)} {k36 : Int32 → Int32 → Int32 → Int32 → Int32 → Int32 → Int32 → zy_S → Option (Int32 × zy_S)}  (hk23 : ∀ (x1 : Int32) (x2 : Int32) (x3 : Int32) (x4 : Int32) (x5 : Int32) (s : zy_S) (r : Int32) (s' : zy_S), k23 x1 x2 x3 x4 x5 s = some (r, s') → zyR X 5 237 23 [some (.ref (43 + 3)), some (.int x1), some (.int x2), some (.int x3), some (.int x4), some (.int x5), none, none] [] s (zyE (some (.int r)) s')) (hk36 : ∀ (x1 : Int32) (x2 : Int32) (x3 : Int32) (x4 : Int32) (x5 : Int32) (x6 : Int32) (x7 : Int32) (s : zy_S) (r : Int32) (s' : zy_S), k36 x1 x2 x3 x4 x5 x6 x7 s = some (r, s') → zyR X 5 237 36 [some (.ref (43 + 3)), some (.int x1), some (.int x2), some (.int x3), some (.int x4), some (.int x5), some (.int x6), some (.int x7)] [] s (zyE (some (.int r)) s')) {x1 : Int32} {x2 : Int32} {x3 : Int32} {x4 : Int32} {x5 : Int32} {x6 : Int32} {x7 : Int32} {s : zy_S} {r : Int32} {s' : zy_S}  (h : zyF237_36b k23 k36 x1 x2 x3 x4 x5 x6 x7 s = some (r, s')) : zyR X 5 237 36 [some (.ref (43 + 3)), some (.int x1), some (.int x2), some (.int x3), some (.int x4), some (.int x5), some (.int x6), some (.int x7)] [] s (zyE (some (.int r)) s') := by
  unfold zyF237_36b at h
  refine zy_2 rfl rfl (show zyR _ _ _ _ [some (.ref (43 + 3)), some (.int x1), some (.int x2), some (.int x3), some (.int x4), some (.int x5), some (.int x6), some (.int x7)] [.int x7] _ _ from ?_)
  refine zy_3 rfl rfl (show zyR _ _ _ _ [some (.ref (43 + 3)), some (.int x1), some (.int x2), some (.int x3), some (.int x4), some (.int x5), some (.int x6), some (.int x7)] [.int (4 : Int32), .int x7] _ _ from ?_)
  refine zy_25_3 rfl (fun b7 => (show zyR _ _ _ _ [some (.ref (43 + 3)), some (.int x1), some (.int x2), some (.int x3), some (.int x4), some (.int x5), some (.int x6), some (.int x7)] [] _ _ from ?_)) (fun b7 => (show zyR _ _ _ _ [some (.ref (43 + 3)), some (.int x1), some (.int x2), some (.int x3), some (.int x4), some (.int x5), some (.int x6), some (.int x7)] [] _ _ from ?_))
  · replace h := zy_ifp h b7
    refine zy_0 rfl rfl (show zyR _ _ _ _ [some (.ref (43 + 3)), some (.int x1), some (.int x2), some (.int x3), some (.int x4), some (.int x5), some (.int x6), some (.int x7)] [.ref (43 + 3)] _ _ from ?_)
    refine zy_3 rfl rfl (show zyR _ _ _ _ [some (.ref (43 + 3)), some (.int x1), some (.int x2), some (.int x3), some (.int x4), some (.int x5), some (.int x6), some (.int x7)] [.int (4 : Int32), .ref (43 + 3)] _ _ from ?_)
    refine zy_2 rfl rfl (show zyR _ _ _ _ [some (.ref (43 + 3)), some (.int x1), some (.int x2), some (.int x3), some (.int x4), some (.int x5), some (.int x6), some (.int x7)] [.int x5, .int (4 : Int32), .ref (43 + 3)] _ _ from ?_)
    refine zy_12 rfl (show zyR _ _ _ _ [some (.ref (43 + 3)), some (.int x1), some (.int x2), some (.int x3), some (.int x4), some (.int x5), some (.int x6), some (.int x7)] [.int ((4 : Int32) * x5), .ref (43 + 3)] _ _ from ?_)
    refine zy_2 rfl rfl (show zyR _ _ _ _ [some (.ref (43 + 3)), some (.int x1), some (.int x2), some (.int x3), some (.int x4), some (.int x5), some (.int x6), some (.int x7)] [.int x6, .int ((4 : Int32) * x5), .ref (43 + 3)] _ _ from ?_)
    refine zy_10 rfl (show zyR _ _ _ _ [some (.ref (43 + 3)), some (.int x1), some (.int x2), some (.int x3), some (.int x4), some (.int x5), some (.int x6), some (.int x7)] [.int (((4 : Int32) * x5) + x6), .ref (43 + 3)] _ _ from ?_)
    obtain ⟨p1, hp1, h⟩ := zy_bind h
    refine zy_5 (c := 43) (as := [.int (((4 : Int32) * x5) + x6)]) (rest := []) (L := [some (.ref (43 + 3)), some (.int (((4 : Int32) * x5) + x6)), none, none]) (d' := 4) rfl rfl rfl (Nat.le_of_ble_eq_true rfl) (Nat.le_of_ble_eq_true rfl) rfl (Nat.le_of_ble_eq_true rfl) rfl rfl (zyC238 hp1) ?_
    show zyR _ _ _ _ [some (.ref (43 + 3)), some (.int x1), some (.int x2), some (.int x3), some (.int x4), some (.int x5), some (.int x6), some (.int x7)] [.int p1.1] _ _
    refine zy_2 rfl rfl (show zyR _ _ _ _ [some (.ref (43 + 3)), some (.int x1), some (.int x2), some (.int x3), some (.int x4), some (.int x5), some (.int x6), some (.int x7)] [.int x4, .int p1.1] _ _ from ?_)
    refine zy_25_3 rfl (fun b3 => (show zyR _ _ _ _ [some (.ref (43 + 3)), some (.int x1), some (.int x2), some (.int x3), some (.int x4), some (.int x5), some (.int x6), some (.int x7)] [] _ _ from ?_)) (fun b3 => (show zyR _ _ _ _ [some (.ref (43 + 3)), some (.int x1), some (.int x2), some (.int x3), some (.int x4), some (.int x5), some (.int x6), some (.int x7)] [] _ _ from ?_))
    · replace h := zy_ifp h b3
      exact zy_sub (show zy_le [some (.ref (43 + 3)), some (.int x1), some (.int x2), some (.int x3), some (.int x4), some (.int x5), none, none] [some (.ref (43 + 3)), some (.int x1), some (.int x2), some (.int x3), some (.int x4), some (.int x5), some (.int x6), some (.int x7)] from ⟨rfl, ⟨rfl, ⟨rfl, ⟨rfl, ⟨rfl, ⟨rfl, trivial⟩⟩⟩⟩⟩⟩) (zyC237_117 hk23 h)
    · replace h := zy_ifn h b3
      refine zy_2 rfl rfl (show zyR _ _ _ _ [some (.ref (43 + 3)), some (.int x1), some (.int x2), some (.int x3), some (.int x4), some (.int x5), some (.int x6), some (.int x7)] [.int x5] _ _ from ?_)
      refine zy_23 rfl rfl (show zyR _ _ _ _ [some (.ref (43 + 3)), some (.int x1), some (.int x5), some (.int x3), some (.int x4), some (.int x5), some (.int x6), some (.int x7)] [] _ _ from ?_)
      refine zy_2 rfl rfl (show zyR _ _ _ _ [some (.ref (43 + 3)), some (.int x1), some (.int x5), some (.int x3), some (.int x4), some (.int x5), some (.int x6), some (.int x7)] [.int x6] _ _ from ?_)
      refine zy_23 rfl rfl (show zyR _ _ _ _ [some (.ref (43 + 3)), some (.int x1), some (.int x5), some (.int x6), some (.int x4), some (.int x5), some (.int x6), some (.int x7)] [] _ _ from ?_)
      refine zy_0 rfl rfl (show zyR _ _ _ _ [some (.ref (43 + 3)), some (.int x1), some (.int x5), some (.int x6), some (.int x4), some (.int x5), some (.int x6), some (.int x7)] [.ref (43 + 3)] _ _ from ?_)
      refine zy_3 rfl rfl (show zyR _ _ _ _ [some (.ref (43 + 3)), some (.int x1), some (.int x5), some (.int x6), some (.int x4), some (.int x5), some (.int x6), some (.int x7)] [.int (4 : Int32), .ref (43 + 3)] _ _ from ?_)
      refine zy_2 rfl rfl (show zyR _ _ _ _ [some (.ref (43 + 3)), some (.int x1), some (.int x5), some (.int x6), some (.int x4), some (.int x5), some (.int x6), some (.int x7)] [.int x5, .int (4 : Int32), .ref (43 + 3)] _ _ from ?_)
      refine zy_12 rfl (show zyR _ _ _ _ [some (.ref (43 + 3)), some (.int x1), some (.int x5), some (.int x6), some (.int x4), some (.int x5), some (.int x6), some (.int x7)] [.int ((4 : Int32) * x5), .ref (43 + 3)] _ _ from ?_)
      refine zy_2 rfl rfl (show zyR _ _ _ _ [some (.ref (43 + 3)), some (.int x1), some (.int x5), some (.int x6), some (.int x4), some (.int x5), some (.int x6), some (.int x7)] [.int x6, .int ((4 : Int32) * x5), .ref (43 + 3)] _ _ from ?_)
      refine zy_10 rfl (show zyR _ _ _ _ [some (.ref (43 + 3)), some (.int x1), some (.int x5), some (.int x6), some (.int x4), some (.int x5), some (.int x6), some (.int x7)] [.int (((4 : Int32) * x5) + x6), .ref (43 + 3)] _ _ from ?_)
      obtain ⟨p2, hp2, h⟩ := zy_bind h
      refine zy_5 (c := 43) (as := [.int (((4 : Int32) * x5) + x6)]) (rest := []) (L := [some (.ref (43 + 3)), some (.int (((4 : Int32) * x5) + x6)), none, none]) (d' := 4) rfl rfl rfl (Nat.le_of_ble_eq_true rfl) (Nat.le_of_ble_eq_true rfl) rfl (Nat.le_of_ble_eq_true rfl) rfl rfl (zyC238 hp2) ?_
      show zyR _ _ _ _ [some (.ref (43 + 3)), some (.int x1), some (.int x5), some (.int x6), some (.int x4), some (.int x5), some (.int x6), some (.int x7)] [.int p2.1] _ _
      refine zy_23 rfl rfl (show zyR _ _ _ _ [some (.ref (43 + 3)), some (.int x1), some (.int x5), some (.int x6), some (.int p2.1), some (.int x5), some (.int x6), some (.int x7)] [] _ _ from ?_)
      exact zy_sub (show zy_le [some (.ref (43 + 3)), some (.int x1), some (.int x5), some (.int x6), some (.int p2.1), some (.int x5), none, none] [some (.ref (43 + 3)), some (.int x1), some (.int x5), some (.int x6), some (.int p2.1), some (.int x5), some (.int x6), some (.int x7)] from ⟨rfl, ⟨rfl, ⟨rfl, ⟨rfl, ⟨rfl, ⟨rfl, trivial⟩⟩⟩⟩⟩⟩) (zyC237_117 hk23 h)
  · replace h := zy_ifn h b7
    refine zy_0 rfl rfl (show zyR _ _ _ _ [some (.ref (43 + 3)), some (.int x1), some (.int x2), some (.int x3), some (.int x4), some (.int x5), some (.int x6), some (.int x7)] [.ref (43 + 3)] _ _ from ?_)
    refine zy_3 rfl rfl (show zyR _ _ _ _ [some (.ref (43 + 3)), some (.int x1), some (.int x2), some (.int x3), some (.int x4), some (.int x5), some (.int x6), some (.int x7)] [.int (4 : Int32), .ref (43 + 3)] _ _ from ?_)
    refine zy_2 rfl rfl (show zyR _ _ _ _ [some (.ref (43 + 3)), some (.int x1), some (.int x2), some (.int x3), some (.int x4), some (.int x5), some (.int x6), some (.int x7)] [.int x5, .int (4 : Int32), .ref (43 + 3)] _ _ from ?_)
    refine zy_12 rfl (show zyR _ _ _ _ [some (.ref (43 + 3)), some (.int x1), some (.int x2), some (.int x3), some (.int x4), some (.int x5), some (.int x6), some (.int x7)] [.int ((4 : Int32) * x5), .ref (43 + 3)] _ _ from ?_)
    refine zy_2 rfl rfl (show zyR _ _ _ _ [some (.ref (43 + 3)), some (.int x1), some (.int x2), some (.int x3), some (.int x4), some (.int x5), some (.int x6), some (.int x7)] [.int x7, .int ((4 : Int32) * x5), .ref (43 + 3)] _ _ from ?_)
    refine zy_10 rfl (show zyR _ _ _ _ [some (.ref (43 + 3)), some (.int x1), some (.int x2), some (.int x3), some (.int x4), some (.int x5), some (.int x6), some (.int x7)] [.int (((4 : Int32) * x5) + x7), .ref (43 + 3)] _ _ from ?_)
    obtain ⟨p4, hp4, h⟩ := zy_bind h
    refine zy_5 (c := 43) (as := [.int (((4 : Int32) * x5) + x7)]) (rest := []) (L := [some (.ref (43 + 3)), some (.int (((4 : Int32) * x5) + x7)), none, none]) (d' := 4) rfl rfl rfl (Nat.le_of_ble_eq_true rfl) (Nat.le_of_ble_eq_true rfl) rfl (Nat.le_of_ble_eq_true rfl) rfl rfl (zyC238 hp4) ?_
    show zyR _ _ _ _ [some (.ref (43 + 3)), some (.int x1), some (.int x2), some (.int x3), some (.int x4), some (.int x5), some (.int x6), some (.int x7)] [.int p4.1] _ _
    refine zy_0 rfl rfl (show zyR _ _ _ _ [some (.ref (43 + 3)), some (.int x1), some (.int x2), some (.int x3), some (.int x4), some (.int x5), some (.int x6), some (.int x7)] [.ref (43 + 3), .int p4.1] _ _ from ?_)
    refine zy_3 rfl rfl (show zyR _ _ _ _ [some (.ref (43 + 3)), some (.int x1), some (.int x2), some (.int x3), some (.int x4), some (.int x5), some (.int x6), some (.int x7)] [.int (4 : Int32), .ref (43 + 3), .int p4.1] _ _ from ?_)
    refine zy_2 rfl rfl (show zyR _ _ _ _ [some (.ref (43 + 3)), some (.int x1), some (.int x2), some (.int x3), some (.int x4), some (.int x5), some (.int x6), some (.int x7)] [.int x5, .int (4 : Int32), .ref (43 + 3), .int p4.1] _ _ from ?_)
    refine zy_12 rfl (show zyR _ _ _ _ [some (.ref (43 + 3)), some (.int x1), some (.int x2), some (.int x3), some (.int x4), some (.int x5), some (.int x6), some (.int x7)] [.int ((4 : Int32) * x5), .ref (43 + 3), .int p4.1] _ _ from ?_)
    refine zy_2 rfl rfl (show zyR _ _ _ _ [some (.ref (43 + 3)), some (.int x1), some (.int x2), some (.int x3), some (.int x4), some (.int x5), some (.int x6), some (.int x7)] [.int x6, .int ((4 : Int32) * x5), .ref (43 + 3), .int p4.1] _ _ from ?_)
    refine zy_10 rfl (show zyR _ _ _ _ [some (.ref (43 + 3)), some (.int x1), some (.int x2), some (.int x3), some (.int x4), some (.int x5), some (.int x6), some (.int x7)] [.int (((4 : Int32) * x5) + x6), .ref (43 + 3), .int p4.1] _ _ from ?_)
    obtain ⟨p5, hp5, h⟩ := zy_bind h
    refine zy_5 (c := 43) (as := [.int (((4 : Int32) * x5) + x6)]) (rest := [.int p4.1]) (L := [some (.ref (43 + 3)), some (.int (((4 : Int32) * x5) + x6)), none, none]) (d' := 4) rfl rfl rfl (Nat.le_of_ble_eq_true rfl) (Nat.le_of_ble_eq_true rfl) rfl (Nat.le_of_ble_eq_true rfl) rfl rfl (zyC238 hp5) ?_
    show zyR _ _ _ _ [some (.ref (43 + 3)), some (.int x1), some (.int x2), some (.int x3), some (.int x4), some (.int x5), some (.int x6), some (.int x7)] [.int p5.1, .int p4.1] _ _
    refine zy_25_5 rfl (fun b6 => (show zyR _ _ _ _ [some (.ref (43 + 3)), some (.int x1), some (.int x2), some (.int x3), some (.int x4), some (.int x5), some (.int x6), some (.int x7)] [] _ _ from ?_)) (fun b6 => (show zyR _ _ _ _ [some (.ref (43 + 3)), some (.int x1), some (.int x2), some (.int x3), some (.int x4), some (.int x5), some (.int x6), some (.int x7)] [] _ _ from ?_))
    · replace h := zy_ifp h b6
      refine zy_2 rfl rfl (show zyR _ _ _ _ [some (.ref (43 + 3)), some (.int x1), some (.int x2), some (.int x3), some (.int x4), some (.int x5), some (.int x6), some (.int x7)] [.int x6] _ _ from ?_)
      exact zy_sub (show zy_le [some (.ref (43 + 3)), some (.int x1), some (.int x2), some (.int x3), some (.int x4), some (.int x5), none, some (.int x7)] [some (.ref (43 + 3)), some (.int x1), some (.int x2), some (.int x3), some (.int x4), some (.int x5), some (.int x6), some (.int x7)] from ⟨rfl, ⟨rfl, ⟨rfl, ⟨rfl, ⟨rfl, ⟨rfl, ⟨rfl, trivial⟩⟩⟩⟩⟩⟩⟩) (zyC237_74 hk23 hk36 h)
    · replace h := zy_ifn h b6
      refine zy_2 rfl rfl (show zyR _ _ _ _ [some (.ref (43 + 3)), some (.int x1), some (.int x2), some (.int x3), some (.int x4), some (.int x5), some (.int x6), some (.int x7)] [.int x7] _ _ from ?_)
      refine zy_6 rfl (show zyR _ _ _ _ [some (.ref (43 + 3)), some (.int x1), some (.int x2), some (.int x3), some (.int x4), some (.int x5), some (.int x6), some (.int x7)] [.int x7] _ _ from ?_)
      exact zy_sub (show zy_le [some (.ref (43 + 3)), some (.int x1), some (.int x2), some (.int x3), some (.int x4), some (.int x5), none, some (.int x7)] [some (.ref (43 + 3)), some (.int x1), some (.int x2), some (.int x3), some (.int x4), some (.int x5), some (.int x6), some (.int x7)] from ⟨rfl, ⟨rfl, ⟨rfl, ⟨rfl, ⟨rfl, ⟨rfl, ⟨rfl, trivial⟩⟩⟩⟩⟩⟩⟩) (zyC237_74 hk23 hk36 h)
noncomputable def zyF237_36  (k23 : Int32 → Int32 → Int32 → Int32 → Int32 → zy_S → Option (Int32 × zy_S)) (n : Nat) : Int32 → Int32 → Int32 → Int32 → Int32 → Int32 → Int32 → zy_S → Option (Int32 × zy_S) := Nat.rec (fun _ _ _ _ _ _ _ _ => none) (fun _ k36 => zyF237_36b k23 k36) n
theorem zyC237_36 {X : zx_X}  {k23 : Int32 → Int32 → Int32 → Int32 → Int32 → zy_S → Option (Int32 × zy_S)}  (hk23 : ∀ (x1 : Int32) (x2 : Int32) (x3 : Int32) (x4 : Int32) (x5 : Int32) (s : zy_S) (r : Int32) (s' : zy_S), k23 x1 x2 x3 x4 x5 s = some (r, s') → zyR X 5 237 23 [some (.ref (43 + 3)), some (.int x1), some (.int x2), some (.int x3), some (.int x4), some (.int x5), none, none] [] s (zyE (some (.int r)) s')) : ∀ (n : Nat) (x1 : Int32) (x2 : Int32) (x3 : Int32) (x4 : Int32) (x5 : Int32) (x6 : Int32) (x7 : Int32) (s : zy_S) (r : Int32) (s' : zy_S), zyF237_36 k23 n x1 x2 x3 x4 x5 x6 x7 s = some (r, s') → zyR X 5 237 36 [some (.ref (43 + 3)), some (.int x1), some (.int x2), some (.int x3), some (.int x4), some (.int x5), some (.int x6), some (.int x7)] [] s (zyE (some (.int r)) s')
  | 0, _, _, _, _, _, _, _ => by
    intro s r s'  h
    have h : (none : Option (Int32 × zy_S)) = some (r, s') := h
    cases h
  | n + 1, x1, x2, x3, x4, x5, x6, x7 => by
    intro s r s'  h
    exact zyC237_36b (k36 := zyF237_36 k23 n) hk23 (fun x1 x2 x3 x4 x5 x6 x7 s r s'  h => zyC237_36 hk23 n x1 x2 x3 x4 x5 x6 x7 s r s'  h) h
noncomputable def zyF237_23b  (k23 : Int32 → Int32 → Int32 → Int32 → Int32 → zy_S → Option (Int32 × zy_S)) (x1 : Int32) (x2 : Int32) (x3 : Int32) (x4 : Int32) (x5 : Int32) (s : zy_S) : Option (Int32 × zy_S) :=
if (6 : Int32) ≤ x5 then
if x1 ≠ 0 then
some (x3, s)
else
some (x2, s)
else
zyF237_36 k23 zy_fu x1 x2 x3 x4 x5 (0 : Int32) (1 : Int32) s
theorem zyC237_23b {X : zx_X}  {k23 : Int32 → Int32 → Int32 → Int32 → Int32 → zy_S → Option (Int32 × zy_S)}  (hk23 : ∀ (x1 : Int32) (x2 : Int32) (x3 : Int32) (x4 : Int32) (x5 : Int32) (s : zy_S) (r : Int32) (s' : zy_S), k23 x1 x2 x3 x4 x5 s = some (r, s') → zyR X 5 237 23 [some (.ref (43 + 3)), some (.int x1), some (.int x2), some (.int x3), some (.int x4), some (.int x5), none, none] [] s (zyE (some (.int r)) s')) {x1 : Int32} {x2 : Int32} {x3 : Int32} {x4 : Int32} {x5 : Int32} {s : zy_S} {r : Int32} {s' : zy_S}  (h : zyF237_23b k23 x1 x2 x3 x4 x5 s = some (r, s')) : zyR X 5 237 23 [some (.ref (43 + 3)), some (.int x1), some (.int x2), some (.int x3), some (.int x4), some (.int x5), none, none] [] s (zyE (some (.int r)) s') := by
  unfold zyF237_23b at h
  refine zy_2 rfl rfl (show zyR _ _ _ _ [some (.ref (43 + 3)), some (.int x1), some (.int x2), some (.int x3), some (.int x4), some (.int x5), none, none] [.int x5] _ _ from ?_)
  refine zy_3 rfl rfl (show zyR _ _ _ _ [some (.ref (43 + 3)), some (.int x1), some (.int x2), some (.int x3), some (.int x4), some (.int x5), none, none] [.int (6 : Int32), .int x5] _ _ from ?_)
  refine zy_25_3 rfl (fun b9 => (show zyR _ _ _ _ [some (.ref (43 + 3)), some (.int x1), some (.int x2), some (.int x3), some (.int x4), some (.int x5), none, none] [] _ _ from ?_)) (fun b9 => (show zyR _ _ _ _ [some (.ref (43 + 3)), some (.int x1), some (.int x2), some (.int x3), some (.int x4), some (.int x5), none, none] [] _ _ from ?_))
  · replace h := zy_ifp h b9
    refine zy_2 rfl rfl (show zyR _ _ _ _ [some (.ref (43 + 3)), some (.int x1), some (.int x2), some (.int x3), some (.int x4), some (.int x5), none, none] [.int x1] _ _ from ?_)
    refine zy_24_1 rfl (fun b8 => (show zyR _ _ _ _ [some (.ref (43 + 3)), some (.int x1), some (.int x2), some (.int x3), some (.int x4), some (.int x5), none, none] [] _ _ from ?_)) (fun b8 => (show zyR _ _ _ _ [some (.ref (43 + 3)), some (.int x1), some (.int x2), some (.int x3), some (.int x4), some (.int x5), none, none] [] _ _ from ?_))
    · replace h := zy_ifp h b8
      refine zy_2 rfl rfl (show zyR _ _ _ _ [some (.ref (43 + 3)), some (.int x1), some (.int x2), some (.int x3), some (.int x4), some (.int x5), none, none] [.int x3] _ _ from ?_)
      obtain ⟨rfl, rfl⟩ := zy_pi h
      exact zy_4 rfl ⟨rfl, rfl⟩
    · replace h := zy_ifn h b8
      refine zy_2 rfl rfl (show zyR _ _ _ _ [some (.ref (43 + 3)), some (.int x1), some (.int x2), some (.int x3), some (.int x4), some (.int x5), none, none] [.int x2] _ _ from ?_)
      refine zy_6 rfl (show zyR _ _ _ _ [some (.ref (43 + 3)), some (.int x1), some (.int x2), some (.int x3), some (.int x4), some (.int x5), none, none] [.int x2] _ _ from ?_)
      obtain ⟨rfl, rfl⟩ := zy_pi h
      exact zy_4 rfl ⟨rfl, rfl⟩
  · replace h := zy_ifn h b9
    refine zy_3 rfl rfl (show zyR _ _ _ _ [some (.ref (43 + 3)), some (.int x1), some (.int x2), some (.int x3), some (.int x4), some (.int x5), none, none] [.int (0 : Int32)] _ _ from ?_)
    refine zy_23 rfl rfl (show zyR _ _ _ _ [some (.ref (43 + 3)), some (.int x1), some (.int x2), some (.int x3), some (.int x4), some (.int x5), some (.int (0 : Int32)), none] [] _ _ from ?_)
    refine zy_3 rfl rfl (show zyR _ _ _ _ [some (.ref (43 + 3)), some (.int x1), some (.int x2), some (.int x3), some (.int x4), some (.int x5), some (.int (0 : Int32)), none] [.int (1 : Int32)] _ _ from ?_)
    refine zy_23 rfl rfl (show zyR _ _ _ _ [some (.ref (43 + 3)), some (.int x1), some (.int x2), some (.int x3), some (.int x4), some (.int x5), some (.int (0 : Int32)), some (.int (1 : Int32))] [] _ _ from ?_)
    exact zy_sub (show zy_le [some (.ref (43 + 3)), some (.int x1), some (.int x2), some (.int x3), some (.int x4), some (.int x5), some (.int (0 : Int32)), some (.int (1 : Int32))] [some (.ref (43 + 3)), some (.int x1), some (.int x2), some (.int x3), some (.int x4), some (.int x5), some (.int (0 : Int32)), some (.int (1 : Int32))] from ⟨rfl, ⟨rfl, ⟨rfl, ⟨rfl, ⟨rfl, ⟨rfl, ⟨rfl, ⟨rfl, trivial⟩⟩⟩⟩⟩⟩⟩⟩) (zyC237_36 hk23 zy_fu x1 x2 x3 x4 x5 (0 : Int32) (1 : Int32) s _ _ h)
noncomputable def zyF237_23   (n : Nat) : Int32 → Int32 → Int32 → Int32 → Int32 → zy_S → Option (Int32 × zy_S) := Nat.rec (fun _ _ _ _ _ _ => none) (fun _ k23 => zyF237_23b k23) n
theorem zyC237_23 {X : zx_X}     : ∀ (n : Nat) (x1 : Int32) (x2 : Int32) (x3 : Int32) (x4 : Int32) (x5 : Int32) (s : zy_S) (r : Int32) (s' : zy_S), zyF237_23 n x1 x2 x3 x4 x5 s = some (r, s') → zyR X 5 237 23 [some (.ref (43 + 3)), some (.int x1), some (.int x2), some (.int x3), some (.int x4), some (.int x5), none, none] [] s (zyE (some (.int r)) s')
  | 0, _, _, _, _, _ => by
    intro s r s'  h
    have h : (none : Option (Int32 × zy_S)) = some (r, s') := h
    cases h
  | n + 1, x1, x2, x3, x4, x5 => by
    intro s r s'  h
    exact zyC237_23b (k23 := zyF237_23 n) (fun x1 x2 x3 x4 x5 s r s'  h => zyC237_23  n x1 x2 x3 x4 x5 s r s'  h) h
noncomputable def zyF237   (x1 : Int32) (s : zy_S) : Option (Int32 × zy_S) :=
(zyF179 (x1).toInt64 (0 : Int64) (1 : Int64) s).bind fun p10 =>
if p10.1 ≠ 0 then
zyF237_23 zy_fu x1 (0 : Int32) (0 : Int32) (1000000 : Int32) (0 : Int32) p10.2
else
some ((-1 : Int32), p10.2)
theorem zyC237 {X : zx_X}     {x1 : Int32} {s : zy_S} {r : Int32} {s' : zy_S}  (h : zyF237 x1 s = some (r, s')) : zyR X 5 237 0 [some (.ref (43 + 3)), some (.int x1), none, none, none, none, none, none] [] s (zyE (some (.int r)) s') := by
  unfold zyF237 at h
  refine zy_2 rfl rfl (show zyR _ _ _ _ [some (.ref (43 + 3)), some (.int x1), none, none, none, none, none, none] [.int x1] _ _ from ?_)
  refine zy_40 rfl (show zyR _ _ _ _ [some (.ref (43 + 3)), some (.int x1), none, none, none, none, none, none] [.long (x1).toInt64] _ _ from ?_)
  refine zy_36 rfl rfl (show zyR _ _ _ _ [some (.ref (43 + 3)), some (.int x1), none, none, none, none, none, none] [.long (0 : Int64), .long (x1).toInt64] _ _ from ?_)
  refine zy_36 rfl rfl (show zyR _ _ _ _ [some (.ref (43 + 3)), some (.int x1), none, none, none, none, none, none] [.long (1 : Int64), .long (0 : Int64), .long (x1).toInt64] _ _ from ?_)
  obtain ⟨p10, hp10, h⟩ := zy_bind h
  refine zy_60 (as := [.long (x1).toInt64, .long (0 : Int64), .long (1 : Int64)]) (rest := []) (L := [some (.long (x1).toInt64), none, some (.long (0 : Int64)), none, some (.long (1 : Int64)), none]) (d' := 1) rfl rfl (Nat.le_of_ble_eq_true rfl) (Nat.le_of_ble_eq_true rfl) rfl (Nat.le_of_ble_eq_true rfl) rfl rfl (zyC179 hp10) ?_
  show zyR _ _ _ _ [some (.ref (43 + 3)), some (.int x1), none, none, none, none, none, none] [.int p10.1] _ _
  refine zy_24_1 rfl (fun b11 => (show zyR _ _ _ _ [some (.ref (43 + 3)), some (.int x1), none, none, none, none, none, none] [] _ _ from ?_)) (fun b11 => (show zyR _ _ _ _ [some (.ref (43 + 3)), some (.int x1), none, none, none, none, none, none] [] _ _ from ?_))
  · replace h := zy_ifp h b11
    refine zy_3 rfl rfl (show zyR _ _ _ _ [some (.ref (43 + 3)), some (.int x1), none, none, none, none, none, none] [.int (0 : Int32)] _ _ from ?_)
    refine zy_23 rfl rfl (show zyR _ _ _ _ [some (.ref (43 + 3)), some (.int x1), some (.int (0 : Int32)), none, none, none, none, none] [] _ _ from ?_)
    refine zy_3 rfl rfl (show zyR _ _ _ _ [some (.ref (43 + 3)), some (.int x1), some (.int (0 : Int32)), none, none, none, none, none] [.int (0 : Int32)] _ _ from ?_)
    refine zy_23 rfl rfl (show zyR _ _ _ _ [some (.ref (43 + 3)), some (.int x1), some (.int (0 : Int32)), some (.int (0 : Int32)), none, none, none, none] [] _ _ from ?_)
    refine zy_3c rfl rfl (show zyR _ _ _ _ [some (.ref (43 + 3)), some (.int x1), some (.int (0 : Int32)), some (.int (0 : Int32)), none, none, none, none] [.int (1000000 : Int32)] _ _ from ?_)
    refine zy_23 rfl rfl (show zyR _ _ _ _ [some (.ref (43 + 3)), some (.int x1), some (.int (0 : Int32)), some (.int (0 : Int32)), some (.int (1000000 : Int32)), none, none, none] [] _ _ from ?_)
    refine zy_3 rfl rfl (show zyR _ _ _ _ [some (.ref (43 + 3)), some (.int x1), some (.int (0 : Int32)), some (.int (0 : Int32)), some (.int (1000000 : Int32)), none, none, none] [.int (0 : Int32)] _ _ from ?_)
    refine zy_23 rfl rfl (show zyR _ _ _ _ [some (.ref (43 + 3)), some (.int x1), some (.int (0 : Int32)), some (.int (0 : Int32)), some (.int (1000000 : Int32)), some (.int (0 : Int32)), none, none] [] _ _ from ?_)
    exact zy_sub (show zy_le [some (.ref (43 + 3)), some (.int x1), some (.int (0 : Int32)), some (.int (0 : Int32)), some (.int (1000000 : Int32)), some (.int (0 : Int32)), none, none] [some (.ref (43 + 3)), some (.int x1), some (.int (0 : Int32)), some (.int (0 : Int32)), some (.int (1000000 : Int32)), some (.int (0 : Int32)), none, none] from ⟨rfl, ⟨rfl, ⟨rfl, ⟨rfl, ⟨rfl, ⟨rfl, trivial⟩⟩⟩⟩⟩⟩) (zyC237_23 zy_fu x1 (0 : Int32) (0 : Int32) (1000000 : Int32) (0 : Int32) p10.2 _ _ h)
  · replace h := zy_ifn h b11
    refine zy_3 rfl rfl (show zyR _ _ _ _ [some (.ref (43 + 3)), some (.int x1), none, none, none, none, none, none] [.int (-1 : Int32)] _ _ from ?_)
    obtain ⟨rfl, rfl⟩ := zy_pi h
    exact zy_4 rfl ⟨rfl, rfl⟩
/-! NineOpinions$Town.everybody()I -/
noncomputable def zyF51    (s : zy_S) : Option (Int32 × zy_S) :=
some ((((1 : Int32) <<< ((s.1 1 5) &&& 31)) - (1 : Int32)), s)
theorem zyC51 {X : zx_X}      {s : zy_S} {r : Int32} {s' : zy_S}  (h : zyF51 s = some (r, s')) : zyR X 1 51 0 [some (.ref (1 + 3))] [] s (zyE (some (.int r)) s') := by
  unfold zyF51 at h
  refine zy_3 rfl rfl (show zyR _ _ _ _ [some (.ref (1 + 3))] [.int (1 : Int32)] _ _ from ?_)
  refine zy_0 rfl rfl (show zyR _ _ _ _ [some (.ref (1 + 3))] [.ref (1 + 3), .int (1 : Int32)] _ _ from ?_)
  refine zy_1 (c := 1) rfl rfl rfl (show zyR _ _ _ _ [some (.ref (1 + 3))] [.int (s.1 1 5), .int (1 : Int32)] _ _ from ?_)
  refine zy_16 rfl (show zyR _ _ _ _ [some (.ref (1 + 3))] [.int ((1 : Int32) <<< ((s.1 1 5) &&& 31))] _ _ from ?_)
  refine zy_3 rfl rfl (show zyR _ _ _ _ [some (.ref (1 + 3))] [.int (1 : Int32), .int ((1 : Int32) <<< ((s.1 1 5) &&& 31))] _ _ from ?_)
  refine zy_11 rfl (show zyR _ _ _ _ [some (.ref (1 + 3))] [.int (((1 : Int32) <<< ((s.1 1 5) &&& 31)) - (1 : Int32))] _ _ from ?_)
  obtain ⟨rfl, rfl⟩ := zy_pi h
  exact zy_4 rfl ⟨rfl, rfl⟩
/-! NineOpinions$Votes.haveMoreThanHalf(I)Z -/
noncomputable def zyF97   (x1 : Int32) (s : zy_S) : Option (Int32 × zy_S) :=
(zyF98 x1 s).bind fun p1 =>
(zyF51 p1.2).bind fun p2 =>
(zyF98 p2.1 p2.2).bind fun p3 =>
if ((2 : Int32) * p1.1) ≤ p3.1 then
some ((0 : Int32), p3.2)
else
some ((1 : Int32), p3.2)
theorem zyC97 {X : zx_X}     {x1 : Int32} {s : zy_S} {r : Int32} {s' : zy_S}  (h : zyF97 x1 s = some (r, s')) : zyR X 3 97 0 [some (.ref (16 + 3)), some (.int x1)] [] s (zyE (some (.int r)) s') := by
  unfold zyF97 at h
  refine zy_3 rfl rfl (show zyR _ _ _ _ [some (.ref (16 + 3)), some (.int x1)] [.int (2 : Int32)] _ _ from ?_)
  refine zy_0 rfl rfl (show zyR _ _ _ _ [some (.ref (16 + 3)), some (.int x1)] [.ref (16 + 3), .int (2 : Int32)] _ _ from ?_)
  refine zy_2 rfl rfl (show zyR _ _ _ _ [some (.ref (16 + 3)), some (.int x1)] [.int x1, .ref (16 + 3), .int (2 : Int32)] _ _ from ?_)
  obtain ⟨p1, hp1, h⟩ := zy_bind h
  refine zy_5 (c := 16) (as := [.int x1]) (rest := [.int (2 : Int32)]) (L := [some (.ref (16 + 3)), some (.int x1), none, none]) (d' := 2) rfl rfl rfl (Nat.le_of_ble_eq_true rfl) (Nat.le_of_ble_eq_true rfl) rfl (Nat.le_of_ble_eq_true rfl) rfl rfl (zyC98 hp1) ?_
  show zyR _ _ _ _ [some (.ref (16 + 3)), some (.int x1)] [.int p1.1, .int (2 : Int32)] _ _
  refine zy_12 rfl (show zyR _ _ _ _ [some (.ref (16 + 3)), some (.int x1)] [.int ((2 : Int32) * p1.1)] _ _ from ?_)
  refine zy_0 rfl rfl (show zyR _ _ _ _ [some (.ref (16 + 3)), some (.int x1)] [.ref (16 + 3), .int ((2 : Int32) * p1.1)] _ _ from ?_)
  refine zy_0 rfl rfl (show zyR _ _ _ _ [some (.ref (16 + 3)), some (.int x1)] [.ref (16 + 3), .ref (16 + 3), .int ((2 : Int32) * p1.1)] _ _ from ?_)
  refine zy_1r (c := 16) rfl rfl rfl (show zyR _ _ _ _ [some (.ref (16 + 3)), some (.int x1)] [.ref (1 + 3), .ref (16 + 3), .int ((2 : Int32) * p1.1)] _ _ from ?_)
  obtain ⟨p2, hp2, h⟩ := zy_bind h
  refine zy_5 (c := 1) (as := []) (rest := [.ref (16 + 3), .int ((2 : Int32) * p1.1)]) (L := [some (.ref (1 + 3))]) (d' := 1) rfl rfl rfl (Nat.le_of_ble_eq_true rfl) (Nat.le_of_ble_eq_true rfl) rfl (Nat.le_of_ble_eq_true rfl) rfl rfl (zyC51 hp2) ?_
  show zyR _ _ _ _ [some (.ref (16 + 3)), some (.int x1)] [.int p2.1, .ref (16 + 3), .int ((2 : Int32) * p1.1)] _ _
  obtain ⟨p3, hp3, h⟩ := zy_bind h
  refine zy_5 (c := 16) (as := [.int p2.1]) (rest := [.int ((2 : Int32) * p1.1)]) (L := [some (.ref (16 + 3)), some (.int p2.1), none, none]) (d' := 2) rfl rfl rfl (Nat.le_of_ble_eq_true rfl) (Nat.le_of_ble_eq_true rfl) rfl (Nat.le_of_ble_eq_true rfl) rfl rfl (zyC98 hp3) ?_
  show zyR _ _ _ _ [some (.ref (16 + 3)), some (.int x1)] [.int p3.1, .int ((2 : Int32) * p1.1)] _ _
  refine zy_25_5 rfl (fun b4 => (show zyR _ _ _ _ [some (.ref (16 + 3)), some (.int x1)] [] _ _ from ?_)) (fun b4 => (show zyR _ _ _ _ [some (.ref (16 + 3)), some (.int x1)] [] _ _ from ?_))
  · replace h := zy_ifp h b4
    refine zy_3 rfl rfl (show zyR _ _ _ _ [some (.ref (16 + 3)), some (.int x1)] [.int (0 : Int32)] _ _ from ?_)
    cases h
    exact zy_4b rfl ⟨rfl, rfl⟩ (Or.inl rfl)
  · replace h := zy_ifn h b4
    refine zy_3 rfl rfl (show zyR _ _ _ _ [some (.ref (16 + 3)), some (.int x1)] [.int (1 : Int32)] _ _ from ?_)
    refine zy_6 rfl (show zyR _ _ _ _ [some (.ref (16 + 3)), some (.int x1)] [.int (1 : Int32)] _ _ from ?_)
    cases h
    exact zy_4b rfl ⟨rfl, rfl⟩ (Or.inr rfl)
end
