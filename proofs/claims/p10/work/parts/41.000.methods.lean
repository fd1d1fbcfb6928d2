/-! PART 41.00: methods as functions. Made by wip/v4/dcp.py. -/
/-! NineOpinions$Town.mayBe(II)Z -/
noncomputable def zyF14   (x1 : Int32) (x2 : Int32) (s : zy_S) : Option (Int32 × zy_S) :=
if x1 = (0 : Int32) then
if x2 < 0 then
some ((0 : Int32), s)
else
if (4096 : Int32) ≤ x2 then
some ((0 : Int32), s)
else
some ((1 : Int32), s)
else
if x1 = (1 : Int32) then
if x2 < 0 then
some ((0 : Int32), s)
else
if (9 : Int32) < x2 then
some ((0 : Int32), s)
else
some ((1 : Int32), s)
else
if x1 = (2 : Int32) then
if x2 < 0 then
some ((0 : Int32), s)
else
if (9 : Int32) < x2 then
some ((0 : Int32), s)
else
some ((1 : Int32), s)
else
if x1 = (3 : Int32) then
if x2 < (1 : Int32) then
some ((0 : Int32), s)
else
if (9 : Int32) < x2 then
some ((0 : Int32), s)
else
some ((1 : Int32), s)
else
some ((0 : Int32), s)
theorem zyC14 {X : zx_X}     {x1 : Int32} {x2 : Int32} {s : zy_S} {r : Int32} {s' : zy_S}  (h : zyF14 x1 x2 s = some (r, s')) : zyR X 1 14 0 [none, some (.int x1), some (.int x2)] [] s (zyE (some (.int r)) s') := by
  unfold zyF14 at h
  refine zy_2 rfl rfl (show zyR _ _ _ _ [none, some (.int x1), some (.int x2)] [.int x1] _ _ from ?_)
  refine zy_50 rfl (by decide) ?_
  refine zy_swp (fun b3 => (show zyR _ _ _ _ [none, some (.int x1), some (.int x2)] [] _ _ from ?_)) (fun b3 => ?_)
  · replace h := zy_ifp h b3
    refine zy_2 rfl rfl (show zyR _ _ _ _ [none, some (.int x1), some (.int x2)] [.int x2] _ _ from ?_)
    refine zy_24_2 rfl (fun b2 => (show zyR _ _ _ _ [none, some (.int x1), some (.int x2)] [] _ _ from ?_)) (fun b2 => (show zyR _ _ _ _ [none, some (.int x1), some (.int x2)] [] _ _ from ?_))
    · replace h := zy_ifp h b2
      refine zy_3 rfl rfl (show zyR _ _ _ _ [none, some (.int x1), some (.int x2)] [.int (0 : Int32)] _ _ from ?_)
      cases h
      exact zy_4b rfl ⟨rfl, rfl⟩ (Or.inl rfl)
    · replace h := zy_ifn h b2
      refine zy_2 rfl rfl (show zyR _ _ _ _ [none, some (.int x1), some (.int x2)] [.int x2] _ _ from ?_)
      refine zy_3 rfl rfl (show zyR _ _ _ _ [none, some (.int x1), some (.int x2)] [.int (4096 : Int32), .int x2] _ _ from ?_)
      refine zy_25_3 rfl (fun b1 => (show zyR _ _ _ _ [none, some (.int x1), some (.int x2)] [] _ _ from ?_)) (fun b1 => (show zyR _ _ _ _ [none, some (.int x1), some (.int x2)] [] _ _ from ?_))
      · replace h := zy_ifp h b1
        refine zy_3 rfl rfl (show zyR _ _ _ _ [none, some (.int x1), some (.int x2)] [.int (0 : Int32)] _ _ from ?_)
        cases h
        exact zy_4b rfl ⟨rfl, rfl⟩ (Or.inl rfl)
      · replace h := zy_ifn h b1
        refine zy_3 rfl rfl (show zyR _ _ _ _ [none, some (.int x1), some (.int x2)] [.int (1 : Int32)] _ _ from ?_)
        refine zy_6 rfl (show zyR _ _ _ _ [none, some (.int x1), some (.int x2)] [.int (1 : Int32)] _ _ from ?_)
        cases h
        exact zy_4b rfl ⟨rfl, rfl⟩ (Or.inr rfl)
  replace h := zy_ifn h b3
  refine zy_swp (fun b6 => (show zyR _ _ _ _ [none, some (.int x1), some (.int x2)] [] _ _ from ?_)) (fun b6 => ?_)
  · replace h := zy_ifp h b6
    refine zy_2 rfl rfl (show zyR _ _ _ _ [none, some (.int x1), some (.int x2)] [.int x2] _ _ from ?_)
    refine zy_24_2 rfl (fun b5 => (show zyR _ _ _ _ [none, some (.int x1), some (.int x2)] [] _ _ from ?_)) (fun b5 => (show zyR _ _ _ _ [none, some (.int x1), some (.int x2)] [] _ _ from ?_))
    · replace h := zy_ifp h b5
      refine zy_3 rfl rfl (show zyR _ _ _ _ [none, some (.int x1), some (.int x2)] [.int (0 : Int32)] _ _ from ?_)
      cases h
      exact zy_4b rfl ⟨rfl, rfl⟩ (Or.inl rfl)
    · replace h := zy_ifn h b5
      refine zy_2 rfl rfl (show zyR _ _ _ _ [none, some (.int x1), some (.int x2)] [.int x2] _ _ from ?_)
      refine zy_3 rfl rfl (show zyR _ _ _ _ [none, some (.int x1), some (.int x2)] [.int (9 : Int32), .int x2] _ _ from ?_)
      refine zy_25_4 rfl (fun b4 => (show zyR _ _ _ _ [none, some (.int x1), some (.int x2)] [] _ _ from ?_)) (fun b4 => (show zyR _ _ _ _ [none, some (.int x1), some (.int x2)] [] _ _ from ?_))
      · replace h := zy_ifp h b4
        refine zy_3 rfl rfl (show zyR _ _ _ _ [none, some (.int x1), some (.int x2)] [.int (0 : Int32)] _ _ from ?_)
        cases h
        exact zy_4b rfl ⟨rfl, rfl⟩ (Or.inl rfl)
      · replace h := zy_ifn h b4
        refine zy_3 rfl rfl (show zyR _ _ _ _ [none, some (.int x1), some (.int x2)] [.int (1 : Int32)] _ _ from ?_)
        refine zy_6 rfl (show zyR _ _ _ _ [none, some (.int x1), some (.int x2)] [.int (1 : Int32)] _ _ from ?_)
        cases h
        exact zy_4b rfl ⟨rfl, rfl⟩ (Or.inr rfl)
  replace h := zy_ifn h b6
  refine zy_swp (fun b9 => (show zyR _ _ _ _ [none, some (.int x1), some (.int x2)] [] _ _ from ?_)) (fun b9 => ?_)
  · replace h := zy_ifp h b9
    refine zy_2 rfl rfl (show zyR _ _ _ _ [none, some (.int x1), some (.int x2)] [.int x2] _ _ from ?_)
    refine zy_24_2 rfl (fun b8 => (show zyR _ _ _ _ [none, some (.int x1), some (.int x2)] [] _ _ from ?_)) (fun b8 => (show zyR _ _ _ _ [none, some (.int x1), some (.int x2)] [] _ _ from ?_))
    · replace h := zy_ifp h b8
      refine zy_3 rfl rfl (show zyR _ _ _ _ [none, some (.int x1), some (.int x2)] [.int (0 : Int32)] _ _ from ?_)
      cases h
      exact zy_4b rfl ⟨rfl, rfl⟩ (Or.inl rfl)
    · replace h := zy_ifn h b8
      refine zy_2 rfl rfl (show zyR _ _ _ _ [none, some (.int x1), some (.int x2)] [.int x2] _ _ from ?_)
      refine zy_3 rfl rfl (show zyR _ _ _ _ [none, some (.int x1), some (.int x2)] [.int (9 : Int32), .int x2] _ _ from ?_)
      refine zy_25_4 rfl (fun b7 => (show zyR _ _ _ _ [none, some (.int x1), some (.int x2)] [] _ _ from ?_)) (fun b7 => (show zyR _ _ _ _ [none, some (.int x1), some (.int x2)] [] _ _ from ?_))
      · replace h := zy_ifp h b7
        refine zy_3 rfl rfl (show zyR _ _ _ _ [none, some (.int x1), some (.int x2)] [.int (0 : Int32)] _ _ from ?_)
        cases h
        exact zy_4b rfl ⟨rfl, rfl⟩ (Or.inl rfl)
      · replace h := zy_ifn h b7
        refine zy_3 rfl rfl (show zyR _ _ _ _ [none, some (.int x1), some (.int x2)] [.int (1 : Int32)] _ _ from ?_)
        refine zy_6 rfl (show zyR _ _ _ _ [none, some (.int x1), some (.int x2)] [.int (1 : Int32)] _ _ from ?_)
        cases h
        exact zy_4b rfl ⟨rfl, rfl⟩ (Or.inr rfl)
  replace h := zy_ifn h b9
  refine zy_swp (fun b12 => (show zyR _ _ _ _ [none, some (.int x1), some (.int x2)] [] _ _ from ?_)) (fun b12 => ?_)
  · replace h := zy_ifp h b12
    refine zy_2 rfl rfl (show zyR _ _ _ _ [none, some (.int x1), some (.int x2)] [.int x2] _ _ from ?_)
    refine zy_3 rfl rfl (show zyR _ _ _ _ [none, some (.int x1), some (.int x2)] [.int (1 : Int32), .int x2] _ _ from ?_)
    refine zy_25_2 rfl (fun b11 => (show zyR _ _ _ _ [none, some (.int x1), some (.int x2)] [] _ _ from ?_)) (fun b11 => (show zyR _ _ _ _ [none, some (.int x1), some (.int x2)] [] _ _ from ?_))
    · replace h := zy_ifp h b11
      refine zy_3 rfl rfl (show zyR _ _ _ _ [none, some (.int x1), some (.int x2)] [.int (0 : Int32)] _ _ from ?_)
      cases h
      exact zy_4b rfl ⟨rfl, rfl⟩ (Or.inl rfl)
    · replace h := zy_ifn h b11
      refine zy_2 rfl rfl (show zyR _ _ _ _ [none, some (.int x1), some (.int x2)] [.int x2] _ _ from ?_)
      refine zy_3 rfl rfl (show zyR _ _ _ _ [none, some (.int x1), some (.int x2)] [.int (9 : Int32), .int x2] _ _ from ?_)
      refine zy_25_4 rfl (fun b10 => (show zyR _ _ _ _ [none, some (.int x1), some (.int x2)] [] _ _ from ?_)) (fun b10 => (show zyR _ _ _ _ [none, some (.int x1), some (.int x2)] [] _ _ from ?_))
      · replace h := zy_ifp h b10
        refine zy_3 rfl rfl (show zyR _ _ _ _ [none, some (.int x1), some (.int x2)] [.int (0 : Int32)] _ _ from ?_)
        cases h
        exact zy_4b rfl ⟨rfl, rfl⟩ (Or.inl rfl)
      · replace h := zy_ifn h b10
        refine zy_3 rfl rfl (show zyR _ _ _ _ [none, some (.int x1), some (.int x2)] [.int (1 : Int32)] _ _ from ?_)
        refine zy_6 rfl (show zyR _ _ _ _ [none, some (.int x1), some (.int x2)] [.int (1 : Int32)] _ _ from ?_)
        cases h
        exact zy_4b rfl ⟨rfl, rfl⟩ (Or.inr rfl)
  replace h := zy_ifn h b12
  show zyR _ _ _ _ [none, some (.int x1), some (.int x2)] [] _ _
  refine zy_3 rfl rfl (show zyR _ _ _ _ [none, some (.int x1), some (.int x2)] [.int (0 : Int32)] _ _ from ?_)
  cases h
  exact zy_4b rfl ⟨rfl, rfl⟩ (Or.inl rfl)
/-! NineOpinions$Town.isFull()Z -/
noncomputable def zyF15    (s : zy_S) : Option (Int32 × zy_S) :=
if (s.1 1 5) < (8 : Int32) then
some ((0 : Int32), s)
else
some ((1 : Int32), s)
theorem zyC15 {X : zx_X}      {s : zy_S} {r : Int32} {s' : zy_S}  (h : zyF15 s = some (r, s')) : zyR X 1 15 0 [some (.ref (1 + 3))] [] s (zyE (some (.int r)) s') := by
  unfold zyF15 at h
  refine zy_0 rfl rfl (show zyR _ _ _ _ [some (.ref (1 + 3))] [.ref (1 + 3)] _ _ from ?_)
  refine zy_1 (c := 1) rfl rfl rfl (show zyR _ _ _ _ [some (.ref (1 + 3))] [.int (s.1 1 5)] _ _ from ?_)
  refine zy_3 rfl rfl (show zyR _ _ _ _ [some (.ref (1 + 3))] [.int (8 : Int32), .int (s.1 1 5)] _ _ from ?_)
  refine zy_25_2 rfl (fun b1 => (show zyR _ _ _ _ [some (.ref (1 + 3))] [] _ _ from ?_)) (fun b1 => (show zyR _ _ _ _ [some (.ref (1 + 3))] [] _ _ from ?_))
  · replace h := zy_ifp h b1
    refine zy_3 rfl rfl (show zyR _ _ _ _ [some (.ref (1 + 3))] [.int (0 : Int32)] _ _ from ?_)
    cases h
    exact zy_4b rfl ⟨rfl, rfl⟩ (Or.inl rfl)
  · replace h := zy_ifn h b1
    refine zy_3 rfl rfl (show zyR _ _ _ _ [some (.ref (1 + 3))] [.int (1 : Int32)] _ _ from ?_)
    refine zy_6 rfl (show zyR _ _ _ _ [some (.ref (1 + 3))] [.int (1 : Int32)] _ _ from ?_)
    cases h
    exact zy_4b rfl ⟨rfl, rfl⟩ (Or.inr rfl)
/-! NineOpinions$Town.welcome(II)I -/
noncomputable def zyF16   (x1 : Int32) (x2 : Int32) (s : zy_S) : Option (Int32 × zy_S) :=
if zy_in (s.1 1 5) 8 then
if zy_in (s.1 1 5) 8 then
some ((s.1 1 5), (zy_up (zy_up (zy_up s 3 ((s.1 1 5)).toNatClampNeg x1) 4 ((s.1 1 5)).toNatClampNeg x2) 1 5 ((s.1 1 5) + (1 : Int32))))
else none
else none
theorem zyC16 {X : zx_X}     {x1 : Int32} {x2 : Int32} {s : zy_S} {r : Int32} {s' : zy_S}  (h : zyF16 x1 x2 s = some (r, s')) : zyR X 1 16 0 [some (.ref (1 + 3)), some (.int x1), some (.int x2), none] [] s (zyE (some (.int r)) s') := by
  unfold zyF16 at h
  refine zy_0 rfl rfl (show zyR _ _ _ _ [some (.ref (1 + 3)), some (.int x1), some (.int x2), none] [.ref (1 + 3)] _ _ from ?_)
  refine zy_1 (c := 1) rfl rfl rfl (show zyR _ _ _ _ [some (.ref (1 + 3)), some (.int x1), some (.int x2), none] [.int (s.1 1 5)] _ _ from ?_)
  refine zy_23 rfl rfl (show zyR _ _ _ _ [some (.ref (1 + 3)), some (.int x1), some (.int x2), some (.int (s.1 1 5))] [] _ _ from ?_)
  refine zy_0 rfl rfl (show zyR _ _ _ _ [some (.ref (1 + 3)), some (.int x1), some (.int x2), some (.int (s.1 1 5))] [.ref (1 + 3)] _ _ from ?_)
  refine zy_1r (c := 1) rfl rfl rfl (show zyR _ _ _ _ [some (.ref (1 + 3)), some (.int x1), some (.int x2), some (.int (s.1 1 5))] [.ref (3 + 3)] _ _ from ?_)
  refine zy_2 rfl rfl (show zyR _ _ _ _ [some (.ref (1 + 3)), some (.int x1), some (.int x2), some (.int (s.1 1 5))] [.int (s.1 1 5), .ref (3 + 3)] _ _ from ?_)
  refine zy_2 rfl rfl (show zyR _ _ _ _ [some (.ref (1 + 3)), some (.int x1), some (.int x2), some (.int (s.1 1 5))] [.int x1, .int (s.1 1 5), .ref (3 + 3)] _ _ from ?_)
  obtain ⟨c1, h⟩ := zy_if h
  refine zy_27 (c := 3) rfl rfl c1 (show zyR _ _ _ _ [some (.ref (1 + 3)), some (.int x1), some (.int x2), some (.int (s.1 1 5))] [] _ _ from ?_)
  refine zy_0 rfl rfl (show zyR _ _ _ _ [some (.ref (1 + 3)), some (.int x1), some (.int x2), some (.int (s.1 1 5))] [.ref (1 + 3)] _ _ from ?_)
  refine zy_1r (c := 1) rfl rfl rfl (show zyR _ _ _ _ [some (.ref (1 + 3)), some (.int x1), some (.int x2), some (.int (s.1 1 5))] [.ref (4 + 3)] _ _ from ?_)
  refine zy_2 rfl rfl (show zyR _ _ _ _ [some (.ref (1 + 3)), some (.int x1), some (.int x2), some (.int (s.1 1 5))] [.int (s.1 1 5), .ref (4 + 3)] _ _ from ?_)
  refine zy_2 rfl rfl (show zyR _ _ _ _ [some (.ref (1 + 3)), some (.int x1), some (.int x2), some (.int (s.1 1 5))] [.int x2, .int (s.1 1 5), .ref (4 + 3)] _ _ from ?_)
  obtain ⟨c2, h⟩ := zy_if h
  refine zy_27 (c := 4) rfl rfl c2 (show zyR _ _ _ _ [some (.ref (1 + 3)), some (.int x1), some (.int x2), some (.int (s.1 1 5))] [] _ _ from ?_)
  refine zy_0 rfl rfl (show zyR _ _ _ _ [some (.ref (1 + 3)), some (.int x1), some (.int x2), some (.int (s.1 1 5))] [.ref (1 + 3)] _ _ from ?_)
  refine zy_33 rfl rfl (show zyR _ _ _ _ [some (.ref (1 + 3)), some (.int x1), some (.int x2), some (.int (s.1 1 5))] [.ref (1 + 3), .ref (1 + 3)] _ _ from ?_)
  refine zy_1 (c := 1) rfl rfl rfl (show zyR _ _ _ _ [some (.ref (1 + 3)), some (.int x1), some (.int x2), some (.int (s.1 1 5))] [.int (s.1 1 5), .ref (1 + 3)] _ _ from ?_)
  refine zy_3 rfl rfl (show zyR _ _ _ _ [some (.ref (1 + 3)), some (.int x1), some (.int x2), some (.int (s.1 1 5))] [.int (1 : Int32), .int (s.1 1 5), .ref (1 + 3)] _ _ from ?_)
  refine zy_10 rfl (show zyR _ _ _ _ [some (.ref (1 + 3)), some (.int x1), some (.int x2), some (.int (s.1 1 5))] [.int ((s.1 1 5) + (1 : Int32)), .ref (1 + 3)] _ _ from ?_)
  refine zy_52 (c := 1) rfl rfl rfl (show zyR _ _ _ _ [some (.ref (1 + 3)), some (.int x1), some (.int x2), some (.int (s.1 1 5))] [] _ _ from ?_)
  refine zy_2 rfl rfl (show zyR _ _ _ _ [some (.ref (1 + 3)), some (.int x1), some (.int x2), some (.int (s.1 1 5))] [.int (s.1 1 5)] _ _ from ?_)
  obtain ⟨rfl, rfl⟩ := zy_pi h
  exact zy_4 rfl ⟨rfl, rfl⟩
/-! NineOpinions.person(I)I -/
noncomputable def zyF13   (x1 : Int32) (s : zy_S) : Option (Int32 × zy_S) :=
(zyF14 (0 : Int32) x1 s).bind fun p1 =>
if p1.1 ≠ 0 then
(zyF15 p1.2).bind fun p2 =>
if p2.1 = 0 then
(zyF16 x1 (1 : Int32) p2.2).bind fun p3 =>
some (p3.1, p3.2)
else
some ((-3 : Int32), p2.2)
else
some ((-1 : Int32), p1.2)
theorem zyC13 {X : zx_X}     {x1 : Int32} {s : zy_S} {r : Int32} {s' : zy_S}  (h : zyF13 x1 s = some (r, s')) : zyR X 2 13 0 [some (.ref (0 + 3)), some (.int x1)] [] s (zyE (some (.int r)) s') := by
  unfold zyF13 at h
  refine zy_0 rfl rfl (show zyR _ _ _ _ [some (.ref (0 + 3)), some (.int x1)] [.ref (0 + 3)] _ _ from ?_)
  refine zy_1r (c := 0) rfl rfl rfl (show zyR _ _ _ _ [some (.ref (0 + 3)), some (.int x1)] [.ref (1 + 3)] _ _ from ?_)
  refine zy_3 rfl rfl (show zyR _ _ _ _ [some (.ref (0 + 3)), some (.int x1)] [.int (0 : Int32), .ref (1 + 3)] _ _ from ?_)
  refine zy_2 rfl rfl (show zyR _ _ _ _ [some (.ref (0 + 3)), some (.int x1)] [.int x1, .int (0 : Int32), .ref (1 + 3)] _ _ from ?_)
  obtain ⟨p1, hp1, h⟩ := zy_bind h
  refine zy_5 (c := 1) (as := [.int (0 : Int32), .int x1]) (rest := []) (L := [some (.ref (1 + 3)), some (.int (0 : Int32)), some (.int x1)]) (d' := 1) rfl rfl rfl (Nat.le_of_ble_eq_true rfl) (Nat.le_of_ble_eq_true rfl) rfl (Nat.le_of_ble_eq_true rfl) rfl rfl (zy_sub (show zy_le [none, some (.int (0 : Int32)), some (.int x1)] [some (.ref (1 + 3)), some (.int (0 : Int32)), some (.int x1)] from ⟨rfl, ⟨rfl, trivial⟩⟩) (zyC14 hp1)) ?_
  show zyR _ _ _ _ [some (.ref (0 + 3)), some (.int x1)] [.int p1.1] _ _
  refine zy_24_1 rfl (fun b5 => (show zyR _ _ _ _ [some (.ref (0 + 3)), some (.int x1)] [] _ _ from ?_)) (fun b5 => (show zyR _ _ _ _ [some (.ref (0 + 3)), some (.int x1)] [] _ _ from ?_))
  · replace h := zy_ifp h b5
    refine zy_0 rfl rfl (show zyR _ _ _ _ [some (.ref (0 + 3)), some (.int x1)] [.ref (0 + 3)] _ _ from ?_)
    refine zy_1r (c := 0) rfl rfl rfl (show zyR _ _ _ _ [some (.ref (0 + 3)), some (.int x1)] [.ref (1 + 3)] _ _ from ?_)
    obtain ⟨p2, hp2, h⟩ := zy_bind h
    refine zy_5 (c := 1) (as := []) (rest := []) (L := [some (.ref (1 + 3))]) (d' := 1) rfl rfl rfl (Nat.le_of_ble_eq_true rfl) (Nat.le_of_ble_eq_true rfl) rfl (Nat.le_of_ble_eq_true rfl) rfl rfl (zyC15 hp2) ?_
    show zyR _ _ _ _ [some (.ref (0 + 3)), some (.int x1)] [.int p2.1] _ _
    refine zy_24_0 rfl (fun b4 => (show zyR _ _ _ _ [some (.ref (0 + 3)), some (.int x1)] [] _ _ from ?_)) (fun b4 => (show zyR _ _ _ _ [some (.ref (0 + 3)), some (.int x1)] [] _ _ from ?_))
    · replace h := zy_ifp h b4
      refine zy_0 rfl rfl (show zyR _ _ _ _ [some (.ref (0 + 3)), some (.int x1)] [.ref (0 + 3)] _ _ from ?_)
      refine zy_1r (c := 0) rfl rfl rfl (show zyR _ _ _ _ [some (.ref (0 + 3)), some (.int x1)] [.ref (1 + 3)] _ _ from ?_)
      refine zy_2 rfl rfl (show zyR _ _ _ _ [some (.ref (0 + 3)), some (.int x1)] [.int x1, .ref (1 + 3)] _ _ from ?_)
      refine zy_3 rfl rfl (show zyR _ _ _ _ [some (.ref (0 + 3)), some (.int x1)] [.int (1 : Int32), .int x1, .ref (1 + 3)] _ _ from ?_)
      obtain ⟨p3, hp3, h⟩ := zy_bind h
      refine zy_5 (c := 1) (as := [.int x1, .int (1 : Int32)]) (rest := []) (L := [some (.ref (1 + 3)), some (.int x1), some (.int (1 : Int32)), none]) (d' := 1) rfl rfl rfl (Nat.le_of_ble_eq_true rfl) (Nat.le_of_ble_eq_true rfl) rfl (Nat.le_of_ble_eq_true rfl) rfl rfl (zyC16 hp3) ?_
      show zyR _ _ _ _ [some (.ref (0 + 3)), some (.int x1)] [.int p3.1] _ _
      obtain ⟨rfl, rfl⟩ := zy_pi h
      exact zy_4 rfl ⟨rfl, rfl⟩
    · replace h := zy_ifn h b4
      refine zy_3 rfl rfl (show zyR _ _ _ _ [some (.ref (0 + 3)), some (.int x1)] [.int (-3 : Int32)] _ _ from ?_)
      refine zy_6 rfl (show zyR _ _ _ _ [some (.ref (0 + 3)), some (.int x1)] [.int (-3 : Int32)] _ _ from ?_)
      obtain ⟨rfl, rfl⟩ := zy_pi h
      exact zy_4 rfl ⟨rfl, rfl⟩
  · replace h := zy_ifn h b5
    refine zy_3 rfl rfl (show zyR _ _ _ _ [some (.ref (0 + 3)), some (.int x1)] [.int (-1 : Int32)] _ _ from ?_)
    obtain ⟨rfl, rfl⟩ := zy_pi h
    exact zy_4 rfl ⟨rfl, rfl⟩
/-! NineOpinions.isShelf(I)Z -/
noncomputable def zyF18   (x0 : Int32) (s : zy_S) : Option (Int32 × zy_S) :=
if x0 < 0 then
some ((0 : Int32), s)
else
if (6 : Int32) ≤ x0 then
some ((0 : Int32), s)
else
some ((1 : Int32), s)
theorem zyC18 {X : zx_X}     {x0 : Int32} {s : zy_S} {r : Int32} {s' : zy_S}  (h : zyF18 x0 s = some (r, s')) : zyR X 1 18 0 [some (.int x0)] [] s (zyE (some (.int r)) s') := by
  unfold zyF18 at h
  refine zy_2 rfl rfl (show zyR _ _ _ _ [some (.int x0)] [.int x0] _ _ from ?_)
  refine zy_24_2 rfl (fun b2 => (show zyR _ _ _ _ [some (.int x0)] [] _ _ from ?_)) (fun b2 => (show zyR _ _ _ _ [some (.int x0)] [] _ _ from ?_))
  · replace h := zy_ifp h b2
    refine zy_3 rfl rfl (show zyR _ _ _ _ [some (.int x0)] [.int (0 : Int32)] _ _ from ?_)
    cases h
    exact zy_4b rfl ⟨rfl, rfl⟩ (Or.inl rfl)
  · replace h := zy_ifn h b2
    refine zy_2 rfl rfl (show zyR _ _ _ _ [some (.int x0)] [.int x0] _ _ from ?_)
    refine zy_3 rfl rfl (show zyR _ _ _ _ [some (.int x0)] [.int (6 : Int32), .int x0] _ _ from ?_)
    refine zy_25_3 rfl (fun b1 => (show zyR _ _ _ _ [some (.int x0)] [] _ _ from ?_)) (fun b1 => (show zyR _ _ _ _ [some (.int x0)] [] _ _ from ?_))
    · replace h := zy_ifp h b1
      refine zy_3 rfl rfl (show zyR _ _ _ _ [some (.int x0)] [.int (0 : Int32)] _ _ from ?_)
      cases h
      exact zy_4b rfl ⟨rfl, rfl⟩ (Or.inl rfl)
    · replace h := zy_ifn h b1
      refine zy_3 rfl rfl (show zyR _ _ _ _ [some (.int x0)] [.int (1 : Int32)] _ _ from ?_)
      refine zy_6 rfl (show zyR _ _ _ _ [some (.int x0)] [.int (1 : Int32)] _ _ from ?_)
      cases h
      exact zy_4b rfl ⟨rfl, rfl⟩ (Or.inr rfl)
/-! NineOpinions$Shelf.isRow()Z -/
noncomputable def zyF20   (x0 : Nat) (s : zy_S) : Option (Int32 × zy_S) :=
if (s.1 x0 2) = (-1 : Int32) then
some ((0 : Int32), s)
else
some ((1 : Int32), s)
theorem zyC20 {X : zx_X}     {x0 : Nat} {s : zy_S} {r : Int32} {s' : zy_S} (hs_x0 : zy_isSh x0) (h : zyF20 x0 s = some (r, s')) : zyR X 1 20 0 [some (.ref (x0 + 3))] [] s (zyE (some (.int r)) s') := by
  unfold zyF20 at h
  refine zy_0 rfl rfl (show zyR _ _ _ _ [some (.ref (x0 + 3))] [.ref (x0 + 3)] _ _ from ?_)
  refine zy_1 (c := x0) rfl hs_x0.1 rfl (show zyR _ _ _ _ [some (.ref (x0 + 3))] [.int (s.1 x0 2)] _ _ from ?_)
  refine zy_3 rfl rfl (show zyR _ _ _ _ [some (.ref (x0 + 3))] [.int (-1 : Int32), .int (s.1 x0 2)] _ _ from ?_)
  refine zy_25_0 rfl (fun b1 => (show zyR _ _ _ _ [some (.ref (x0 + 3))] [] _ _ from ?_)) (fun b1 => (show zyR _ _ _ _ [some (.ref (x0 + 3))] [] _ _ from ?_))
  · replace h := zy_ifp h b1
    refine zy_3 rfl rfl (show zyR _ _ _ _ [some (.ref (x0 + 3))] [.int (0 : Int32)] _ _ from ?_)
    cases h
    exact zy_4b rfl ⟨rfl, rfl⟩ (Or.inl rfl)
  · replace h := zy_ifn h b1
    refine zy_3 rfl rfl (show zyR _ _ _ _ [some (.ref (x0 + 3))] [.int (1 : Int32)] _ _ from ?_)
    refine zy_6 rfl (show zyR _ _ _ _ [some (.ref (x0 + 3))] [.int (1 : Int32)] _ _ from ?_)
    cases h
    exact zy_4b rfl ⟨rfl, rfl⟩ (Or.inr rfl)
/-! NineOpinions$Shelf.isBare()Z -/
noncomputable def zyF19   (x0 : Nat) (s : zy_S) : Option (Int32 × zy_S) :=
if (s.1 x0 1) ≠ (-1 : Int32) then
some ((0 : Int32), s)
else
(zyF20 x0 s).bind fun p1 =>
if p1.1 ≠ 0 then
some ((0 : Int32), p1.2)
else
some ((1 : Int32), p1.2)
theorem zyC19 {X : zx_X}     {x0 : Nat} {s : zy_S} {r : Int32} {s' : zy_S} (hs_x0 : zy_isSh x0) (h : zyF19 x0 s = some (r, s')) : zyR X 2 19 0 [some (.ref (x0 + 3))] [] s (zyE (some (.int r)) s') := by
  unfold zyF19 at h
  refine zy_0 rfl rfl (show zyR _ _ _ _ [some (.ref (x0 + 3))] [.ref (x0 + 3)] _ _ from ?_)
  refine zy_1 (c := x0) rfl hs_x0.1 rfl (show zyR _ _ _ _ [some (.ref (x0 + 3))] [.int (s.1 x0 1)] _ _ from ?_)
  refine zy_3 rfl rfl (show zyR _ _ _ _ [some (.ref (x0 + 3))] [.int (-1 : Int32), .int (s.1 x0 1)] _ _ from ?_)
  refine zy_25_1 rfl (fun b3 => (show zyR _ _ _ _ [some (.ref (x0 + 3))] [] _ _ from ?_)) (fun b3 => (show zyR _ _ _ _ [some (.ref (x0 + 3))] [] _ _ from ?_))
  · replace h := zy_ifp h b3
    refine zy_3 rfl rfl (show zyR _ _ _ _ [some (.ref (x0 + 3))] [.int (0 : Int32)] _ _ from ?_)
    cases h
    exact zy_4b rfl ⟨rfl, rfl⟩ (Or.inl rfl)
  · replace h := zy_ifn h b3
    refine zy_0 rfl rfl (show zyR _ _ _ _ [some (.ref (x0 + 3))] [.ref (x0 + 3)] _ _ from ?_)
    obtain ⟨p1, hp1, h⟩ := zy_bind h
    refine zy_5 (c := x0) (as := []) (rest := []) (L := [some (.ref (x0 + 3))]) (d' := 1) rfl rfl hs_x0.1 (Nat.le_of_ble_eq_true rfl) (Nat.le_of_ble_eq_true rfl) rfl (Nat.le_of_ble_eq_true rfl) rfl rfl (zyC20 hs_x0 hp1) ?_
    show zyR _ _ _ _ [some (.ref (x0 + 3))] [.int p1.1] _ _
    refine zy_24_1 rfl (fun b2 => (show zyR _ _ _ _ [some (.ref (x0 + 3))] [] _ _ from ?_)) (fun b2 => (show zyR _ _ _ _ [some (.ref (x0 + 3))] [] _ _ from ?_))
    · replace h := zy_ifp h b2
      refine zy_3 rfl rfl (show zyR _ _ _ _ [some (.ref (x0 + 3))] [.int (0 : Int32)] _ _ from ?_)
      cases h
      exact zy_4b rfl ⟨rfl, rfl⟩ (Or.inl rfl)
    · replace h := zy_ifn h b2
      refine zy_3 rfl rfl (show zyR _ _ _ _ [some (.ref (x0 + 3))] [.int (1 : Int32)] _ _ from ?_)
      refine zy_6 rfl (show zyR _ _ _ _ [some (.ref (x0 + 3))] [.int (1 : Int32)] _ _ from ?_)
      cases h
      exact zy_4b rfl ⟨rfl, rfl⟩ (Or.inr rfl)
/-! NineOpinions$Shelf.isRowOf(I)Z -/
noncomputable def zyF21   (x0 : Nat) (x1 : Int32) (s : zy_S) : Option (Int32 × zy_S) :=
(zyF20 x0 s).bind fun p1 =>
if p1.1 = 0 then
some ((0 : Int32), p1.2)
else
if (p1.2.1 x0 2) ≠ x1 then
some ((0 : Int32), p1.2)
else
some ((1 : Int32), p1.2)
theorem zyC21 {X : zx_X}     {x0 : Nat} {x1 : Int32} {s : zy_S} {r : Int32} {s' : zy_S} (hs_x0 : zy_isSh x0) (h : zyF21 x0 x1 s = some (r, s')) : zyR X 2 21 0 [some (.ref (x0 + 3)), some (.int x1)] [] s (zyE (some (.int r)) s') := by
  unfold zyF21 at h
  refine zy_0 rfl rfl (show zyR _ _ _ _ [some (.ref (x0 + 3)), some (.int x1)] [.ref (x0 + 3)] _ _ from ?_)
  obtain ⟨p1, hp1, h⟩ := zy_bind h
  refine zy_5 (c := x0) (as := []) (rest := []) (L := [some (.ref (x0 + 3))]) (d' := 1) rfl rfl hs_x0.1 (Nat.le_of_ble_eq_true rfl) (Nat.le_of_ble_eq_true rfl) rfl (Nat.le_of_ble_eq_true rfl) rfl rfl (zyC20 hs_x0 hp1) ?_
  show zyR _ _ _ _ [some (.ref (x0 + 3)), some (.int x1)] [.int p1.1] _ _
  refine zy_24_0 rfl (fun b3 => (show zyR _ _ _ _ [some (.ref (x0 + 3)), some (.int x1)] [] _ _ from ?_)) (fun b3 => (show zyR _ _ _ _ [some (.ref (x0 + 3)), some (.int x1)] [] _ _ from ?_))
  · replace h := zy_ifp h b3
    refine zy_3 rfl rfl (show zyR _ _ _ _ [some (.ref (x0 + 3)), some (.int x1)] [.int (0 : Int32)] _ _ from ?_)
    cases h
    exact zy_4b rfl ⟨rfl, rfl⟩ (Or.inl rfl)
  · replace h := zy_ifn h b3
    refine zy_0 rfl rfl (show zyR _ _ _ _ [some (.ref (x0 + 3)), some (.int x1)] [.ref (x0 + 3)] _ _ from ?_)
    refine zy_1 (c := x0) rfl hs_x0.1 rfl (show zyR _ _ _ _ [some (.ref (x0 + 3)), some (.int x1)] [.int (p1.2.1 x0 2)] _ _ from ?_)
    refine zy_2 rfl rfl (show zyR _ _ _ _ [some (.ref (x0 + 3)), some (.int x1)] [.int x1, .int (p1.2.1 x0 2)] _ _ from ?_)
    refine zy_25_1 rfl (fun b2 => (show zyR _ _ _ _ [some (.ref (x0 + 3)), some (.int x1)] [] _ _ from ?_)) (fun b2 => (show zyR _ _ _ _ [some (.ref (x0 + 3)), some (.int x1)] [] _ _ from ?_))
    · replace h := zy_ifp h b2
      refine zy_3 rfl rfl (show zyR _ _ _ _ [some (.ref (x0 + 3)), some (.int x1)] [.int (0 : Int32)] _ _ from ?_)
      cases h
      exact zy_4b rfl ⟨rfl, rfl⟩ (Or.inl rfl)
    · replace h := zy_ifn h b2
      refine zy_3 rfl rfl (show zyR _ _ _ _ [some (.ref (x0 + 3)), some (.int x1)] [.int (1 : Int32)] _ _ from ?_)
      refine zy_6 rfl (show zyR _ _ _ _ [some (.ref (x0 + 3)), some (.int x1)] [.int (1 : Int32)] _ _ from ?_)
      cases h
      exact zy_4b rfl ⟨rfl, rfl⟩ (Or.inr rfl)
/-! NineOpinions$Shelf.hasPlaces(II)Z -/
noncomputable def zyF23   (x0 : Nat) (x1 : Int32) (x2 : Int32) (s : zy_S) : Option (Int32 × zy_S) :=
if x1 < 0 then
some ((0 : Int32), s)
else
if x2 < 0 then
some ((0 : Int32), s)
else
if (s.1 x0 3) < x1 then
some ((0 : Int32), s)
else
if ((s.1 x0 3) - x1) < x2 then
some ((0 : Int32), s)
else
some ((1 : Int32), s)
theorem zyC23 {X : zx_X}     {x0 : Nat} {x1 : Int32} {x2 : Int32} {s : zy_S} {r : Int32} {s' : zy_S} (hs_x0 : zy_isSh x0) (h : zyF23 x0 x1 x2 s = some (r, s')) : zyR X 1 23 0 [some (.ref (x0 + 3)), some (.int x1), some (.int x2)] [] s (zyE (some (.int r)) s') := by
  unfold zyF23 at h
  refine zy_2 rfl rfl (show zyR _ _ _ _ [some (.ref (x0 + 3)), some (.int x1), some (.int x2)] [.int x1] _ _ from ?_)
  refine zy_24_2 rfl (fun b4 => (show zyR _ _ _ _ [some (.ref (x0 + 3)), some (.int x1), some (.int x2)] [] _ _ from ?_)) (fun b4 => (show zyR _ _ _ _ [some (.ref (x0 + 3)), some (.int x1), some (.int x2)] [] _ _ from ?_))
  · replace h := zy_ifp h b4
    refine zy_3 rfl rfl (show zyR _ _ _ _ [some (.ref (x0 + 3)), some (.int x1), some (.int x2)] [.int (0 : Int32)] _ _ from ?_)
    cases h
    exact zy_4b rfl ⟨rfl, rfl⟩ (Or.inl rfl)
  · replace h := zy_ifn h b4
    refine zy_2 rfl rfl (show zyR _ _ _ _ [some (.ref (x0 + 3)), some (.int x1), some (.int x2)] [.int x2] _ _ from ?_)
    refine zy_24_2 rfl (fun b3 => (show zyR _ _ _ _ [some (.ref (x0 + 3)), some (.int x1), some (.int x2)] [] _ _ from ?_)) (fun b3 => (show zyR _ _ _ _ [some (.ref (x0 + 3)), some (.int x1), some (.int x2)] [] _ _ from ?_))
    · replace h := zy_ifp h b3
      refine zy_3 rfl rfl (show zyR _ _ _ _ [some (.ref (x0 + 3)), some (.int x1), some (.int x2)] [.int (0 : Int32)] _ _ from ?_)
      cases h
      exact zy_4b rfl ⟨rfl, rfl⟩ (Or.inl rfl)
    · replace h := zy_ifn h b3
      refine zy_2 rfl rfl (show zyR _ _ _ _ [some (.ref (x0 + 3)), some (.int x1), some (.int x2)] [.int x1] _ _ from ?_)
      refine zy_0 rfl rfl (show zyR _ _ _ _ [some (.ref (x0 + 3)), some (.int x1), some (.int x2)] [.ref (x0 + 3), .int x1] _ _ from ?_)
      refine zy_1 (c := x0) rfl hs_x0.1 rfl (show zyR _ _ _ _ [some (.ref (x0 + 3)), some (.int x1), some (.int x2)] [.int (s.1 x0 3), .int x1] _ _ from ?_)
      refine zy_25_4 rfl (fun b2 => (show zyR _ _ _ _ [some (.ref (x0 + 3)), some (.int x1), some (.int x2)] [] _ _ from ?_)) (fun b2 => (show zyR _ _ _ _ [some (.ref (x0 + 3)), some (.int x1), some (.int x2)] [] _ _ from ?_))
      · replace h := zy_ifp h b2
        refine zy_3 rfl rfl (show zyR _ _ _ _ [some (.ref (x0 + 3)), some (.int x1), some (.int x2)] [.int (0 : Int32)] _ _ from ?_)
        cases h
        exact zy_4b rfl ⟨rfl, rfl⟩ (Or.inl rfl)
      · replace h := zy_ifn h b2
        refine zy_2 rfl rfl (show zyR _ _ _ _ [some (.ref (x0 + 3)), some (.int x1), some (.int x2)] [.int x2] _ _ from ?_)
        refine zy_0 rfl rfl (show zyR _ _ _ _ [some (.ref (x0 + 3)), some (.int x1), some (.int x2)] [.ref (x0 + 3), .int x2] _ _ from ?_)
        refine zy_1 (c := x0) rfl hs_x0.1 rfl (show zyR _ _ _ _ [some (.ref (x0 + 3)), some (.int x1), some (.int x2)] [.int (s.1 x0 3), .int x2] _ _ from ?_)
        refine zy_2 rfl rfl (show zyR _ _ _ _ [some (.ref (x0 + 3)), some (.int x1), some (.int x2)] [.int x1, .int (s.1 x0 3), .int x2] _ _ from ?_)
        refine zy_11 rfl (show zyR _ _ _ _ [some (.ref (x0 + 3)), some (.int x1), some (.int x2)] [.int ((s.1 x0 3) - x1), .int x2] _ _ from ?_)
        refine zy_25_4 rfl (fun b1 => (show zyR _ _ _ _ [some (.ref (x0 + 3)), some (.int x1), some (.int x2)] [] _ _ from ?_)) (fun b1 => (show zyR _ _ _ _ [some (.ref (x0 + 3)), some (.int x1), some (.int x2)] [] _ _ from ?_))
        · replace h := zy_ifp h b1
          refine zy_3 rfl rfl (show zyR _ _ _ _ [some (.ref (x0 + 3)), some (.int x1), some (.int x2)] [.int (0 : Int32)] _ _ from ?_)
          cases h
          exact zy_4b rfl ⟨rfl, rfl⟩ (Or.inl rfl)
        · replace h := zy_ifn h b1
          refine zy_3 rfl rfl (show zyR _ _ _ _ [some (.ref (x0 + 3)), some (.int x1), some (.int x2)] [.int (1 : Int32)] _ _ from ?_)
          refine zy_6 rfl (show zyR _ _ _ _ [some (.ref (x0 + 3)), some (.int x1), some (.int x2)] [.int (1 : Int32)] _ _ from ?_)
          cases h
          exact zy_4b rfl ⟨rfl, rfl⟩ (Or.inr rfl)
/-! NineOpinions.comes(LNineOpinions$Shelf;I)Z -/
noncomputable def zyF22   (x1 : Nat) (x2 : Int32) (s : zy_S) : Option (Int32 × zy_S) :=
(zyF15 s).bind fun p1 =>
if p1.1 ≠ 0 then
some ((0 : Int32), p1.2)
else
(zyF23 x1 x2 (2 : Int32) p1.2).bind fun p2 =>
if p2.1 ≠ 0 then
if zy_in x2 60 then
if zy_in (x2 + (1 : Int32)) 60 then
(zyF14 (0 : Int32) ((p2.2.2.1 (x1 + 1) (x2).toNatClampNeg)).toInt32 p2.2).bind fun p5 =>
if p5.1 = 0 then
some ((0 : Int32), p5.2)
else
(zyF14 (1 : Int32) ((p2.2.2.1 (x1 + 1) ((x2 + (1 : Int32))).toNatClampNeg)).toInt32 p5.2).bind fun p6 =>
if p6.1 ≠ 0 then
(zyF16 ((p2.2.2.1 (x1 + 1) (x2).toNatClampNeg)).toInt32 ((p2.2.2.1 (x1 + 1) ((x2 + (1 : Int32))).toNatClampNeg)).toInt32 p6.2).bind fun p7 =>
some ((1 : Int32), p7.2)
else
some ((0 : Int32), p6.2)
else none
else none
else
some ((0 : Int32), p2.2)
theorem zyC22 {X : zx_X}     {x1 : Nat} {x2 : Int32} {s : zy_S} {r : Int32} {s' : zy_S} (hs_x1 : zy_isSh x1) (h : zyF22 x1 x2 s = some (r, s')) : zyR X 2 22 0 [some (.ref (0 + 3)), some (.ref (x1 + 3)), some (.int x2), none, none] [] s (zyE (some (.int r)) s') := by
  unfold zyF22 at h
  refine zy_0 rfl rfl (show zyR _ _ _ _ [some (.ref (0 + 3)), some (.ref (x1 + 3)), some (.int x2), none, none] [.ref (0 + 3)] _ _ from ?_)
  refine zy_1r (c := 0) rfl rfl rfl (show zyR _ _ _ _ [some (.ref (0 + 3)), some (.ref (x1 + 3)), some (.int x2), none, none] [.ref (1 + 3)] _ _ from ?_)
  obtain ⟨p1, hp1, h⟩ := zy_bind h
  refine zy_5 (c := 1) (as := []) (rest := []) (L := [some (.ref (1 + 3))]) (d' := 1) rfl rfl rfl (Nat.le_of_ble_eq_true rfl) (Nat.le_of_ble_eq_true rfl) rfl (Nat.le_of_ble_eq_true rfl) rfl rfl (zyC15 hp1) ?_
  show zyR _ _ _ _ [some (.ref (0 + 3)), some (.ref (x1 + 3)), some (.int x2), none, none] [.int p1.1] _ _
  refine zy_24_1 rfl (fun b11 => (show zyR _ _ _ _ [some (.ref (0 + 3)), some (.ref (x1 + 3)), some (.int x2), none, none] [] _ _ from ?_)) (fun b11 => (show zyR _ _ _ _ [some (.ref (0 + 3)), some (.ref (x1 + 3)), some (.int x2), none, none] [] _ _ from ?_))
  · replace h := zy_ifp h b11
    refine zy_3 rfl rfl (show zyR _ _ _ _ [some (.ref (0 + 3)), some (.ref (x1 + 3)), some (.int x2), none, none] [.int (0 : Int32)] _ _ from ?_)
    cases h
    exact zy_4b rfl ⟨rfl, rfl⟩ (Or.inl rfl)
  · replace h := zy_ifn h b11
    refine zy_0 rfl rfl (show zyR _ _ _ _ [some (.ref (0 + 3)), some (.ref (x1 + 3)), some (.int x2), none, none] [.ref (x1 + 3)] _ _ from ?_)
    refine zy_2 rfl rfl (show zyR _ _ _ _ [some (.ref (0 + 3)), some (.ref (x1 + 3)), some (.int x2), none, none] [.int x2, .ref (x1 + 3)] _ _ from ?_)
    refine zy_3 rfl rfl (show zyR _ _ _ _ [some (.ref (0 + 3)), some (.ref (x1 + 3)), some (.int x2), none, none] [.int (2 : Int32), .int x2, .ref (x1 + 3)] _ _ from ?_)
    obtain ⟨p2, hp2, h⟩ := zy_bind h
    refine zy_5 (c := x1) (as := [.int x2, .int (2 : Int32)]) (rest := []) (L := [some (.ref (x1 + 3)), some (.int x2), some (.int (2 : Int32))]) (d' := 1) rfl rfl hs_x1.1 (Nat.le_of_ble_eq_true rfl) (Nat.le_of_ble_eq_true rfl) rfl (Nat.le_of_ble_eq_true rfl) rfl rfl (zyC23 hs_x1 hp2) ?_
    show zyR _ _ _ _ [some (.ref (0 + 3)), some (.ref (x1 + 3)), some (.int x2), none, none] [.int p2.1] _ _
    refine zy_24_1 rfl (fun b10 => (show zyR _ _ _ _ [some (.ref (0 + 3)), some (.ref (x1 + 3)), some (.int x2), none, none] [] _ _ from ?_)) (fun b10 => (show zyR _ _ _ _ [some (.ref (0 + 3)), some (.ref (x1 + 3)), some (.int x2), none, none] [] _ _ from ?_))
    · replace h := zy_ifp h b10
      refine zy_0 rfl rfl (show zyR _ _ _ _ [some (.ref (0 + 3)), some (.ref (x1 + 3)), some (.int x2), none, none] [.ref (x1 + 3)] _ _ from ?_)
      refine zy_1r (c := x1) rfl hs_x1.1 rfl (show zyR _ _ _ _ [some (.ref (0 + 3)), some (.ref (x1 + 3)), some (.int x2), none, none] [.ref (x1 + 1 + 3)] _ _ from ?_)
      refine zy_2 rfl rfl (show zyR _ _ _ _ [some (.ref (0 + 3)), some (.ref (x1 + 3)), some (.int x2), none, none] [.int x2, .ref (x1 + 1 + 3)] _ _ from ?_)
      obtain ⟨c3, h⟩ := zy_if h
      refine zy_30 (c := (x1 + 1)) rfl hs_x1.2 c3 (show zyR _ _ _ _ [some (.ref (0 + 3)), some (.ref (x1 + 3)), some (.int x2), none, none] [.long (p2.2.2.1 (x1 + 1) (x2).toNatClampNeg)] _ _ from ?_)
      refine zy_41 rfl (show zyR _ _ _ _ [some (.ref (0 + 3)), some (.ref (x1 + 3)), some (.int x2), none, none] [.int ((p2.2.2.1 (x1 + 1) (x2).toNatClampNeg)).toInt32] _ _ from ?_)
      refine zy_23 rfl rfl (show zyR _ _ _ _ [some (.ref (0 + 3)), some (.ref (x1 + 3)), some (.int x2), some (.int ((p2.2.2.1 (x1 + 1) (x2).toNatClampNeg)).toInt32), none] [] _ _ from ?_)
      refine zy_0 rfl rfl (show zyR _ _ _ _ [some (.ref (0 + 3)), some (.ref (x1 + 3)), some (.int x2), some (.int ((p2.2.2.1 (x1 + 1) (x2).toNatClampNeg)).toInt32), none] [.ref (x1 + 3)] _ _ from ?_)
      refine zy_1r (c := x1) rfl hs_x1.1 rfl (show zyR _ _ _ _ [some (.ref (0 + 3)), some (.ref (x1 + 3)), some (.int x2), some (.int ((p2.2.2.1 (x1 + 1) (x2).toNatClampNeg)).toInt32), none] [.ref (x1 + 1 + 3)] _ _ from ?_)
      refine zy_2 rfl rfl (show zyR _ _ _ _ [some (.ref (0 + 3)), some (.ref (x1 + 3)), some (.int x2), some (.int ((p2.2.2.1 (x1 + 1) (x2).toNatClampNeg)).toInt32), none] [.int x2, .ref (x1 + 1 + 3)] _ _ from ?_)
      refine zy_3 rfl rfl (show zyR _ _ _ _ [some (.ref (0 + 3)), some (.ref (x1 + 3)), some (.int x2), some (.int ((p2.2.2.1 (x1 + 1) (x2).toNatClampNeg)).toInt32), none] [.int (1 : Int32), .int x2, .ref (x1 + 1 + 3)] _ _ from ?_)
      refine zy_10 rfl (show zyR _ _ _ _ [some (.ref (0 + 3)), some (.ref (x1 + 3)), some (.int x2), some (.int ((p2.2.2.1 (x1 + 1) (x2).toNatClampNeg)).toInt32), none] [.int (x2 + (1 : Int32)), .ref (x1 + 1 + 3)] _ _ from ?_)
      obtain ⟨c4, h⟩ := zy_if h
      refine zy_30 (c := (x1 + 1)) rfl hs_x1.2 c4 (show zyR _ _ _ _ [some (.ref (0 + 3)), some (.ref (x1 + 3)), some (.int x2), some (.int ((p2.2.2.1 (x1 + 1) (x2).toNatClampNeg)).toInt32), none] [.long (p2.2.2.1 (x1 + 1) ((x2 + (1 : Int32))).toNatClampNeg)] _ _ from ?_)
      refine zy_41 rfl (show zyR _ _ _ _ [some (.ref (0 + 3)), some (.ref (x1 + 3)), some (.int x2), some (.int ((p2.2.2.1 (x1 + 1) (x2).toNatClampNeg)).toInt32), none] [.int ((p2.2.2.1 (x1 + 1) ((x2 + (1 : Int32))).toNatClampNeg)).toInt32] _ _ from ?_)
      refine zy_23 rfl rfl (show zyR _ _ _ _ [some (.ref (0 + 3)), some (.ref (x1 + 3)), some (.int x2), some (.int ((p2.2.2.1 (x1 + 1) (x2).toNatClampNeg)).toInt32), some (.int ((p2.2.2.1 (x1 + 1) ((x2 + (1 : Int32))).toNatClampNeg)).toInt32)] [] _ _ from ?_)
      refine zy_0 rfl rfl (show zyR _ _ _ _ [some (.ref (0 + 3)), some (.ref (x1 + 3)), some (.int x2), some (.int ((p2.2.2.1 (x1 + 1) (x2).toNatClampNeg)).toInt32), some (.int ((p2.2.2.1 (x1 + 1) ((x2 + (1 : Int32))).toNatClampNeg)).toInt32)] [.ref (0 + 3)] _ _ from ?_)
      refine zy_1r (c := 0) rfl rfl rfl (show zyR _ _ _ _ [some (.ref (0 + 3)), some (.ref (x1 + 3)), some (.int x2), some (.int ((p2.2.2.1 (x1 + 1) (x2).toNatClampNeg)).toInt32), some (.int ((p2.2.2.1 (x1 + 1) ((x2 + (1 : Int32))).toNatClampNeg)).toInt32)] [.ref (1 + 3)] _ _ from ?_)
      refine zy_3 rfl rfl (show zyR _ _ _ _ [some (.ref (0 + 3)), some (.ref (x1 + 3)), some (.int x2), some (.int ((p2.2.2.1 (x1 + 1) (x2).toNatClampNeg)).toInt32), some (.int ((p2.2.2.1 (x1 + 1) ((x2 + (1 : Int32))).toNatClampNeg)).toInt32)] [.int (0 : Int32), .ref (1 + 3)] _ _ from ?_)
      refine zy_2 rfl rfl (show zyR _ _ _ _ [some (.ref (0 + 3)), some (.ref (x1 + 3)), some (.int x2), some (.int ((p2.2.2.1 (x1 + 1) (x2).toNatClampNeg)).toInt32), some (.int ((p2.2.2.1 (x1 + 1) ((x2 + (1 : Int32))).toNatClampNeg)).toInt32)] [.int ((p2.2.2.1 (x1 + 1) (x2).toNatClampNeg)).toInt32, .int (0 : Int32), .ref (1 + 3)] _ _ from ?_)
      obtain ⟨p5, hp5, h⟩ := zy_bind h
      refine zy_5 (c := 1) (as := [.int (0 : Int32), .int ((p2.2.2.1 (x1 + 1) (x2).toNatClampNeg)).toInt32]) (rest := []) (L := [some (.ref (1 + 3)), some (.int (0 : Int32)), some (.int ((p2.2.2.1 (x1 + 1) (x2).toNatClampNeg)).toInt32)]) (d' := 1) rfl rfl rfl (Nat.le_of_ble_eq_true rfl) (Nat.le_of_ble_eq_true rfl) rfl (Nat.le_of_ble_eq_true rfl) rfl rfl (zy_sub (show zy_le [none, some (.int (0 : Int32)), some (.int ((p2.2.2.1 (x1 + 1) (x2).toNatClampNeg)).toInt32)] [some (.ref (1 + 3)), some (.int (0 : Int32)), some (.int ((p2.2.2.1 (x1 + 1) (x2).toNatClampNeg)).toInt32)] from ⟨rfl, ⟨rfl, trivial⟩⟩) (zyC14 hp5)) ?_
      show zyR _ _ _ _ [some (.ref (0 + 3)), some (.ref (x1 + 3)), some (.int x2), some (.int ((p2.2.2.1 (x1 + 1) (x2).toNatClampNeg)).toInt32), some (.int ((p2.2.2.1 (x1 + 1) ((x2 + (1 : Int32))).toNatClampNeg)).toInt32)] [.int p5.1] _ _
      refine zy_24_0 rfl (fun b9 => (show zyR _ _ _ _ [some (.ref (0 + 3)), some (.ref (x1 + 3)), some (.int x2), some (.int ((p2.2.2.1 (x1 + 1) (x2).toNatClampNeg)).toInt32), some (.int ((p2.2.2.1 (x1 + 1) ((x2 + (1 : Int32))).toNatClampNeg)).toInt32)] [] _ _ from ?_)) (fun b9 => (show zyR _ _ _ _ [some (.ref (0 + 3)), some (.ref (x1 + 3)), some (.int x2), some (.int ((p2.2.2.1 (x1 + 1) (x2).toNatClampNeg)).toInt32), some (.int ((p2.2.2.1 (x1 + 1) ((x2 + (1 : Int32))).toNatClampNeg)).toInt32)] [] _ _ from ?_))
      · replace h := zy_ifp h b9
        refine zy_3 rfl rfl (show zyR _ _ _ _ [some (.ref (0 + 3)), some (.ref (x1 + 3)), some (.int x2), some (.int ((p2.2.2.1 (x1 + 1) (x2).toNatClampNeg)).toInt32), some (.int ((p2.2.2.1 (x1 + 1) ((x2 + (1 : Int32))).toNatClampNeg)).toInt32)] [.int (0 : Int32)] _ _ from ?_)
        cases h
        exact zy_4b rfl ⟨rfl, rfl⟩ (Or.inl rfl)
      · replace h := zy_ifn h b9
        refine zy_0 rfl rfl (show zyR _ _ _ _ [some (.ref (0 + 3)), some (.ref (x1 + 3)), some (.int x2), some (.int ((p2.2.2.1 (x1 + 1) (x2).toNatClampNeg)).toInt32), some (.int ((p2.2.2.1 (x1 + 1) ((x2 + (1 : Int32))).toNatClampNeg)).toInt32)] [.ref (0 + 3)] _ _ from ?_)
        refine zy_1r (c := 0) rfl rfl rfl (show zyR _ _ _ _ [some (.ref (0 + 3)), some (.ref (x1 + 3)), some (.int x2), some (.int ((p2.2.2.1 (x1 + 1) (x2).toNatClampNeg)).toInt32), some (.int ((p2.2.2.1 (x1 + 1) ((x2 + (1 : Int32))).toNatClampNeg)).toInt32)] [.ref (1 + 3)] _ _ from ?_)
        refine zy_3 rfl rfl (show zyR _ _ _ _ [some (.ref (0 + 3)), some (.ref (x1 + 3)), some (.int x2), some (.int ((p2.2.2.1 (x1 + 1) (x2).toNatClampNeg)).toInt32), some (.int ((p2.2.2.1 (x1 + 1) ((x2 + (1 : Int32))).toNatClampNeg)).toInt32)] [.int (1 : Int32), .ref (1 + 3)] _ _ from ?_)
        refine zy_2 rfl rfl (show zyR _ _ _ _ [some (.ref (0 + 3)), some (.ref (x1 + 3)), some (.int x2), some (.int ((p2.2.2.1 (x1 + 1) (x2).toNatClampNeg)).toInt32), some (.int ((p2.2.2.1 (x1 + 1) ((x2 + (1 : Int32))).toNatClampNeg)).toInt32)] [.int ((p2.2.2.1 (x1 + 1) ((x2 + (1 : Int32))).toNatClampNeg)).toInt32, .int (1 : Int32), .ref (1 + 3)] _ _ from ?_)
        obtain ⟨p6, hp6, h⟩ := zy_bind h
        refine zy_5 (c := 1) (as := [.int (1 : Int32), .int ((p2.2.2.1 (x1 + 1) ((x2 + (1 : Int32))).toNatClampNeg)).toInt32]) (rest := []) (L := [some (.ref (1 + 3)), some (.int (1 : Int32)), some (.int ((p2.2.2.1 (x1 + 1) ((x2 + (1 : Int32))).toNatClampNeg)).toInt32)]) (d' := 1) rfl rfl rfl (Nat.le_of_ble_eq_true rfl) (Nat.le_of_ble_eq_true rfl) rfl (Nat.le_of_ble_eq_true rfl) rfl rfl (zy_sub (show zy_le [none, some (.int (1 : Int32)), some (.int ((p2.2.2.1 (x1 + 1) ((x2 + (1 : Int32))).toNatClampNeg)).toInt32)] [some (.ref (1 + 3)), some (.int (1 : Int32)), some (.int ((p2.2.2.1 (x1 + 1) ((x2 + (1 : Int32))).toNatClampNeg)).toInt32)] from ⟨rfl, ⟨rfl, trivial⟩⟩) (zyC14 hp6)) ?_
        show zyR _ _ _ _ [some (.ref (0 + 3)), some (.ref (x1 + 3)), some (.int x2), some (.int ((p2.2.2.1 (x1 + 1) (x2).toNatClampNeg)).toInt32), some (.int ((p2.2.2.1 (x1 + 1) ((x2 + (1 : Int32))).toNatClampNeg)).toInt32)] [.int p6.1] _ _
        refine zy_24_1 rfl (fun b8 => (show zyR _ _ _ _ [some (.ref (0 + 3)), some (.ref (x1 + 3)), some (.int x2), some (.int ((p2.2.2.1 (x1 + 1) (x2).toNatClampNeg)).toInt32), some (.int ((p2.2.2.1 (x1 + 1) ((x2 + (1 : Int32))).toNatClampNeg)).toInt32)] [] _ _ from ?_)) (fun b8 => (show zyR _ _ _ _ [some (.ref (0 + 3)), some (.ref (x1 + 3)), some (.int x2), some (.int ((p2.2.2.1 (x1 + 1) (x2).toNatClampNeg)).toInt32), some (.int ((p2.2.2.1 (x1 + 1) ((x2 + (1 : Int32))).toNatClampNeg)).toInt32)] [] _ _ from ?_))
        · replace h := zy_ifp h b8
          refine zy_0 rfl rfl (show zyR _ _ _ _ [some (.ref (0 + 3)), some (.ref (x1 + 3)), some (.int x2), some (.int ((p2.2.2.1 (x1 + 1) (x2).toNatClampNeg)).toInt32), some (.int ((p2.2.2.1 (x1 + 1) ((x2 + (1 : Int32))).toNatClampNeg)).toInt32)] [.ref (0 + 3)] _ _ from ?_)
          refine zy_1r (c := 0) rfl rfl rfl (show zyR _ _ _ _ [some (.ref (0 + 3)), some (.ref (x1 + 3)), some (.int x2), some (.int ((p2.2.2.1 (x1 + 1) (x2).toNatClampNeg)).toInt32), some (.int ((p2.2.2.1 (x1 + 1) ((x2 + (1 : Int32))).toNatClampNeg)).toInt32)] [.ref (1 + 3)] _ _ from ?_)
          refine zy_2 rfl rfl (show zyR _ _ _ _ [some (.ref (0 + 3)), some (.ref (x1 + 3)), some (.int x2), some (.int ((p2.2.2.1 (x1 + 1) (x2).toNatClampNeg)).toInt32), some (.int ((p2.2.2.1 (x1 + 1) ((x2 + (1 : Int32))).toNatClampNeg)).toInt32)] [.int ((p2.2.2.1 (x1 + 1) (x2).toNatClampNeg)).toInt32, .ref (1 + 3)] _ _ from ?_)
          refine zy_2 rfl rfl (show zyR _ _ _ _ [some (.ref (0 + 3)), some (.ref (x1 + 3)), some (.int x2), some (.int ((p2.2.2.1 (x1 + 1) (x2).toNatClampNeg)).toInt32), some (.int ((p2.2.2.1 (x1 + 1) ((x2 + (1 : Int32))).toNatClampNeg)).toInt32)] [.int ((p2.2.2.1 (x1 + 1) ((x2 + (1 : Int32))).toNatClampNeg)).toInt32, .int ((p2.2.2.1 (x1 + 1) (x2).toNatClampNeg)).toInt32, .ref (1 + 3)] _ _ from ?_)
          obtain ⟨p7, hp7, h⟩ := zy_bind h
          refine zy_5 (c := 1) (as := [.int ((p2.2.2.1 (x1 + 1) (x2).toNatClampNeg)).toInt32, .int ((p2.2.2.1 (x1 + 1) ((x2 + (1 : Int32))).toNatClampNeg)).toInt32]) (rest := []) (L := [some (.ref (1 + 3)), some (.int ((p2.2.2.1 (x1 + 1) (x2).toNatClampNeg)).toInt32), some (.int ((p2.2.2.1 (x1 + 1) ((x2 + (1 : Int32))).toNatClampNeg)).toInt32), none]) (d' := 1) rfl rfl rfl (Nat.le_of_ble_eq_true rfl) (Nat.le_of_ble_eq_true rfl) rfl (Nat.le_of_ble_eq_true rfl) rfl rfl (zyC16 hp7) ?_
          show zyR _ _ _ _ [some (.ref (0 + 3)), some (.ref (x1 + 3)), some (.int x2), some (.int ((p2.2.2.1 (x1 + 1) (x2).toNatClampNeg)).toInt32), some (.int ((p2.2.2.1 (x1 + 1) ((x2 + (1 : Int32))).toNatClampNeg)).toInt32)] [.int p7.1] _ _
          refine zy_34 rfl rfl (show zyR _ _ _ _ [some (.ref (0 + 3)), some (.ref (x1 + 3)), some (.int x2), some (.int ((p2.2.2.1 (x1 + 1) (x2).toNatClampNeg)).toInt32), some (.int ((p2.2.2.1 (x1 + 1) ((x2 + (1 : Int32))).toNatClampNeg)).toInt32)] [] _ _ from ?_)
          refine zy_3 rfl rfl (show zyR _ _ _ _ [some (.ref (0 + 3)), some (.ref (x1 + 3)), some (.int x2), some (.int ((p2.2.2.1 (x1 + 1) (x2).toNatClampNeg)).toInt32), some (.int ((p2.2.2.1 (x1 + 1) ((x2 + (1 : Int32))).toNatClampNeg)).toInt32)] [.int (1 : Int32)] _ _ from ?_)
          cases h
          exact zy_4b rfl ⟨rfl, rfl⟩ (Or.inr rfl)
        · replace h := zy_ifn h b8
          refine zy_3 rfl rfl (show zyR _ _ _ _ [some (.ref (0 + 3)), some (.ref (x1 + 3)), some (.int x2), some (.int ((p2.2.2.1 (x1 + 1) (x2).toNatClampNeg)).toInt32), some (.int ((p2.2.2.1 (x1 + 1) ((x2 + (1 : Int32))).toNatClampNeg)).toInt32)] [.int (0 : Int32)] _ _ from ?_)
          cases h
          exact zy_4b rfl ⟨rfl, rfl⟩ (Or.inl rfl)
    · replace h := zy_ifn h b10
      refine zy_3 rfl rfl (show zyR _ _ _ _ [some (.ref (0 + 3)), some (.ref (x1 + 3)), some (.int x2), none, none] [.int (0 : Int32)] _ _ from ?_)
      cases h
      exact zy_4b rfl ⟨rfl, rfl⟩ (Or.inl rfl)
/-! NineOpinions.people(III)I -/
noncomputable def zyF17_53b  (k53 : Int32 → Int32 → Nat → Int32 → zy_S → Option (Int32 × zy_S)) (x2 : Int32) (x3 : Int32) (x4 : Nat) (x5 : Int32) (s : zy_S) : Option (Int32 × zy_S) :=
if x3 ≤ x5 then
some (x5, s)
else
(zyF22 x4 (x2 + ((2 : Int32) * x5)) s).bind fun p1 =>
if p1.1 = 0 then
some (x5, p1.2)
else
k53 x2 x3 x4 (x5 + (1 : Int32)) p1.2
theorem zyC17_53b {X : zx_X}  {k53 : Int32 → Int32 → Nat → Int32 → zy_S → Option (Int32 × zy_S)}  (hk53 : ∀ (x2 : Int32) (x3 : Int32) (x4 : Nat) (x5 : Int32) (s : zy_S) (r : Int32) (s' : zy_S) (hs_x4 : zy_isSh x4), k53 x2 x3 x4 x5 s = some (r, s') → zyR X 3 17 53 [some (.ref (0 + 3)), none, some (.int x2), some (.int x3), some (.ref (x4 + 3)), some (.int x5)] [] s (zyE (some (.int r)) s')) {x2 : Int32} {x3 : Int32} {x4 : Nat} {x5 : Int32} {s : zy_S} {r : Int32} {s' : zy_S} (hs_x4 : zy_isSh x4) (h : zyF17_53b k53 x2 x3 x4 x5 s = some (r, s')) : zyR X 3 17 53 [some (.ref (0 + 3)), none, some (.int x2), some (.int x3), some (.ref (x4 + 3)), some (.int x5)] [] s (zyE (some (.int r)) s') := by
  unfold zyF17_53b at h
  refine zy_2 rfl rfl (show zyR _ _ _ _ [some (.ref (0 + 3)), none, some (.int x2), some (.int x3), some (.ref (x4 + 3)), some (.int x5)] [.int x5] _ _ from ?_)
  refine zy_2 rfl rfl (show zyR _ _ _ _ [some (.ref (0 + 3)), none, some (.int x2), some (.int x3), some (.ref (x4 + 3)), some (.int x5)] [.int x3, .int x5] _ _ from ?_)
  refine zy_25_3 rfl (fun b3 => (show zyR _ _ _ _ [some (.ref (0 + 3)), none, some (.int x2), some (.int x3), some (.ref (x4 + 3)), some (.int x5)] [] _ _ from ?_)) (fun b3 => (show zyR _ _ _ _ [some (.ref (0 + 3)), none, some (.int x2), some (.int x3), some (.ref (x4 + 3)), some (.int x5)] [] _ _ from ?_))
  · replace h := zy_ifp h b3
    refine zy_2 rfl rfl (show zyR _ _ _ _ [some (.ref (0 + 3)), none, some (.int x2), some (.int x3), some (.ref (x4 + 3)), some (.int x5)] [.int x5] _ _ from ?_)
    obtain ⟨rfl, rfl⟩ := zy_pi h
    exact zy_4 rfl ⟨rfl, rfl⟩
  · replace h := zy_ifn h b3
    refine zy_0 rfl rfl (show zyR _ _ _ _ [some (.ref (0 + 3)), none, some (.int x2), some (.int x3), some (.ref (x4 + 3)), some (.int x5)] [.ref (0 + 3)] _ _ from ?_)
    refine zy_0 rfl rfl (show zyR _ _ _ _ [some (.ref (0 + 3)), none, some (.int x2), some (.int x3), some (.ref (x4 + 3)), some (.int x5)] [.ref (x4 + 3), .ref (0 + 3)] _ _ from ?_)
    refine zy_2 rfl rfl (show zyR _ _ _ _ [some (.ref (0 + 3)), none, some (.int x2), some (.int x3), some (.ref (x4 + 3)), some (.int x5)] [.int x2, .ref (x4 + 3), .ref (0 + 3)] _ _ from ?_)
    refine zy_3 rfl rfl (show zyR _ _ _ _ [some (.ref (0 + 3)), none, some (.int x2), some (.int x3), some (.ref (x4 + 3)), some (.int x5)] [.int (2 : Int32), .int x2, .ref (x4 + 3), .ref (0 + 3)] _ _ from ?_)
    refine zy_2 rfl rfl (show zyR _ _ _ _ [some (.ref (0 + 3)), none, some (.int x2), some (.int x3), some (.ref (x4 + 3)), some (.int x5)] [.int x5, .int (2 : Int32), .int x2, .ref (x4 + 3), .ref (0 + 3)] _ _ from ?_)
    refine zy_12 rfl (show zyR _ _ _ _ [some (.ref (0 + 3)), none, some (.int x2), some (.int x3), some (.ref (x4 + 3)), some (.int x5)] [.int ((2 : Int32) * x5), .int x2, .ref (x4 + 3), .ref (0 + 3)] _ _ from ?_)
    refine zy_10 rfl (show zyR _ _ _ _ [some (.ref (0 + 3)), none, some (.int x2), some (.int x3), some (.ref (x4 + 3)), some (.int x5)] [.int (x2 + ((2 : Int32) * x5)), .ref (x4 + 3), .ref (0 + 3)] _ _ from ?_)
    obtain ⟨p1, hp1, h⟩ := zy_bind h
    refine zy_5 (c := 0) (as := [.ref (x4 + 3), .int (x2 + ((2 : Int32) * x5))]) (rest := []) (L := [some (.ref (0 + 3)), some (.ref (x4 + 3)), some (.int (x2 + ((2 : Int32) * x5))), none, none]) (d' := 2) rfl rfl rfl (Nat.le_of_ble_eq_true rfl) (Nat.le_of_ble_eq_true rfl) rfl (Nat.le_of_ble_eq_true rfl) rfl rfl (zyC22 hs_x4 hp1) ?_
    show zyR _ _ _ _ [some (.ref (0 + 3)), none, some (.int x2), some (.int x3), some (.ref (x4 + 3)), some (.int x5)] [.int p1.1] _ _
    refine zy_24_0 rfl (fun b2 => (show zyR _ _ _ _ [some (.ref (0 + 3)), none, some (.int x2), some (.int x3), some (.ref (x4 + 3)), some (.int x5)] [] _ _ from ?_)) (fun b2 => (show zyR _ _ _ _ [some (.ref (0 + 3)), none, some (.int x2), some (.int x3), some (.ref (x4 + 3)), some (.int x5)] [] _ _ from ?_))
    · replace h := zy_ifp h b2
      refine zy_2 rfl rfl (show zyR _ _ _ _ [some (.ref (0 + 3)), none, some (.int x2), some (.int x3), some (.ref (x4 + 3)), some (.int x5)] [.int x5] _ _ from ?_)
      obtain ⟨rfl, rfl⟩ := zy_pi h
      exact zy_4 rfl ⟨rfl, rfl⟩
    · replace h := zy_ifn h b2
      refine zy_22 rfl rfl rfl rfl (show zyR _ _ _ _ [some (.ref (0 + 3)), none, some (.int x2), some (.int x3), some (.ref (x4 + 3)), some (.int (x5 + (1 : Int32)))] [] _ _ from ?_)
      refine zy_6 rfl (show zyR _ _ _ _ [some (.ref (0 + 3)), none, some (.int x2), some (.int x3), some (.ref (x4 + 3)), some (.int (x5 + (1 : Int32)))] [] _ _ from ?_)
      exact zy_sub (show zy_le [some (.ref (0 + 3)), none, some (.int x2), some (.int x3), some (.ref (x4 + 3)), some (.int (x5 + (1 : Int32)))] [some (.ref (0 + 3)), none, some (.int x2), some (.int x3), some (.ref (x4 + 3)), some (.int (x5 + (1 : Int32)))] from ⟨rfl, ⟨rfl, ⟨rfl, ⟨rfl, ⟨rfl, trivial⟩⟩⟩⟩⟩) (hk53 x2 x3 x4 (x5 + (1 : Int32)) p1.2 _ _ hs_x4 h)
noncomputable def zyF17_53   (n : Nat) : Int32 → Int32 → Nat → Int32 → zy_S → Option (Int32 × zy_S) := Nat.rec (fun _ _ _ _ _ => none) (fun _ k53 => zyF17_53b k53) n
theorem zyC17_53 {X : zx_X}     : ∀ (n : Nat) (x2 : Int32) (x3 : Int32) (x4 : Nat) (x5 : Int32) (s : zy_S) (r : Int32) (s' : zy_S) (hs_x4 : zy_isSh x4), zyF17_53 n x2 x3 x4 x5 s = some (r, s') → zyR X 3 17 53 [some (.ref (0 + 3)), none, some (.int x2), some (.int x3), some (.ref (x4 + 3)), some (.int x5)] [] s (zyE (some (.int r)) s')
  | 0, _, _, _, _ => by
    intro s r s' hs_x4 h
    have h : (none : Option (Int32 × zy_S)) = some (r, s') := h
    cases h
  | n + 1, x2, x3, x4, x5 => by
    intro s r s' hs_x4 h
    exact zyC17_53b (k53 := zyF17_53 n) (fun x2 x3 x4 x5 s r s' hs_x4 h => zyC17_53  n x2 x3 x4 x5 s r s' hs_x4 h) hs_x4 h
noncomputable def zyF17   (x1 : Int32) (x2 : Int32) (x3 : Int32) (s : zy_S) : Option (Int32 × zy_S) :=
(zyF18 x1 s).bind fun p4 =>
if p4.1 = 0 then
some ((-1 : Int32), p4.2)
else
if x3 < (1 : Int32) then
some ((-1 : Int32), p4.2)
else
if x3 ≤ (8 : Int32) then
if zy_in x1 6 then
if zy_Wb p4.2 then
(zyF19 (zy_sh (x1).toNatClampNeg) p4.2).bind fun p7 =>
if p7.1 = 0 then
(zyF21 (zy_sh (x1).toNatClampNeg) (1 : Int32) p7.2).bind fun p8 =>
if p8.1 ≠ 0 then
zyF17_53 zy_fu x2 x3 (zy_sh (x1).toNatClampNeg) (0 : Int32) p8.2
else
some ((-12 : Int32), p8.2)
else
some ((0 : Int32), p7.2)
else none
else none
else
some ((-1 : Int32), p4.2)
theorem zyC17 {X : zx_X}     {x1 : Int32} {x2 : Int32} {x3 : Int32} {s : zy_S} {r : Int32} {s' : zy_S}  (h : zyF17 x1 x2 x3 s = some (r, s')) : zyR X 3 17 0 [some (.ref (0 + 3)), some (.int x1), some (.int x2), some (.int x3), none, none] [] s (zyE (some (.int r)) s') := by
  unfold zyF17 at h
  refine zy_2 rfl rfl (show zyR _ _ _ _ [some (.ref (0 + 3)), some (.int x1), some (.int x2), some (.int x3), none, none] [.int x1] _ _ from ?_)
  obtain ⟨p4, hp4, h⟩ := zy_bind h
  refine zy_60 (as := [.int x1]) (rest := []) (L := [some (.int x1)]) (d' := 1) rfl rfl (Nat.le_of_ble_eq_true rfl) (Nat.le_of_ble_eq_true rfl) rfl (Nat.le_of_ble_eq_true rfl) rfl rfl (zyC18 hp4) ?_
  show zyR _ _ _ _ [some (.ref (0 + 3)), some (.int x1), some (.int x2), some (.int x3), none, none] [.int p4.1] _ _
  refine zy_24_0 rfl (fun b13 => (show zyR _ _ _ _ [some (.ref (0 + 3)), some (.int x1), some (.int x2), some (.int x3), none, none] [] _ _ from ?_)) (fun b13 => (show zyR _ _ _ _ [some (.ref (0 + 3)), some (.int x1), some (.int x2), some (.int x3), none, none] [] _ _ from ?_))
  · replace h := zy_ifp h b13
    refine zy_3 rfl rfl (show zyR _ _ _ _ [some (.ref (0 + 3)), some (.int x1), some (.int x2), some (.int x3), none, none] [.int (-1 : Int32)] _ _ from ?_)
    obtain ⟨rfl, rfl⟩ := zy_pi h
    exact zy_4 rfl ⟨rfl, rfl⟩
  · replace h := zy_ifn h b13
    refine zy_2 rfl rfl (show zyR _ _ _ _ [some (.ref (0 + 3)), some (.int x1), some (.int x2), some (.int x3), none, none] [.int x3] _ _ from ?_)
    refine zy_3 rfl rfl (show zyR _ _ _ _ [some (.ref (0 + 3)), some (.int x1), some (.int x2), some (.int x3), none, none] [.int (1 : Int32), .int x3] _ _ from ?_)
    refine zy_25_2 rfl (fun b12 => (show zyR _ _ _ _ [some (.ref (0 + 3)), some (.int x1), some (.int x2), some (.int x3), none, none] [] _ _ from ?_)) (fun b12 => (show zyR _ _ _ _ [some (.ref (0 + 3)), some (.int x1), some (.int x2), some (.int x3), none, none] [] _ _ from ?_))
    · replace h := zy_ifp h b12
      refine zy_3 rfl rfl (show zyR _ _ _ _ [some (.ref (0 + 3)), some (.int x1), some (.int x2), some (.int x3), none, none] [.int (-1 : Int32)] _ _ from ?_)
      obtain ⟨rfl, rfl⟩ := zy_pi h
      exact zy_4 rfl ⟨rfl, rfl⟩
    · replace h := zy_ifn h b12
      refine zy_2 rfl rfl (show zyR _ _ _ _ [some (.ref (0 + 3)), some (.int x1), some (.int x2), some (.int x3), none, none] [.int x3] _ _ from ?_)
      refine zy_3 rfl rfl (show zyR _ _ _ _ [some (.ref (0 + 3)), some (.int x1), some (.int x2), some (.int x3), none, none] [.int (8 : Int32), .int x3] _ _ from ?_)
      refine zy_25_5 rfl (fun b11 => (show zyR _ _ _ _ [some (.ref (0 + 3)), some (.int x1), some (.int x2), some (.int x3), none, none] [] _ _ from ?_)) (fun b11 => (show zyR _ _ _ _ [some (.ref (0 + 3)), some (.int x1), some (.int x2), some (.int x3), none, none] [] _ _ from ?_))
      · replace h := zy_ifp h b11
        refine zy_0 rfl rfl (show zyR _ _ _ _ [some (.ref (0 + 3)), some (.int x1), some (.int x2), some (.int x3), none, none] [.ref (0 + 3)] _ _ from ?_)
        refine zy_1r (c := 0) rfl rfl rfl (show zyR _ _ _ _ [some (.ref (0 + 3)), some (.int x1), some (.int x2), some (.int x3), none, none] [.ref (30 + 3)] _ _ from ?_)
        refine zy_2 rfl rfl (show zyR _ _ _ _ [some (.ref (0 + 3)), some (.int x1), some (.int x2), some (.int x3), none, none] [.int x1, .ref (30 + 3)] _ _ from ?_)
        obtain ⟨c5, h⟩ := zy_if h
        obtain ⟨c6, h⟩ := zy_if h
        refine zy_28 rfl (zy_Wb_g c6) c5 (show zyR _ _ _ _ [some (.ref (0 + 3)), some (.int x1), some (.int x2), some (.int x3), none, none] [.ref ((zy_sh (x1).toNatClampNeg) + 3)] _ _ from ?_)
        refine zy_39 rfl rfl (show zyR _ _ _ _ [some (.ref (0 + 3)), some (.int x1), some (.int x2), some (.int x3), some (.ref ((zy_sh (x1).toNatClampNeg) + 3)), none] [] _ _ from ?_)
        refine zy_0 rfl rfl (show zyR _ _ _ _ [some (.ref (0 + 3)), some (.int x1), some (.int x2), some (.int x3), some (.ref ((zy_sh (x1).toNatClampNeg) + 3)), none] [.ref ((zy_sh (x1).toNatClampNeg) + 3)] _ _ from ?_)
        obtain ⟨p7, hp7, h⟩ := zy_bind h
        refine zy_5 (c := (zy_sh (x1).toNatClampNeg)) (as := []) (rest := []) (L := [some (.ref ((zy_sh (x1).toNatClampNeg) + 3))]) (d' := 2) rfl rfl (zy_isSh_of (zy_in_lt c5)).1 (Nat.le_of_ble_eq_true rfl) (Nat.le_of_ble_eq_true rfl) rfl (Nat.le_of_ble_eq_true rfl) rfl rfl (zyC19 (zy_isSh_of (zy_in_lt c5)) hp7) ?_
        show zyR _ _ _ _ [some (.ref (0 + 3)), some (.int x1), some (.int x2), some (.int x3), some (.ref ((zy_sh (x1).toNatClampNeg) + 3)), none] [.int p7.1] _ _
        refine zy_24_0 rfl (fun b10 => (show zyR _ _ _ _ [some (.ref (0 + 3)), some (.int x1), some (.int x2), some (.int x3), some (.ref ((zy_sh (x1).toNatClampNeg) + 3)), none] [] _ _ from ?_)) (fun b10 => (show zyR _ _ _ _ [some (.ref (0 + 3)), some (.int x1), some (.int x2), some (.int x3), some (.ref ((zy_sh (x1).toNatClampNeg) + 3)), none] [] _ _ from ?_))
        · replace h := zy_ifp h b10
          refine zy_0 rfl rfl (show zyR _ _ _ _ [some (.ref (0 + 3)), some (.int x1), some (.int x2), some (.int x3), some (.ref ((zy_sh (x1).toNatClampNeg) + 3)), none] [.ref ((zy_sh (x1).toNatClampNeg) + 3)] _ _ from ?_)
          refine zy_3 rfl rfl (show zyR _ _ _ _ [some (.ref (0 + 3)), some (.int x1), some (.int x2), some (.int x3), some (.ref ((zy_sh (x1).toNatClampNeg) + 3)), none] [.int (1 : Int32), .ref ((zy_sh (x1).toNatClampNeg) + 3)] _ _ from ?_)
          obtain ⟨p8, hp8, h⟩ := zy_bind h
          refine zy_5 (c := (zy_sh (x1).toNatClampNeg)) (as := [.int (1 : Int32)]) (rest := []) (L := [some (.ref ((zy_sh (x1).toNatClampNeg) + 3)), some (.int (1 : Int32))]) (d' := 2) rfl rfl (zy_isSh_of (zy_in_lt c5)).1 (Nat.le_of_ble_eq_true rfl) (Nat.le_of_ble_eq_true rfl) rfl (Nat.le_of_ble_eq_true rfl) rfl rfl (zyC21 (zy_isSh_of (zy_in_lt c5)) hp8) ?_
          show zyR _ _ _ _ [some (.ref (0 + 3)), some (.int x1), some (.int x2), some (.int x3), some (.ref ((zy_sh (x1).toNatClampNeg) + 3)), none] [.int p8.1] _ _
          refine zy_24_1 rfl (fun b9 => (show zyR _ _ _ _ [some (.ref (0 + 3)), some (.int x1), some (.int x2), some (.int x3), some (.ref ((zy_sh (x1).toNatClampNeg) + 3)), none] [] _ _ from ?_)) (fun b9 => (show zyR _ _ _ _ [some (.ref (0 + 3)), some (.int x1), some (.int x2), some (.int x3), some (.ref ((zy_sh (x1).toNatClampNeg) + 3)), none] [] _ _ from ?_))
          · replace h := zy_ifp h b9
            refine zy_3 rfl rfl (show zyR _ _ _ _ [some (.ref (0 + 3)), some (.int x1), some (.int x2), some (.int x3), some (.ref ((zy_sh (x1).toNatClampNeg) + 3)), none] [.int (0 : Int32)] _ _ from ?_)
            refine zy_23 rfl rfl (show zyR _ _ _ _ [some (.ref (0 + 3)), some (.int x1), some (.int x2), some (.int x3), some (.ref ((zy_sh (x1).toNatClampNeg) + 3)), some (.int (0 : Int32))] [] _ _ from ?_)
            exact zy_sub (show zy_le [some (.ref (0 + 3)), none, some (.int x2), some (.int x3), some (.ref ((zy_sh (x1).toNatClampNeg) + 3)), some (.int (0 : Int32))] [some (.ref (0 + 3)), some (.int x1), some (.int x2), some (.int x3), some (.ref ((zy_sh (x1).toNatClampNeg) + 3)), some (.int (0 : Int32))] from ⟨rfl, ⟨rfl, ⟨rfl, ⟨rfl, ⟨rfl, trivial⟩⟩⟩⟩⟩) (zyC17_53 zy_fu x2 x3 (zy_sh (x1).toNatClampNeg) (0 : Int32) p8.2 _ _ (zy_isSh_of (zy_in_lt c5)) h)
          · replace h := zy_ifn h b9
            refine zy_3 rfl rfl (show zyR _ _ _ _ [some (.ref (0 + 3)), some (.int x1), some (.int x2), some (.int x3), some (.ref ((zy_sh (x1).toNatClampNeg) + 3)), none] [.int (-12 : Int32)] _ _ from ?_)
            obtain ⟨rfl, rfl⟩ := zy_pi h
            exact zy_4 rfl ⟨rfl, rfl⟩
        · replace h := zy_ifn h b10
          refine zy_3 rfl rfl (show zyR _ _ _ _ [some (.ref (0 + 3)), some (.int x1), some (.int x2), some (.int x3), some (.ref ((zy_sh (x1).toNatClampNeg) + 3)), none] [.int (0 : Int32)] _ _ from ?_)
          obtain ⟨rfl, rfl⟩ := zy_pi h
          exact zy_4 rfl ⟨rfl, rfl⟩
      · replace h := zy_ifn h b11
        refine zy_3 rfl rfl (show zyR _ _ _ _ [some (.ref (0 + 3)), some (.int x1), some (.int x2), some (.int x3), none, none] [.int (-1 : Int32)] _ _ from ?_)
        obtain ⟨rfl, rfl⟩ := zy_pi h
        exact zy_4 rfl ⟨rfl, rfl⟩
