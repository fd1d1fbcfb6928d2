/-! PART 41.00: methods as functions. Made by wip/v4/dcp.py. -/
/-! NineOpinions$Town.mayBe(II)Z -/
noncomputable def zyF14   (x1 : Int32) (x2 : Int32) (s : zy_S) : Option (Int32 × zy_S) :=
if x1 = (0 : Int32) then
if x2 < 0 then
some ((0 : Int32), s)
else
if (4096 : Int32) ≤ x2 then
some ((0 : Int32), s)
else
some ((1 : Int32), s)
else
if x1 = (1 : Int32) then
if x2 < 0 then
some ((0 : Int32), s)
else
if (9 : Int32) < x2 then
some ((0 : Int32), s)
else
some ((1 : Int32), s)
else
if x1 = (2 : Int32) then
if x2 < 0 then
some ((0 : Int32), s)
else
if (9 : Int32) < x2 then
some ((0 : Int32), s)
else
some ((1 : Int32), s)
else
if x1 = (3 : Int32) then
if x2 < (1 : Int32) then
some ((0 : Int32), s)
else
if (9 : Int32) < x2 then
some ((0 : Int32), s)
else
some ((1 : Int32), s)
else
some ((0 : Int32), s)
theorem zyC14 {X : zx_X}     {x1 : Int32} {x2 : Int32} {s : zy_S} {r : Int32} {s' : zy_S}  (h : zyF14 x1 x2 s = some (r, s')) : zyR X 1 14 0 [none, some (.int x1), some (.int x2)] [] s (zyE (some (.int r)) s') := by
  unfold zyF14 at h
  refine zy_2 rfl rfl (show zyR _ _ _ _ [none, some (.int x1), some (.int x2)] [.int x1] _ _ from ?_)
  refine zy_50 rfl (by decide) ?_
  refine zy_swp (fun b3 => (show zyR _ _ _ _ [none, some (.int x1), some (.int x2)] [] _ _ from ?_)) (fun b3 => ?_)
  · replace h := zy_ifp h b3
    refine zy_2 rfl rfl (show zyR _ _ _ _ [none, some (.int x1), some (.int x2)] [.int x2] _ _ from ?_)
    refine zy_24_2 rfl (fun b2 => (show zyR _ _ _ _ [none, some (.int x1), some (.int x2)] [] _ _ from ?_)) (fun b2 => (show zyR _ _ _ _ [none, some (.int x1), some (.int x2)] [] _ _ from ?_))
    · replace h := zy_ifp h b2
      refine zy_3 rfl rfl (show zyR _ _ _ _ [none, some (.int x1), some (.int x2)] [.int (0 : Int32)] _ _ from ?_)
      cases h
      exact zy_4b rfl ⟨rfl, rfl⟩ (Or.inl rfl)
    · replace h := zy_ifn h b2
      refine zy_2 rfl rfl (show zyR _ _ _ _ [none, some (.int x1), some (.int x2)] [.int x2] _ _ from ?_)
      refine zy_3 rfl rfl (show zyR _ _ _ _ [none, some (.int x1), some (.int x2)] [.int (4096 : Int32), .int x2] _ _ from ?_)
      refine zy_25_3 rfl (fun b1 => (show zyR _ _ _ _ [none, some (.int x1), some (.int x2)] [] _ _ from ?_)) (fun b1 => (show zyR _ _ _ _ [none, some (.int x1), some (.int x2)] [] _ _ from ?_))
      · replace h := zy_ifp h b1
        refine zy_3 rfl rfl (show zyR _ _ _ _ [none, some (.int x1), some (.int x2)] [.int (0 : Int32)] _ _ from ?_)
        cases h
        exact zy_4b rfl ⟨rfl, rfl⟩ (Or.inl rfl)
      · replace h := zy_ifn h b1
        refine zy_3 rfl rfl (show zyR _ _ _ _ [none, some (.int x1), some (.int x2)] [.int (1 : Int32)] _ _ from ?_)
        refine zy_6 rfl (show zyR _ _ _ _ [none, some (.int x1), some (.int x2)] [.int (1 : Int32)] _ _ from ?_)
        cases h
        exact zy_4b rfl ⟨rfl, rfl⟩ (Or.inr rfl)
  replace h := zy_ifn h b3
  refine zy_swp (fun b6 => (show zyR _ _ _ _ [none, some (.int x1), some (.int x2)] [] _ _ from ?_)) (fun b6 => ?_)
  · replace h := zy_ifp h b6
    refine zy_2 rfl rfl (show zyR _ _ _ _ [none, some (.int x1), some (.int x2)] [.int x2] _ _ from ?_)
    refine zy_24_2 rfl (fun b5 => (show zyR _ _ _ _ [none, some (.int x1), some (.int x2)] [] _ _ from ?_)) (fun b5 => (show zyR _ _ _ _ [none, some (.int x1), some (.int x2)] [] _ _ from ?_))
    · replace h := zy_ifp h b5
      refine zy_3 rfl rfl (show zyR _ _ _ _ [none, some (.int x1), some (.int x2)] [.int (0 : Int32)] _ _ from ?_)
      cases h
      exact zy_4b rfl ⟨rfl, rfl⟩ (Or.inl rfl)
    · replace h := zy_ifn h b5
      refine zy_2 rfl rfl (show zyR _ _ _ _ [none, some (.int x1), some (.int x2)] [.int x2] _ _ from ?_)
      refine zy_3 rfl rfl (show zyR _ _ _ _ [none, some (.int x1), some (.int x2)] [.int (9 : Int32), .int x2] _ _ from ?_)
      refine zy_25_4 rfl (fun b4 => (show zyR _ _ _ _ [none, some (.int x1), some (.int x2)] [] _ _ from ?_)) (fun b4 => (show zyR _ _ _ _ [none, some (.int x1), some (.int x2)] [] _ _ from ?_))
      · replace h := zy_ifp h b4
        refine zy_3 rfl rfl (show zyR _ _ _ _ [none, some (.int x1), some (.int x2)] [.int (0 : Int32)] _ _ from ?_)
        cases h
        exact zy_4b rfl ⟨rfl, rfl⟩ (Or.inl rfl)
      · replace h := zy_ifn h b4
        refine zy_3 rfl rfl (show zyR _ _ _ _ [none, some (.int x1), some (.int x2)] [.int (1 : Int32)] _ _ from ?_)
        refine zy_6 rfl (show zyR _ _ _ _ [none, some (.int x1), some (.int x2)] [.int (1 : Int32)] _ _ from ?_)
        cases h
        exact zy_4b rfl ⟨rfl, rfl⟩ (Or.inr rfl)
  replace h := zy_ifn h b6
  refine zy_swp (fun b9 => (show zyR _ _ _ _ [none, some (.int x1), some (.int x2)] [] _ _ from ?_)) (fun b9 => ?_)
  · replace h := zy_ifp h b9
    refine zy_2 rfl rfl (show zyR _ _ _ _ [none, some (.int x1), some (.int x2)] [.int x2] _ _ from ?_)
    refine zy_24_2 rfl (fun b8 => (show zyR _ _ _ _ [none, some (.int x1), some (.int x2)] [] _ _ from ?_)) (fun b8 => (show zyR _ _ _ _ [none, some (.int x1), some (.int x2)] [] _ _ from ?_))
    · replace h := zy_ifp h b8
      refine zy_3 rfl rfl (show zyR _ _ _ _ [none, some (.int x1), some (.int x2)] [.int (0 : Int32)] _ _ from ?_)
      cases h
      exact zy_4b rfl ⟨rfl, rfl⟩ (Or.inl rfl)
    · replace h := zy_ifn h b8
      refine zy_2 rfl rfl (show zyR _ _ _ _ [none, some (.int x1), some (.int x2)] [.int x2] _ _ from ?_)
      refine zy_3 rfl rfl (show zyR _ _ _ _ [none, some (.int x1), some (.int x2)] [.int (9 : Int32), .int x2] _ _ from ?_)
      refine zy_25_4 rfl (fun b7 => (show zyR _ _ _ _ [none, some (.int x1), some (.int x2)] [] _ _ from ?_)) (fun b7 => (show zyR _ _ _ _ [none, some (.int x1), some (.int x2)] [] _ _ from ?_))
      · replace h := zy_ifp h b7
        refine zy_3 rfl rfl (show zyR _ _ _ _ [none, some (.int x1), some (.int x2)] [.int (0 : Int32)] _ _ from ?_)
        cases h
        exact zy_4b rfl ⟨rfl, rfl⟩ (Or.inl rfl)
      · replace h := zy_ifn h b7
        refine zy_3 rfl rfl (show zyR _ _ _ _ [none, some (.int x1), some (.int x2)] [.int (1 : Int32)] _ _ from ?_)
        refine zy_6 rfl (show zyR _ _ _ _ [none, some (.int x1), some (.int x2)] [.int (1 : Int32)] _ _ from ?_)
        cases h
        exact zy_4b rfl ⟨rfl, rfl⟩ (Or.inr rfl)
  replace h := zy_ifn h b9
  refine zy_swp (fun b12 => (show zyR _ _ _ _ [none, some (.int x1), some (.int x2)] [] _ _ from ?_)) (fun b12 => ?_)
  · replace h := zy_ifp h b12
    refine zy_2 rfl rfl (show zyR _ _ _ _ [none, some (.int x1), some (.int x2)] [.int x2] _ _ from ?_)
    refine zy_3 rfl rfl (show zyR _ _ _ _ [none, some (.int x1), some (.int x2)] [.int (1 : Int32), .int x2] _ _ from ?_)
    refine zy_25_2 rfl (fun b11 => (show zyR _ _ _ _ [none, some (.int x1), some (.int x2)] [] _ _ from ?_)) (fun b11 => (show zyR _ _ _ _ [none, some (.int x1), some (.int x2)] [] _ _ from ?_))
    · replace h := zy_ifp h b11
      refine zy_3 rfl rfl (show zyR _ _ _ _ [none, some (.int x1), some (.int x2)] [.int (0 : Int32)] _ _ from ?_)
      cases h
      exact zy_4b rfl ⟨rfl, rfl⟩ (Or.inl rfl)
    · replace h := zy_ifn h b11
      refine zy_2 rfl rfl (show zyR _ _ _ _ [none, some (.int x1), some (.int x2)] [.int x2] _ _ from ?_)
      refine zy_3 rfl rfl (show zyR _ _ _ _ [none, some (.int x1), some (.int x2)] [.int (9 : Int32), .int x2] _ _ from ?_)
      refine zy_25_4 rfl (fun b10 => (show zyR _ _ _ _ [none, some (.int x1), some (.int x2)] [] _ _ from ?_)) (fun b10 => (show zyR _ _ _ _ [none, some (.int x1), some (.int x2)] [] _ _ from ?_))
      · replace h := zy_ifp h b10
        refine zy_3 rfl rfl (show zyR _ _ _ _ [none, some (.int x1), some (.int x2)] [.int (0 : Int32)] _ _ from ?_)
        cases h
        exact zy_4b rfl ⟨rfl, rfl⟩ (Or.inl rfl)
      · replace h := zy_ifn h b10
        refine zy_3 rfl rfl (show zyR _ _ _ _ [none, some (.int x1), some (.int x2)] [.int (1 : Int32)] _ _ from ?_)
        refine zy_6 rfl (show zyR _ _ _ _ [none, some (.int x1), some (.int x2)] [.int (1 : Int32)] _ _ from ?_)
        cases h
        exact zy_4b rfl ⟨rfl, rfl⟩ (Or.inr rfl)
  replace h := zy_ifn h b12
  show zyR _ _ _ _ [none, some (.int x1), some (.int x2)] [] _ _
  refine zy_3 rfl rfl (show zyR _ _ _ _ [none, some (.int x1), some (.int x2)] [.int (0 : Int32)] _ _ from ?_)
  cases h
  exact zy_4b rfl ⟨rfl, rfl⟩ (Or.inl rfl)
/-! NineOpinions$Town.isFull()Z -/
noncomputable def zyF15    (s : zy_S) : Option (Int32 × zy_S) :=
if (s.1 1 5) < (8 : Int32) then
some ((0 : Int32), s)
else
some ((1 : Int32), s)
theorem zyC15 {X : zx_X}      {s : zy_S} {r : Int32} {s' : zy_S}  (h : zyF15 s = some (r, s')) : zyR X 1 15 0 [some (.ref (1 + 3))] [] s (zyE (some (.int r)) s') := by
  unfold zyF15 at h
  refine zy_0 rfl rfl (show zyR _ _ _ _ [some (.ref (1 + 3))] [.ref (1 + 3)] _ _ from ?_)
  refine zy_1 (c := 1) rfl rfl rfl (show zyR _ _ _ _ [some (.ref (1 + 3))] [.int (s.1 1 5)] _ _ from ?_)
  refine zy_3 rfl rfl (show zyR _ _ _ _ [some (.ref (1 + 3))] [.int (8 : Int32), .int (s.1 1 5)] _ _ from ?_)
  refine zy_25_2 rfl (fun b1 => (show zyR _ _ _ _ [some (.ref (1 + 3))] [] _ _ from ?_)) (fun b1 => (show zyR _ _ _ _ [some (.ref (1 + 3))] [] _ _ from ?_))
  · replace h := zy_ifp h b1
    refine zy_3 rfl rfl (show zyR _ _ _ _ [some (.ref (1 + 3))] [.int (0 : Int32)] _ _ from ?_)
    cases h
    exact zy_4b rfl ⟨rfl, rfl⟩ (Or.inl rfl)
  · replace h := zy_ifn h b1
    refine zy_3 rfl rfl (show zyR _ _ _ _ [some (.ref (1 + 3))] [.int (1 : Int32)] _ _ from ?_)
    refine zy_6 rfl (show zyR _ _ _ _ [some (.ref (1 + 3))] [.int (1 : Int32)] _ _ from ?_)
    cases h
    exact zy_4b rfl ⟨rfl, rfl⟩ (Or.inr rfl)
/-! NineOpinions$Town.welcome(II)I -/
noncomputable def zyF16   (x1 : Int32) (x2 : Int32) (s : zy_S) : Option (Int32 × zy_S) :=
if zy_in (s.1 1 5) 8 then
if zy_in (s.1 1 5) 8 then
some ((s.1 1 5), (zy_up (zy_up (zy_up s 3 ((s.1 1 5)).toNatClampNeg x1) 4 ((s.1 1 5)).toNatClampNeg x2) 1 5 ((s.1 1 5) + (1 : Int32))))
else none
else none
theorem zyC16 {X : zx_X}     {x1 : Int32} {x2 : Int32} {s : zy_S} {r : Int32} {s' : zy_S}  (h : zyF16 x1 x2 s = some (r, s')) : zyR X 1 16 0 [some (.ref (1 + 3)), some (.int x1), some (.int x2), none] [] s (zyE (some (.int r)) s') := by
  unfold zyF16 at h
  refine zy_0 rfl rfl (show zyR _ _ _ _ [some (.ref (1 + 3)), some (.int x1), some (.int x2), none] [.ref (1 + 3)] _ _ from ?_)
  refine zy_1 (c := 1) rfl rfl rfl (show zyR _ _ _ _ [some (.ref (1 + 3)), some (.int x1), some (.int x2), none] [.int (s.1 1 5)] _ _ from ?_)
  refine zy_23 rfl rfl (show zyR _ _ _ _ [some (.ref (1 + 3)), some (.int x1), some (.int x2), some (.int (s.1 1 5))] [] _ _ from ?_)
  refine zy_0 rfl rfl (show zyR _ _ _ _ [some (.ref (1 + 3)), some (.int x1), some (.int x2), some (.int (s.1 1 5))] [.ref (1 + 3)] _ _ from ?_)
  refine zy_1r (c := 1) rfl rfl rfl (show zyR _ _ _ _ [some (.ref (1 + 3)), some (.int x1), some (.int x2), some (.int (s.1 1 5))] [.ref (3 + 3)] _ _ from ?_)
  refine zy_2 rfl rfl (show zyR _ _ _ _ [some (.ref (1 + 3)), some (.int x1), some (.int x2), some (.int (s.1 1 5))] [.int (s.1 1 5), .ref (3 + 3)] _ _ from ?_)
  refine zy_2 rfl rfl (show zyR _ _ _ _ [some (.ref (1 + 3)), some (.int x1), some (.int x2), some (.int (s.1 1 5))] [.int x1, .int (s.1 1 5), .ref (3 + 3)] _ _ from ?_)
  obtain ⟨c1, h⟩ := zy_if h
  refine zy_27 (c := 3) rfl rfl c1 (show zyR _ _ _ _ [some (.ref (1 + 3)), some (.int x1), some (.int x2), some (.int (s.1 1 5))] [] _ _ from ?_)
  refine zy_0 rfl rfl (show zyR _ _ _ _ [some (.ref (1 + 3)), some (.int x1), some (.int x2), some (.int (s.1 1 5))] [.ref (1 + 3)] _ _ from ?_)
  refine zy_1r (c := 1) rfl rfl rfl (show zyR _ _ _ _ [some (.ref (1 + 3)), some (.int x1), some (.int x2), some (.int (s.1 1 5))] [.ref (4 + 3)] _ _ from ?_)
  refine zy_2 rfl rfl (show zyR _ _ _ _ [some (.ref (1 + 3)), some (.int x1), some (.int x2), some (.int (s.1 1 5))] [.int (s.1 1 5), .ref (4 + 3)] _ _ from ?_)
  refine zy_2 rfl rfl (show zyR _ _ _ _ [some (.ref (1 + 3)), some (.int x1), some (.int x2), some (.int (s.1 1 5))] [.int x2, .int (s.1 1 5), .ref (4 + 3)] _ _ from ?_)
  obtain ⟨c2, h⟩ := zy_if h
  refine zy_27 (c := 4) rfl rfl c2 (show zyR _ _ _ _ [some (.ref (1 + 3)), some (.int x1), some (.int x2), some (.int (s.1 1 5))] [] _ _ from ?_)
  refine zy_0 rfl rfl (show zyR _ _ _ _ [some (.ref (1 + 3)), some (.int x1), some (.int x2), some (.int (s.1 1 5))] [.ref (1 + 3)] _ _ from ?_)
  refine zy_33 rfl rfl (show zyR _ _ _ _ [some (.ref (1 + 3)), some (.int x1), some (.int x2), some (.int (s.1 1 5))] [.ref (1 + 3), .ref (1 + 3)] _ _ from ?_)
  refine zy_1 (c := 1) rfl rfl rfl (show zyR _ _ _ _ [some (.ref (1 + 3)), some (.int x1), some (.int x2), some (.int (s.1 1 5))] [.int (s.1 1 5), .ref (1 + 3)] _ _ from ?_)
  refine zy_3 rfl rfl (show zyR _ _ _ _ [some (.ref (1 + 3)), some (.int x1), some (.int x2), some (.int (s.1 1 5))] [.int (1 : Int32), .int (s.1 1 5), .ref (1 + 3)] _ _ from ?_)
  refine zy_10 rfl (show zyR _ _ _ _ [some (.ref (1 + 3)), some (.int x1), some (.int x2), some (.int (s.1 1 5))] [.int ((s.1 1 5) + (1 : Int32)), .ref (1 + 3)] _ _ from ?_)
  refine zy_52 (c := 1) rfl rfl rfl (show zyR _ _ _ _ [some (.ref (1 + 3)), some (.int x1), some (.int x2), some (.int (s.1 1 5))] [] _ _ from ?_)
  refine zy_2 rfl rfl (show zyR _ _ _ _ [some (.ref (1 + 3)), some (.int x1), some (.int x2), some (.int (s.1 1 5))] [.int (s.1 1 5)] _ _ from ?_)
  obtain ⟨rfl, rfl⟩ := zy_pi h
  exact zy_4 rfl ⟨rfl, rfl⟩
/-! NineOpinions.person(I)I -/
noncomputable def zyF13   (x1 : Int32) (s : zy_S) : Option (Int32 × zy_S) :=
(zyF14 (0 : Int32) x1 s).bind fun p1 =>
if p1.1 ≠ 0 then
(zyF15 p1.2).bind fun p2 =>
if p2.1 = 0 then
(zyF16 x1 (1 : Int32) p2.2).bind fun p3 =>
some (p3.1, p3.2)
else
some ((-3 : Int32), p2.2)
else
some ((-1 : Int32), p1.2)
theorem zyC13 {X : zx_X}     {x1 : Int32} {s : zy_S} {r : Int32} {s' : zy_S}  (h : zyF13 x1 s = some (r, s')) : zyR X 2 13 0 [some (.ref (0 + 3)), some (.int x1)] [] s (zyE (some (.int r)) s') := by
  unfold zyF13 at h
  refine zy_0 rfl rfl (show zyR _ _ _ _ [some (.ref (0 + 3)), some (.int x1)] [.ref (0 + 3)] _ _ from ?_)
  refine zy_1r (c := 0) rfl rfl rfl (show zyR _ _ _ _ [some (.ref (0 + 3)), some (.int x1)] [.ref (1 + 3)] _ _ from ?_)
  refine zy_3 rfl rfl (show zyR _ _ _ _ [some (.ref (0 + 3)), some (.int x1)] [.int (0 : Int32), .ref (1 + 3)] _ _ from ?_)
  refine zy_2 rfl rfl (show zyR _ _ _ _ [some (.ref (0 + 3)), some (.int x1)] [.int x1, .int (0 : Int32), .ref (1 + 3)] _ _ from ?_)
  obtain ⟨p1, hp1, h⟩ := zy_bind h
  refine zy_5 (c := 1) (as := [.int (0 : Int32), .int x1]) (rest := []) (L := [some (.ref (1 + 3)), some (.int (0 : Int32)), some (.int x1)]) (d' := 1) rfl rfl rfl (Nat.le_of_ble_eq_true rfl) (Nat.le_of_ble_eq_true rfl) rfl (Nat.le_of_ble_eq_true rfl) rfl rfl (zy_sub (show zy_le [none, some (.int (0 : Int32)), some (.int x1)] [some (.ref (1 + 3)), some (.int (0 : Int32)), some (.int x1)] from ⟨rfl, ⟨rfl, trivial⟩⟩) (zyC14 hp1)) ?_
  show zyR _ _ _ _ [some (.ref (0 + 3)), some (.int x1)] [.int p1.1] _ _
  refine zy_24_1 rfl (fun b5 => (show zyR _ _ _ _ [some (.ref (0 + 3)), some (.int x1)] [] _ _ from ?_)) (fun b5 => (show zyR _ _ _ _ [some (.ref (0 + 3)), some (.int x1)] [] _ _ from ?_))
  · replace h := zy_ifp h b5
    refine zy_0 rfl rfl (show zyR _ _ _ _ [some (.ref (0 + 3)), some (.int x1)] [.ref (0 + 3)] _ _ from ?_)
    refine zy_1r (c := 0) rfl rfl rfl (show zyR _ _ _ _ [some (.ref (0 + 3)), some (.int x1)] [.ref (1 + 3)] _ _ from ?_)
    obtain ⟨p2, hp2, h⟩ := zy_bind h
    refine zy_5 (c := 1) (as := []) (rest := []) (L := [some (.ref (1 + 3))]) (d' := 1) rfl rfl rfl (Nat.le_of_ble_eq_true rfl) (Nat.le_of_ble_eq_true rfl) rfl (Nat.le_of_ble_eq_true rfl) rfl rfl (zyC15 hp2) ?_
    show zyR _ _ _ _ [some (.ref (0 + 3)), some (.int x1)] [.int p2.1] _ _
    refine zy_24_0 rfl (fun b4 => (show zyR _ _ _ _ [some (.ref (0 + 3)), some (.int x1)] [] _ _ from ?_)) (fun b4 => (show zyR _ _ _ _ [some (.ref (0 + 3)), some (.int x1)] [] _ _ from ?_))
    · replace h := zy_ifp h b4
      refine zy_0 rfl rfl (show zyR _ _ _ _ [some (.ref (0 + 3)), some (.int x1)] [.ref (0 + 3)] _ _ from ?_)
      refine zy_1r (c := 0) rfl rfl rfl (show zyR _ _ _ _ [some (.ref (0 + 3)), some (.int x1)] [.ref (1 + 3)] _ _ from ?_)
      refine zy_2 rfl rfl (show zyR _ _ _ _ [some (.ref (0 + 3)), some (.int x1)] [.int x1, .ref (1 + 3)] _ _ from ?_)
      refine zy_3 rfl rfl (show zyR _ _ _ _ [some (.ref (0 + 3)), some (.int x1)] [.int (1 : Int32), .int x1, .ref (1 + 3)] _ _ from ?_)
      obtain ⟨p3, hp3, h⟩ := zy_bind h
      refine zy_5 (c := 1) (as := [.int x1, .int (1 : Int32)]) (rest := []) (L := [some (.ref (1 + 3)), some (.int x1), some (.int (1 : Int32)), none]) (d' := 1) rfl rfl rfl (Nat.le_of_ble_eq_true rfl) (Nat.le_of_ble_eq_true rfl) rfl (Nat.le_of_ble_eq_true rfl) rfl rfl (zyC16 hp3) ?_
      show zyR _ _ _ _ [some (.ref (0 + 3)), some (.int x1)] [.int p3.1] _ _
      obtain ⟨rfl, rfl⟩ := zy_pi h
      exact zy_4 rfl ⟨rfl, rfl⟩
    · replace h := zy_ifn h b4
      refine zy_3 rfl rfl (show zyR _ _ _ _ [some (.ref (0 + 3)), some (.int x1)] [.int (-3 : Int32)] _ _ from ?_)
      refine zy_6 rfl (show zyR _ _ _ _ [some (.ref (0 + 3)), some (.int x1)] [.int (-3 : Int32)] _ _ from ?_)
      obtain ⟨rfl, rfl⟩ := zy_pi h
      exact zy_4 rfl ⟨rfl, rfl⟩
  · replace h := zy_ifn h b5
    refine zy_3 rfl rfl (show zyR _ _ _ _ [some (.ref (0 + 3)), some (.int x1)] [.int (-1 : Int32)] _ _ from ?_)
    obtain ⟨rfl, rfl⟩ := zy_pi h
    exact zy_4 rfl ⟨rfl, rfl⟩
/-! NineOpinions.isShelf(I)Z -/
noncomputable def zyF18   (x0 : Int32) (s : zy_S) : Option (Int32 × zy_S) :=
if x0 < 0 then
some ((0 : Int32), s)
else
if (6 : Int32) ≤ x0 then
some ((0 : Int32), s)
else
some ((1 : Int32), s)
theorem zyC18 {X : zx_X}     {x0 : Int32} {s : zy_S} {r : Int32} {s' : zy_S}  (h : zyF18 x0 s = some (r, s')) : zyR X 1 18 0 [some (.int x0)] [] s (zyE (some (.int r)) s') := by
  unfold zyF18 at h
  refine zy_2 rfl rfl (show zyR _ _ _ _ [some (.int x0)] [.int x0] _ _ from ?_)
  refine zy_24_2 rfl (fun b2 => (show zyR _ _ _ _ [some (.int x0)] [] _ _ from ?_)) (fun b2 => (show zyR _ _ _ _ [some (.int x0)] [] _ _ from ?_))
  · replace h := zy_ifp h b2
    refine zy_3 rfl rfl (show zyR _ _ _ _ [some (.int x0)] [.int (0 : Int32)] _ _ from ?_)
    cases h
    exact zy_4b rfl ⟨rfl, rfl⟩ (Or.inl rfl)
  · replace h := zy_ifn h b2
    refine zy_2 rfl rfl (show zyR _ _ _ _ [some (.int x0)] [.int x0] _ _ from ?_)
    refine zy_3 rfl rfl (show zyR _ _ _ _ [some (.int x0)] [.int (6 : Int32), .int x0] _ _ from ?_)
    refine zy_25_3 rfl (fun b1 => (show zyR _ _ _ _ [some (.int x0)] [] _ _ from ?_)) (fun b1 => (show zyR _ _ _ _ [some (.int x0)] [] _ _ from ?_))
    · replace h := zy_ifp h b1
      refine zy_3 rfl rfl (show zyR _ _ _ _ [some (.int x0)] [.int (0 : Int32)] _ _ from ?_)
      cases h
      exact zy_4b rfl ⟨rfl, rfl⟩ (Or.inl rfl)
    · replace h := zy_ifn h b1
      refine zy_3 rfl rfl (show zyR _ _ _ _ [some (.int x0)] [.int (1 : Int32)] _ _ from ?_)
      refine zy_6 rfl (show zyR _ _ _ _ [some (.int x0)] [.int (1 : Int32)] _ _ from ?_)
      cases h
      exact zy_4b rfl ⟨rfl, rfl⟩ (Or.inr rfl)
