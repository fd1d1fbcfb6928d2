/-! PART 41.04: methods as functions. Made by wip/v4/dcp.py. -/
/-! NineOpinions$Town.has(II)Z -/
noncomputable def zyF25_32   (x2 : Int32) (s : zy_S) : Option (Int32 × zy_S) :=
if x2 < 0 then
some ((0 : Int32), s)
else
if (s.1 1 5) ≤ x2 then
some ((0 : Int32), s)
else
some ((1 : Int32), s)
theorem zyC25_32 {X : zx_X}     {x2 : Int32} {s : zy_S} {r : Int32} {s' : zy_S}  (h : zyF25_32 x2 s = some (r, s')) : zyR X 2 25 32 [some (.ref (1 + 3)), none, some (.int x2)] [] s (zyE (some (.int r)) s') := by
  unfold zyF25_32 at h
  refine zy_2 rfl rfl (show zyR _ _ _ _ [some (.ref (1 + 3)), none, some (.int x2)] [.int x2] _ _ from ?_)
  refine zy_24_2 rfl (fun b2 => (show zyR _ _ _ _ [some (.ref (1 + 3)), none, some (.int x2)] [] _ _ from ?_)) (fun b2 => (show zyR _ _ _ _ [some (.ref (1 + 3)), none, some (.int x2)] [] _ _ from ?_))
  · replace h := zy_ifp h b2
    refine zy_3 rfl rfl (show zyR _ _ _ _ [some (.ref (1 + 3)), none, some (.int x2)] [.int (0 : Int32)] _ _ from ?_)
    cases h
    exact zy_4b rfl ⟨rfl, rfl⟩ (Or.inl rfl)
  · replace h := zy_ifn h b2
    refine zy_2 rfl rfl (show zyR _ _ _ _ [some (.ref (1 + 3)), none, some (.int x2)] [.int x2] _ _ from ?_)
    refine zy_0 rfl rfl (show zyR _ _ _ _ [some (.ref (1 + 3)), none, some (.int x2)] [.ref (1 + 3), .int x2] _ _ from ?_)
    refine zy_1 (c := 1) rfl rfl rfl (show zyR _ _ _ _ [some (.ref (1 + 3)), none, some (.int x2)] [.int (s.1 1 5), .int x2] _ _ from ?_)
    refine zy_25_3 rfl (fun b1 => (show zyR _ _ _ _ [some (.ref (1 + 3)), none, some (.int x2)] [] _ _ from ?_)) (fun b1 => (show zyR _ _ _ _ [some (.ref (1 + 3)), none, some (.int x2)] [] _ _ from ?_))
    · replace h := zy_ifp h b1
      refine zy_3 rfl rfl (show zyR _ _ _ _ [some (.ref (1 + 3)), none, some (.int x2)] [.int (0 : Int32)] _ _ from ?_)
      cases h
      exact zy_4b rfl ⟨rfl, rfl⟩ (Or.inl rfl)
    · replace h := zy_ifn h b1
      refine zy_3 rfl rfl (show zyR _ _ _ _ [some (.ref (1 + 3)), none, some (.int x2)] [.int (1 : Int32)] _ _ from ?_)
      refine zy_6 rfl (show zyR _ _ _ _ [some (.ref (1 + 3)), none, some (.int x2)] [.int (1 : Int32)] _ _ from ?_)
      cases h
      exact zy_4b rfl ⟨rfl, rfl⟩ (Or.inr rfl)
noncomputable def zyF25   (x1 : Int32) (x2 : Int32) (s : zy_S) : Option (Int32 × zy_S) :=
if x1 = (0 : Int32) then
zyF25_32 x2 s
else
if x1 = (1 : Int32) then
zyF25_32 x2 s
else
if x1 = (2 : Int32) then
(zyF26 x2 s).bind fun p5 =>
if p5.1 = 0 ∨ p5.1 = 1 then
some (p5.1, p5.2)
else none
else
if x1 = (3 : Int32) then
if x2 ≠ 0 then
some ((0 : Int32), s)
else
some ((1 : Int32), s)
else
some ((0 : Int32), s)
theorem zyC25 {X : zx_X}     {x1 : Int32} {x2 : Int32} {s : zy_S} {r : Int32} {s' : zy_S}  (h : zyF25 x1 x2 s = some (r, s')) : zyR X 2 25 0 [some (.ref (1 + 3)), some (.int x1), some (.int x2)] [] s (zyE (some (.int r)) s') := by
  unfold zyF25 at h
  refine zy_2 rfl rfl (show zyR _ _ _ _ [some (.ref (1 + 3)), some (.int x1), some (.int x2)] [.int x1] _ _ from ?_)
  refine zy_50 rfl (by decide) ?_
  refine zy_swp (fun b3 => (show zyR _ _ _ _ [some (.ref (1 + 3)), some (.int x1), some (.int x2)] [] _ _ from ?_)) (fun b3 => ?_)
  · replace h := zy_ifp h b3
    exact zy_sub (show zy_le [some (.ref (1 + 3)), none, some (.int x2)] [some (.ref (1 + 3)), some (.int x1), some (.int x2)] from ⟨rfl, ⟨rfl, trivial⟩⟩) (zyC25_32 h)
  replace h := zy_ifn h b3
  refine zy_swp (fun b4 => (show zyR _ _ _ _ [some (.ref (1 + 3)), some (.int x1), some (.int x2)] [] _ _ from ?_)) (fun b4 => ?_)
  · replace h := zy_ifp h b4
    exact zy_sub (show zy_le [some (.ref (1 + 3)), none, some (.int x2)] [some (.ref (1 + 3)), some (.int x1), some (.int x2)] from ⟨rfl, ⟨rfl, trivial⟩⟩) (zyC25_32 h)
  replace h := zy_ifn h b4
  refine zy_swp (fun b7 => (show zyR _ _ _ _ [some (.ref (1 + 3)), some (.int x1), some (.int x2)] [] _ _ from ?_)) (fun b7 => ?_)
  · replace h := zy_ifp h b7
    refine zy_2 rfl rfl (show zyR _ _ _ _ [some (.ref (1 + 3)), some (.int x1), some (.int x2)] [.int x2] _ _ from ?_)
    obtain ⟨p5, hp5, h⟩ := zy_bind h
    refine zy_61 (as := [.int x2]) (rest := []) (L := [some (.int x2)]) (d' := 1) rfl rfl (Nat.le_of_ble_eq_true rfl) (Nat.le_of_ble_eq_true rfl) rfl (Nat.le_of_ble_eq_true rfl) rfl rfl (zyC26 hp5) ?_
    show zyR _ _ _ _ [some (.ref (1 + 3)), some (.int x1), some (.int x2)] [.int p5.1] _ _
    obtain ⟨c6, h⟩ := zy_if h
    cases h
    exact zy_4b rfl ⟨rfl, rfl⟩ c6
  replace h := zy_ifn h b7
  refine zy_swp (fun b9 => (show zyR _ _ _ _ [some (.ref (1 + 3)), some (.int x1), some (.int x2)] [] _ _ from ?_)) (fun b9 => ?_)
  · replace h := zy_ifp h b9
    refine zy_2 rfl rfl (show zyR _ _ _ _ [some (.ref (1 + 3)), some (.int x1), some (.int x2)] [.int x2] _ _ from ?_)
    refine zy_24_1 rfl (fun b8 => (show zyR _ _ _ _ [some (.ref (1 + 3)), some (.int x1), some (.int x2)] [] _ _ from ?_)) (fun b8 => (show zyR _ _ _ _ [some (.ref (1 + 3)), some (.int x1), some (.int x2)] [] _ _ from ?_))
    · replace h := zy_ifp h b8
      refine zy_3 rfl rfl (show zyR _ _ _ _ [some (.ref (1 + 3)), some (.int x1), some (.int x2)] [.int (0 : Int32)] _ _ from ?_)
      cases h
      exact zy_4b rfl ⟨rfl, rfl⟩ (Or.inl rfl)
    · replace h := zy_ifn h b8
      refine zy_3 rfl rfl (show zyR _ _ _ _ [some (.ref (1 + 3)), some (.int x1), some (.int x2)] [.int (1 : Int32)] _ _ from ?_)
      refine zy_6 rfl (show zyR _ _ _ _ [some (.ref (1 + 3)), some (.int x1), some (.int x2)] [.int (1 : Int32)] _ _ from ?_)
      cases h
      exact zy_4b rfl ⟨rfl, rfl⟩ (Or.inr rfl)
  replace h := zy_ifn h b9
  show zyR _ _ _ _ [some (.ref (1 + 3)), some (.int x1), some (.int x2)] [] _ _
  refine zy_3 rfl rfl (show zyR _ _ _ _ [some (.ref (1 + 3)), some (.int x1), some (.int x2)] [.int (0 : Int32)] _ _ from ?_)
  cases h
  exact zy_4b rfl ⟨rfl, rfl⟩ (Or.inl rfl)
/-! NineOpinions$Town.told(II)I -/
noncomputable def zyF27   (x1 : Int32) (x2 : Int32) (s : zy_S) : Option (Int32 × zy_S) :=
if x1 = (0 : Int32) then
if zy_in x2 8 then
some ((s.1 3 (x2).toNatClampNeg), s)
else none
else
if x1 = (1 : Int32) then
if zy_in x2 8 then
some ((s.1 4 (x2).toNatClampNeg), s)
else none
else
if x1 = (2 : Int32) then
if zy_in x2 24 then
some ((s.1 2 (x2).toNatClampNeg), s)
else none
else
some ((s.1 1 4), s)
theorem zyC27 {X : zx_X}     {x1 : Int32} {x2 : Int32} {s : zy_S} {r : Int32} {s' : zy_S}  (h : zyF27 x1 x2 s = some (r, s')) : zyR X 1 27 0 [some (.ref (1 + 3)), some (.int x1), some (.int x2)] [] s (zyE (some (.int r)) s') := by
  unfold zyF27 at h
  refine zy_2 rfl rfl (show zyR _ _ _ _ [some (.ref (1 + 3)), some (.int x1), some (.int x2)] [.int x1] _ _ from ?_)
  refine zy_50 rfl (by decide) ?_
  refine zy_swp (fun b2 => (show zyR _ _ _ _ [some (.ref (1 + 3)), some (.int x1), some (.int x2)] [] _ _ from ?_)) (fun b2 => ?_)
  · replace h := zy_ifp h b2
    refine zy_0 rfl rfl (show zyR _ _ _ _ [some (.ref (1 + 3)), some (.int x1), some (.int x2)] [.ref (1 + 3)] _ _ from ?_)
    refine zy_1r (c := 1) rfl rfl rfl (show zyR _ _ _ _ [some (.ref (1 + 3)), some (.int x1), some (.int x2)] [.ref (3 + 3)] _ _ from ?_)
    refine zy_2 rfl rfl (show zyR _ _ _ _ [some (.ref (1 + 3)), some (.int x1), some (.int x2)] [.int x2, .ref (3 + 3)] _ _ from ?_)
    obtain ⟨c1, h⟩ := zy_if h
    refine zy_26 (c := 3) rfl rfl c1 (show zyR _ _ _ _ [some (.ref (1 + 3)), some (.int x1), some (.int x2)] [.int (s.1 3 (x2).toNatClampNeg)] _ _ from ?_)
    obtain ⟨rfl, rfl⟩ := zy_pi h
    exact zy_4 rfl ⟨rfl, rfl⟩
  replace h := zy_ifn h b2
  refine zy_swp (fun b4 => (show zyR _ _ _ _ [some (.ref (1 + 3)), some (.int x1), some (.int x2)] [] _ _ from ?_)) (fun b4 => ?_)
  · replace h := zy_ifp h b4
    refine zy_0 rfl rfl (show zyR _ _ _ _ [some (.ref (1 + 3)), some (.int x1), some (.int x2)] [.ref (1 + 3)] _ _ from ?_)
    refine zy_1r (c := 1) rfl rfl rfl (show zyR _ _ _ _ [some (.ref (1 + 3)), some (.int x1), some (.int x2)] [.ref (4 + 3)] _ _ from ?_)
    refine zy_2 rfl rfl (show zyR _ _ _ _ [some (.ref (1 + 3)), some (.int x1), some (.int x2)] [.int x2, .ref (4 + 3)] _ _ from ?_)
    obtain ⟨c3, h⟩ := zy_if h
    refine zy_26 (c := 4) rfl rfl c3 (show zyR _ _ _ _ [some (.ref (1 + 3)), some (.int x1), some (.int x2)] [.int (s.1 4 (x2).toNatClampNeg)] _ _ from ?_)
    obtain ⟨rfl, rfl⟩ := zy_pi h
    exact zy_4 rfl ⟨rfl, rfl⟩
  replace h := zy_ifn h b4
  refine zy_swp (fun b6 => (show zyR _ _ _ _ [some (.ref (1 + 3)), some (.int x1), some (.int x2)] [] _ _ from ?_)) (fun b6 => ?_)
  · replace h := zy_ifp h b6
    refine zy_0 rfl rfl (show zyR _ _ _ _ [some (.ref (1 + 3)), some (.int x1), some (.int x2)] [.ref (1 + 3)] _ _ from ?_)
    refine zy_1r (c := 1) rfl rfl rfl (show zyR _ _ _ _ [some (.ref (1 + 3)), some (.int x1), some (.int x2)] [.ref (2 + 3)] _ _ from ?_)
    refine zy_2 rfl rfl (show zyR _ _ _ _ [some (.ref (1 + 3)), some (.int x1), some (.int x2)] [.int x2, .ref (2 + 3)] _ _ from ?_)
    obtain ⟨c5, h⟩ := zy_if h
    refine zy_26 (c := 2) rfl rfl c5 (show zyR _ _ _ _ [some (.ref (1 + 3)), some (.int x1), some (.int x2)] [.int (s.1 2 (x2).toNatClampNeg)] _ _ from ?_)
    obtain ⟨rfl, rfl⟩ := zy_pi h
    exact zy_4 rfl ⟨rfl, rfl⟩
  replace h := zy_ifn h b6
  show zyR _ _ _ _ [some (.ref (1 + 3)), some (.int x1), some (.int x2)] [] _ _
  refine zy_0 rfl rfl (show zyR _ _ _ _ [some (.ref (1 + 3)), some (.int x1), some (.int x2)] [.ref (1 + 3)] _ _ from ?_)
  refine zy_1 (c := 1) rfl rfl rfl (show zyR _ _ _ _ [some (.ref (1 + 3)), some (.int x1), some (.int x2)] [.int (s.1 1 4)] _ _ from ?_)
  obtain ⟨rfl, rfl⟩ := zy_pi h
  exact zy_4 rfl ⟨rfl, rfl⟩
/-! NineOpinions$Town.tell(III)V -/
noncomputable def zyF28   (x1 : Int32) (x2 : Int32) (x3 : Int32) (s : zy_S) : Option (Int32 × zy_S) :=
if x1 = (0 : Int32) then
if zy_in x2 8 then
some ((0 : Int32), (zy_up s 3 (x2).toNatClampNeg x3))
else none
else
if x1 = (1 : Int32) then
if zy_in x2 8 then
some ((0 : Int32), (zy_up s 4 (x2).toNatClampNeg x3))
else none
else
if x1 = (2 : Int32) then
if zy_in x2 24 then
some ((0 : Int32), (zy_up s 2 (x2).toNatClampNeg x3))
else none
else
some ((0 : Int32), (zy_up s 1 4 x3))
theorem zyC28 {X : zx_X}     {x1 : Int32} {x2 : Int32} {x3 : Int32} {s : zy_S} {r : Int32} {s' : zy_S}  (h : zyF28 x1 x2 x3 s = some (r, s')) : zyR X 1 28 0 [some (.ref (1 + 3)), some (.int x1), some (.int x2), some (.int x3)] [] s (zyE none s') := by
  unfold zyF28 at h
  refine zy_2 rfl rfl (show zyR _ _ _ _ [some (.ref (1 + 3)), some (.int x1), some (.int x2), some (.int x3)] [.int x1] _ _ from ?_)
  refine zy_50 rfl (by decide) ?_
  refine zy_swp (fun b2 => (show zyR _ _ _ _ [some (.ref (1 + 3)), some (.int x1), some (.int x2), some (.int x3)] [] _ _ from ?_)) (fun b2 => ?_)
  · replace h := zy_ifp h b2
    refine zy_0 rfl rfl (show zyR _ _ _ _ [some (.ref (1 + 3)), some (.int x1), some (.int x2), some (.int x3)] [.ref (1 + 3)] _ _ from ?_)
    refine zy_1r (c := 1) rfl rfl rfl (show zyR _ _ _ _ [some (.ref (1 + 3)), some (.int x1), some (.int x2), some (.int x3)] [.ref (3 + 3)] _ _ from ?_)
    refine zy_2 rfl rfl (show zyR _ _ _ _ [some (.ref (1 + 3)), some (.int x1), some (.int x2), some (.int x3)] [.int x2, .ref (3 + 3)] _ _ from ?_)
    refine zy_2 rfl rfl (show zyR _ _ _ _ [some (.ref (1 + 3)), some (.int x1), some (.int x2), some (.int x3)] [.int x3, .int x2, .ref (3 + 3)] _ _ from ?_)
    obtain ⟨c1, h⟩ := zy_if h
    refine zy_27 (c := 3) rfl rfl c1 (show zyR _ _ _ _ [some (.ref (1 + 3)), some (.int x1), some (.int x2), some (.int x3)] [] _ _ from ?_)
    refine zy_6 rfl (show zyR _ _ _ _ [some (.ref (1 + 3)), some (.int x1), some (.int x2), some (.int x3)] [] _ _ from ?_)
    cases h
    exact zy_66 rfl ⟨rfl, rfl⟩
  replace h := zy_ifn h b2
  refine zy_swp (fun b4 => (show zyR _ _ _ _ [some (.ref (1 + 3)), some (.int x1), some (.int x2), some (.int x3)] [] _ _ from ?_)) (fun b4 => ?_)
  · replace h := zy_ifp h b4
    refine zy_0 rfl rfl (show zyR _ _ _ _ [some (.ref (1 + 3)), some (.int x1), some (.int x2), some (.int x3)] [.ref (1 + 3)] _ _ from ?_)
    refine zy_1r (c := 1) rfl rfl rfl (show zyR _ _ _ _ [some (.ref (1 + 3)), some (.int x1), some (.int x2), some (.int x3)] [.ref (4 + 3)] _ _ from ?_)
    refine zy_2 rfl rfl (show zyR _ _ _ _ [some (.ref (1 + 3)), some (.int x1), some (.int x2), some (.int x3)] [.int x2, .ref (4 + 3)] _ _ from ?_)
    refine zy_2 rfl rfl (show zyR _ _ _ _ [some (.ref (1 + 3)), some (.int x1), some (.int x2), some (.int x3)] [.int x3, .int x2, .ref (4 + 3)] _ _ from ?_)
    obtain ⟨c3, h⟩ := zy_if h
    refine zy_27 (c := 4) rfl rfl c3 (show zyR _ _ _ _ [some (.ref (1 + 3)), some (.int x1), some (.int x2), some (.int x3)] [] _ _ from ?_)
    refine zy_6 rfl (show zyR _ _ _ _ [some (.ref (1 + 3)), some (.int x1), some (.int x2), some (.int x3)] [] _ _ from ?_)
    cases h
    exact zy_66 rfl ⟨rfl, rfl⟩
  replace h := zy_ifn h b4
  refine zy_swp (fun b6 => (show zyR _ _ _ _ [some (.ref (1 + 3)), some (.int x1), some (.int x2), some (.int x3)] [] _ _ from ?_)) (fun b6 => ?_)
  · replace h := zy_ifp h b6
    refine zy_0 rfl rfl (show zyR _ _ _ _ [some (.ref (1 + 3)), some (.int x1), some (.int x2), some (.int x3)] [.ref (1 + 3)] _ _ from ?_)
    refine zy_1r (c := 1) rfl rfl rfl (show zyR _ _ _ _ [some (.ref (1 + 3)), some (.int x1), some (.int x2), some (.int x3)] [.ref (2 + 3)] _ _ from ?_)
    refine zy_2 rfl rfl (show zyR _ _ _ _ [some (.ref (1 + 3)), some (.int x1), some (.int x2), some (.int x3)] [.int x2, .ref (2 + 3)] _ _ from ?_)
    refine zy_2 rfl rfl (show zyR _ _ _ _ [some (.ref (1 + 3)), some (.int x1), some (.int x2), some (.int x3)] [.int x3, .int x2, .ref (2 + 3)] _ _ from ?_)
    obtain ⟨c5, h⟩ := zy_if h
    refine zy_27 (c := 2) rfl rfl c5 (show zyR _ _ _ _ [some (.ref (1 + 3)), some (.int x1), some (.int x2), some (.int x3)] [] _ _ from ?_)
    refine zy_6 rfl (show zyR _ _ _ _ [some (.ref (1 + 3)), some (.int x1), some (.int x2), some (.int x3)] [] _ _ from ?_)
    cases h
    exact zy_66 rfl ⟨rfl, rfl⟩
  replace h := zy_ifn h b6
  show zyR _ _ _ _ [some (.ref (1 + 3)), some (.int x1), some (.int x2), some (.int x3)] [] _ _
  refine zy_0 rfl rfl (show zyR _ _ _ _ [some (.ref (1 + 3)), some (.int x1), some (.int x2), some (.int x3)] [.ref (1 + 3)] _ _ from ?_)
  refine zy_2 rfl rfl (show zyR _ _ _ _ [some (.ref (1 + 3)), some (.int x1), some (.int x2), some (.int x3)] [.int x3, .ref (1 + 3)] _ _ from ?_)
  refine zy_52 (c := 1) rfl rfl rfl (show zyR _ _ _ _ [some (.ref (1 + 3)), some (.int x1), some (.int x2), some (.int x3)] [] _ _ from ?_)
  cases h
  exact zy_66 rfl ⟨rfl, rfl⟩
/-! NineOpinions$Changes.forgetOldest()V -/
noncomputable def zyF30    (s : zy_S) : Option (Int32 × zy_S) :=
some ((0 : Int32), (zy_up (zy_ua (zy_ua (zy_ua (zy_ua s 23 (va_cpy (s.1 23) (s.1 23) 1 0 39)) 24 (va_cpy (s.1 24) (s.1 24) 1 0 39)) 25 (va_cpy (s.1 25) (s.1 25) 1 0 39)) 26 (va_cpy (s.1 26) (s.1 26) 1 0 39)) 22 5 (39 : Int32)))
theorem zyC30 {X : zx_X}      {s : zy_S} {r : Int32} {s' : zy_S}  (h : zyF30 s = some (r, s')) : zyR X 1 30 0 [some (.ref (22 + 3))] [] s (zyE none s') := by
  unfold zyF30 at h
  refine zy_0 rfl rfl (show zyR _ _ _ _ [some (.ref (22 + 3))] [.ref (22 + 3)] _ _ from ?_)
  refine zy_1r (c := 22) rfl rfl rfl (show zyR _ _ _ _ [some (.ref (22 + 3))] [.ref (23 + 3)] _ _ from ?_)
  refine zy_3 rfl rfl (show zyR _ _ _ _ [some (.ref (22 + 3))] [.int (1 : Int32), .ref (23 + 3)] _ _ from ?_)
  refine zy_0 rfl rfl (show zyR _ _ _ _ [some (.ref (22 + 3))] [.ref (22 + 3), .int (1 : Int32), .ref (23 + 3)] _ _ from ?_)
  refine zy_1r (c := 22) rfl rfl rfl (show zyR _ _ _ _ [some (.ref (22 + 3))] [.ref (23 + 3), .int (1 : Int32), .ref (23 + 3)] _ _ from ?_)
  refine zy_3 rfl rfl (show zyR _ _ _ _ [some (.ref (22 + 3))] [.int (0 : Int32), .ref (23 + 3), .int (1 : Int32), .ref (23 + 3)] _ _ from ?_)
  refine zy_3 rfl rfl (show zyR _ _ _ _ [some (.ref (22 + 3))] [.int (39 : Int32), .int (0 : Int32), .ref (23 + 3), .int (1 : Int32), .ref (23 + 3)] _ _ from ?_)
  refine zy_64 (c0 := 23) (c1 := 23) rfl rfl rfl (by decide) (Nat.le_of_ble_eq_true rfl) (Nat.le_of_ble_eq_true rfl) (show zyR _ _ _ _ [some (.ref (22 + 3))] [] _ _ from ?_)
  refine zy_0 rfl rfl (show zyR _ _ _ _ [some (.ref (22 + 3))] [.ref (22 + 3)] _ _ from ?_)
  refine zy_1r (c := 22) rfl rfl rfl (show zyR _ _ _ _ [some (.ref (22 + 3))] [.ref (24 + 3)] _ _ from ?_)
  refine zy_3 rfl rfl (show zyR _ _ _ _ [some (.ref (22 + 3))] [.int (1 : Int32), .ref (24 + 3)] _ _ from ?_)
  refine zy_0 rfl rfl (show zyR _ _ _ _ [some (.ref (22 + 3))] [.ref (22 + 3), .int (1 : Int32), .ref (24 + 3)] _ _ from ?_)
  refine zy_1r (c := 22) rfl rfl rfl (show zyR _ _ _ _ [some (.ref (22 + 3))] [.ref (24 + 3), .int (1 : Int32), .ref (24 + 3)] _ _ from ?_)
  refine zy_3 rfl rfl (show zyR _ _ _ _ [some (.ref (22 + 3))] [.int (0 : Int32), .ref (24 + 3), .int (1 : Int32), .ref (24 + 3)] _ _ from ?_)
  refine zy_3 rfl rfl (show zyR _ _ _ _ [some (.ref (22 + 3))] [.int (39 : Int32), .int (0 : Int32), .ref (24 + 3), .int (1 : Int32), .ref (24 + 3)] _ _ from ?_)
  refine zy_64 (c0 := 24) (c1 := 24) rfl rfl rfl (by decide) (Nat.le_of_ble_eq_true rfl) (Nat.le_of_ble_eq_true rfl) (show zyR _ _ _ _ [some (.ref (22 + 3))] [] _ _ from ?_)
  refine zy_0 rfl rfl (show zyR _ _ _ _ [some (.ref (22 + 3))] [.ref (22 + 3)] _ _ from ?_)
  refine zy_1r (c := 22) rfl rfl rfl (show zyR _ _ _ _ [some (.ref (22 + 3))] [.ref (25 + 3)] _ _ from ?_)
  refine zy_3 rfl rfl (show zyR _ _ _ _ [some (.ref (22 + 3))] [.int (1 : Int32), .ref (25 + 3)] _ _ from ?_)
  refine zy_0 rfl rfl (show zyR _ _ _ _ [some (.ref (22 + 3))] [.ref (22 + 3), .int (1 : Int32), .ref (25 + 3)] _ _ from ?_)
  refine zy_1r (c := 22) rfl rfl rfl (show zyR _ _ _ _ [some (.ref (22 + 3))] [.ref (25 + 3), .int (1 : Int32), .ref (25 + 3)] _ _ from ?_)
  refine zy_3 rfl rfl (show zyR _ _ _ _ [some (.ref (22 + 3))] [.int (0 : Int32), .ref (25 + 3), .int (1 : Int32), .ref (25 + 3)] _ _ from ?_)
  refine zy_3 rfl rfl (show zyR _ _ _ _ [some (.ref (22 + 3))] [.int (39 : Int32), .int (0 : Int32), .ref (25 + 3), .int (1 : Int32), .ref (25 + 3)] _ _ from ?_)
  refine zy_64 (c0 := 25) (c1 := 25) rfl rfl rfl (by decide) (Nat.le_of_ble_eq_true rfl) (Nat.le_of_ble_eq_true rfl) (show zyR _ _ _ _ [some (.ref (22 + 3))] [] _ _ from ?_)
  refine zy_0 rfl rfl (show zyR _ _ _ _ [some (.ref (22 + 3))] [.ref (22 + 3)] _ _ from ?_)
  refine zy_1r (c := 22) rfl rfl rfl (show zyR _ _ _ _ [some (.ref (22 + 3))] [.ref (26 + 3)] _ _ from ?_)
  refine zy_3 rfl rfl (show zyR _ _ _ _ [some (.ref (22 + 3))] [.int (1 : Int32), .ref (26 + 3)] _ _ from ?_)
  refine zy_0 rfl rfl (show zyR _ _ _ _ [some (.ref (22 + 3))] [.ref (22 + 3), .int (1 : Int32), .ref (26 + 3)] _ _ from ?_)
  refine zy_1r (c := 22) rfl rfl rfl (show zyR _ _ _ _ [some (.ref (22 + 3))] [.ref (26 + 3), .int (1 : Int32), .ref (26 + 3)] _ _ from ?_)
  refine zy_3 rfl rfl (show zyR _ _ _ _ [some (.ref (22 + 3))] [.int (0 : Int32), .ref (26 + 3), .int (1 : Int32), .ref (26 + 3)] _ _ from ?_)
  refine zy_3 rfl rfl (show zyR _ _ _ _ [some (.ref (22 + 3))] [.int (39 : Int32), .int (0 : Int32), .ref (26 + 3), .int (1 : Int32), .ref (26 + 3)] _ _ from ?_)
  refine zy_64 (c0 := 26) (c1 := 26) rfl rfl rfl (by decide) (Nat.le_of_ble_eq_true rfl) (Nat.le_of_ble_eq_true rfl) (show zyR _ _ _ _ [some (.ref (22 + 3))] [] _ _ from ?_)
  refine zy_0 rfl rfl (show zyR _ _ _ _ [some (.ref (22 + 3))] [.ref (22 + 3)] _ _ from ?_)
  refine zy_3 rfl rfl (show zyR _ _ _ _ [some (.ref (22 + 3))] [.int (39 : Int32), .ref (22 + 3)] _ _ from ?_)
  refine zy_52 (c := 22) rfl rfl rfl (show zyR _ _ _ _ [some (.ref (22 + 3))] [] _ _ from ?_)
  cases h
  exact zy_66 rfl ⟨rfl, rfl⟩
