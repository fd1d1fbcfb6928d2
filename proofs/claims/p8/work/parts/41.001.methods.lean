/-! PART 41.01: methods as functions. Made by wip/v4/dcp.py. -/
/-! NineOpinions$Shelf.isRow()Z -/
noncomputable def zyF20   (x0 : Nat) (s : zy_S) : Option (Int32 × zy_S) :=
if (s.1 x0 2) = (-1 : Int32) then
some ((0 : Int32), s)
else
some ((1 : Int32), s)
theorem zyC20 {X : zx_X}     {x0 : Nat} {s : zy_S} {r : Int32} {s' : zy_S} (hs_x0 : zy_isSh x0) (h : zyF20 x0 s = some (r, s')) : zyR X 1 20 0 [some (.ref (x0 + 3))] [] s (zyE (some (.int r)) s') := by
  unfold zyF20 at h
  refine zy_0 rfl rfl (show zyR _ _ _ _ [some (.ref (x0 + 3))] [.ref (x0 + 3)] _ _ from ?_)
  refine zy_1 (c := x0) rfl hs_x0.1 rfl (show zyR _ _ _ _ [some (.ref (x0 + 3))] [.int (s.1 x0 2)] _ _ from ?_)
  refine zy_3 rfl rfl (show zyR _ _ _ _ [some (.ref (x0 + 3))] [.int (-1 : Int32), .int (s.1 x0 2)] _ _ from ?_)
  refine zy_25_0 rfl (fun b1 => (show zyR _ _ _ _ [some (.ref (x0 + 3))] [] _ _ from ?_)) (fun b1 => (show zyR _ _ _ _ [some (.ref (x0 + 3))] [] _ _ from ?_))
  · replace h := zy_ifp h b1
    refine zy_3 rfl rfl (show zyR _ _ _ _ [some (.ref (x0 + 3))] [.int (0 : Int32)] _ _ from ?_)
    cases h
    exact zy_4b rfl ⟨rfl, rfl⟩ (Or.inl rfl)
  · replace h := zy_ifn h b1
    refine zy_3 rfl rfl (show zyR _ _ _ _ [some (.ref (x0 + 3))] [.int (1 : Int32)] _ _ from ?_)
    refine zy_6 rfl (show zyR _ _ _ _ [some (.ref (x0 + 3))] [.int (1 : Int32)] _ _ from ?_)
    cases h
    exact zy_4b rfl ⟨rfl, rfl⟩ (Or.inr rfl)
/-! NineOpinions$Shelf.isBare()Z -/
noncomputable def zyF19   (x0 : Nat) (s : zy_S) : Option (Int32 × zy_S) :=
if (s.1 x0 1) ≠ (-1 : Int32) then
some ((0 : Int32), s)
else
(zyF20 x0 s).bind fun p1 =>
if p1.1 ≠ 0 then
some ((0 : Int32), p1.2)
else
some ((1 : Int32), p1.2)
theorem zyC19 {X : zx_X}     {x0 : Nat} {s : zy_S} {r : Int32} {s' : zy_S} (hs_x0 : zy_isSh x0) (h : zyF19 x0 s = some (r, s')) : zyR X 2 19 0 [some (.ref (x0 + 3))] [] s (zyE (some (.int r)) s') := by
  unfold zyF19 at h
  refine zy_0 rfl rfl (show zyR _ _ _ _ [some (.ref (x0 + 3))] [.ref (x0 + 3)] _ _ from ?_)
  refine zy_1 (c := x0) rfl hs_x0.1 rfl (show zyR _ _ _ _ [some (.ref (x0 + 3))] [.int (s.1 x0 1)] _ _ from ?_)
  refine zy_3 rfl rfl (show zyR _ _ _ _ [some (.ref (x0 + 3))] [.int (-1 : Int32), .int (s.1 x0 1)] _ _ from ?_)
  refine zy_25_1 rfl (fun b3 => (show zyR _ _ _ _ [some (.ref (x0 + 3))] [] _ _ from ?_)) (fun b3 => (show zyR _ _ _ _ [some (.ref (x0 + 3))] [] _ _ from ?_))
  · replace h := zy_ifp h b3
    refine zy_3 rfl rfl (show zyR _ _ _ _ [some (.ref (x0 + 3))] [.int (0 : Int32)] _ _ from ?_)
    cases h
    exact zy_4b rfl ⟨rfl, rfl⟩ (Or.inl rfl)
  · replace h := zy_ifn h b3
    refine zy_0 rfl rfl (show zyR _ _ _ _ [some (.ref (x0 + 3))] [.ref (x0 + 3)] _ _ from ?_)
    obtain ⟨p1, hp1, h⟩ := zy_bind h
    refine zy_5 (c := x0) (as := []) (rest := []) (L := [some (.ref (x0 + 3))]) (d' := 1) rfl rfl hs_x0.1 (Nat.le_of_ble_eq_true rfl) (Nat.le_of_ble_eq_true rfl) rfl (Nat.le_of_ble_eq_true rfl) rfl rfl (zyC20 hs_x0 hp1) ?_
    show zyR _ _ _ _ [some (.ref (x0 + 3))] [.int p1.1] _ _
    refine zy_24_1 rfl (fun b2 => (show zyR _ _ _ _ [some (.ref (x0 + 3))] [] _ _ from ?_)) (fun b2 => (show zyR _ _ _ _ [some (.ref (x0 + 3))] [] _ _ from ?_))
    · replace h := zy_ifp h b2
      refine zy_3 rfl rfl (show zyR _ _ _ _ [some (.ref (x0 + 3))] [.int (0 : Int32)] _ _ from ?_)
      cases h
      exact zy_4b rfl ⟨rfl, rfl⟩ (Or.inl rfl)
    · replace h := zy_ifn h b2
      refine zy_3 rfl rfl (show zyR _ _ _ _ [some (.ref (x0 + 3))] [.int (1 : Int32)] _ _ from ?_)
      refine zy_6 rfl (show zyR _ _ _ _ [some (.ref (x0 + 3))] [.int (1 : Int32)] _ _ from ?_)
      cases h
      exact zy_4b rfl ⟨rfl, rfl⟩ (Or.inr rfl)
/-! NineOpinions$Shelf.isRowOf(I)Z -/
noncomputable def zyF21   (x0 : Nat) (x1 : Int32) (s : zy_S) : Option (Int32 × zy_S) :=
(zyF20 x0 s).bind fun p1 =>
if p1.1 = 0 then
some ((0 : Int32), p1.2)
else
if (p1.2.1 x0 2) ≠ x1 then
some ((0 : Int32), p1.2)
else
some ((1 : Int32), p1.2)
theorem zyC21 {X : zx_X}     {x0 : Nat} {x1 : Int32} {s : zy_S} {r : Int32} {s' : zy_S} (hs_x0 : zy_isSh x0) (h : zyF21 x0 x1 s = some (r, s')) : zyR X 2 21 0 [some (.ref (x0 + 3)), some (.int x1)] [] s (zyE (some (.int r)) s') := by
  unfold zyF21 at h
  refine zy_0 rfl rfl (show zyR _ _ _ _ [some (.ref (x0 + 3)), some (.int x1)] [.ref (x0 + 3)] _ _ from ?_)
  obtain ⟨p1, hp1, h⟩ := zy_bind h
  refine zy_5 (c := x0) (as := []) (rest := []) (L := [some (.ref (x0 + 3))]) (d' := 1) rfl rfl hs_x0.1 (Nat.le_of_ble_eq_true rfl) (Nat.le_of_ble_eq_true rfl) rfl (Nat.le_of_ble_eq_true rfl) rfl rfl (zyC20 hs_x0 hp1) ?_
  show zyR _ _ _ _ [some (.ref (x0 + 3)), some (.int x1)] [.int p1.1] _ _
  refine zy_24_0 rfl (fun b3 => (show zyR _ _ _ _ [some (.ref (x0 + 3)), some (.int x1)] [] _ _ from ?_)) (fun b3 => (show zyR _ _ _ _ [some (.ref (x0 + 3)), some (.int x1)] [] _ _ from ?_))
  · replace h := zy_ifp h b3
    refine zy_3 rfl rfl (show zyR _ _ _ _ [some (.ref (x0 + 3)), some (.int x1)] [.int (0 : Int32)] _ _ from ?_)
    cases h
    exact zy_4b rfl ⟨rfl, rfl⟩ (Or.inl rfl)
  · replace h := zy_ifn h b3
    refine zy_0 rfl rfl (show zyR _ _ _ _ [some (.ref (x0 + 3)), some (.int x1)] [.ref (x0 + 3)] _ _ from ?_)
    refine zy_1 (c := x0) rfl hs_x0.1 rfl (show zyR _ _ _ _ [some (.ref (x0 + 3)), some (.int x1)] [.int (p1.2.1 x0 2)] _ _ from ?_)
    refine zy_2 rfl rfl (show zyR _ _ _ _ [some (.ref (x0 + 3)), some (.int x1)] [.int x1, .int (p1.2.1 x0 2)] _ _ from ?_)
    refine zy_25_1 rfl (fun b2 => (show zyR _ _ _ _ [some (.ref (x0 + 3)), some (.int x1)] [] _ _ from ?_)) (fun b2 => (show zyR _ _ _ _ [some (.ref (x0 + 3)), some (.int x1)] [] _ _ from ?_))
    · replace h := zy_ifp h b2
      refine zy_3 rfl rfl (show zyR _ _ _ _ [some (.ref (x0 + 3)), some (.int x1)] [.int (0 : Int32)] _ _ from ?_)
      cases h
      exact zy_4b rfl ⟨rfl, rfl⟩ (Or.inl rfl)
    · replace h := zy_ifn h b2
      refine zy_3 rfl rfl (show zyR _ _ _ _ [some (.ref (x0 + 3)), some (.int x1)] [.int (1 : Int32)] _ _ from ?_)
      refine zy_6 rfl (show zyR _ _ _ _ [some (.ref (x0 + 3)), some (.int x1)] [.int (1 : Int32)] _ _ from ?_)
      cases h
      exact zy_4b rfl ⟨rfl, rfl⟩ (Or.inr rfl)
/-! NineOpinions$Shelf.hasPlaces(II)Z -/
noncomputable def zyF23   (x0 : Nat) (x1 : Int32) (x2 : Int32) (s : zy_S) : Option (Int32 × zy_S) :=
if x1 < 0 then
some ((0 : Int32), s)
else
if x2 < 0 then
some ((0 : Int32), s)
else
if (s.1 x0 3) < x1 then
some ((0 : Int32), s)
else
if ((s.1 x0 3) - x1) < x2 then
some ((0 : Int32), s)
else
some ((1 : Int32), s)
theorem zyC23 {X : zx_X}     {x0 : Nat} {x1 : Int32} {x2 : Int32} {s : zy_S} {r : Int32} {s' : zy_S} (hs_x0 : zy_isSh x0) (h : zyF23 x0 x1 x2 s = some (r, s')) : zyR X 1 23 0 [some (.ref (x0 + 3)), some (.int x1), some (.int x2)] [] s (zyE (some (.int r)) s') := by
  unfold zyF23 at h
  refine zy_2 rfl rfl (show zyR _ _ _ _ [some (.ref (x0 + 3)), some (.int x1), some (.int x2)] [.int x1] _ _ from ?_)
  refine zy_24_2 rfl (fun b4 => (show zyR _ _ _ _ [some (.ref (x0 + 3)), some (.int x1), some (.int x2)] [] _ _ from ?_)) (fun b4 => (show zyR _ _ _ _ [some (.ref (x0 + 3)), some (.int x1), some (.int x2)] [] _ _ from ?_))
  · replace h := zy_ifp h b4
    refine zy_3 rfl rfl (show zyR _ _ _ _ [some (.ref (x0 + 3)), some (.int x1), some (.int x2)] [.int (0 : Int32)] _ _ from ?_)
    cases h
    exact zy_4b rfl ⟨rfl, rfl⟩ (Or.inl rfl)
  · replace h := zy_ifn h b4
    refine zy_2 rfl rfl (show zyR _ _ _ _ [some (.ref (x0 + 3)), some (.int x1), some (.int x2)] [.int x2] _ _ from ?_)
    refine zy_24_2 rfl (fun b3 => (show zyR _ _ _ _ [some (.ref (x0 + 3)), some (.int x1), some (.int x2)] [] _ _ from ?_)) (fun b3 => (show zyR _ _ _ _ [some (.ref (x0 + 3)), some (.int x1), some (.int x2)] [] _ _ from ?_))
    · replace h := zy_ifp h b3
      refine zy_3 rfl rfl (show zyR _ _ _ _ [some (.ref (x0 + 3)), some (.int x1), some (.int x2)] [.int (0 : Int32)] _ _ from ?_)
      cases h
      exact zy_4b rfl ⟨rfl, rfl⟩ (Or.inl rfl)
    · replace h := zy_ifn h b3
      refine zy_2 rfl rfl (show zyR _ _ _ _ [some (.ref (x0 + 3)), some (.int x1), some (.int x2)] [.int x1] _ _ from ?_)
      refine zy_0 rfl rfl (show zyR _ _ _ _ [some (.ref (x0 + 3)), some (.int x1), some (.int x2)] [.ref (x0 + 3), .int x1] _ _ from ?_)
      refine zy_1 (c := x0) rfl hs_x0.1 rfl (show zyR _ _ _ _ [some (.ref (x0 + 3)), some (.int x1), some (.int x2)] [.int (s.1 x0 3), .int x1] _ _ from ?_)
      refine zy_25_4 rfl (fun b2 => (show zyR _ _ _ _ [some (.ref (x0 + 3)), some (.int x1), some (.int x2)] [] _ _ from ?_)) (fun b2 => (show zyR _ _ _ _ [some (.ref (x0 + 3)), some (.int x1), some (.int x2)] [] _ _ from ?_))
      · replace h := zy_ifp h b2
        refine zy_3 rfl rfl (show zyR _ _ _ _ [some (.ref (x0 + 3)), some (.int x1), some (.int x2)] [.int (0 : Int32)] _ _ from ?_)
        cases h
        exact zy_4b rfl ⟨rfl, rfl⟩ (Or.inl rfl)
      · replace h := zy_ifn h b2
        refine zy_2 rfl rfl (show zyR _ _ _ _ [some (.ref (x0 + 3)), some (.int x1), some (.int x2)] [.int x2] _ _ from ?_)
        refine zy_0 rfl rfl (show zyR _ _ _ _ [some (.ref (x0 + 3)), some (.int x1), some (.int x2)] [.ref (x0 + 3), .int x2] _ _ from ?_)
        refine zy_1 (c := x0) rfl hs_x0.1 rfl (show zyR _ _ _ _ [some (.ref (x0 + 3)), some (.int x1), some (.int x2)] [.int (s.1 x0 3), .int x2] _ _ from ?_)
        refine zy_2 rfl rfl (show zyR _ _ _ _ [some (.ref (x0 + 3)), some (.int x1), some (.int x2)] [.int x1, .int (s.1 x0 3), .int x2] _ _ from ?_)
        refine zy_11 rfl (show zyR _ _ _ _ [some (.ref (x0 + 3)), some (.int x1), some (.int x2)] [.int ((s.1 x0 3) - x1), .int x2] _ _ from ?_)
        refine zy_25_4 rfl (fun b1 => (show zyR _ _ _ _ [some (.ref (x0 + 3)), some (.int x1), some (.int x2)] [] _ _ from ?_)) (fun b1 => (show zyR _ _ _ _ [some (.ref (x0 + 3)), some (.int x1), some (.int x2)] [] _ _ from ?_))
        · replace h := zy_ifp h b1
          refine zy_3 rfl rfl (show zyR _ _ _ _ [some (.ref (x0 + 3)), some (.int x1), some (.int x2)] [.int (0 : Int32)] _ _ from ?_)
          cases h
          exact zy_4b rfl ⟨rfl, rfl⟩ (Or.inl rfl)
        · replace h := zy_ifn h b1
          refine zy_3 rfl rfl (show zyR _ _ _ _ [some (.ref (x0 + 3)), some (.int x1), some (.int x2)] [.int (1 : Int32)] _ _ from ?_)
          refine zy_6 rfl (show zyR _ _ _ _ [some (.ref (x0 + 3)), some (.int x1), some (.int x2)] [.int (1 : Int32)] _ _ from ?_)
          cases h
          exact zy_4b rfl ⟨rfl, rfl⟩ (Or.inr rfl)
