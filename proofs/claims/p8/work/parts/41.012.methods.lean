/-! PART 41.12: methods as functions. Made by wip/v4/dcp.py. -/
/-! NineOpinions$Bodies.add(I)I -/
noncomputable def zyF151   (x1 : Int32) (s : zy_S) : Option (Int32 × zy_S) :=
if zy_in (s.1 27 2) 50 then
some ((((s.1 27 2) + (1 : Int32)) - (1 : Int32)), (zy_up (zy_up s 28 ((s.1 27 2)).toNatClampNeg x1) 27 2 ((s.1 27 2) + (1 : Int32))))
else none
theorem zyC151 {X : zx_X}     {x1 : Int32} {s : zy_S} {r : Int32} {s' : zy_S}  (h : zyF151 x1 s = some (r, s')) : zyR X 1 151 0 [some (.ref (27 + 3)), some (.int x1)] [] s (zyE (some (.int r)) s') := by
  unfold zyF151 at h
  refine zy_0 rfl rfl (show zyR _ _ _ _ [some (.ref (27 + 3)), some (.int x1)] [.ref (27 + 3)] _ _ from ?_)
  refine zy_1r (c := 27) rfl rfl rfl (show zyR _ _ _ _ [some (.ref (27 + 3)), some (.int x1)] [.ref (28 + 3)] _ _ from ?_)
  refine zy_0 rfl rfl (show zyR _ _ _ _ [some (.ref (27 + 3)), some (.int x1)] [.ref (27 + 3), .ref (28 + 3)] _ _ from ?_)
  refine zy_1 (c := 27) rfl rfl rfl (show zyR _ _ _ _ [some (.ref (27 + 3)), some (.int x1)] [.int (s.1 27 2), .ref (28 + 3)] _ _ from ?_)
  refine zy_2 rfl rfl (show zyR _ _ _ _ [some (.ref (27 + 3)), some (.int x1)] [.int x1, .int (s.1 27 2), .ref (28 + 3)] _ _ from ?_)
  obtain ⟨c1, h⟩ := zy_if h
  refine zy_27 (c := 28) rfl rfl c1 (show zyR _ _ _ _ [some (.ref (27 + 3)), some (.int x1)] [] _ _ from ?_)
  refine zy_0 rfl rfl (show zyR _ _ _ _ [some (.ref (27 + 3)), some (.int x1)] [.ref (27 + 3)] _ _ from ?_)
  refine zy_33 rfl rfl (show zyR _ _ _ _ [some (.ref (27 + 3)), some (.int x1)] [.ref (27 + 3), .ref (27 + 3)] _ _ from ?_)
  refine zy_1 (c := 27) rfl rfl rfl (show zyR _ _ _ _ [some (.ref (27 + 3)), some (.int x1)] [.int (s.1 27 2), .ref (27 + 3)] _ _ from ?_)
  refine zy_3 rfl rfl (show zyR _ _ _ _ [some (.ref (27 + 3)), some (.int x1)] [.int (1 : Int32), .int (s.1 27 2), .ref (27 + 3)] _ _ from ?_)
  refine zy_10 rfl (show zyR _ _ _ _ [some (.ref (27 + 3)), some (.int x1)] [.int ((s.1 27 2) + (1 : Int32)), .ref (27 + 3)] _ _ from ?_)
  refine zy_52 (c := 27) rfl rfl rfl (show zyR _ _ _ _ [some (.ref (27 + 3)), some (.int x1)] [] _ _ from ?_)
  refine zy_0 rfl rfl (show zyR _ _ _ _ [some (.ref (27 + 3)), some (.int x1)] [.ref (27 + 3)] _ _ from ?_)
  refine zy_1 (c := 27) rfl rfl rfl (show zyR _ _ _ _ [some (.ref (27 + 3)), some (.int x1)] [.int ((s.1 27 2) + (1 : Int32))] _ _ from ?_)
  refine zy_3 rfl rfl (show zyR _ _ _ _ [some (.ref (27 + 3)), some (.int x1)] [.int (1 : Int32), .int ((s.1 27 2) + (1 : Int32))] _ _ from ?_)
  refine zy_11 rfl (show zyR _ _ _ _ [some (.ref (27 + 3)), some (.int x1)] [.int (((s.1 27 2) + (1 : Int32)) - (1 : Int32))] _ _ from ?_)
  obtain ⟨rfl, rfl⟩ := zy_pi h
  exact zy_4 rfl ⟨rfl, rfl⟩
/-! NineOpinions.body(I)I -/
noncomputable def zyF148   (x1 : Int32) (s : zy_S) : Option (Int32 × zy_S) :=
(zyF149 x1 s).bind fun p1 =>
if p1.1 ≠ 0 then
(zyF150 p1.2).bind fun p2 =>
if p2.1 = 0 then
(zyF151 x1 p2.2).bind fun p3 =>
some (p3.1, p3.2)
else
some ((-3 : Int32), p2.2)
else
some ((-1 : Int32), p1.2)
theorem zyC148 {X : zx_X}     {x1 : Int32} {s : zy_S} {r : Int32} {s' : zy_S}  (h : zyF148 x1 s = some (r, s')) : zyR X 2 148 0 [some (.ref (0 + 3)), some (.int x1)] [] s (zyE (some (.int r)) s') := by
  unfold zyF148 at h
  refine zy_2 rfl rfl (show zyR _ _ _ _ [some (.ref (0 + 3)), some (.int x1)] [.int x1] _ _ from ?_)
  obtain ⟨p1, hp1, h⟩ := zy_bind h
  refine zy_60 (as := [.int x1]) (rest := []) (L := [some (.int x1)]) (d' := 1) rfl rfl (Nat.le_of_ble_eq_true rfl) (Nat.le_of_ble_eq_true rfl) rfl (Nat.le_of_ble_eq_true rfl) rfl rfl (zyC149 hp1) ?_
  show zyR _ _ _ _ [some (.ref (0 + 3)), some (.int x1)] [.int p1.1] _ _
  refine zy_24_1 rfl (fun b5 => (show zyR _ _ _ _ [some (.ref (0 + 3)), some (.int x1)] [] _ _ from ?_)) (fun b5 => (show zyR _ _ _ _ [some (.ref (0 + 3)), some (.int x1)] [] _ _ from ?_))
  · replace h := zy_ifp h b5
    refine zy_0 rfl rfl (show zyR _ _ _ _ [some (.ref (0 + 3)), some (.int x1)] [.ref (0 + 3)] _ _ from ?_)
    refine zy_1r (c := 0) rfl rfl rfl (show zyR _ _ _ _ [some (.ref (0 + 3)), some (.int x1)] [.ref (27 + 3)] _ _ from ?_)
    obtain ⟨p2, hp2, h⟩ := zy_bind h
    refine zy_5 (c := 27) (as := []) (rest := []) (L := [some (.ref (27 + 3))]) (d' := 1) rfl rfl rfl (Nat.le_of_ble_eq_true rfl) (Nat.le_of_ble_eq_true rfl) rfl (Nat.le_of_ble_eq_true rfl) rfl rfl (zyC150 hp2) ?_
    show zyR _ _ _ _ [some (.ref (0 + 3)), some (.int x1)] [.int p2.1] _ _
    refine zy_24_0 rfl (fun b4 => (show zyR _ _ _ _ [some (.ref (0 + 3)), some (.int x1)] [] _ _ from ?_)) (fun b4 => (show zyR _ _ _ _ [some (.ref (0 + 3)), some (.int x1)] [] _ _ from ?_))
    · replace h := zy_ifp h b4
      refine zy_0 rfl rfl (show zyR _ _ _ _ [some (.ref (0 + 3)), some (.int x1)] [.ref (0 + 3)] _ _ from ?_)
      refine zy_1r (c := 0) rfl rfl rfl (show zyR _ _ _ _ [some (.ref (0 + 3)), some (.int x1)] [.ref (27 + 3)] _ _ from ?_)
      refine zy_2 rfl rfl (show zyR _ _ _ _ [some (.ref (0 + 3)), some (.int x1)] [.int x1, .ref (27 + 3)] _ _ from ?_)
      obtain ⟨p3, hp3, h⟩ := zy_bind h
      refine zy_5 (c := 27) (as := [.int x1]) (rest := []) (L := [some (.ref (27 + 3)), some (.int x1)]) (d' := 1) rfl rfl rfl (Nat.le_of_ble_eq_true rfl) (Nat.le_of_ble_eq_true rfl) rfl (Nat.le_of_ble_eq_true rfl) rfl rfl (zyC151 hp3) ?_
      show zyR _ _ _ _ [some (.ref (0 + 3)), some (.int x1)] [.int p3.1] _ _
      obtain ⟨rfl, rfl⟩ := zy_pi h
      exact zy_4 rfl ⟨rfl, rfl⟩
    · replace h := zy_ifn h b4
      refine zy_3 rfl rfl (show zyR _ _ _ _ [some (.ref (0 + 3)), some (.int x1)] [.int (-3 : Int32)] _ _ from ?_)
      refine zy_6 rfl (show zyR _ _ _ _ [some (.ref (0 + 3)), some (.int x1)] [.int (-3 : Int32)] _ _ from ?_)
      obtain ⟨rfl, rfl⟩ := zy_pi h
      exact zy_4 rfl ⟨rfl, rfl⟩
  · replace h := zy_ifn h b5
    refine zy_3 rfl rfl (show zyR _ _ _ _ [some (.ref (0 + 3)), some (.int x1)] [.int (-1 : Int32)] _ _ from ?_)
    obtain ⟨rfl, rfl⟩ := zy_pi h
    exact zy_4 rfl ⟨rfl, rfl⟩
/-! NineOpinions$Bodies.has(I)Z -/
noncomputable def zyF154   (x1 : Int32) (s : zy_S) : Option (Int32 × zy_S) :=
if x1 < 0 then
some ((0 : Int32), s)
else
if (s.1 27 2) ≤ x1 then
some ((0 : Int32), s)
else
some ((1 : Int32), s)
theorem zyC154 {X : zx_X}     {x1 : Int32} {s : zy_S} {r : Int32} {s' : zy_S}  (h : zyF154 x1 s = some (r, s')) : zyR X 1 154 0 [some (.ref (27 + 3)), some (.int x1)] [] s (zyE (some (.int r)) s') := by
  unfold zyF154 at h
  refine zy_2 rfl rfl (show zyR _ _ _ _ [some (.ref (27 + 3)), some (.int x1)] [.int x1] _ _ from ?_)
  refine zy_24_2 rfl (fun b2 => (show zyR _ _ _ _ [some (.ref (27 + 3)), some (.int x1)] [] _ _ from ?_)) (fun b2 => (show zyR _ _ _ _ [some (.ref (27 + 3)), some (.int x1)] [] _ _ from ?_))
  · replace h := zy_ifp h b2
    refine zy_3 rfl rfl (show zyR _ _ _ _ [some (.ref (27 + 3)), some (.int x1)] [.int (0 : Int32)] _ _ from ?_)
    cases h
    exact zy_4b rfl ⟨rfl, rfl⟩ (Or.inl rfl)
  · replace h := zy_ifn h b2
    refine zy_2 rfl rfl (show zyR _ _ _ _ [some (.ref (27 + 3)), some (.int x1)] [.int x1] _ _ from ?_)
    refine zy_0 rfl rfl (show zyR _ _ _ _ [some (.ref (27 + 3)), some (.int x1)] [.ref (27 + 3), .int x1] _ _ from ?_)
    refine zy_1 (c := 27) rfl rfl rfl (show zyR _ _ _ _ [some (.ref (27 + 3)), some (.int x1)] [.int (s.1 27 2), .int x1] _ _ from ?_)
    refine zy_25_3 rfl (fun b1 => (show zyR _ _ _ _ [some (.ref (27 + 3)), some (.int x1)] [] _ _ from ?_)) (fun b1 => (show zyR _ _ _ _ [some (.ref (27 + 3)), some (.int x1)] [] _ _ from ?_))
    · replace h := zy_ifp h b1
      refine zy_3 rfl rfl (show zyR _ _ _ _ [some (.ref (27 + 3)), some (.int x1)] [.int (0 : Int32)] _ _ from ?_)
      cases h
      exact zy_4b rfl ⟨rfl, rfl⟩ (Or.inl rfl)
    · replace h := zy_ifn h b1
      refine zy_3 rfl rfl (show zyR _ _ _ _ [some (.ref (27 + 3)), some (.int x1)] [.int (1 : Int32)] _ _ from ?_)
      refine zy_6 rfl (show zyR _ _ _ _ [some (.ref (27 + 3)), some (.int x1)] [.int (1 : Int32)] _ _ from ?_)
      cases h
      exact zy_4b rfl ⟨rfl, rfl⟩ (Or.inr rfl)
/-! NineOpinions$Shelf.holdBody(I)V -/
noncomputable def zyF162   (x0 : Nat) (x1 : Int32) (s : zy_S) : Option (Int32 × zy_S) :=
some ((0 : Int32), (zy_up (zy_up (zy_up s x0 1 x1) x0 2 (-1 : Int32)) x0 3 (0 : Int32)))
theorem zyC162 {X : zx_X}     {x0 : Nat} {x1 : Int32} {s : zy_S} {r : Int32} {s' : zy_S} (hs_x0 : zy_isSh x0) (h : zyF162 x0 x1 s = some (r, s')) : zyR X 1 162 0 [some (.ref (x0 + 3)), some (.int x1)] [] s (zyE none s') := by
  unfold zyF162 at h
  refine zy_0 rfl rfl (show zyR _ _ _ _ [some (.ref (x0 + 3)), some (.int x1)] [.ref (x0 + 3)] _ _ from ?_)
  refine zy_2 rfl rfl (show zyR _ _ _ _ [some (.ref (x0 + 3)), some (.int x1)] [.int x1, .ref (x0 + 3)] _ _ from ?_)
  refine zy_52 (c := x0) rfl hs_x0.1 rfl (show zyR _ _ _ _ [some (.ref (x0 + 3)), some (.int x1)] [] _ _ from ?_)
  refine zy_0 rfl rfl (show zyR _ _ _ _ [some (.ref (x0 + 3)), some (.int x1)] [.ref (x0 + 3)] _ _ from ?_)
  refine zy_3 rfl rfl (show zyR _ _ _ _ [some (.ref (x0 + 3)), some (.int x1)] [.int (-1 : Int32), .ref (x0 + 3)] _ _ from ?_)
  refine zy_52 (c := x0) rfl hs_x0.1 rfl (show zyR _ _ _ _ [some (.ref (x0 + 3)), some (.int x1)] [] _ _ from ?_)
  refine zy_0 rfl rfl (show zyR _ _ _ _ [some (.ref (x0 + 3)), some (.int x1)] [.ref (x0 + 3)] _ _ from ?_)
  refine zy_3 rfl rfl (show zyR _ _ _ _ [some (.ref (x0 + 3)), some (.int x1)] [.int (0 : Int32), .ref (x0 + 3)] _ _ from ?_)
  refine zy_52 (c := x0) rfl hs_x0.1 rfl (show zyR _ _ _ _ [some (.ref (x0 + 3)), some (.int x1)] [] _ _ from ?_)
  cases h
  exact zy_66 rfl ⟨rfl, rfl⟩
/-! NineOpinions.keep(II)I -/
noncomputable def zyF161_25   (x1 : Int32) (x2 : Int32) (s : zy_S) : Option (Int32 × zy_S) :=
if zy_in x1 6 then
if zy_Wb s then
(zyF162 (zy_sh (x1).toNatClampNeg) x2 s).bind fun p3 =>
some ((1 : Int32), p3.2)
else none
else none
theorem zyC161_25 {X : zx_X}     {x1 : Int32} {x2 : Int32} {s : zy_S} {r : Int32} {s' : zy_S}  (h : zyF161_25 x1 x2 s = some (r, s')) : zyR X 2 161 25 [some (.ref (0 + 3)), some (.int x1), some (.int x2)] [] s (zyE (some (.int r)) s') := by
  unfold zyF161_25 at h
  refine zy_0 rfl rfl (show zyR _ _ _ _ [some (.ref (0 + 3)), some (.int x1), some (.int x2)] [.ref (0 + 3)] _ _ from ?_)
  refine zy_1r (c := 0) rfl rfl rfl (show zyR _ _ _ _ [some (.ref (0 + 3)), some (.int x1), some (.int x2)] [.ref (30 + 3)] _ _ from ?_)
  refine zy_2 rfl rfl (show zyR _ _ _ _ [some (.ref (0 + 3)), some (.int x1), some (.int x2)] [.int x1, .ref (30 + 3)] _ _ from ?_)
  obtain ⟨c1, h⟩ := zy_if h
  obtain ⟨c2, h⟩ := zy_if h
  refine zy_28 rfl (zy_Wb_g c2) c1 (show zyR _ _ _ _ [some (.ref (0 + 3)), some (.int x1), some (.int x2)] [.ref ((zy_sh (x1).toNatClampNeg) + 3)] _ _ from ?_)
  refine zy_2 rfl rfl (show zyR _ _ _ _ [some (.ref (0 + 3)), some (.int x1), some (.int x2)] [.int x2, .ref ((zy_sh (x1).toNatClampNeg) + 3)] _ _ from ?_)
  obtain ⟨p3, hp3, h⟩ := zy_bind h
  refine zy_5 (c := (zy_sh (x1).toNatClampNeg)) (as := [.int x2]) (rest := []) (L := [some (.ref ((zy_sh (x1).toNatClampNeg) + 3)), some (.int x2)]) (d' := 1) rfl rfl (zy_isSh_of (zy_in_lt c1)).1 (Nat.le_of_ble_eq_true rfl) (Nat.le_of_ble_eq_true rfl) rfl (Nat.le_of_ble_eq_true rfl) rfl rfl (zyC162 (zy_isSh_of (zy_in_lt c1)) hp3) ?_
  show zyR _ _ _ _ [some (.ref (0 + 3)), some (.int x1), some (.int x2)] [] _ _
  refine zy_3 rfl rfl (show zyR _ _ _ _ [some (.ref (0 + 3)), some (.int x1), some (.int x2)] [.int (1 : Int32)] _ _ from ?_)
  obtain ⟨rfl, rfl⟩ := zy_pi h
  exact zy_4 rfl ⟨rfl, rfl⟩
noncomputable def zyF161   (x1 : Int32) (x2 : Int32) (s : zy_S) : Option (Int32 × zy_S) :=
(zyF18 x1 s).bind fun p4 =>
if p4.1 = 0 then
some ((-1 : Int32), p4.2)
else
if x2 = (-1 : Int32) then
zyF161_25 x1 x2 p4.2
else
(zyF154 x2 p4.2).bind fun p5 =>
if p5.1 ≠ 0 then
zyF161_25 x1 x2 p5.2
else
some ((-1 : Int32), p5.2)
theorem zyC161 {X : zx_X}     {x1 : Int32} {x2 : Int32} {s : zy_S} {r : Int32} {s' : zy_S}  (h : zyF161 x1 x2 s = some (r, s')) : zyR X 2 161 0 [some (.ref (0 + 3)), some (.int x1), some (.int x2)] [] s (zyE (some (.int r)) s') := by
  unfold zyF161 at h
  refine zy_2 rfl rfl (show zyR _ _ _ _ [some (.ref (0 + 3)), some (.int x1), some (.int x2)] [.int x1] _ _ from ?_)
  obtain ⟨p4, hp4, h⟩ := zy_bind h
  refine zy_60 (as := [.int x1]) (rest := []) (L := [some (.int x1)]) (d' := 1) rfl rfl (Nat.le_of_ble_eq_true rfl) (Nat.le_of_ble_eq_true rfl) rfl (Nat.le_of_ble_eq_true rfl) rfl rfl (zyC18 hp4) ?_
  show zyR _ _ _ _ [some (.ref (0 + 3)), some (.int x1), some (.int x2)] [.int p4.1] _ _
  refine zy_24_0 rfl (fun b8 => (show zyR _ _ _ _ [some (.ref (0 + 3)), some (.int x1), some (.int x2)] [] _ _ from ?_)) (fun b8 => (show zyR _ _ _ _ [some (.ref (0 + 3)), some (.int x1), some (.int x2)] [] _ _ from ?_))
  · replace h := zy_ifp h b8
    refine zy_3 rfl rfl (show zyR _ _ _ _ [some (.ref (0 + 3)), some (.int x1), some (.int x2)] [.int (-1 : Int32)] _ _ from ?_)
    obtain ⟨rfl, rfl⟩ := zy_pi h
    exact zy_4 rfl ⟨rfl, rfl⟩
  · replace h := zy_ifn h b8
    refine zy_2 rfl rfl (show zyR _ _ _ _ [some (.ref (0 + 3)), some (.int x1), some (.int x2)] [.int x2] _ _ from ?_)
    refine zy_3 rfl rfl (show zyR _ _ _ _ [some (.ref (0 + 3)), some (.int x1), some (.int x2)] [.int (-1 : Int32), .int x2] _ _ from ?_)
    refine zy_25_0 rfl (fun b7 => (show zyR _ _ _ _ [some (.ref (0 + 3)), some (.int x1), some (.int x2)] [] _ _ from ?_)) (fun b7 => (show zyR _ _ _ _ [some (.ref (0 + 3)), some (.int x1), some (.int x2)] [] _ _ from ?_))
    · replace h := zy_ifp h b7
      exact zy_sub (show zy_le [some (.ref (0 + 3)), some (.int x1), some (.int x2)] [some (.ref (0 + 3)), some (.int x1), some (.int x2)] from ⟨rfl, ⟨rfl, ⟨rfl, trivial⟩⟩⟩) (zyC161_25 h)
    · replace h := zy_ifn h b7
      refine zy_0 rfl rfl (show zyR _ _ _ _ [some (.ref (0 + 3)), some (.int x1), some (.int x2)] [.ref (0 + 3)] _ _ from ?_)
      refine zy_1r (c := 0) rfl rfl rfl (show zyR _ _ _ _ [some (.ref (0 + 3)), some (.int x1), some (.int x2)] [.ref (27 + 3)] _ _ from ?_)
      refine zy_2 rfl rfl (show zyR _ _ _ _ [some (.ref (0 + 3)), some (.int x1), some (.int x2)] [.int x2, .ref (27 + 3)] _ _ from ?_)
      obtain ⟨p5, hp5, h⟩ := zy_bind h
      refine zy_5 (c := 27) (as := [.int x2]) (rest := []) (L := [some (.ref (27 + 3)), some (.int x2)]) (d' := 1) rfl rfl rfl (Nat.le_of_ble_eq_true rfl) (Nat.le_of_ble_eq_true rfl) rfl (Nat.le_of_ble_eq_true rfl) rfl rfl (zyC154 hp5) ?_
      show zyR _ _ _ _ [some (.ref (0 + 3)), some (.int x1), some (.int x2)] [.int p5.1] _ _
      refine zy_24_1 rfl (fun b6 => (show zyR _ _ _ _ [some (.ref (0 + 3)), some (.int x1), some (.int x2)] [] _ _ from ?_)) (fun b6 => (show zyR _ _ _ _ [some (.ref (0 + 3)), some (.int x1), some (.int x2)] [] _ _ from ?_))
      · replace h := zy_ifp h b6
        exact zy_sub (show zy_le [some (.ref (0 + 3)), some (.int x1), some (.int x2)] [some (.ref (0 + 3)), some (.int x1), some (.int x2)] from ⟨rfl, ⟨rfl, ⟨rfl, trivial⟩⟩⟩) (zyC161_25 h)
      · replace h := zy_ifn h b6
        refine zy_3 rfl rfl (show zyR _ _ _ _ [some (.ref (0 + 3)), some (.int x1), some (.int x2)] [.int (-1 : Int32)] _ _ from ?_)
        obtain ⟨rfl, rfl⟩ := zy_pi h
        exact zy_4 rfl ⟨rfl, rfl⟩
/-! NineOpinions$Shelf.holdRow(II)V -/
noncomputable def zyF164   (x0 : Nat) (x1 : Int32) (x2 : Int32) (s : zy_S) : Option (Int32 × zy_S) :=
some ((0 : Int32), (zy_ub (zy_up (zy_up (zy_up s x0 1 (-1 : Int32)) x0 2 x1) x0 3 x2) (x0 + 1) (fun j => if j < 60 then (0 : Int64) else (s.2.1 (x0 + 1)) j)))
theorem zyC164 {X : zx_X}     {x0 : Nat} {x1 : Int32} {x2 : Int32} {s : zy_S} {r : Int32} {s' : zy_S} (hs_x0 : zy_isSh x0) (h : zyF164 x0 x1 x2 s = some (r, s')) : zyR X 1 164 0 [some (.ref (x0 + 3)), some (.int x1), some (.int x2)] [] s (zyE none s') := by
  unfold zyF164 at h
  refine zy_0 rfl rfl (show zyR _ _ _ _ [some (.ref (x0 + 3)), some (.int x1), some (.int x2)] [.ref (x0 + 3)] _ _ from ?_)
  refine zy_3 rfl rfl (show zyR _ _ _ _ [some (.ref (x0 + 3)), some (.int x1), some (.int x2)] [.int (-1 : Int32), .ref (x0 + 3)] _ _ from ?_)
  refine zy_52 (c := x0) rfl hs_x0.1 rfl (show zyR _ _ _ _ [some (.ref (x0 + 3)), some (.int x1), some (.int x2)] [] _ _ from ?_)
  refine zy_0 rfl rfl (show zyR _ _ _ _ [some (.ref (x0 + 3)), some (.int x1), some (.int x2)] [.ref (x0 + 3)] _ _ from ?_)
  refine zy_2 rfl rfl (show zyR _ _ _ _ [some (.ref (x0 + 3)), some (.int x1), some (.int x2)] [.int x1, .ref (x0 + 3)] _ _ from ?_)
  refine zy_52 (c := x0) rfl hs_x0.1 rfl (show zyR _ _ _ _ [some (.ref (x0 + 3)), some (.int x1), some (.int x2)] [] _ _ from ?_)
  refine zy_0 rfl rfl (show zyR _ _ _ _ [some (.ref (x0 + 3)), some (.int x1), some (.int x2)] [.ref (x0 + 3)] _ _ from ?_)
  refine zy_2 rfl rfl (show zyR _ _ _ _ [some (.ref (x0 + 3)), some (.int x1), some (.int x2)] [.int x2, .ref (x0 + 3)] _ _ from ?_)
  refine zy_52 (c := x0) rfl hs_x0.1 rfl (show zyR _ _ _ _ [some (.ref (x0 + 3)), some (.int x1), some (.int x2)] [] _ _ from ?_)
  refine zy_0 rfl rfl (show zyR _ _ _ _ [some (.ref (x0 + 3)), some (.int x1), some (.int x2)] [.ref (x0 + 3)] _ _ from ?_)
  refine zy_1r (c := x0) rfl hs_x0.1 rfl (show zyR _ _ _ _ [some (.ref (x0 + 3)), some (.int x1), some (.int x2)] [.ref (x0 + 1 + 3)] _ _ from ?_)
  refine zy_36 rfl rfl (show zyR _ _ _ _ [some (.ref (x0 + 3)), some (.int x1), some (.int x2)] [.long (0 : Int64), .ref (x0 + 1 + 3)] _ _ from ?_)
  refine zy_68 (c := (x0 + 1)) rfl hs_x0.2 (Nat.le_of_ble_eq_true rfl) (Nat.le_of_ble_eq_true rfl) (Nat.le_of_ble_eq_true rfl) (show zyR _ _ _ _ [some (.ref (x0 + 3)), some (.int x1), some (.int x2)] [] _ _ from ?_)
  cases h
  exact zy_66 rfl ⟨rfl, rfl⟩
