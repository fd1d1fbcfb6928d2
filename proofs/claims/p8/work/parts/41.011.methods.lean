/-! PART 41.11: methods as functions. Made by wip/v4/dcp.py. -/
/-! NineOpinions$Changes.undoLatest()I -/
noncomputable def zyF145    (s : zy_S) : Option (Int32 × zy_S) :=
if zy_in ((s.1 22 5) - (1 : Int32)) 40 then
if zy_in ((s.1 22 5) - (1 : Int32)) 40 then
if zy_in ((s.1 22 5) - (1 : Int32)) 40 then
(zyF28 (s.1 23 (((s.1 22 5) - (1 : Int32))).toNatClampNeg) (s.1 24 (((s.1 22 5) - (1 : Int32))).toNatClampNeg) (s.1 25 (((s.1 22 5) - (1 : Int32))).toNatClampNeg) (zy_up s 22 5 ((s.1 22 5) - (1 : Int32)))).bind fun p4 =>
some ((p4.2.1 22 5), p4.2)
else none
else none
else none
theorem zyC145 {X : zx_X}      {s : zy_S} {r : Int32} {s' : zy_S}  (h : zyF145 s = some (r, s')) : zyR X 2 145 0 [some (.ref (22 + 3))] [] s (zyE (some (.int r)) s') := by
  unfold zyF145 at h
  refine zy_0 rfl rfl (show zyR _ _ _ _ [some (.ref (22 + 3))] [.ref (22 + 3)] _ _ from ?_)
  refine zy_33 rfl rfl (show zyR _ _ _ _ [some (.ref (22 + 3))] [.ref (22 + 3), .ref (22 + 3)] _ _ from ?_)
  refine zy_1 (c := 22) rfl rfl rfl (show zyR _ _ _ _ [some (.ref (22 + 3))] [.int (s.1 22 5), .ref (22 + 3)] _ _ from ?_)
  refine zy_3 rfl rfl (show zyR _ _ _ _ [some (.ref (22 + 3))] [.int (1 : Int32), .int (s.1 22 5), .ref (22 + 3)] _ _ from ?_)
  refine zy_11 rfl (show zyR _ _ _ _ [some (.ref (22 + 3))] [.int ((s.1 22 5) - (1 : Int32)), .ref (22 + 3)] _ _ from ?_)
  refine zy_52 (c := 22) rfl rfl rfl (show zyR _ _ _ _ [some (.ref (22 + 3))] [] _ _ from ?_)
  refine zy_0 rfl rfl (show zyR _ _ _ _ [some (.ref (22 + 3))] [.ref (22 + 3)] _ _ from ?_)
  refine zy_1r (c := 22) rfl rfl rfl (show zyR _ _ _ _ [some (.ref (22 + 3))] [.ref (1 + 3)] _ _ from ?_)
  refine zy_0 rfl rfl (show zyR _ _ _ _ [some (.ref (22 + 3))] [.ref (22 + 3), .ref (1 + 3)] _ _ from ?_)
  refine zy_1r (c := 22) rfl rfl rfl (show zyR _ _ _ _ [some (.ref (22 + 3))] [.ref (23 + 3), .ref (1 + 3)] _ _ from ?_)
  refine zy_0 rfl rfl (show zyR _ _ _ _ [some (.ref (22 + 3))] [.ref (22 + 3), .ref (23 + 3), .ref (1 + 3)] _ _ from ?_)
  refine zy_1 (c := 22) rfl rfl rfl (show zyR _ _ _ _ [some (.ref (22 + 3))] [.int ((s.1 22 5) - (1 : Int32)), .ref (23 + 3), .ref (1 + 3)] _ _ from ?_)
  obtain ⟨c1, h⟩ := zy_if h
  refine zy_26 (c := 23) rfl rfl c1 (show zyR _ _ _ _ [some (.ref (22 + 3))] [.int (s.1 23 (((s.1 22 5) - (1 : Int32))).toNatClampNeg), .ref (1 + 3)] _ _ from ?_)
  refine zy_0 rfl rfl (show zyR _ _ _ _ [some (.ref (22 + 3))] [.ref (22 + 3), .int (s.1 23 (((s.1 22 5) - (1 : Int32))).toNatClampNeg), .ref (1 + 3)] _ _ from ?_)
  refine zy_1r (c := 22) rfl rfl rfl (show zyR _ _ _ _ [some (.ref (22 + 3))] [.ref (24 + 3), .int (s.1 23 (((s.1 22 5) - (1 : Int32))).toNatClampNeg), .ref (1 + 3)] _ _ from ?_)
  refine zy_0 rfl rfl (show zyR _ _ _ _ [some (.ref (22 + 3))] [.ref (22 + 3), .ref (24 + 3), .int (s.1 23 (((s.1 22 5) - (1 : Int32))).toNatClampNeg), .ref (1 + 3)] _ _ from ?_)
  refine zy_1 (c := 22) rfl rfl rfl (show zyR _ _ _ _ [some (.ref (22 + 3))] [.int ((s.1 22 5) - (1 : Int32)), .ref (24 + 3), .int (s.1 23 (((s.1 22 5) - (1 : Int32))).toNatClampNeg), .ref (1 + 3)] _ _ from ?_)
  obtain ⟨c2, h⟩ := zy_if h
  refine zy_26 (c := 24) rfl rfl c2 (show zyR _ _ _ _ [some (.ref (22 + 3))] [.int (s.1 24 (((s.1 22 5) - (1 : Int32))).toNatClampNeg), .int (s.1 23 (((s.1 22 5) - (1 : Int32))).toNatClampNeg), .ref (1 + 3)] _ _ from ?_)
  refine zy_0 rfl rfl (show zyR _ _ _ _ [some (.ref (22 + 3))] [.ref (22 + 3), .int (s.1 24 (((s.1 22 5) - (1 : Int32))).toNatClampNeg), .int (s.1 23 (((s.1 22 5) - (1 : Int32))).toNatClampNeg), .ref (1 + 3)] _ _ from ?_)
  refine zy_1r (c := 22) rfl rfl rfl (show zyR _ _ _ _ [some (.ref (22 + 3))] [.ref (25 + 3), .int (s.1 24 (((s.1 22 5) - (1 : Int32))).toNatClampNeg), .int (s.1 23 (((s.1 22 5) - (1 : Int32))).toNatClampNeg), .ref (1 + 3)] _ _ from ?_)
  refine zy_0 rfl rfl (show zyR _ _ _ _ [some (.ref (22 + 3))] [.ref (22 + 3), .ref (25 + 3), .int (s.1 24 (((s.1 22 5) - (1 : Int32))).toNatClampNeg), .int (s.1 23 (((s.1 22 5) - (1 : Int32))).toNatClampNeg), .ref (1 + 3)] _ _ from ?_)
  refine zy_1 (c := 22) rfl rfl rfl (show zyR _ _ _ _ [some (.ref (22 + 3))] [.int ((s.1 22 5) - (1 : Int32)), .ref (25 + 3), .int (s.1 24 (((s.1 22 5) - (1 : Int32))).toNatClampNeg), .int (s.1 23 (((s.1 22 5) - (1 : Int32))).toNatClampNeg), .ref (1 + 3)] _ _ from ?_)
  obtain ⟨c3, h⟩ := zy_if h
  refine zy_26 (c := 25) rfl rfl c3 (show zyR _ _ _ _ [some (.ref (22 + 3))] [.int (s.1 25 (((s.1 22 5) - (1 : Int32))).toNatClampNeg), .int (s.1 24 (((s.1 22 5) - (1 : Int32))).toNatClampNeg), .int (s.1 23 (((s.1 22 5) - (1 : Int32))).toNatClampNeg), .ref (1 + 3)] _ _ from ?_)
  obtain ⟨p4, hp4, h⟩ := zy_bind h
  refine zy_5 (c := 1) (as := [.int (s.1 23 (((s.1 22 5) - (1 : Int32))).toNatClampNeg), .int (s.1 24 (((s.1 22 5) - (1 : Int32))).toNatClampNeg), .int (s.1 25 (((s.1 22 5) - (1 : Int32))).toNatClampNeg)]) (rest := []) (L := [some (.ref (1 + 3)), some (.int (s.1 23 (((s.1 22 5) - (1 : Int32))).toNatClampNeg)), some (.int (s.1 24 (((s.1 22 5) - (1 : Int32))).toNatClampNeg)), some (.int (s.1 25 (((s.1 22 5) - (1 : Int32))).toNatClampNeg))]) (d' := 1) rfl rfl rfl (Nat.le_of_ble_eq_true rfl) (Nat.le_of_ble_eq_true rfl) rfl (Nat.le_of_ble_eq_true rfl) rfl rfl (zyC28 hp4) ?_
  show zyR _ _ _ _ [some (.ref (22 + 3))] [] _ _
  refine zy_0 rfl rfl (show zyR _ _ _ _ [some (.ref (22 + 3))] [.ref (22 + 3)] _ _ from ?_)
  refine zy_1 (c := 22) rfl rfl rfl (show zyR _ _ _ _ [some (.ref (22 + 3))] [.int (p4.2.1 22 5)] _ _ from ?_)
  obtain ⟨rfl, rfl⟩ := zy_pi h
  exact zy_4 rfl ⟨rfl, rfl⟩
/-! NineOpinions.undo()I -/
noncomputable def zyF144    (s : zy_S) : Option (Int32 × zy_S) :=
if (s.1 22 5) ≤ 0 then
some ((-5 : Int32), s)
else
(zyF145 s).bind fun p1 =>
some (p1.1, p1.2)
theorem zyC144 {X : zx_X}      {s : zy_S} {r : Int32} {s' : zy_S}  (h : zyF144 s = some (r, s')) : zyR X 3 144 0 [some (.ref (0 + 3))] [] s (zyE (some (.int r)) s') := by
  unfold zyF144 at h
  refine zy_0 rfl rfl (show zyR _ _ _ _ [some (.ref (0 + 3))] [.ref (0 + 3)] _ _ from ?_)
  refine zy_1r (c := 0) rfl rfl rfl (show zyR _ _ _ _ [some (.ref (0 + 3))] [.ref (22 + 3)] _ _ from ?_)
  refine zy_1 (c := 22) rfl rfl rfl (show zyR _ _ _ _ [some (.ref (0 + 3))] [.int (s.1 22 5)] _ _ from ?_)
  refine zy_24_5 rfl (fun b2 => (show zyR _ _ _ _ [some (.ref (0 + 3))] [] _ _ from ?_)) (fun b2 => (show zyR _ _ _ _ [some (.ref (0 + 3))] [] _ _ from ?_))
  · replace h := zy_ifp h b2
    refine zy_3 rfl rfl (show zyR _ _ _ _ [some (.ref (0 + 3))] [.int (-5 : Int32)] _ _ from ?_)
    obtain ⟨rfl, rfl⟩ := zy_pi h
    exact zy_4 rfl ⟨rfl, rfl⟩
  · replace h := zy_ifn h b2
    refine zy_0 rfl rfl (show zyR _ _ _ _ [some (.ref (0 + 3))] [.ref (0 + 3)] _ _ from ?_)
    refine zy_1r (c := 0) rfl rfl rfl (show zyR _ _ _ _ [some (.ref (0 + 3))] [.ref (22 + 3)] _ _ from ?_)
    obtain ⟨p1, hp1, h⟩ := zy_bind h
    refine zy_5 (c := 22) (as := []) (rest := []) (L := [some (.ref (22 + 3))]) (d' := 2) rfl rfl rfl (Nat.le_of_ble_eq_true rfl) (Nat.le_of_ble_eq_true rfl) rfl (Nat.le_of_ble_eq_true rfl) rfl rfl (zyC145 hp1) ?_
    show zyR _ _ _ _ [some (.ref (0 + 3))] [.int p1.1] _ _
    refine zy_6 rfl (show zyR _ _ _ _ [some (.ref (0 + 3))] [.int p1.1] _ _ from ?_)
    obtain ⟨rfl, rfl⟩ := zy_pi h
    exact zy_4 rfl ⟨rfl, rfl⟩
/-! NineOpinions$Changes.redoNext()I -/
noncomputable def zyF147    (s : zy_S) : Option (Int32 × zy_S) :=
if zy_in (s.1 22 5) 40 then
if zy_in (s.1 22 5) 40 then
if zy_in (s.1 22 5) 40 then
(zyF28 (s.1 23 ((s.1 22 5)).toNatClampNeg) (s.1 24 ((s.1 22 5)).toNatClampNeg) (s.1 26 ((s.1 22 5)).toNatClampNeg) s).bind fun p4 =>
some (((p4.2.1 22 6) - ((p4.2.1 22 5) + (1 : Int32))), (zy_up p4.2 22 5 ((p4.2.1 22 5) + (1 : Int32))))
else none
else none
else none
theorem zyC147 {X : zx_X}      {s : zy_S} {r : Int32} {s' : zy_S}  (h : zyF147 s = some (r, s')) : zyR X 2 147 0 [some (.ref (22 + 3))] [] s (zyE (some (.int r)) s') := by
  unfold zyF147 at h
  refine zy_0 rfl rfl (show zyR _ _ _ _ [some (.ref (22 + 3))] [.ref (22 + 3)] _ _ from ?_)
  refine zy_1r (c := 22) rfl rfl rfl (show zyR _ _ _ _ [some (.ref (22 + 3))] [.ref (1 + 3)] _ _ from ?_)
  refine zy_0 rfl rfl (show zyR _ _ _ _ [some (.ref (22 + 3))] [.ref (22 + 3), .ref (1 + 3)] _ _ from ?_)
  refine zy_1r (c := 22) rfl rfl rfl (show zyR _ _ _ _ [some (.ref (22 + 3))] [.ref (23 + 3), .ref (1 + 3)] _ _ from ?_)
  refine zy_0 rfl rfl (show zyR _ _ _ _ [some (.ref (22 + 3))] [.ref (22 + 3), .ref (23 + 3), .ref (1 + 3)] _ _ from ?_)
  refine zy_1 (c := 22) rfl rfl rfl (show zyR _ _ _ _ [some (.ref (22 + 3))] [.int (s.1 22 5), .ref (23 + 3), .ref (1 + 3)] _ _ from ?_)
  obtain ⟨c1, h⟩ := zy_if h
  refine zy_26 (c := 23) rfl rfl c1 (show zyR _ _ _ _ [some (.ref (22 + 3))] [.int (s.1 23 ((s.1 22 5)).toNatClampNeg), .ref (1 + 3)] _ _ from ?_)
  refine zy_0 rfl rfl (show zyR _ _ _ _ [some (.ref (22 + 3))] [.ref (22 + 3), .int (s.1 23 ((s.1 22 5)).toNatClampNeg), .ref (1 + 3)] _ _ from ?_)
  refine zy_1r (c := 22) rfl rfl rfl (show zyR _ _ _ _ [some (.ref (22 + 3))] [.ref (24 + 3), .int (s.1 23 ((s.1 22 5)).toNatClampNeg), .ref (1 + 3)] _ _ from ?_)
  refine zy_0 rfl rfl (show zyR _ _ _ _ [some (.ref (22 + 3))] [.ref (22 + 3), .ref (24 + 3), .int (s.1 23 ((s.1 22 5)).toNatClampNeg), .ref (1 + 3)] _ _ from ?_)
  refine zy_1 (c := 22) rfl rfl rfl (show zyR _ _ _ _ [some (.ref (22 + 3))] [.int (s.1 22 5), .ref (24 + 3), .int (s.1 23 ((s.1 22 5)).toNatClampNeg), .ref (1 + 3)] _ _ from ?_)
  obtain ⟨c2, h⟩ := zy_if h
  refine zy_26 (c := 24) rfl rfl c2 (show zyR _ _ _ _ [some (.ref (22 + 3))] [.int (s.1 24 ((s.1 22 5)).toNatClampNeg), .int (s.1 23 ((s.1 22 5)).toNatClampNeg), .ref (1 + 3)] _ _ from ?_)
  refine zy_0 rfl rfl (show zyR _ _ _ _ [some (.ref (22 + 3))] [.ref (22 + 3), .int (s.1 24 ((s.1 22 5)).toNatClampNeg), .int (s.1 23 ((s.1 22 5)).toNatClampNeg), .ref (1 + 3)] _ _ from ?_)
  refine zy_1r (c := 22) rfl rfl rfl (show zyR _ _ _ _ [some (.ref (22 + 3))] [.ref (26 + 3), .int (s.1 24 ((s.1 22 5)).toNatClampNeg), .int (s.1 23 ((s.1 22 5)).toNatClampNeg), .ref (1 + 3)] _ _ from ?_)
  refine zy_0 rfl rfl (show zyR _ _ _ _ [some (.ref (22 + 3))] [.ref (22 + 3), .ref (26 + 3), .int (s.1 24 ((s.1 22 5)).toNatClampNeg), .int (s.1 23 ((s.1 22 5)).toNatClampNeg), .ref (1 + 3)] _ _ from ?_)
  refine zy_1 (c := 22) rfl rfl rfl (show zyR _ _ _ _ [some (.ref (22 + 3))] [.int (s.1 22 5), .ref (26 + 3), .int (s.1 24 ((s.1 22 5)).toNatClampNeg), .int (s.1 23 ((s.1 22 5)).toNatClampNeg), .ref (1 + 3)] _ _ from ?_)
  obtain ⟨c3, h⟩ := zy_if h
  refine zy_26 (c := 26) rfl rfl c3 (show zyR _ _ _ _ [some (.ref (22 + 3))] [.int (s.1 26 ((s.1 22 5)).toNatClampNeg), .int (s.1 24 ((s.1 22 5)).toNatClampNeg), .int (s.1 23 ((s.1 22 5)).toNatClampNeg), .ref (1 + 3)] _ _ from ?_)
  obtain ⟨p4, hp4, h⟩ := zy_bind h
  refine zy_5 (c := 1) (as := [.int (s.1 23 ((s.1 22 5)).toNatClampNeg), .int (s.1 24 ((s.1 22 5)).toNatClampNeg), .int (s.1 26 ((s.1 22 5)).toNatClampNeg)]) (rest := []) (L := [some (.ref (1 + 3)), some (.int (s.1 23 ((s.1 22 5)).toNatClampNeg)), some (.int (s.1 24 ((s.1 22 5)).toNatClampNeg)), some (.int (s.1 26 ((s.1 22 5)).toNatClampNeg))]) (d' := 1) rfl rfl rfl (Nat.le_of_ble_eq_true rfl) (Nat.le_of_ble_eq_true rfl) rfl (Nat.le_of_ble_eq_true rfl) rfl rfl (zyC28 hp4) ?_
  show zyR _ _ _ _ [some (.ref (22 + 3))] [] _ _
  refine zy_0 rfl rfl (show zyR _ _ _ _ [some (.ref (22 + 3))] [.ref (22 + 3)] _ _ from ?_)
  refine zy_33 rfl rfl (show zyR _ _ _ _ [some (.ref (22 + 3))] [.ref (22 + 3), .ref (22 + 3)] _ _ from ?_)
  refine zy_1 (c := 22) rfl rfl rfl (show zyR _ _ _ _ [some (.ref (22 + 3))] [.int (p4.2.1 22 5), .ref (22 + 3)] _ _ from ?_)
  refine zy_3 rfl rfl (show zyR _ _ _ _ [some (.ref (22 + 3))] [.int (1 : Int32), .int (p4.2.1 22 5), .ref (22 + 3)] _ _ from ?_)
  refine zy_10 rfl (show zyR _ _ _ _ [some (.ref (22 + 3))] [.int ((p4.2.1 22 5) + (1 : Int32)), .ref (22 + 3)] _ _ from ?_)
  refine zy_52 (c := 22) rfl rfl rfl (show zyR _ _ _ _ [some (.ref (22 + 3))] [] _ _ from ?_)
  refine zy_0 rfl rfl (show zyR _ _ _ _ [some (.ref (22 + 3))] [.ref (22 + 3)] _ _ from ?_)
  refine zy_1 (c := 22) rfl rfl rfl (show zyR _ _ _ _ [some (.ref (22 + 3))] [.int (p4.2.1 22 6)] _ _ from ?_)
  refine zy_0 rfl rfl (show zyR _ _ _ _ [some (.ref (22 + 3))] [.ref (22 + 3), .int (p4.2.1 22 6)] _ _ from ?_)
  refine zy_1 (c := 22) rfl rfl rfl (show zyR _ _ _ _ [some (.ref (22 + 3))] [.int ((p4.2.1 22 5) + (1 : Int32)), .int (p4.2.1 22 6)] _ _ from ?_)
  refine zy_11 rfl (show zyR _ _ _ _ [some (.ref (22 + 3))] [.int ((p4.2.1 22 6) - ((p4.2.1 22 5) + (1 : Int32)))] _ _ from ?_)
  obtain ⟨rfl, rfl⟩ := zy_pi h
  exact zy_4 rfl ⟨rfl, rfl⟩
/-! NineOpinions.redo()I -/
noncomputable def zyF146    (s : zy_S) : Option (Int32 × zy_S) :=
if (s.1 22 6) ≤ (s.1 22 5) then
some ((-5 : Int32), s)
else
(zyF147 s).bind fun p1 =>
some (p1.1, p1.2)
theorem zyC146 {X : zx_X}      {s : zy_S} {r : Int32} {s' : zy_S}  (h : zyF146 s = some (r, s')) : zyR X 3 146 0 [some (.ref (0 + 3))] [] s (zyE (some (.int r)) s') := by
  unfold zyF146 at h
  refine zy_0 rfl rfl (show zyR _ _ _ _ [some (.ref (0 + 3))] [.ref (0 + 3)] _ _ from ?_)
  refine zy_1r (c := 0) rfl rfl rfl (show zyR _ _ _ _ [some (.ref (0 + 3))] [.ref (22 + 3)] _ _ from ?_)
  refine zy_1 (c := 22) rfl rfl rfl (show zyR _ _ _ _ [some (.ref (0 + 3))] [.int (s.1 22 5)] _ _ from ?_)
  refine zy_0 rfl rfl (show zyR _ _ _ _ [some (.ref (0 + 3))] [.ref (0 + 3), .int (s.1 22 5)] _ _ from ?_)
  refine zy_1r (c := 0) rfl rfl rfl (show zyR _ _ _ _ [some (.ref (0 + 3))] [.ref (22 + 3), .int (s.1 22 5)] _ _ from ?_)
  refine zy_1 (c := 22) rfl rfl rfl (show zyR _ _ _ _ [some (.ref (0 + 3))] [.int (s.1 22 6), .int (s.1 22 5)] _ _ from ?_)
  refine zy_25_3 rfl (fun b2 => (show zyR _ _ _ _ [some (.ref (0 + 3))] [] _ _ from ?_)) (fun b2 => (show zyR _ _ _ _ [some (.ref (0 + 3))] [] _ _ from ?_))
  · replace h := zy_ifp h b2
    refine zy_3 rfl rfl (show zyR _ _ _ _ [some (.ref (0 + 3))] [.int (-5 : Int32)] _ _ from ?_)
    obtain ⟨rfl, rfl⟩ := zy_pi h
    exact zy_4 rfl ⟨rfl, rfl⟩
  · replace h := zy_ifn h b2
    refine zy_0 rfl rfl (show zyR _ _ _ _ [some (.ref (0 + 3))] [.ref (0 + 3)] _ _ from ?_)
    refine zy_1r (c := 0) rfl rfl rfl (show zyR _ _ _ _ [some (.ref (0 + 3))] [.ref (22 + 3)] _ _ from ?_)
    obtain ⟨p1, hp1, h⟩ := zy_bind h
    refine zy_5 (c := 22) (as := []) (rest := []) (L := [some (.ref (22 + 3))]) (d' := 2) rfl rfl rfl (Nat.le_of_ble_eq_true rfl) (Nat.le_of_ble_eq_true rfl) rfl (Nat.le_of_ble_eq_true rfl) rfl rfl (zyC147 hp1) ?_
    show zyR _ _ _ _ [some (.ref (0 + 3))] [.int p1.1] _ _
    refine zy_6 rfl (show zyR _ _ _ _ [some (.ref (0 + 3))] [.int p1.1] _ _ from ?_)
    obtain ⟨rfl, rfl⟩ := zy_pi h
    exact zy_4 rfl ⟨rfl, rfl⟩
/-! NineOpinions$Bodies.isKind(I)Z -/
noncomputable def zyF149   (x0 : Int32) (s : zy_S) : Option (Int32 × zy_S) :=
if x0 < 0 then
some ((0 : Int32), s)
else
if (8 : Int32) ≤ x0 then
some ((0 : Int32), s)
else
some ((1 : Int32), s)
theorem zyC149 {X : zx_X}     {x0 : Int32} {s : zy_S} {r : Int32} {s' : zy_S}  (h : zyF149 x0 s = some (r, s')) : zyR X 1 149 0 [some (.int x0)] [] s (zyE (some (.int r)) s') := by
  unfold zyF149 at h
  refine zy_2 rfl rfl (show zyR _ _ _ _ [some (.int x0)] [.int x0] _ _ from ?_)
  refine zy_24_2 rfl (fun b2 => (show zyR _ _ _ _ [some (.int x0)] [] _ _ from ?_)) (fun b2 => (show zyR _ _ _ _ [some (.int x0)] [] _ _ from ?_))
  · replace h := zy_ifp h b2
    refine zy_3 rfl rfl (show zyR _ _ _ _ [some (.int x0)] [.int (0 : Int32)] _ _ from ?_)
    cases h
    exact zy_4b rfl ⟨rfl, rfl⟩ (Or.inl rfl)
  · replace h := zy_ifn h b2
    refine zy_2 rfl rfl (show zyR _ _ _ _ [some (.int x0)] [.int x0] _ _ from ?_)
    refine zy_3 rfl rfl (show zyR _ _ _ _ [some (.int x0)] [.int (8 : Int32), .int x0] _ _ from ?_)
    refine zy_25_3 rfl (fun b1 => (show zyR _ _ _ _ [some (.int x0)] [] _ _ from ?_)) (fun b1 => (show zyR _ _ _ _ [some (.int x0)] [] _ _ from ?_))
    · replace h := zy_ifp h b1
      refine zy_3 rfl rfl (show zyR _ _ _ _ [some (.int x0)] [.int (0 : Int32)] _ _ from ?_)
      cases h
      exact zy_4b rfl ⟨rfl, rfl⟩ (Or.inl rfl)
    · replace h := zy_ifn h b1
      refine zy_3 rfl rfl (show zyR _ _ _ _ [some (.int x0)] [.int (1 : Int32)] _ _ from ?_)
      refine zy_6 rfl (show zyR _ _ _ _ [some (.int x0)] [.int (1 : Int32)] _ _ from ?_)
      cases h
      exact zy_4b rfl ⟨rfl, rfl⟩ (Or.inr rfl)
/-! NineOpinions$Bodies.isFull()Z -/
noncomputable def zyF150    (s : zy_S) : Option (Int32 × zy_S) :=
if (s.1 27 2) < (50 : Int32) then
some ((0 : Int32), s)
else
some ((1 : Int32), s)
theorem zyC150 {X : zx_X}      {s : zy_S} {r : Int32} {s' : zy_S}  (h : zyF150 s = some (r, s')) : zyR X 1 150 0 [some (.ref (27 + 3))] [] s (zyE (some (.int r)) s') := by
  unfold zyF150 at h
  refine zy_0 rfl rfl (show zyR _ _ _ _ [some (.ref (27 + 3))] [.ref (27 + 3)] _ _ from ?_)
  refine zy_1 (c := 27) rfl rfl rfl (show zyR _ _ _ _ [some (.ref (27 + 3))] [.int (s.1 27 2)] _ _ from ?_)
  refine zy_3 rfl rfl (show zyR _ _ _ _ [some (.ref (27 + 3))] [.int (50 : Int32), .int (s.1 27 2)] _ _ from ?_)
  refine zy_25_2 rfl (fun b1 => (show zyR _ _ _ _ [some (.ref (27 + 3))] [] _ _ from ?_)) (fun b1 => (show zyR _ _ _ _ [some (.ref (27 + 3))] [] _ _ from ?_))
  · replace h := zy_ifp h b1
    refine zy_3 rfl rfl (show zyR _ _ _ _ [some (.ref (27 + 3))] [.int (0 : Int32)] _ _ from ?_)
    cases h
    exact zy_4b rfl ⟨rfl, rfl⟩ (Or.inl rfl)
  · replace h := zy_ifn h b1
    refine zy_3 rfl rfl (show zyR _ _ _ _ [some (.ref (27 + 3))] [.int (1 : Int32)] _ _ from ?_)
    refine zy_6 rfl (show zyR _ _ _ _ [some (.ref (27 + 3))] [.int (1 : Int32)] _ _ from ?_)
    cases h
    exact zy_4b rfl ⟨rfl, rfl⟩ (Or.inr rfl)
