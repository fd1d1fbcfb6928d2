/-! PARTS 41.034.methods to 41.049.methods -/
section
/-! PART 41.34: methods as functions. Made by wip/v4/dcp.py. -/
/-! NineOpinions.minds(II)I -/
noncomputable def zyF50_61   (x2 : Int32) (y0 : Int32) (s : zy_S) : Option (Int32 × zy_S) :=
(zyF52 y0 (0 : Int32) s).bind fun p1 =>
if x2 ≠ (6 : Int32) then
(zyF55 x2 (p1.2.1 1 3) (p1.2.1 1 3) p1.2).bind fun p2 =>
some (p2.1, p2.2)
else
(zyF54 (p1.2.1 1 3) (p1.2.1 1 3) p1.2).bind fun p3 =>
some (p3.1, p3.2)
theorem zyC50_61 {X : zx_X}     {x2 : Int32} {y0 : Int32} {s : zy_S} {r : Int32} {s' : zy_S}  (h : zyF50_61 x2 y0 s = some (r, s')) : zyR X 7 50 61 [some (.ref (0 + 3)), none, some (.int x2), none] [.int y0, .ref (12 + 3)] s (zyE (some (.int r)) s') := by
  unfold zyF50_61 at h
  refine zy_3 rfl rfl (show zyR _ _ _ _ [some (.ref (0 + 3)), none, some (.int x2), none] [.int (0 : Int32), .int y0, .ref (12 + 3)] _ _ from ?_)
  obtain ⟨p1, hp1, h⟩ := zy_bind h
  refine zy_5 (c := 12) (as := [.int y0, .int (0 : Int32)]) (rest := []) (L := [some (.ref (12 + 3)), some (.int y0), some (.int (0 : Int32))]) (d' := 1) rfl rfl rfl (Nat.le_of_ble_eq_true rfl) (Nat.le_of_ble_eq_true rfl) rfl (Nat.le_of_ble_eq_true rfl) rfl rfl (zyC52 hp1) ?_
  show zyR _ _ _ _ [some (.ref (0 + 3)), none, some (.int x2), none] [] _ _
  refine zy_2 rfl rfl (show zyR _ _ _ _ [some (.ref (0 + 3)), none, some (.int x2), none] [.int x2] _ _ from ?_)
  refine zy_3 rfl rfl (show zyR _ _ _ _ [some (.ref (0 + 3)), none, some (.int x2), none] [.int (6 : Int32), .int x2] _ _ from ?_)
  refine zy_25_1 rfl (fun b4 => (show zyR _ _ _ _ [some (.ref (0 + 3)), none, some (.int x2), none] [] _ _ from ?_)) (fun b4 => (show zyR _ _ _ _ [some (.ref (0 + 3)), none, some (.int x2), none] [] _ _ from ?_))
  · replace h := zy_ifp h b4
    refine zy_0 rfl rfl (show zyR _ _ _ _ [some (.ref (0 + 3)), none, some (.int x2), none] [.ref (0 + 3)] _ _ from ?_)
    refine zy_1r (c := 0) rfl rfl rfl (show zyR _ _ _ _ [some (.ref (0 + 3)), none, some (.int x2), none] [.ref (12 + 3)] _ _ from ?_)
    refine zy_2 rfl rfl (show zyR _ _ _ _ [some (.ref (0 + 3)), none, some (.int x2), none] [.int x2, .ref (12 + 3)] _ _ from ?_)
    refine zy_0 rfl rfl (show zyR _ _ _ _ [some (.ref (0 + 3)), none, some (.int x2), none] [.ref (0 + 3), .int x2, .ref (12 + 3)] _ _ from ?_)
    refine zy_1r (c := 0) rfl rfl rfl (show zyR _ _ _ _ [some (.ref (0 + 3)), none, some (.int x2), none] [.ref (1 + 3), .int x2, .ref (12 + 3)] _ _ from ?_)
    refine zy_1 (c := 1) rfl rfl rfl (show zyR _ _ _ _ [some (.ref (0 + 3)), none, some (.int x2), none] [.int (p1.2.1 1 3), .int x2, .ref (12 + 3)] _ _ from ?_)
    refine zy_0 rfl rfl (show zyR _ _ _ _ [some (.ref (0 + 3)), none, some (.int x2), none] [.ref (0 + 3), .int (p1.2.1 1 3), .int x2, .ref (12 + 3)] _ _ from ?_)
    refine zy_1r (c := 0) rfl rfl rfl (show zyR _ _ _ _ [some (.ref (0 + 3)), none, some (.int x2), none] [.ref (1 + 3), .int (p1.2.1 1 3), .int x2, .ref (12 + 3)] _ _ from ?_)
    refine zy_1 (c := 1) rfl rfl rfl (show zyR _ _ _ _ [some (.ref (0 + 3)), none, some (.int x2), none] [.int (p1.2.1 1 3), .int (p1.2.1 1 3), .int x2, .ref (12 + 3)] _ _ from ?_)
    obtain ⟨p2, hp2, h⟩ := zy_bind h
    refine zy_5 (c := 12) (as := [.int x2, .int (p1.2.1 1 3), .int (p1.2.1 1 3)]) (rest := []) (L := [some (.ref (12 + 3)), some (.int x2), some (.int (p1.2.1 1 3)), some (.int (p1.2.1 1 3)), none]) (d' := 5) rfl rfl rfl (Nat.le_of_ble_eq_true rfl) (Nat.le_of_ble_eq_true rfl) rfl (Nat.le_of_ble_eq_true rfl) rfl rfl (zyC55 hp2) ?_
    show zyR _ _ _ _ [some (.ref (0 + 3)), none, some (.int x2), none] [.int p2.1] _ _
    obtain ⟨rfl, rfl⟩ := zy_pi h
    exact zy_4 rfl ⟨rfl, rfl⟩
  · replace h := zy_ifn h b4
    refine zy_0 rfl rfl (show zyR _ _ _ _ [some (.ref (0 + 3)), none, some (.int x2), none] [.ref (0 + 3)] _ _ from ?_)
    refine zy_1r (c := 0) rfl rfl rfl (show zyR _ _ _ _ [some (.ref (0 + 3)), none, some (.int x2), none] [.ref (12 + 3)] _ _ from ?_)
    refine zy_0 rfl rfl (show zyR _ _ _ _ [some (.ref (0 + 3)), none, some (.int x2), none] [.ref (0 + 3), .ref (12 + 3)] _ _ from ?_)
    refine zy_1r (c := 0) rfl rfl rfl (show zyR _ _ _ _ [some (.ref (0 + 3)), none, some (.int x2), none] [.ref (1 + 3), .ref (12 + 3)] _ _ from ?_)
    refine zy_1 (c := 1) rfl rfl rfl (show zyR _ _ _ _ [some (.ref (0 + 3)), none, some (.int x2), none] [.int (p1.2.1 1 3), .ref (12 + 3)] _ _ from ?_)
    refine zy_0 rfl rfl (show zyR _ _ _ _ [some (.ref (0 + 3)), none, some (.int x2), none] [.ref (0 + 3), .int (p1.2.1 1 3), .ref (12 + 3)] _ _ from ?_)
    refine zy_1r (c := 0) rfl rfl rfl (show zyR _ _ _ _ [some (.ref (0 + 3)), none, some (.int x2), none] [.ref (1 + 3), .int (p1.2.1 1 3), .ref (12 + 3)] _ _ from ?_)
    refine zy_1 (c := 1) rfl rfl rfl (show zyR _ _ _ _ [some (.ref (0 + 3)), none, some (.int x2), none] [.int (p1.2.1 1 3), .int (p1.2.1 1 3), .ref (12 + 3)] _ _ from ?_)
    obtain ⟨p3, hp3, h⟩ := zy_bind h
    refine zy_5 (c := 12) (as := [.int (p1.2.1 1 3), .int (p1.2.1 1 3)]) (rest := []) (L := [some (.ref (12 + 3)), some (.int (p1.2.1 1 3)), some (.int (p1.2.1 1 3)), none, none]) (d' := 6) rfl rfl rfl (Nat.le_of_ble_eq_true rfl) (Nat.le_of_ble_eq_true rfl) rfl (Nat.le_of_ble_eq_true rfl) rfl rfl (zyC54 hp3) ?_
    show zyR _ _ _ _ [some (.ref (0 + 3)), none, some (.int x2), none] [.int p3.1] _ _
    refine zy_6 rfl (show zyR _ _ _ _ [some (.ref (0 + 3)), none, some (.int x2), none] [.int p3.1] _ _ from ?_)
    obtain ⟨rfl, rfl⟩ := zy_pi h
    exact zy_4 rfl ⟨rfl, rfl⟩
noncomputable def zyF50_28   (x1 : Int32) (x2 : Int32) (x3 : Int32) (s : zy_S) : Option (Int32 × zy_S) :=
if x2 < 0 then
some ((-1 : Int32), s)
else
if x2 ≤ (6 : Int32) then
if x3 = 0 then
zyF50_61 x2 ((1 : Int32) <<< (x1 &&& 31)) s
else
(zyF51 s).bind fun p5 =>
zyF50_61 x2 p5.1 p5.2
else
some ((-1 : Int32), s)
theorem zyC50_28 {X : zx_X}     {x1 : Int32} {x2 : Int32} {x3 : Int32} {s : zy_S} {r : Int32} {s' : zy_S}  (h : zyF50_28 x1 x2 x3 s = some (r, s')) : zyR X 7 50 28 [some (.ref (0 + 3)), some (.int x1), some (.int x2), some (.int x3)] [] s (zyE (some (.int r)) s') := by
  unfold zyF50_28 at h
  refine zy_2 rfl rfl (show zyR _ _ _ _ [some (.ref (0 + 3)), some (.int x1), some (.int x2), some (.int x3)] [.int x2] _ _ from ?_)
  refine zy_24_2 rfl (fun b8 => (show zyR _ _ _ _ [some (.ref (0 + 3)), some (.int x1), some (.int x2), some (.int x3)] [] _ _ from ?_)) (fun b8 => (show zyR _ _ _ _ [some (.ref (0 + 3)), some (.int x1), some (.int x2), some (.int x3)] [] _ _ from ?_))
  · replace h := zy_ifp h b8
    refine zy_3 rfl rfl (show zyR _ _ _ _ [some (.ref (0 + 3)), some (.int x1), some (.int x2), some (.int x3)] [.int (-1 : Int32)] _ _ from ?_)
    obtain ⟨rfl, rfl⟩ := zy_pi h
    exact zy_4 rfl ⟨rfl, rfl⟩
  · replace h := zy_ifn h b8
    refine zy_2 rfl rfl (show zyR _ _ _ _ [some (.ref (0 + 3)), some (.int x1), some (.int x2), some (.int x3)] [.int x2] _ _ from ?_)
    refine zy_3 rfl rfl (show zyR _ _ _ _ [some (.ref (0 + 3)), some (.int x1), some (.int x2), some (.int x3)] [.int (6 : Int32), .int x2] _ _ from ?_)
    refine zy_25_5 rfl (fun b7 => (show zyR _ _ _ _ [some (.ref (0 + 3)), some (.int x1), some (.int x2), some (.int x3)] [] _ _ from ?_)) (fun b7 => (show zyR _ _ _ _ [some (.ref (0 + 3)), some (.int x1), some (.int x2), some (.int x3)] [] _ _ from ?_))
    · replace h := zy_ifp h b7
      refine zy_0 rfl rfl (show zyR _ _ _ _ [some (.ref (0 + 3)), some (.int x1), some (.int x2), some (.int x3)] [.ref (0 + 3)] _ _ from ?_)
      refine zy_1r (c := 0) rfl rfl rfl (show zyR _ _ _ _ [some (.ref (0 + 3)), some (.int x1), some (.int x2), some (.int x3)] [.ref (12 + 3)] _ _ from ?_)
      refine zy_2 rfl rfl (show zyR _ _ _ _ [some (.ref (0 + 3)), some (.int x1), some (.int x2), some (.int x3)] [.int x3, .ref (12 + 3)] _ _ from ?_)
      refine zy_24_0 rfl (fun b6 => (show zyR _ _ _ _ [some (.ref (0 + 3)), some (.int x1), some (.int x2), some (.int x3)] [.ref (12 + 3)] _ _ from ?_)) (fun b6 => (show zyR _ _ _ _ [some (.ref (0 + 3)), some (.int x1), some (.int x2), some (.int x3)] [.ref (12 + 3)] _ _ from ?_))
      · replace h := zy_ifp h b6
        refine zy_3 rfl rfl (show zyR _ _ _ _ [some (.ref (0 + 3)), some (.int x1), some (.int x2), some (.int x3)] [.int (1 : Int32), .ref (12 + 3)] _ _ from ?_)
        refine zy_2 rfl rfl (show zyR _ _ _ _ [some (.ref (0 + 3)), some (.int x1), some (.int x2), some (.int x3)] [.int x1, .int (1 : Int32), .ref (12 + 3)] _ _ from ?_)
        refine zy_16 rfl (show zyR _ _ _ _ [some (.ref (0 + 3)), some (.int x1), some (.int x2), some (.int x3)] [.int ((1 : Int32) <<< (x1 &&& 31)), .ref (12 + 3)] _ _ from ?_)
        exact zy_sub (show zy_le [some (.ref (0 + 3)), none, some (.int x2), none] [some (.ref (0 + 3)), some (.int x1), some (.int x2), some (.int x3)] from ⟨rfl, ⟨rfl, trivial⟩⟩) (zyC50_61 h)
      · replace h := zy_ifn h b6
        refine zy_0 rfl rfl (show zyR _ _ _ _ [some (.ref (0 + 3)), some (.int x1), some (.int x2), some (.int x3)] [.ref (0 + 3), .ref (12 + 3)] _ _ from ?_)
        refine zy_1r (c := 0) rfl rfl rfl (show zyR _ _ _ _ [some (.ref (0 + 3)), some (.int x1), some (.int x2), some (.int x3)] [.ref (1 + 3), .ref (12 + 3)] _ _ from ?_)
        obtain ⟨p5, hp5, h⟩ := zy_bind h
        refine zy_5 (c := 1) (as := []) (rest := [.ref (12 + 3)]) (L := [some (.ref (1 + 3))]) (d' := 1) rfl rfl rfl (Nat.le_of_ble_eq_true rfl) (Nat.le_of_ble_eq_true rfl) rfl (Nat.le_of_ble_eq_true rfl) rfl rfl (zyC51 hp5) ?_
        show zyR _ _ _ _ [some (.ref (0 + 3)), some (.int x1), some (.int x2), some (.int x3)] [.int p5.1, .ref (12 + 3)] _ _
        refine zy_6 rfl (show zyR _ _ _ _ [some (.ref (0 + 3)), some (.int x1), some (.int x2), some (.int x3)] [.int p5.1, .ref (12 + 3)] _ _ from ?_)
        exact zy_sub (show zy_le [some (.ref (0 + 3)), none, some (.int x2), none] [some (.ref (0 + 3)), some (.int x1), some (.int x2), some (.int x3)] from ⟨rfl, ⟨rfl, trivial⟩⟩) (zyC50_61 h)
    · replace h := zy_ifn h b7
      refine zy_3 rfl rfl (show zyR _ _ _ _ [some (.ref (0 + 3)), some (.int x1), some (.int x2), some (.int x3)] [.int (-1 : Int32)] _ _ from ?_)
      obtain ⟨rfl, rfl⟩ := zy_pi h
      exact zy_4 rfl ⟨rfl, rfl⟩
noncomputable def zyF50_11   (x1 : Int32) (x2 : Int32) (y0 : Int32) (s : zy_S) : Option (Int32 × zy_S) :=
if y0 ≠ 0 then
zyF50_28 x1 x2 y0 s
else
(zyF25 (0 : Int32) x1 s).bind fun p9 =>
if p9.1 = 0 then
some ((-1 : Int32), p9.2)
else
zyF50_28 x1 x2 y0 p9.2
theorem zyC50_11 {X : zx_X}     {x1 : Int32} {x2 : Int32} {y0 : Int32} {s : zy_S} {r : Int32} {s' : zy_S}  (h : zyF50_11 x1 x2 y0 s = some (r, s')) : zyR X 7 50 11 [some (.ref (0 + 3)), some (.int x1), some (.int x2), none] [.int y0] s (zyE (some (.int r)) s') := by
  unfold zyF50_11 at h
  refine zy_23 rfl rfl (show zyR _ _ _ _ [some (.ref (0 + 3)), some (.int x1), some (.int x2), some (.int y0)] [] _ _ from ?_)
  refine zy_2 rfl rfl (show zyR _ _ _ _ [some (.ref (0 + 3)), some (.int x1), some (.int x2), some (.int y0)] [.int y0] _ _ from ?_)
  refine zy_24_1 rfl (fun b11 => (show zyR _ _ _ _ [some (.ref (0 + 3)), some (.int x1), some (.int x2), some (.int y0)] [] _ _ from ?_)) (fun b11 => (show zyR _ _ _ _ [some (.ref (0 + 3)), some (.int x1), some (.int x2), some (.int y0)] [] _ _ from ?_))
  · replace h := zy_ifp h b11
    exact zy_sub (show zy_le [some (.ref (0 + 3)), some (.int x1), some (.int x2), some (.int y0)] [some (.ref (0 + 3)), some (.int x1), some (.int x2), some (.int y0)] from ⟨rfl, ⟨rfl, ⟨rfl, ⟨rfl, trivial⟩⟩⟩⟩) (zyC50_28 h)
  · replace h := zy_ifn h b11
    refine zy_0 rfl rfl (show zyR _ _ _ _ [some (.ref (0 + 3)), some (.int x1), some (.int x2), some (.int y0)] [.ref (0 + 3)] _ _ from ?_)
    refine zy_1r (c := 0) rfl rfl rfl (show zyR _ _ _ _ [some (.ref (0 + 3)), some (.int x1), some (.int x2), some (.int y0)] [.ref (1 + 3)] _ _ from ?_)
    refine zy_3 rfl rfl (show zyR _ _ _ _ [some (.ref (0 + 3)), some (.int x1), some (.int x2), some (.int y0)] [.int (0 : Int32), .ref (1 + 3)] _ _ from ?_)
    refine zy_2 rfl rfl (show zyR _ _ _ _ [some (.ref (0 + 3)), some (.int x1), some (.int x2), some (.int y0)] [.int x1, .int (0 : Int32), .ref (1 + 3)] _ _ from ?_)
    obtain ⟨p9, hp9, h⟩ := zy_bind h
    refine zy_5 (c := 1) (as := [.int (0 : Int32), .int x1]) (rest := []) (L := [some (.ref (1 + 3)), some (.int (0 : Int32)), some (.int x1)]) (d' := 2) rfl rfl rfl (Nat.le_of_ble_eq_true rfl) (Nat.le_of_ble_eq_true rfl) rfl (Nat.le_of_ble_eq_true rfl) rfl rfl (zyC25 hp9) ?_
    show zyR _ _ _ _ [some (.ref (0 + 3)), some (.int x1), some (.int x2), some (.int y0)] [.int p9.1] _ _
    refine zy_24_0 rfl (fun b10 => (show zyR _ _ _ _ [some (.ref (0 + 3)), some (.int x1), some (.int x2), some (.int y0)] [] _ _ from ?_)) (fun b10 => (show zyR _ _ _ _ [some (.ref (0 + 3)), some (.int x1), some (.int x2), some (.int y0)] [] _ _ from ?_))
    · replace h := zy_ifp h b10
      refine zy_3 rfl rfl (show zyR _ _ _ _ [some (.ref (0 + 3)), some (.int x1), some (.int x2), some (.int y0)] [.int (-1 : Int32)] _ _ from ?_)
      obtain ⟨rfl, rfl⟩ := zy_pi h
      exact zy_4 rfl ⟨rfl, rfl⟩
    · replace h := zy_ifn h b10
      exact zy_sub (show zy_le [some (.ref (0 + 3)), some (.int x1), some (.int x2), some (.int y0)] [some (.ref (0 + 3)), some (.int x1), some (.int x2), some (.int y0)] from ⟨rfl, ⟨rfl, ⟨rfl, ⟨rfl, trivial⟩⟩⟩⟩) (zyC50_28 h)
noncomputable def zyF50   (x1 : Int32) (x2 : Int32) (s : zy_S) : Option (Int32 × zy_S) :=
if x1 ≠ (8 : Int32) then
zyF50_11 x1 x2 (0 : Int32) s
else
zyF50_11 x1 x2 (1 : Int32) s
theorem zyC50 {X : zx_X}     {x1 : Int32} {x2 : Int32} {s : zy_S} {r : Int32} {s' : zy_S}  (h : zyF50 x1 x2 s = some (r, s')) : zyR X 7 50 0 [some (.ref (0 + 3)), some (.int x1), some (.int x2), none] [] s (zyE (some (.int r)) s') := by
  unfold zyF50 at h
  refine zy_2 rfl rfl (show zyR _ _ _ _ [some (.ref (0 + 3)), some (.int x1), some (.int x2), none] [.int x1] _ _ from ?_)
  refine zy_3 rfl rfl (show zyR _ _ _ _ [some (.ref (0 + 3)), some (.int x1), some (.int x2), none] [.int (8 : Int32), .int x1] _ _ from ?_)
  refine zy_25_1 rfl (fun b12 => (show zyR _ _ _ _ [some (.ref (0 + 3)), some (.int x1), some (.int x2), none] [] _ _ from ?_)) (fun b12 => (show zyR _ _ _ _ [some (.ref (0 + 3)), some (.int x1), some (.int x2), none] [] _ _ from ?_))
  · replace h := zy_ifp h b12
    refine zy_3 rfl rfl (show zyR _ _ _ _ [some (.ref (0 + 3)), some (.int x1), some (.int x2), none] [.int (0 : Int32)] _ _ from ?_)
    exact zy_sub (show zy_le [some (.ref (0 + 3)), some (.int x1), some (.int x2), none] [some (.ref (0 + 3)), some (.int x1), some (.int x2), none] from ⟨rfl, ⟨rfl, ⟨rfl, trivial⟩⟩⟩) (zyC50_11 h)
  · replace h := zy_ifn h b12
    refine zy_3 rfl rfl (show zyR _ _ _ _ [some (.ref (0 + 3)), some (.int x1), some (.int x2), none] [.int (1 : Int32)] _ _ from ?_)
    refine zy_6 rfl (show zyR _ _ _ _ [some (.ref (0 + 3)), some (.int x1), some (.int x2), none] [.int (1 : Int32)] _ _ from ?_)
    exact zy_sub (show zy_le [some (.ref (0 + 3)), some (.int x1), some (.int x2), none] [some (.ref (0 + 3)), some (.int x1), some (.int x2), none] from ⟨rfl, ⟨rfl, ⟨rfl, trivial⟩⟩⟩) (zyC50_11 h)
/-! NineOpinionsModel.begins()V -/
noncomputable def zyF203_2b  (k2 : Int32 → zy_S → Option (Int32 × zy_S)) (x1 : Int32) (s : zy_S) : Option (Int32 × zy_S) :=
if (24 : Int32) ≤ x1 then
some ((0 : Int32), s)
else
if zy_in ((16 : Int32) + x1) 41 then
if zy_in x1 24 then
k2 (x1 + (1 : Int32)) (zy_up s 51 (x1).toNatClampNeg (s.1 44 (((16 : Int32) + x1)).toNatClampNeg))
else none
else none
theorem zyC203_2b {X : zx_X}  {k2 : Int32 → zy_S → Option (Int32 × zy_S)}  (hk2 : ∀ (x1 : Int32) (s : zy_S) (r : Int32) (s' : zy_S), k2 x1 s = some (r, s') → zyR X 1 203 2 [some (.ref (43 + 3)), some (.int x1)] [] s (zyE none s')) {x1 : Int32} {s : zy_S} {r : Int32} {s' : zy_S}  (h : zyF203_2b k2 x1 s = some (r, s')) : zyR X 1 203 2 [some (.ref (43 + 3)), some (.int x1)] [] s (zyE none s') := by
  unfold zyF203_2b at h
  refine zy_2 rfl rfl (show zyR _ _ _ _ [some (.ref (43 + 3)), some (.int x1)] [.int x1] _ _ from ?_)
  refine zy_3 rfl rfl (show zyR _ _ _ _ [some (.ref (43 + 3)), some (.int x1)] [.int (24 : Int32), .int x1] _ _ from ?_)
  refine zy_25_3 rfl (fun b3 => (show zyR _ _ _ _ [some (.ref (43 + 3)), some (.int x1)] [] _ _ from ?_)) (fun b3 => (show zyR _ _ _ _ [some (.ref (43 + 3)), some (.int x1)] [] _ _ from ?_))
  · replace h := zy_ifp h b3
    cases h
    exact zy_66 rfl ⟨rfl, rfl⟩
  · replace h := zy_ifn h b3
    refine zy_0 rfl rfl (show zyR _ _ _ _ [some (.ref (43 + 3)), some (.int x1)] [.ref (43 + 3)] _ _ from ?_)
    refine zy_1r (c := 43) rfl rfl rfl (show zyR _ _ _ _ [some (.ref (43 + 3)), some (.int x1)] [.ref (51 + 3)] _ _ from ?_)
    refine zy_2 rfl rfl (show zyR _ _ _ _ [some (.ref (43 + 3)), some (.int x1)] [.int x1, .ref (51 + 3)] _ _ from ?_)
    refine zy_0 rfl rfl (show zyR _ _ _ _ [some (.ref (43 + 3)), some (.int x1)] [.ref (43 + 3), .int x1, .ref (51 + 3)] _ _ from ?_)
    refine zy_1r (c := 43) rfl rfl rfl (show zyR _ _ _ _ [some (.ref (43 + 3)), some (.int x1)] [.ref (44 + 3), .int x1, .ref (51 + 3)] _ _ from ?_)
    refine zy_3 rfl rfl (show zyR _ _ _ _ [some (.ref (43 + 3)), some (.int x1)] [.int (16 : Int32), .ref (44 + 3), .int x1, .ref (51 + 3)] _ _ from ?_)
    refine zy_2 rfl rfl (show zyR _ _ _ _ [some (.ref (43 + 3)), some (.int x1)] [.int x1, .int (16 : Int32), .ref (44 + 3), .int x1, .ref (51 + 3)] _ _ from ?_)
    refine zy_10 rfl (show zyR _ _ _ _ [some (.ref (43 + 3)), some (.int x1)] [.int ((16 : Int32) + x1), .ref (44 + 3), .int x1, .ref (51 + 3)] _ _ from ?_)
    obtain ⟨c1, h⟩ := zy_if h
    refine zy_26 (c := 44) rfl rfl c1 (show zyR _ _ _ _ [some (.ref (43 + 3)), some (.int x1)] [.int (s.1 44 (((16 : Int32) + x1)).toNatClampNeg), .int x1, .ref (51 + 3)] _ _ from ?_)
    obtain ⟨c2, h⟩ := zy_if h
    refine zy_27 (c := 51) rfl rfl c2 (show zyR _ _ _ _ [some (.ref (43 + 3)), some (.int x1)] [] _ _ from ?_)
    refine zy_22 rfl rfl rfl rfl (show zyR _ _ _ _ [some (.ref (43 + 3)), some (.int (x1 + (1 : Int32)))] [] _ _ from ?_)
    refine zy_6 rfl (show zyR _ _ _ _ [some (.ref (43 + 3)), some (.int (x1 + (1 : Int32)))] [] _ _ from ?_)
    exact zy_sub (show zy_le [some (.ref (43 + 3)), some (.int (x1 + (1 : Int32)))] [some (.ref (43 + 3)), some (.int (x1 + (1 : Int32)))] from ⟨rfl, ⟨rfl, trivial⟩⟩) (hk2 (x1 + (1 : Int32)) (zy_up s 51 (x1).toNatClampNeg (s.1 44 (((16 : Int32) + x1)).toNatClampNeg)) _ _ h)
noncomputable def zyF203_2   (n : Nat) : Int32 → zy_S → Option (Int32 × zy_S) := Nat.rec (fun _ _ => none) (fun _ k2 => zyF203_2b k2) n
theorem zyC203_2 {X : zx_X}     : ∀ (n : Nat) (x1 : Int32) (s : zy_S) (r : Int32) (s' : zy_S), zyF203_2 n x1 s = some (r, s') → zyR X 1 203 2 [some (.ref (43 + 3)), some (.int x1)] [] s (zyE none s')
  | 0, _ => by
    intro s r s'  h
    have h : (none : Option (Int32 × zy_S)) = some (r, s') := h
    cases h
  | n + 1, x1 => by
    intro s r s'  h
    exact zyC203_2b (k2 := zyF203_2 n) (fun x1 s r s'  h => zyC203_2  n x1 s r s'  h) h
noncomputable def zyF203    (s : zy_S) : Option (Int32 × zy_S) :=
zyF203_2 zy_fu (0 : Int32) s
theorem zyC203 {X : zx_X}      {s : zy_S} {r : Int32} {s' : zy_S}  (h : zyF203 s = some (r, s')) : zyR X 1 203 0 [some (.ref (43 + 3)), none] [] s (zyE none s') := by
  unfold zyF203 at h
  refine zy_3 rfl rfl (show zyR _ _ _ _ [some (.ref (43 + 3)), none] [.int (0 : Int32)] _ _ from ?_)
  refine zy_23 rfl rfl (show zyR _ _ _ _ [some (.ref (43 + 3)), some (.int (0 : Int32))] [] _ _ from ?_)
  exact zy_sub (show zy_le [some (.ref (43 + 3)), some (.int (0 : Int32))] [some (.ref (43 + 3)), some (.int (0 : Int32))] from ⟨rfl, ⟨rfl, trivial⟩⟩) (zyC203_2 zy_fu (0 : Int32) s _ _ h)
/-! NineOpinionsModel.nearest(III)I -/
noncomputable def zyF207_64  (k8 : Int32 → Int32 → Int32 → Int32 → Int32 → Int32 → zy_S → Option (Int32 × zy_S)) (x0 : Int32) (x1 : Int32) (x2 : Int32) (x3 : Int32) (x4 : Int32) (x5 : Int32) (s : zy_S) : Option (Int32 × zy_S) :=
k8 x0 x1 x2 x3 x4 (x5 + (1 : Int32)) s
theorem zyC207_64 {X : zx_X}  {k8 : Int32 → Int32 → Int32 → Int32 → Int32 → Int32 → zy_S → Option (Int32 × zy_S)}  (hk8 : ∀ (x0 : Int32) (x1 : Int32) (x2 : Int32) (x3 : Int32) (x4 : Int32) (x5 : Int32) (s : zy_S) (r : Int32) (s' : zy_S), k8 x0 x1 x2 x3 x4 x5 s = some (r, s') → zyR X 2 207 8 [some (.int x0), some (.int x1), some (.int x2), some (.int x3), some (.int x4), some (.int x5), none] [] s (zyE (some (.int r)) s')) {x0 : Int32} {x1 : Int32} {x2 : Int32} {x3 : Int32} {x4 : Int32} {x5 : Int32} {s : zy_S} {r : Int32} {s' : zy_S}  (h : zyF207_64 k8 x0 x1 x2 x3 x4 x5 s = some (r, s')) : zyR X 2 207 64 [some (.int x0), some (.int x1), some (.int x2), some (.int x3), some (.int x4), some (.int x5), none] [] s (zyE (some (.int r)) s') := by
  unfold zyF207_64 at h
  refine zy_22 rfl rfl rfl rfl (show zyR _ _ _ _ [some (.int x0), some (.int x1), some (.int x2), some (.int x3), some (.int x4), some (.int (x5 + (1 : Int32))), none] [] _ _ from ?_)
  refine zy_6 rfl (show zyR _ _ _ _ [some (.int x0), some (.int x1), some (.int x2), some (.int x3), some (.int x4), some (.int (x5 + (1 : Int32))), none] [] _ _ from ?_)
  exact zy_sub (show zy_le [some (.int x0), some (.int x1), some (.int x2), some (.int x3), some (.int x4), some (.int (x5 + (1 : Int32))), none] [some (.int x0), some (.int x1), some (.int x2), some (.int x3), some (.int x4), some (.int (x5 + (1 : Int32))), none] from ⟨rfl, ⟨rfl, ⟨rfl, ⟨rfl, ⟨rfl, ⟨rfl, trivial⟩⟩⟩⟩⟩⟩) (hk8 x0 x1 x2 x3 x4 (x5 + (1 : Int32)) s _ _ h)
noncomputable def zyF207_31  (k8 : Int32 → Int32 → Int32 → Int32 → Int32 → Int32 → zy_S → Option (Int32 × zy_S)) (x0 : Int32) (x1 : Int32) (x2 : Int32) (x3 : Int32) (x4 : Int32) (x5 : Int32) (y0 : Int32) (s : zy_S) : Option (Int32 × zy_S) :=
(zyF208 x0 (((4 : Int32) * x1) + x5) s).bind fun p1 =>
if p1.1 = 0 then
zyF207_64 k8 x0 x1 x2 x3 x4 x5 p1.2
else
if x4 ≤ y0 then
zyF207_64 k8 x0 x1 x2 x3 x4 x5 p1.2
else
zyF207_64 k8 x0 x1 x2 (((4 : Int32) * x1) + x5) y0 x5 p1.2
theorem zyC207_31 {X : zx_X}  {k8 : Int32 → Int32 → Int32 → Int32 → Int32 → Int32 → zy_S → Option (Int32 × zy_S)}  (hk8 : ∀ (x0 : Int32) (x1 : Int32) (x2 : Int32) (x3 : Int32) (x4 : Int32) (x5 : Int32) (s : zy_S) (r : Int32) (s' : zy_S), k8 x0 x1 x2 x3 x4 x5 s = some (r, s') → zyR X 2 207 8 [some (.int x0), some (.int x1), some (.int x2), some (.int x3), some (.int x4), some (.int x5), none] [] s (zyE (some (.int r)) s')) {x0 : Int32} {x1 : Int32} {x2 : Int32} {x3 : Int32} {x4 : Int32} {x5 : Int32} {y0 : Int32} {s : zy_S} {r : Int32} {s' : zy_S}  (h : zyF207_31 k8 x0 x1 x2 x3 x4 x5 y0 s = some (r, s')) : zyR X 2 207 31 [some (.int x0), some (.int x1), some (.int x2), some (.int x3), some (.int x4), some (.int x5), none] [.int y0] s (zyE (some (.int r)) s') := by
  unfold zyF207_31 at h
  refine zy_23 rfl rfl (show zyR _ _ _ _ [some (.int x0), some (.int x1), some (.int x2), some (.int x3), some (.int x4), some (.int x5), some (.int y0)] [] _ _ from ?_)
  refine zy_2 rfl rfl (show zyR _ _ _ _ [some (.int x0), some (.int x1), some (.int x2), some (.int x3), some (.int x4), some (.int x5), some (.int y0)] [.int x0] _ _ from ?_)
  refine zy_3 rfl rfl (show zyR _ _ _ _ [some (.int x0), some (.int x1), some (.int x2), some (.int x3), some (.int x4), some (.int x5), some (.int y0)] [.int (4 : Int32), .int x0] _ _ from ?_)
  refine zy_2 rfl rfl (show zyR _ _ _ _ [some (.int x0), some (.int x1), some (.int x2), some (.int x3), some (.int x4), some (.int x5), some (.int y0)] [.int x1, .int (4 : Int32), .int x0] _ _ from ?_)
  refine zy_12 rfl (show zyR _ _ _ _ [some (.int x0), some (.int x1), some (.int x2), some (.int x3), some (.int x4), some (.int x5), some (.int y0)] [.int ((4 : Int32) * x1), .int x0] _ _ from ?_)
  refine zy_2 rfl rfl (show zyR _ _ _ _ [some (.int x0), some (.int x1), some (.int x2), some (.int x3), some (.int x4), some (.int x5), some (.int y0)] [.int x5, .int ((4 : Int32) * x1), .int x0] _ _ from ?_)
  refine zy_10 rfl (show zyR _ _ _ _ [some (.int x0), some (.int x1), some (.int x2), some (.int x3), some (.int x4), some (.int x5), some (.int y0)] [.int (((4 : Int32) * x1) + x5), .int x0] _ _ from ?_)
  obtain ⟨p1, hp1, h⟩ := zy_bind h
  refine zy_60 (as := [.int x0, .int (((4 : Int32) * x1) + x5)]) (rest := []) (L := [some (.int x0), some (.int (((4 : Int32) * x1) + x5))]) (d' := 1) rfl rfl (Nat.le_of_ble_eq_true rfl) (Nat.le_of_ble_eq_true rfl) rfl (Nat.le_of_ble_eq_true rfl) rfl rfl (zyC208 hp1) ?_
  show zyR _ _ _ _ [some (.int x0), some (.int x1), some (.int x2), some (.int x3), some (.int x4), some (.int x5), some (.int y0)] [.int p1.1] _ _
  refine zy_24_0 rfl (fun b3 => (show zyR _ _ _ _ [some (.int x0), some (.int x1), some (.int x2), some (.int x3), some (.int x4), some (.int x5), some (.int y0)] [] _ _ from ?_)) (fun b3 => (show zyR _ _ _ _ [some (.int x0), some (.int x1), some (.int x2), some (.int x3), some (.int x4), some (.int x5), some (.int y0)] [] _ _ from ?_))
  · replace h := zy_ifp h b3
    exact zy_sub (show zy_le [some (.int x0), some (.int x1), some (.int x2), some (.int x3), some (.int x4), some (.int x5), none] [some (.int x0), some (.int x1), some (.int x2), some (.int x3), some (.int x4), some (.int x5), some (.int y0)] from ⟨rfl, ⟨rfl, ⟨rfl, ⟨rfl, ⟨rfl, ⟨rfl, trivial⟩⟩⟩⟩⟩⟩) (zyC207_64 hk8 h)
  · replace h := zy_ifn h b3
    refine zy_2 rfl rfl (show zyR _ _ _ _ [some (.int x0), some (.int x1), some (.int x2), some (.int x3), some (.int x4), some (.int x5), some (.int y0)] [.int y0] _ _ from ?_)
    refine zy_2 rfl rfl (show zyR _ _ _ _ [some (.int x0), some (.int x1), some (.int x2), some (.int x3), some (.int x4), some (.int x5), some (.int y0)] [.int x4, .int y0] _ _ from ?_)
    refine zy_25_3 rfl (fun b2 => (show zyR _ _ _ _ [some (.int x0), some (.int x1), some (.int x2), some (.int x3), some (.int x4), some (.int x5), some (.int y0)] [] _ _ from ?_)) (fun b2 => (show zyR _ _ _ _ [some (.int x0), some (.int x1), some (.int x2), some (.int x3), some (.int x4), some (.int x5), some (.int y0)] [] _ _ from ?_))
    · replace h := zy_ifp h b2
      exact zy_sub (show zy_le [some (.int x0), some (.int x1), some (.int x2), some (.int x3), some (.int x4), some (.int x5), none] [some (.int x0), some (.int x1), some (.int x2), some (.int x3), some (.int x4), some (.int x5), some (.int y0)] from ⟨rfl, ⟨rfl, ⟨rfl, ⟨rfl, ⟨rfl, ⟨rfl, trivial⟩⟩⟩⟩⟩⟩) (zyC207_64 hk8 h)
    · replace h := zy_ifn h b2
      refine zy_3 rfl rfl (show zyR _ _ _ _ [some (.int x0), some (.int x1), some (.int x2), some (.int x3), some (.int x4), some (.int x5), some (.int y0)] [.int (4 : Int32)] _ _ from ?_)
      refine zy_2 rfl rfl (show zyR _ _ _ _ [some (.int x0), some (.int x1), some (.int x2), some (.int x3), some (.int x4), some (.int x5), some (.int y0)] [.int x1, .int (4 : Int32)] _ _ from ?_)
      refine zy_12 rfl (show zyR _ _ _ _ [some (.int x0), some (.int x1), some (.int x2), some (.int x3), some (.int x4), some (.int x5), some (.int y0)] [.int ((4 : Int32) * x1)] _ _ from ?_)
      refine zy_2 rfl rfl (show zyR _ _ _ _ [some (.int x0), some (.int x1), some (.int x2), some (.int x3), some (.int x4), some (.int x5), some (.int y0)] [.int x5, .int ((4 : Int32) * x1)] _ _ from ?_)
      refine zy_10 rfl (show zyR _ _ _ _ [some (.int x0), some (.int x1), some (.int x2), some (.int x3), some (.int x4), some (.int x5), some (.int y0)] [.int (((4 : Int32) * x1) + x5)] _ _ from ?_)
      refine zy_23 rfl rfl (show zyR _ _ _ _ [some (.int x0), some (.int x1), some (.int x2), some (.int (((4 : Int32) * x1) + x5)), some (.int x4), some (.int x5), some (.int y0)] [] _ _ from ?_)
      refine zy_2 rfl rfl (show zyR _ _ _ _ [some (.int x0), some (.int x1), some (.int x2), some (.int (((4 : Int32) * x1) + x5)), some (.int x4), some (.int x5), some (.int y0)] [.int y0] _ _ from ?_)
      refine zy_23 rfl rfl (show zyR _ _ _ _ [some (.int x0), some (.int x1), some (.int x2), some (.int (((4 : Int32) * x1) + x5)), some (.int y0), some (.int x5), some (.int y0)] [] _ _ from ?_)
      exact zy_sub (show zy_le [some (.int x0), some (.int x1), some (.int x2), some (.int (((4 : Int32) * x1) + x5)), some (.int y0), some (.int x5), none] [some (.int x0), some (.int x1), some (.int x2), some (.int (((4 : Int32) * x1) + x5)), some (.int y0), some (.int x5), some (.int y0)] from ⟨rfl, ⟨rfl, ⟨rfl, ⟨rfl, ⟨rfl, ⟨rfl, trivial⟩⟩⟩⟩⟩⟩) (zyC207_64 hk8 h)
noncomputable def zyF207_8b  (k8 : Int32 → Int32 → Int32 → Int32 → Int32 → Int32 → zy_S → Option (Int32 × zy_S)) (x0 : Int32) (x1 : Int32) (x2 : Int32) (x3 : Int32) (x4 : Int32) (x5 : Int32) (s : zy_S) : Option (Int32 × zy_S) :=
if (4 : Int32) ≤ x5 then
some (x3, s)
else
if x5 ≤ x2 then
zyF207_31 k8 x0 x1 x2 x3 x4 x5 (x2 - x5) s
else
zyF207_31 k8 x0 x1 x2 x3 x4 x5 (x5 - x2) s
theorem zyC207_8b {X : zx_X}  {k8 : Int32 → Int32 → Int32 → Int32 → Int32 → Int32 → zy_S → Option (Int32 × zy_S)}  (hk8 : ∀ (x0 : Int32) (x1 : Int32) (x2 : Int32) (x3 : Int32) (x4 : Int32) (x5 : Int32) (s : zy_S) (r : Int32) (s' : zy_S), k8 x0 x1 x2 x3 x4 x5 s = some (r, s') → zyR X 2 207 8 [some (.int x0), some (.int x1), some (.int x2), some (.int x3), some (.int x4), some (.int x5), none] [] s (zyE (some (.int r)) s')) {x0 : Int32} {x1 : Int32} {x2 : Int32} {x3 : Int32} {x4 : Int32} {x5 : Int32} {s : zy_S} {r : Int32} {s' : zy_S}  (h : zyF207_8b k8 x0 x1 x2 x3 x4 x5 s = some (r, s')) : zyR X 2 207 8 [some (.int x0), some (.int x1), some (.int x2), some (.int x3), some (.int x4), some (.int x5), none] [] s (zyE (some (.int r)) s') := by
  unfold zyF207_8b at h
  refine zy_2 rfl rfl (show zyR _ _ _ _ [some (.int x0), some (.int x1), some (.int x2), some (.int x3), some (.int x4), some (.int x5), none] [.int x5] _ _ from ?_)
  refine zy_3 rfl rfl (show zyR _ _ _ _ [some (.int x0), some (.int x1), some (.int x2), some (.int x3), some (.int x4), some (.int x5), none] [.int (4 : Int32), .int x5] _ _ from ?_)
  refine zy_25_3 rfl (fun b5 => (show zyR _ _ _ _ [some (.int x0), some (.int x1), some (.int x2), some (.int x3), some (.int x4), some (.int x5), none] [] _ _ from ?_)) (fun b5 => (show zyR _ _ _ _ [some (.int x0), some (.int x1), some (.int x2), some (.int x3), some (.int x4), some (.int x5), none] [] _ _ from ?_))
  · replace h := zy_ifp h b5
    refine zy_2 rfl rfl (show zyR _ _ _ _ [some (.int x0), some (.int x1), some (.int x2), some (.int x3), some (.int x4), some (.int x5), none] [.int x3] _ _ from ?_)
    obtain ⟨rfl, rfl⟩ := zy_pi h
    exact zy_4 rfl ⟨rfl, rfl⟩
  · replace h := zy_ifn h b5
    refine zy_2 rfl rfl (show zyR _ _ _ _ [some (.int x0), some (.int x1), some (.int x2), some (.int x3), some (.int x4), some (.int x5), none] [.int x5] _ _ from ?_)
    refine zy_2 rfl rfl (show zyR _ _ _ _ [some (.int x0), some (.int x1), some (.int x2), some (.int x3), some (.int x4), some (.int x5), none] [.int x2, .int x5] _ _ from ?_)
    refine zy_25_5 rfl (fun b4 => (show zyR _ _ _ _ [some (.int x0), some (.int x1), some (.int x2), some (.int x3), some (.int x4), some (.int x5), none] [] _ _ from ?_)) (fun b4 => (show zyR _ _ _ _ [some (.int x0), some (.int x1), some (.int x2), some (.int x3), some (.int x4), some (.int x5), none] [] _ _ from ?_))
    · replace h := zy_ifp h b4
      refine zy_2 rfl rfl (show zyR _ _ _ _ [some (.int x0), some (.int x1), some (.int x2), some (.int x3), some (.int x4), some (.int x5), none] [.int x2] _ _ from ?_)
      refine zy_2 rfl rfl (show zyR _ _ _ _ [some (.int x0), some (.int x1), some (.int x2), some (.int x3), some (.int x4), some (.int x5), none] [.int x5, .int x2] _ _ from ?_)
      refine zy_11 rfl (show zyR _ _ _ _ [some (.int x0), some (.int x1), some (.int x2), some (.int x3), some (.int x4), some (.int x5), none] [.int (x2 - x5)] _ _ from ?_)
      exact zy_sub (show zy_le [some (.int x0), some (.int x1), some (.int x2), some (.int x3), some (.int x4), some (.int x5), none] [some (.int x0), some (.int x1), some (.int x2), some (.int x3), some (.int x4), some (.int x5), none] from ⟨rfl, ⟨rfl, ⟨rfl, ⟨rfl, ⟨rfl, ⟨rfl, trivial⟩⟩⟩⟩⟩⟩) (zyC207_31 hk8 h)
    · replace h := zy_ifn h b4
      refine zy_2 rfl rfl (show zyR _ _ _ _ [some (.int x0), some (.int x1), some (.int x2), some (.int x3), some (.int x4), some (.int x5), none] [.int x5] _ _ from ?_)
      refine zy_2 rfl rfl (show zyR _ _ _ _ [some (.int x0), some (.int x1), some (.int x2), some (.int x3), some (.int x4), some (.int x5), none] [.int x2, .int x5] _ _ from ?_)
      refine zy_11 rfl (show zyR _ _ _ _ [some (.int x0), some (.int x1), some (.int x2), some (.int x3), some (.int x4), some (.int x5), none] [.int (x5 - x2)] _ _ from ?_)
      refine zy_6 rfl (show zyR _ _ _ _ [some (.int x0), some (.int x1), some (.int x2), some (.int x3), some (.int x4), some (.int x5), none] [.int (x5 - x2)] _ _ from ?_)
      exact zy_sub (show zy_le [some (.int x0), some (.int x1), some (.int x2), some (.int x3), some (.int x4), some (.int x5), none] [some (.int x0), some (.int x1), some (.int x2), some (.int x3), some (.int x4), some (.int x5), none] from ⟨rfl, ⟨rfl, ⟨rfl, ⟨rfl, ⟨rfl, ⟨rfl, trivial⟩⟩⟩⟩⟩⟩) (zyC207_31 hk8 h)
noncomputable def zyF207_8   (n : Nat) : Int32 → Int32 → Int32 → Int32 → Int32 → Int32 → zy_S → Option (Int32 × zy_S) := Nat.rec (fun _ _ _ _ _ _ _ => none) (fun _ k8 => zyF207_8b k8) n
theorem zyC207_8 {X : zx_X}     : ∀ (n : Nat) (x0 : Int32) (x1 : Int32) (x2 : Int32) (x3 : Int32) (x4 : Int32) (x5 : Int32) (s : zy_S) (r : Int32) (s' : zy_S), zyF207_8 n x0 x1 x2 x3 x4 x5 s = some (r, s') → zyR X 2 207 8 [some (.int x0), some (.int x1), some (.int x2), some (.int x3), some (.int x4), some (.int x5), none] [] s (zyE (some (.int r)) s')
  | 0, _, _, _, _, _, _ => by
    intro s r s'  h
    have h : (none : Option (Int32 × zy_S)) = some (r, s') := h
    cases h
  | n + 1, x0, x1, x2, x3, x4, x5 => by
    intro s r s'  h
    exact zyC207_8b (k8 := zyF207_8 n) (fun x0 x1 x2 x3 x4 x5 s r s'  h => zyC207_8  n x0 x1 x2 x3 x4 x5 s r s'  h) h
noncomputable def zyF207   (x0 : Int32) (x1 : Int32) (x2 : Int32) (s : zy_S) : Option (Int32 × zy_S) :=
zyF207_8 zy_fu x0 x1 x2 (-1 : Int32) (4 : Int32) (0 : Int32) s
theorem zyC207 {X : zx_X}     {x0 : Int32} {x1 : Int32} {x2 : Int32} {s : zy_S} {r : Int32} {s' : zy_S}  (h : zyF207 x0 x1 x2 s = some (r, s')) : zyR X 2 207 0 [some (.int x0), some (.int x1), some (.int x2), none, none, none, none] [] s (zyE (some (.int r)) s') := by
  unfold zyF207 at h
  refine zy_3 rfl rfl (show zyR _ _ _ _ [some (.int x0), some (.int x1), some (.int x2), none, none, none, none] [.int (-1 : Int32)] _ _ from ?_)
  refine zy_23 rfl rfl (show zyR _ _ _ _ [some (.int x0), some (.int x1), some (.int x2), some (.int (-1 : Int32)), none, none, none] [] _ _ from ?_)
  refine zy_3 rfl rfl (show zyR _ _ _ _ [some (.int x0), some (.int x1), some (.int x2), some (.int (-1 : Int32)), none, none, none] [.int (4 : Int32)] _ _ from ?_)
  refine zy_23 rfl rfl (show zyR _ _ _ _ [some (.int x0), some (.int x1), some (.int x2), some (.int (-1 : Int32)), some (.int (4 : Int32)), none, none] [] _ _ from ?_)
  refine zy_3 rfl rfl (show zyR _ _ _ _ [some (.int x0), some (.int x1), some (.int x2), some (.int (-1 : Int32)), some (.int (4 : Int32)), none, none] [.int (0 : Int32)] _ _ from ?_)
  refine zy_23 rfl rfl (show zyR _ _ _ _ [some (.int x0), some (.int x1), some (.int x2), some (.int (-1 : Int32)), some (.int (4 : Int32)), some (.int (0 : Int32)), none] [] _ _ from ?_)
  exact zy_sub (show zy_le [some (.int x0), some (.int x1), some (.int x2), some (.int (-1 : Int32)), some (.int (4 : Int32)), some (.int (0 : Int32)), none] [some (.int x0), some (.int x1), some (.int x2), some (.int (-1 : Int32)), some (.int (4 : Int32)), some (.int (0 : Int32)), none] from ⟨rfl, ⟨rfl, ⟨rfl, ⟨rfl, ⟨rfl, ⟨rfl, trivial⟩⟩⟩⟩⟩⟩) (zyC207_8 zy_fu x0 x1 x2 (-1 : Int32) (4 : Int32) (0 : Int32) s _ _ h)
end
section
/-! PART 41.35: methods as functions. Made by wip/v4/dcp.py. -/
/-! NineOpinionsModel.mindsOf(III)I -/
noncomputable def zyF204_155   (x8 : Int32) (s : zy_S) : Option (Int32 × zy_S) :=
if 0 ≤ x8 then
if x8 ≤ (99 : Int32) then
some (x8, s)
else
some ((99 : Int32), s)
else
some ((0 : Int32), s)
theorem zyC204_155 {X : zx_X}     {x8 : Int32} {s : zy_S} {r : Int32} {s' : zy_S}  (h : zyF204_155 x8 s = some (r, s')) : zyR X 104 204 155 [none, none, none, none, none, none, none, none, some (.int x8)] [] s (zyE (some (.int r)) s') := by
  unfold zyF204_155 at h
  refine zy_2 rfl rfl (show zyR _ _ _ _ [none, none, none, none, none, none, none, none, some (.int x8)] [.int x8] _ _ from ?_)
  refine zy_24_3 rfl (fun b2 => (show zyR _ _ _ _ [none, none, none, none, none, none, none, none, some (.int x8)] [] _ _ from ?_)) (fun b2 => (show zyR _ _ _ _ [none, none, none, none, none, none, none, none, some (.int x8)] [] _ _ from ?_))
  · replace h := zy_ifp h b2
    refine zy_2 rfl rfl (show zyR _ _ _ _ [none, none, none, none, none, none, none, none, some (.int x8)] [.int x8] _ _ from ?_)
    refine zy_3 rfl rfl (show zyR _ _ _ _ [none, none, none, none, none, none, none, none, some (.int x8)] [.int (99 : Int32), .int x8] _ _ from ?_)
    refine zy_25_5 rfl (fun b1 => (show zyR _ _ _ _ [none, none, none, none, none, none, none, none, some (.int x8)] [] _ _ from ?_)) (fun b1 => (show zyR _ _ _ _ [none, none, none, none, none, none, none, none, some (.int x8)] [] _ _ from ?_))
    · replace h := zy_ifp h b1
      refine zy_2 rfl rfl (show zyR _ _ _ _ [none, none, none, none, none, none, none, none, some (.int x8)] [.int x8] _ _ from ?_)
      obtain ⟨rfl, rfl⟩ := zy_pi h
      exact zy_4 rfl ⟨rfl, rfl⟩
    · replace h := zy_ifn h b1
      refine zy_3 rfl rfl (show zyR _ _ _ _ [none, none, none, none, none, none, none, none, some (.int x8)] [.int (99 : Int32)] _ _ from ?_)
      refine zy_6 rfl (show zyR _ _ _ _ [none, none, none, none, none, none, none, none, some (.int x8)] [.int (99 : Int32)] _ _ from ?_)
      obtain ⟨rfl, rfl⟩ := zy_pi h
      exact zy_4 rfl ⟨rfl, rfl⟩
  · replace h := zy_ifn h b2
    refine zy_3 rfl rfl (show zyR _ _ _ _ [none, none, none, none, none, none, none, none, some (.int x8)] [.int (0 : Int32)] _ _ from ?_)
    refine zy_6 rfl (show zyR _ _ _ _ [none, none, none, none, none, none, none, none, some (.int x8)] [.int (0 : Int32)] _ _ from ?_)
    obtain ⟨rfl, rfl⟩ := zy_pi h
    exact zy_4 rfl ⟨rfl, rfl⟩
noncomputable def zyF204_118   (x2 : Int32) (x3 : Int32) (x4 : Int32) (y0 : Int32) (y1 : Int32) (s : zy_S) : Option (Int32 × zy_S) :=
if zy_in y1 6 then
(zyF209 ((x3 >>> (((4 : Int32) * x2) &&& 31)) &&& (15 : Int32)) (zy_up s 50 (y1).toNatClampNeg y0)).bind fun p4 =>
(zyF191 (0 : Int32) (p4.2.1 43 11) (zy_up (zy_up p4.2 50 4 p4.1) 50 5 x4)).bind fun p5 =>
zyF204_155 p5.1 p5.2
else none
theorem zyC204_118 {X : zx_X}     {x2 : Int32} {x3 : Int32} {x4 : Int32} {y0 : Int32} {y1 : Int32} {s : zy_S} {r : Int32} {s' : zy_S}  (h : zyF204_118 x2 x3 x4 y0 y1 s = some (r, s')) : zyR X 104 204 118 [some (.ref (43 + 3)), none, some (.int x2), some (.int x3), some (.int x4), none, none, none, none] [.int y0, .int y1, .ref (50 + 3)] s (zyE (some (.int r)) s') := by
  unfold zyF204_118 at h
  obtain ⟨c3, h⟩ := zy_if h
  refine zy_27 (c := 50) rfl rfl c3 (show zyR _ _ _ _ [some (.ref (43 + 3)), none, some (.int x2), some (.int x3), some (.int x4), none, none, none, none] [] _ _ from ?_)
  refine zy_0 rfl rfl (show zyR _ _ _ _ [some (.ref (43 + 3)), none, some (.int x2), some (.int x3), some (.int x4), none, none, none, none] [.ref (43 + 3)] _ _ from ?_)
  refine zy_1r (c := 43) rfl rfl rfl (show zyR _ _ _ _ [some (.ref (43 + 3)), none, some (.int x2), some (.int x3), some (.int x4), none, none, none, none] [.ref (50 + 3)] _ _ from ?_)
  refine zy_3 rfl rfl (show zyR _ _ _ _ [some (.ref (43 + 3)), none, some (.int x2), some (.int x3), some (.int x4), none, none, none, none] [.int (4 : Int32), .ref (50 + 3)] _ _ from ?_)
  refine zy_2 rfl rfl (show zyR _ _ _ _ [some (.ref (43 + 3)), none, some (.int x2), some (.int x3), some (.int x4), none, none, none, none] [.int x3, .int (4 : Int32), .ref (50 + 3)] _ _ from ?_)
  refine zy_3 rfl rfl (show zyR _ _ _ _ [some (.ref (43 + 3)), none, some (.int x2), some (.int x3), some (.int x4), none, none, none, none] [.int (4 : Int32), .int x3, .int (4 : Int32), .ref (50 + 3)] _ _ from ?_)
  refine zy_2 rfl rfl (show zyR _ _ _ _ [some (.ref (43 + 3)), none, some (.int x2), some (.int x3), some (.int x4), none, none, none, none] [.int x2, .int (4 : Int32), .int x3, .int (4 : Int32), .ref (50 + 3)] _ _ from ?_)
  refine zy_12 rfl (show zyR _ _ _ _ [some (.ref (43 + 3)), none, some (.int x2), some (.int x3), some (.int x4), none, none, none, none] [.int ((4 : Int32) * x2), .int x3, .int (4 : Int32), .ref (50 + 3)] _ _ from ?_)
  refine zy_17 rfl (show zyR _ _ _ _ [some (.ref (43 + 3)), none, some (.int x2), some (.int x3), some (.int x4), none, none, none, none] [.int (x3 >>> (((4 : Int32) * x2) &&& 31)), .int (4 : Int32), .ref (50 + 3)] _ _ from ?_)
  refine zy_3 rfl rfl (show zyR _ _ _ _ [some (.ref (43 + 3)), none, some (.int x2), some (.int x3), some (.int x4), none, none, none, none] [.int (15 : Int32), .int (x3 >>> (((4 : Int32) * x2) &&& 31)), .int (4 : Int32), .ref (50 + 3)] _ _ from ?_)
  refine zy_13 rfl (show zyR _ _ _ _ [some (.ref (43 + 3)), none, some (.int x2), some (.int x3), some (.int x4), none, none, none, none] [.int ((x3 >>> (((4 : Int32) * x2) &&& 31)) &&& (15 : Int32)), .int (4 : Int32), .ref (50 + 3)] _ _ from ?_)
  obtain ⟨p4, hp4, h⟩ := zy_bind h
  refine zy_60 (as := [.int ((x3 >>> (((4 : Int32) * x2) &&& 31)) &&& (15 : Int32))]) (rest := [.int (4 : Int32), .ref (50 + 3)]) (L := [some (.int ((x3 >>> (((4 : Int32) * x2) &&& 31)) &&& (15 : Int32))), none, none]) (d' := 1) rfl rfl (Nat.le_of_ble_eq_true rfl) (Nat.le_of_ble_eq_true rfl) rfl (Nat.le_of_ble_eq_true rfl) rfl rfl (zyC209 hp4) ?_
  show zyR _ _ _ _ [some (.ref (43 + 3)), none, some (.int x2), some (.int x3), some (.int x4), none, none, none, none] [.int p4.1, .int (4 : Int32), .ref (50 + 3)] _ _
  refine zy_27 (c := 50) rfl rfl (by decide) (show zyR _ _ _ _ [some (.ref (43 + 3)), none, some (.int x2), some (.int x3), some (.int x4), none, none, none, none] [] _ _ from ?_)
  refine zy_0 rfl rfl (show zyR _ _ _ _ [some (.ref (43 + 3)), none, some (.int x2), some (.int x3), some (.int x4), none, none, none, none] [.ref (43 + 3)] _ _ from ?_)
  refine zy_1r (c := 43) rfl rfl rfl (show zyR _ _ _ _ [some (.ref (43 + 3)), none, some (.int x2), some (.int x3), some (.int x4), none, none, none, none] [.ref (50 + 3)] _ _ from ?_)
  refine zy_3 rfl rfl (show zyR _ _ _ _ [some (.ref (43 + 3)), none, some (.int x2), some (.int x3), some (.int x4), none, none, none, none] [.int (5 : Int32), .ref (50 + 3)] _ _ from ?_)
  refine zy_2 rfl rfl (show zyR _ _ _ _ [some (.ref (43 + 3)), none, some (.int x2), some (.int x3), some (.int x4), none, none, none, none] [.int x4, .int (5 : Int32), .ref (50 + 3)] _ _ from ?_)
  refine zy_27 (c := 50) rfl rfl (by decide) (show zyR _ _ _ _ [some (.ref (43 + 3)), none, some (.int x2), some (.int x3), some (.int x4), none, none, none, none] [] _ _ from ?_)
  refine zy_0 rfl rfl (show zyR _ _ _ _ [some (.ref (43 + 3)), none, some (.int x2), some (.int x3), some (.int x4), none, none, none, none] [.ref (43 + 3)] _ _ from ?_)
  refine zy_3 rfl rfl (show zyR _ _ _ _ [some (.ref (43 + 3)), none, some (.int x2), some (.int x3), some (.int x4), none, none, none, none] [.int (0 : Int32), .ref (43 + 3)] _ _ from ?_)
  refine zy_0 rfl rfl (show zyR _ _ _ _ [some (.ref (43 + 3)), none, some (.int x2), some (.int x3), some (.int x4), none, none, none, none] [.ref (43 + 3), .int (0 : Int32), .ref (43 + 3)] _ _ from ?_)
  refine zy_1 (c := 43) rfl rfl rfl (show zyR _ _ _ _ [some (.ref (43 + 3)), none, some (.int x2), some (.int x3), some (.int x4), none, none, none, none] [.int (p4.2.1 43 11), .int (0 : Int32), .ref (43 + 3)] _ _ from ?_)
  obtain ⟨p5, hp5, h⟩ := zy_bind h
  refine zy_5 (c := 43) (as := [.int (0 : Int32), .int (p4.2.1 43 11)]) (rest := []) (L := [some (.ref (43 + 3)), some (.int (0 : Int32)), some (.int (p4.2.1 43 11)), none, none, none, none, none]) (d' := 103) rfl rfl rfl (Nat.le_of_ble_eq_true rfl) (Nat.le_of_ble_eq_true rfl) rfl (Nat.le_of_ble_eq_true rfl) rfl rfl (zyC191 hp5) ?_
  show zyR _ _ _ _ [some (.ref (43 + 3)), none, some (.int x2), some (.int x3), some (.int x4), none, none, none, none] [.int p5.1] _ _
  refine zy_23 rfl rfl (show zyR _ _ _ _ [some (.ref (43 + 3)), none, some (.int x2), some (.int x3), some (.int x4), none, none, none, some (.int p5.1)] [] _ _ from ?_)
  exact zy_sub (show zy_le [none, none, none, none, none, none, none, none, some (.int p5.1)] [some (.ref (43 + 3)), none, some (.int x2), some (.int x3), some (.int x4), none, none, none, some (.int p5.1)] from ⟨rfl, trivial⟩) (zyC204_155 h)
noncomputable def zyF204_54   (x1 : Int32) (x2 : Int32) (x3 : Int32) (x4 : Int32) (x5 : Int32) (y0 : Int32) (s : zy_S) : Option (Int32 × zy_S) :=
if (s.1 43 11) < 0 then
zyF204_155 y0 s
else
if zy_in ((8 : Int32) + x1) 41 then
if 0 ≤ x5 then
if zy_in x5 24 then
zyF204_118 x2 x3 x4 (s.1 51 (x5).toNatClampNeg) (3 : Int32) (zy_up (zy_up (zy_up s 50 0 y0) 50 1 (s.1 44 (((8 : Int32) + x1)).toNatClampNeg)) 50 2 x2)
else none
else
zyF204_118 x2 x3 x4 (0 : Int32) (3 : Int32) (zy_up (zy_up (zy_up s 50 0 y0) 50 1 (s.1 44 (((8 : Int32) + x1)).toNatClampNeg)) 50 2 x2)
else none
theorem zyC204_54 {X : zx_X}     {x1 : Int32} {x2 : Int32} {x3 : Int32} {x4 : Int32} {x5 : Int32} {y0 : Int32} {s : zy_S} {r : Int32} {s' : zy_S}  (h : zyF204_54 x1 x2 x3 x4 x5 y0 s = some (r, s')) : zyR X 104 204 54 [some (.ref (43 + 3)), some (.int x1), some (.int x2), some (.int x3), some (.int x4), some (.int x5), none, none, none] [.int y0] s (zyE (some (.int r)) s') := by
  unfold zyF204_54 at h
  refine zy_23 rfl rfl (show zyR _ _ _ _ [some (.ref (43 + 3)), some (.int x1), some (.int x2), some (.int x3), some (.int x4), some (.int x5), none, some (.int y0), none] [] _ _ from ?_)
  refine zy_2 rfl rfl (show zyR _ _ _ _ [some (.ref (43 + 3)), some (.int x1), some (.int x2), some (.int x3), some (.int x4), some (.int x5), none, some (.int y0), none] [.int y0] _ _ from ?_)
  refine zy_23 rfl rfl (show zyR _ _ _ _ [some (.ref (43 + 3)), some (.int x1), some (.int x2), some (.int x3), some (.int x4), some (.int x5), none, some (.int y0), some (.int y0)] [] _ _ from ?_)
  refine zy_0 rfl rfl (show zyR _ _ _ _ [some (.ref (43 + 3)), some (.int x1), some (.int x2), some (.int x3), some (.int x4), some (.int x5), none, some (.int y0), some (.int y0)] [.ref (43 + 3)] _ _ from ?_)
  refine zy_1 (c := 43) rfl rfl rfl (show zyR _ _ _ _ [some (.ref (43 + 3)), some (.int x1), some (.int x2), some (.int x3), some (.int x4), some (.int x5), none, some (.int y0), some (.int y0)] [.int (s.1 43 11)] _ _ from ?_)
  refine zy_24_2 rfl (fun b9 => (show zyR _ _ _ _ [some (.ref (43 + 3)), some (.int x1), some (.int x2), some (.int x3), some (.int x4), some (.int x5), none, some (.int y0), some (.int y0)] [] _ _ from ?_)) (fun b9 => (show zyR _ _ _ _ [some (.ref (43 + 3)), some (.int x1), some (.int x2), some (.int x3), some (.int x4), some (.int x5), none, some (.int y0), some (.int y0)] [] _ _ from ?_))
  · replace h := zy_ifp h b9
    exact zy_sub (show zy_le [none, none, none, none, none, none, none, none, some (.int y0)] [some (.ref (43 + 3)), some (.int x1), some (.int x2), some (.int x3), some (.int x4), some (.int x5), none, some (.int y0), some (.int y0)] from ⟨rfl, trivial⟩) (zyC204_155 h)
  · replace h := zy_ifn h b9
    refine zy_0 rfl rfl (show zyR _ _ _ _ [some (.ref (43 + 3)), some (.int x1), some (.int x2), some (.int x3), some (.int x4), some (.int x5), none, some (.int y0), some (.int y0)] [.ref (43 + 3)] _ _ from ?_)
    refine zy_1r (c := 43) rfl rfl rfl (show zyR _ _ _ _ [some (.ref (43 + 3)), some (.int x1), some (.int x2), some (.int x3), some (.int x4), some (.int x5), none, some (.int y0), some (.int y0)] [.ref (50 + 3)] _ _ from ?_)
    refine zy_3 rfl rfl (show zyR _ _ _ _ [some (.ref (43 + 3)), some (.int x1), some (.int x2), some (.int x3), some (.int x4), some (.int x5), none, some (.int y0), some (.int y0)] [.int (0 : Int32), .ref (50 + 3)] _ _ from ?_)
    refine zy_2 rfl rfl (show zyR _ _ _ _ [some (.ref (43 + 3)), some (.int x1), some (.int x2), some (.int x3), some (.int x4), some (.int x5), none, some (.int y0), some (.int y0)] [.int y0, .int (0 : Int32), .ref (50 + 3)] _ _ from ?_)
    refine zy_27 (c := 50) rfl rfl (by decide) (show zyR _ _ _ _ [some (.ref (43 + 3)), some (.int x1), some (.int x2), some (.int x3), some (.int x4), some (.int x5), none, some (.int y0), some (.int y0)] [] _ _ from ?_)
    refine zy_0 rfl rfl (show zyR _ _ _ _ [some (.ref (43 + 3)), some (.int x1), some (.int x2), some (.int x3), some (.int x4), some (.int x5), none, some (.int y0), some (.int y0)] [.ref (43 + 3)] _ _ from ?_)
    refine zy_1r (c := 43) rfl rfl rfl (show zyR _ _ _ _ [some (.ref (43 + 3)), some (.int x1), some (.int x2), some (.int x3), some (.int x4), some (.int x5), none, some (.int y0), some (.int y0)] [.ref (50 + 3)] _ _ from ?_)
    refine zy_3 rfl rfl (show zyR _ _ _ _ [some (.ref (43 + 3)), some (.int x1), some (.int x2), some (.int x3), some (.int x4), some (.int x5), none, some (.int y0), some (.int y0)] [.int (1 : Int32), .ref (50 + 3)] _ _ from ?_)
    refine zy_0 rfl rfl (show zyR _ _ _ _ [some (.ref (43 + 3)), some (.int x1), some (.int x2), some (.int x3), some (.int x4), some (.int x5), none, some (.int y0), some (.int y0)] [.ref (43 + 3), .int (1 : Int32), .ref (50 + 3)] _ _ from ?_)
    refine zy_1r (c := 43) rfl rfl rfl (show zyR _ _ _ _ [some (.ref (43 + 3)), some (.int x1), some (.int x2), some (.int x3), some (.int x4), some (.int x5), none, some (.int y0), some (.int y0)] [.ref (44 + 3), .int (1 : Int32), .ref (50 + 3)] _ _ from ?_)
    refine zy_3 rfl rfl (show zyR _ _ _ _ [some (.ref (43 + 3)), some (.int x1), some (.int x2), some (.int x3), some (.int x4), some (.int x5), none, some (.int y0), some (.int y0)] [.int (8 : Int32), .ref (44 + 3), .int (1 : Int32), .ref (50 + 3)] _ _ from ?_)
    refine zy_2 rfl rfl (show zyR _ _ _ _ [some (.ref (43 + 3)), some (.int x1), some (.int x2), some (.int x3), some (.int x4), some (.int x5), none, some (.int y0), some (.int y0)] [.int x1, .int (8 : Int32), .ref (44 + 3), .int (1 : Int32), .ref (50 + 3)] _ _ from ?_)
    refine zy_10 rfl (show zyR _ _ _ _ [some (.ref (43 + 3)), some (.int x1), some (.int x2), some (.int x3), some (.int x4), some (.int x5), none, some (.int y0), some (.int y0)] [.int ((8 : Int32) + x1), .ref (44 + 3), .int (1 : Int32), .ref (50 + 3)] _ _ from ?_)
    obtain ⟨c6, h⟩ := zy_if h
    refine zy_26 (c := 44) rfl rfl c6 (show zyR _ _ _ _ [some (.ref (43 + 3)), some (.int x1), some (.int x2), some (.int x3), some (.int x4), some (.int x5), none, some (.int y0), some (.int y0)] [.int (s.1 44 (((8 : Int32) + x1)).toNatClampNeg), .int (1 : Int32), .ref (50 + 3)] _ _ from ?_)
    refine zy_27 (c := 50) rfl rfl (by decide) (show zyR _ _ _ _ [some (.ref (43 + 3)), some (.int x1), some (.int x2), some (.int x3), some (.int x4), some (.int x5), none, some (.int y0), some (.int y0)] [] _ _ from ?_)
    refine zy_0 rfl rfl (show zyR _ _ _ _ [some (.ref (43 + 3)), some (.int x1), some (.int x2), some (.int x3), some (.int x4), some (.int x5), none, some (.int y0), some (.int y0)] [.ref (43 + 3)] _ _ from ?_)
    refine zy_1r (c := 43) rfl rfl rfl (show zyR _ _ _ _ [some (.ref (43 + 3)), some (.int x1), some (.int x2), some (.int x3), some (.int x4), some (.int x5), none, some (.int y0), some (.int y0)] [.ref (50 + 3)] _ _ from ?_)
    refine zy_3 rfl rfl (show zyR _ _ _ _ [some (.ref (43 + 3)), some (.int x1), some (.int x2), some (.int x3), some (.int x4), some (.int x5), none, some (.int y0), some (.int y0)] [.int (2 : Int32), .ref (50 + 3)] _ _ from ?_)
    refine zy_2 rfl rfl (show zyR _ _ _ _ [some (.ref (43 + 3)), some (.int x1), some (.int x2), some (.int x3), some (.int x4), some (.int x5), none, some (.int y0), some (.int y0)] [.int x2, .int (2 : Int32), .ref (50 + 3)] _ _ from ?_)
    refine zy_27 (c := 50) rfl rfl (by decide) (show zyR _ _ _ _ [some (.ref (43 + 3)), some (.int x1), some (.int x2), some (.int x3), some (.int x4), some (.int x5), none, some (.int y0), some (.int y0)] [] _ _ from ?_)
    refine zy_0 rfl rfl (show zyR _ _ _ _ [some (.ref (43 + 3)), some (.int x1), some (.int x2), some (.int x3), some (.int x4), some (.int x5), none, some (.int y0), some (.int y0)] [.ref (43 + 3)] _ _ from ?_)
    refine zy_1r (c := 43) rfl rfl rfl (show zyR _ _ _ _ [some (.ref (43 + 3)), some (.int x1), some (.int x2), some (.int x3), some (.int x4), some (.int x5), none, some (.int y0), some (.int y0)] [.ref (50 + 3)] _ _ from ?_)
    refine zy_3 rfl rfl (show zyR _ _ _ _ [some (.ref (43 + 3)), some (.int x1), some (.int x2), some (.int x3), some (.int x4), some (.int x5), none, some (.int y0), some (.int y0)] [.int (3 : Int32), .ref (50 + 3)] _ _ from ?_)
    refine zy_2 rfl rfl (show zyR _ _ _ _ [some (.ref (43 + 3)), some (.int x1), some (.int x2), some (.int x3), some (.int x4), some (.int x5), none, some (.int y0), some (.int y0)] [.int x5, .int (3 : Int32), .ref (50 + 3)] _ _ from ?_)
    refine zy_24_3 rfl (fun b8 => (show zyR _ _ _ _ [some (.ref (43 + 3)), some (.int x1), some (.int x2), some (.int x3), some (.int x4), some (.int x5), none, some (.int y0), some (.int y0)] [.int (3 : Int32), .ref (50 + 3)] _ _ from ?_)) (fun b8 => (show zyR _ _ _ _ [some (.ref (43 + 3)), some (.int x1), some (.int x2), some (.int x3), some (.int x4), some (.int x5), none, some (.int y0), some (.int y0)] [.int (3 : Int32), .ref (50 + 3)] _ _ from ?_))
    · replace h := zy_ifp h b8
      refine zy_0 rfl rfl (show zyR _ _ _ _ [some (.ref (43 + 3)), some (.int x1), some (.int x2), some (.int x3), some (.int x4), some (.int x5), none, some (.int y0), some (.int y0)] [.ref (43 + 3), .int (3 : Int32), .ref (50 + 3)] _ _ from ?_)
      refine zy_1r (c := 43) rfl rfl rfl (show zyR _ _ _ _ [some (.ref (43 + 3)), some (.int x1), some (.int x2), some (.int x3), some (.int x4), some (.int x5), none, some (.int y0), some (.int y0)] [.ref (51 + 3), .int (3 : Int32), .ref (50 + 3)] _ _ from ?_)
      refine zy_2 rfl rfl (show zyR _ _ _ _ [some (.ref (43 + 3)), some (.int x1), some (.int x2), some (.int x3), some (.int x4), some (.int x5), none, some (.int y0), some (.int y0)] [.int x5, .ref (51 + 3), .int (3 : Int32), .ref (50 + 3)] _ _ from ?_)
      obtain ⟨c7, h⟩ := zy_if h
      refine zy_26 (c := 51) rfl rfl c7 (show zyR _ _ _ _ [some (.ref (43 + 3)), some (.int x1), some (.int x2), some (.int x3), some (.int x4), some (.int x5), none, some (.int y0), some (.int y0)] [.int (s.1 51 (x5).toNatClampNeg), .int (3 : Int32), .ref (50 + 3)] _ _ from ?_)
      exact zy_sub (show zy_le [some (.ref (43 + 3)), none, some (.int x2), some (.int x3), some (.int x4), none, none, none, none] [some (.ref (43 + 3)), some (.int x1), some (.int x2), some (.int x3), some (.int x4), some (.int x5), none, some (.int y0), some (.int y0)] from ⟨rfl, ⟨rfl, ⟨rfl, ⟨rfl, trivial⟩⟩⟩⟩) (zyC204_118 h)
    · replace h := zy_ifn h b8
      refine zy_3 rfl rfl (show zyR _ _ _ _ [some (.ref (43 + 3)), some (.int x1), some (.int x2), some (.int x3), some (.int x4), some (.int x5), none, some (.int y0), some (.int y0)] [.int (0 : Int32), .int (3 : Int32), .ref (50 + 3)] _ _ from ?_)
      refine zy_6 rfl (show zyR _ _ _ _ [some (.ref (43 + 3)), some (.int x1), some (.int x2), some (.int x3), some (.int x4), some (.int x5), none, some (.int y0), some (.int y0)] [.int (0 : Int32), .int (3 : Int32), .ref (50 + 3)] _ _ from ?_)
      exact zy_sub (show zy_le [some (.ref (43 + 3)), none, some (.int x2), some (.int x3), some (.int x4), none, none, none, none] [some (.ref (43 + 3)), some (.int x1), some (.int x2), some (.int x3), some (.int x4), some (.int x5), none, some (.int y0), some (.int y0)] from ⟨rfl, ⟨rfl, ⟨rfl, ⟨rfl, trivial⟩⟩⟩⟩) (zyC204_118 h)
noncomputable def zyF204   (x1 : Int32) (x2 : Int32) (x3 : Int32) (s : zy_S) : Option (Int32 × zy_S) :=
(zyF205 x1 x2 s).bind fun p10 =>
(zyF207 x3 x2 p10.1 p10.2).bind fun p11 =>
if 0 ≤ p11.1 then
if (p11.1 - ((4 : Int32) * x2)) ≤ p10.1 then
zyF204_54 x1 x2 x3 p10.1 p11.1 (p10.1 - (p11.1 - ((4 : Int32) * x2))) p11.2
else
zyF204_54 x1 x2 x3 p10.1 p11.1 ((p11.1 - ((4 : Int32) * x2)) - p10.1) p11.2
else
zyF204_54 x1 x2 x3 p10.1 p11.1 (4 : Int32) p11.2
theorem zyC204 {X : zx_X}     {x1 : Int32} {x2 : Int32} {x3 : Int32} {s : zy_S} {r : Int32} {s' : zy_S}  (h : zyF204 x1 x2 x3 s = some (r, s')) : zyR X 104 204 0 [some (.ref (43 + 3)), some (.int x1), some (.int x2), some (.int x3), none, none, none, none, none] [] s (zyE (some (.int r)) s') := by
  unfold zyF204 at h
  refine zy_0 rfl rfl (show zyR _ _ _ _ [some (.ref (43 + 3)), some (.int x1), some (.int x2), some (.int x3), none, none, none, none, none] [.ref (43 + 3)] _ _ from ?_)
  refine zy_2 rfl rfl (show zyR _ _ _ _ [some (.ref (43 + 3)), some (.int x1), some (.int x2), some (.int x3), none, none, none, none, none] [.int x1, .ref (43 + 3)] _ _ from ?_)
  refine zy_2 rfl rfl (show zyR _ _ _ _ [some (.ref (43 + 3)), some (.int x1), some (.int x2), some (.int x3), none, none, none, none, none] [.int x2, .int x1, .ref (43 + 3)] _ _ from ?_)
  obtain ⟨p10, hp10, h⟩ := zy_bind h
  refine zy_5 (c := 43) (as := [.int x1, .int x2]) (rest := []) (L := [some (.ref (43 + 3)), some (.int x1), some (.int x2)]) (d' := 2) rfl rfl rfl (Nat.le_of_ble_eq_true rfl) (Nat.le_of_ble_eq_true rfl) rfl (Nat.le_of_ble_eq_true rfl) rfl rfl (zyC205 hp10) ?_
  show zyR _ _ _ _ [some (.ref (43 + 3)), some (.int x1), some (.int x2), some (.int x3), none, none, none, none, none] [.int p10.1] _ _
  refine zy_23 rfl rfl (show zyR _ _ _ _ [some (.ref (43 + 3)), some (.int x1), some (.int x2), some (.int x3), some (.int p10.1), none, none, none, none] [] _ _ from ?_)
  refine zy_2 rfl rfl (show zyR _ _ _ _ [some (.ref (43 + 3)), some (.int x1), some (.int x2), some (.int x3), some (.int p10.1), none, none, none, none] [.int x3] _ _ from ?_)
  refine zy_2 rfl rfl (show zyR _ _ _ _ [some (.ref (43 + 3)), some (.int x1), some (.int x2), some (.int x3), some (.int p10.1), none, none, none, none] [.int x2, .int x3] _ _ from ?_)
  refine zy_2 rfl rfl (show zyR _ _ _ _ [some (.ref (43 + 3)), some (.int x1), some (.int x2), some (.int x3), some (.int p10.1), none, none, none, none] [.int p10.1, .int x2, .int x3] _ _ from ?_)
  obtain ⟨p11, hp11, h⟩ := zy_bind h
  refine zy_60 (as := [.int x3, .int x2, .int p10.1]) (rest := []) (L := [some (.int x3), some (.int x2), some (.int p10.1), none, none, none, none]) (d' := 2) rfl rfl (Nat.le_of_ble_eq_true rfl) (Nat.le_of_ble_eq_true rfl) rfl (Nat.le_of_ble_eq_true rfl) rfl rfl (zyC207 hp11) ?_
  show zyR _ _ _ _ [some (.ref (43 + 3)), some (.int x1), some (.int x2), some (.int x3), some (.int p10.1), none, none, none, none] [.int p11.1] _ _
  refine zy_23 rfl rfl (show zyR _ _ _ _ [some (.ref (43 + 3)), some (.int x1), some (.int x2), some (.int x3), some (.int p10.1), some (.int p11.1), none, none, none] [] _ _ from ?_)
  refine zy_2 rfl rfl (show zyR _ _ _ _ [some (.ref (43 + 3)), some (.int x1), some (.int x2), some (.int x3), some (.int p10.1), some (.int p11.1), none, none, none] [.int p11.1] _ _ from ?_)
  refine zy_3 rfl rfl (show zyR _ _ _ _ [some (.ref (43 + 3)), some (.int x1), some (.int x2), some (.int x3), some (.int p10.1), some (.int p11.1), none, none, none] [.int (4 : Int32), .int p11.1] _ _ from ?_)
  refine zy_2 rfl rfl (show zyR _ _ _ _ [some (.ref (43 + 3)), some (.int x1), some (.int x2), some (.int x3), some (.int p10.1), some (.int p11.1), none, none, none] [.int x2, .int (4 : Int32), .int p11.1] _ _ from ?_)
  refine zy_12 rfl (show zyR _ _ _ _ [some (.ref (43 + 3)), some (.int x1), some (.int x2), some (.int x3), some (.int p10.1), some (.int p11.1), none, none, none] [.int ((4 : Int32) * x2), .int p11.1] _ _ from ?_)
  refine zy_11 rfl (show zyR _ _ _ _ [some (.ref (43 + 3)), some (.int x1), some (.int x2), some (.int x3), some (.int p10.1), some (.int p11.1), none, none, none] [.int (p11.1 - ((4 : Int32) * x2))] _ _ from ?_)
  refine zy_23 rfl rfl (show zyR _ _ _ _ [some (.ref (43 + 3)), some (.int x1), some (.int x2), some (.int x3), some (.int p10.1), some (.int p11.1), some (.int (p11.1 - ((4 : Int32) * x2))), none, none] [] _ _ from ?_)
  refine zy_2 rfl rfl (show zyR _ _ _ _ [some (.ref (43 + 3)), some (.int x1), some (.int x2), some (.int x3), some (.int p10.1), some (.int p11.1), some (.int (p11.1 - ((4 : Int32) * x2))), none, none] [.int p11.1] _ _ from ?_)
  refine zy_24_3 rfl (fun b13 => (show zyR _ _ _ _ [some (.ref (43 + 3)), some (.int x1), some (.int x2), some (.int x3), some (.int p10.1), some (.int p11.1), some (.int (p11.1 - ((4 : Int32) * x2))), none, none] [] _ _ from ?_)) (fun b13 => (show zyR _ _ _ _ [some (.ref (43 + 3)), some (.int x1), some (.int x2), some (.int x3), some (.int p10.1), some (.int p11.1), some (.int (p11.1 - ((4 : Int32) * x2))), none, none] [] _ _ from ?_))
  · replace h := zy_ifp h b13
    refine zy_2 rfl rfl (show zyR _ _ _ _ [some (.ref (43 + 3)), some (.int x1), some (.int x2), some (.int x3), some (.int p10.1), some (.int p11.1), some (.int (p11.1 - ((4 : Int32) * x2))), none, none] [.int (p11.1 - ((4 : Int32) * x2))] _ _ from ?_)
    refine zy_2 rfl rfl (show zyR _ _ _ _ [some (.ref (43 + 3)), some (.int x1), some (.int x2), some (.int x3), some (.int p10.1), some (.int p11.1), some (.int (p11.1 - ((4 : Int32) * x2))), none, none] [.int p10.1, .int (p11.1 - ((4 : Int32) * x2))] _ _ from ?_)
    refine zy_25_5 rfl (fun b12 => (show zyR _ _ _ _ [some (.ref (43 + 3)), some (.int x1), some (.int x2), some (.int x3), some (.int p10.1), some (.int p11.1), some (.int (p11.1 - ((4 : Int32) * x2))), none, none] [] _ _ from ?_)) (fun b12 => (show zyR _ _ _ _ [some (.ref (43 + 3)), some (.int x1), some (.int x2), some (.int x3), some (.int p10.1), some (.int p11.1), some (.int (p11.1 - ((4 : Int32) * x2))), none, none] [] _ _ from ?_))
    · replace h := zy_ifp h b12
      refine zy_2 rfl rfl (show zyR _ _ _ _ [some (.ref (43 + 3)), some (.int x1), some (.int x2), some (.int x3), some (.int p10.1), some (.int p11.1), some (.int (p11.1 - ((4 : Int32) * x2))), none, none] [.int p10.1] _ _ from ?_)
      refine zy_2 rfl rfl (show zyR _ _ _ _ [some (.ref (43 + 3)), some (.int x1), some (.int x2), some (.int x3), some (.int p10.1), some (.int p11.1), some (.int (p11.1 - ((4 : Int32) * x2))), none, none] [.int (p11.1 - ((4 : Int32) * x2)), .int p10.1] _ _ from ?_)
      refine zy_11 rfl (show zyR _ _ _ _ [some (.ref (43 + 3)), some (.int x1), some (.int x2), some (.int x3), some (.int p10.1), some (.int p11.1), some (.int (p11.1 - ((4 : Int32) * x2))), none, none] [.int (p10.1 - (p11.1 - ((4 : Int32) * x2)))] _ _ from ?_)
      exact zy_sub (show zy_le [some (.ref (43 + 3)), some (.int x1), some (.int x2), some (.int x3), some (.int p10.1), some (.int p11.1), none, none, none] [some (.ref (43 + 3)), some (.int x1), some (.int x2), some (.int x3), some (.int p10.1), some (.int p11.1), some (.int (p11.1 - ((4 : Int32) * x2))), none, none] from ⟨rfl, ⟨rfl, ⟨rfl, ⟨rfl, ⟨rfl, ⟨rfl, trivial⟩⟩⟩⟩⟩⟩) (zyC204_54 h)
    · replace h := zy_ifn h b12
      refine zy_2 rfl rfl (show zyR _ _ _ _ [some (.ref (43 + 3)), some (.int x1), some (.int x2), some (.int x3), some (.int p10.1), some (.int p11.1), some (.int (p11.1 - ((4 : Int32) * x2))), none, none] [.int (p11.1 - ((4 : Int32) * x2))] _ _ from ?_)
      refine zy_2 rfl rfl (show zyR _ _ _ _ [some (.ref (43 + 3)), some (.int x1), some (.int x2), some (.int x3), some (.int p10.1), some (.int p11.1), some (.int (p11.1 - ((4 : Int32) * x2))), none, none] [.int p10.1, .int (p11.1 - ((4 : Int32) * x2))] _ _ from ?_)
      refine zy_11 rfl (show zyR _ _ _ _ [some (.ref (43 + 3)), some (.int x1), some (.int x2), some (.int x3), some (.int p10.1), some (.int p11.1), some (.int (p11.1 - ((4 : Int32) * x2))), none, none] [.int ((p11.1 - ((4 : Int32) * x2)) - p10.1)] _ _ from ?_)
      refine zy_6 rfl (show zyR _ _ _ _ [some (.ref (43 + 3)), some (.int x1), some (.int x2), some (.int x3), some (.int p10.1), some (.int p11.1), some (.int (p11.1 - ((4 : Int32) * x2))), none, none] [.int ((p11.1 - ((4 : Int32) * x2)) - p10.1)] _ _ from ?_)
      exact zy_sub (show zy_le [some (.ref (43 + 3)), some (.int x1), some (.int x2), some (.int x3), some (.int p10.1), some (.int p11.1), none, none, none] [some (.ref (43 + 3)), some (.int x1), some (.int x2), some (.int x3), some (.int p10.1), some (.int p11.1), some (.int (p11.1 - ((4 : Int32) * x2))), none, none] from ⟨rfl, ⟨rfl, ⟨rfl, ⟨rfl, ⟨rfl, ⟨rfl, trivial⟩⟩⟩⟩⟩⟩) (zyC204_54 h)
  · replace h := zy_ifn h b13
    refine zy_3 rfl rfl (show zyR _ _ _ _ [some (.ref (43 + 3)), some (.int x1), some (.int x2), some (.int x3), some (.int p10.1), some (.int p11.1), some (.int (p11.1 - ((4 : Int32) * x2))), none, none] [.int (4 : Int32)] _ _ from ?_)
    refine zy_6 rfl (show zyR _ _ _ _ [some (.ref (43 + 3)), some (.int x1), some (.int x2), some (.int x3), some (.int p10.1), some (.int p11.1), some (.int (p11.1 - ((4 : Int32) * x2))), none, none] [.int (4 : Int32)] _ _ from ?_)
    exact zy_sub (show zy_le [some (.ref (43 + 3)), some (.int x1), some (.int x2), some (.int x3), some (.int p10.1), some (.int p11.1), none, none, none] [some (.ref (43 + 3)), some (.int x1), some (.int x2), some (.int x3), some (.int p10.1), some (.int p11.1), some (.int (p11.1 - ((4 : Int32) * x2))), none, none] from ⟨rfl, ⟨rfl, ⟨rfl, ⟨rfl, ⟨rfl, ⟨rfl, trivial⟩⟩⟩⟩⟩⟩) (zyC204_54 h)
/-! NineOpinionsModel.minds(II)I -/
noncomputable def zyF202_98  (k38 : Int32 → Int32 → Int32 → Int32 → zy_S → Option (Int32 × zy_S)) (k50 : Int32 → Int32 → Int32 → Int32 → Int32 → zy_S → Option (Int32 × zy_S)) (x1 : Int32) (x2 : Int32) (x4 : Int32) (x5 : Int32) (y0 : Int32) (y1 : Int32) (s : zy_S) : Option (Int32 × zy_S) :=
k50 x1 x2 (y1 + y0) x4 (x5 + (1 : Int32)) s
theorem zyC202_98 {X : zx_X}  {k38 : Int32 → Int32 → Int32 → Int32 → zy_S → Option (Int32 × zy_S)} {k50 : Int32 → Int32 → Int32 → Int32 → Int32 → zy_S → Option (Int32 × zy_S)}  (hk38 : ∀ (x1 : Int32) (x2 : Int32) (x3 : Int32) (x4 : Int32) (s : zy_S) (r : Int32) (s' : zy_S), k38 x1 x2 x3 x4 s = some (r, s') → zyR X 105 202 38 [some (.ref (43 + 3)), some (.int x1), some (.int x2), some (.int x3), some (.int x4), none] [] s (zyE (some (.int r)) s')) (hk50 : ∀ (x1 : Int32) (x2 : Int32) (x3 : Int32) (x4 : Int32) (x5 : Int32) (s : zy_S) (r : Int32) (s' : zy_S), k50 x1 x2 x3 x4 x5 s = some (r, s') → zyR X 105 202 50 [some (.ref (43 + 3)), some (.int x1), some (.int x2), some (.int x3), some (.int x4), some (.int x5)] [] s (zyE (some (.int r)) s')) {x1 : Int32} {x2 : Int32} {x4 : Int32} {x5 : Int32} {y0 : Int32} {y1 : Int32} {s : zy_S} {r : Int32} {s' : zy_S}  (h : zyF202_98 k38 k50 x1 x2 x4 x5 y0 y1 s = some (r, s')) : zyR X 105 202 98 [some (.ref (43 + 3)), some (.int x1), some (.int x2), none, some (.int x4), some (.int x5)] [.int y0, .int y1] s (zyE (some (.int r)) s') := by
  unfold zyF202_98 at h
  refine zy_10 rfl (show zyR _ _ _ _ [some (.ref (43 + 3)), some (.int x1), some (.int x2), none, some (.int x4), some (.int x5)] [.int (y1 + y0)] _ _ from ?_)
  refine zy_23 rfl rfl (show zyR _ _ _ _ [some (.ref (43 + 3)), some (.int x1), some (.int x2), some (.int (y1 + y0)), some (.int x4), some (.int x5)] [] _ _ from ?_)
  refine zy_22 rfl rfl rfl rfl (show zyR _ _ _ _ [some (.ref (43 + 3)), some (.int x1), some (.int x2), some (.int (y1 + y0)), some (.int x4), some (.int (x5 + (1 : Int32)))] [] _ _ from ?_)
  refine zy_6 rfl (show zyR _ _ _ _ [some (.ref (43 + 3)), some (.int x1), some (.int x2), some (.int (y1 + y0)), some (.int x4), some (.int (x5 + (1 : Int32)))] [] _ _ from ?_)
  exact zy_sub (show zy_le [some (.ref (43 + 3)), some (.int x1), some (.int x2), some (.int (y1 + y0)), some (.int x4), some (.int (x5 + (1 : Int32)))] [some (.ref (43 + 3)), some (.int x1), some (.int x2), some (.int (y1 + y0)), some (.int x4), some (.int (x5 + (1 : Int32)))] from ⟨rfl, ⟨rfl, ⟨rfl, ⟨rfl, ⟨rfl, ⟨rfl, trivial⟩⟩⟩⟩⟩⟩) (hk50 x1 x2 (y1 + y0) x4 (x5 + (1 : Int32)) s _ _ h)
noncomputable def zyF202_97  (k38 : Int32 → Int32 → Int32 → Int32 → zy_S → Option (Int32 × zy_S)) (k50 : Int32 → Int32 → Int32 → Int32 → Int32 → zy_S → Option (Int32 × zy_S)) (x1 : Int32) (x2 : Int32) (x4 : Int32) (x5 : Int32) (y0 : Int32) (s : zy_S) : Option (Int32 × zy_S) :=
zyF202_98 k38 k50 x1 x2 x4 x5 (0 : Int32) y0 s
theorem zyC202_97 {X : zx_X}  {k38 : Int32 → Int32 → Int32 → Int32 → zy_S → Option (Int32 × zy_S)} {k50 : Int32 → Int32 → Int32 → Int32 → Int32 → zy_S → Option (Int32 × zy_S)}  (hk38 : ∀ (x1 : Int32) (x2 : Int32) (x3 : Int32) (x4 : Int32) (s : zy_S) (r : Int32) (s' : zy_S), k38 x1 x2 x3 x4 s = some (r, s') → zyR X 105 202 38 [some (.ref (43 + 3)), some (.int x1), some (.int x2), some (.int x3), some (.int x4), none] [] s (zyE (some (.int r)) s')) (hk50 : ∀ (x1 : Int32) (x2 : Int32) (x3 : Int32) (x4 : Int32) (x5 : Int32) (s : zy_S) (r : Int32) (s' : zy_S), k50 x1 x2 x3 x4 x5 s = some (r, s') → zyR X 105 202 50 [some (.ref (43 + 3)), some (.int x1), some (.int x2), some (.int x3), some (.int x4), some (.int x5)] [] s (zyE (some (.int r)) s')) {x1 : Int32} {x2 : Int32} {x4 : Int32} {x5 : Int32} {y0 : Int32} {s : zy_S} {r : Int32} {s' : zy_S}  (h : zyF202_97 k38 k50 x1 x2 x4 x5 y0 s = some (r, s')) : zyR X 105 202 97 [some (.ref (43 + 3)), some (.int x1), some (.int x2), none, some (.int x4), some (.int x5)] [.int y0] s (zyE (some (.int r)) s') := by
  unfold zyF202_97 at h
  refine zy_3 rfl rfl (show zyR _ _ _ _ [some (.ref (43 + 3)), some (.int x1), some (.int x2), none, some (.int x4), some (.int x5)] [.int (0 : Int32), .int y0] _ _ from ?_)
  exact zy_sub (show zy_le [some (.ref (43 + 3)), some (.int x1), some (.int x2), none, some (.int x4), some (.int x5)] [some (.ref (43 + 3)), some (.int x1), some (.int x2), none, some (.int x4), some (.int x5)] from ⟨rfl, ⟨rfl, ⟨rfl, ⟨rfl, ⟨rfl, trivial⟩⟩⟩⟩⟩) (zyC202_98 hk38 hk50 h)
noncomputable def zyF202_82  (k38 : Int32 → Int32 → Int32 → Int32 → zy_S → Option (Int32 × zy_S)) (k50 : Int32 → Int32 → Int32 → Int32 → Int32 → zy_S → Option (Int32 × zy_S)) (x1 : Int32) (x2 : Int32) (x4 : Int32) (x5 : Int32) (y0 : Int32) (s : zy_S) : Option (Int32 × zy_S) :=
(zyF204 x4 x5 (s.1 43 7) s).bind fun p1 =>
zyF202_98 k38 k50 x1 x2 x4 x5 p1.1 y0 p1.2
theorem zyC202_82 {X : zx_X}  {k38 : Int32 → Int32 → Int32 → Int32 → zy_S → Option (Int32 × zy_S)} {k50 : Int32 → Int32 → Int32 → Int32 → Int32 → zy_S → Option (Int32 × zy_S)}  (hk38 : ∀ (x1 : Int32) (x2 : Int32) (x3 : Int32) (x4 : Int32) (s : zy_S) (r : Int32) (s' : zy_S), k38 x1 x2 x3 x4 s = some (r, s') → zyR X 105 202 38 [some (.ref (43 + 3)), some (.int x1), some (.int x2), some (.int x3), some (.int x4), none] [] s (zyE (some (.int r)) s')) (hk50 : ∀ (x1 : Int32) (x2 : Int32) (x3 : Int32) (x4 : Int32) (x5 : Int32) (s : zy_S) (r : Int32) (s' : zy_S), k50 x1 x2 x3 x4 x5 s = some (r, s') → zyR X 105 202 50 [some (.ref (43 + 3)), some (.int x1), some (.int x2), some (.int x3), some (.int x4), some (.int x5)] [] s (zyE (some (.int r)) s')) {x1 : Int32} {x2 : Int32} {x4 : Int32} {x5 : Int32} {y0 : Int32} {s : zy_S} {r : Int32} {s' : zy_S}  (h : zyF202_82 k38 k50 x1 x2 x4 x5 y0 s = some (r, s')) : zyR X 105 202 82 [some (.ref (43 + 3)), some (.int x1), some (.int x2), none, some (.int x4), some (.int x5)] [.int y0] s (zyE (some (.int r)) s') := by
  unfold zyF202_82 at h
  refine zy_0 rfl rfl (show zyR _ _ _ _ [some (.ref (43 + 3)), some (.int x1), some (.int x2), none, some (.int x4), some (.int x5)] [.ref (43 + 3), .int y0] _ _ from ?_)
  refine zy_2 rfl rfl (show zyR _ _ _ _ [some (.ref (43 + 3)), some (.int x1), some (.int x2), none, some (.int x4), some (.int x5)] [.int x4, .ref (43 + 3), .int y0] _ _ from ?_)
  refine zy_2 rfl rfl (show zyR _ _ _ _ [some (.ref (43 + 3)), some (.int x1), some (.int x2), none, some (.int x4), some (.int x5)] [.int x5, .int x4, .ref (43 + 3), .int y0] _ _ from ?_)
  refine zy_0 rfl rfl (show zyR _ _ _ _ [some (.ref (43 + 3)), some (.int x1), some (.int x2), none, some (.int x4), some (.int x5)] [.ref (43 + 3), .int x5, .int x4, .ref (43 + 3), .int y0] _ _ from ?_)
  refine zy_1 (c := 43) rfl rfl rfl (show zyR _ _ _ _ [some (.ref (43 + 3)), some (.int x1), some (.int x2), none, some (.int x4), some (.int x5)] [.int (s.1 43 7), .int x5, .int x4, .ref (43 + 3), .int y0] _ _ from ?_)
  obtain ⟨p1, hp1, h⟩ := zy_bind h
  refine zy_5 (c := 43) (as := [.int x4, .int x5, .int (s.1 43 7)]) (rest := [.int y0]) (L := [some (.ref (43 + 3)), some (.int x4), some (.int x5), some (.int (s.1 43 7)), none, none, none, none, none]) (d' := 104) rfl rfl rfl (Nat.le_of_ble_eq_true rfl) (Nat.le_of_ble_eq_true rfl) rfl (Nat.le_of_ble_eq_true rfl) rfl rfl (zyC204 hp1) ?_
  show zyR _ _ _ _ [some (.ref (43 + 3)), some (.int x1), some (.int x2), none, some (.int x4), some (.int x5)] [.int p1.1, .int y0] _ _
  refine zy_6 rfl (show zyR _ _ _ _ [some (.ref (43 + 3)), some (.int x1), some (.int x2), none, some (.int x4), some (.int x5)] [.int p1.1, .int y0] _ _ from ?_)
  exact zy_sub (show zy_le [some (.ref (43 + 3)), some (.int x1), some (.int x2), none, some (.int x4), some (.int x5)] [some (.ref (43 + 3)), some (.int x1), some (.int x2), none, some (.int x4), some (.int x5)] from ⟨rfl, ⟨rfl, ⟨rfl, ⟨rfl, ⟨rfl, trivial⟩⟩⟩⟩⟩) (zyC202_98 hk38 hk50 h)
noncomputable def zyF202_70  (k38 : Int32 → Int32 → Int32 → Int32 → zy_S → Option (Int32 × zy_S)) (k50 : Int32 → Int32 → Int32 → Int32 → Int32 → zy_S → Option (Int32 × zy_S)) (x1 : Int32) (x2 : Int32) (x4 : Int32) (x5 : Int32) (y0 : Int32) (s : zy_S) : Option (Int32 × zy_S) :=
if x2 = (6 : Int32) then
zyF202_82 k38 k50 x1 x2 x4 x5 y0 s
else
if x2 ≠ x5 then
zyF202_97 k38 k50 x1 x2 x4 x5 y0 s
else
zyF202_82 k38 k50 x1 x2 x4 x5 y0 s
theorem zyC202_70 {X : zx_X}  {k38 : Int32 → Int32 → Int32 → Int32 → zy_S → Option (Int32 × zy_S)} {k50 : Int32 → Int32 → Int32 → Int32 → Int32 → zy_S → Option (Int32 × zy_S)}  (hk38 : ∀ (x1 : Int32) (x2 : Int32) (x3 : Int32) (x4 : Int32) (s : zy_S) (r : Int32) (s' : zy_S), k38 x1 x2 x3 x4 s = some (r, s') → zyR X 105 202 38 [some (.ref (43 + 3)), some (.int x1), some (.int x2), some (.int x3), some (.int x4), none] [] s (zyE (some (.int r)) s')) (hk50 : ∀ (x1 : Int32) (x2 : Int32) (x3 : Int32) (x4 : Int32) (x5 : Int32) (s : zy_S) (r : Int32) (s' : zy_S), k50 x1 x2 x3 x4 x5 s = some (r, s') → zyR X 105 202 50 [some (.ref (43 + 3)), some (.int x1), some (.int x2), some (.int x3), some (.int x4), some (.int x5)] [] s (zyE (some (.int r)) s')) {x1 : Int32} {x2 : Int32} {x4 : Int32} {x5 : Int32} {y0 : Int32} {s : zy_S} {r : Int32} {s' : zy_S}  (h : zyF202_70 k38 k50 x1 x2 x4 x5 y0 s = some (r, s')) : zyR X 105 202 70 [some (.ref (43 + 3)), some (.int x1), some (.int x2), none, some (.int x4), some (.int x5)] [.int y0] s (zyE (some (.int r)) s') := by
  unfold zyF202_70 at h
  refine zy_2 rfl rfl (show zyR _ _ _ _ [some (.ref (43 + 3)), some (.int x1), some (.int x2), none, some (.int x4), some (.int x5)] [.int x2, .int y0] _ _ from ?_)
  refine zy_3 rfl rfl (show zyR _ _ _ _ [some (.ref (43 + 3)), some (.int x1), some (.int x2), none, some (.int x4), some (.int x5)] [.int (6 : Int32), .int x2, .int y0] _ _ from ?_)
  refine zy_25_0 rfl (fun b3 => (show zyR _ _ _ _ [some (.ref (43 + 3)), some (.int x1), some (.int x2), none, some (.int x4), some (.int x5)] [.int y0] _ _ from ?_)) (fun b3 => (show zyR _ _ _ _ [some (.ref (43 + 3)), some (.int x1), some (.int x2), none, some (.int x4), some (.int x5)] [.int y0] _ _ from ?_))
  · replace h := zy_ifp h b3
    exact zy_sub (show zy_le [some (.ref (43 + 3)), some (.int x1), some (.int x2), none, some (.int x4), some (.int x5)] [some (.ref (43 + 3)), some (.int x1), some (.int x2), none, some (.int x4), some (.int x5)] from ⟨rfl, ⟨rfl, ⟨rfl, ⟨rfl, ⟨rfl, trivial⟩⟩⟩⟩⟩) (zyC202_82 hk38 hk50 h)
  · replace h := zy_ifn h b3
    refine zy_2 rfl rfl (show zyR _ _ _ _ [some (.ref (43 + 3)), some (.int x1), some (.int x2), none, some (.int x4), some (.int x5)] [.int x2, .int y0] _ _ from ?_)
    refine zy_2 rfl rfl (show zyR _ _ _ _ [some (.ref (43 + 3)), some (.int x1), some (.int x2), none, some (.int x4), some (.int x5)] [.int x5, .int x2, .int y0] _ _ from ?_)
    refine zy_25_1 rfl (fun b2 => (show zyR _ _ _ _ [some (.ref (43 + 3)), some (.int x1), some (.int x2), none, some (.int x4), some (.int x5)] [.int y0] _ _ from ?_)) (fun b2 => (show zyR _ _ _ _ [some (.ref (43 + 3)), some (.int x1), some (.int x2), none, some (.int x4), some (.int x5)] [.int y0] _ _ from ?_))
    · replace h := zy_ifp h b2
      exact zy_sub (show zy_le [some (.ref (43 + 3)), some (.int x1), some (.int x2), none, some (.int x4), some (.int x5)] [some (.ref (43 + 3)), some (.int x1), some (.int x2), none, some (.int x4), some (.int x5)] from ⟨rfl, ⟨rfl, ⟨rfl, ⟨rfl, ⟨rfl, trivial⟩⟩⟩⟩⟩) (zyC202_97 hk38 hk50 h)
    · replace h := zy_ifn h b2
      exact zy_sub (show zy_le [some (.ref (43 + 3)), some (.int x1), some (.int x2), none, some (.int x4), some (.int x5)] [some (.ref (43 + 3)), some (.int x1), some (.int x2), none, some (.int x4), some (.int x5)] from ⟨rfl, ⟨rfl, ⟨rfl, ⟨rfl, ⟨rfl, trivial⟩⟩⟩⟩⟩) (zyC202_82 hk38 hk50 h)
noncomputable def zyF202_50b  (k38 : Int32 → Int32 → Int32 → Int32 → zy_S → Option (Int32 × zy_S)) (k50 : Int32 → Int32 → Int32 → Int32 → Int32 → zy_S → Option (Int32 × zy_S)) (x1 : Int32) (x2 : Int32) (x3 : Int32) (x4 : Int32) (x5 : Int32) (s : zy_S) : Option (Int32 × zy_S) :=
if (6 : Int32) ≤ x5 then
k38 x1 x2 x3 (x4 + (1 : Int32)) s
else
if x1 = (8 : Int32) then
zyF202_70 k38 k50 x1 x2 x4 x5 x3 s
else
if x1 ≠ x4 then
zyF202_97 k38 k50 x1 x2 x4 x5 x3 s
else
zyF202_70 k38 k50 x1 x2 x4 x5 x3 s
theorem zyC202_50b {X : zx_X}  {k38 : Int32 → Int32 → Int32 → Int32 → zy_S → Option (Int32 × zy_S)} {k50 : Int32 → Int32 → Int32 → Int32 → Int32 → zy_S → Option (Int32 × zy_S)}  (hk38 : ∀ (x1 : Int32) (x2 : Int32) (x3 : Int32) (x4 : Int32) (s : zy_S) (r : Int32) (s' : zy_S), k38 x1 x2 x3 x4 s = some (r, s') → zyR X 105 202 38 [some (.ref (43 + 3)), some (.int x1), some (.int x2), some (.int x3), some (.int x4), none] [] s (zyE (some (.int r)) s')) (hk50 : ∀ (x1 : Int32) (x2 : Int32) (x3 : Int32) (x4 : Int32) (x5 : Int32) (s : zy_S) (r : Int32) (s' : zy_S), k50 x1 x2 x3 x4 x5 s = some (r, s') → zyR X 105 202 50 [some (.ref (43 + 3)), some (.int x1), some (.int x2), some (.int x3), some (.int x4), some (.int x5)] [] s (zyE (some (.int r)) s')) {x1 : Int32} {x2 : Int32} {x3 : Int32} {x4 : Int32} {x5 : Int32} {s : zy_S} {r : Int32} {s' : zy_S}  (h : zyF202_50b k38 k50 x1 x2 x3 x4 x5 s = some (r, s')) : zyR X 105 202 50 [some (.ref (43 + 3)), some (.int x1), some (.int x2), some (.int x3), some (.int x4), some (.int x5)] [] s (zyE (some (.int r)) s') := by
  unfold zyF202_50b at h
  refine zy_2 rfl rfl (show zyR _ _ _ _ [some (.ref (43 + 3)), some (.int x1), some (.int x2), some (.int x3), some (.int x4), some (.int x5)] [.int x5] _ _ from ?_)
  refine zy_3 rfl rfl (show zyR _ _ _ _ [some (.ref (43 + 3)), some (.int x1), some (.int x2), some (.int x3), some (.int x4), some (.int x5)] [.int (6 : Int32), .int x5] _ _ from ?_)
  refine zy_25_3 rfl (fun b6 => (show zyR _ _ _ _ [some (.ref (43 + 3)), some (.int x1), some (.int x2), some (.int x3), some (.int x4), some (.int x5)] [] _ _ from ?_)) (fun b6 => (show zyR _ _ _ _ [some (.ref (43 + 3)), some (.int x1), some (.int x2), some (.int x3), some (.int x4), some (.int x5)] [] _ _ from ?_))
  · replace h := zy_ifp h b6
    refine zy_22 rfl rfl rfl rfl (show zyR _ _ _ _ [some (.ref (43 + 3)), some (.int x1), some (.int x2), some (.int x3), some (.int (x4 + (1 : Int32))), some (.int x5)] [] _ _ from ?_)
    refine zy_6 rfl (show zyR _ _ _ _ [some (.ref (43 + 3)), some (.int x1), some (.int x2), some (.int x3), some (.int (x4 + (1 : Int32))), some (.int x5)] [] _ _ from ?_)
    exact zy_sub (show zy_le [some (.ref (43 + 3)), some (.int x1), some (.int x2), some (.int x3), some (.int (x4 + (1 : Int32))), none] [some (.ref (43 + 3)), some (.int x1), some (.int x2), some (.int x3), some (.int (x4 + (1 : Int32))), some (.int x5)] from ⟨rfl, ⟨rfl, ⟨rfl, ⟨rfl, ⟨rfl, trivial⟩⟩⟩⟩⟩) (hk38 x1 x2 x3 (x4 + (1 : Int32)) s _ _ h)
  · replace h := zy_ifn h b6
    refine zy_2 rfl rfl (show zyR _ _ _ _ [some (.ref (43 + 3)), some (.int x1), some (.int x2), some (.int x3), some (.int x4), some (.int x5)] [.int x3] _ _ from ?_)
    refine zy_2 rfl rfl (show zyR _ _ _ _ [some (.ref (43 + 3)), some (.int x1), some (.int x2), some (.int x3), some (.int x4), some (.int x5)] [.int x1, .int x3] _ _ from ?_)
    refine zy_3 rfl rfl (show zyR _ _ _ _ [some (.ref (43 + 3)), some (.int x1), some (.int x2), some (.int x3), some (.int x4), some (.int x5)] [.int (8 : Int32), .int x1, .int x3] _ _ from ?_)
    refine zy_25_0 rfl (fun b5 => (show zyR _ _ _ _ [some (.ref (43 + 3)), some (.int x1), some (.int x2), some (.int x3), some (.int x4), some (.int x5)] [.int x3] _ _ from ?_)) (fun b5 => (show zyR _ _ _ _ [some (.ref (43 + 3)), some (.int x1), some (.int x2), some (.int x3), some (.int x4), some (.int x5)] [.int x3] _ _ from ?_))
    · replace h := zy_ifp h b5
      exact zy_sub (show zy_le [some (.ref (43 + 3)), some (.int x1), some (.int x2), none, some (.int x4), some (.int x5)] [some (.ref (43 + 3)), some (.int x1), some (.int x2), some (.int x3), some (.int x4), some (.int x5)] from ⟨rfl, ⟨rfl, ⟨rfl, ⟨rfl, ⟨rfl, trivial⟩⟩⟩⟩⟩) (zyC202_70 hk38 hk50 h)
    · replace h := zy_ifn h b5
      refine zy_2 rfl rfl (show zyR _ _ _ _ [some (.ref (43 + 3)), some (.int x1), some (.int x2), some (.int x3), some (.int x4), some (.int x5)] [.int x1, .int x3] _ _ from ?_)
      refine zy_2 rfl rfl (show zyR _ _ _ _ [some (.ref (43 + 3)), some (.int x1), some (.int x2), some (.int x3), some (.int x4), some (.int x5)] [.int x4, .int x1, .int x3] _ _ from ?_)
      refine zy_25_1 rfl (fun b4 => (show zyR _ _ _ _ [some (.ref (43 + 3)), some (.int x1), some (.int x2), some (.int x3), some (.int x4), some (.int x5)] [.int x3] _ _ from ?_)) (fun b4 => (show zyR _ _ _ _ [some (.ref (43 + 3)), some (.int x1), some (.int x2), some (.int x3), some (.int x4), some (.int x5)] [.int x3] _ _ from ?_))
      · replace h := zy_ifp h b4
        exact zy_sub (show zy_le [some (.ref (43 + 3)), some (.int x1), some (.int x2), none, some (.int x4), some (.int x5)] [some (.ref (43 + 3)), some (.int x1), some (.int x2), some (.int x3), some (.int x4), some (.int x5)] from ⟨rfl, ⟨rfl, ⟨rfl, ⟨rfl, ⟨rfl, trivial⟩⟩⟩⟩⟩) (zyC202_97 hk38 hk50 h)
      · replace h := zy_ifn h b4
        exact zy_sub (show zy_le [some (.ref (43 + 3)), some (.int x1), some (.int x2), none, some (.int x4), some (.int x5)] [some (.ref (43 + 3)), some (.int x1), some (.int x2), some (.int x3), some (.int x4), some (.int x5)] from ⟨rfl, ⟨rfl, ⟨rfl, ⟨rfl, ⟨rfl, trivial⟩⟩⟩⟩⟩) (zyC202_70 hk38 hk50 h)
noncomputable def zyF202_50  (k38 : Int32 → Int32 → Int32 → Int32 → zy_S → Option (Int32 × zy_S)) (n : Nat) : Int32 → Int32 → Int32 → Int32 → Int32 → zy_S → Option (Int32 × zy_S) := Nat.rec (fun _ _ _ _ _ _ => none) (fun _ k50 => zyF202_50b k38 k50) n
theorem zyC202_50 {X : zx_X}  {k38 : Int32 → Int32 → Int32 → Int32 → zy_S → Option (Int32 × zy_S)}  (hk38 : ∀ (x1 : Int32) (x2 : Int32) (x3 : Int32) (x4 : Int32) (s : zy_S) (r : Int32) (s' : zy_S), k38 x1 x2 x3 x4 s = some (r, s') → zyR X 105 202 38 [some (.ref (43 + 3)), some (.int x1), some (.int x2), some (.int x3), some (.int x4), none] [] s (zyE (some (.int r)) s')) : ∀ (n : Nat) (x1 : Int32) (x2 : Int32) (x3 : Int32) (x4 : Int32) (x5 : Int32) (s : zy_S) (r : Int32) (s' : zy_S), zyF202_50 k38 n x1 x2 x3 x4 x5 s = some (r, s') → zyR X 105 202 50 [some (.ref (43 + 3)), some (.int x1), some (.int x2), some (.int x3), some (.int x4), some (.int x5)] [] s (zyE (some (.int r)) s')
  | 0, _, _, _, _, _ => by
    intro s r s'  h
    have h : (none : Option (Int32 × zy_S)) = some (r, s') := h
    cases h
  | n + 1, x1, x2, x3, x4, x5 => by
    intro s r s'  h
    exact zyC202_50b (k50 := zyF202_50 k38 n) hk38 (fun x1 x2 x3 x4 x5 s r s'  h => zyC202_50 hk38 n x1 x2 x3 x4 x5 s r s'  h) h
noncomputable def zyF202_38b  (k38 : Int32 → Int32 → Int32 → Int32 → zy_S → Option (Int32 × zy_S)) (x1 : Int32) (x2 : Int32) (x3 : Int32) (x4 : Int32) (s : zy_S) : Option (Int32 × zy_S) :=
if (s.1 43 6) ≤ x4 then
some (x3, s)
else
zyF202_50 k38 zy_fu x1 x2 x3 x4 (0 : Int32) s
theorem zyC202_38b {X : zx_X}  {k38 : Int32 → Int32 → Int32 → Int32 → zy_S → Option (Int32 × zy_S)}  (hk38 : ∀ (x1 : Int32) (x2 : Int32) (x3 : Int32) (x4 : Int32) (s : zy_S) (r : Int32) (s' : zy_S), k38 x1 x2 x3 x4 s = some (r, s') → zyR X 105 202 38 [some (.ref (43 + 3)), some (.int x1), some (.int x2), some (.int x3), some (.int x4), none] [] s (zyE (some (.int r)) s')) {x1 : Int32} {x2 : Int32} {x3 : Int32} {x4 : Int32} {s : zy_S} {r : Int32} {s' : zy_S}  (h : zyF202_38b k38 x1 x2 x3 x4 s = some (r, s')) : zyR X 105 202 38 [some (.ref (43 + 3)), some (.int x1), some (.int x2), some (.int x3), some (.int x4), none] [] s (zyE (some (.int r)) s') := by
  unfold zyF202_38b at h
  refine zy_2 rfl rfl (show zyR _ _ _ _ [some (.ref (43 + 3)), some (.int x1), some (.int x2), some (.int x3), some (.int x4), none] [.int x4] _ _ from ?_)
  refine zy_0 rfl rfl (show zyR _ _ _ _ [some (.ref (43 + 3)), some (.int x1), some (.int x2), some (.int x3), some (.int x4), none] [.ref (43 + 3), .int x4] _ _ from ?_)
  refine zy_1 (c := 43) rfl rfl rfl (show zyR _ _ _ _ [some (.ref (43 + 3)), some (.int x1), some (.int x2), some (.int x3), some (.int x4), none] [.int (s.1 43 6), .int x4] _ _ from ?_)
  refine zy_25_3 rfl (fun b7 => (show zyR _ _ _ _ [some (.ref (43 + 3)), some (.int x1), some (.int x2), some (.int x3), some (.int x4), none] [] _ _ from ?_)) (fun b7 => (show zyR _ _ _ _ [some (.ref (43 + 3)), some (.int x1), some (.int x2), some (.int x3), some (.int x4), none] [] _ _ from ?_))
  · replace h := zy_ifp h b7
    refine zy_2 rfl rfl (show zyR _ _ _ _ [some (.ref (43 + 3)), some (.int x1), some (.int x2), some (.int x3), some (.int x4), none] [.int x3] _ _ from ?_)
    obtain ⟨rfl, rfl⟩ := zy_pi h
    exact zy_4 rfl ⟨rfl, rfl⟩
  · replace h := zy_ifn h b7
    refine zy_3 rfl rfl (show zyR _ _ _ _ [some (.ref (43 + 3)), some (.int x1), some (.int x2), some (.int x3), some (.int x4), none] [.int (0 : Int32)] _ _ from ?_)
    refine zy_23 rfl rfl (show zyR _ _ _ _ [some (.ref (43 + 3)), some (.int x1), some (.int x2), some (.int x3), some (.int x4), some (.int (0 : Int32))] [] _ _ from ?_)
    exact zy_sub (show zy_le [some (.ref (43 + 3)), some (.int x1), some (.int x2), some (.int x3), some (.int x4), some (.int (0 : Int32))] [some (.ref (43 + 3)), some (.int x1), some (.int x2), some (.int x3), some (.int x4), some (.int (0 : Int32))] from ⟨rfl, ⟨rfl, ⟨rfl, ⟨rfl, ⟨rfl, ⟨rfl, trivial⟩⟩⟩⟩⟩⟩) (zyC202_50 hk38 zy_fu x1 x2 x3 x4 (0 : Int32) s _ _ h)
noncomputable def zyF202_38   (n : Nat) : Int32 → Int32 → Int32 → Int32 → zy_S → Option (Int32 × zy_S) := Nat.rec (fun _ _ _ _ _ => none) (fun _ k38 => zyF202_38b k38) n
theorem zyC202_38 {X : zx_X}     : ∀ (n : Nat) (x1 : Int32) (x2 : Int32) (x3 : Int32) (x4 : Int32) (s : zy_S) (r : Int32) (s' : zy_S), zyF202_38 n x1 x2 x3 x4 s = some (r, s') → zyR X 105 202 38 [some (.ref (43 + 3)), some (.int x1), some (.int x2), some (.int x3), some (.int x4), none] [] s (zyE (some (.int r)) s')
  | 0, _, _, _, _ => by
    intro s r s'  h
    have h : (none : Option (Int32 × zy_S)) = some (r, s') := h
    cases h
  | n + 1, x1, x2, x3, x4 => by
    intro s r s'  h
    exact zyC202_38b (k38 := zyF202_38 n) (fun x1 x2 x3 x4 s r s'  h => zyC202_38  n x1 x2 x3 x4 s r s'  h) h
noncomputable def zyF202_15   (x1 : Int32) (x2 : Int32) (s : zy_S) : Option (Int32 × zy_S) :=
(zyF179 (x2).toInt64 (0 : Int64) (6 : Int64) s).bind fun p8 =>
if p8.1 ≠ 0 then
(zyF203 p8.2).bind fun p9 =>
zyF202_38 zy_fu x1 x2 (0 : Int32) (0 : Int32) p9.2
else
some ((-1 : Int32), p8.2)
theorem zyC202_15 {X : zx_X}     {x1 : Int32} {x2 : Int32} {s : zy_S} {r : Int32} {s' : zy_S}  (h : zyF202_15 x1 x2 s = some (r, s')) : zyR X 105 202 15 [some (.ref (43 + 3)), some (.int x1), some (.int x2), none, none, none] [] s (zyE (some (.int r)) s') := by
  unfold zyF202_15 at h
  refine zy_2 rfl rfl (show zyR _ _ _ _ [some (.ref (43 + 3)), some (.int x1), some (.int x2), none, none, none] [.int x2] _ _ from ?_)
  refine zy_40 rfl (show zyR _ _ _ _ [some (.ref (43 + 3)), some (.int x1), some (.int x2), none, none, none] [.long (x2).toInt64] _ _ from ?_)
  refine zy_36 rfl rfl (show zyR _ _ _ _ [some (.ref (43 + 3)), some (.int x1), some (.int x2), none, none, none] [.long (0 : Int64), .long (x2).toInt64] _ _ from ?_)
  refine zy_36c rfl rfl (show zyR _ _ _ _ [some (.ref (43 + 3)), some (.int x1), some (.int x2), none, none, none] [.long (6 : Int64), .long (0 : Int64), .long (x2).toInt64] _ _ from ?_)
  obtain ⟨p8, hp8, h⟩ := zy_bind h
  refine zy_60 (as := [.long (x2).toInt64, .long (0 : Int64), .long (6 : Int64)]) (rest := []) (L := [some (.long (x2).toInt64), none, some (.long (0 : Int64)), none, some (.long (6 : Int64)), none]) (d' := 1) rfl rfl (Nat.le_of_ble_eq_true rfl) (Nat.le_of_ble_eq_true rfl) rfl (Nat.le_of_ble_eq_true rfl) rfl rfl (zyC179 hp8) ?_
  show zyR _ _ _ _ [some (.ref (43 + 3)), some (.int x1), some (.int x2), none, none, none] [.int p8.1] _ _
  refine zy_24_1 rfl (fun b10 => (show zyR _ _ _ _ [some (.ref (43 + 3)), some (.int x1), some (.int x2), none, none, none] [] _ _ from ?_)) (fun b10 => (show zyR _ _ _ _ [some (.ref (43 + 3)), some (.int x1), some (.int x2), none, none, none] [] _ _ from ?_))
  · replace h := zy_ifp h b10
    refine zy_0 rfl rfl (show zyR _ _ _ _ [some (.ref (43 + 3)), some (.int x1), some (.int x2), none, none, none] [.ref (43 + 3)] _ _ from ?_)
    obtain ⟨p9, hp9, h⟩ := zy_bind h
    refine zy_5 (c := 43) (as := []) (rest := []) (L := [some (.ref (43 + 3)), none]) (d' := 1) rfl rfl rfl (Nat.le_of_ble_eq_true rfl) (Nat.le_of_ble_eq_true rfl) rfl (Nat.le_of_ble_eq_true rfl) rfl rfl (zyC203 hp9) ?_
    show zyR _ _ _ _ [some (.ref (43 + 3)), some (.int x1), some (.int x2), none, none, none] [] _ _
    refine zy_3 rfl rfl (show zyR _ _ _ _ [some (.ref (43 + 3)), some (.int x1), some (.int x2), none, none, none] [.int (0 : Int32)] _ _ from ?_)
    refine zy_23 rfl rfl (show zyR _ _ _ _ [some (.ref (43 + 3)), some (.int x1), some (.int x2), some (.int (0 : Int32)), none, none] [] _ _ from ?_)
    refine zy_3 rfl rfl (show zyR _ _ _ _ [some (.ref (43 + 3)), some (.int x1), some (.int x2), some (.int (0 : Int32)), none, none] [.int (0 : Int32)] _ _ from ?_)
    refine zy_23 rfl rfl (show zyR _ _ _ _ [some (.ref (43 + 3)), some (.int x1), some (.int x2), some (.int (0 : Int32)), some (.int (0 : Int32)), none] [] _ _ from ?_)
    exact zy_sub (show zy_le [some (.ref (43 + 3)), some (.int x1), some (.int x2), some (.int (0 : Int32)), some (.int (0 : Int32)), none] [some (.ref (43 + 3)), some (.int x1), some (.int x2), some (.int (0 : Int32)), some (.int (0 : Int32)), none] from ⟨rfl, ⟨rfl, ⟨rfl, ⟨rfl, ⟨rfl, trivial⟩⟩⟩⟩⟩) (zyC202_38 zy_fu x1 x2 (0 : Int32) (0 : Int32) p9.2 _ _ h)
  · replace h := zy_ifn h b10
    refine zy_3 rfl rfl (show zyR _ _ _ _ [some (.ref (43 + 3)), some (.int x1), some (.int x2), none, none, none] [.int (-1 : Int32)] _ _ from ?_)
    obtain ⟨rfl, rfl⟩ := zy_pi h
    exact zy_4 rfl ⟨rfl, rfl⟩
noncomputable def zyF202   (x1 : Int32) (x2 : Int32) (s : zy_S) : Option (Int32 × zy_S) :=
if x1 = (8 : Int32) then
zyF202_15 x1 x2 s
else
(zyF185 (x1).toInt64 s).bind fun p11 =>
if p11.1 = 0 then
some ((-1 : Int32), p11.2)
else
zyF202_15 x1 x2 p11.2
theorem zyC202 {X : zx_X}     {x1 : Int32} {x2 : Int32} {s : zy_S} {r : Int32} {s' : zy_S}  (h : zyF202 x1 x2 s = some (r, s')) : zyR X 105 202 0 [some (.ref (43 + 3)), some (.int x1), some (.int x2), none, none, none] [] s (zyE (some (.int r)) s') := by
  unfold zyF202 at h
  refine zy_2 rfl rfl (show zyR _ _ _ _ [some (.ref (43 + 3)), some (.int x1), some (.int x2), none, none, none] [.int x1] _ _ from ?_)
  refine zy_3 rfl rfl (show zyR _ _ _ _ [some (.ref (43 + 3)), some (.int x1), some (.int x2), none, none, none] [.int (8 : Int32), .int x1] _ _ from ?_)
  refine zy_25_0 rfl (fun b13 => (show zyR _ _ _ _ [some (.ref (43 + 3)), some (.int x1), some (.int x2), none, none, none] [] _ _ from ?_)) (fun b13 => (show zyR _ _ _ _ [some (.ref (43 + 3)), some (.int x1), some (.int x2), none, none, none] [] _ _ from ?_))
  · replace h := zy_ifp h b13
    exact zy_sub (show zy_le [some (.ref (43 + 3)), some (.int x1), some (.int x2), none, none, none] [some (.ref (43 + 3)), some (.int x1), some (.int x2), none, none, none] from ⟨rfl, ⟨rfl, ⟨rfl, trivial⟩⟩⟩) (zyC202_15 h)
  · replace h := zy_ifn h b13
    refine zy_0 rfl rfl (show zyR _ _ _ _ [some (.ref (43 + 3)), some (.int x1), some (.int x2), none, none, none] [.ref (43 + 3)] _ _ from ?_)
    refine zy_2 rfl rfl (show zyR _ _ _ _ [some (.ref (43 + 3)), some (.int x1), some (.int x2), none, none, none] [.int x1, .ref (43 + 3)] _ _ from ?_)
    refine zy_40 rfl (show zyR _ _ _ _ [some (.ref (43 + 3)), some (.int x1), some (.int x2), none, none, none] [.long (x1).toInt64, .ref (43 + 3)] _ _ from ?_)
    obtain ⟨p11, hp11, h⟩ := zy_bind h
    refine zy_5 (c := 43) (as := [.long (x1).toInt64]) (rest := []) (L := [some (.ref (43 + 3)), some (.long (x1).toInt64), none]) (d' := 2) rfl rfl rfl (Nat.le_of_ble_eq_true rfl) (Nat.le_of_ble_eq_true rfl) rfl (Nat.le_of_ble_eq_true rfl) rfl rfl (zyC185 hp11) ?_
    show zyR _ _ _ _ [some (.ref (43 + 3)), some (.int x1), some (.int x2), none, none, none] [.int p11.1] _ _
    refine zy_24_0 rfl (fun b12 => (show zyR _ _ _ _ [some (.ref (43 + 3)), some (.int x1), some (.int x2), none, none, none] [] _ _ from ?_)) (fun b12 => (show zyR _ _ _ _ [some (.ref (43 + 3)), some (.int x1), some (.int x2), none, none, none] [] _ _ from ?_))
    · replace h := zy_ifp h b12
      refine zy_3 rfl rfl (show zyR _ _ _ _ [some (.ref (43 + 3)), some (.int x1), some (.int x2), none, none, none] [.int (-1 : Int32)] _ _ from ?_)
      obtain ⟨rfl, rfl⟩ := zy_pi h
      exact zy_4 rfl ⟨rfl, rfl⟩
    · replace h := zy_ifn h b12
      exact zy_sub (show zy_le [some (.ref (43 + 3)), some (.int x1), some (.int x2), none, none, none] [some (.ref (43 + 3)), some (.int x1), some (.int x2), none, none, none] from ⟨rfl, ⟨rfl, ⟨rfl, trivial⟩⟩⟩) (zyC202_15 h)
/-! NineOpinions$Thought.beginWithAll()V -/
noncomputable def zyF74    (s : zy_S) : Option (Int32 × zy_S) :=
(zyF51 s).bind fun p1 =>
(zyF52 p1.1 (0 : Int32) p1.2).bind fun p2 =>
some ((0 : Int32), p2.2)
theorem zyC74 {X : zx_X}      {s : zy_S} {r : Int32} {s' : zy_S}  (h : zyF74 s = some (r, s')) : zyR X 2 74 0 [some (.ref (12 + 3))] [] s (zyE none s') := by
  unfold zyF74 at h
  refine zy_0 rfl rfl (show zyR _ _ _ _ [some (.ref (12 + 3))] [.ref (12 + 3)] _ _ from ?_)
  refine zy_0 rfl rfl (show zyR _ _ _ _ [some (.ref (12 + 3))] [.ref (12 + 3), .ref (12 + 3)] _ _ from ?_)
  refine zy_1r (c := 12) rfl rfl rfl (show zyR _ _ _ _ [some (.ref (12 + 3))] [.ref (1 + 3), .ref (12 + 3)] _ _ from ?_)
  obtain ⟨p1, hp1, h⟩ := zy_bind h
  refine zy_5 (c := 1) (as := []) (rest := [.ref (12 + 3)]) (L := [some (.ref (1 + 3))]) (d' := 1) rfl rfl rfl (Nat.le_of_ble_eq_true rfl) (Nat.le_of_ble_eq_true rfl) rfl (Nat.le_of_ble_eq_true rfl) rfl rfl (zyC51 hp1) ?_
  show zyR _ _ _ _ [some (.ref (12 + 3))] [.int p1.1, .ref (12 + 3)] _ _
  refine zy_3 rfl rfl (show zyR _ _ _ _ [some (.ref (12 + 3))] [.int (0 : Int32), .int p1.1, .ref (12 + 3)] _ _ from ?_)
  obtain ⟨p2, hp2, h⟩ := zy_bind h
  refine zy_5 (c := 12) (as := [.int p1.1, .int (0 : Int32)]) (rest := []) (L := [some (.ref (12 + 3)), some (.int p1.1), some (.int (0 : Int32))]) (d' := 1) rfl rfl rfl (Nat.le_of_ble_eq_true rfl) (Nat.le_of_ble_eq_true rfl) rfl (Nat.le_of_ble_eq_true rfl) rfl rfl (zyC52 hp2) ?_
  show zyR _ _ _ _ [some (.ref (12 + 3))] [] _ _
  cases h
  exact zy_66 rfl ⟨rfl, rfl⟩
end
section
/-! PART 41.36: methods as functions. Made by wip/v4/dcp.py. -/
/-! NineOpinions$Thought.ifChanged(I)I -/
noncomputable def zyF73   (x1 : Int32) (s : zy_S) : Option (Int32 × zy_S) :=
(zyF74 s).bind fun p1 =>
(zyF54 ((p1.2.1 1 3) ^^^ ((1 : Int32) <<< (x1 &&& 31))) (p1.2.1 1 3) p1.2).bind fun p2 =>
some (p2.1, p2.2)
theorem zyC73 {X : zx_X}     {x1 : Int32} {s : zy_S} {r : Int32} {s' : zy_S}  (h : zyF73 x1 s = some (r, s')) : zyR X 7 73 0 [some (.ref (12 + 3)), some (.int x1)] [] s (zyE (some (.int r)) s') := by
  unfold zyF73 at h
  refine zy_0 rfl rfl (show zyR _ _ _ _ [some (.ref (12 + 3)), some (.int x1)] [.ref (12 + 3)] _ _ from ?_)
  obtain ⟨p1, hp1, h⟩ := zy_bind h
  refine zy_5 (c := 12) (as := []) (rest := []) (L := [some (.ref (12 + 3))]) (d' := 2) rfl rfl rfl (Nat.le_of_ble_eq_true rfl) (Nat.le_of_ble_eq_true rfl) rfl (Nat.le_of_ble_eq_true rfl) rfl rfl (zyC74 hp1) ?_
  show zyR _ _ _ _ [some (.ref (12 + 3)), some (.int x1)] [] _ _
  refine zy_0 rfl rfl (show zyR _ _ _ _ [some (.ref (12 + 3)), some (.int x1)] [.ref (12 + 3)] _ _ from ?_)
  refine zy_0 rfl rfl (show zyR _ _ _ _ [some (.ref (12 + 3)), some (.int x1)] [.ref (12 + 3), .ref (12 + 3)] _ _ from ?_)
  refine zy_1r (c := 12) rfl rfl rfl (show zyR _ _ _ _ [some (.ref (12 + 3)), some (.int x1)] [.ref (1 + 3), .ref (12 + 3)] _ _ from ?_)
  refine zy_1 (c := 1) rfl rfl rfl (show zyR _ _ _ _ [some (.ref (12 + 3)), some (.int x1)] [.int (p1.2.1 1 3), .ref (12 + 3)] _ _ from ?_)
  refine zy_3 rfl rfl (show zyR _ _ _ _ [some (.ref (12 + 3)), some (.int x1)] [.int (1 : Int32), .int (p1.2.1 1 3), .ref (12 + 3)] _ _ from ?_)
  refine zy_2 rfl rfl (show zyR _ _ _ _ [some (.ref (12 + 3)), some (.int x1)] [.int x1, .int (1 : Int32), .int (p1.2.1 1 3), .ref (12 + 3)] _ _ from ?_)
  refine zy_16 rfl (show zyR _ _ _ _ [some (.ref (12 + 3)), some (.int x1)] [.int ((1 : Int32) <<< (x1 &&& 31)), .int (p1.2.1 1 3), .ref (12 + 3)] _ _ from ?_)
  refine zy_15 rfl (show zyR _ _ _ _ [some (.ref (12 + 3)), some (.int x1)] [.int ((p1.2.1 1 3) ^^^ ((1 : Int32) <<< (x1 &&& 31))), .ref (12 + 3)] _ _ from ?_)
  refine zy_0 rfl rfl (show zyR _ _ _ _ [some (.ref (12 + 3)), some (.int x1)] [.ref (12 + 3), .int ((p1.2.1 1 3) ^^^ ((1 : Int32) <<< (x1 &&& 31))), .ref (12 + 3)] _ _ from ?_)
  refine zy_1r (c := 12) rfl rfl rfl (show zyR _ _ _ _ [some (.ref (12 + 3)), some (.int x1)] [.ref (1 + 3), .int ((p1.2.1 1 3) ^^^ ((1 : Int32) <<< (x1 &&& 31))), .ref (12 + 3)] _ _ from ?_)
  refine zy_1 (c := 1) rfl rfl rfl (show zyR _ _ _ _ [some (.ref (12 + 3)), some (.int x1)] [.int (p1.2.1 1 3), .int ((p1.2.1 1 3) ^^^ ((1 : Int32) <<< (x1 &&& 31))), .ref (12 + 3)] _ _ from ?_)
  obtain ⟨p2, hp2, h⟩ := zy_bind h
  refine zy_5 (c := 12) (as := [.int ((p1.2.1 1 3) ^^^ ((1 : Int32) <<< (x1 &&& 31))), .int (p1.2.1 1 3)]) (rest := []) (L := [some (.ref (12 + 3)), some (.int ((p1.2.1 1 3) ^^^ ((1 : Int32) <<< (x1 &&& 31)))), some (.int (p1.2.1 1 3)), none, none]) (d' := 6) rfl rfl rfl (Nat.le_of_ble_eq_true rfl) (Nat.le_of_ble_eq_true rfl) rfl (Nat.le_of_ble_eq_true rfl) rfl rfl (zyC54 hp2) ?_
  show zyR _ _ _ _ [some (.ref (12 + 3)), some (.int x1)] [.int p2.1] _ _
  obtain ⟨rfl, rfl⟩ := zy_pi h
  exact zy_4 rfl ⟨rfl, rfl⟩
/-! NineOpinions.ifLine(I)I -/
noncomputable def zyF72   (x1 : Int32) (s : zy_S) : Option (Int32 × zy_S) :=
(zyF26 x1 s).bind fun p1 =>
if p1.1 = 0 then
some ((-1 : Int32), p1.2)
else
(zyF73 x1 p1.2).bind fun p2 =>
some (p2.1, p2.2)
theorem zyC72 {X : zx_X}     {x1 : Int32} {s : zy_S} {r : Int32} {s' : zy_S}  (h : zyF72 x1 s = some (r, s')) : zyR X 8 72 0 [some (.ref (0 + 3)), some (.int x1)] [] s (zyE (some (.int r)) s') := by
  unfold zyF72 at h
  refine zy_2 rfl rfl (show zyR _ _ _ _ [some (.ref (0 + 3)), some (.int x1)] [.int x1] _ _ from ?_)
  obtain ⟨p1, hp1, h⟩ := zy_bind h
  refine zy_60 (as := [.int x1]) (rest := []) (L := [some (.int x1)]) (d' := 1) rfl rfl (Nat.le_of_ble_eq_true rfl) (Nat.le_of_ble_eq_true rfl) rfl (Nat.le_of_ble_eq_true rfl) rfl rfl (zyC26 hp1) ?_
  show zyR _ _ _ _ [some (.ref (0 + 3)), some (.int x1)] [.int p1.1] _ _
  refine zy_24_0 rfl (fun b3 => (show zyR _ _ _ _ [some (.ref (0 + 3)), some (.int x1)] [] _ _ from ?_)) (fun b3 => (show zyR _ _ _ _ [some (.ref (0 + 3)), some (.int x1)] [] _ _ from ?_))
  · replace h := zy_ifp h b3
    refine zy_3 rfl rfl (show zyR _ _ _ _ [some (.ref (0 + 3)), some (.int x1)] [.int (-1 : Int32)] _ _ from ?_)
    obtain ⟨rfl, rfl⟩ := zy_pi h
    exact zy_4 rfl ⟨rfl, rfl⟩
  · replace h := zy_ifn h b3
    refine zy_0 rfl rfl (show zyR _ _ _ _ [some (.ref (0 + 3)), some (.int x1)] [.ref (0 + 3)] _ _ from ?_)
    refine zy_1r (c := 0) rfl rfl rfl (show zyR _ _ _ _ [some (.ref (0 + 3)), some (.int x1)] [.ref (12 + 3)] _ _ from ?_)
    refine zy_2 rfl rfl (show zyR _ _ _ _ [some (.ref (0 + 3)), some (.int x1)] [.int x1, .ref (12 + 3)] _ _ from ?_)
    obtain ⟨p2, hp2, h⟩ := zy_bind h
    refine zy_5 (c := 12) (as := [.int x1]) (rest := []) (L := [some (.ref (12 + 3)), some (.int x1)]) (d' := 7) rfl rfl rfl (Nat.le_of_ble_eq_true rfl) (Nat.le_of_ble_eq_true rfl) rfl (Nat.le_of_ble_eq_true rfl) rfl rfl (zyC73 hp2) ?_
    show zyR _ _ _ _ [some (.ref (0 + 3)), some (.int x1)] [.int p2.1] _ _
    refine zy_6 rfl (show zyR _ _ _ _ [some (.ref (0 + 3)), some (.int x1)] [.int p2.1] _ _ from ?_)
    obtain ⟨rfl, rfl⟩ := zy_pi h
    exact zy_4 rfl ⟨rfl, rfl⟩
/-! NineOpinionsModel.mindsAll(II)I -/
noncomputable def zyF213_5b  (k5 : Int32 → Int32 → Int32 → Int32 → zy_S → Option (Int32 × zy_S)) (x1 : Int32) (x2 : Int32) (x3 : Int32) (x4 : Int32) (s : zy_S) : Option (Int32 × zy_S) :=
if (6 : Int32) ≤ x4 then
some (x3, s)
else
(zyF204 x1 x4 x2 s).bind fun p1 =>
k5 x1 x2 (x3 + p1.1) (x4 + (1 : Int32)) p1.2
theorem zyC213_5b {X : zx_X}  {k5 : Int32 → Int32 → Int32 → Int32 → zy_S → Option (Int32 × zy_S)}  (hk5 : ∀ (x1 : Int32) (x2 : Int32) (x3 : Int32) (x4 : Int32) (s : zy_S) (r : Int32) (s' : zy_S), k5 x1 x2 x3 x4 s = some (r, s') → zyR X 105 213 5 [some (.ref (43 + 3)), some (.int x1), some (.int x2), some (.int x3), some (.int x4)] [] s (zyE (some (.int r)) s')) {x1 : Int32} {x2 : Int32} {x3 : Int32} {x4 : Int32} {s : zy_S} {r : Int32} {s' : zy_S}  (h : zyF213_5b k5 x1 x2 x3 x4 s = some (r, s')) : zyR X 105 213 5 [some (.ref (43 + 3)), some (.int x1), some (.int x2), some (.int x3), some (.int x4)] [] s (zyE (some (.int r)) s') := by
  unfold zyF213_5b at h
  refine zy_2 rfl rfl (show zyR _ _ _ _ [some (.ref (43 + 3)), some (.int x1), some (.int x2), some (.int x3), some (.int x4)] [.int x4] _ _ from ?_)
  refine zy_3 rfl rfl (show zyR _ _ _ _ [some (.ref (43 + 3)), some (.int x1), some (.int x2), some (.int x3), some (.int x4)] [.int (6 : Int32), .int x4] _ _ from ?_)
  refine zy_25_3 rfl (fun b2 => (show zyR _ _ _ _ [some (.ref (43 + 3)), some (.int x1), some (.int x2), some (.int x3), some (.int x4)] [] _ _ from ?_)) (fun b2 => (show zyR _ _ _ _ [some (.ref (43 + 3)), some (.int x1), some (.int x2), some (.int x3), some (.int x4)] [] _ _ from ?_))
  · replace h := zy_ifp h b2
    refine zy_2 rfl rfl (show zyR _ _ _ _ [some (.ref (43 + 3)), some (.int x1), some (.int x2), some (.int x3), some (.int x4)] [.int x3] _ _ from ?_)
    obtain ⟨rfl, rfl⟩ := zy_pi h
    exact zy_4 rfl ⟨rfl, rfl⟩
  · replace h := zy_ifn h b2
    refine zy_2 rfl rfl (show zyR _ _ _ _ [some (.ref (43 + 3)), some (.int x1), some (.int x2), some (.int x3), some (.int x4)] [.int x3] _ _ from ?_)
    refine zy_0 rfl rfl (show zyR _ _ _ _ [some (.ref (43 + 3)), some (.int x1), some (.int x2), some (.int x3), some (.int x4)] [.ref (43 + 3), .int x3] _ _ from ?_)
    refine zy_2 rfl rfl (show zyR _ _ _ _ [some (.ref (43 + 3)), some (.int x1), some (.int x2), some (.int x3), some (.int x4)] [.int x1, .ref (43 + 3), .int x3] _ _ from ?_)
    refine zy_2 rfl rfl (show zyR _ _ _ _ [some (.ref (43 + 3)), some (.int x1), some (.int x2), some (.int x3), some (.int x4)] [.int x4, .int x1, .ref (43 + 3), .int x3] _ _ from ?_)
    refine zy_2 rfl rfl (show zyR _ _ _ _ [some (.ref (43 + 3)), some (.int x1), some (.int x2), some (.int x3), some (.int x4)] [.int x2, .int x4, .int x1, .ref (43 + 3), .int x3] _ _ from ?_)
    obtain ⟨p1, hp1, h⟩ := zy_bind h
    refine zy_5 (c := 43) (as := [.int x1, .int x4, .int x2]) (rest := [.int x3]) (L := [some (.ref (43 + 3)), some (.int x1), some (.int x4), some (.int x2), none, none, none, none, none]) (d' := 104) rfl rfl rfl (Nat.le_of_ble_eq_true rfl) (Nat.le_of_ble_eq_true rfl) rfl (Nat.le_of_ble_eq_true rfl) rfl rfl (zyC204 hp1) ?_
    show zyR _ _ _ _ [some (.ref (43 + 3)), some (.int x1), some (.int x2), some (.int x3), some (.int x4)] [.int p1.1, .int x3] _ _
    refine zy_10 rfl (show zyR _ _ _ _ [some (.ref (43 + 3)), some (.int x1), some (.int x2), some (.int x3), some (.int x4)] [.int (x3 + p1.1)] _ _ from ?_)
    refine zy_23 rfl rfl (show zyR _ _ _ _ [some (.ref (43 + 3)), some (.int x1), some (.int x2), some (.int (x3 + p1.1)), some (.int x4)] [] _ _ from ?_)
    refine zy_22 rfl rfl rfl rfl (show zyR _ _ _ _ [some (.ref (43 + 3)), some (.int x1), some (.int x2), some (.int (x3 + p1.1)), some (.int (x4 + (1 : Int32)))] [] _ _ from ?_)
    refine zy_6 rfl (show zyR _ _ _ _ [some (.ref (43 + 3)), some (.int x1), some (.int x2), some (.int (x3 + p1.1)), some (.int (x4 + (1 : Int32)))] [] _ _ from ?_)
    exact zy_sub (show zy_le [some (.ref (43 + 3)), some (.int x1), some (.int x2), some (.int (x3 + p1.1)), some (.int (x4 + (1 : Int32)))] [some (.ref (43 + 3)), some (.int x1), some (.int x2), some (.int (x3 + p1.1)), some (.int (x4 + (1 : Int32)))] from ⟨rfl, ⟨rfl, ⟨rfl, ⟨rfl, ⟨rfl, trivial⟩⟩⟩⟩⟩) (hk5 x1 x2 (x3 + p1.1) (x4 + (1 : Int32)) p1.2 _ _ h)
noncomputable def zyF213_5   (n : Nat) : Int32 → Int32 → Int32 → Int32 → zy_S → Option (Int32 × zy_S) := Nat.rec (fun _ _ _ _ _ => none) (fun _ k5 => zyF213_5b k5) n
theorem zyC213_5 {X : zx_X}     : ∀ (n : Nat) (x1 : Int32) (x2 : Int32) (x3 : Int32) (x4 : Int32) (s : zy_S) (r : Int32) (s' : zy_S), zyF213_5 n x1 x2 x3 x4 s = some (r, s') → zyR X 105 213 5 [some (.ref (43 + 3)), some (.int x1), some (.int x2), some (.int x3), some (.int x4)] [] s (zyE (some (.int r)) s')
  | 0, _, _, _, _ => by
    intro s r s'  h
    have h : (none : Option (Int32 × zy_S)) = some (r, s') := h
    cases h
  | n + 1, x1, x2, x3, x4 => by
    intro s r s'  h
    exact zyC213_5b (k5 := zyF213_5 n) (fun x1 x2 x3 x4 s r s'  h => zyC213_5  n x1 x2 x3 x4 s r s'  h) h
noncomputable def zyF213   (x1 : Int32) (x2 : Int32) (s : zy_S) : Option (Int32 × zy_S) :=
zyF213_5 zy_fu x1 x2 (0 : Int32) (0 : Int32) s
theorem zyC213 {X : zx_X}     {x1 : Int32} {x2 : Int32} {s : zy_S} {r : Int32} {s' : zy_S}  (h : zyF213 x1 x2 s = some (r, s')) : zyR X 105 213 0 [some (.ref (43 + 3)), some (.int x1), some (.int x2), none, none] [] s (zyE (some (.int r)) s') := by
  unfold zyF213 at h
  refine zy_3 rfl rfl (show zyR _ _ _ _ [some (.ref (43 + 3)), some (.int x1), some (.int x2), none, none] [.int (0 : Int32)] _ _ from ?_)
  refine zy_23 rfl rfl (show zyR _ _ _ _ [some (.ref (43 + 3)), some (.int x1), some (.int x2), some (.int (0 : Int32)), none] [] _ _ from ?_)
  refine zy_3 rfl rfl (show zyR _ _ _ _ [some (.ref (43 + 3)), some (.int x1), some (.int x2), some (.int (0 : Int32)), none] [.int (0 : Int32)] _ _ from ?_)
  refine zy_23 rfl rfl (show zyR _ _ _ _ [some (.ref (43 + 3)), some (.int x1), some (.int x2), some (.int (0 : Int32)), some (.int (0 : Int32))] [] _ _ from ?_)
  exact zy_sub (show zy_le [some (.ref (43 + 3)), some (.int x1), some (.int x2), some (.int (0 : Int32)), some (.int (0 : Int32))] [some (.ref (43 + 3)), some (.int x1), some (.int x2), some (.int (0 : Int32)), some (.int (0 : Int32))] from ⟨rfl, ⟨rfl, ⟨rfl, ⟨rfl, ⟨rfl, trivial⟩⟩⟩⟩⟩) (zyC213_5 zy_fu x1 x2 (0 : Int32) (0 : Int32) s _ _ h)
/-! NineOpinionsModel.allMind(I)I -/
noncomputable def zyF212_4b  (k4 : Int32 → Int32 → Int32 → zy_S → Option (Int32 × zy_S)) (x1 : Int32) (x2 : Int32) (x3 : Int32) (s : zy_S) : Option (Int32 × zy_S) :=
if (s.1 43 6) ≤ x3 then
some (x2, s)
else
(zyF213 x3 x1 s).bind fun p1 =>
k4 x1 (x2 + p1.1) (x3 + (1 : Int32)) p1.2
theorem zyC212_4b {X : zx_X}  {k4 : Int32 → Int32 → Int32 → zy_S → Option (Int32 × zy_S)}  (hk4 : ∀ (x1 : Int32) (x2 : Int32) (x3 : Int32) (s : zy_S) (r : Int32) (s' : zy_S), k4 x1 x2 x3 s = some (r, s') → zyR X 106 212 4 [some (.ref (43 + 3)), some (.int x1), some (.int x2), some (.int x3)] [] s (zyE (some (.int r)) s')) {x1 : Int32} {x2 : Int32} {x3 : Int32} {s : zy_S} {r : Int32} {s' : zy_S}  (h : zyF212_4b k4 x1 x2 x3 s = some (r, s')) : zyR X 106 212 4 [some (.ref (43 + 3)), some (.int x1), some (.int x2), some (.int x3)] [] s (zyE (some (.int r)) s') := by
  unfold zyF212_4b at h
  refine zy_2 rfl rfl (show zyR _ _ _ _ [some (.ref (43 + 3)), some (.int x1), some (.int x2), some (.int x3)] [.int x3] _ _ from ?_)
  refine zy_0 rfl rfl (show zyR _ _ _ _ [some (.ref (43 + 3)), some (.int x1), some (.int x2), some (.int x3)] [.ref (43 + 3), .int x3] _ _ from ?_)
  refine zy_1 (c := 43) rfl rfl rfl (show zyR _ _ _ _ [some (.ref (43 + 3)), some (.int x1), some (.int x2), some (.int x3)] [.int (s.1 43 6), .int x3] _ _ from ?_)
  refine zy_25_3 rfl (fun b2 => (show zyR _ _ _ _ [some (.ref (43 + 3)), some (.int x1), some (.int x2), some (.int x3)] [] _ _ from ?_)) (fun b2 => (show zyR _ _ _ _ [some (.ref (43 + 3)), some (.int x1), some (.int x2), some (.int x3)] [] _ _ from ?_))
  · replace h := zy_ifp h b2
    refine zy_2 rfl rfl (show zyR _ _ _ _ [some (.ref (43 + 3)), some (.int x1), some (.int x2), some (.int x3)] [.int x2] _ _ from ?_)
    obtain ⟨rfl, rfl⟩ := zy_pi h
    exact zy_4 rfl ⟨rfl, rfl⟩
  · replace h := zy_ifn h b2
    refine zy_2 rfl rfl (show zyR _ _ _ _ [some (.ref (43 + 3)), some (.int x1), some (.int x2), some (.int x3)] [.int x2] _ _ from ?_)
    refine zy_0 rfl rfl (show zyR _ _ _ _ [some (.ref (43 + 3)), some (.int x1), some (.int x2), some (.int x3)] [.ref (43 + 3), .int x2] _ _ from ?_)
    refine zy_2 rfl rfl (show zyR _ _ _ _ [some (.ref (43 + 3)), some (.int x1), some (.int x2), some (.int x3)] [.int x3, .ref (43 + 3), .int x2] _ _ from ?_)
    refine zy_2 rfl rfl (show zyR _ _ _ _ [some (.ref (43 + 3)), some (.int x1), some (.int x2), some (.int x3)] [.int x1, .int x3, .ref (43 + 3), .int x2] _ _ from ?_)
    obtain ⟨p1, hp1, h⟩ := zy_bind h
    refine zy_5 (c := 43) (as := [.int x3, .int x1]) (rest := [.int x2]) (L := [some (.ref (43 + 3)), some (.int x3), some (.int x1), none, none]) (d' := 105) rfl rfl rfl (Nat.le_of_ble_eq_true rfl) (Nat.le_of_ble_eq_true rfl) rfl (Nat.le_of_ble_eq_true rfl) rfl rfl (zyC213 hp1) ?_
    show zyR _ _ _ _ [some (.ref (43 + 3)), some (.int x1), some (.int x2), some (.int x3)] [.int p1.1, .int x2] _ _
    refine zy_10 rfl (show zyR _ _ _ _ [some (.ref (43 + 3)), some (.int x1), some (.int x2), some (.int x3)] [.int (x2 + p1.1)] _ _ from ?_)
    refine zy_23 rfl rfl (show zyR _ _ _ _ [some (.ref (43 + 3)), some (.int x1), some (.int (x2 + p1.1)), some (.int x3)] [] _ _ from ?_)
    refine zy_22 rfl rfl rfl rfl (show zyR _ _ _ _ [some (.ref (43 + 3)), some (.int x1), some (.int (x2 + p1.1)), some (.int (x3 + (1 : Int32)))] [] _ _ from ?_)
    refine zy_6 rfl (show zyR _ _ _ _ [some (.ref (43 + 3)), some (.int x1), some (.int (x2 + p1.1)), some (.int (x3 + (1 : Int32)))] [] _ _ from ?_)
    exact zy_sub (show zy_le [some (.ref (43 + 3)), some (.int x1), some (.int (x2 + p1.1)), some (.int (x3 + (1 : Int32)))] [some (.ref (43 + 3)), some (.int x1), some (.int (x2 + p1.1)), some (.int (x3 + (1 : Int32)))] from ⟨rfl, ⟨rfl, ⟨rfl, ⟨rfl, trivial⟩⟩⟩⟩) (hk4 x1 (x2 + p1.1) (x3 + (1 : Int32)) p1.2 _ _ h)
noncomputable def zyF212_4   (n : Nat) : Int32 → Int32 → Int32 → zy_S → Option (Int32 × zy_S) := Nat.rec (fun _ _ _ _ => none) (fun _ k4 => zyF212_4b k4) n
theorem zyC212_4 {X : zx_X}     : ∀ (n : Nat) (x1 : Int32) (x2 : Int32) (x3 : Int32) (s : zy_S) (r : Int32) (s' : zy_S), zyF212_4 n x1 x2 x3 s = some (r, s') → zyR X 106 212 4 [some (.ref (43 + 3)), some (.int x1), some (.int x2), some (.int x3)] [] s (zyE (some (.int r)) s')
  | 0, _, _, _ => by
    intro s r s'  h
    have h : (none : Option (Int32 × zy_S)) = some (r, s') := h
    cases h
  | n + 1, x1, x2, x3 => by
    intro s r s'  h
    exact zyC212_4b (k4 := zyF212_4 n) (fun x1 x2 x3 s r s'  h => zyC212_4  n x1 x2 x3 s r s'  h) h
noncomputable def zyF212   (x1 : Int32) (s : zy_S) : Option (Int32 × zy_S) :=
zyF212_4 zy_fu x1 (0 : Int32) (0 : Int32) s
theorem zyC212 {X : zx_X}     {x1 : Int32} {s : zy_S} {r : Int32} {s' : zy_S}  (h : zyF212 x1 s = some (r, s')) : zyR X 106 212 0 [some (.ref (43 + 3)), some (.int x1), none, none] [] s (zyE (some (.int r)) s') := by
  unfold zyF212 at h
  refine zy_3 rfl rfl (show zyR _ _ _ _ [some (.ref (43 + 3)), some (.int x1), none, none] [.int (0 : Int32)] _ _ from ?_)
  refine zy_23 rfl rfl (show zyR _ _ _ _ [some (.ref (43 + 3)), some (.int x1), some (.int (0 : Int32)), none] [] _ _ from ?_)
  refine zy_3 rfl rfl (show zyR _ _ _ _ [some (.ref (43 + 3)), some (.int x1), some (.int (0 : Int32)), none] [.int (0 : Int32)] _ _ from ?_)
  refine zy_23 rfl rfl (show zyR _ _ _ _ [some (.ref (43 + 3)), some (.int x1), some (.int (0 : Int32)), some (.int (0 : Int32))] [] _ _ from ?_)
  exact zy_sub (show zy_le [some (.ref (43 + 3)), some (.int x1), some (.int (0 : Int32)), some (.int (0 : Int32))] [some (.ref (43 + 3)), some (.int x1), some (.int (0 : Int32)), some (.int (0 : Int32))] from ⟨rfl, ⟨rfl, ⟨rfl, ⟨rfl, trivial⟩⟩⟩⟩) (zyC212_4 zy_fu x1 (0 : Int32) (0 : Int32) s _ _ h)
/-! NineOpinionsModel.ifChanged(II)I -/
noncomputable def zyF211_25   (x1 : Int32) (x2 : Int32) (x3 : Int32) (y0 : Int32) (y1 : Int32) (s : zy_S) : Option (Int32 × zy_S) :=
if zy_in y1 24 then
(zyF212 (x2 ^^^ ((1 : Int32) <<< (x1 &&& 31))) (zy_up s 51 (y1).toNatClampNeg y0)).bind fun p2 =>
if zy_in x1 24 then
some (p2.1, (zy_up p2.2 51 (x1).toNatClampNeg x3))
else none
else none
theorem zyC211_25 {X : zx_X}     {x1 : Int32} {x2 : Int32} {x3 : Int32} {y0 : Int32} {y1 : Int32} {s : zy_S} {r : Int32} {s' : zy_S}  (h : zyF211_25 x1 x2 x3 y0 y1 s = some (r, s')) : zyR X 107 211 25 [some (.ref (43 + 3)), some (.int x1), some (.int x2), some (.int x3), none] [.int y0, .int y1, .ref (51 + 3)] s (zyE (some (.int r)) s') := by
  unfold zyF211_25 at h
  obtain ⟨c1, h⟩ := zy_if h
  refine zy_27 (c := 51) rfl rfl c1 (show zyR _ _ _ _ [some (.ref (43 + 3)), some (.int x1), some (.int x2), some (.int x3), none] [] _ _ from ?_)
  refine zy_0 rfl rfl (show zyR _ _ _ _ [some (.ref (43 + 3)), some (.int x1), some (.int x2), some (.int x3), none] [.ref (43 + 3)] _ _ from ?_)
  refine zy_2 rfl rfl (show zyR _ _ _ _ [some (.ref (43 + 3)), some (.int x1), some (.int x2), some (.int x3), none] [.int x2, .ref (43 + 3)] _ _ from ?_)
  refine zy_3 rfl rfl (show zyR _ _ _ _ [some (.ref (43 + 3)), some (.int x1), some (.int x2), some (.int x3), none] [.int (1 : Int32), .int x2, .ref (43 + 3)] _ _ from ?_)
  refine zy_2 rfl rfl (show zyR _ _ _ _ [some (.ref (43 + 3)), some (.int x1), some (.int x2), some (.int x3), none] [.int x1, .int (1 : Int32), .int x2, .ref (43 + 3)] _ _ from ?_)
  refine zy_16 rfl (show zyR _ _ _ _ [some (.ref (43 + 3)), some (.int x1), some (.int x2), some (.int x3), none] [.int ((1 : Int32) <<< (x1 &&& 31)), .int x2, .ref (43 + 3)] _ _ from ?_)
  refine zy_15 rfl (show zyR _ _ _ _ [some (.ref (43 + 3)), some (.int x1), some (.int x2), some (.int x3), none] [.int (x2 ^^^ ((1 : Int32) <<< (x1 &&& 31))), .ref (43 + 3)] _ _ from ?_)
  obtain ⟨p2, hp2, h⟩ := zy_bind h
  refine zy_5 (c := 43) (as := [.int (x2 ^^^ ((1 : Int32) <<< (x1 &&& 31)))]) (rest := []) (L := [some (.ref (43 + 3)), some (.int (x2 ^^^ ((1 : Int32) <<< (x1 &&& 31)))), none, none]) (d' := 106) rfl rfl rfl (Nat.le_of_ble_eq_true rfl) (Nat.le_of_ble_eq_true rfl) rfl (Nat.le_of_ble_eq_true rfl) rfl rfl (zyC212 hp2) ?_
  show zyR _ _ _ _ [some (.ref (43 + 3)), some (.int x1), some (.int x2), some (.int x3), none] [.int p2.1] _ _
  refine zy_23 rfl rfl (show zyR _ _ _ _ [some (.ref (43 + 3)), some (.int x1), some (.int x2), some (.int x3), some (.int p2.1)] [] _ _ from ?_)
  refine zy_0 rfl rfl (show zyR _ _ _ _ [some (.ref (43 + 3)), some (.int x1), some (.int x2), some (.int x3), some (.int p2.1)] [.ref (43 + 3)] _ _ from ?_)
  refine zy_1r (c := 43) rfl rfl rfl (show zyR _ _ _ _ [some (.ref (43 + 3)), some (.int x1), some (.int x2), some (.int x3), some (.int p2.1)] [.ref (51 + 3)] _ _ from ?_)
  refine zy_2 rfl rfl (show zyR _ _ _ _ [some (.ref (43 + 3)), some (.int x1), some (.int x2), some (.int x3), some (.int p2.1)] [.int x1, .ref (51 + 3)] _ _ from ?_)
  refine zy_2 rfl rfl (show zyR _ _ _ _ [some (.ref (43 + 3)), some (.int x1), some (.int x2), some (.int x3), some (.int p2.1)] [.int x3, .int x1, .ref (51 + 3)] _ _ from ?_)
  obtain ⟨c3, h⟩ := zy_if h
  refine zy_27 (c := 51) rfl rfl c3 (show zyR _ _ _ _ [some (.ref (43 + 3)), some (.int x1), some (.int x2), some (.int x3), some (.int p2.1)] [] _ _ from ?_)
  refine zy_2 rfl rfl (show zyR _ _ _ _ [some (.ref (43 + 3)), some (.int x1), some (.int x2), some (.int x3), some (.int p2.1)] [.int p2.1] _ _ from ?_)
  obtain ⟨rfl, rfl⟩ := zy_pi h
  exact zy_4 rfl ⟨rfl, rfl⟩
noncomputable def zyF211   (x1 : Int32) (x2 : Int32) (s : zy_S) : Option (Int32 × zy_S) :=
if zy_in x1 24 then
(zyF208 x2 x1 s).bind fun p5 =>
if p5.1 = 0 then
zyF211_25 x1 x2 (s.1 51 (x1).toNatClampNeg) (0 : Int32) x1 p5.2
else
zyF211_25 x1 x2 (s.1 51 (x1).toNatClampNeg) (s.1 51 (x1).toNatClampNeg) x1 p5.2
else none
theorem zyC211 {X : zx_X}     {x1 : Int32} {x2 : Int32} {s : zy_S} {r : Int32} {s' : zy_S}  (h : zyF211 x1 x2 s = some (r, s')) : zyR X 107 211 0 [some (.ref (43 + 3)), some (.int x1), some (.int x2), none, none] [] s (zyE (some (.int r)) s') := by
  unfold zyF211 at h
  refine zy_0 rfl rfl (show zyR _ _ _ _ [some (.ref (43 + 3)), some (.int x1), some (.int x2), none, none] [.ref (43 + 3)] _ _ from ?_)
  refine zy_1r (c := 43) rfl rfl rfl (show zyR _ _ _ _ [some (.ref (43 + 3)), some (.int x1), some (.int x2), none, none] [.ref (51 + 3)] _ _ from ?_)
  refine zy_2 rfl rfl (show zyR _ _ _ _ [some (.ref (43 + 3)), some (.int x1), some (.int x2), none, none] [.int x1, .ref (51 + 3)] _ _ from ?_)
  obtain ⟨c4, h⟩ := zy_if h
  refine zy_26 (c := 51) rfl rfl c4 (show zyR _ _ _ _ [some (.ref (43 + 3)), some (.int x1), some (.int x2), none, none] [.int (s.1 51 (x1).toNatClampNeg)] _ _ from ?_)
  refine zy_23 rfl rfl (show zyR _ _ _ _ [some (.ref (43 + 3)), some (.int x1), some (.int x2), some (.int (s.1 51 (x1).toNatClampNeg)), none] [] _ _ from ?_)
  refine zy_0 rfl rfl (show zyR _ _ _ _ [some (.ref (43 + 3)), some (.int x1), some (.int x2), some (.int (s.1 51 (x1).toNatClampNeg)), none] [.ref (43 + 3)] _ _ from ?_)
  refine zy_1r (c := 43) rfl rfl rfl (show zyR _ _ _ _ [some (.ref (43 + 3)), some (.int x1), some (.int x2), some (.int (s.1 51 (x1).toNatClampNeg)), none] [.ref (51 + 3)] _ _ from ?_)
  refine zy_2 rfl rfl (show zyR _ _ _ _ [some (.ref (43 + 3)), some (.int x1), some (.int x2), some (.int (s.1 51 (x1).toNatClampNeg)), none] [.int x1, .ref (51 + 3)] _ _ from ?_)
  refine zy_2 rfl rfl (show zyR _ _ _ _ [some (.ref (43 + 3)), some (.int x1), some (.int x2), some (.int (s.1 51 (x1).toNatClampNeg)), none] [.int x2, .int x1, .ref (51 + 3)] _ _ from ?_)
  refine zy_2 rfl rfl (show zyR _ _ _ _ [some (.ref (43 + 3)), some (.int x1), some (.int x2), some (.int (s.1 51 (x1).toNatClampNeg)), none] [.int x1, .int x2, .int x1, .ref (51 + 3)] _ _ from ?_)
  obtain ⟨p5, hp5, h⟩ := zy_bind h
  refine zy_60 (as := [.int x2, .int x1]) (rest := [.int x1, .ref (51 + 3)]) (L := [some (.int x2), some (.int x1)]) (d' := 1) rfl rfl (Nat.le_of_ble_eq_true rfl) (Nat.le_of_ble_eq_true rfl) rfl (Nat.le_of_ble_eq_true rfl) rfl rfl (zyC208 hp5) ?_
  show zyR _ _ _ _ [some (.ref (43 + 3)), some (.int x1), some (.int x2), some (.int (s.1 51 (x1).toNatClampNeg)), none] [.int p5.1, .int x1, .ref (51 + 3)] _ _
  refine zy_24_0 rfl (fun b6 => (show zyR _ _ _ _ [some (.ref (43 + 3)), some (.int x1), some (.int x2), some (.int (s.1 51 (x1).toNatClampNeg)), none] [.int x1, .ref (51 + 3)] _ _ from ?_)) (fun b6 => (show zyR _ _ _ _ [some (.ref (43 + 3)), some (.int x1), some (.int x2), some (.int (s.1 51 (x1).toNatClampNeg)), none] [.int x1, .ref (51 + 3)] _ _ from ?_))
  · replace h := zy_ifp h b6
    refine zy_3 rfl rfl (show zyR _ _ _ _ [some (.ref (43 + 3)), some (.int x1), some (.int x2), some (.int (s.1 51 (x1).toNatClampNeg)), none] [.int (0 : Int32), .int x1, .ref (51 + 3)] _ _ from ?_)
    exact zy_sub (show zy_le [some (.ref (43 + 3)), some (.int x1), some (.int x2), some (.int (s.1 51 (x1).toNatClampNeg)), none] [some (.ref (43 + 3)), some (.int x1), some (.int x2), some (.int (s.1 51 (x1).toNatClampNeg)), none] from ⟨rfl, ⟨rfl, ⟨rfl, ⟨rfl, trivial⟩⟩⟩⟩) (zyC211_25 h)
  · replace h := zy_ifn h b6
    refine zy_2 rfl rfl (show zyR _ _ _ _ [some (.ref (43 + 3)), some (.int x1), some (.int x2), some (.int (s.1 51 (x1).toNatClampNeg)), none] [.int (s.1 51 (x1).toNatClampNeg), .int x1, .ref (51 + 3)] _ _ from ?_)
    refine zy_6 rfl (show zyR _ _ _ _ [some (.ref (43 + 3)), some (.int x1), some (.int x2), some (.int (s.1 51 (x1).toNatClampNeg)), none] [.int (s.1 51 (x1).toNatClampNeg), .int x1, .ref (51 + 3)] _ _ from ?_)
    exact zy_sub (show zy_le [some (.ref (43 + 3)), some (.int x1), some (.int x2), some (.int (s.1 51 (x1).toNatClampNeg)), none] [some (.ref (43 + 3)), some (.int x1), some (.int x2), some (.int (s.1 51 (x1).toNatClampNeg)), none] from ⟨rfl, ⟨rfl, ⟨rfl, ⟨rfl, trivial⟩⟩⟩⟩) (zyC211_25 h)
/-! NineOpinionsModel.ifLine(I)I -/
noncomputable def zyF210   (x1 : Int32) (s : zy_S) : Option (Int32 × zy_S) :=
(zyF186 (x1).toInt64 s).bind fun p1 =>
if p1.1 ≠ 0 then
(zyF203 p1.2).bind fun p2 =>
(zyF211 x1 (p2.2.1 43 7) p2.2).bind fun p3 =>
some (p3.1, p3.2)
else
some ((-1 : Int32), p1.2)
theorem zyC210 {X : zx_X}     {x1 : Int32} {s : zy_S} {r : Int32} {s' : zy_S}  (h : zyF210 x1 s = some (r, s')) : zyR X 108 210 0 [some (.ref (43 + 3)), some (.int x1)] [] s (zyE (some (.int r)) s') := by
  unfold zyF210 at h
  refine zy_2 rfl rfl (show zyR _ _ _ _ [some (.ref (43 + 3)), some (.int x1)] [.int x1] _ _ from ?_)
  refine zy_40 rfl (show zyR _ _ _ _ [some (.ref (43 + 3)), some (.int x1)] [.long (x1).toInt64] _ _ from ?_)
  obtain ⟨p1, hp1, h⟩ := zy_bind h
  refine zy_60 (as := [.long (x1).toInt64]) (rest := []) (L := [some (.long (x1).toInt64), none]) (d' := 2) rfl rfl (Nat.le_of_ble_eq_true rfl) (Nat.le_of_ble_eq_true rfl) rfl (Nat.le_of_ble_eq_true rfl) rfl rfl (zyC186 hp1) ?_
  show zyR _ _ _ _ [some (.ref (43 + 3)), some (.int x1)] [.int p1.1] _ _
  refine zy_24_1 rfl (fun b4 => (show zyR _ _ _ _ [some (.ref (43 + 3)), some (.int x1)] [] _ _ from ?_)) (fun b4 => (show zyR _ _ _ _ [some (.ref (43 + 3)), some (.int x1)] [] _ _ from ?_))
  · replace h := zy_ifp h b4
    refine zy_0 rfl rfl (show zyR _ _ _ _ [some (.ref (43 + 3)), some (.int x1)] [.ref (43 + 3)] _ _ from ?_)
    obtain ⟨p2, hp2, h⟩ := zy_bind h
    refine zy_5 (c := 43) (as := []) (rest := []) (L := [some (.ref (43 + 3)), none]) (d' := 1) rfl rfl rfl (Nat.le_of_ble_eq_true rfl) (Nat.le_of_ble_eq_true rfl) rfl (Nat.le_of_ble_eq_true rfl) rfl rfl (zyC203 hp2) ?_
    show zyR _ _ _ _ [some (.ref (43 + 3)), some (.int x1)] [] _ _
    refine zy_0 rfl rfl (show zyR _ _ _ _ [some (.ref (43 + 3)), some (.int x1)] [.ref (43 + 3)] _ _ from ?_)
    refine zy_2 rfl rfl (show zyR _ _ _ _ [some (.ref (43 + 3)), some (.int x1)] [.int x1, .ref (43 + 3)] _ _ from ?_)
    refine zy_0 rfl rfl (show zyR _ _ _ _ [some (.ref (43 + 3)), some (.int x1)] [.ref (43 + 3), .int x1, .ref (43 + 3)] _ _ from ?_)
    refine zy_1 (c := 43) rfl rfl rfl (show zyR _ _ _ _ [some (.ref (43 + 3)), some (.int x1)] [.int (p2.2.1 43 7), .int x1, .ref (43 + 3)] _ _ from ?_)
    obtain ⟨p3, hp3, h⟩ := zy_bind h
    refine zy_5 (c := 43) (as := [.int x1, .int (p2.2.1 43 7)]) (rest := []) (L := [some (.ref (43 + 3)), some (.int x1), some (.int (p2.2.1 43 7)), none, none]) (d' := 107) rfl rfl rfl (Nat.le_of_ble_eq_true rfl) (Nat.le_of_ble_eq_true rfl) rfl (Nat.le_of_ble_eq_true rfl) rfl rfl (zyC211 hp3) ?_
    show zyR _ _ _ _ [some (.ref (43 + 3)), some (.int x1)] [.int p3.1] _ _
    obtain ⟨rfl, rfl⟩ := zy_pi h
    exact zy_4 rfl ⟨rfl, rfl⟩
  · replace h := zy_ifn h b4
    refine zy_3 rfl rfl (show zyR _ _ _ _ [some (.ref (43 + 3)), some (.int x1)] [.int (-1 : Int32)] _ _ from ?_)
    obtain ⟨rfl, rfl⟩ := zy_pi h
    exact zy_4 rfl ⟨rfl, rfl⟩
/-! NineOpinions$Thought.bestStruckFor(I)I -/
noncomputable def zyF85_87  (k11 : Int32 → Int32 → Int32 → Int32 → zy_S → Option (Int32 × zy_S)) (x1 : Int32) (x2 : Int32) (x3 : Int32) (x4 : Int32) (s : zy_S) : Option (Int32 × zy_S) :=
k11 x1 x2 x3 (x4 + (1 : Int32)) s
theorem zyC85_87 {X : zx_X}  {k11 : Int32 → Int32 → Int32 → Int32 → zy_S → Option (Int32 × zy_S)}  (hk11 : ∀ (x1 : Int32) (x2 : Int32) (x3 : Int32) (x4 : Int32) (s : zy_S) (r : Int32) (s' : zy_S), k11 x1 x2 x3 x4 s = some (r, s') → zyR X 7 85 11 [some (.ref (12 + 3)), some (.int x1), some (.int x2), some (.int x3), some (.int x4), none] [] s (zyE (some (.int r)) s')) {x1 : Int32} {x2 : Int32} {x3 : Int32} {x4 : Int32} {s : zy_S} {r : Int32} {s' : zy_S}  (h : zyF85_87 k11 x1 x2 x3 x4 s = some (r, s')) : zyR X 7 85 87 [some (.ref (12 + 3)), some (.int x1), some (.int x2), some (.int x3), some (.int x4), none] [] s (zyE (some (.int r)) s') := by
  unfold zyF85_87 at h
  refine zy_22 rfl rfl rfl rfl (show zyR _ _ _ _ [some (.ref (12 + 3)), some (.int x1), some (.int x2), some (.int x3), some (.int (x4 + (1 : Int32))), none] [] _ _ from ?_)
  refine zy_6 rfl (show zyR _ _ _ _ [some (.ref (12 + 3)), some (.int x1), some (.int x2), some (.int x3), some (.int (x4 + (1 : Int32))), none] [] _ _ from ?_)
  exact zy_sub (show zy_le [some (.ref (12 + 3)), some (.int x1), some (.int x2), some (.int x3), some (.int (x4 + (1 : Int32))), none] [some (.ref (12 + 3)), some (.int x1), some (.int x2), some (.int x3), some (.int (x4 + (1 : Int32))), none] from ⟨rfl, ⟨rfl, ⟨rfl, ⟨rfl, ⟨rfl, trivial⟩⟩⟩⟩⟩) (hk11 x1 x2 x3 (x4 + (1 : Int32)) s _ _ h)
noncomputable def zyF85_81  (k11 : Int32 → Int32 → Int32 → Int32 → zy_S → Option (Int32 × zy_S)) (x1 : Int32) (x4 : Int32) (x5 : Int32) (s : zy_S) : Option (Int32 × zy_S) :=
zyF85_87 k11 x1 x4 x5 x4 s
theorem zyC85_81 {X : zx_X}  {k11 : Int32 → Int32 → Int32 → Int32 → zy_S → Option (Int32 × zy_S)}  (hk11 : ∀ (x1 : Int32) (x2 : Int32) (x3 : Int32) (x4 : Int32) (s : zy_S) (r : Int32) (s' : zy_S), k11 x1 x2 x3 x4 s = some (r, s') → zyR X 7 85 11 [some (.ref (12 + 3)), some (.int x1), some (.int x2), some (.int x3), some (.int x4), none] [] s (zyE (some (.int r)) s')) {x1 : Int32} {x4 : Int32} {x5 : Int32} {s : zy_S} {r : Int32} {s' : zy_S}  (h : zyF85_81 k11 x1 x4 x5 s = some (r, s')) : zyR X 7 85 81 [some (.ref (12 + 3)), some (.int x1), none, none, some (.int x4), some (.int x5)] [] s (zyE (some (.int r)) s') := by
  unfold zyF85_81 at h
  refine zy_2 rfl rfl (show zyR _ _ _ _ [some (.ref (12 + 3)), some (.int x1), none, none, some (.int x4), some (.int x5)] [.int x4] _ _ from ?_)
  refine zy_23 rfl rfl (show zyR _ _ _ _ [some (.ref (12 + 3)), some (.int x1), some (.int x4), none, some (.int x4), some (.int x5)] [] _ _ from ?_)
  refine zy_2 rfl rfl (show zyR _ _ _ _ [some (.ref (12 + 3)), some (.int x1), some (.int x4), none, some (.int x4), some (.int x5)] [.int x5] _ _ from ?_)
  refine zy_23 rfl rfl (show zyR _ _ _ _ [some (.ref (12 + 3)), some (.int x1), some (.int x4), some (.int x5), some (.int x4), some (.int x5)] [] _ _ from ?_)
  exact zy_sub (show zy_le [some (.ref (12 + 3)), some (.int x1), some (.int x4), some (.int x5), some (.int x4), none] [some (.ref (12 + 3)), some (.int x1), some (.int x4), some (.int x5), some (.int x4), some (.int x5)] from ⟨rfl, ⟨rfl, ⟨rfl, ⟨rfl, ⟨rfl, trivial⟩⟩⟩⟩⟩) (zyC85_87 hk11 h)
noncomputable def zyF85_11b  (k11 : Int32 → Int32 → Int32 → Int32 → zy_S → Option (Int32 × zy_S)) (x1 : Int32) (x2 : Int32) (x3 : Int32) (x4 : Int32) (s : zy_S) : Option (Int32 × zy_S) :=
if (24 : Int32) ≤ x4 then
some (x2, s)
else
(zyF86 x1 s).bind fun p1 =>
if p1.1 ≠ 0 then
some (x2, p1.2)
else
(zyF86 x4 p1.2).bind fun p2 =>
if p2.1 = 0 then
zyF85_87 k11 x1 x2 x3 x4 p2.2
else
(zyF54 (((p2.2.1 1 3) ^^^ ((1 : Int32) <<< (x4 &&& 31))) ||| ((1 : Int32) <<< (x1 &&& 31))) (p2.2.1 1 3) p2.2).bind fun p3 =>
if x2 = (-1 : Int32) then
zyF85_81 k11 x1 x4 p3.1 p3.2
else
if x3 ≤ p3.1 then
zyF85_87 k11 x1 x2 x3 x4 p3.2
else
zyF85_81 k11 x1 x4 p3.1 p3.2
theorem zyC85_11b {X : zx_X}  {k11 : Int32 → Int32 → Int32 → Int32 → zy_S → Option (Int32 × zy_S)}  (hk11 : ∀ (x1 : Int32) (x2 : Int32) (x3 : Int32) (x4 : Int32) (s : zy_S) (r : Int32) (s' : zy_S), k11 x1 x2 x3 x4 s = some (r, s') → zyR X 7 85 11 [some (.ref (12 + 3)), some (.int x1), some (.int x2), some (.int x3), some (.int x4), none] [] s (zyE (some (.int r)) s')) {x1 : Int32} {x2 : Int32} {x3 : Int32} {x4 : Int32} {s : zy_S} {r : Int32} {s' : zy_S}  (h : zyF85_11b k11 x1 x2 x3 x4 s = some (r, s')) : zyR X 7 85 11 [some (.ref (12 + 3)), some (.int x1), some (.int x2), some (.int x3), some (.int x4), none] [] s (zyE (some (.int r)) s') := by
  unfold zyF85_11b at h
  refine zy_2 rfl rfl (show zyR _ _ _ _ [some (.ref (12 + 3)), some (.int x1), some (.int x2), some (.int x3), some (.int x4), none] [.int x4] _ _ from ?_)
  refine zy_3 rfl rfl (show zyR _ _ _ _ [some (.ref (12 + 3)), some (.int x1), some (.int x2), some (.int x3), some (.int x4), none] [.int (24 : Int32), .int x4] _ _ from ?_)
  refine zy_25_3 rfl (fun b8 => (show zyR _ _ _ _ [some (.ref (12 + 3)), some (.int x1), some (.int x2), some (.int x3), some (.int x4), none] [] _ _ from ?_)) (fun b8 => (show zyR _ _ _ _ [some (.ref (12 + 3)), some (.int x1), some (.int x2), some (.int x3), some (.int x4), none] [] _ _ from ?_))
  · replace h := zy_ifp h b8
    refine zy_2 rfl rfl (show zyR _ _ _ _ [some (.ref (12 + 3)), some (.int x1), some (.int x2), some (.int x3), some (.int x4), none] [.int x2] _ _ from ?_)
    obtain ⟨rfl, rfl⟩ := zy_pi h
    exact zy_4 rfl ⟨rfl, rfl⟩
  · replace h := zy_ifn h b8
    refine zy_0 rfl rfl (show zyR _ _ _ _ [some (.ref (12 + 3)), some (.int x1), some (.int x2), some (.int x3), some (.int x4), none] [.ref (12 + 3)] _ _ from ?_)
    refine zy_1r (c := 12) rfl rfl rfl (show zyR _ _ _ _ [some (.ref (12 + 3)), some (.int x1), some (.int x2), some (.int x3), some (.int x4), none] [.ref (1 + 3)] _ _ from ?_)
    refine zy_2 rfl rfl (show zyR _ _ _ _ [some (.ref (12 + 3)), some (.int x1), some (.int x2), some (.int x3), some (.int x4), none] [.int x1, .ref (1 + 3)] _ _ from ?_)
    obtain ⟨p1, hp1, h⟩ := zy_bind h
    refine zy_5 (c := 1) (as := [.int x1]) (rest := []) (L := [some (.ref (1 + 3)), some (.int x1)]) (d' := 2) rfl rfl rfl (Nat.le_of_ble_eq_true rfl) (Nat.le_of_ble_eq_true rfl) rfl (Nat.le_of_ble_eq_true rfl) rfl rfl (zyC86 hp1) ?_
    show zyR _ _ _ _ [some (.ref (12 + 3)), some (.int x1), some (.int x2), some (.int x3), some (.int x4), none] [.int p1.1] _ _
    refine zy_24_1 rfl (fun b7 => (show zyR _ _ _ _ [some (.ref (12 + 3)), some (.int x1), some (.int x2), some (.int x3), some (.int x4), none] [] _ _ from ?_)) (fun b7 => (show zyR _ _ _ _ [some (.ref (12 + 3)), some (.int x1), some (.int x2), some (.int x3), some (.int x4), none] [] _ _ from ?_))
    · replace h := zy_ifp h b7
      refine zy_2 rfl rfl (show zyR _ _ _ _ [some (.ref (12 + 3)), some (.int x1), some (.int x2), some (.int x3), some (.int x4), none] [.int x2] _ _ from ?_)
      obtain ⟨rfl, rfl⟩ := zy_pi h
      exact zy_4 rfl ⟨rfl, rfl⟩
    · replace h := zy_ifn h b7
      refine zy_0 rfl rfl (show zyR _ _ _ _ [some (.ref (12 + 3)), some (.int x1), some (.int x2), some (.int x3), some (.int x4), none] [.ref (12 + 3)] _ _ from ?_)
      refine zy_1r (c := 12) rfl rfl rfl (show zyR _ _ _ _ [some (.ref (12 + 3)), some (.int x1), some (.int x2), some (.int x3), some (.int x4), none] [.ref (1 + 3)] _ _ from ?_)
      refine zy_2 rfl rfl (show zyR _ _ _ _ [some (.ref (12 + 3)), some (.int x1), some (.int x2), some (.int x3), some (.int x4), none] [.int x4, .ref (1 + 3)] _ _ from ?_)
      obtain ⟨p2, hp2, h⟩ := zy_bind h
      refine zy_5 (c := 1) (as := [.int x4]) (rest := []) (L := [some (.ref (1 + 3)), some (.int x4)]) (d' := 2) rfl rfl rfl (Nat.le_of_ble_eq_true rfl) (Nat.le_of_ble_eq_true rfl) rfl (Nat.le_of_ble_eq_true rfl) rfl rfl (zyC86 hp2) ?_
      show zyR _ _ _ _ [some (.ref (12 + 3)), some (.int x1), some (.int x2), some (.int x3), some (.int x4), none] [.int p2.1] _ _
      refine zy_24_0 rfl (fun b6 => (show zyR _ _ _ _ [some (.ref (12 + 3)), some (.int x1), some (.int x2), some (.int x3), some (.int x4), none] [] _ _ from ?_)) (fun b6 => (show zyR _ _ _ _ [some (.ref (12 + 3)), some (.int x1), some (.int x2), some (.int x3), some (.int x4), none] [] _ _ from ?_))
      · replace h := zy_ifp h b6
        exact zy_sub (show zy_le [some (.ref (12 + 3)), some (.int x1), some (.int x2), some (.int x3), some (.int x4), none] [some (.ref (12 + 3)), some (.int x1), some (.int x2), some (.int x3), some (.int x4), none] from ⟨rfl, ⟨rfl, ⟨rfl, ⟨rfl, ⟨rfl, trivial⟩⟩⟩⟩⟩) (zyC85_87 hk11 h)
      · replace h := zy_ifn h b6
        refine zy_0 rfl rfl (show zyR _ _ _ _ [some (.ref (12 + 3)), some (.int x1), some (.int x2), some (.int x3), some (.int x4), none] [.ref (12 + 3)] _ _ from ?_)
        refine zy_0 rfl rfl (show zyR _ _ _ _ [some (.ref (12 + 3)), some (.int x1), some (.int x2), some (.int x3), some (.int x4), none] [.ref (12 + 3), .ref (12 + 3)] _ _ from ?_)
        refine zy_1r (c := 12) rfl rfl rfl (show zyR _ _ _ _ [some (.ref (12 + 3)), some (.int x1), some (.int x2), some (.int x3), some (.int x4), none] [.ref (1 + 3), .ref (12 + 3)] _ _ from ?_)
        refine zy_1 (c := 1) rfl rfl rfl (show zyR _ _ _ _ [some (.ref (12 + 3)), some (.int x1), some (.int x2), some (.int x3), some (.int x4), none] [.int (p2.2.1 1 3), .ref (12 + 3)] _ _ from ?_)
        refine zy_3 rfl rfl (show zyR _ _ _ _ [some (.ref (12 + 3)), some (.int x1), some (.int x2), some (.int x3), some (.int x4), none] [.int (1 : Int32), .int (p2.2.1 1 3), .ref (12 + 3)] _ _ from ?_)
        refine zy_2 rfl rfl (show zyR _ _ _ _ [some (.ref (12 + 3)), some (.int x1), some (.int x2), some (.int x3), some (.int x4), none] [.int x4, .int (1 : Int32), .int (p2.2.1 1 3), .ref (12 + 3)] _ _ from ?_)
        refine zy_16 rfl (show zyR _ _ _ _ [some (.ref (12 + 3)), some (.int x1), some (.int x2), some (.int x3), some (.int x4), none] [.int ((1 : Int32) <<< (x4 &&& 31)), .int (p2.2.1 1 3), .ref (12 + 3)] _ _ from ?_)
        refine zy_15 rfl (show zyR _ _ _ _ [some (.ref (12 + 3)), some (.int x1), some (.int x2), some (.int x3), some (.int x4), none] [.int ((p2.2.1 1 3) ^^^ ((1 : Int32) <<< (x4 &&& 31))), .ref (12 + 3)] _ _ from ?_)
        refine zy_3 rfl rfl (show zyR _ _ _ _ [some (.ref (12 + 3)), some (.int x1), some (.int x2), some (.int x3), some (.int x4), none] [.int (1 : Int32), .int ((p2.2.1 1 3) ^^^ ((1 : Int32) <<< (x4 &&& 31))), .ref (12 + 3)] _ _ from ?_)
        refine zy_2 rfl rfl (show zyR _ _ _ _ [some (.ref (12 + 3)), some (.int x1), some (.int x2), some (.int x3), some (.int x4), none] [.int x1, .int (1 : Int32), .int ((p2.2.1 1 3) ^^^ ((1 : Int32) <<< (x4 &&& 31))), .ref (12 + 3)] _ _ from ?_)
        refine zy_16 rfl (show zyR _ _ _ _ [some (.ref (12 + 3)), some (.int x1), some (.int x2), some (.int x3), some (.int x4), none] [.int ((1 : Int32) <<< (x1 &&& 31)), .int ((p2.2.1 1 3) ^^^ ((1 : Int32) <<< (x4 &&& 31))), .ref (12 + 3)] _ _ from ?_)
        refine zy_14 rfl (show zyR _ _ _ _ [some (.ref (12 + 3)), some (.int x1), some (.int x2), some (.int x3), some (.int x4), none] [.int (((p2.2.1 1 3) ^^^ ((1 : Int32) <<< (x4 &&& 31))) ||| ((1 : Int32) <<< (x1 &&& 31))), .ref (12 + 3)] _ _ from ?_)
        refine zy_0 rfl rfl (show zyR _ _ _ _ [some (.ref (12 + 3)), some (.int x1), some (.int x2), some (.int x3), some (.int x4), none] [.ref (12 + 3), .int (((p2.2.1 1 3) ^^^ ((1 : Int32) <<< (x4 &&& 31))) ||| ((1 : Int32) <<< (x1 &&& 31))), .ref (12 + 3)] _ _ from ?_)
        refine zy_1r (c := 12) rfl rfl rfl (show zyR _ _ _ _ [some (.ref (12 + 3)), some (.int x1), some (.int x2), some (.int x3), some (.int x4), none] [.ref (1 + 3), .int (((p2.2.1 1 3) ^^^ ((1 : Int32) <<< (x4 &&& 31))) ||| ((1 : Int32) <<< (x1 &&& 31))), .ref (12 + 3)] _ _ from ?_)
        refine zy_1 (c := 1) rfl rfl rfl (show zyR _ _ _ _ [some (.ref (12 + 3)), some (.int x1), some (.int x2), some (.int x3), some (.int x4), none] [.int (p2.2.1 1 3), .int (((p2.2.1 1 3) ^^^ ((1 : Int32) <<< (x4 &&& 31))) ||| ((1 : Int32) <<< (x1 &&& 31))), .ref (12 + 3)] _ _ from ?_)
        obtain ⟨p3, hp3, h⟩ := zy_bind h
        refine zy_5 (c := 12) (as := [.int (((p2.2.1 1 3) ^^^ ((1 : Int32) <<< (x4 &&& 31))) ||| ((1 : Int32) <<< (x1 &&& 31))), .int (p2.2.1 1 3)]) (rest := []) (L := [some (.ref (12 + 3)), some (.int (((p2.2.1 1 3) ^^^ ((1 : Int32) <<< (x4 &&& 31))) ||| ((1 : Int32) <<< (x1 &&& 31)))), some (.int (p2.2.1 1 3)), none, none]) (d' := 6) rfl rfl rfl (Nat.le_of_ble_eq_true rfl) (Nat.le_of_ble_eq_true rfl) rfl (Nat.le_of_ble_eq_true rfl) rfl rfl (zyC54 hp3) ?_
        show zyR _ _ _ _ [some (.ref (12 + 3)), some (.int x1), some (.int x2), some (.int x3), some (.int x4), none] [.int p3.1] _ _
        refine zy_23 rfl rfl (show zyR _ _ _ _ [some (.ref (12 + 3)), some (.int x1), some (.int x2), some (.int x3), some (.int x4), some (.int p3.1)] [] _ _ from ?_)
        refine zy_2 rfl rfl (show zyR _ _ _ _ [some (.ref (12 + 3)), some (.int x1), some (.int x2), some (.int x3), some (.int x4), some (.int p3.1)] [.int x2] _ _ from ?_)
        refine zy_3 rfl rfl (show zyR _ _ _ _ [some (.ref (12 + 3)), some (.int x1), some (.int x2), some (.int x3), some (.int x4), some (.int p3.1)] [.int (-1 : Int32), .int x2] _ _ from ?_)
        refine zy_25_0 rfl (fun b5 => (show zyR _ _ _ _ [some (.ref (12 + 3)), some (.int x1), some (.int x2), some (.int x3), some (.int x4), some (.int p3.1)] [] _ _ from ?_)) (fun b5 => (show zyR _ _ _ _ [some (.ref (12 + 3)), some (.int x1), some (.int x2), some (.int x3), some (.int x4), some (.int p3.1)] [] _ _ from ?_))
        · replace h := zy_ifp h b5
          exact zy_sub (show zy_le [some (.ref (12 + 3)), some (.int x1), none, none, some (.int x4), some (.int p3.1)] [some (.ref (12 + 3)), some (.int x1), some (.int x2), some (.int x3), some (.int x4), some (.int p3.1)] from ⟨rfl, ⟨rfl, ⟨rfl, ⟨rfl, trivial⟩⟩⟩⟩) (zyC85_81 hk11 h)
        · replace h := zy_ifn h b5
          refine zy_2 rfl rfl (show zyR _ _ _ _ [some (.ref (12 + 3)), some (.int x1), some (.int x2), some (.int x3), some (.int x4), some (.int p3.1)] [.int p3.1] _ _ from ?_)
          refine zy_2 rfl rfl (show zyR _ _ _ _ [some (.ref (12 + 3)), some (.int x1), some (.int x2), some (.int x3), some (.int x4), some (.int p3.1)] [.int x3, .int p3.1] _ _ from ?_)
          refine zy_25_3 rfl (fun b4 => (show zyR _ _ _ _ [some (.ref (12 + 3)), some (.int x1), some (.int x2), some (.int x3), some (.int x4), some (.int p3.1)] [] _ _ from ?_)) (fun b4 => (show zyR _ _ _ _ [some (.ref (12 + 3)), some (.int x1), some (.int x2), some (.int x3), some (.int x4), some (.int p3.1)] [] _ _ from ?_))
          · replace h := zy_ifp h b4
            exact zy_sub (show zy_le [some (.ref (12 + 3)), some (.int x1), some (.int x2), some (.int x3), some (.int x4), none] [some (.ref (12 + 3)), some (.int x1), some (.int x2), some (.int x3), some (.int x4), some (.int p3.1)] from ⟨rfl, ⟨rfl, ⟨rfl, ⟨rfl, ⟨rfl, trivial⟩⟩⟩⟩⟩) (zyC85_87 hk11 h)
          · replace h := zy_ifn h b4
            exact zy_sub (show zy_le [some (.ref (12 + 3)), some (.int x1), none, none, some (.int x4), some (.int p3.1)] [some (.ref (12 + 3)), some (.int x1), some (.int x2), some (.int x3), some (.int x4), some (.int p3.1)] from ⟨rfl, ⟨rfl, ⟨rfl, ⟨rfl, trivial⟩⟩⟩⟩) (zyC85_81 hk11 h)
noncomputable def zyF85_11   (n : Nat) : Int32 → Int32 → Int32 → Int32 → zy_S → Option (Int32 × zy_S) := Nat.rec (fun _ _ _ _ _ => none) (fun _ k11 => zyF85_11b k11) n
theorem zyC85_11 {X : zx_X}     : ∀ (n : Nat) (x1 : Int32) (x2 : Int32) (x3 : Int32) (x4 : Int32) (s : zy_S) (r : Int32) (s' : zy_S), zyF85_11 n x1 x2 x3 x4 s = some (r, s') → zyR X 7 85 11 [some (.ref (12 + 3)), some (.int x1), some (.int x2), some (.int x3), some (.int x4), none] [] s (zyE (some (.int r)) s')
  | 0, _, _, _, _ => by
    intro s r s'  h
    have h : (none : Option (Int32 × zy_S)) = some (r, s') := h
    cases h
  | n + 1, x1, x2, x3, x4 => by
    intro s r s'  h
    exact zyC85_11b (k11 := zyF85_11 n) (fun x1 x2 x3 x4 s r s'  h => zyC85_11  n x1 x2 x3 x4 s r s'  h) h
noncomputable def zyF85   (x1 : Int32) (s : zy_S) : Option (Int32 × zy_S) :=
(zyF74 s).bind fun p9 =>
zyF85_11 zy_fu x1 (-1 : Int32) (0 : Int32) (0 : Int32) p9.2
theorem zyC85 {X : zx_X}     {x1 : Int32} {s : zy_S} {r : Int32} {s' : zy_S}  (h : zyF85 x1 s = some (r, s')) : zyR X 7 85 0 [some (.ref (12 + 3)), some (.int x1), none, none, none, none] [] s (zyE (some (.int r)) s') := by
  unfold zyF85 at h
  refine zy_0 rfl rfl (show zyR _ _ _ _ [some (.ref (12 + 3)), some (.int x1), none, none, none, none] [.ref (12 + 3)] _ _ from ?_)
  obtain ⟨p9, hp9, h⟩ := zy_bind h
  refine zy_5 (c := 12) (as := []) (rest := []) (L := [some (.ref (12 + 3))]) (d' := 2) rfl rfl rfl (Nat.le_of_ble_eq_true rfl) (Nat.le_of_ble_eq_true rfl) rfl (Nat.le_of_ble_eq_true rfl) rfl rfl (zyC74 hp9) ?_
  show zyR _ _ _ _ [some (.ref (12 + 3)), some (.int x1), none, none, none, none] [] _ _
  refine zy_3 rfl rfl (show zyR _ _ _ _ [some (.ref (12 + 3)), some (.int x1), none, none, none, none] [.int (-1 : Int32)] _ _ from ?_)
  refine zy_23 rfl rfl (show zyR _ _ _ _ [some (.ref (12 + 3)), some (.int x1), some (.int (-1 : Int32)), none, none, none] [] _ _ from ?_)
  refine zy_3 rfl rfl (show zyR _ _ _ _ [some (.ref (12 + 3)), some (.int x1), some (.int (-1 : Int32)), none, none, none] [.int (0 : Int32)] _ _ from ?_)
  refine zy_23 rfl rfl (show zyR _ _ _ _ [some (.ref (12 + 3)), some (.int x1), some (.int (-1 : Int32)), some (.int (0 : Int32)), none, none] [] _ _ from ?_)
  refine zy_3 rfl rfl (show zyR _ _ _ _ [some (.ref (12 + 3)), some (.int x1), some (.int (-1 : Int32)), some (.int (0 : Int32)), none, none] [.int (0 : Int32)] _ _ from ?_)
  refine zy_23 rfl rfl (show zyR _ _ _ _ [some (.ref (12 + 3)), some (.int x1), some (.int (-1 : Int32)), some (.int (0 : Int32)), some (.int (0 : Int32)), none] [] _ _ from ?_)
  exact zy_sub (show zy_le [some (.ref (12 + 3)), some (.int x1), some (.int (-1 : Int32)), some (.int (0 : Int32)), some (.int (0 : Int32)), none] [some (.ref (12 + 3)), some (.int x1), some (.int (-1 : Int32)), some (.int (0 : Int32)), some (.int (0 : Int32)), none] from ⟨rfl, ⟨rfl, ⟨rfl, ⟨rfl, ⟨rfl, trivial⟩⟩⟩⟩⟩) (zyC85_11 zy_fu x1 (-1 : Int32) (0 : Int32) (0 : Int32) p9.2 _ _ h)
/-! NineOpinions.lineOrNot(I)I -/
noncomputable def zyF87   (x0 : Int32) (s : zy_S) : Option (Int32 × zy_S) :=
if x0 ≠ (-1 : Int32) then
some (x0, s)
else
some ((-2 : Int32), s)
theorem zyC87 {X : zx_X}     {x0 : Int32} {s : zy_S} {r : Int32} {s' : zy_S}  (h : zyF87 x0 s = some (r, s')) : zyR X 1 87 0 [some (.int x0)] [] s (zyE (some (.int r)) s') := by
  unfold zyF87 at h
  refine zy_2 rfl rfl (show zyR _ _ _ _ [some (.int x0)] [.int x0] _ _ from ?_)
  refine zy_3 rfl rfl (show zyR _ _ _ _ [some (.int x0)] [.int (-1 : Int32), .int x0] _ _ from ?_)
  refine zy_25_1 rfl (fun b1 => (show zyR _ _ _ _ [some (.int x0)] [] _ _ from ?_)) (fun b1 => (show zyR _ _ _ _ [some (.int x0)] [] _ _ from ?_))
  · replace h := zy_ifp h b1
    refine zy_2 rfl rfl (show zyR _ _ _ _ [some (.int x0)] [.int x0] _ _ from ?_)
    obtain ⟨rfl, rfl⟩ := zy_pi h
    exact zy_4 rfl ⟨rfl, rfl⟩
  · replace h := zy_ifn h b1
    refine zy_3 rfl rfl (show zyR _ _ _ _ [some (.int x0)] [.int (-2 : Int32)] _ _ from ?_)
    refine zy_6 rfl (show zyR _ _ _ _ [some (.int x0)] [.int (-2 : Int32)] _ _ from ?_)
    obtain ⟨rfl, rfl⟩ := zy_pi h
    exact zy_4 rfl ⟨rfl, rfl⟩
/-! NineOpinions$Thought.withInsteadOf(II)I -/
noncomputable def zyF88   (x1 : Int32) (x2 : Int32) (s : zy_S) : Option (Int32 × zy_S) :=
(zyF74 s).bind fun p1 =>
(zyF54 (((p1.2.1 1 3) ^^^ ((1 : Int32) <<< (x2 &&& 31))) ||| ((1 : Int32) <<< (x1 &&& 31))) (p1.2.1 1 3) p1.2).bind fun p2 =>
some (p2.1, p2.2)
theorem zyC88 {X : zx_X}     {x1 : Int32} {x2 : Int32} {s : zy_S} {r : Int32} {s' : zy_S}  (h : zyF88 x1 x2 s = some (r, s')) : zyR X 7 88 0 [some (.ref (12 + 3)), some (.int x1), some (.int x2)] [] s (zyE (some (.int r)) s') := by
  unfold zyF88 at h
  refine zy_0 rfl rfl (show zyR _ _ _ _ [some (.ref (12 + 3)), some (.int x1), some (.int x2)] [.ref (12 + 3)] _ _ from ?_)
  obtain ⟨p1, hp1, h⟩ := zy_bind h
  refine zy_5 (c := 12) (as := []) (rest := []) (L := [some (.ref (12 + 3))]) (d' := 2) rfl rfl rfl (Nat.le_of_ble_eq_true rfl) (Nat.le_of_ble_eq_true rfl) rfl (Nat.le_of_ble_eq_true rfl) rfl rfl (zyC74 hp1) ?_
  show zyR _ _ _ _ [some (.ref (12 + 3)), some (.int x1), some (.int x2)] [] _ _
  refine zy_0 rfl rfl (show zyR _ _ _ _ [some (.ref (12 + 3)), some (.int x1), some (.int x2)] [.ref (12 + 3)] _ _ from ?_)
  refine zy_0 rfl rfl (show zyR _ _ _ _ [some (.ref (12 + 3)), some (.int x1), some (.int x2)] [.ref (12 + 3), .ref (12 + 3)] _ _ from ?_)
  refine zy_1r (c := 12) rfl rfl rfl (show zyR _ _ _ _ [some (.ref (12 + 3)), some (.int x1), some (.int x2)] [.ref (1 + 3), .ref (12 + 3)] _ _ from ?_)
  refine zy_1 (c := 1) rfl rfl rfl (show zyR _ _ _ _ [some (.ref (12 + 3)), some (.int x1), some (.int x2)] [.int (p1.2.1 1 3), .ref (12 + 3)] _ _ from ?_)
  refine zy_3 rfl rfl (show zyR _ _ _ _ [some (.ref (12 + 3)), some (.int x1), some (.int x2)] [.int (1 : Int32), .int (p1.2.1 1 3), .ref (12 + 3)] _ _ from ?_)
  refine zy_2 rfl rfl (show zyR _ _ _ _ [some (.ref (12 + 3)), some (.int x1), some (.int x2)] [.int x2, .int (1 : Int32), .int (p1.2.1 1 3), .ref (12 + 3)] _ _ from ?_)
  refine zy_16 rfl (show zyR _ _ _ _ [some (.ref (12 + 3)), some (.int x1), some (.int x2)] [.int ((1 : Int32) <<< (x2 &&& 31)), .int (p1.2.1 1 3), .ref (12 + 3)] _ _ from ?_)
  refine zy_15 rfl (show zyR _ _ _ _ [some (.ref (12 + 3)), some (.int x1), some (.int x2)] [.int ((p1.2.1 1 3) ^^^ ((1 : Int32) <<< (x2 &&& 31))), .ref (12 + 3)] _ _ from ?_)
  refine zy_3 rfl rfl (show zyR _ _ _ _ [some (.ref (12 + 3)), some (.int x1), some (.int x2)] [.int (1 : Int32), .int ((p1.2.1 1 3) ^^^ ((1 : Int32) <<< (x2 &&& 31))), .ref (12 + 3)] _ _ from ?_)
  refine zy_2 rfl rfl (show zyR _ _ _ _ [some (.ref (12 + 3)), some (.int x1), some (.int x2)] [.int x1, .int (1 : Int32), .int ((p1.2.1 1 3) ^^^ ((1 : Int32) <<< (x2 &&& 31))), .ref (12 + 3)] _ _ from ?_)
  refine zy_16 rfl (show zyR _ _ _ _ [some (.ref (12 + 3)), some (.int x1), some (.int x2)] [.int ((1 : Int32) <<< (x1 &&& 31)), .int ((p1.2.1 1 3) ^^^ ((1 : Int32) <<< (x2 &&& 31))), .ref (12 + 3)] _ _ from ?_)
  refine zy_14 rfl (show zyR _ _ _ _ [some (.ref (12 + 3)), some (.int x1), some (.int x2)] [.int (((p1.2.1 1 3) ^^^ ((1 : Int32) <<< (x2 &&& 31))) ||| ((1 : Int32) <<< (x1 &&& 31))), .ref (12 + 3)] _ _ from ?_)
  refine zy_0 rfl rfl (show zyR _ _ _ _ [some (.ref (12 + 3)), some (.int x1), some (.int x2)] [.ref (12 + 3), .int (((p1.2.1 1 3) ^^^ ((1 : Int32) <<< (x2 &&& 31))) ||| ((1 : Int32) <<< (x1 &&& 31))), .ref (12 + 3)] _ _ from ?_)
  refine zy_1r (c := 12) rfl rfl rfl (show zyR _ _ _ _ [some (.ref (12 + 3)), some (.int x1), some (.int x2)] [.ref (1 + 3), .int (((p1.2.1 1 3) ^^^ ((1 : Int32) <<< (x2 &&& 31))) ||| ((1 : Int32) <<< (x1 &&& 31))), .ref (12 + 3)] _ _ from ?_)
  refine zy_1 (c := 1) rfl rfl rfl (show zyR _ _ _ _ [some (.ref (12 + 3)), some (.int x1), some (.int x2)] [.int (p1.2.1 1 3), .int (((p1.2.1 1 3) ^^^ ((1 : Int32) <<< (x2 &&& 31))) ||| ((1 : Int32) <<< (x1 &&& 31))), .ref (12 + 3)] _ _ from ?_)
  obtain ⟨p2, hp2, h⟩ := zy_bind h
  refine zy_5 (c := 12) (as := [.int (((p1.2.1 1 3) ^^^ ((1 : Int32) <<< (x2 &&& 31))) ||| ((1 : Int32) <<< (x1 &&& 31))), .int (p1.2.1 1 3)]) (rest := []) (L := [some (.ref (12 + 3)), some (.int (((p1.2.1 1 3) ^^^ ((1 : Int32) <<< (x2 &&& 31))) ||| ((1 : Int32) <<< (x1 &&& 31)))), some (.int (p1.2.1 1 3)), none, none]) (d' := 6) rfl rfl rfl (Nat.le_of_ble_eq_true rfl) (Nat.le_of_ble_eq_true rfl) rfl (Nat.le_of_ble_eq_true rfl) rfl rfl (zyC54 hp2) ?_
  show zyR _ _ _ _ [some (.ref (12 + 3)), some (.int x1), some (.int x2)] [.int p2.1] _ _
  obtain ⟨rfl, rfl⟩ := zy_pi h
  exact zy_4 rfl ⟨rfl, rfl⟩
/-! NineOpinions.cost(II)I -/
noncomputable def zyF83_34   (x3 : Int32) (s : zy_S) : Option (Int32 × zy_S) :=
(zyF87 x3 s).bind fun p1 =>
some (p1.1, p1.2)
theorem zyC83_34 {X : zx_X}     {x3 : Int32} {s : zy_S} {r : Int32} {s' : zy_S}  (h : zyF83_34 x3 s = some (r, s')) : zyR X 8 83 34 [none, none, none, some (.int x3)] [] s (zyE (some (.int r)) s') := by
  unfold zyF83_34 at h
  refine zy_2 rfl rfl (show zyR _ _ _ _ [none, none, none, some (.int x3)] [.int x3] _ _ from ?_)
  obtain ⟨p1, hp1, h⟩ := zy_bind h
  refine zy_60 (as := [.int x3]) (rest := []) (L := [some (.int x3)]) (d' := 1) rfl rfl (Nat.le_of_ble_eq_true rfl) (Nat.le_of_ble_eq_true rfl) rfl (Nat.le_of_ble_eq_true rfl) rfl rfl (zyC87 hp1) ?_
  show zyR _ _ _ _ [none, none, none, some (.int x3)] [.int p1.1] _ _
  refine zy_6 rfl (show zyR _ _ _ _ [none, none, none, some (.int x3)] [.int p1.1] _ _ from ?_)
  obtain ⟨rfl, rfl⟩ := zy_pi h
  exact zy_4 rfl ⟨rfl, rfl⟩
noncomputable def zyF83   (x1 : Int32) (x2 : Int32) (s : zy_S) : Option (Int32 × zy_S) :=
(zyF26 x1 s).bind fun p2 =>
if p2.1 = 0 then
some ((-1 : Int32), p2.2)
else
(zyF84 x2 p2.2).bind fun p3 =>
if p3.1 ≠ 0 then
(zyF85 x1 p3.2).bind fun p4 =>
if x2 = 0 then
zyF83_34 p4.1 p4.2
else
if p4.1 ≠ (-1 : Int32) then
(zyF88 x1 p4.1 p4.2).bind fun p5 =>
some (p5.1, p5.2)
else
zyF83_34 p4.1 p4.2
else
some ((-1 : Int32), p3.2)
theorem zyC83 {X : zx_X}     {x1 : Int32} {x2 : Int32} {s : zy_S} {r : Int32} {s' : zy_S}  (h : zyF83 x1 x2 s = some (r, s')) : zyR X 8 83 0 [some (.ref (0 + 3)), some (.int x1), some (.int x2), none] [] s (zyE (some (.int r)) s') := by
  unfold zyF83 at h
  refine zy_2 rfl rfl (show zyR _ _ _ _ [some (.ref (0 + 3)), some (.int x1), some (.int x2), none] [.int x1] _ _ from ?_)
  obtain ⟨p2, hp2, h⟩ := zy_bind h
  refine zy_60 (as := [.int x1]) (rest := []) (L := [some (.int x1)]) (d' := 1) rfl rfl (Nat.le_of_ble_eq_true rfl) (Nat.le_of_ble_eq_true rfl) rfl (Nat.le_of_ble_eq_true rfl) rfl rfl (zyC26 hp2) ?_
  show zyR _ _ _ _ [some (.ref (0 + 3)), some (.int x1), some (.int x2), none] [.int p2.1] _ _
  refine zy_24_0 rfl (fun b9 => (show zyR _ _ _ _ [some (.ref (0 + 3)), some (.int x1), some (.int x2), none] [] _ _ from ?_)) (fun b9 => (show zyR _ _ _ _ [some (.ref (0 + 3)), some (.int x1), some (.int x2), none] [] _ _ from ?_))
  · replace h := zy_ifp h b9
    refine zy_3 rfl rfl (show zyR _ _ _ _ [some (.ref (0 + 3)), some (.int x1), some (.int x2), none] [.int (-1 : Int32)] _ _ from ?_)
    obtain ⟨rfl, rfl⟩ := zy_pi h
    exact zy_4 rfl ⟨rfl, rfl⟩
  · replace h := zy_ifn h b9
    refine zy_2 rfl rfl (show zyR _ _ _ _ [some (.ref (0 + 3)), some (.int x1), some (.int x2), none] [.int x2] _ _ from ?_)
    obtain ⟨p3, hp3, h⟩ := zy_bind h
    refine zy_60 (as := [.int x2]) (rest := []) (L := [some (.int x2)]) (d' := 1) rfl rfl (Nat.le_of_ble_eq_true rfl) (Nat.le_of_ble_eq_true rfl) rfl (Nat.le_of_ble_eq_true rfl) rfl rfl (zyC84 hp3) ?_
    show zyR _ _ _ _ [some (.ref (0 + 3)), some (.int x1), some (.int x2), none] [.int p3.1] _ _
    refine zy_24_1 rfl (fun b8 => (show zyR _ _ _ _ [some (.ref (0 + 3)), some (.int x1), some (.int x2), none] [] _ _ from ?_)) (fun b8 => (show zyR _ _ _ _ [some (.ref (0 + 3)), some (.int x1), some (.int x2), none] [] _ _ from ?_))
    · replace h := zy_ifp h b8
      refine zy_0 rfl rfl (show zyR _ _ _ _ [some (.ref (0 + 3)), some (.int x1), some (.int x2), none] [.ref (0 + 3)] _ _ from ?_)
      refine zy_1r (c := 0) rfl rfl rfl (show zyR _ _ _ _ [some (.ref (0 + 3)), some (.int x1), some (.int x2), none] [.ref (12 + 3)] _ _ from ?_)
      refine zy_2 rfl rfl (show zyR _ _ _ _ [some (.ref (0 + 3)), some (.int x1), some (.int x2), none] [.int x1, .ref (12 + 3)] _ _ from ?_)
      obtain ⟨p4, hp4, h⟩ := zy_bind h
      refine zy_5 (c := 12) (as := [.int x1]) (rest := []) (L := [some (.ref (12 + 3)), some (.int x1), none, none, none, none]) (d' := 7) rfl rfl rfl (Nat.le_of_ble_eq_true rfl) (Nat.le_of_ble_eq_true rfl) rfl (Nat.le_of_ble_eq_true rfl) rfl rfl (zyC85 hp4) ?_
      show zyR _ _ _ _ [some (.ref (0 + 3)), some (.int x1), some (.int x2), none] [.int p4.1] _ _
      refine zy_23 rfl rfl (show zyR _ _ _ _ [some (.ref (0 + 3)), some (.int x1), some (.int x2), some (.int p4.1)] [] _ _ from ?_)
      refine zy_2 rfl rfl (show zyR _ _ _ _ [some (.ref (0 + 3)), some (.int x1), some (.int x2), some (.int p4.1)] [.int x2] _ _ from ?_)
      refine zy_24_0 rfl (fun b7 => (show zyR _ _ _ _ [some (.ref (0 + 3)), some (.int x1), some (.int x2), some (.int p4.1)] [] _ _ from ?_)) (fun b7 => (show zyR _ _ _ _ [some (.ref (0 + 3)), some (.int x1), some (.int x2), some (.int p4.1)] [] _ _ from ?_))
      · replace h := zy_ifp h b7
        exact zy_sub (show zy_le [none, none, none, some (.int p4.1)] [some (.ref (0 + 3)), some (.int x1), some (.int x2), some (.int p4.1)] from ⟨rfl, trivial⟩) (zyC83_34 h)
      · replace h := zy_ifn h b7
        refine zy_2 rfl rfl (show zyR _ _ _ _ [some (.ref (0 + 3)), some (.int x1), some (.int x2), some (.int p4.1)] [.int p4.1] _ _ from ?_)
        refine zy_3 rfl rfl (show zyR _ _ _ _ [some (.ref (0 + 3)), some (.int x1), some (.int x2), some (.int p4.1)] [.int (-1 : Int32), .int p4.1] _ _ from ?_)
        refine zy_25_1 rfl (fun b6 => (show zyR _ _ _ _ [some (.ref (0 + 3)), some (.int x1), some (.int x2), some (.int p4.1)] [] _ _ from ?_)) (fun b6 => (show zyR _ _ _ _ [some (.ref (0 + 3)), some (.int x1), some (.int x2), some (.int p4.1)] [] _ _ from ?_))
        · replace h := zy_ifp h b6
          refine zy_0 rfl rfl (show zyR _ _ _ _ [some (.ref (0 + 3)), some (.int x1), some (.int x2), some (.int p4.1)] [.ref (0 + 3)] _ _ from ?_)
          refine zy_1r (c := 0) rfl rfl rfl (show zyR _ _ _ _ [some (.ref (0 + 3)), some (.int x1), some (.int x2), some (.int p4.1)] [.ref (12 + 3)] _ _ from ?_)
          refine zy_2 rfl rfl (show zyR _ _ _ _ [some (.ref (0 + 3)), some (.int x1), some (.int x2), some (.int p4.1)] [.int x1, .ref (12 + 3)] _ _ from ?_)
          refine zy_2 rfl rfl (show zyR _ _ _ _ [some (.ref (0 + 3)), some (.int x1), some (.int x2), some (.int p4.1)] [.int p4.1, .int x1, .ref (12 + 3)] _ _ from ?_)
          obtain ⟨p5, hp5, h⟩ := zy_bind h
          refine zy_5 (c := 12) (as := [.int x1, .int p4.1]) (rest := []) (L := [some (.ref (12 + 3)), some (.int x1), some (.int p4.1)]) (d' := 7) rfl rfl rfl (Nat.le_of_ble_eq_true rfl) (Nat.le_of_ble_eq_true rfl) rfl (Nat.le_of_ble_eq_true rfl) rfl rfl (zyC88 hp5) ?_
          show zyR _ _ _ _ [some (.ref (0 + 3)), some (.int x1), some (.int x2), some (.int p4.1)] [.int p5.1] _ _
          obtain ⟨rfl, rfl⟩ := zy_pi h
          exact zy_4 rfl ⟨rfl, rfl⟩
        · replace h := zy_ifn h b6
          exact zy_sub (show zy_le [none, none, none, some (.int p4.1)] [some (.ref (0 + 3)), some (.int x1), some (.int x2), some (.int p4.1)] from ⟨rfl, trivial⟩) (zyC83_34 h)
    · replace h := zy_ifn h b8
      refine zy_3 rfl rfl (show zyR _ _ _ _ [some (.ref (0 + 3)), some (.int x1), some (.int x2), none] [.int (-1 : Int32)] _ _ from ?_)
      obtain ⟨rfl, rfl⟩ := zy_pi h
      exact zy_4 rfl ⟨rfl, rfl⟩
end
section
/-! PART 41.37: methods as functions. Made by wip/v4/dcp.py. -/
/-! NineOpinionsModel.cost(II)I -/
noncomputable def zyF217_103  (k48 : Int32 → Int32 → Int32 → Int32 → Int32 → zy_S → Option (Int32 × zy_S)) (x1 : Int32) (x2 : Int32) (x3 : Int32) (x4 : Int32) (x5 : Int32) (s : zy_S) : Option (Int32 × zy_S) :=
k48 x1 x2 x3 x4 (x5 + (1 : Int32)) s
theorem zyC217_103 {X : zx_X}  {k48 : Int32 → Int32 → Int32 → Int32 → Int32 → zy_S → Option (Int32 × zy_S)}  (hk48 : ∀ (x1 : Int32) (x2 : Int32) (x3 : Int32) (x4 : Int32) (x5 : Int32) (s : zy_S) (r : Int32) (s' : zy_S), k48 x1 x2 x3 x4 x5 s = some (r, s') → zyR X 108 217 48 [some (.ref (43 + 3)), some (.int x1), some (.int x2), some (.int x3), some (.int x4), some (.int x5), none] [] s (zyE (some (.int r)) s')) {x1 : Int32} {x2 : Int32} {x3 : Int32} {x4 : Int32} {x5 : Int32} {s : zy_S} {r : Int32} {s' : zy_S}  (h : zyF217_103 k48 x1 x2 x3 x4 x5 s = some (r, s')) : zyR X 108 217 103 [some (.ref (43 + 3)), some (.int x1), some (.int x2), some (.int x3), some (.int x4), some (.int x5), none] [] s (zyE (some (.int r)) s') := by
  unfold zyF217_103 at h
  refine zy_22 rfl rfl rfl rfl (show zyR _ _ _ _ [some (.ref (43 + 3)), some (.int x1), some (.int x2), some (.int x3), some (.int x4), some (.int (x5 + (1 : Int32))), none] [] _ _ from ?_)
  refine zy_6 rfl (show zyR _ _ _ _ [some (.ref (43 + 3)), some (.int x1), some (.int x2), some (.int x3), some (.int x4), some (.int (x5 + (1 : Int32))), none] [] _ _ from ?_)
  exact zy_sub (show zy_le [some (.ref (43 + 3)), some (.int x1), some (.int x2), some (.int x3), some (.int x4), some (.int (x5 + (1 : Int32))), none] [some (.ref (43 + 3)), some (.int x1), some (.int x2), some (.int x3), some (.int x4), some (.int (x5 + (1 : Int32))), none] from ⟨rfl, ⟨rfl, ⟨rfl, ⟨rfl, ⟨rfl, ⟨rfl, trivial⟩⟩⟩⟩⟩⟩) (hk48 x1 x2 x3 x4 (x5 + (1 : Int32)) s _ _ h)
noncomputable def zyF217_96  (k48 : Int32 → Int32 → Int32 → Int32 → Int32 → zy_S → Option (Int32 × zy_S)) (x1 : Int32) (x2 : Int32) (x5 : Int32) (x6 : Int32) (s : zy_S) : Option (Int32 × zy_S) :=
zyF217_103 k48 x1 x2 x5 x6 x5 s
theorem zyC217_96 {X : zx_X}  {k48 : Int32 → Int32 → Int32 → Int32 → Int32 → zy_S → Option (Int32 × zy_S)}  (hk48 : ∀ (x1 : Int32) (x2 : Int32) (x3 : Int32) (x4 : Int32) (x5 : Int32) (s : zy_S) (r : Int32) (s' : zy_S), k48 x1 x2 x3 x4 x5 s = some (r, s') → zyR X 108 217 48 [some (.ref (43 + 3)), some (.int x1), some (.int x2), some (.int x3), some (.int x4), some (.int x5), none] [] s (zyE (some (.int r)) s')) {x1 : Int32} {x2 : Int32} {x5 : Int32} {x6 : Int32} {s : zy_S} {r : Int32} {s' : zy_S}  (h : zyF217_96 k48 x1 x2 x5 x6 s = some (r, s')) : zyR X 108 217 96 [some (.ref (43 + 3)), some (.int x1), some (.int x2), none, none, some (.int x5), some (.int x6)] [] s (zyE (some (.int r)) s') := by
  unfold zyF217_96 at h
  refine zy_2 rfl rfl (show zyR _ _ _ _ [some (.ref (43 + 3)), some (.int x1), some (.int x2), none, none, some (.int x5), some (.int x6)] [.int x5] _ _ from ?_)
  refine zy_23 rfl rfl (show zyR _ _ _ _ [some (.ref (43 + 3)), some (.int x1), some (.int x2), some (.int x5), none, some (.int x5), some (.int x6)] [] _ _ from ?_)
  refine zy_2 rfl rfl (show zyR _ _ _ _ [some (.ref (43 + 3)), some (.int x1), some (.int x2), some (.int x5), none, some (.int x5), some (.int x6)] [.int x6] _ _ from ?_)
  refine zy_23 rfl rfl (show zyR _ _ _ _ [some (.ref (43 + 3)), some (.int x1), some (.int x2), some (.int x5), some (.int x6), some (.int x5), some (.int x6)] [] _ _ from ?_)
  exact zy_sub (show zy_le [some (.ref (43 + 3)), some (.int x1), some (.int x2), some (.int x5), some (.int x6), some (.int x5), none] [some (.ref (43 + 3)), some (.int x1), some (.int x2), some (.int x5), some (.int x6), some (.int x5), some (.int x6)] from ⟨rfl, ⟨rfl, ⟨rfl, ⟨rfl, ⟨rfl, ⟨rfl, trivial⟩⟩⟩⟩⟩⟩) (zyC217_103 hk48 h)
noncomputable def zyF217_48b  (k48 : Int32 → Int32 → Int32 → Int32 → Int32 → zy_S → Option (Int32 × zy_S)) (x1 : Int32) (x2 : Int32) (x3 : Int32) (x4 : Int32) (x5 : Int32) (s : zy_S) : Option (Int32 × zy_S) :=
if (24 : Int32) ≤ x5 then
if x2 ≠ 0 then
some (x4, s)
else
some (x3, s)
else
(zyF208 (s.1 43 7) x5 s).bind fun p2 =>
if p2.1 = 0 then
zyF217_103 k48 x1 x2 x3 x4 x5 p2.2
else
(zyF211 x1 ((p2.2.1 43 7) &&& (((1 : Int32) <<< (x5 &&& 31)) ^^^ (-1 : Int32))) p2.2).bind fun p3 =>
if x3 < 0 then
zyF217_96 k48 x1 x2 x5 p3.1 p3.2
else
if x4 ≤ p3.1 then
zyF217_103 k48 x1 x2 x3 x4 x5 p3.2
else
zyF217_96 k48 x1 x2 x5 p3.1 p3.2
theorem zyC217_48b {X : zx_X}  {k48 : Int32 → Int32 → Int32 → Int32 → Int32 → zy_S → Option (Int32 × zy_S)}  (hk48 : ∀ (x1 : Int32) (x2 : Int32) (x3 : Int32) (x4 : Int32) (x5 : Int32) (s : zy_S) (r : Int32) (s' : zy_S), k48 x1 x2 x3 x4 x5 s = some (r, s') → zyR X 108 217 48 [some (.ref (43 + 3)), some (.int x1), some (.int x2), some (.int x3), some (.int x4), some (.int x5), none] [] s (zyE (some (.int r)) s')) {x1 : Int32} {x2 : Int32} {x3 : Int32} {x4 : Int32} {x5 : Int32} {s : zy_S} {r : Int32} {s' : zy_S}  (h : zyF217_48b k48 x1 x2 x3 x4 x5 s = some (r, s')) : zyR X 108 217 48 [some (.ref (43 + 3)), some (.int x1), some (.int x2), some (.int x3), some (.int x4), some (.int x5), none] [] s (zyE (some (.int r)) s') := by
  unfold zyF217_48b at h
  refine zy_2 rfl rfl (show zyR _ _ _ _ [some (.ref (43 + 3)), some (.int x1), some (.int x2), some (.int x3), some (.int x4), some (.int x5), none] [.int x5] _ _ from ?_)
  refine zy_3 rfl rfl (show zyR _ _ _ _ [some (.ref (43 + 3)), some (.int x1), some (.int x2), some (.int x3), some (.int x4), some (.int x5), none] [.int (24 : Int32), .int x5] _ _ from ?_)
  refine zy_25_3 rfl (fun b7 => (show zyR _ _ _ _ [some (.ref (43 + 3)), some (.int x1), some (.int x2), some (.int x3), some (.int x4), some (.int x5), none] [] _ _ from ?_)) (fun b7 => (show zyR _ _ _ _ [some (.ref (43 + 3)), some (.int x1), some (.int x2), some (.int x3), some (.int x4), some (.int x5), none] [] _ _ from ?_))
  · replace h := zy_ifp h b7
    refine zy_2 rfl rfl (show zyR _ _ _ _ [some (.ref (43 + 3)), some (.int x1), some (.int x2), some (.int x3), some (.int x4), some (.int x5), none] [.int x2] _ _ from ?_)
    refine zy_24_1 rfl (fun b1 => (show zyR _ _ _ _ [some (.ref (43 + 3)), some (.int x1), some (.int x2), some (.int x3), some (.int x4), some (.int x5), none] [] _ _ from ?_)) (fun b1 => (show zyR _ _ _ _ [some (.ref (43 + 3)), some (.int x1), some (.int x2), some (.int x3), some (.int x4), some (.int x5), none] [] _ _ from ?_))
    · replace h := zy_ifp h b1
      refine zy_2 rfl rfl (show zyR _ _ _ _ [some (.ref (43 + 3)), some (.int x1), some (.int x2), some (.int x3), some (.int x4), some (.int x5), none] [.int x4] _ _ from ?_)
      obtain ⟨rfl, rfl⟩ := zy_pi h
      exact zy_4 rfl ⟨rfl, rfl⟩
    · replace h := zy_ifn h b1
      refine zy_2 rfl rfl (show zyR _ _ _ _ [some (.ref (43 + 3)), some (.int x1), some (.int x2), some (.int x3), some (.int x4), some (.int x5), none] [.int x3] _ _ from ?_)
      refine zy_6 rfl (show zyR _ _ _ _ [some (.ref (43 + 3)), some (.int x1), some (.int x2), some (.int x3), some (.int x4), some (.int x5), none] [.int x3] _ _ from ?_)
      obtain ⟨rfl, rfl⟩ := zy_pi h
      exact zy_4 rfl ⟨rfl, rfl⟩
  · replace h := zy_ifn h b7
    refine zy_0 rfl rfl (show zyR _ _ _ _ [some (.ref (43 + 3)), some (.int x1), some (.int x2), some (.int x3), some (.int x4), some (.int x5), none] [.ref (43 + 3)] _ _ from ?_)
    refine zy_1 (c := 43) rfl rfl rfl (show zyR _ _ _ _ [some (.ref (43 + 3)), some (.int x1), some (.int x2), some (.int x3), some (.int x4), some (.int x5), none] [.int (s.1 43 7)] _ _ from ?_)
    refine zy_2 rfl rfl (show zyR _ _ _ _ [some (.ref (43 + 3)), some (.int x1), some (.int x2), some (.int x3), some (.int x4), some (.int x5), none] [.int x5, .int (s.1 43 7)] _ _ from ?_)
    obtain ⟨p2, hp2, h⟩ := zy_bind h
    refine zy_60 (as := [.int (s.1 43 7), .int x5]) (rest := []) (L := [some (.int (s.1 43 7)), some (.int x5)]) (d' := 1) rfl rfl (Nat.le_of_ble_eq_true rfl) (Nat.le_of_ble_eq_true rfl) rfl (Nat.le_of_ble_eq_true rfl) rfl rfl (zyC208 hp2) ?_
    show zyR _ _ _ _ [some (.ref (43 + 3)), some (.int x1), some (.int x2), some (.int x3), some (.int x4), some (.int x5), none] [.int p2.1] _ _
    refine zy_24_0 rfl (fun b6 => (show zyR _ _ _ _ [some (.ref (43 + 3)), some (.int x1), some (.int x2), some (.int x3), some (.int x4), some (.int x5), none] [] _ _ from ?_)) (fun b6 => (show zyR _ _ _ _ [some (.ref (43 + 3)), some (.int x1), some (.int x2), some (.int x3), some (.int x4), some (.int x5), none] [] _ _ from ?_))
    · replace h := zy_ifp h b6
      exact zy_sub (show zy_le [some (.ref (43 + 3)), some (.int x1), some (.int x2), some (.int x3), some (.int x4), some (.int x5), none] [some (.ref (43 + 3)), some (.int x1), some (.int x2), some (.int x3), some (.int x4), some (.int x5), none] from ⟨rfl, ⟨rfl, ⟨rfl, ⟨rfl, ⟨rfl, ⟨rfl, trivial⟩⟩⟩⟩⟩⟩) (zyC217_103 hk48 h)
    · replace h := zy_ifn h b6
      refine zy_0 rfl rfl (show zyR _ _ _ _ [some (.ref (43 + 3)), some (.int x1), some (.int x2), some (.int x3), some (.int x4), some (.int x5), none] [.ref (43 + 3)] _ _ from ?_)
      refine zy_2 rfl rfl (show zyR _ _ _ _ [some (.ref (43 + 3)), some (.int x1), some (.int x2), some (.int x3), some (.int x4), some (.int x5), none] [.int x1, .ref (43 + 3)] _ _ from ?_)
      refine zy_0 rfl rfl (show zyR _ _ _ _ [some (.ref (43 + 3)), some (.int x1), some (.int x2), some (.int x3), some (.int x4), some (.int x5), none] [.ref (43 + 3), .int x1, .ref (43 + 3)] _ _ from ?_)
      refine zy_1 (c := 43) rfl rfl rfl (show zyR _ _ _ _ [some (.ref (43 + 3)), some (.int x1), some (.int x2), some (.int x3), some (.int x4), some (.int x5), none] [.int (p2.2.1 43 7), .int x1, .ref (43 + 3)] _ _ from ?_)
      refine zy_3 rfl rfl (show zyR _ _ _ _ [some (.ref (43 + 3)), some (.int x1), some (.int x2), some (.int x3), some (.int x4), some (.int x5), none] [.int (1 : Int32), .int (p2.2.1 43 7), .int x1, .ref (43 + 3)] _ _ from ?_)
      refine zy_2 rfl rfl (show zyR _ _ _ _ [some (.ref (43 + 3)), some (.int x1), some (.int x2), some (.int x3), some (.int x4), some (.int x5), none] [.int x5, .int (1 : Int32), .int (p2.2.1 43 7), .int x1, .ref (43 + 3)] _ _ from ?_)
      refine zy_16 rfl (show zyR _ _ _ _ [some (.ref (43 + 3)), some (.int x1), some (.int x2), some (.int x3), some (.int x4), some (.int x5), none] [.int ((1 : Int32) <<< (x5 &&& 31)), .int (p2.2.1 43 7), .int x1, .ref (43 + 3)] _ _ from ?_)
      refine zy_3 rfl rfl (show zyR _ _ _ _ [some (.ref (43 + 3)), some (.int x1), some (.int x2), some (.int x3), some (.int x4), some (.int x5), none] [.int (-1 : Int32), .int ((1 : Int32) <<< (x5 &&& 31)), .int (p2.2.1 43 7), .int x1, .ref (43 + 3)] _ _ from ?_)
      refine zy_15 rfl (show zyR _ _ _ _ [some (.ref (43 + 3)), some (.int x1), some (.int x2), some (.int x3), some (.int x4), some (.int x5), none] [.int (((1 : Int32) <<< (x5 &&& 31)) ^^^ (-1 : Int32)), .int (p2.2.1 43 7), .int x1, .ref (43 + 3)] _ _ from ?_)
      refine zy_13 rfl (show zyR _ _ _ _ [some (.ref (43 + 3)), some (.int x1), some (.int x2), some (.int x3), some (.int x4), some (.int x5), none] [.int ((p2.2.1 43 7) &&& (((1 : Int32) <<< (x5 &&& 31)) ^^^ (-1 : Int32))), .int x1, .ref (43 + 3)] _ _ from ?_)
      obtain ⟨p3, hp3, h⟩ := zy_bind h
      refine zy_5 (c := 43) (as := [.int x1, .int ((p2.2.1 43 7) &&& (((1 : Int32) <<< (x5 &&& 31)) ^^^ (-1 : Int32)))]) (rest := []) (L := [some (.ref (43 + 3)), some (.int x1), some (.int ((p2.2.1 43 7) &&& (((1 : Int32) <<< (x5 &&& 31)) ^^^ (-1 : Int32)))), none, none]) (d' := 107) rfl rfl rfl (Nat.le_of_ble_eq_true rfl) (Nat.le_of_ble_eq_true rfl) rfl (Nat.le_of_ble_eq_true rfl) rfl rfl (zyC211 hp3) ?_
      show zyR _ _ _ _ [some (.ref (43 + 3)), some (.int x1), some (.int x2), some (.int x3), some (.int x4), some (.int x5), none] [.int p3.1] _ _
      refine zy_23 rfl rfl (show zyR _ _ _ _ [some (.ref (43 + 3)), some (.int x1), some (.int x2), some (.int x3), some (.int x4), some (.int x5), some (.int p3.1)] [] _ _ from ?_)
      refine zy_2 rfl rfl (show zyR _ _ _ _ [some (.ref (43 + 3)), some (.int x1), some (.int x2), some (.int x3), some (.int x4), some (.int x5), some (.int p3.1)] [.int x3] _ _ from ?_)
      refine zy_24_2 rfl (fun b5 => (show zyR _ _ _ _ [some (.ref (43 + 3)), some (.int x1), some (.int x2), some (.int x3), some (.int x4), some (.int x5), some (.int p3.1)] [] _ _ from ?_)) (fun b5 => (show zyR _ _ _ _ [some (.ref (43 + 3)), some (.int x1), some (.int x2), some (.int x3), some (.int x4), some (.int x5), some (.int p3.1)] [] _ _ from ?_))
      · replace h := zy_ifp h b5
        exact zy_sub (show zy_le [some (.ref (43 + 3)), some (.int x1), some (.int x2), none, none, some (.int x5), some (.int p3.1)] [some (.ref (43 + 3)), some (.int x1), some (.int x2), some (.int x3), some (.int x4), some (.int x5), some (.int p3.1)] from ⟨rfl, ⟨rfl, ⟨rfl, ⟨rfl, ⟨rfl, trivial⟩⟩⟩⟩⟩) (zyC217_96 hk48 h)
      · replace h := zy_ifn h b5
        refine zy_2 rfl rfl (show zyR _ _ _ _ [some (.ref (43 + 3)), some (.int x1), some (.int x2), some (.int x3), some (.int x4), some (.int x5), some (.int p3.1)] [.int p3.1] _ _ from ?_)
        refine zy_2 rfl rfl (show zyR _ _ _ _ [some (.ref (43 + 3)), some (.int x1), some (.int x2), some (.int x3), some (.int x4), some (.int x5), some (.int p3.1)] [.int x4, .int p3.1] _ _ from ?_)
        refine zy_25_3 rfl (fun b4 => (show zyR _ _ _ _ [some (.ref (43 + 3)), some (.int x1), some (.int x2), some (.int x3), some (.int x4), some (.int x5), some (.int p3.1)] [] _ _ from ?_)) (fun b4 => (show zyR _ _ _ _ [some (.ref (43 + 3)), some (.int x1), some (.int x2), some (.int x3), some (.int x4), some (.int x5), some (.int p3.1)] [] _ _ from ?_))
        · replace h := zy_ifp h b4
          exact zy_sub (show zy_le [some (.ref (43 + 3)), some (.int x1), some (.int x2), some (.int x3), some (.int x4), some (.int x5), none] [some (.ref (43 + 3)), some (.int x1), some (.int x2), some (.int x3), some (.int x4), some (.int x5), some (.int p3.1)] from ⟨rfl, ⟨rfl, ⟨rfl, ⟨rfl, ⟨rfl, ⟨rfl, trivial⟩⟩⟩⟩⟩⟩) (zyC217_103 hk48 h)
        · replace h := zy_ifn h b4
          exact zy_sub (show zy_le [some (.ref (43 + 3)), some (.int x1), some (.int x2), none, none, some (.int x5), some (.int p3.1)] [some (.ref (43 + 3)), some (.int x1), some (.int x2), some (.int x3), some (.int x4), some (.int x5), some (.int p3.1)] from ⟨rfl, ⟨rfl, ⟨rfl, ⟨rfl, ⟨rfl, trivial⟩⟩⟩⟩⟩) (zyC217_96 hk48 h)
noncomputable def zyF217_48   (n : Nat) : Int32 → Int32 → Int32 → Int32 → Int32 → zy_S → Option (Int32 × zy_S) := Nat.rec (fun _ _ _ _ _ _ => none) (fun _ k48 => zyF217_48b k48) n
theorem zyC217_48 {X : zx_X}     : ∀ (n : Nat) (x1 : Int32) (x2 : Int32) (x3 : Int32) (x4 : Int32) (x5 : Int32) (s : zy_S) (r : Int32) (s' : zy_S), zyF217_48 n x1 x2 x3 x4 x5 s = some (r, s') → zyR X 108 217 48 [some (.ref (43 + 3)), some (.int x1), some (.int x2), some (.int x3), some (.int x4), some (.int x5), none] [] s (zyE (some (.int r)) s')
  | 0, _, _, _, _, _ => by
    intro s r s'  h
    have h : (none : Option (Int32 × zy_S)) = some (r, s') := h
    cases h
  | n + 1, x1, x2, x3, x4, x5 => by
    intro s r s'  h
    exact zyC217_48b (k48 := zyF217_48 n) (fun x1 x2 x3 x4 x5 s r s'  h => zyC217_48  n x1 x2 x3 x4 x5 s r s'  h) h
noncomputable def zyF217   (x1 : Int32) (x2 : Int32) (s : zy_S) : Option (Int32 × zy_S) :=
(zyF186 (x1).toInt64 s).bind fun p8 =>
if p8.1 = 0 then
some ((-1 : Int32), p8.2)
else
(zyF179 (x2).toInt64 (0 : Int64) (1 : Int64) p8.2).bind fun p9 =>
if p9.1 ≠ 0 then
(zyF208 (p9.2.1 43 7) x1 p9.2).bind fun p10 =>
if p10.1 = 0 then
(zyF203 p10.2).bind fun p11 =>
zyF217_48 zy_fu x1 x2 (-2 : Int32) (-2 : Int32) (0 : Int32) p11.2
else
some ((-2 : Int32), p10.2)
else
some ((-1 : Int32), p9.2)
theorem zyC217 {X : zx_X}     {x1 : Int32} {x2 : Int32} {s : zy_S} {r : Int32} {s' : zy_S}  (h : zyF217 x1 x2 s = some (r, s')) : zyR X 108 217 0 [some (.ref (43 + 3)), some (.int x1), some (.int x2), none, none, none, none] [] s (zyE (some (.int r)) s') := by
  unfold zyF217 at h
  refine zy_2 rfl rfl (show zyR _ _ _ _ [some (.ref (43 + 3)), some (.int x1), some (.int x2), none, none, none, none] [.int x1] _ _ from ?_)
  refine zy_40 rfl (show zyR _ _ _ _ [some (.ref (43 + 3)), some (.int x1), some (.int x2), none, none, none, none] [.long (x1).toInt64] _ _ from ?_)
  obtain ⟨p8, hp8, h⟩ := zy_bind h
  refine zy_60 (as := [.long (x1).toInt64]) (rest := []) (L := [some (.long (x1).toInt64), none]) (d' := 2) rfl rfl (Nat.le_of_ble_eq_true rfl) (Nat.le_of_ble_eq_true rfl) rfl (Nat.le_of_ble_eq_true rfl) rfl rfl (zyC186 hp8) ?_
  show zyR _ _ _ _ [some (.ref (43 + 3)), some (.int x1), some (.int x2), none, none, none, none] [.int p8.1] _ _
  refine zy_24_0 rfl (fun b14 => (show zyR _ _ _ _ [some (.ref (43 + 3)), some (.int x1), some (.int x2), none, none, none, none] [] _ _ from ?_)) (fun b14 => (show zyR _ _ _ _ [some (.ref (43 + 3)), some (.int x1), some (.int x2), none, none, none, none] [] _ _ from ?_))
  · replace h := zy_ifp h b14
    refine zy_3 rfl rfl (show zyR _ _ _ _ [some (.ref (43 + 3)), some (.int x1), some (.int x2), none, none, none, none] [.int (-1 : Int32)] _ _ from ?_)
    obtain ⟨rfl, rfl⟩ := zy_pi h
    exact zy_4 rfl ⟨rfl, rfl⟩
  · replace h := zy_ifn h b14
    refine zy_2 rfl rfl (show zyR _ _ _ _ [some (.ref (43 + 3)), some (.int x1), some (.int x2), none, none, none, none] [.int x2] _ _ from ?_)
    refine zy_40 rfl (show zyR _ _ _ _ [some (.ref (43 + 3)), some (.int x1), some (.int x2), none, none, none, none] [.long (x2).toInt64] _ _ from ?_)
    refine zy_36 rfl rfl (show zyR _ _ _ _ [some (.ref (43 + 3)), some (.int x1), some (.int x2), none, none, none, none] [.long (0 : Int64), .long (x2).toInt64] _ _ from ?_)
    refine zy_36 rfl rfl (show zyR _ _ _ _ [some (.ref (43 + 3)), some (.int x1), some (.int x2), none, none, none, none] [.long (1 : Int64), .long (0 : Int64), .long (x2).toInt64] _ _ from ?_)
    obtain ⟨p9, hp9, h⟩ := zy_bind h
    refine zy_60 (as := [.long (x2).toInt64, .long (0 : Int64), .long (1 : Int64)]) (rest := []) (L := [some (.long (x2).toInt64), none, some (.long (0 : Int64)), none, some (.long (1 : Int64)), none]) (d' := 1) rfl rfl (Nat.le_of_ble_eq_true rfl) (Nat.le_of_ble_eq_true rfl) rfl (Nat.le_of_ble_eq_true rfl) rfl rfl (zyC179 hp9) ?_
    show zyR _ _ _ _ [some (.ref (43 + 3)), some (.int x1), some (.int x2), none, none, none, none] [.int p9.1] _ _
    refine zy_24_1 rfl (fun b13 => (show zyR _ _ _ _ [some (.ref (43 + 3)), some (.int x1), some (.int x2), none, none, none, none] [] _ _ from ?_)) (fun b13 => (show zyR _ _ _ _ [some (.ref (43 + 3)), some (.int x1), some (.int x2), none, none, none, none] [] _ _ from ?_))
    · replace h := zy_ifp h b13
      refine zy_0 rfl rfl (show zyR _ _ _ _ [some (.ref (43 + 3)), some (.int x1), some (.int x2), none, none, none, none] [.ref (43 + 3)] _ _ from ?_)
      refine zy_1 (c := 43) rfl rfl rfl (show zyR _ _ _ _ [some (.ref (43 + 3)), some (.int x1), some (.int x2), none, none, none, none] [.int (p9.2.1 43 7)] _ _ from ?_)
      refine zy_2 rfl rfl (show zyR _ _ _ _ [some (.ref (43 + 3)), some (.int x1), some (.int x2), none, none, none, none] [.int x1, .int (p9.2.1 43 7)] _ _ from ?_)
      obtain ⟨p10, hp10, h⟩ := zy_bind h
      refine zy_60 (as := [.int (p9.2.1 43 7), .int x1]) (rest := []) (L := [some (.int (p9.2.1 43 7)), some (.int x1)]) (d' := 1) rfl rfl (Nat.le_of_ble_eq_true rfl) (Nat.le_of_ble_eq_true rfl) rfl (Nat.le_of_ble_eq_true rfl) rfl rfl (zyC208 hp10) ?_
      show zyR _ _ _ _ [some (.ref (43 + 3)), some (.int x1), some (.int x2), none, none, none, none] [.int p10.1] _ _
      refine zy_24_0 rfl (fun b12 => (show zyR _ _ _ _ [some (.ref (43 + 3)), some (.int x1), some (.int x2), none, none, none, none] [] _ _ from ?_)) (fun b12 => (show zyR _ _ _ _ [some (.ref (43 + 3)), some (.int x1), some (.int x2), none, none, none, none] [] _ _ from ?_))
      · replace h := zy_ifp h b12
        refine zy_0 rfl rfl (show zyR _ _ _ _ [some (.ref (43 + 3)), some (.int x1), some (.int x2), none, none, none, none] [.ref (43 + 3)] _ _ from ?_)
        obtain ⟨p11, hp11, h⟩ := zy_bind h
        refine zy_5 (c := 43) (as := []) (rest := []) (L := [some (.ref (43 + 3)), none]) (d' := 1) rfl rfl rfl (Nat.le_of_ble_eq_true rfl) (Nat.le_of_ble_eq_true rfl) rfl (Nat.le_of_ble_eq_true rfl) rfl rfl (zyC203 hp11) ?_
        show zyR _ _ _ _ [some (.ref (43 + 3)), some (.int x1), some (.int x2), none, none, none, none] [] _ _
        refine zy_3 rfl rfl (show zyR _ _ _ _ [some (.ref (43 + 3)), some (.int x1), some (.int x2), none, none, none, none] [.int (-2 : Int32)] _ _ from ?_)
        refine zy_23 rfl rfl (show zyR _ _ _ _ [some (.ref (43 + 3)), some (.int x1), some (.int x2), some (.int (-2 : Int32)), none, none, none] [] _ _ from ?_)
        refine zy_3 rfl rfl (show zyR _ _ _ _ [some (.ref (43 + 3)), some (.int x1), some (.int x2), some (.int (-2 : Int32)), none, none, none] [.int (-2 : Int32)] _ _ from ?_)
        refine zy_23 rfl rfl (show zyR _ _ _ _ [some (.ref (43 + 3)), some (.int x1), some (.int x2), some (.int (-2 : Int32)), some (.int (-2 : Int32)), none, none] [] _ _ from ?_)
        refine zy_3 rfl rfl (show zyR _ _ _ _ [some (.ref (43 + 3)), some (.int x1), some (.int x2), some (.int (-2 : Int32)), some (.int (-2 : Int32)), none, none] [.int (0 : Int32)] _ _ from ?_)
        refine zy_23 rfl rfl (show zyR _ _ _ _ [some (.ref (43 + 3)), some (.int x1), some (.int x2), some (.int (-2 : Int32)), some (.int (-2 : Int32)), some (.int (0 : Int32)), none] [] _ _ from ?_)
        exact zy_sub (show zy_le [some (.ref (43 + 3)), some (.int x1), some (.int x2), some (.int (-2 : Int32)), some (.int (-2 : Int32)), some (.int (0 : Int32)), none] [some (.ref (43 + 3)), some (.int x1), some (.int x2), some (.int (-2 : Int32)), some (.int (-2 : Int32)), some (.int (0 : Int32)), none] from ⟨rfl, ⟨rfl, ⟨rfl, ⟨rfl, ⟨rfl, ⟨rfl, trivial⟩⟩⟩⟩⟩⟩) (zyC217_48 zy_fu x1 x2 (-2 : Int32) (-2 : Int32) (0 : Int32) p11.2 _ _ h)
      · replace h := zy_ifn h b12
        refine zy_3 rfl rfl (show zyR _ _ _ _ [some (.ref (43 + 3)), some (.int x1), some (.int x2), none, none, none, none] [.int (-2 : Int32)] _ _ from ?_)
        obtain ⟨rfl, rfl⟩ := zy_pi h
        exact zy_4 rfl ⟨rfl, rfl⟩
    · replace h := zy_ifn h b13
      refine zy_3 rfl rfl (show zyR _ _ _ _ [some (.ref (43 + 3)), some (.int x1), some (.int x2), none, none, none, none] [.int (-1 : Int32)] _ _ from ?_)
      obtain ⟨rfl, rfl⟩ := zy_pi h
      exact zy_4 rfl ⟨rfl, rfl⟩
/-! NineOpinions$Thought.bestChange()I -/
noncomputable def zyF90_89  (k27 : Int32 → Int32 → Int32 → zy_S → Option (Int32 × zy_S)) (x1 : Int32) (x2 : Int32) (x3 : Int32) (s : zy_S) : Option (Int32 × zy_S) :=
k27 x1 x2 (x3 + (1 : Int32)) s
theorem zyC90_89 {X : zx_X}  {k27 : Int32 → Int32 → Int32 → zy_S → Option (Int32 × zy_S)}  (hk27 : ∀ (x1 : Int32) (x2 : Int32) (x3 : Int32) (s : zy_S) (r : Int32) (s' : zy_S), k27 x1 x2 x3 s = some (r, s') → zyR X 7 90 27 [some (.ref (12 + 3)), some (.int x1), some (.int x2), some (.int x3), none] [] s (zyE (some (.int r)) s')) {x1 : Int32} {x2 : Int32} {x3 : Int32} {s : zy_S} {r : Int32} {s' : zy_S}  (h : zyF90_89 k27 x1 x2 x3 s = some (r, s')) : zyR X 7 90 89 [some (.ref (12 + 3)), some (.int x1), some (.int x2), some (.int x3), none] [] s (zyE (some (.int r)) s') := by
  unfold zyF90_89 at h
  refine zy_22 rfl rfl rfl rfl (show zyR _ _ _ _ [some (.ref (12 + 3)), some (.int x1), some (.int x2), some (.int (x3 + (1 : Int32))), none] [] _ _ from ?_)
  refine zy_6 rfl (show zyR _ _ _ _ [some (.ref (12 + 3)), some (.int x1), some (.int x2), some (.int (x3 + (1 : Int32))), none] [] _ _ from ?_)
  exact zy_sub (show zy_le [some (.ref (12 + 3)), some (.int x1), some (.int x2), some (.int (x3 + (1 : Int32))), none] [some (.ref (12 + 3)), some (.int x1), some (.int x2), some (.int (x3 + (1 : Int32))), none] from ⟨rfl, ⟨rfl, ⟨rfl, ⟨rfl, trivial⟩⟩⟩⟩) (hk27 x1 x2 (x3 + (1 : Int32)) s _ _ h)
noncomputable def zyF90_54  (k27 : Int32 → Int32 → Int32 → zy_S → Option (Int32 × zy_S)) (x1 : Int32) (x2 : Int32) (x3 : Int32) (s : zy_S) : Option (Int32 × zy_S) :=
(zyF54 ((s.1 1 3) ^^^ ((1 : Int32) <<< (x3 &&& 31))) (s.1 1 3) s).bind fun p1 =>
if x2 ≤ p1.1 then
zyF90_89 k27 x1 x2 x3 p1.2
else
zyF90_89 k27 x3 p1.1 x3 p1.2
theorem zyC90_54 {X : zx_X}  {k27 : Int32 → Int32 → Int32 → zy_S → Option (Int32 × zy_S)}  (hk27 : ∀ (x1 : Int32) (x2 : Int32) (x3 : Int32) (s : zy_S) (r : Int32) (s' : zy_S), k27 x1 x2 x3 s = some (r, s') → zyR X 7 90 27 [some (.ref (12 + 3)), some (.int x1), some (.int x2), some (.int x3), none] [] s (zyE (some (.int r)) s')) {x1 : Int32} {x2 : Int32} {x3 : Int32} {s : zy_S} {r : Int32} {s' : zy_S}  (h : zyF90_54 k27 x1 x2 x3 s = some (r, s')) : zyR X 7 90 54 [some (.ref (12 + 3)), some (.int x1), some (.int x2), some (.int x3), none] [] s (zyE (some (.int r)) s') := by
  unfold zyF90_54 at h
  refine zy_0 rfl rfl (show zyR _ _ _ _ [some (.ref (12 + 3)), some (.int x1), some (.int x2), some (.int x3), none] [.ref (12 + 3)] _ _ from ?_)
  refine zy_0 rfl rfl (show zyR _ _ _ _ [some (.ref (12 + 3)), some (.int x1), some (.int x2), some (.int x3), none] [.ref (12 + 3), .ref (12 + 3)] _ _ from ?_)
  refine zy_1r (c := 12) rfl rfl rfl (show zyR _ _ _ _ [some (.ref (12 + 3)), some (.int x1), some (.int x2), some (.int x3), none] [.ref (1 + 3), .ref (12 + 3)] _ _ from ?_)
  refine zy_1 (c := 1) rfl rfl rfl (show zyR _ _ _ _ [some (.ref (12 + 3)), some (.int x1), some (.int x2), some (.int x3), none] [.int (s.1 1 3), .ref (12 + 3)] _ _ from ?_)
  refine zy_3 rfl rfl (show zyR _ _ _ _ [some (.ref (12 + 3)), some (.int x1), some (.int x2), some (.int x3), none] [.int (1 : Int32), .int (s.1 1 3), .ref (12 + 3)] _ _ from ?_)
  refine zy_2 rfl rfl (show zyR _ _ _ _ [some (.ref (12 + 3)), some (.int x1), some (.int x2), some (.int x3), none] [.int x3, .int (1 : Int32), .int (s.1 1 3), .ref (12 + 3)] _ _ from ?_)
  refine zy_16 rfl (show zyR _ _ _ _ [some (.ref (12 + 3)), some (.int x1), some (.int x2), some (.int x3), none] [.int ((1 : Int32) <<< (x3 &&& 31)), .int (s.1 1 3), .ref (12 + 3)] _ _ from ?_)
  refine zy_15 rfl (show zyR _ _ _ _ [some (.ref (12 + 3)), some (.int x1), some (.int x2), some (.int x3), none] [.int ((s.1 1 3) ^^^ ((1 : Int32) <<< (x3 &&& 31))), .ref (12 + 3)] _ _ from ?_)
  refine zy_0 rfl rfl (show zyR _ _ _ _ [some (.ref (12 + 3)), some (.int x1), some (.int x2), some (.int x3), none] [.ref (12 + 3), .int ((s.1 1 3) ^^^ ((1 : Int32) <<< (x3 &&& 31))), .ref (12 + 3)] _ _ from ?_)
  refine zy_1r (c := 12) rfl rfl rfl (show zyR _ _ _ _ [some (.ref (12 + 3)), some (.int x1), some (.int x2), some (.int x3), none] [.ref (1 + 3), .int ((s.1 1 3) ^^^ ((1 : Int32) <<< (x3 &&& 31))), .ref (12 + 3)] _ _ from ?_)
  refine zy_1 (c := 1) rfl rfl rfl (show zyR _ _ _ _ [some (.ref (12 + 3)), some (.int x1), some (.int x2), some (.int x3), none] [.int (s.1 1 3), .int ((s.1 1 3) ^^^ ((1 : Int32) <<< (x3 &&& 31))), .ref (12 + 3)] _ _ from ?_)
  obtain ⟨p1, hp1, h⟩ := zy_bind h
  refine zy_5 (c := 12) (as := [.int ((s.1 1 3) ^^^ ((1 : Int32) <<< (x3 &&& 31))), .int (s.1 1 3)]) (rest := []) (L := [some (.ref (12 + 3)), some (.int ((s.1 1 3) ^^^ ((1 : Int32) <<< (x3 &&& 31)))), some (.int (s.1 1 3)), none, none]) (d' := 6) rfl rfl rfl (Nat.le_of_ble_eq_true rfl) (Nat.le_of_ble_eq_true rfl) rfl (Nat.le_of_ble_eq_true rfl) rfl rfl (zyC54 hp1) ?_
  show zyR _ _ _ _ [some (.ref (12 + 3)), some (.int x1), some (.int x2), some (.int x3), none] [.int p1.1] _ _
  refine zy_23 rfl rfl (show zyR _ _ _ _ [some (.ref (12 + 3)), some (.int x1), some (.int x2), some (.int x3), some (.int p1.1)] [] _ _ from ?_)
  refine zy_2 rfl rfl (show zyR _ _ _ _ [some (.ref (12 + 3)), some (.int x1), some (.int x2), some (.int x3), some (.int p1.1)] [.int p1.1] _ _ from ?_)
  refine zy_2 rfl rfl (show zyR _ _ _ _ [some (.ref (12 + 3)), some (.int x1), some (.int x2), some (.int x3), some (.int p1.1)] [.int x2, .int p1.1] _ _ from ?_)
  refine zy_25_3 rfl (fun b2 => (show zyR _ _ _ _ [some (.ref (12 + 3)), some (.int x1), some (.int x2), some (.int x3), some (.int p1.1)] [] _ _ from ?_)) (fun b2 => (show zyR _ _ _ _ [some (.ref (12 + 3)), some (.int x1), some (.int x2), some (.int x3), some (.int p1.1)] [] _ _ from ?_))
  · replace h := zy_ifp h b2
    exact zy_sub (show zy_le [some (.ref (12 + 3)), some (.int x1), some (.int x2), some (.int x3), none] [some (.ref (12 + 3)), some (.int x1), some (.int x2), some (.int x3), some (.int p1.1)] from ⟨rfl, ⟨rfl, ⟨rfl, ⟨rfl, trivial⟩⟩⟩⟩) (zyC90_89 hk27 h)
  · replace h := zy_ifn h b2
    refine zy_2 rfl rfl (show zyR _ _ _ _ [some (.ref (12 + 3)), some (.int x1), some (.int x2), some (.int x3), some (.int p1.1)] [.int x3] _ _ from ?_)
    refine zy_23 rfl rfl (show zyR _ _ _ _ [some (.ref (12 + 3)), some (.int x3), some (.int x2), some (.int x3), some (.int p1.1)] [] _ _ from ?_)
    refine zy_2 rfl rfl (show zyR _ _ _ _ [some (.ref (12 + 3)), some (.int x3), some (.int x2), some (.int x3), some (.int p1.1)] [.int p1.1] _ _ from ?_)
    refine zy_23 rfl rfl (show zyR _ _ _ _ [some (.ref (12 + 3)), some (.int x3), some (.int p1.1), some (.int x3), some (.int p1.1)] [] _ _ from ?_)
    exact zy_sub (show zy_le [some (.ref (12 + 3)), some (.int x3), some (.int p1.1), some (.int x3), none] [some (.ref (12 + 3)), some (.int x3), some (.int p1.1), some (.int x3), some (.int p1.1)] from ⟨rfl, ⟨rfl, ⟨rfl, ⟨rfl, trivial⟩⟩⟩⟩) (zyC90_89 hk27 h)
noncomputable def zyF90_27b  (k27 : Int32 → Int32 → Int32 → zy_S → Option (Int32 × zy_S)) (x1 : Int32) (x2 : Int32) (x3 : Int32) (s : zy_S) : Option (Int32 × zy_S) :=
if (24 : Int32) ≤ x3 then
some (x1, s)
else
(zyF86 x3 s).bind fun p3 =>
if p3.1 ≠ 0 then
zyF90_54 k27 x1 x2 x3 p3.2
else
(zyF91 p3.2).bind fun p4 =>
if p4.1 = 0 then
zyF90_89 k27 x1 x2 x3 p4.2
else
zyF90_54 k27 x1 x2 x3 p4.2
theorem zyC90_27b {X : zx_X}  {k27 : Int32 → Int32 → Int32 → zy_S → Option (Int32 × zy_S)}  (hk27 : ∀ (x1 : Int32) (x2 : Int32) (x3 : Int32) (s : zy_S) (r : Int32) (s' : zy_S), k27 x1 x2 x3 s = some (r, s') → zyR X 7 90 27 [some (.ref (12 + 3)), some (.int x1), some (.int x2), some (.int x3), none] [] s (zyE (some (.int r)) s')) {x1 : Int32} {x2 : Int32} {x3 : Int32} {s : zy_S} {r : Int32} {s' : zy_S}  (h : zyF90_27b k27 x1 x2 x3 s = some (r, s')) : zyR X 7 90 27 [some (.ref (12 + 3)), some (.int x1), some (.int x2), some (.int x3), none] [] s (zyE (some (.int r)) s') := by
  unfold zyF90_27b at h
  refine zy_2 rfl rfl (show zyR _ _ _ _ [some (.ref (12 + 3)), some (.int x1), some (.int x2), some (.int x3), none] [.int x3] _ _ from ?_)
  refine zy_3 rfl rfl (show zyR _ _ _ _ [some (.ref (12 + 3)), some (.int x1), some (.int x2), some (.int x3), none] [.int (24 : Int32), .int x3] _ _ from ?_)
  refine zy_25_3 rfl (fun b7 => (show zyR _ _ _ _ [some (.ref (12 + 3)), some (.int x1), some (.int x2), some (.int x3), none] [] _ _ from ?_)) (fun b7 => (show zyR _ _ _ _ [some (.ref (12 + 3)), some (.int x1), some (.int x2), some (.int x3), none] [] _ _ from ?_))
  · replace h := zy_ifp h b7
    refine zy_2 rfl rfl (show zyR _ _ _ _ [some (.ref (12 + 3)), some (.int x1), some (.int x2), some (.int x3), none] [.int x1] _ _ from ?_)
    obtain ⟨rfl, rfl⟩ := zy_pi h
    exact zy_4 rfl ⟨rfl, rfl⟩
  · replace h := zy_ifn h b7
    refine zy_0 rfl rfl (show zyR _ _ _ _ [some (.ref (12 + 3)), some (.int x1), some (.int x2), some (.int x3), none] [.ref (12 + 3)] _ _ from ?_)
    refine zy_1r (c := 12) rfl rfl rfl (show zyR _ _ _ _ [some (.ref (12 + 3)), some (.int x1), some (.int x2), some (.int x3), none] [.ref (1 + 3)] _ _ from ?_)
    refine zy_2 rfl rfl (show zyR _ _ _ _ [some (.ref (12 + 3)), some (.int x1), some (.int x2), some (.int x3), none] [.int x3, .ref (1 + 3)] _ _ from ?_)
    obtain ⟨p3, hp3, h⟩ := zy_bind h
    refine zy_5 (c := 1) (as := [.int x3]) (rest := []) (L := [some (.ref (1 + 3)), some (.int x3)]) (d' := 2) rfl rfl rfl (Nat.le_of_ble_eq_true rfl) (Nat.le_of_ble_eq_true rfl) rfl (Nat.le_of_ble_eq_true rfl) rfl rfl (zyC86 hp3) ?_
    show zyR _ _ _ _ [some (.ref (12 + 3)), some (.int x1), some (.int x2), some (.int x3), none] [.int p3.1] _ _
    refine zy_24_1 rfl (fun b6 => (show zyR _ _ _ _ [some (.ref (12 + 3)), some (.int x1), some (.int x2), some (.int x3), none] [] _ _ from ?_)) (fun b6 => (show zyR _ _ _ _ [some (.ref (12 + 3)), some (.int x1), some (.int x2), some (.int x3), none] [] _ _ from ?_))
    · replace h := zy_ifp h b6
      exact zy_sub (show zy_le [some (.ref (12 + 3)), some (.int x1), some (.int x2), some (.int x3), none] [some (.ref (12 + 3)), some (.int x1), some (.int x2), some (.int x3), none] from ⟨rfl, ⟨rfl, ⟨rfl, ⟨rfl, trivial⟩⟩⟩⟩) (zyC90_54 hk27 h)
    · replace h := zy_ifn h b6
      refine zy_0 rfl rfl (show zyR _ _ _ _ [some (.ref (12 + 3)), some (.int x1), some (.int x2), some (.int x3), none] [.ref (12 + 3)] _ _ from ?_)
      refine zy_1r (c := 12) rfl rfl rfl (show zyR _ _ _ _ [some (.ref (12 + 3)), some (.int x1), some (.int x2), some (.int x3), none] [.ref (1 + 3)] _ _ from ?_)
      obtain ⟨p4, hp4, h⟩ := zy_bind h
      refine zy_5 (c := 1) (as := []) (rest := []) (L := [some (.ref (1 + 3))]) (d' := 3) rfl rfl rfl (Nat.le_of_ble_eq_true rfl) (Nat.le_of_ble_eq_true rfl) rfl (Nat.le_of_ble_eq_true rfl) rfl rfl (zyC91 hp4) ?_
      show zyR _ _ _ _ [some (.ref (12 + 3)), some (.int x1), some (.int x2), some (.int x3), none] [.int p4.1] _ _
      refine zy_24_0 rfl (fun b5 => (show zyR _ _ _ _ [some (.ref (12 + 3)), some (.int x1), some (.int x2), some (.int x3), none] [] _ _ from ?_)) (fun b5 => (show zyR _ _ _ _ [some (.ref (12 + 3)), some (.int x1), some (.int x2), some (.int x3), none] [] _ _ from ?_))
      · replace h := zy_ifp h b5
        exact zy_sub (show zy_le [some (.ref (12 + 3)), some (.int x1), some (.int x2), some (.int x3), none] [some (.ref (12 + 3)), some (.int x1), some (.int x2), some (.int x3), none] from ⟨rfl, ⟨rfl, ⟨rfl, ⟨rfl, trivial⟩⟩⟩⟩) (zyC90_89 hk27 h)
      · replace h := zy_ifn h b5
        exact zy_sub (show zy_le [some (.ref (12 + 3)), some (.int x1), some (.int x2), some (.int x3), none] [some (.ref (12 + 3)), some (.int x1), some (.int x2), some (.int x3), none] from ⟨rfl, ⟨rfl, ⟨rfl, ⟨rfl, trivial⟩⟩⟩⟩) (zyC90_54 hk27 h)
noncomputable def zyF90_27   (n : Nat) : Int32 → Int32 → Int32 → zy_S → Option (Int32 × zy_S) := Nat.rec (fun _ _ _ _ => none) (fun _ k27 => zyF90_27b k27) n
theorem zyC90_27 {X : zx_X}     : ∀ (n : Nat) (x1 : Int32) (x2 : Int32) (x3 : Int32) (s : zy_S) (r : Int32) (s' : zy_S), zyF90_27 n x1 x2 x3 s = some (r, s') → zyR X 7 90 27 [some (.ref (12 + 3)), some (.int x1), some (.int x2), some (.int x3), none] [] s (zyE (some (.int r)) s')
  | 0, _, _, _ => by
    intro s r s'  h
    have h : (none : Option (Int32 × zy_S)) = some (r, s') := h
    cases h
  | n + 1, x1, x2, x3 => by
    intro s r s'  h
    exact zyC90_27b (k27 := zyF90_27 n) (fun x1 x2 x3 s r s'  h => zyC90_27  n x1 x2 x3 s r s'  h) h
noncomputable def zyF90    (s : zy_S) : Option (Int32 × zy_S) :=
(zyF74 s).bind fun p8 =>
(zyF54 (p8.2.1 1 3) (p8.2.1 1 3) p8.2).bind fun p9 =>
zyF90_27 zy_fu (-1 : Int32) p9.1 (0 : Int32) p9.2
theorem zyC90 {X : zx_X}      {s : zy_S} {r : Int32} {s' : zy_S}  (h : zyF90 s = some (r, s')) : zyR X 7 90 0 [some (.ref (12 + 3)), none, none, none, none] [] s (zyE (some (.int r)) s') := by
  unfold zyF90 at h
  refine zy_0 rfl rfl (show zyR _ _ _ _ [some (.ref (12 + 3)), none, none, none, none] [.ref (12 + 3)] _ _ from ?_)
  obtain ⟨p8, hp8, h⟩ := zy_bind h
  refine zy_5 (c := 12) (as := []) (rest := []) (L := [some (.ref (12 + 3))]) (d' := 2) rfl rfl rfl (Nat.le_of_ble_eq_true rfl) (Nat.le_of_ble_eq_true rfl) rfl (Nat.le_of_ble_eq_true rfl) rfl rfl (zyC74 hp8) ?_
  show zyR _ _ _ _ [some (.ref (12 + 3)), none, none, none, none] [] _ _
  refine zy_3 rfl rfl (show zyR _ _ _ _ [some (.ref (12 + 3)), none, none, none, none] [.int (-1 : Int32)] _ _ from ?_)
  refine zy_23 rfl rfl (show zyR _ _ _ _ [some (.ref (12 + 3)), some (.int (-1 : Int32)), none, none, none] [] _ _ from ?_)
  refine zy_0 rfl rfl (show zyR _ _ _ _ [some (.ref (12 + 3)), some (.int (-1 : Int32)), none, none, none] [.ref (12 + 3)] _ _ from ?_)
  refine zy_0 rfl rfl (show zyR _ _ _ _ [some (.ref (12 + 3)), some (.int (-1 : Int32)), none, none, none] [.ref (12 + 3), .ref (12 + 3)] _ _ from ?_)
  refine zy_1r (c := 12) rfl rfl rfl (show zyR _ _ _ _ [some (.ref (12 + 3)), some (.int (-1 : Int32)), none, none, none] [.ref (1 + 3), .ref (12 + 3)] _ _ from ?_)
  refine zy_1 (c := 1) rfl rfl rfl (show zyR _ _ _ _ [some (.ref (12 + 3)), some (.int (-1 : Int32)), none, none, none] [.int (p8.2.1 1 3), .ref (12 + 3)] _ _ from ?_)
  refine zy_0 rfl rfl (show zyR _ _ _ _ [some (.ref (12 + 3)), some (.int (-1 : Int32)), none, none, none] [.ref (12 + 3), .int (p8.2.1 1 3), .ref (12 + 3)] _ _ from ?_)
  refine zy_1r (c := 12) rfl rfl rfl (show zyR _ _ _ _ [some (.ref (12 + 3)), some (.int (-1 : Int32)), none, none, none] [.ref (1 + 3), .int (p8.2.1 1 3), .ref (12 + 3)] _ _ from ?_)
  refine zy_1 (c := 1) rfl rfl rfl (show zyR _ _ _ _ [some (.ref (12 + 3)), some (.int (-1 : Int32)), none, none, none] [.int (p8.2.1 1 3), .int (p8.2.1 1 3), .ref (12 + 3)] _ _ from ?_)
  obtain ⟨p9, hp9, h⟩ := zy_bind h
  refine zy_5 (c := 12) (as := [.int (p8.2.1 1 3), .int (p8.2.1 1 3)]) (rest := []) (L := [some (.ref (12 + 3)), some (.int (p8.2.1 1 3)), some (.int (p8.2.1 1 3)), none, none]) (d' := 6) rfl rfl rfl (Nat.le_of_ble_eq_true rfl) (Nat.le_of_ble_eq_true rfl) rfl (Nat.le_of_ble_eq_true rfl) rfl rfl (zyC54 hp9) ?_
  show zyR _ _ _ _ [some (.ref (12 + 3)), some (.int (-1 : Int32)), none, none, none] [.int p9.1] _ _
  refine zy_23 rfl rfl (show zyR _ _ _ _ [some (.ref (12 + 3)), some (.int (-1 : Int32)), some (.int p9.1), none, none] [] _ _ from ?_)
  refine zy_3 rfl rfl (show zyR _ _ _ _ [some (.ref (12 + 3)), some (.int (-1 : Int32)), some (.int p9.1), none, none] [.int (0 : Int32)] _ _ from ?_)
  refine zy_23 rfl rfl (show zyR _ _ _ _ [some (.ref (12 + 3)), some (.int (-1 : Int32)), some (.int p9.1), some (.int (0 : Int32)), none] [] _ _ from ?_)
  exact zy_sub (show zy_le [some (.ref (12 + 3)), some (.int (-1 : Int32)), some (.int p9.1), some (.int (0 : Int32)), none] [some (.ref (12 + 3)), some (.int (-1 : Int32)), some (.int p9.1), some (.int (0 : Int32)), none] from ⟨rfl, ⟨rfl, ⟨rfl, ⟨rfl, trivial⟩⟩⟩⟩) (zyC90_27 zy_fu (-1 : Int32) p9.1 (0 : Int32) p9.2 _ _ h)
/-! NineOpinions.helps(I)I -/
noncomputable def zyF89_26   (x2 : Int32) (s : zy_S) : Option (Int32 × zy_S) :=
(zyF87 x2 s).bind fun p1 =>
some (p1.1, p1.2)
theorem zyC89_26 {X : zx_X}     {x2 : Int32} {s : zy_S} {r : Int32} {s' : zy_S}  (h : zyF89_26 x2 s = some (r, s')) : zyR X 8 89 26 [none, none, some (.int x2)] [] s (zyE (some (.int r)) s') := by
  unfold zyF89_26 at h
  refine zy_2 rfl rfl (show zyR _ _ _ _ [none, none, some (.int x2)] [.int x2] _ _ from ?_)
  obtain ⟨p1, hp1, h⟩ := zy_bind h
  refine zy_60 (as := [.int x2]) (rest := []) (L := [some (.int x2)]) (d' := 1) rfl rfl (Nat.le_of_ble_eq_true rfl) (Nat.le_of_ble_eq_true rfl) rfl (Nat.le_of_ble_eq_true rfl) rfl rfl (zyC87 hp1) ?_
  show zyR _ _ _ _ [none, none, some (.int x2)] [.int p1.1] _ _
  refine zy_6 rfl (show zyR _ _ _ _ [none, none, some (.int x2)] [.int p1.1] _ _ from ?_)
  obtain ⟨rfl, rfl⟩ := zy_pi h
  exact zy_4 rfl ⟨rfl, rfl⟩
noncomputable def zyF89   (x1 : Int32) (s : zy_S) : Option (Int32 × zy_S) :=
(zyF84 x1 s).bind fun p2 =>
if p2.1 ≠ 0 then
(zyF90 p2.2).bind fun p3 =>
if x1 = 0 then
zyF89_26 p3.1 p3.2
else
if p3.1 ≠ (-1 : Int32) then
(zyF73 p3.1 p3.2).bind fun p4 =>
some (p4.1, p4.2)
else
zyF89_26 p3.1 p3.2
else
some ((-1 : Int32), p2.2)
theorem zyC89 {X : zx_X}     {x1 : Int32} {s : zy_S} {r : Int32} {s' : zy_S}  (h : zyF89 x1 s = some (r, s')) : zyR X 8 89 0 [some (.ref (0 + 3)), some (.int x1), none] [] s (zyE (some (.int r)) s') := by
  unfold zyF89 at h
  refine zy_2 rfl rfl (show zyR _ _ _ _ [some (.ref (0 + 3)), some (.int x1), none] [.int x1] _ _ from ?_)
  obtain ⟨p2, hp2, h⟩ := zy_bind h
  refine zy_60 (as := [.int x1]) (rest := []) (L := [some (.int x1)]) (d' := 1) rfl rfl (Nat.le_of_ble_eq_true rfl) (Nat.le_of_ble_eq_true rfl) rfl (Nat.le_of_ble_eq_true rfl) rfl rfl (zyC84 hp2) ?_
  show zyR _ _ _ _ [some (.ref (0 + 3)), some (.int x1), none] [.int p2.1] _ _
  refine zy_24_1 rfl (fun b7 => (show zyR _ _ _ _ [some (.ref (0 + 3)), some (.int x1), none] [] _ _ from ?_)) (fun b7 => (show zyR _ _ _ _ [some (.ref (0 + 3)), some (.int x1), none] [] _ _ from ?_))
  · replace h := zy_ifp h b7
    refine zy_0 rfl rfl (show zyR _ _ _ _ [some (.ref (0 + 3)), some (.int x1), none] [.ref (0 + 3)] _ _ from ?_)
    refine zy_1r (c := 0) rfl rfl rfl (show zyR _ _ _ _ [some (.ref (0 + 3)), some (.int x1), none] [.ref (12 + 3)] _ _ from ?_)
    obtain ⟨p3, hp3, h⟩ := zy_bind h
    refine zy_5 (c := 12) (as := []) (rest := []) (L := [some (.ref (12 + 3)), none, none, none, none]) (d' := 7) rfl rfl rfl (Nat.le_of_ble_eq_true rfl) (Nat.le_of_ble_eq_true rfl) rfl (Nat.le_of_ble_eq_true rfl) rfl rfl (zyC90 hp3) ?_
    show zyR _ _ _ _ [some (.ref (0 + 3)), some (.int x1), none] [.int p3.1] _ _
    refine zy_23 rfl rfl (show zyR _ _ _ _ [some (.ref (0 + 3)), some (.int x1), some (.int p3.1)] [] _ _ from ?_)
    refine zy_2 rfl rfl (show zyR _ _ _ _ [some (.ref (0 + 3)), some (.int x1), some (.int p3.1)] [.int x1] _ _ from ?_)
    refine zy_24_0 rfl (fun b6 => (show zyR _ _ _ _ [some (.ref (0 + 3)), some (.int x1), some (.int p3.1)] [] _ _ from ?_)) (fun b6 => (show zyR _ _ _ _ [some (.ref (0 + 3)), some (.int x1), some (.int p3.1)] [] _ _ from ?_))
    · replace h := zy_ifp h b6
      exact zy_sub (show zy_le [none, none, some (.int p3.1)] [some (.ref (0 + 3)), some (.int x1), some (.int p3.1)] from ⟨rfl, trivial⟩) (zyC89_26 h)
    · replace h := zy_ifn h b6
      refine zy_2 rfl rfl (show zyR _ _ _ _ [some (.ref (0 + 3)), some (.int x1), some (.int p3.1)] [.int p3.1] _ _ from ?_)
      refine zy_3 rfl rfl (show zyR _ _ _ _ [some (.ref (0 + 3)), some (.int x1), some (.int p3.1)] [.int (-1 : Int32), .int p3.1] _ _ from ?_)
      refine zy_25_1 rfl (fun b5 => (show zyR _ _ _ _ [some (.ref (0 + 3)), some (.int x1), some (.int p3.1)] [] _ _ from ?_)) (fun b5 => (show zyR _ _ _ _ [some (.ref (0 + 3)), some (.int x1), some (.int p3.1)] [] _ _ from ?_))
      · replace h := zy_ifp h b5
        refine zy_0 rfl rfl (show zyR _ _ _ _ [some (.ref (0 + 3)), some (.int x1), some (.int p3.1)] [.ref (0 + 3)] _ _ from ?_)
        refine zy_1r (c := 0) rfl rfl rfl (show zyR _ _ _ _ [some (.ref (0 + 3)), some (.int x1), some (.int p3.1)] [.ref (12 + 3)] _ _ from ?_)
        refine zy_2 rfl rfl (show zyR _ _ _ _ [some (.ref (0 + 3)), some (.int x1), some (.int p3.1)] [.int p3.1, .ref (12 + 3)] _ _ from ?_)
        obtain ⟨p4, hp4, h⟩ := zy_bind h
        refine zy_5 (c := 12) (as := [.int p3.1]) (rest := []) (L := [some (.ref (12 + 3)), some (.int p3.1)]) (d' := 7) rfl rfl rfl (Nat.le_of_ble_eq_true rfl) (Nat.le_of_ble_eq_true rfl) rfl (Nat.le_of_ble_eq_true rfl) rfl rfl (zyC73 hp4) ?_
        show zyR _ _ _ _ [some (.ref (0 + 3)), some (.int x1), some (.int p3.1)] [.int p4.1] _ _
        obtain ⟨rfl, rfl⟩ := zy_pi h
        exact zy_4 rfl ⟨rfl, rfl⟩
      · replace h := zy_ifn h b5
        exact zy_sub (show zy_le [none, none, some (.int p3.1)] [some (.ref (0 + 3)), some (.int x1), some (.int p3.1)] from ⟨rfl, trivial⟩) (zyC89_26 h)
  · replace h := zy_ifn h b7
    refine zy_3 rfl rfl (show zyR _ _ _ _ [some (.ref (0 + 3)), some (.int x1), none] [.int (-1 : Int32)] _ _ from ?_)
    obtain ⟨rfl, rfl⟩ := zy_pi h
    exact zy_4 rfl ⟨rfl, rfl⟩
end
section
/-! PART 41.38: methods as functions. Made by wip/v4/dcp.py. -/
/-! NineOpinionsModel.helps(I)I -/
noncomputable def zyF218_85  (k31 : Int32 → Int32 → Int32 → Int32 → zy_S → Option (Int32 × zy_S)) (x1 : Int32) (x2 : Int32) (x3 : Int32) (x4 : Int32) (s : zy_S) : Option (Int32 × zy_S) :=
k31 x1 x2 x3 (x4 + (1 : Int32)) s
theorem zyC218_85 {X : zx_X}  {k31 : Int32 → Int32 → Int32 → Int32 → zy_S → Option (Int32 × zy_S)}  (hk31 : ∀ (x1 : Int32) (x2 : Int32) (x3 : Int32) (x4 : Int32) (s : zy_S) (r : Int32) (s' : zy_S), k31 x1 x2 x3 x4 s = some (r, s') → zyR X 108 218 31 [some (.ref (43 + 3)), some (.int x1), some (.int x2), some (.int x3), some (.int x4), none] [] s (zyE (some (.int r)) s')) {x1 : Int32} {x2 : Int32} {x3 : Int32} {x4 : Int32} {s : zy_S} {r : Int32} {s' : zy_S}  (h : zyF218_85 k31 x1 x2 x3 x4 s = some (r, s')) : zyR X 108 218 85 [some (.ref (43 + 3)), some (.int x1), some (.int x2), some (.int x3), some (.int x4), none] [] s (zyE (some (.int r)) s') := by
  unfold zyF218_85 at h
  refine zy_22 rfl rfl rfl rfl (show zyR _ _ _ _ [some (.ref (43 + 3)), some (.int x1), some (.int x2), some (.int x3), some (.int (x4 + (1 : Int32))), none] [] _ _ from ?_)
  refine zy_6 rfl (show zyR _ _ _ _ [some (.ref (43 + 3)), some (.int x1), some (.int x2), some (.int x3), some (.int (x4 + (1 : Int32))), none] [] _ _ from ?_)
  exact zy_sub (show zy_le [some (.ref (43 + 3)), some (.int x1), some (.int x2), some (.int x3), some (.int (x4 + (1 : Int32))), none] [some (.ref (43 + 3)), some (.int x1), some (.int x2), some (.int x3), some (.int (x4 + (1 : Int32))), none] from ⟨rfl, ⟨rfl, ⟨rfl, ⟨rfl, ⟨rfl, trivial⟩⟩⟩⟩⟩) (hk31 x1 x2 x3 (x4 + (1 : Int32)) s _ _ h)
noncomputable def zyF218_61  (k31 : Int32 → Int32 → Int32 → Int32 → zy_S → Option (Int32 × zy_S)) (x1 : Int32) (x2 : Int32) (x3 : Int32) (x4 : Int32) (s : zy_S) : Option (Int32 × zy_S) :=
(zyF211 x4 (s.1 43 7) s).bind fun p1 =>
if x3 ≤ p1.1 then
zyF218_85 k31 x1 x2 x3 x4 p1.2
else
zyF218_85 k31 x1 x4 p1.1 x4 p1.2
theorem zyC218_61 {X : zx_X}  {k31 : Int32 → Int32 → Int32 → Int32 → zy_S → Option (Int32 × zy_S)}  (hk31 : ∀ (x1 : Int32) (x2 : Int32) (x3 : Int32) (x4 : Int32) (s : zy_S) (r : Int32) (s' : zy_S), k31 x1 x2 x3 x4 s = some (r, s') → zyR X 108 218 31 [some (.ref (43 + 3)), some (.int x1), some (.int x2), some (.int x3), some (.int x4), none] [] s (zyE (some (.int r)) s')) {x1 : Int32} {x2 : Int32} {x3 : Int32} {x4 : Int32} {s : zy_S} {r : Int32} {s' : zy_S}  (h : zyF218_61 k31 x1 x2 x3 x4 s = some (r, s')) : zyR X 108 218 61 [some (.ref (43 + 3)), some (.int x1), some (.int x2), some (.int x3), some (.int x4), none] [] s (zyE (some (.int r)) s') := by
  unfold zyF218_61 at h
  refine zy_0 rfl rfl (show zyR _ _ _ _ [some (.ref (43 + 3)), some (.int x1), some (.int x2), some (.int x3), some (.int x4), none] [.ref (43 + 3)] _ _ from ?_)
  refine zy_2 rfl rfl (show zyR _ _ _ _ [some (.ref (43 + 3)), some (.int x1), some (.int x2), some (.int x3), some (.int x4), none] [.int x4, .ref (43 + 3)] _ _ from ?_)
  refine zy_0 rfl rfl (show zyR _ _ _ _ [some (.ref (43 + 3)), some (.int x1), some (.int x2), some (.int x3), some (.int x4), none] [.ref (43 + 3), .int x4, .ref (43 + 3)] _ _ from ?_)
  refine zy_1 (c := 43) rfl rfl rfl (show zyR _ _ _ _ [some (.ref (43 + 3)), some (.int x1), some (.int x2), some (.int x3), some (.int x4), none] [.int (s.1 43 7), .int x4, .ref (43 + 3)] _ _ from ?_)
  obtain ⟨p1, hp1, h⟩ := zy_bind h
  refine zy_5 (c := 43) (as := [.int x4, .int (s.1 43 7)]) (rest := []) (L := [some (.ref (43 + 3)), some (.int x4), some (.int (s.1 43 7)), none, none]) (d' := 107) rfl rfl rfl (Nat.le_of_ble_eq_true rfl) (Nat.le_of_ble_eq_true rfl) rfl (Nat.le_of_ble_eq_true rfl) rfl rfl (zyC211 hp1) ?_
  show zyR _ _ _ _ [some (.ref (43 + 3)), some (.int x1), some (.int x2), some (.int x3), some (.int x4), none] [.int p1.1] _ _
  refine zy_23 rfl rfl (show zyR _ _ _ _ [some (.ref (43 + 3)), some (.int x1), some (.int x2), some (.int x3), some (.int x4), some (.int p1.1)] [] _ _ from ?_)
  refine zy_2 rfl rfl (show zyR _ _ _ _ [some (.ref (43 + 3)), some (.int x1), some (.int x2), some (.int x3), some (.int x4), some (.int p1.1)] [.int p1.1] _ _ from ?_)
  refine zy_2 rfl rfl (show zyR _ _ _ _ [some (.ref (43 + 3)), some (.int x1), some (.int x2), some (.int x3), some (.int x4), some (.int p1.1)] [.int x3, .int p1.1] _ _ from ?_)
  refine zy_25_3 rfl (fun b2 => (show zyR _ _ _ _ [some (.ref (43 + 3)), some (.int x1), some (.int x2), some (.int x3), some (.int x4), some (.int p1.1)] [] _ _ from ?_)) (fun b2 => (show zyR _ _ _ _ [some (.ref (43 + 3)), some (.int x1), some (.int x2), some (.int x3), some (.int x4), some (.int p1.1)] [] _ _ from ?_))
  · replace h := zy_ifp h b2
    exact zy_sub (show zy_le [some (.ref (43 + 3)), some (.int x1), some (.int x2), some (.int x3), some (.int x4), none] [some (.ref (43 + 3)), some (.int x1), some (.int x2), some (.int x3), some (.int x4), some (.int p1.1)] from ⟨rfl, ⟨rfl, ⟨rfl, ⟨rfl, ⟨rfl, trivial⟩⟩⟩⟩⟩) (zyC218_85 hk31 h)
  · replace h := zy_ifn h b2
    refine zy_2 rfl rfl (show zyR _ _ _ _ [some (.ref (43 + 3)), some (.int x1), some (.int x2), some (.int x3), some (.int x4), some (.int p1.1)] [.int x4] _ _ from ?_)
    refine zy_23 rfl rfl (show zyR _ _ _ _ [some (.ref (43 + 3)), some (.int x1), some (.int x4), some (.int x3), some (.int x4), some (.int p1.1)] [] _ _ from ?_)
    refine zy_2 rfl rfl (show zyR _ _ _ _ [some (.ref (43 + 3)), some (.int x1), some (.int x4), some (.int x3), some (.int x4), some (.int p1.1)] [.int p1.1] _ _ from ?_)
    refine zy_23 rfl rfl (show zyR _ _ _ _ [some (.ref (43 + 3)), some (.int x1), some (.int x4), some (.int p1.1), some (.int x4), some (.int p1.1)] [] _ _ from ?_)
    exact zy_sub (show zy_le [some (.ref (43 + 3)), some (.int x1), some (.int x4), some (.int p1.1), some (.int x4), none] [some (.ref (43 + 3)), some (.int x1), some (.int x4), some (.int p1.1), some (.int x4), some (.int p1.1)] from ⟨rfl, ⟨rfl, ⟨rfl, ⟨rfl, ⟨rfl, trivial⟩⟩⟩⟩⟩) (zyC218_85 hk31 h)
noncomputable def zyF218_31b  (k31 : Int32 → Int32 → Int32 → Int32 → zy_S → Option (Int32 × zy_S)) (x1 : Int32) (x2 : Int32) (x3 : Int32) (x4 : Int32) (s : zy_S) : Option (Int32 × zy_S) :=
if (24 : Int32) ≤ x4 then
if x2 < 0 then
some (x2, s)
else
if x1 ≠ 0 then
some (x3, s)
else
some (x2, s)
else
(zyF208 (s.1 43 7) x4 s).bind fun p5 =>
if p5.1 ≠ 0 then
zyF218_61 k31 x1 x2 x3 x4 p5.2
else
(zyF219 (p5.2.1 43 7) p5.2).bind fun p6 =>
if p6.1 = 0 then
zyF218_85 k31 x1 x2 x3 x4 p6.2
else
zyF218_61 k31 x1 x2 x3 x4 p6.2
theorem zyC218_31b {X : zx_X}  {k31 : Int32 → Int32 → Int32 → Int32 → zy_S → Option (Int32 × zy_S)}  (hk31 : ∀ (x1 : Int32) (x2 : Int32) (x3 : Int32) (x4 : Int32) (s : zy_S) (r : Int32) (s' : zy_S), k31 x1 x2 x3 x4 s = some (r, s') → zyR X 108 218 31 [some (.ref (43 + 3)), some (.int x1), some (.int x2), some (.int x3), some (.int x4), none] [] s (zyE (some (.int r)) s')) {x1 : Int32} {x2 : Int32} {x3 : Int32} {x4 : Int32} {s : zy_S} {r : Int32} {s' : zy_S}  (h : zyF218_31b k31 x1 x2 x3 x4 s = some (r, s')) : zyR X 108 218 31 [some (.ref (43 + 3)), some (.int x1), some (.int x2), some (.int x3), some (.int x4), none] [] s (zyE (some (.int r)) s') := by
  unfold zyF218_31b at h
  refine zy_2 rfl rfl (show zyR _ _ _ _ [some (.ref (43 + 3)), some (.int x1), some (.int x2), some (.int x3), some (.int x4), none] [.int x4] _ _ from ?_)
  refine zy_3 rfl rfl (show zyR _ _ _ _ [some (.ref (43 + 3)), some (.int x1), some (.int x2), some (.int x3), some (.int x4), none] [.int (24 : Int32), .int x4] _ _ from ?_)
  refine zy_25_3 rfl (fun b9 => (show zyR _ _ _ _ [some (.ref (43 + 3)), some (.int x1), some (.int x2), some (.int x3), some (.int x4), none] [] _ _ from ?_)) (fun b9 => (show zyR _ _ _ _ [some (.ref (43 + 3)), some (.int x1), some (.int x2), some (.int x3), some (.int x4), none] [] _ _ from ?_))
  · replace h := zy_ifp h b9
    refine zy_2 rfl rfl (show zyR _ _ _ _ [some (.ref (43 + 3)), some (.int x1), some (.int x2), some (.int x3), some (.int x4), none] [.int x2] _ _ from ?_)
    refine zy_24_2 rfl (fun b4 => (show zyR _ _ _ _ [some (.ref (43 + 3)), some (.int x1), some (.int x2), some (.int x3), some (.int x4), none] [] _ _ from ?_)) (fun b4 => (show zyR _ _ _ _ [some (.ref (43 + 3)), some (.int x1), some (.int x2), some (.int x3), some (.int x4), none] [] _ _ from ?_))
    · replace h := zy_ifp h b4
      refine zy_2 rfl rfl (show zyR _ _ _ _ [some (.ref (43 + 3)), some (.int x1), some (.int x2), some (.int x3), some (.int x4), none] [.int x2] _ _ from ?_)
      refine zy_6 rfl (show zyR _ _ _ _ [some (.ref (43 + 3)), some (.int x1), some (.int x2), some (.int x3), some (.int x4), none] [.int x2] _ _ from ?_)
      obtain ⟨rfl, rfl⟩ := zy_pi h
      exact zy_4 rfl ⟨rfl, rfl⟩
    · replace h := zy_ifn h b4
      refine zy_2 rfl rfl (show zyR _ _ _ _ [some (.ref (43 + 3)), some (.int x1), some (.int x2), some (.int x3), some (.int x4), none] [.int x1] _ _ from ?_)
      refine zy_24_1 rfl (fun b3 => (show zyR _ _ _ _ [some (.ref (43 + 3)), some (.int x1), some (.int x2), some (.int x3), some (.int x4), none] [] _ _ from ?_)) (fun b3 => (show zyR _ _ _ _ [some (.ref (43 + 3)), some (.int x1), some (.int x2), some (.int x3), some (.int x4), none] [] _ _ from ?_))
      · replace h := zy_ifp h b3
        refine zy_2 rfl rfl (show zyR _ _ _ _ [some (.ref (43 + 3)), some (.int x1), some (.int x2), some (.int x3), some (.int x4), none] [.int x3] _ _ from ?_)
        obtain ⟨rfl, rfl⟩ := zy_pi h
        exact zy_4 rfl ⟨rfl, rfl⟩
      · replace h := zy_ifn h b3
        refine zy_2 rfl rfl (show zyR _ _ _ _ [some (.ref (43 + 3)), some (.int x1), some (.int x2), some (.int x3), some (.int x4), none] [.int x2] _ _ from ?_)
        refine zy_6 rfl (show zyR _ _ _ _ [some (.ref (43 + 3)), some (.int x1), some (.int x2), some (.int x3), some (.int x4), none] [.int x2] _ _ from ?_)
        obtain ⟨rfl, rfl⟩ := zy_pi h
        exact zy_4 rfl ⟨rfl, rfl⟩
  · replace h := zy_ifn h b9
    refine zy_0 rfl rfl (show zyR _ _ _ _ [some (.ref (43 + 3)), some (.int x1), some (.int x2), some (.int x3), some (.int x4), none] [.ref (43 + 3)] _ _ from ?_)
    refine zy_1 (c := 43) rfl rfl rfl (show zyR _ _ _ _ [some (.ref (43 + 3)), some (.int x1), some (.int x2), some (.int x3), some (.int x4), none] [.int (s.1 43 7)] _ _ from ?_)
    refine zy_2 rfl rfl (show zyR _ _ _ _ [some (.ref (43 + 3)), some (.int x1), some (.int x2), some (.int x3), some (.int x4), none] [.int x4, .int (s.1 43 7)] _ _ from ?_)
    obtain ⟨p5, hp5, h⟩ := zy_bind h
    refine zy_60 (as := [.int (s.1 43 7), .int x4]) (rest := []) (L := [some (.int (s.1 43 7)), some (.int x4)]) (d' := 1) rfl rfl (Nat.le_of_ble_eq_true rfl) (Nat.le_of_ble_eq_true rfl) rfl (Nat.le_of_ble_eq_true rfl) rfl rfl (zyC208 hp5) ?_
    show zyR _ _ _ _ [some (.ref (43 + 3)), some (.int x1), some (.int x2), some (.int x3), some (.int x4), none] [.int p5.1] _ _
    refine zy_24_1 rfl (fun b8 => (show zyR _ _ _ _ [some (.ref (43 + 3)), some (.int x1), some (.int x2), some (.int x3), some (.int x4), none] [] _ _ from ?_)) (fun b8 => (show zyR _ _ _ _ [some (.ref (43 + 3)), some (.int x1), some (.int x2), some (.int x3), some (.int x4), none] [] _ _ from ?_))
    · replace h := zy_ifp h b8
      exact zy_sub (show zy_le [some (.ref (43 + 3)), some (.int x1), some (.int x2), some (.int x3), some (.int x4), none] [some (.ref (43 + 3)), some (.int x1), some (.int x2), some (.int x3), some (.int x4), none] from ⟨rfl, ⟨rfl, ⟨rfl, ⟨rfl, ⟨rfl, trivial⟩⟩⟩⟩⟩) (zyC218_61 hk31 h)
    · replace h := zy_ifn h b8
      refine zy_0 rfl rfl (show zyR _ _ _ _ [some (.ref (43 + 3)), some (.int x1), some (.int x2), some (.int x3), some (.int x4), none] [.ref (43 + 3)] _ _ from ?_)
      refine zy_0 rfl rfl (show zyR _ _ _ _ [some (.ref (43 + 3)), some (.int x1), some (.int x2), some (.int x3), some (.int x4), none] [.ref (43 + 3), .ref (43 + 3)] _ _ from ?_)
      refine zy_1 (c := 43) rfl rfl rfl (show zyR _ _ _ _ [some (.ref (43 + 3)), some (.int x1), some (.int x2), some (.int x3), some (.int x4), none] [.int (p5.2.1 43 7), .ref (43 + 3)] _ _ from ?_)
      obtain ⟨p6, hp6, h⟩ := zy_bind h
      refine zy_5 (c := 43) (as := [.int (p5.2.1 43 7)]) (rest := []) (L := [some (.ref (43 + 3)), some (.int (p5.2.1 43 7))]) (d' := 2) rfl rfl rfl (Nat.le_of_ble_eq_true rfl) (Nat.le_of_ble_eq_true rfl) rfl (Nat.le_of_ble_eq_true rfl) rfl rfl (zyC219 hp6) ?_
      show zyR _ _ _ _ [some (.ref (43 + 3)), some (.int x1), some (.int x2), some (.int x3), some (.int x4), none] [.int p6.1] _ _
      refine zy_24_0 rfl (fun b7 => (show zyR _ _ _ _ [some (.ref (43 + 3)), some (.int x1), some (.int x2), some (.int x3), some (.int x4), none] [] _ _ from ?_)) (fun b7 => (show zyR _ _ _ _ [some (.ref (43 + 3)), some (.int x1), some (.int x2), some (.int x3), some (.int x4), none] [] _ _ from ?_))
      · replace h := zy_ifp h b7
        exact zy_sub (show zy_le [some (.ref (43 + 3)), some (.int x1), some (.int x2), some (.int x3), some (.int x4), none] [some (.ref (43 + 3)), some (.int x1), some (.int x2), some (.int x3), some (.int x4), none] from ⟨rfl, ⟨rfl, ⟨rfl, ⟨rfl, ⟨rfl, trivial⟩⟩⟩⟩⟩) (zyC218_85 hk31 h)
      · replace h := zy_ifn h b7
        exact zy_sub (show zy_le [some (.ref (43 + 3)), some (.int x1), some (.int x2), some (.int x3), some (.int x4), none] [some (.ref (43 + 3)), some (.int x1), some (.int x2), some (.int x3), some (.int x4), none] from ⟨rfl, ⟨rfl, ⟨rfl, ⟨rfl, ⟨rfl, trivial⟩⟩⟩⟩⟩) (zyC218_61 hk31 h)
noncomputable def zyF218_31   (n : Nat) : Int32 → Int32 → Int32 → Int32 → zy_S → Option (Int32 × zy_S) := Nat.rec (fun _ _ _ _ _ => none) (fun _ k31 => zyF218_31b k31) n
theorem zyC218_31 {X : zx_X}     : ∀ (n : Nat) (x1 : Int32) (x2 : Int32) (x3 : Int32) (x4 : Int32) (s : zy_S) (r : Int32) (s' : zy_S), zyF218_31 n x1 x2 x3 x4 s = some (r, s') → zyR X 108 218 31 [some (.ref (43 + 3)), some (.int x1), some (.int x2), some (.int x3), some (.int x4), none] [] s (zyE (some (.int r)) s')
  | 0, _, _, _, _ => by
    intro s r s'  h
    have h : (none : Option (Int32 × zy_S)) = some (r, s') := h
    cases h
  | n + 1, x1, x2, x3, x4 => by
    intro s r s'  h
    exact zyC218_31b (k31 := zyF218_31 n) (fun x1 x2 x3 x4 s r s'  h => zyC218_31  n x1 x2 x3 x4 s r s'  h) h
noncomputable def zyF218   (x1 : Int32) (s : zy_S) : Option (Int32 × zy_S) :=
(zyF179 (x1).toInt64 (0 : Int64) (1 : Int64) s).bind fun p10 =>
if p10.1 ≠ 0 then
(zyF203 p10.2).bind fun p11 =>
(zyF212 (p11.2.1 43 7) p11.2).bind fun p12 =>
zyF218_31 zy_fu x1 (-2 : Int32) p12.1 (0 : Int32) p12.2
else
some ((-1 : Int32), p10.2)
theorem zyC218 {X : zx_X}     {x1 : Int32} {s : zy_S} {r : Int32} {s' : zy_S}  (h : zyF218 x1 s = some (r, s')) : zyR X 108 218 0 [some (.ref (43 + 3)), some (.int x1), none, none, none, none] [] s (zyE (some (.int r)) s') := by
  unfold zyF218 at h
  refine zy_2 rfl rfl (show zyR _ _ _ _ [some (.ref (43 + 3)), some (.int x1), none, none, none, none] [.int x1] _ _ from ?_)
  refine zy_40 rfl (show zyR _ _ _ _ [some (.ref (43 + 3)), some (.int x1), none, none, none, none] [.long (x1).toInt64] _ _ from ?_)
  refine zy_36 rfl rfl (show zyR _ _ _ _ [some (.ref (43 + 3)), some (.int x1), none, none, none, none] [.long (0 : Int64), .long (x1).toInt64] _ _ from ?_)
  refine zy_36 rfl rfl (show zyR _ _ _ _ [some (.ref (43 + 3)), some (.int x1), none, none, none, none] [.long (1 : Int64), .long (0 : Int64), .long (x1).toInt64] _ _ from ?_)
  obtain ⟨p10, hp10, h⟩ := zy_bind h
  refine zy_60 (as := [.long (x1).toInt64, .long (0 : Int64), .long (1 : Int64)]) (rest := []) (L := [some (.long (x1).toInt64), none, some (.long (0 : Int64)), none, some (.long (1 : Int64)), none]) (d' := 1) rfl rfl (Nat.le_of_ble_eq_true rfl) (Nat.le_of_ble_eq_true rfl) rfl (Nat.le_of_ble_eq_true rfl) rfl rfl (zyC179 hp10) ?_
  show zyR _ _ _ _ [some (.ref (43 + 3)), some (.int x1), none, none, none, none] [.int p10.1] _ _
  refine zy_24_1 rfl (fun b13 => (show zyR _ _ _ _ [some (.ref (43 + 3)), some (.int x1), none, none, none, none] [] _ _ from ?_)) (fun b13 => (show zyR _ _ _ _ [some (.ref (43 + 3)), some (.int x1), none, none, none, none] [] _ _ from ?_))
  · replace h := zy_ifp h b13
    refine zy_0 rfl rfl (show zyR _ _ _ _ [some (.ref (43 + 3)), some (.int x1), none, none, none, none] [.ref (43 + 3)] _ _ from ?_)
    obtain ⟨p11, hp11, h⟩ := zy_bind h
    refine zy_5 (c := 43) (as := []) (rest := []) (L := [some (.ref (43 + 3)), none]) (d' := 1) rfl rfl rfl (Nat.le_of_ble_eq_true rfl) (Nat.le_of_ble_eq_true rfl) rfl (Nat.le_of_ble_eq_true rfl) rfl rfl (zyC203 hp11) ?_
    show zyR _ _ _ _ [some (.ref (43 + 3)), some (.int x1), none, none, none, none] [] _ _
    refine zy_3 rfl rfl (show zyR _ _ _ _ [some (.ref (43 + 3)), some (.int x1), none, none, none, none] [.int (-2 : Int32)] _ _ from ?_)
    refine zy_23 rfl rfl (show zyR _ _ _ _ [some (.ref (43 + 3)), some (.int x1), some (.int (-2 : Int32)), none, none, none] [] _ _ from ?_)
    refine zy_0 rfl rfl (show zyR _ _ _ _ [some (.ref (43 + 3)), some (.int x1), some (.int (-2 : Int32)), none, none, none] [.ref (43 + 3)] _ _ from ?_)
    refine zy_0 rfl rfl (show zyR _ _ _ _ [some (.ref (43 + 3)), some (.int x1), some (.int (-2 : Int32)), none, none, none] [.ref (43 + 3), .ref (43 + 3)] _ _ from ?_)
    refine zy_1 (c := 43) rfl rfl rfl (show zyR _ _ _ _ [some (.ref (43 + 3)), some (.int x1), some (.int (-2 : Int32)), none, none, none] [.int (p11.2.1 43 7), .ref (43 + 3)] _ _ from ?_)
    obtain ⟨p12, hp12, h⟩ := zy_bind h
    refine zy_5 (c := 43) (as := [.int (p11.2.1 43 7)]) (rest := []) (L := [some (.ref (43 + 3)), some (.int (p11.2.1 43 7)), none, none]) (d' := 106) rfl rfl rfl (Nat.le_of_ble_eq_true rfl) (Nat.le_of_ble_eq_true rfl) rfl (Nat.le_of_ble_eq_true rfl) rfl rfl (zyC212 hp12) ?_
    show zyR _ _ _ _ [some (.ref (43 + 3)), some (.int x1), some (.int (-2 : Int32)), none, none, none] [.int p12.1] _ _
    refine zy_23 rfl rfl (show zyR _ _ _ _ [some (.ref (43 + 3)), some (.int x1), some (.int (-2 : Int32)), some (.int p12.1), none, none] [] _ _ from ?_)
    refine zy_3 rfl rfl (show zyR _ _ _ _ [some (.ref (43 + 3)), some (.int x1), some (.int (-2 : Int32)), some (.int p12.1), none, none] [.int (0 : Int32)] _ _ from ?_)
    refine zy_23 rfl rfl (show zyR _ _ _ _ [some (.ref (43 + 3)), some (.int x1), some (.int (-2 : Int32)), some (.int p12.1), some (.int (0 : Int32)), none] [] _ _ from ?_)
    exact zy_sub (show zy_le [some (.ref (43 + 3)), some (.int x1), some (.int (-2 : Int32)), some (.int p12.1), some (.int (0 : Int32)), none] [some (.ref (43 + 3)), some (.int x1), some (.int (-2 : Int32)), some (.int p12.1), some (.int (0 : Int32)), none] from ⟨rfl, ⟨rfl, ⟨rfl, ⟨rfl, ⟨rfl, trivial⟩⟩⟩⟩⟩) (zyC218_31 zy_fu x1 (-2 : Int32) p12.1 (0 : Int32) p12.2 _ _ h)
  · replace h := zy_ifn h b13
    refine zy_3 rfl rfl (show zyR _ _ _ _ [some (.ref (43 + 3)), some (.int x1), none, none, none, none] [.int (-1 : Int32)] _ _ from ?_)
    obtain ⟨rfl, rfl⟩ := zy_pi h
    exact zy_4 rfl ⟨rfl, rfl⟩
end
section
/-! PART 41.39: methods as functions. Made by wip/v4/dcp.py. -/
/-! NineOpinions$Thought.drawnDays(IIII)I -/
noncomputable def zyF130_154  (k13 : Int32 → Int32 → Int32 → Int32 → Int32 → Int32 → zy_S → Option (Int32 × zy_S)) (x2 : Int32) (x3 : Int32) (x4 : Int32) (x6 : Int32) (x7 : Int32) (y0 : Int32) (y1 : Int32) (s : zy_S) : Option (Int32 × zy_S) :=
k13 x2 x3 x4 (y1 + y0) x6 (x7 + (1 : Int32)) s
theorem zyC130_154 {X : zx_X}  {k13 : Int32 → Int32 → Int32 → Int32 → Int32 → Int32 → zy_S → Option (Int32 × zy_S)}  (hk13 : ∀ (x2 : Int32) (x3 : Int32) (x4 : Int32) (x5 : Int32) (x6 : Int32) (x7 : Int32) (s : zy_S) (r : Int32) (s' : zy_S), k13 x2 x3 x4 x5 x6 x7 s = some (r, s') → zyR X 7 130 13 [some (.ref (12 + 3)), none, some (.int x2), some (.int x3), some (.int x4), some (.int x5), some (.int x6), some (.int x7), none, none, none, none, none] [] s (zyE (some (.int r)) s')) {x2 : Int32} {x3 : Int32} {x4 : Int32} {x6 : Int32} {x7 : Int32} {y0 : Int32} {y1 : Int32} {s : zy_S} {r : Int32} {s' : zy_S}  (h : zyF130_154 k13 x2 x3 x4 x6 x7 y0 y1 s = some (r, s')) : zyR X 7 130 154 [some (.ref (12 + 3)), none, some (.int x2), some (.int x3), some (.int x4), none, some (.int x6), some (.int x7), none, none, none, none, none] [.int y0, .int y1] s (zyE (some (.int r)) s') := by
  unfold zyF130_154 at h
  refine zy_10 rfl (show zyR _ _ _ _ [some (.ref (12 + 3)), none, some (.int x2), some (.int x3), some (.int x4), none, some (.int x6), some (.int x7), none, none, none, none, none] [.int (y1 + y0)] _ _ from ?_)
  refine zy_23 rfl rfl (show zyR _ _ _ _ [some (.ref (12 + 3)), none, some (.int x2), some (.int x3), some (.int x4), some (.int (y1 + y0)), some (.int x6), some (.int x7), none, none, none, none, none] [] _ _ from ?_)
  refine zy_22 rfl rfl rfl rfl (show zyR _ _ _ _ [some (.ref (12 + 3)), none, some (.int x2), some (.int x3), some (.int x4), some (.int (y1 + y0)), some (.int x6), some (.int (x7 + (1 : Int32))), none, none, none, none, none] [] _ _ from ?_)
  refine zy_6 rfl (show zyR _ _ _ _ [some (.ref (12 + 3)), none, some (.int x2), some (.int x3), some (.int x4), some (.int (y1 + y0)), some (.int x6), some (.int (x7 + (1 : Int32))), none, none, none, none, none] [] _ _ from ?_)
  exact zy_sub (show zy_le [some (.ref (12 + 3)), none, some (.int x2), some (.int x3), some (.int x4), some (.int (y1 + y0)), some (.int x6), some (.int (x7 + (1 : Int32))), none, none, none, none, none] [some (.ref (12 + 3)), none, some (.int x2), some (.int x3), some (.int x4), some (.int (y1 + y0)), some (.int x6), some (.int (x7 + (1 : Int32))), none, none, none, none, none] from ⟨rfl, ⟨rfl, ⟨rfl, ⟨rfl, ⟨rfl, ⟨rfl, ⟨rfl, trivial⟩⟩⟩⟩⟩⟩⟩) (hk13 x2 x3 x4 (y1 + y0) x6 (x7 + (1 : Int32)) s _ _ h)
noncomputable def zyF130_112  (k13 : Int32 → Int32 → Int32 → Int32 → Int32 → Int32 → zy_S → Option (Int32 × zy_S)) (k40 : Int32 → Int32 → Int32 → Int32 → Int32 → Int32 → Int32 → Int32 → Int32 → zy_S → Option (Int32 × zy_S)) (x2 : Int32) (x3 : Int32) (x4 : Int32) (x5 : Int32) (x6 : Int32) (x7 : Int32) (x9 : Int32) (x10 : Int32) (y0 : Int32) (y1 : Int32) (s : zy_S) : Option (Int32 × zy_S) :=
k40 x2 x3 x4 x5 x6 x7 (y1 ^^^ y0) (x9 &&& (y1 ^^^ y0)) (x10 + (1 : Int32)) s
theorem zyC130_112 {X : zx_X}  {k13 : Int32 → Int32 → Int32 → Int32 → Int32 → Int32 → zy_S → Option (Int32 × zy_S)} {k40 : Int32 → Int32 → Int32 → Int32 → Int32 → Int32 → Int32 → Int32 → Int32 → zy_S → Option (Int32 × zy_S)}  (hk13 : ∀ (x2 : Int32) (x3 : Int32) (x4 : Int32) (x5 : Int32) (x6 : Int32) (x7 : Int32) (s : zy_S) (r : Int32) (s' : zy_S), k13 x2 x3 x4 x5 x6 x7 s = some (r, s') → zyR X 7 130 13 [some (.ref (12 + 3)), none, some (.int x2), some (.int x3), some (.int x4), some (.int x5), some (.int x6), some (.int x7), none, none, none, none, none] [] s (zyE (some (.int r)) s')) (hk40 : ∀ (x2 : Int32) (x3 : Int32) (x4 : Int32) (x5 : Int32) (x6 : Int32) (x7 : Int32) (x8 : Int32) (x9 : Int32) (x10 : Int32) (s : zy_S) (r : Int32) (s' : zy_S), k40 x2 x3 x4 x5 x6 x7 x8 x9 x10 s = some (r, s') → zyR X 7 130 40 [some (.ref (12 + 3)), none, some (.int x2), some (.int x3), some (.int x4), some (.int x5), some (.int x6), some (.int x7), some (.int x8), some (.int x9), some (.int x10), none, none] [] s (zyE (some (.int r)) s')) {x2 : Int32} {x3 : Int32} {x4 : Int32} {x5 : Int32} {x6 : Int32} {x7 : Int32} {x9 : Int32} {x10 : Int32} {y0 : Int32} {y1 : Int32} {s : zy_S} {r : Int32} {s' : zy_S}  (h : zyF130_112 k13 k40 x2 x3 x4 x5 x6 x7 x9 x10 y0 y1 s = some (r, s')) : zyR X 7 130 112 [some (.ref (12 + 3)), none, some (.int x2), some (.int x3), some (.int x4), some (.int x5), some (.int x6), some (.int x7), none, some (.int x9), some (.int x10), none, none] [.int y0, .int y1] s (zyE (some (.int r)) s') := by
  unfold zyF130_112 at h
  refine zy_15 rfl (show zyR _ _ _ _ [some (.ref (12 + 3)), none, some (.int x2), some (.int x3), some (.int x4), some (.int x5), some (.int x6), some (.int x7), none, some (.int x9), some (.int x10), none, none] [.int (y1 ^^^ y0)] _ _ from ?_)
  refine zy_23 rfl rfl (show zyR _ _ _ _ [some (.ref (12 + 3)), none, some (.int x2), some (.int x3), some (.int x4), some (.int x5), some (.int x6), some (.int x7), some (.int (y1 ^^^ y0)), some (.int x9), some (.int x10), none, none] [] _ _ from ?_)
  refine zy_2 rfl rfl (show zyR _ _ _ _ [some (.ref (12 + 3)), none, some (.int x2), some (.int x3), some (.int x4), some (.int x5), some (.int x6), some (.int x7), some (.int (y1 ^^^ y0)), some (.int x9), some (.int x10), none, none] [.int x9] _ _ from ?_)
  refine zy_2 rfl rfl (show zyR _ _ _ _ [some (.ref (12 + 3)), none, some (.int x2), some (.int x3), some (.int x4), some (.int x5), some (.int x6), some (.int x7), some (.int (y1 ^^^ y0)), some (.int x9), some (.int x10), none, none] [.int (y1 ^^^ y0), .int x9] _ _ from ?_)
  refine zy_13 rfl (show zyR _ _ _ _ [some (.ref (12 + 3)), none, some (.int x2), some (.int x3), some (.int x4), some (.int x5), some (.int x6), some (.int x7), some (.int (y1 ^^^ y0)), some (.int x9), some (.int x10), none, none] [.int (x9 &&& (y1 ^^^ y0))] _ _ from ?_)
  refine zy_23 rfl rfl (show zyR _ _ _ _ [some (.ref (12 + 3)), none, some (.int x2), some (.int x3), some (.int x4), some (.int x5), some (.int x6), some (.int x7), some (.int (y1 ^^^ y0)), some (.int (x9 &&& (y1 ^^^ y0))), some (.int x10), none, none] [] _ _ from ?_)
  refine zy_22 rfl rfl rfl rfl (show zyR _ _ _ _ [some (.ref (12 + 3)), none, some (.int x2), some (.int x3), some (.int x4), some (.int x5), some (.int x6), some (.int x7), some (.int (y1 ^^^ y0)), some (.int (x9 &&& (y1 ^^^ y0))), some (.int (x10 + (1 : Int32))), none, none] [] _ _ from ?_)
  refine zy_6 rfl (show zyR _ _ _ _ [some (.ref (12 + 3)), none, some (.int x2), some (.int x3), some (.int x4), some (.int x5), some (.int x6), some (.int x7), some (.int (y1 ^^^ y0)), some (.int (x9 &&& (y1 ^^^ y0))), some (.int (x10 + (1 : Int32))), none, none] [] _ _ from ?_)
  exact zy_sub (show zy_le [some (.ref (12 + 3)), none, some (.int x2), some (.int x3), some (.int x4), some (.int x5), some (.int x6), some (.int x7), some (.int (y1 ^^^ y0)), some (.int (x9 &&& (y1 ^^^ y0))), some (.int (x10 + (1 : Int32))), none, none] [some (.ref (12 + 3)), none, some (.int x2), some (.int x3), some (.int x4), some (.int x5), some (.int x6), some (.int x7), some (.int (y1 ^^^ y0)), some (.int (x9 &&& (y1 ^^^ y0))), some (.int (x10 + (1 : Int32))), none, none] from ⟨rfl, ⟨rfl, ⟨rfl, ⟨rfl, ⟨rfl, ⟨rfl, ⟨rfl, ⟨rfl, ⟨rfl, ⟨rfl, trivial⟩⟩⟩⟩⟩⟩⟩⟩⟩⟩) (hk40 x2 x3 x4 x5 x6 x7 (y1 ^^^ y0) (x9 &&& (y1 ^^^ y0)) (x10 + (1 : Int32)) s _ _ h)
noncomputable def zyF130_97  (k13 : Int32 → Int32 → Int32 → Int32 → Int32 → Int32 → zy_S → Option (Int32 × zy_S)) (k40 : Int32 → Int32 → Int32 → Int32 → Int32 → Int32 → Int32 → Int32 → Int32 → zy_S → Option (Int32 × zy_S)) (x2 : Int32) (x3 : Int32) (x4 : Int32) (x5 : Int32) (x6 : Int32) (x7 : Int32) (x8 : Int32) (x9 : Int32) (x10 : Int32) (x11 : Int32) (y0 : Int32) (s : zy_S) : Option (Int32 × zy_S) :=
if y0 = 0 then
zyF130_112 k13 k40 x2 x3 x4 x5 x6 x7 x9 x10 (0 : Int32) x8 s
else
zyF130_112 k13 k40 x2 x3 x4 x5 x6 x7 x9 x10 x11 x8 s
theorem zyC130_97 {X : zx_X}  {k13 : Int32 → Int32 → Int32 → Int32 → Int32 → Int32 → zy_S → Option (Int32 × zy_S)} {k40 : Int32 → Int32 → Int32 → Int32 → Int32 → Int32 → Int32 → Int32 → Int32 → zy_S → Option (Int32 × zy_S)}  (hk13 : ∀ (x2 : Int32) (x3 : Int32) (x4 : Int32) (x5 : Int32) (x6 : Int32) (x7 : Int32) (s : zy_S) (r : Int32) (s' : zy_S), k13 x2 x3 x4 x5 x6 x7 s = some (r, s') → zyR X 7 130 13 [some (.ref (12 + 3)), none, some (.int x2), some (.int x3), some (.int x4), some (.int x5), some (.int x6), some (.int x7), none, none, none, none, none] [] s (zyE (some (.int r)) s')) (hk40 : ∀ (x2 : Int32) (x3 : Int32) (x4 : Int32) (x5 : Int32) (x6 : Int32) (x7 : Int32) (x8 : Int32) (x9 : Int32) (x10 : Int32) (s : zy_S) (r : Int32) (s' : zy_S), k40 x2 x3 x4 x5 x6 x7 x8 x9 x10 s = some (r, s') → zyR X 7 130 40 [some (.ref (12 + 3)), none, some (.int x2), some (.int x3), some (.int x4), some (.int x5), some (.int x6), some (.int x7), some (.int x8), some (.int x9), some (.int x10), none, none] [] s (zyE (some (.int r)) s')) {x2 : Int32} {x3 : Int32} {x4 : Int32} {x5 : Int32} {x6 : Int32} {x7 : Int32} {x8 : Int32} {x9 : Int32} {x10 : Int32} {x11 : Int32} {y0 : Int32} {s : zy_S} {r : Int32} {s' : zy_S}  (h : zyF130_97 k13 k40 x2 x3 x4 x5 x6 x7 x8 x9 x10 x11 y0 s = some (r, s')) : zyR X 7 130 97 [some (.ref (12 + 3)), none, some (.int x2), some (.int x3), some (.int x4), some (.int x5), some (.int x6), some (.int x7), some (.int x8), some (.int x9), some (.int x10), some (.int x11), none] [.int y0] s (zyE (some (.int r)) s') := by
  unfold zyF130_97 at h
  refine zy_23 rfl rfl (show zyR _ _ _ _ [some (.ref (12 + 3)), none, some (.int x2), some (.int x3), some (.int x4), some (.int x5), some (.int x6), some (.int x7), some (.int x8), some (.int x9), some (.int x10), some (.int x11), some (.int y0)] [] _ _ from ?_)
  refine zy_2 rfl rfl (show zyR _ _ _ _ [some (.ref (12 + 3)), none, some (.int x2), some (.int x3), some (.int x4), some (.int x5), some (.int x6), some (.int x7), some (.int x8), some (.int x9), some (.int x10), some (.int x11), some (.int y0)] [.int x8] _ _ from ?_)
  refine zy_2 rfl rfl (show zyR _ _ _ _ [some (.ref (12 + 3)), none, some (.int x2), some (.int x3), some (.int x4), some (.int x5), some (.int x6), some (.int x7), some (.int x8), some (.int x9), some (.int x10), some (.int x11), some (.int y0)] [.int y0, .int x8] _ _ from ?_)
  refine zy_24_0 rfl (fun b1 => (show zyR _ _ _ _ [some (.ref (12 + 3)), none, some (.int x2), some (.int x3), some (.int x4), some (.int x5), some (.int x6), some (.int x7), some (.int x8), some (.int x9), some (.int x10), some (.int x11), some (.int y0)] [.int x8] _ _ from ?_)) (fun b1 => (show zyR _ _ _ _ [some (.ref (12 + 3)), none, some (.int x2), some (.int x3), some (.int x4), some (.int x5), some (.int x6), some (.int x7), some (.int x8), some (.int x9), some (.int x10), some (.int x11), some (.int y0)] [.int x8] _ _ from ?_))
  · replace h := zy_ifp h b1
    refine zy_3 rfl rfl (show zyR _ _ _ _ [some (.ref (12 + 3)), none, some (.int x2), some (.int x3), some (.int x4), some (.int x5), some (.int x6), some (.int x7), some (.int x8), some (.int x9), some (.int x10), some (.int x11), some (.int y0)] [.int (0 : Int32), .int x8] _ _ from ?_)
    exact zy_sub (show zy_le [some (.ref (12 + 3)), none, some (.int x2), some (.int x3), some (.int x4), some (.int x5), some (.int x6), some (.int x7), none, some (.int x9), some (.int x10), none, none] [some (.ref (12 + 3)), none, some (.int x2), some (.int x3), some (.int x4), some (.int x5), some (.int x6), some (.int x7), some (.int x8), some (.int x9), some (.int x10), some (.int x11), some (.int y0)] from ⟨rfl, ⟨rfl, ⟨rfl, ⟨rfl, ⟨rfl, ⟨rfl, ⟨rfl, ⟨rfl, ⟨rfl, trivial⟩⟩⟩⟩⟩⟩⟩⟩⟩) (zyC130_112 hk13 hk40 h)
  · replace h := zy_ifn h b1
    refine zy_2 rfl rfl (show zyR _ _ _ _ [some (.ref (12 + 3)), none, some (.int x2), some (.int x3), some (.int x4), some (.int x5), some (.int x6), some (.int x7), some (.int x8), some (.int x9), some (.int x10), some (.int x11), some (.int y0)] [.int x11, .int x8] _ _ from ?_)
    refine zy_6 rfl (show zyR _ _ _ _ [some (.ref (12 + 3)), none, some (.int x2), some (.int x3), some (.int x4), some (.int x5), some (.int x6), some (.int x7), some (.int x8), some (.int x9), some (.int x10), some (.int x11), some (.int y0)] [.int x11, .int x8] _ _ from ?_)
    exact zy_sub (show zy_le [some (.ref (12 + 3)), none, some (.int x2), some (.int x3), some (.int x4), some (.int x5), some (.int x6), some (.int x7), none, some (.int x9), some (.int x10), none, none] [some (.ref (12 + 3)), none, some (.int x2), some (.int x3), some (.int x4), some (.int x5), some (.int x6), some (.int x7), some (.int x8), some (.int x9), some (.int x10), some (.int x11), some (.int y0)] from ⟨rfl, ⟨rfl, ⟨rfl, ⟨rfl, ⟨rfl, ⟨rfl, ⟨rfl, ⟨rfl, ⟨rfl, trivial⟩⟩⟩⟩⟩⟩⟩⟩⟩) (zyC130_112 hk13 hk40 h)
noncomputable def zyF130_92  (k13 : Int32 → Int32 → Int32 → Int32 → Int32 → Int32 → zy_S → Option (Int32 × zy_S)) (k40 : Int32 → Int32 → Int32 → Int32 → Int32 → Int32 → Int32 → Int32 → Int32 → zy_S → Option (Int32 × zy_S)) (x2 : Int32) (x3 : Int32) (x4 : Int32) (x5 : Int32) (x6 : Int32) (x7 : Int32) (x8 : Int32) (x9 : Int32) (x10 : Int32) (x11 : Int32) (s : zy_S) : Option (Int32 × zy_S) :=
zyF130_97 k13 k40 x2 x3 x4 x5 x6 x7 x8 x9 x10 x11 (1 : Int32) s
theorem zyC130_92 {X : zx_X}  {k13 : Int32 → Int32 → Int32 → Int32 → Int32 → Int32 → zy_S → Option (Int32 × zy_S)} {k40 : Int32 → Int32 → Int32 → Int32 → Int32 → Int32 → Int32 → Int32 → Int32 → zy_S → Option (Int32 × zy_S)}  (hk13 : ∀ (x2 : Int32) (x3 : Int32) (x4 : Int32) (x5 : Int32) (x6 : Int32) (x7 : Int32) (s : zy_S) (r : Int32) (s' : zy_S), k13 x2 x3 x4 x5 x6 x7 s = some (r, s') → zyR X 7 130 13 [some (.ref (12 + 3)), none, some (.int x2), some (.int x3), some (.int x4), some (.int x5), some (.int x6), some (.int x7), none, none, none, none, none] [] s (zyE (some (.int r)) s')) (hk40 : ∀ (x2 : Int32) (x3 : Int32) (x4 : Int32) (x5 : Int32) (x6 : Int32) (x7 : Int32) (x8 : Int32) (x9 : Int32) (x10 : Int32) (s : zy_S) (r : Int32) (s' : zy_S), k40 x2 x3 x4 x5 x6 x7 x8 x9 x10 s = some (r, s') → zyR X 7 130 40 [some (.ref (12 + 3)), none, some (.int x2), some (.int x3), some (.int x4), some (.int x5), some (.int x6), some (.int x7), some (.int x8), some (.int x9), some (.int x10), none, none] [] s (zyE (some (.int r)) s')) {x2 : Int32} {x3 : Int32} {x4 : Int32} {x5 : Int32} {x6 : Int32} {x7 : Int32} {x8 : Int32} {x9 : Int32} {x10 : Int32} {x11 : Int32} {s : zy_S} {r : Int32} {s' : zy_S}  (h : zyF130_92 k13 k40 x2 x3 x4 x5 x6 x7 x8 x9 x10 x11 s = some (r, s')) : zyR X 7 130 92 [some (.ref (12 + 3)), none, some (.int x2), some (.int x3), some (.int x4), some (.int x5), some (.int x6), some (.int x7), some (.int x8), some (.int x9), some (.int x10), some (.int x11), none] [] s (zyE (some (.int r)) s') := by
  unfold zyF130_92 at h
  refine zy_3 rfl rfl (show zyR _ _ _ _ [some (.ref (12 + 3)), none, some (.int x2), some (.int x3), some (.int x4), some (.int x5), some (.int x6), some (.int x7), some (.int x8), some (.int x9), some (.int x10), some (.int x11), none] [.int (1 : Int32)] _ _ from ?_)
  refine zy_6 rfl (show zyR _ _ _ _ [some (.ref (12 + 3)), none, some (.int x2), some (.int x3), some (.int x4), some (.int x5), some (.int x6), some (.int x7), some (.int x8), some (.int x9), some (.int x10), some (.int x11), none] [.int (1 : Int32)] _ _ from ?_)
  exact zy_sub (show zy_le [some (.ref (12 + 3)), none, some (.int x2), some (.int x3), some (.int x4), some (.int x5), some (.int x6), some (.int x7), some (.int x8), some (.int x9), some (.int x10), some (.int x11), none] [some (.ref (12 + 3)), none, some (.int x2), some (.int x3), some (.int x4), some (.int x5), some (.int x6), some (.int x7), some (.int x8), some (.int x9), some (.int x10), some (.int x11), none] from ⟨rfl, ⟨rfl, ⟨rfl, ⟨rfl, ⟨rfl, ⟨rfl, ⟨rfl, ⟨rfl, ⟨rfl, ⟨rfl, ⟨rfl, trivial⟩⟩⟩⟩⟩⟩⟩⟩⟩⟩⟩) (zyC130_97 hk13 hk40 h)
noncomputable def zyF130_69  (k13 : Int32 → Int32 → Int32 → Int32 → Int32 → Int32 → zy_S → Option (Int32 × zy_S)) (k40 : Int32 → Int32 → Int32 → Int32 → Int32 → Int32 → Int32 → Int32 → Int32 → zy_S → Option (Int32 × zy_S)) (x2 : Int32) (x3 : Int32) (x4 : Int32) (x5 : Int32) (x6 : Int32) (x7 : Int32) (x8 : Int32) (x9 : Int32) (x10 : Int32) (x11 : Int32) (s : zy_S) : Option (Int32 × zy_S) :=
if (x8 &&& x11) ≠ 0 then
zyF130_92 k13 k40 x2 x3 x4 x5 x6 x7 x8 x9 x10 x11 s
else
(zyF63 x8 s).bind fun p2 =>
if (p2.2.1 1 4) ≤ p2.1 then
zyF130_97 k13 k40 x2 x3 x4 x5 x6 x7 x8 x9 x10 x11 (0 : Int32) p2.2
else
zyF130_92 k13 k40 x2 x3 x4 x5 x6 x7 x8 x9 x10 x11 p2.2
theorem zyC130_69 {X : zx_X}  {k13 : Int32 → Int32 → Int32 → Int32 → Int32 → Int32 → zy_S → Option (Int32 × zy_S)} {k40 : Int32 → Int32 → Int32 → Int32 → Int32 → Int32 → Int32 → Int32 → Int32 → zy_S → Option (Int32 × zy_S)}  (hk13 : ∀ (x2 : Int32) (x3 : Int32) (x4 : Int32) (x5 : Int32) (x6 : Int32) (x7 : Int32) (s : zy_S) (r : Int32) (s' : zy_S), k13 x2 x3 x4 x5 x6 x7 s = some (r, s') → zyR X 7 130 13 [some (.ref (12 + 3)), none, some (.int x2), some (.int x3), some (.int x4), some (.int x5), some (.int x6), some (.int x7), none, none, none, none, none] [] s (zyE (some (.int r)) s')) (hk40 : ∀ (x2 : Int32) (x3 : Int32) (x4 : Int32) (x5 : Int32) (x6 : Int32) (x7 : Int32) (x8 : Int32) (x9 : Int32) (x10 : Int32) (s : zy_S) (r : Int32) (s' : zy_S), k40 x2 x3 x4 x5 x6 x7 x8 x9 x10 s = some (r, s') → zyR X 7 130 40 [some (.ref (12 + 3)), none, some (.int x2), some (.int x3), some (.int x4), some (.int x5), some (.int x6), some (.int x7), some (.int x8), some (.int x9), some (.int x10), none, none] [] s (zyE (some (.int r)) s')) {x2 : Int32} {x3 : Int32} {x4 : Int32} {x5 : Int32} {x6 : Int32} {x7 : Int32} {x8 : Int32} {x9 : Int32} {x10 : Int32} {x11 : Int32} {s : zy_S} {r : Int32} {s' : zy_S}  (h : zyF130_69 k13 k40 x2 x3 x4 x5 x6 x7 x8 x9 x10 x11 s = some (r, s')) : zyR X 7 130 69 [some (.ref (12 + 3)), none, some (.int x2), some (.int x3), some (.int x4), some (.int x5), some (.int x6), some (.int x7), some (.int x8), some (.int x9), some (.int x10), some (.int x11), none] [] s (zyE (some (.int r)) s') := by
  unfold zyF130_69 at h
  refine zy_2 rfl rfl (show zyR _ _ _ _ [some (.ref (12 + 3)), none, some (.int x2), some (.int x3), some (.int x4), some (.int x5), some (.int x6), some (.int x7), some (.int x8), some (.int x9), some (.int x10), some (.int x11), none] [.int x8] _ _ from ?_)
  refine zy_2 rfl rfl (show zyR _ _ _ _ [some (.ref (12 + 3)), none, some (.int x2), some (.int x3), some (.int x4), some (.int x5), some (.int x6), some (.int x7), some (.int x8), some (.int x9), some (.int x10), some (.int x11), none] [.int x11, .int x8] _ _ from ?_)
  refine zy_13 rfl (show zyR _ _ _ _ [some (.ref (12 + 3)), none, some (.int x2), some (.int x3), some (.int x4), some (.int x5), some (.int x6), some (.int x7), some (.int x8), some (.int x9), some (.int x10), some (.int x11), none] [.int (x8 &&& x11)] _ _ from ?_)
  refine zy_24_1 rfl (fun b4 => (show zyR _ _ _ _ [some (.ref (12 + 3)), none, some (.int x2), some (.int x3), some (.int x4), some (.int x5), some (.int x6), some (.int x7), some (.int x8), some (.int x9), some (.int x10), some (.int x11), none] [] _ _ from ?_)) (fun b4 => (show zyR _ _ _ _ [some (.ref (12 + 3)), none, some (.int x2), some (.int x3), some (.int x4), some (.int x5), some (.int x6), some (.int x7), some (.int x8), some (.int x9), some (.int x10), some (.int x11), none] [] _ _ from ?_))
  · replace h := zy_ifp h b4
    exact zy_sub (show zy_le [some (.ref (12 + 3)), none, some (.int x2), some (.int x3), some (.int x4), some (.int x5), some (.int x6), some (.int x7), some (.int x8), some (.int x9), some (.int x10), some (.int x11), none] [some (.ref (12 + 3)), none, some (.int x2), some (.int x3), some (.int x4), some (.int x5), some (.int x6), some (.int x7), some (.int x8), some (.int x9), some (.int x10), some (.int x11), none] from ⟨rfl, ⟨rfl, ⟨rfl, ⟨rfl, ⟨rfl, ⟨rfl, ⟨rfl, ⟨rfl, ⟨rfl, ⟨rfl, ⟨rfl, trivial⟩⟩⟩⟩⟩⟩⟩⟩⟩⟩⟩) (zyC130_92 hk13 hk40 h)
  · replace h := zy_ifn h b4
    refine zy_2 rfl rfl (show zyR _ _ _ _ [some (.ref (12 + 3)), none, some (.int x2), some (.int x3), some (.int x4), some (.int x5), some (.int x6), some (.int x7), some (.int x8), some (.int x9), some (.int x10), some (.int x11), none] [.int x8] _ _ from ?_)
    obtain ⟨p2, hp2, h⟩ := zy_bind h
    refine zy_60 (as := [.int x8]) (rest := []) (L := [some (.int x8)]) (d' := 1) rfl rfl (Nat.le_of_ble_eq_true rfl) (Nat.le_of_ble_eq_true rfl) rfl (Nat.le_of_ble_eq_true rfl) rfl rfl (zyC63 hp2) ?_
    show zyR _ _ _ _ [some (.ref (12 + 3)), none, some (.int x2), some (.int x3), some (.int x4), some (.int x5), some (.int x6), some (.int x7), some (.int x8), some (.int x9), some (.int x10), some (.int x11), none] [.int p2.1] _ _
    refine zy_0 rfl rfl (show zyR _ _ _ _ [some (.ref (12 + 3)), none, some (.int x2), some (.int x3), some (.int x4), some (.int x5), some (.int x6), some (.int x7), some (.int x8), some (.int x9), some (.int x10), some (.int x11), none] [.ref (12 + 3), .int p2.1] _ _ from ?_)
    refine zy_1r (c := 12) rfl rfl rfl (show zyR _ _ _ _ [some (.ref (12 + 3)), none, some (.int x2), some (.int x3), some (.int x4), some (.int x5), some (.int x6), some (.int x7), some (.int x8), some (.int x9), some (.int x10), some (.int x11), none] [.ref (1 + 3), .int p2.1] _ _ from ?_)
    refine zy_1 (c := 1) rfl rfl rfl (show zyR _ _ _ _ [some (.ref (12 + 3)), none, some (.int x2), some (.int x3), some (.int x4), some (.int x5), some (.int x6), some (.int x7), some (.int x8), some (.int x9), some (.int x10), some (.int x11), none] [.int (p2.2.1 1 4), .int p2.1] _ _ from ?_)
    refine zy_25_3 rfl (fun b3 => (show zyR _ _ _ _ [some (.ref (12 + 3)), none, some (.int x2), some (.int x3), some (.int x4), some (.int x5), some (.int x6), some (.int x7), some (.int x8), some (.int x9), some (.int x10), some (.int x11), none] [] _ _ from ?_)) (fun b3 => (show zyR _ _ _ _ [some (.ref (12 + 3)), none, some (.int x2), some (.int x3), some (.int x4), some (.int x5), some (.int x6), some (.int x7), some (.int x8), some (.int x9), some (.int x10), some (.int x11), none] [] _ _ from ?_))
    · replace h := zy_ifp h b3
      refine zy_3 rfl rfl (show zyR _ _ _ _ [some (.ref (12 + 3)), none, some (.int x2), some (.int x3), some (.int x4), some (.int x5), some (.int x6), some (.int x7), some (.int x8), some (.int x9), some (.int x10), some (.int x11), none] [.int (0 : Int32)] _ _ from ?_)
      exact zy_sub (show zy_le [some (.ref (12 + 3)), none, some (.int x2), some (.int x3), some (.int x4), some (.int x5), some (.int x6), some (.int x7), some (.int x8), some (.int x9), some (.int x10), some (.int x11), none] [some (.ref (12 + 3)), none, some (.int x2), some (.int x3), some (.int x4), some (.int x5), some (.int x6), some (.int x7), some (.int x8), some (.int x9), some (.int x10), some (.int x11), none] from ⟨rfl, ⟨rfl, ⟨rfl, ⟨rfl, ⟨rfl, ⟨rfl, ⟨rfl, ⟨rfl, ⟨rfl, ⟨rfl, ⟨rfl, trivial⟩⟩⟩⟩⟩⟩⟩⟩⟩⟩⟩) (zyC130_97 hk13 hk40 h)
    · replace h := zy_ifn h b3
      exact zy_sub (show zy_le [some (.ref (12 + 3)), none, some (.int x2), some (.int x3), some (.int x4), some (.int x5), some (.int x6), some (.int x7), some (.int x8), some (.int x9), some (.int x10), some (.int x11), none] [some (.ref (12 + 3)), none, some (.int x2), some (.int x3), some (.int x4), some (.int x5), some (.int x6), some (.int x7), some (.int x8), some (.int x9), some (.int x10), some (.int x11), none] from ⟨rfl, ⟨rfl, ⟨rfl, ⟨rfl, ⟨rfl, ⟨rfl, ⟨rfl, ⟨rfl, ⟨rfl, ⟨rfl, ⟨rfl, trivial⟩⟩⟩⟩⟩⟩⟩⟩⟩⟩⟩) (zyC130_92 hk13 hk40 h)
noncomputable def zyF130_40b  (k13 : Int32 → Int32 → Int32 → Int32 → Int32 → Int32 → zy_S → Option (Int32 × zy_S)) (k40 : Int32 → Int32 → Int32 → Int32 → Int32 → Int32 → Int32 → Int32 → Int32 → zy_S → Option (Int32 × zy_S)) (x2 : Int32) (x3 : Int32) (x4 : Int32) (x5 : Int32) (x6 : Int32) (x7 : Int32) (x8 : Int32) (x9 : Int32) (x10 : Int32) (s : zy_S) : Option (Int32 × zy_S) :=
if x3 ≤ x10 then
if x4 ≠ (-1 : Int32) then
(zyF32 x8 x4 s).bind fun p5 =>
zyF130_154 k13 x2 x3 x4 x6 x7 p5.1 x5 p5.2
else
(zyF54 x8 x9 s).bind fun p6 =>
zyF130_154 k13 x2 x3 x4 x6 x7 p6.1 x5 p6.2
else
zyF130_69 k13 k40 x2 x3 x4 x5 ((x6 * (1103515245 : Int32)) + (12345 : Int32)) x7 x8 x9 x10 ((1 : Int32) <<< ((((((x6 * (1103515245 : Int32)) + (12345 : Int32))).toUInt32 >>> (((8 : Int32)).toUInt32 &&& Int32.toUInt32 31)).toInt32 - ((((x6 * (1103515245 : Int32)) + (12345 : Int32))).toUInt32 >>> (((8 : Int32)).toUInt32 &&& Int32.toUInt32 31)).toInt32 / (24 : Int32) * (24 : Int32)) &&& 31)) s
theorem zyC130_40b {X : zx_X}  {k13 : Int32 → Int32 → Int32 → Int32 → Int32 → Int32 → zy_S → Option (Int32 × zy_S)} {k40 : Int32 → Int32 → Int32 → Int32 → Int32 → Int32 → Int32 → Int32 → Int32 → zy_S → Option (Int32 × zy_S)}  (hk13 : ∀ (x2 : Int32) (x3 : Int32) (x4 : Int32) (x5 : Int32) (x6 : Int32) (x7 : Int32) (s : zy_S) (r : Int32) (s' : zy_S), k13 x2 x3 x4 x5 x6 x7 s = some (r, s') → zyR X 7 130 13 [some (.ref (12 + 3)), none, some (.int x2), some (.int x3), some (.int x4), some (.int x5), some (.int x6), some (.int x7), none, none, none, none, none] [] s (zyE (some (.int r)) s')) (hk40 : ∀ (x2 : Int32) (x3 : Int32) (x4 : Int32) (x5 : Int32) (x6 : Int32) (x7 : Int32) (x8 : Int32) (x9 : Int32) (x10 : Int32) (s : zy_S) (r : Int32) (s' : zy_S), k40 x2 x3 x4 x5 x6 x7 x8 x9 x10 s = some (r, s') → zyR X 7 130 40 [some (.ref (12 + 3)), none, some (.int x2), some (.int x3), some (.int x4), some (.int x5), some (.int x6), some (.int x7), some (.int x8), some (.int x9), some (.int x10), none, none] [] s (zyE (some (.int r)) s')) {x2 : Int32} {x3 : Int32} {x4 : Int32} {x5 : Int32} {x6 : Int32} {x7 : Int32} {x8 : Int32} {x9 : Int32} {x10 : Int32} {s : zy_S} {r : Int32} {s' : zy_S}  (h : zyF130_40b k13 k40 x2 x3 x4 x5 x6 x7 x8 x9 x10 s = some (r, s')) : zyR X 7 130 40 [some (.ref (12 + 3)), none, some (.int x2), some (.int x3), some (.int x4), some (.int x5), some (.int x6), some (.int x7), some (.int x8), some (.int x9), some (.int x10), none, none] [] s (zyE (some (.int r)) s') := by
  unfold zyF130_40b at h
  refine zy_2 rfl rfl (show zyR _ _ _ _ [some (.ref (12 + 3)), none, some (.int x2), some (.int x3), some (.int x4), some (.int x5), some (.int x6), some (.int x7), some (.int x8), some (.int x9), some (.int x10), none, none] [.int x10] _ _ from ?_)
  refine zy_2 rfl rfl (show zyR _ _ _ _ [some (.ref (12 + 3)), none, some (.int x2), some (.int x3), some (.int x4), some (.int x5), some (.int x6), some (.int x7), some (.int x8), some (.int x9), some (.int x10), none, none] [.int x3, .int x10] _ _ from ?_)
  refine zy_25_3 rfl (fun b8 => (show zyR _ _ _ _ [some (.ref (12 + 3)), none, some (.int x2), some (.int x3), some (.int x4), some (.int x5), some (.int x6), some (.int x7), some (.int x8), some (.int x9), some (.int x10), none, none] [] _ _ from ?_)) (fun b8 => (show zyR _ _ _ _ [some (.ref (12 + 3)), none, some (.int x2), some (.int x3), some (.int x4), some (.int x5), some (.int x6), some (.int x7), some (.int x8), some (.int x9), some (.int x10), none, none] [] _ _ from ?_))
  · replace h := zy_ifp h b8
    refine zy_2 rfl rfl (show zyR _ _ _ _ [some (.ref (12 + 3)), none, some (.int x2), some (.int x3), some (.int x4), some (.int x5), some (.int x6), some (.int x7), some (.int x8), some (.int x9), some (.int x10), none, none] [.int x5] _ _ from ?_)
    refine zy_2 rfl rfl (show zyR _ _ _ _ [some (.ref (12 + 3)), none, some (.int x2), some (.int x3), some (.int x4), some (.int x5), some (.int x6), some (.int x7), some (.int x8), some (.int x9), some (.int x10), none, none] [.int x4, .int x5] _ _ from ?_)
    refine zy_3 rfl rfl (show zyR _ _ _ _ [some (.ref (12 + 3)), none, some (.int x2), some (.int x3), some (.int x4), some (.int x5), some (.int x6), some (.int x7), some (.int x8), some (.int x9), some (.int x10), none, none] [.int (-1 : Int32), .int x4, .int x5] _ _ from ?_)
    refine zy_25_1 rfl (fun b7 => (show zyR _ _ _ _ [some (.ref (12 + 3)), none, some (.int x2), some (.int x3), some (.int x4), some (.int x5), some (.int x6), some (.int x7), some (.int x8), some (.int x9), some (.int x10), none, none] [.int x5] _ _ from ?_)) (fun b7 => (show zyR _ _ _ _ [some (.ref (12 + 3)), none, some (.int x2), some (.int x3), some (.int x4), some (.int x5), some (.int x6), some (.int x7), some (.int x8), some (.int x9), some (.int x10), none, none] [.int x5] _ _ from ?_))
    · replace h := zy_ifp h b7
      refine zy_2 rfl rfl (show zyR _ _ _ _ [some (.ref (12 + 3)), none, some (.int x2), some (.int x3), some (.int x4), some (.int x5), some (.int x6), some (.int x7), some (.int x8), some (.int x9), some (.int x10), none, none] [.int x8, .int x5] _ _ from ?_)
      refine zy_2 rfl rfl (show zyR _ _ _ _ [some (.ref (12 + 3)), none, some (.int x2), some (.int x3), some (.int x4), some (.int x5), some (.int x6), some (.int x7), some (.int x8), some (.int x9), some (.int x10), none, none] [.int x4, .int x8, .int x5] _ _ from ?_)
      obtain ⟨p5, hp5, h⟩ := zy_bind h
      refine zy_61 (as := [.int x8, .int x4]) (rest := [.int x5]) (L := [some (.int x8), some (.int x4)]) (d' := 1) rfl rfl (Nat.le_of_ble_eq_true rfl) (Nat.le_of_ble_eq_true rfl) rfl (Nat.le_of_ble_eq_true rfl) rfl rfl (zyC32 hp5) ?_
      show zyR _ _ _ _ [some (.ref (12 + 3)), none, some (.int x2), some (.int x3), some (.int x4), some (.int x5), some (.int x6), some (.int x7), some (.int x8), some (.int x9), some (.int x10), none, none] [.int p5.1, .int x5] _ _
      exact zy_sub (show zy_le [some (.ref (12 + 3)), none, some (.int x2), some (.int x3), some (.int x4), none, some (.int x6), some (.int x7), none, none, none, none, none] [some (.ref (12 + 3)), none, some (.int x2), some (.int x3), some (.int x4), some (.int x5), some (.int x6), some (.int x7), some (.int x8), some (.int x9), some (.int x10), none, none] from ⟨rfl, ⟨rfl, ⟨rfl, ⟨rfl, ⟨rfl, ⟨rfl, trivial⟩⟩⟩⟩⟩⟩) (zyC130_154 hk13 h)
    · replace h := zy_ifn h b7
      refine zy_0 rfl rfl (show zyR _ _ _ _ [some (.ref (12 + 3)), none, some (.int x2), some (.int x3), some (.int x4), some (.int x5), some (.int x6), some (.int x7), some (.int x8), some (.int x9), some (.int x10), none, none] [.ref (12 + 3), .int x5] _ _ from ?_)
      refine zy_2 rfl rfl (show zyR _ _ _ _ [some (.ref (12 + 3)), none, some (.int x2), some (.int x3), some (.int x4), some (.int x5), some (.int x6), some (.int x7), some (.int x8), some (.int x9), some (.int x10), none, none] [.int x8, .ref (12 + 3), .int x5] _ _ from ?_)
      refine zy_2 rfl rfl (show zyR _ _ _ _ [some (.ref (12 + 3)), none, some (.int x2), some (.int x3), some (.int x4), some (.int x5), some (.int x6), some (.int x7), some (.int x8), some (.int x9), some (.int x10), none, none] [.int x9, .int x8, .ref (12 + 3), .int x5] _ _ from ?_)
      obtain ⟨p6, hp6, h⟩ := zy_bind h
      refine zy_5 (c := 12) (as := [.int x8, .int x9]) (rest := [.int x5]) (L := [some (.ref (12 + 3)), some (.int x8), some (.int x9), none, none]) (d' := 6) rfl rfl rfl (Nat.le_of_ble_eq_true rfl) (Nat.le_of_ble_eq_true rfl) rfl (Nat.le_of_ble_eq_true rfl) rfl rfl (zyC54 hp6) ?_
      show zyR _ _ _ _ [some (.ref (12 + 3)), none, some (.int x2), some (.int x3), some (.int x4), some (.int x5), some (.int x6), some (.int x7), some (.int x8), some (.int x9), some (.int x10), none, none] [.int p6.1, .int x5] _ _
      refine zy_6 rfl (show zyR _ _ _ _ [some (.ref (12 + 3)), none, some (.int x2), some (.int x3), some (.int x4), some (.int x5), some (.int x6), some (.int x7), some (.int x8), some (.int x9), some (.int x10), none, none] [.int p6.1, .int x5] _ _ from ?_)
      exact zy_sub (show zy_le [some (.ref (12 + 3)), none, some (.int x2), some (.int x3), some (.int x4), none, some (.int x6), some (.int x7), none, none, none, none, none] [some (.ref (12 + 3)), none, some (.int x2), some (.int x3), some (.int x4), some (.int x5), some (.int x6), some (.int x7), some (.int x8), some (.int x9), some (.int x10), none, none] from ⟨rfl, ⟨rfl, ⟨rfl, ⟨rfl, ⟨rfl, ⟨rfl, trivial⟩⟩⟩⟩⟩⟩) (zyC130_154 hk13 h)
  · replace h := zy_ifn h b8
    refine zy_2 rfl rfl (show zyR _ _ _ _ [some (.ref (12 + 3)), none, some (.int x2), some (.int x3), some (.int x4), some (.int x5), some (.int x6), some (.int x7), some (.int x8), some (.int x9), some (.int x10), none, none] [.int x6] _ _ from ?_)
    refine zy_3c rfl rfl (show zyR _ _ _ _ [some (.ref (12 + 3)), none, some (.int x2), some (.int x3), some (.int x4), some (.int x5), some (.int x6), some (.int x7), some (.int x8), some (.int x9), some (.int x10), none, none] [.int (1103515245 : Int32), .int x6] _ _ from ?_)
    refine zy_12 rfl (show zyR _ _ _ _ [some (.ref (12 + 3)), none, some (.int x2), some (.int x3), some (.int x4), some (.int x5), some (.int x6), some (.int x7), some (.int x8), some (.int x9), some (.int x10), none, none] [.int (x6 * (1103515245 : Int32))] _ _ from ?_)
    refine zy_3 rfl rfl (show zyR _ _ _ _ [some (.ref (12 + 3)), none, some (.int x2), some (.int x3), some (.int x4), some (.int x5), some (.int x6), some (.int x7), some (.int x8), some (.int x9), some (.int x10), none, none] [.int (12345 : Int32), .int (x6 * (1103515245 : Int32))] _ _ from ?_)
    refine zy_10 rfl (show zyR _ _ _ _ [some (.ref (12 + 3)), none, some (.int x2), some (.int x3), some (.int x4), some (.int x5), some (.int x6), some (.int x7), some (.int x8), some (.int x9), some (.int x10), none, none] [.int ((x6 * (1103515245 : Int32)) + (12345 : Int32))] _ _ from ?_)
    refine zy_23 rfl rfl (show zyR _ _ _ _ [some (.ref (12 + 3)), none, some (.int x2), some (.int x3), some (.int x4), some (.int x5), some (.int ((x6 * (1103515245 : Int32)) + (12345 : Int32))), some (.int x7), some (.int x8), some (.int x9), some (.int x10), none, none] [] _ _ from ?_)
    refine zy_3 rfl rfl (show zyR _ _ _ _ [some (.ref (12 + 3)), none, some (.int x2), some (.int x3), some (.int x4), some (.int x5), some (.int ((x6 * (1103515245 : Int32)) + (12345 : Int32))), some (.int x7), some (.int x8), some (.int x9), some (.int x10), none, none] [.int (1 : Int32)] _ _ from ?_)
    refine zy_2 rfl rfl (show zyR _ _ _ _ [some (.ref (12 + 3)), none, some (.int x2), some (.int x3), some (.int x4), some (.int x5), some (.int ((x6 * (1103515245 : Int32)) + (12345 : Int32))), some (.int x7), some (.int x8), some (.int x9), some (.int x10), none, none] [.int ((x6 * (1103515245 : Int32)) + (12345 : Int32)), .int (1 : Int32)] _ _ from ?_)
    refine zy_3 rfl rfl (show zyR _ _ _ _ [some (.ref (12 + 3)), none, some (.int x2), some (.int x3), some (.int x4), some (.int x5), some (.int ((x6 * (1103515245 : Int32)) + (12345 : Int32))), some (.int x7), some (.int x8), some (.int x9), some (.int x10), none, none] [.int (8 : Int32), .int ((x6 * (1103515245 : Int32)) + (12345 : Int32)), .int (1 : Int32)] _ _ from ?_)
    refine zy_18 rfl (show zyR _ _ _ _ [some (.ref (12 + 3)), none, some (.int x2), some (.int x3), some (.int x4), some (.int x5), some (.int ((x6 * (1103515245 : Int32)) + (12345 : Int32))), some (.int x7), some (.int x8), some (.int x9), some (.int x10), none, none] [.int ((((x6 * (1103515245 : Int32)) + (12345 : Int32))).toUInt32 >>> (((8 : Int32)).toUInt32 &&& Int32.toUInt32 31)).toInt32, .int (1 : Int32)] _ _ from ?_)
    refine zy_3 rfl rfl (show zyR _ _ _ _ [some (.ref (12 + 3)), none, some (.int x2), some (.int x3), some (.int x4), some (.int x5), some (.int ((x6 * (1103515245 : Int32)) + (12345 : Int32))), some (.int x7), some (.int x8), some (.int x9), some (.int x10), none, none] [.int (24 : Int32), .int ((((x6 * (1103515245 : Int32)) + (12345 : Int32))).toUInt32 >>> (((8 : Int32)).toUInt32 &&& Int32.toUInt32 31)).toInt32, .int (1 : Int32)] _ _ from ?_)
    refine zy_20 rfl (by decide) (show zyR _ _ _ _ [some (.ref (12 + 3)), none, some (.int x2), some (.int x3), some (.int x4), some (.int x5), some (.int ((x6 * (1103515245 : Int32)) + (12345 : Int32))), some (.int x7), some (.int x8), some (.int x9), some (.int x10), none, none] [.int (((((x6 * (1103515245 : Int32)) + (12345 : Int32))).toUInt32 >>> (((8 : Int32)).toUInt32 &&& Int32.toUInt32 31)).toInt32 - ((((x6 * (1103515245 : Int32)) + (12345 : Int32))).toUInt32 >>> (((8 : Int32)).toUInt32 &&& Int32.toUInt32 31)).toInt32 / (24 : Int32) * (24 : Int32)), .int (1 : Int32)] _ _ from ?_)
    refine zy_16 rfl (show zyR _ _ _ _ [some (.ref (12 + 3)), none, some (.int x2), some (.int x3), some (.int x4), some (.int x5), some (.int ((x6 * (1103515245 : Int32)) + (12345 : Int32))), some (.int x7), some (.int x8), some (.int x9), some (.int x10), none, none] [.int ((1 : Int32) <<< ((((((x6 * (1103515245 : Int32)) + (12345 : Int32))).toUInt32 >>> (((8 : Int32)).toUInt32 &&& Int32.toUInt32 31)).toInt32 - ((((x6 * (1103515245 : Int32)) + (12345 : Int32))).toUInt32 >>> (((8 : Int32)).toUInt32 &&& Int32.toUInt32 31)).toInt32 / (24 : Int32) * (24 : Int32)) &&& 31))] _ _ from ?_)
    refine zy_23 rfl rfl (show zyR _ _ _ _ [some (.ref (12 + 3)), none, some (.int x2), some (.int x3), some (.int x4), some (.int x5), some (.int ((x6 * (1103515245 : Int32)) + (12345 : Int32))), some (.int x7), some (.int x8), some (.int x9), some (.int x10), some (.int ((1 : Int32) <<< ((((((x6 * (1103515245 : Int32)) + (12345 : Int32))).toUInt32 >>> (((8 : Int32)).toUInt32 &&& Int32.toUInt32 31)).toInt32 - ((((x6 * (1103515245 : Int32)) + (12345 : Int32))).toUInt32 >>> (((8 : Int32)).toUInt32 &&& Int32.toUInt32 31)).toInt32 / (24 : Int32) * (24 : Int32)) &&& 31))), none] [] _ _ from ?_)
    exact zy_sub (show zy_le [some (.ref (12 + 3)), none, some (.int x2), some (.int x3), some (.int x4), some (.int x5), some (.int ((x6 * (1103515245 : Int32)) + (12345 : Int32))), some (.int x7), some (.int x8), some (.int x9), some (.int x10), some (.int ((1 : Int32) <<< ((((((x6 * (1103515245 : Int32)) + (12345 : Int32))).toUInt32 >>> (((8 : Int32)).toUInt32 &&& Int32.toUInt32 31)).toInt32 - ((((x6 * (1103515245 : Int32)) + (12345 : Int32))).toUInt32 >>> (((8 : Int32)).toUInt32 &&& Int32.toUInt32 31)).toInt32 / (24 : Int32) * (24 : Int32)) &&& 31))), none] [some (.ref (12 + 3)), none, some (.int x2), some (.int x3), some (.int x4), some (.int x5), some (.int ((x6 * (1103515245 : Int32)) + (12345 : Int32))), some (.int x7), some (.int x8), some (.int x9), some (.int x10), some (.int ((1 : Int32) <<< ((((((x6 * (1103515245 : Int32)) + (12345 : Int32))).toUInt32 >>> (((8 : Int32)).toUInt32 &&& Int32.toUInt32 31)).toInt32 - ((((x6 * (1103515245 : Int32)) + (12345 : Int32))).toUInt32 >>> (((8 : Int32)).toUInt32 &&& Int32.toUInt32 31)).toInt32 / (24 : Int32) * (24 : Int32)) &&& 31))), none] from ⟨rfl, ⟨rfl, ⟨rfl, ⟨rfl, ⟨rfl, ⟨rfl, ⟨rfl, ⟨rfl, ⟨rfl, ⟨rfl, ⟨rfl, trivial⟩⟩⟩⟩⟩⟩⟩⟩⟩⟩⟩) (zyC130_69 hk13 hk40 h)
noncomputable def zyF130_40  (k13 : Int32 → Int32 → Int32 → Int32 → Int32 → Int32 → zy_S → Option (Int32 × zy_S)) (n : Nat) : Int32 → Int32 → Int32 → Int32 → Int32 → Int32 → Int32 → Int32 → Int32 → zy_S → Option (Int32 × zy_S) := Nat.rec (fun _ _ _ _ _ _ _ _ _ _ => none) (fun _ k40 => zyF130_40b k13 k40) n
theorem zyC130_40 {X : zx_X}  {k13 : Int32 → Int32 → Int32 → Int32 → Int32 → Int32 → zy_S → Option (Int32 × zy_S)}  (hk13 : ∀ (x2 : Int32) (x3 : Int32) (x4 : Int32) (x5 : Int32) (x6 : Int32) (x7 : Int32) (s : zy_S) (r : Int32) (s' : zy_S), k13 x2 x3 x4 x5 x6 x7 s = some (r, s') → zyR X 7 130 13 [some (.ref (12 + 3)), none, some (.int x2), some (.int x3), some (.int x4), some (.int x5), some (.int x6), some (.int x7), none, none, none, none, none] [] s (zyE (some (.int r)) s')) : ∀ (n : Nat) (x2 : Int32) (x3 : Int32) (x4 : Int32) (x5 : Int32) (x6 : Int32) (x7 : Int32) (x8 : Int32) (x9 : Int32) (x10 : Int32) (s : zy_S) (r : Int32) (s' : zy_S), zyF130_40 k13 n x2 x3 x4 x5 x6 x7 x8 x9 x10 s = some (r, s') → zyR X 7 130 40 [some (.ref (12 + 3)), none, some (.int x2), some (.int x3), some (.int x4), some (.int x5), some (.int x6), some (.int x7), some (.int x8), some (.int x9), some (.int x10), none, none] [] s (zyE (some (.int r)) s')
  | 0, _, _, _, _, _, _, _, _, _ => by
    intro s r s'  h
    have h : (none : Option (Int32 × zy_S)) = some (r, s') := h
    cases h
  | n + 1, x2, x3, x4, x5, x6, x7, x8, x9, x10 => by
    intro s r s'  h
    exact zyC130_40b (k40 := zyF130_40 k13 n) hk13 (fun x2 x3 x4 x5 x6 x7 x8 x9 x10 s r s'  h => zyC130_40 hk13 n x2 x3 x4 x5 x6 x7 x8 x9 x10 s r s'  h) h
noncomputable def zyF130_13b  (k13 : Int32 → Int32 → Int32 → Int32 → Int32 → Int32 → zy_S → Option (Int32 × zy_S)) (x2 : Int32) (x3 : Int32) (x4 : Int32) (x5 : Int32) (x6 : Int32) (x7 : Int32) (s : zy_S) : Option (Int32 × zy_S) :=
if x2 ≤ x7 then
some (x5, s)
else
zyF130_40 k13 zy_fu x2 x3 x4 x5 x6 x7 (s.1 1 3) (s.1 1 3) (0 : Int32) s
theorem zyC130_13b {X : zx_X}  {k13 : Int32 → Int32 → Int32 → Int32 → Int32 → Int32 → zy_S → Option (Int32 × zy_S)}  (hk13 : ∀ (x2 : Int32) (x3 : Int32) (x4 : Int32) (x5 : Int32) (x6 : Int32) (x7 : Int32) (s : zy_S) (r : Int32) (s' : zy_S), k13 x2 x3 x4 x5 x6 x7 s = some (r, s') → zyR X 7 130 13 [some (.ref (12 + 3)), none, some (.int x2), some (.int x3), some (.int x4), some (.int x5), some (.int x6), some (.int x7), none, none, none, none, none] [] s (zyE (some (.int r)) s')) {x2 : Int32} {x3 : Int32} {x4 : Int32} {x5 : Int32} {x6 : Int32} {x7 : Int32} {s : zy_S} {r : Int32} {s' : zy_S}  (h : zyF130_13b k13 x2 x3 x4 x5 x6 x7 s = some (r, s')) : zyR X 7 130 13 [some (.ref (12 + 3)), none, some (.int x2), some (.int x3), some (.int x4), some (.int x5), some (.int x6), some (.int x7), none, none, none, none, none] [] s (zyE (some (.int r)) s') := by
  unfold zyF130_13b at h
  refine zy_2 rfl rfl (show zyR _ _ _ _ [some (.ref (12 + 3)), none, some (.int x2), some (.int x3), some (.int x4), some (.int x5), some (.int x6), some (.int x7), none, none, none, none, none] [.int x7] _ _ from ?_)
  refine zy_2 rfl rfl (show zyR _ _ _ _ [some (.ref (12 + 3)), none, some (.int x2), some (.int x3), some (.int x4), some (.int x5), some (.int x6), some (.int x7), none, none, none, none, none] [.int x2, .int x7] _ _ from ?_)
  refine zy_25_3 rfl (fun b9 => (show zyR _ _ _ _ [some (.ref (12 + 3)), none, some (.int x2), some (.int x3), some (.int x4), some (.int x5), some (.int x6), some (.int x7), none, none, none, none, none] [] _ _ from ?_)) (fun b9 => (show zyR _ _ _ _ [some (.ref (12 + 3)), none, some (.int x2), some (.int x3), some (.int x4), some (.int x5), some (.int x6), some (.int x7), none, none, none, none, none] [] _ _ from ?_))
  · replace h := zy_ifp h b9
    refine zy_2 rfl rfl (show zyR _ _ _ _ [some (.ref (12 + 3)), none, some (.int x2), some (.int x3), some (.int x4), some (.int x5), some (.int x6), some (.int x7), none, none, none, none, none] [.int x5] _ _ from ?_)
    obtain ⟨rfl, rfl⟩ := zy_pi h
    exact zy_4 rfl ⟨rfl, rfl⟩
  · replace h := zy_ifn h b9
    refine zy_0 rfl rfl (show zyR _ _ _ _ [some (.ref (12 + 3)), none, some (.int x2), some (.int x3), some (.int x4), some (.int x5), some (.int x6), some (.int x7), none, none, none, none, none] [.ref (12 + 3)] _ _ from ?_)
    refine zy_1r (c := 12) rfl rfl rfl (show zyR _ _ _ _ [some (.ref (12 + 3)), none, some (.int x2), some (.int x3), some (.int x4), some (.int x5), some (.int x6), some (.int x7), none, none, none, none, none] [.ref (1 + 3)] _ _ from ?_)
    refine zy_1 (c := 1) rfl rfl rfl (show zyR _ _ _ _ [some (.ref (12 + 3)), none, some (.int x2), some (.int x3), some (.int x4), some (.int x5), some (.int x6), some (.int x7), none, none, none, none, none] [.int (s.1 1 3)] _ _ from ?_)
    refine zy_23 rfl rfl (show zyR _ _ _ _ [some (.ref (12 + 3)), none, some (.int x2), some (.int x3), some (.int x4), some (.int x5), some (.int x6), some (.int x7), some (.int (s.1 1 3)), none, none, none, none] [] _ _ from ?_)
    refine zy_0 rfl rfl (show zyR _ _ _ _ [some (.ref (12 + 3)), none, some (.int x2), some (.int x3), some (.int x4), some (.int x5), some (.int x6), some (.int x7), some (.int (s.1 1 3)), none, none, none, none] [.ref (12 + 3)] _ _ from ?_)
    refine zy_1r (c := 12) rfl rfl rfl (show zyR _ _ _ _ [some (.ref (12 + 3)), none, some (.int x2), some (.int x3), some (.int x4), some (.int x5), some (.int x6), some (.int x7), some (.int (s.1 1 3)), none, none, none, none] [.ref (1 + 3)] _ _ from ?_)
    refine zy_1 (c := 1) rfl rfl rfl (show zyR _ _ _ _ [some (.ref (12 + 3)), none, some (.int x2), some (.int x3), some (.int x4), some (.int x5), some (.int x6), some (.int x7), some (.int (s.1 1 3)), none, none, none, none] [.int (s.1 1 3)] _ _ from ?_)
    refine zy_23 rfl rfl (show zyR _ _ _ _ [some (.ref (12 + 3)), none, some (.int x2), some (.int x3), some (.int x4), some (.int x5), some (.int x6), some (.int x7), some (.int (s.1 1 3)), some (.int (s.1 1 3)), none, none, none] [] _ _ from ?_)
    refine zy_3 rfl rfl (show zyR _ _ _ _ [some (.ref (12 + 3)), none, some (.int x2), some (.int x3), some (.int x4), some (.int x5), some (.int x6), some (.int x7), some (.int (s.1 1 3)), some (.int (s.1 1 3)), none, none, none] [.int (0 : Int32)] _ _ from ?_)
    refine zy_23 rfl rfl (show zyR _ _ _ _ [some (.ref (12 + 3)), none, some (.int x2), some (.int x3), some (.int x4), some (.int x5), some (.int x6), some (.int x7), some (.int (s.1 1 3)), some (.int (s.1 1 3)), some (.int (0 : Int32)), none, none] [] _ _ from ?_)
    exact zy_sub (show zy_le [some (.ref (12 + 3)), none, some (.int x2), some (.int x3), some (.int x4), some (.int x5), some (.int x6), some (.int x7), some (.int (s.1 1 3)), some (.int (s.1 1 3)), some (.int (0 : Int32)), none, none] [some (.ref (12 + 3)), none, some (.int x2), some (.int x3), some (.int x4), some (.int x5), some (.int x6), some (.int x7), some (.int (s.1 1 3)), some (.int (s.1 1 3)), some (.int (0 : Int32)), none, none] from ⟨rfl, ⟨rfl, ⟨rfl, ⟨rfl, ⟨rfl, ⟨rfl, ⟨rfl, ⟨rfl, ⟨rfl, ⟨rfl, trivial⟩⟩⟩⟩⟩⟩⟩⟩⟩⟩) (zyC130_40 hk13 zy_fu x2 x3 x4 x5 x6 x7 (s.1 1 3) (s.1 1 3) (0 : Int32) s _ _ h)
noncomputable def zyF130_13   (n : Nat) : Int32 → Int32 → Int32 → Int32 → Int32 → Int32 → zy_S → Option (Int32 × zy_S) := Nat.rec (fun _ _ _ _ _ _ _ => none) (fun _ k13 => zyF130_13b k13) n
theorem zyC130_13 {X : zx_X}     : ∀ (n : Nat) (x2 : Int32) (x3 : Int32) (x4 : Int32) (x5 : Int32) (x6 : Int32) (x7 : Int32) (s : zy_S) (r : Int32) (s' : zy_S), zyF130_13 n x2 x3 x4 x5 x6 x7 s = some (r, s') → zyR X 7 130 13 [some (.ref (12 + 3)), none, some (.int x2), some (.int x3), some (.int x4), some (.int x5), some (.int x6), some (.int x7), none, none, none, none, none] [] s (zyE (some (.int r)) s')
  | 0, _, _, _, _, _, _ => by
    intro s r s'  h
    have h : (none : Option (Int32 × zy_S)) = some (r, s') := h
    cases h
  | n + 1, x2, x3, x4, x5, x6, x7 => by
    intro s r s'  h
    exact zyC130_13b (k13 := zyF130_13 n) (fun x2 x3 x4 x5 x6 x7 s r s'  h => zyC130_13  n x2 x3 x4 x5 x6 x7 s r s'  h) h
noncomputable def zyF130   (x1 : Int32) (x2 : Int32) (x3 : Int32) (x4 : Int32) (s : zy_S) : Option (Int32 × zy_S) :=
(zyF74 s).bind fun p10 =>
zyF130_13 zy_fu x2 x3 x4 (0 : Int32) x1 (0 : Int32) p10.2
theorem zyC130 {X : zx_X}     {x1 : Int32} {x2 : Int32} {x3 : Int32} {x4 : Int32} {s : zy_S} {r : Int32} {s' : zy_S}  (h : zyF130 x1 x2 x3 x4 s = some (r, s')) : zyR X 7 130 0 [some (.ref (12 + 3)), some (.int x1), some (.int x2), some (.int x3), some (.int x4), none, none, none, none, none, none, none, none] [] s (zyE (some (.int r)) s') := by
  unfold zyF130 at h
  refine zy_0 rfl rfl (show zyR _ _ _ _ [some (.ref (12 + 3)), some (.int x1), some (.int x2), some (.int x3), some (.int x4), none, none, none, none, none, none, none, none] [.ref (12 + 3)] _ _ from ?_)
  obtain ⟨p10, hp10, h⟩ := zy_bind h
  refine zy_5 (c := 12) (as := []) (rest := []) (L := [some (.ref (12 + 3))]) (d' := 2) rfl rfl rfl (Nat.le_of_ble_eq_true rfl) (Nat.le_of_ble_eq_true rfl) rfl (Nat.le_of_ble_eq_true rfl) rfl rfl (zyC74 hp10) ?_
  show zyR _ _ _ _ [some (.ref (12 + 3)), some (.int x1), some (.int x2), some (.int x3), some (.int x4), none, none, none, none, none, none, none, none] [] _ _
  refine zy_3 rfl rfl (show zyR _ _ _ _ [some (.ref (12 + 3)), some (.int x1), some (.int x2), some (.int x3), some (.int x4), none, none, none, none, none, none, none, none] [.int (0 : Int32)] _ _ from ?_)
  refine zy_23 rfl rfl (show zyR _ _ _ _ [some (.ref (12 + 3)), some (.int x1), some (.int x2), some (.int x3), some (.int x4), some (.int (0 : Int32)), none, none, none, none, none, none, none] [] _ _ from ?_)
  refine zy_2 rfl rfl (show zyR _ _ _ _ [some (.ref (12 + 3)), some (.int x1), some (.int x2), some (.int x3), some (.int x4), some (.int (0 : Int32)), none, none, none, none, none, none, none] [.int x1] _ _ from ?_)
  refine zy_23 rfl rfl (show zyR _ _ _ _ [some (.ref (12 + 3)), some (.int x1), some (.int x2), some (.int x3), some (.int x4), some (.int (0 : Int32)), some (.int x1), none, none, none, none, none, none] [] _ _ from ?_)
  refine zy_3 rfl rfl (show zyR _ _ _ _ [some (.ref (12 + 3)), some (.int x1), some (.int x2), some (.int x3), some (.int x4), some (.int (0 : Int32)), some (.int x1), none, none, none, none, none, none] [.int (0 : Int32)] _ _ from ?_)
  refine zy_23 rfl rfl (show zyR _ _ _ _ [some (.ref (12 + 3)), some (.int x1), some (.int x2), some (.int x3), some (.int x4), some (.int (0 : Int32)), some (.int x1), some (.int (0 : Int32)), none, none, none, none, none] [] _ _ from ?_)
  exact zy_sub (show zy_le [some (.ref (12 + 3)), none, some (.int x2), some (.int x3), some (.int x4), some (.int (0 : Int32)), some (.int x1), some (.int (0 : Int32)), none, none, none, none, none] [some (.ref (12 + 3)), some (.int x1), some (.int x2), some (.int x3), some (.int x4), some (.int (0 : Int32)), some (.int x1), some (.int (0 : Int32)), none, none, none, none, none] from ⟨rfl, ⟨rfl, ⟨rfl, ⟨rfl, ⟨rfl, ⟨rfl, ⟨rfl, trivial⟩⟩⟩⟩⟩⟩⟩) (zyC130_13 zy_fu x2 x3 x4 (0 : Int32) x1 (0 : Int32) p10.2 _ _ h)
end
section
/-! PART 41.40: methods as functions. Made by wip/v4/dcp.py. -/
/-! NineOpinions.drawn(III)I -/
noncomputable def zyF129   (x1 : Int32) (x2 : Int32) (x3 : Int32) (s : zy_S) : Option (Int32 × zy_S) :=
if (x2 / (100 : Int32)) < (1 : Int32) then
some ((-1 : Int32), s)
else
if (30 : Int32) < (x2 / (100 : Int32)) then
some ((-1 : Int32), s)
else
if (x2 - x2 / (100 : Int32) * (100 : Int32)) < (1 : Int32) then
some ((-1 : Int32), s)
else
if (30 : Int32) < (x2 - x2 / (100 : Int32) * (100 : Int32)) then
some ((-1 : Int32), s)
else
if x3 < (-1 : Int32) then
some ((-1 : Int32), s)
else
if x3 < (24 : Int32) then
(zyF130 x1 (x2 / (100 : Int32)) (x2 - x2 / (100 : Int32) * (100 : Int32)) x3 s).bind fun p1 =>
some (p1.1, p1.2)
else
some ((-1 : Int32), s)
theorem zyC129 {X : zx_X}     {x1 : Int32} {x2 : Int32} {x3 : Int32} {s : zy_S} {r : Int32} {s' : zy_S}  (h : zyF129 x1 x2 x3 s = some (r, s')) : zyR X 8 129 0 [some (.ref (0 + 3)), some (.int x1), some (.int x2), some (.int x3), none, none] [] s (zyE (some (.int r)) s') := by
  unfold zyF129 at h
  refine zy_2 rfl rfl (show zyR _ _ _ _ [some (.ref (0 + 3)), some (.int x1), some (.int x2), some (.int x3), none, none] [.int x2] _ _ from ?_)
  refine zy_3 rfl rfl (show zyR _ _ _ _ [some (.ref (0 + 3)), some (.int x1), some (.int x2), some (.int x3), none, none] [.int (100 : Int32), .int x2] _ _ from ?_)
  refine zy_19 rfl (by decide) (show zyR _ _ _ _ [some (.ref (0 + 3)), some (.int x1), some (.int x2), some (.int x3), none, none] [.int (x2 / (100 : Int32))] _ _ from ?_)
  refine zy_23 rfl rfl (show zyR _ _ _ _ [some (.ref (0 + 3)), some (.int x1), some (.int x2), some (.int x3), some (.int (x2 / (100 : Int32))), none] [] _ _ from ?_)
  refine zy_2 rfl rfl (show zyR _ _ _ _ [some (.ref (0 + 3)), some (.int x1), some (.int x2), some (.int x3), some (.int (x2 / (100 : Int32))), none] [.int x2] _ _ from ?_)
  refine zy_3 rfl rfl (show zyR _ _ _ _ [some (.ref (0 + 3)), some (.int x1), some (.int x2), some (.int x3), some (.int (x2 / (100 : Int32))), none] [.int (100 : Int32), .int x2] _ _ from ?_)
  refine zy_20 rfl (by decide) (show zyR _ _ _ _ [some (.ref (0 + 3)), some (.int x1), some (.int x2), some (.int x3), some (.int (x2 / (100 : Int32))), none] [.int (x2 - x2 / (100 : Int32) * (100 : Int32))] _ _ from ?_)
  refine zy_23 rfl rfl (show zyR _ _ _ _ [some (.ref (0 + 3)), some (.int x1), some (.int x2), some (.int x3), some (.int (x2 / (100 : Int32))), some (.int (x2 - x2 / (100 : Int32) * (100 : Int32)))] [] _ _ from ?_)
  refine zy_2 rfl rfl (show zyR _ _ _ _ [some (.ref (0 + 3)), some (.int x1), some (.int x2), some (.int x3), some (.int (x2 / (100 : Int32))), some (.int (x2 - x2 / (100 : Int32) * (100 : Int32)))] [.int (x2 / (100 : Int32))] _ _ from ?_)
  refine zy_3 rfl rfl (show zyR _ _ _ _ [some (.ref (0 + 3)), some (.int x1), some (.int x2), some (.int x3), some (.int (x2 / (100 : Int32))), some (.int (x2 - x2 / (100 : Int32) * (100 : Int32)))] [.int (1 : Int32), .int (x2 / (100 : Int32))] _ _ from ?_)
  refine zy_25_2 rfl (fun b7 => (show zyR _ _ _ _ [some (.ref (0 + 3)), some (.int x1), some (.int x2), some (.int x3), some (.int (x2 / (100 : Int32))), some (.int (x2 - x2 / (100 : Int32) * (100 : Int32)))] [] _ _ from ?_)) (fun b7 => (show zyR _ _ _ _ [some (.ref (0 + 3)), some (.int x1), some (.int x2), some (.int x3), some (.int (x2 / (100 : Int32))), some (.int (x2 - x2 / (100 : Int32) * (100 : Int32)))] [] _ _ from ?_))
  · replace h := zy_ifp h b7
    refine zy_3 rfl rfl (show zyR _ _ _ _ [some (.ref (0 + 3)), some (.int x1), some (.int x2), some (.int x3), some (.int (x2 / (100 : Int32))), some (.int (x2 - x2 / (100 : Int32) * (100 : Int32)))] [.int (-1 : Int32)] _ _ from ?_)
    obtain ⟨rfl, rfl⟩ := zy_pi h
    exact zy_4 rfl ⟨rfl, rfl⟩
  · replace h := zy_ifn h b7
    refine zy_2 rfl rfl (show zyR _ _ _ _ [some (.ref (0 + 3)), some (.int x1), some (.int x2), some (.int x3), some (.int (x2 / (100 : Int32))), some (.int (x2 - x2 / (100 : Int32) * (100 : Int32)))] [.int (x2 / (100 : Int32))] _ _ from ?_)
    refine zy_3 rfl rfl (show zyR _ _ _ _ [some (.ref (0 + 3)), some (.int x1), some (.int x2), some (.int x3), some (.int (x2 / (100 : Int32))), some (.int (x2 - x2 / (100 : Int32) * (100 : Int32)))] [.int (30 : Int32), .int (x2 / (100 : Int32))] _ _ from ?_)
    refine zy_25_4 rfl (fun b6 => (show zyR _ _ _ _ [some (.ref (0 + 3)), some (.int x1), some (.int x2), some (.int x3), some (.int (x2 / (100 : Int32))), some (.int (x2 - x2 / (100 : Int32) * (100 : Int32)))] [] _ _ from ?_)) (fun b6 => (show zyR _ _ _ _ [some (.ref (0 + 3)), some (.int x1), some (.int x2), some (.int x3), some (.int (x2 / (100 : Int32))), some (.int (x2 - x2 / (100 : Int32) * (100 : Int32)))] [] _ _ from ?_))
    · replace h := zy_ifp h b6
      refine zy_3 rfl rfl (show zyR _ _ _ _ [some (.ref (0 + 3)), some (.int x1), some (.int x2), some (.int x3), some (.int (x2 / (100 : Int32))), some (.int (x2 - x2 / (100 : Int32) * (100 : Int32)))] [.int (-1 : Int32)] _ _ from ?_)
      obtain ⟨rfl, rfl⟩ := zy_pi h
      exact zy_4 rfl ⟨rfl, rfl⟩
    · replace h := zy_ifn h b6
      refine zy_2 rfl rfl (show zyR _ _ _ _ [some (.ref (0 + 3)), some (.int x1), some (.int x2), some (.int x3), some (.int (x2 / (100 : Int32))), some (.int (x2 - x2 / (100 : Int32) * (100 : Int32)))] [.int (x2 - x2 / (100 : Int32) * (100 : Int32))] _ _ from ?_)
      refine zy_3 rfl rfl (show zyR _ _ _ _ [some (.ref (0 + 3)), some (.int x1), some (.int x2), some (.int x3), some (.int (x2 / (100 : Int32))), some (.int (x2 - x2 / (100 : Int32) * (100 : Int32)))] [.int (1 : Int32), .int (x2 - x2 / (100 : Int32) * (100 : Int32))] _ _ from ?_)
      refine zy_25_2 rfl (fun b5 => (show zyR _ _ _ _ [some (.ref (0 + 3)), some (.int x1), some (.int x2), some (.int x3), some (.int (x2 / (100 : Int32))), some (.int (x2 - x2 / (100 : Int32) * (100 : Int32)))] [] _ _ from ?_)) (fun b5 => (show zyR _ _ _ _ [some (.ref (0 + 3)), some (.int x1), some (.int x2), some (.int x3), some (.int (x2 / (100 : Int32))), some (.int (x2 - x2 / (100 : Int32) * (100 : Int32)))] [] _ _ from ?_))
      · replace h := zy_ifp h b5
        refine zy_3 rfl rfl (show zyR _ _ _ _ [some (.ref (0 + 3)), some (.int x1), some (.int x2), some (.int x3), some (.int (x2 / (100 : Int32))), some (.int (x2 - x2 / (100 : Int32) * (100 : Int32)))] [.int (-1 : Int32)] _ _ from ?_)
        obtain ⟨rfl, rfl⟩ := zy_pi h
        exact zy_4 rfl ⟨rfl, rfl⟩
      · replace h := zy_ifn h b5
        refine zy_2 rfl rfl (show zyR _ _ _ _ [some (.ref (0 + 3)), some (.int x1), some (.int x2), some (.int x3), some (.int (x2 / (100 : Int32))), some (.int (x2 - x2 / (100 : Int32) * (100 : Int32)))] [.int (x2 - x2 / (100 : Int32) * (100 : Int32))] _ _ from ?_)
        refine zy_3 rfl rfl (show zyR _ _ _ _ [some (.ref (0 + 3)), some (.int x1), some (.int x2), some (.int x3), some (.int (x2 / (100 : Int32))), some (.int (x2 - x2 / (100 : Int32) * (100 : Int32)))] [.int (30 : Int32), .int (x2 - x2 / (100 : Int32) * (100 : Int32))] _ _ from ?_)
        refine zy_25_4 rfl (fun b4 => (show zyR _ _ _ _ [some (.ref (0 + 3)), some (.int x1), some (.int x2), some (.int x3), some (.int (x2 / (100 : Int32))), some (.int (x2 - x2 / (100 : Int32) * (100 : Int32)))] [] _ _ from ?_)) (fun b4 => (show zyR _ _ _ _ [some (.ref (0 + 3)), some (.int x1), some (.int x2), some (.int x3), some (.int (x2 / (100 : Int32))), some (.int (x2 - x2 / (100 : Int32) * (100 : Int32)))] [] _ _ from ?_))
        · replace h := zy_ifp h b4
          refine zy_3 rfl rfl (show zyR _ _ _ _ [some (.ref (0 + 3)), some (.int x1), some (.int x2), some (.int x3), some (.int (x2 / (100 : Int32))), some (.int (x2 - x2 / (100 : Int32) * (100 : Int32)))] [.int (-1 : Int32)] _ _ from ?_)
          obtain ⟨rfl, rfl⟩ := zy_pi h
          exact zy_4 rfl ⟨rfl, rfl⟩
        · replace h := zy_ifn h b4
          refine zy_2 rfl rfl (show zyR _ _ _ _ [some (.ref (0 + 3)), some (.int x1), some (.int x2), some (.int x3), some (.int (x2 / (100 : Int32))), some (.int (x2 - x2 / (100 : Int32) * (100 : Int32)))] [.int x3] _ _ from ?_)
          refine zy_3 rfl rfl (show zyR _ _ _ _ [some (.ref (0 + 3)), some (.int x1), some (.int x2), some (.int x3), some (.int (x2 / (100 : Int32))), some (.int (x2 - x2 / (100 : Int32) * (100 : Int32)))] [.int (-1 : Int32), .int x3] _ _ from ?_)
          refine zy_25_2 rfl (fun b3 => (show zyR _ _ _ _ [some (.ref (0 + 3)), some (.int x1), some (.int x2), some (.int x3), some (.int (x2 / (100 : Int32))), some (.int (x2 - x2 / (100 : Int32) * (100 : Int32)))] [] _ _ from ?_)) (fun b3 => (show zyR _ _ _ _ [some (.ref (0 + 3)), some (.int x1), some (.int x2), some (.int x3), some (.int (x2 / (100 : Int32))), some (.int (x2 - x2 / (100 : Int32) * (100 : Int32)))] [] _ _ from ?_))
          · replace h := zy_ifp h b3
            refine zy_3 rfl rfl (show zyR _ _ _ _ [some (.ref (0 + 3)), some (.int x1), some (.int x2), some (.int x3), some (.int (x2 / (100 : Int32))), some (.int (x2 - x2 / (100 : Int32) * (100 : Int32)))] [.int (-1 : Int32)] _ _ from ?_)
            obtain ⟨rfl, rfl⟩ := zy_pi h
            exact zy_4 rfl ⟨rfl, rfl⟩
          · replace h := zy_ifn h b3
            refine zy_2 rfl rfl (show zyR _ _ _ _ [some (.ref (0 + 3)), some (.int x1), some (.int x2), some (.int x3), some (.int (x2 / (100 : Int32))), some (.int (x2 - x2 / (100 : Int32) * (100 : Int32)))] [.int x3] _ _ from ?_)
            refine zy_3 rfl rfl (show zyR _ _ _ _ [some (.ref (0 + 3)), some (.int x1), some (.int x2), some (.int x3), some (.int (x2 / (100 : Int32))), some (.int (x2 - x2 / (100 : Int32) * (100 : Int32)))] [.int (24 : Int32), .int x3] _ _ from ?_)
            refine zy_25_2 rfl (fun b2 => (show zyR _ _ _ _ [some (.ref (0 + 3)), some (.int x1), some (.int x2), some (.int x3), some (.int (x2 / (100 : Int32))), some (.int (x2 - x2 / (100 : Int32) * (100 : Int32)))] [] _ _ from ?_)) (fun b2 => (show zyR _ _ _ _ [some (.ref (0 + 3)), some (.int x1), some (.int x2), some (.int x3), some (.int (x2 / (100 : Int32))), some (.int (x2 - x2 / (100 : Int32) * (100 : Int32)))] [] _ _ from ?_))
            · replace h := zy_ifp h b2
              refine zy_0 rfl rfl (show zyR _ _ _ _ [some (.ref (0 + 3)), some (.int x1), some (.int x2), some (.int x3), some (.int (x2 / (100 : Int32))), some (.int (x2 - x2 / (100 : Int32) * (100 : Int32)))] [.ref (0 + 3)] _ _ from ?_)
              refine zy_1r (c := 0) rfl rfl rfl (show zyR _ _ _ _ [some (.ref (0 + 3)), some (.int x1), some (.int x2), some (.int x3), some (.int (x2 / (100 : Int32))), some (.int (x2 - x2 / (100 : Int32) * (100 : Int32)))] [.ref (12 + 3)] _ _ from ?_)
              refine zy_2 rfl rfl (show zyR _ _ _ _ [some (.ref (0 + 3)), some (.int x1), some (.int x2), some (.int x3), some (.int (x2 / (100 : Int32))), some (.int (x2 - x2 / (100 : Int32) * (100 : Int32)))] [.int x1, .ref (12 + 3)] _ _ from ?_)
              refine zy_2 rfl rfl (show zyR _ _ _ _ [some (.ref (0 + 3)), some (.int x1), some (.int x2), some (.int x3), some (.int (x2 / (100 : Int32))), some (.int (x2 - x2 / (100 : Int32) * (100 : Int32)))] [.int (x2 / (100 : Int32)), .int x1, .ref (12 + 3)] _ _ from ?_)
              refine zy_2 rfl rfl (show zyR _ _ _ _ [some (.ref (0 + 3)), some (.int x1), some (.int x2), some (.int x3), some (.int (x2 / (100 : Int32))), some (.int (x2 - x2 / (100 : Int32) * (100 : Int32)))] [.int (x2 - x2 / (100 : Int32) * (100 : Int32)), .int (x2 / (100 : Int32)), .int x1, .ref (12 + 3)] _ _ from ?_)
              refine zy_2 rfl rfl (show zyR _ _ _ _ [some (.ref (0 + 3)), some (.int x1), some (.int x2), some (.int x3), some (.int (x2 / (100 : Int32))), some (.int (x2 - x2 / (100 : Int32) * (100 : Int32)))] [.int x3, .int (x2 - x2 / (100 : Int32) * (100 : Int32)), .int (x2 / (100 : Int32)), .int x1, .ref (12 + 3)] _ _ from ?_)
              obtain ⟨p1, hp1, h⟩ := zy_bind h
              refine zy_5 (c := 12) (as := [.int x1, .int (x2 / (100 : Int32)), .int (x2 - x2 / (100 : Int32) * (100 : Int32)), .int x3]) (rest := []) (L := [some (.ref (12 + 3)), some (.int x1), some (.int (x2 / (100 : Int32))), some (.int (x2 - x2 / (100 : Int32) * (100 : Int32))), some (.int x3), none, none, none, none, none, none, none, none]) (d' := 7) rfl rfl rfl (Nat.le_of_ble_eq_true rfl) (Nat.le_of_ble_eq_true rfl) rfl (Nat.le_of_ble_eq_true rfl) rfl rfl (zyC130 hp1) ?_
              show zyR _ _ _ _ [some (.ref (0 + 3)), some (.int x1), some (.int x2), some (.int x3), some (.int (x2 / (100 : Int32))), some (.int (x2 - x2 / (100 : Int32) * (100 : Int32)))] [.int p1.1] _ _
              obtain ⟨rfl, rfl⟩ := zy_pi h
              exact zy_4 rfl ⟨rfl, rfl⟩
            · replace h := zy_ifn h b2
              refine zy_3 rfl rfl (show zyR _ _ _ _ [some (.ref (0 + 3)), some (.int x1), some (.int x2), some (.int x3), some (.int (x2 / (100 : Int32))), some (.int (x2 - x2 / (100 : Int32) * (100 : Int32)))] [.int (-1 : Int32)] _ _ from ?_)
              obtain ⟨rfl, rfl⟩ := zy_pi h
              exact zy_4 rfl ⟨rfl, rfl⟩
end
section
/-! PART 41.41: methods as functions. Made by wip/v4/dcp.py. -/
/-! NineOpinionsModel.drawn(III)I -/
noncomputable def zyF239_201  (k61 : Int32 → Int32 → Int32 → Int32 → Int32 → Int32 → zy_S → Option (Int32 × zy_S)) (x2 : Int32) (x3 : Int32) (x4 : Int32) (x5 : Int32) (x7 : Int32) (y0 : Int32) (y1 : Int32) (s : zy_S) : Option (Int32 × zy_S) :=
k61 x2 x3 x4 x5 (y1 + y0) (x7 + (1 : Int32)) s
theorem zyC239_201 {X : zx_X}  {k61 : Int32 → Int32 → Int32 → Int32 → Int32 → Int32 → zy_S → Option (Int32 × zy_S)}  (hk61 : ∀ (x2 : Int32) (x3 : Int32) (x4 : Int32) (x5 : Int32) (x6 : Int32) (x7 : Int32) (s : zy_S) (r : Int32) (s' : zy_S), k61 x2 x3 x4 x5 x6 x7 s = some (r, s') → zyR X 107 239 61 [some (.ref (43 + 3)), none, some (.int x2), some (.int x3), some (.int x4), some (.int x5), some (.int x6), some (.int x7), none, none, none] [] s (zyE (some (.int r)) s')) {x2 : Int32} {x3 : Int32} {x4 : Int32} {x5 : Int32} {x7 : Int32} {y0 : Int32} {y1 : Int32} {s : zy_S} {r : Int32} {s' : zy_S}  (h : zyF239_201 k61 x2 x3 x4 x5 x7 y0 y1 s = some (r, s')) : zyR X 107 239 201 [some (.ref (43 + 3)), none, some (.int x2), some (.int x3), some (.int x4), some (.int x5), none, some (.int x7), none, none, none] [.int y0, .int y1] s (zyE (some (.int r)) s') := by
  unfold zyF239_201 at h
  refine zy_10 rfl (show zyR _ _ _ _ [some (.ref (43 + 3)), none, some (.int x2), some (.int x3), some (.int x4), some (.int x5), none, some (.int x7), none, none, none] [.int (y1 + y0)] _ _ from ?_)
  refine zy_23 rfl rfl (show zyR _ _ _ _ [some (.ref (43 + 3)), none, some (.int x2), some (.int x3), some (.int x4), some (.int x5), some (.int (y1 + y0)), some (.int x7), none, none, none] [] _ _ from ?_)
  refine zy_22 rfl rfl rfl rfl (show zyR _ _ _ _ [some (.ref (43 + 3)), none, some (.int x2), some (.int x3), some (.int x4), some (.int x5), some (.int (y1 + y0)), some (.int (x7 + (1 : Int32))), none, none, none] [] _ _ from ?_)
  refine zy_6 rfl (show zyR _ _ _ _ [some (.ref (43 + 3)), none, some (.int x2), some (.int x3), some (.int x4), some (.int x5), some (.int (y1 + y0)), some (.int (x7 + (1 : Int32))), none, none, none] [] _ _ from ?_)
  exact zy_sub (show zy_le [some (.ref (43 + 3)), none, some (.int x2), some (.int x3), some (.int x4), some (.int x5), some (.int (y1 + y0)), some (.int (x7 + (1 : Int32))), none, none, none] [some (.ref (43 + 3)), none, some (.int x2), some (.int x3), some (.int x4), some (.int x5), some (.int (y1 + y0)), some (.int (x7 + (1 : Int32))), none, none, none] from ⟨rfl, ⟨rfl, ⟨rfl, ⟨rfl, ⟨rfl, ⟨rfl, ⟨rfl, trivial⟩⟩⟩⟩⟩⟩⟩) (hk61 x2 x3 x4 x5 (y1 + y0) (x7 + (1 : Int32)) s _ _ h)
noncomputable def zyF239_200  (k61 : Int32 → Int32 → Int32 → Int32 → Int32 → Int32 → zy_S → Option (Int32 × zy_S)) (x2 : Int32) (x3 : Int32) (x4 : Int32) (x5 : Int32) (x7 : Int32) (y0 : Int32) (s : zy_S) : Option (Int32 × zy_S) :=
zyF239_201 k61 x2 x3 x4 x5 x7 (0 : Int32) y0 s
theorem zyC239_200 {X : zx_X}  {k61 : Int32 → Int32 → Int32 → Int32 → Int32 → Int32 → zy_S → Option (Int32 × zy_S)}  (hk61 : ∀ (x2 : Int32) (x3 : Int32) (x4 : Int32) (x5 : Int32) (x6 : Int32) (x7 : Int32) (s : zy_S) (r : Int32) (s' : zy_S), k61 x2 x3 x4 x5 x6 x7 s = some (r, s') → zyR X 107 239 61 [some (.ref (43 + 3)), none, some (.int x2), some (.int x3), some (.int x4), some (.int x5), some (.int x6), some (.int x7), none, none, none] [] s (zyE (some (.int r)) s')) {x2 : Int32} {x3 : Int32} {x4 : Int32} {x5 : Int32} {x7 : Int32} {y0 : Int32} {s : zy_S} {r : Int32} {s' : zy_S}  (h : zyF239_200 k61 x2 x3 x4 x5 x7 y0 s = some (r, s')) : zyR X 107 239 200 [some (.ref (43 + 3)), none, some (.int x2), some (.int x3), some (.int x4), some (.int x5), none, some (.int x7), none, none, none] [.int y0] s (zyE (some (.int r)) s') := by
  unfold zyF239_200 at h
  refine zy_3 rfl rfl (show zyR _ _ _ _ [some (.ref (43 + 3)), none, some (.int x2), some (.int x3), some (.int x4), some (.int x5), none, some (.int x7), none, none, none] [.int (0 : Int32), .int y0] _ _ from ?_)
  exact zy_sub (show zy_le [some (.ref (43 + 3)), none, some (.int x2), some (.int x3), some (.int x4), some (.int x5), none, some (.int x7), none, none, none] [some (.ref (43 + 3)), none, some (.int x2), some (.int x3), some (.int x4), some (.int x5), none, some (.int x7), none, none, none] from ⟨rfl, ⟨rfl, ⟨rfl, ⟨rfl, ⟨rfl, ⟨rfl, trivial⟩⟩⟩⟩⟩⟩) (zyC239_201 hk61 h)
noncomputable def zyF239_164  (k61 : Int32 → Int32 → Int32 → Int32 → Int32 → Int32 → zy_S → Option (Int32 × zy_S)) (k83 : Int32 → Int32 → Int32 → Int32 → Int32 → Int32 → Int32 → Int32 → zy_S → Option (Int32 × zy_S)) (x2 : Int32) (x3 : Int32) (x4 : Int32) (x5 : Int32) (x6 : Int32) (x7 : Int32) (x8 : Int32) (x9 : Int32) (s : zy_S) : Option (Int32 × zy_S) :=
k83 x2 x3 x4 x5 x6 x7 x8 (x9 + (1 : Int32)) s
theorem zyC239_164 {X : zx_X}  {k61 : Int32 → Int32 → Int32 → Int32 → Int32 → Int32 → zy_S → Option (Int32 × zy_S)} {k83 : Int32 → Int32 → Int32 → Int32 → Int32 → Int32 → Int32 → Int32 → zy_S → Option (Int32 × zy_S)}  (hk61 : ∀ (x2 : Int32) (x3 : Int32) (x4 : Int32) (x5 : Int32) (x6 : Int32) (x7 : Int32) (s : zy_S) (r : Int32) (s' : zy_S), k61 x2 x3 x4 x5 x6 x7 s = some (r, s') → zyR X 107 239 61 [some (.ref (43 + 3)), none, some (.int x2), some (.int x3), some (.int x4), some (.int x5), some (.int x6), some (.int x7), none, none, none] [] s (zyE (some (.int r)) s')) (hk83 : ∀ (x2 : Int32) (x3 : Int32) (x4 : Int32) (x5 : Int32) (x6 : Int32) (x7 : Int32) (x8 : Int32) (x9 : Int32) (s : zy_S) (r : Int32) (s' : zy_S), k83 x2 x3 x4 x5 x6 x7 x8 x9 s = some (r, s') → zyR X 107 239 83 [some (.ref (43 + 3)), none, some (.int x2), some (.int x3), some (.int x4), some (.int x5), some (.int x6), some (.int x7), some (.int x8), some (.int x9), none] [] s (zyE (some (.int r)) s')) {x2 : Int32} {x3 : Int32} {x4 : Int32} {x5 : Int32} {x6 : Int32} {x7 : Int32} {x8 : Int32} {x9 : Int32} {s : zy_S} {r : Int32} {s' : zy_S}  (h : zyF239_164 k61 k83 x2 x3 x4 x5 x6 x7 x8 x9 s = some (r, s')) : zyR X 107 239 164 [some (.ref (43 + 3)), none, some (.int x2), some (.int x3), some (.int x4), some (.int x5), some (.int x6), some (.int x7), some (.int x8), some (.int x9), none] [] s (zyE (some (.int r)) s') := by
  unfold zyF239_164 at h
  refine zy_22 rfl rfl rfl rfl (show zyR _ _ _ _ [some (.ref (43 + 3)), none, some (.int x2), some (.int x3), some (.int x4), some (.int x5), some (.int x6), some (.int x7), some (.int x8), some (.int (x9 + (1 : Int32))), none] [] _ _ from ?_)
  refine zy_6 rfl (show zyR _ _ _ _ [some (.ref (43 + 3)), none, some (.int x2), some (.int x3), some (.int x4), some (.int x5), some (.int x6), some (.int x7), some (.int x8), some (.int (x9 + (1 : Int32))), none] [] _ _ from ?_)
  exact zy_sub (show zy_le [some (.ref (43 + 3)), none, some (.int x2), some (.int x3), some (.int x4), some (.int x5), some (.int x6), some (.int x7), some (.int x8), some (.int (x9 + (1 : Int32))), none] [some (.ref (43 + 3)), none, some (.int x2), some (.int x3), some (.int x4), some (.int x5), some (.int x6), some (.int x7), some (.int x8), some (.int (x9 + (1 : Int32))), none] from ⟨rfl, ⟨rfl, ⟨rfl, ⟨rfl, ⟨rfl, ⟨rfl, ⟨rfl, ⟨rfl, ⟨rfl, trivial⟩⟩⟩⟩⟩⟩⟩⟩⟩) (hk83 x2 x3 x4 x5 x6 x7 x8 (x9 + (1 : Int32)) s _ _ h)
noncomputable def zyF239_156  (k61 : Int32 → Int32 → Int32 → Int32 → Int32 → Int32 → zy_S → Option (Int32 × zy_S)) (k83 : Int32 → Int32 → Int32 → Int32 → Int32 → Int32 → Int32 → Int32 → zy_S → Option (Int32 × zy_S)) (x2 : Int32) (x3 : Int32) (x4 : Int32) (x5 : Int32) (x6 : Int32) (x7 : Int32) (x8 : Int32) (x9 : Int32) (x10 : Int32) (s : zy_S) : Option (Int32 × zy_S) :=
if zy_in x10 24 then
zyF239_164 k61 k83 x2 x3 x4 x5 x6 x7 x8 x9 (zy_up s 51 (x10).toNatClampNeg (0 : Int32))
else none
theorem zyC239_156 {X : zx_X}  {k61 : Int32 → Int32 → Int32 → Int32 → Int32 → Int32 → zy_S → Option (Int32 × zy_S)} {k83 : Int32 → Int32 → Int32 → Int32 → Int32 → Int32 → Int32 → Int32 → zy_S → Option (Int32 × zy_S)}  (hk61 : ∀ (x2 : Int32) (x3 : Int32) (x4 : Int32) (x5 : Int32) (x6 : Int32) (x7 : Int32) (s : zy_S) (r : Int32) (s' : zy_S), k61 x2 x3 x4 x5 x6 x7 s = some (r, s') → zyR X 107 239 61 [some (.ref (43 + 3)), none, some (.int x2), some (.int x3), some (.int x4), some (.int x5), some (.int x6), some (.int x7), none, none, none] [] s (zyE (some (.int r)) s')) (hk83 : ∀ (x2 : Int32) (x3 : Int32) (x4 : Int32) (x5 : Int32) (x6 : Int32) (x7 : Int32) (x8 : Int32) (x9 : Int32) (s : zy_S) (r : Int32) (s' : zy_S), k83 x2 x3 x4 x5 x6 x7 x8 x9 s = some (r, s') → zyR X 107 239 83 [some (.ref (43 + 3)), none, some (.int x2), some (.int x3), some (.int x4), some (.int x5), some (.int x6), some (.int x7), some (.int x8), some (.int x9), none] [] s (zyE (some (.int r)) s')) {x2 : Int32} {x3 : Int32} {x4 : Int32} {x5 : Int32} {x6 : Int32} {x7 : Int32} {x8 : Int32} {x9 : Int32} {x10 : Int32} {s : zy_S} {r : Int32} {s' : zy_S}  (h : zyF239_156 k61 k83 x2 x3 x4 x5 x6 x7 x8 x9 x10 s = some (r, s')) : zyR X 107 239 156 [some (.ref (43 + 3)), none, some (.int x2), some (.int x3), some (.int x4), some (.int x5), some (.int x6), some (.int x7), some (.int x8), some (.int x9), some (.int x10)] [] s (zyE (some (.int r)) s') := by
  unfold zyF239_156 at h
  refine zy_0 rfl rfl (show zyR _ _ _ _ [some (.ref (43 + 3)), none, some (.int x2), some (.int x3), some (.int x4), some (.int x5), some (.int x6), some (.int x7), some (.int x8), some (.int x9), some (.int x10)] [.ref (43 + 3)] _ _ from ?_)
  refine zy_1r (c := 43) rfl rfl rfl (show zyR _ _ _ _ [some (.ref (43 + 3)), none, some (.int x2), some (.int x3), some (.int x4), some (.int x5), some (.int x6), some (.int x7), some (.int x8), some (.int x9), some (.int x10)] [.ref (51 + 3)] _ _ from ?_)
  refine zy_2 rfl rfl (show zyR _ _ _ _ [some (.ref (43 + 3)), none, some (.int x2), some (.int x3), some (.int x4), some (.int x5), some (.int x6), some (.int x7), some (.int x8), some (.int x9), some (.int x10)] [.int x10, .ref (51 + 3)] _ _ from ?_)
  refine zy_3 rfl rfl (show zyR _ _ _ _ [some (.ref (43 + 3)), none, some (.int x2), some (.int x3), some (.int x4), some (.int x5), some (.int x6), some (.int x7), some (.int x8), some (.int x9), some (.int x10)] [.int (0 : Int32), .int x10, .ref (51 + 3)] _ _ from ?_)
  obtain ⟨c1, h⟩ := zy_if h
  refine zy_27 (c := 51) rfl rfl c1 (show zyR _ _ _ _ [some (.ref (43 + 3)), none, some (.int x2), some (.int x3), some (.int x4), some (.int x5), some (.int x6), some (.int x7), some (.int x8), some (.int x9), some (.int x10)] [] _ _ from ?_)
  exact zy_sub (show zy_le [some (.ref (43 + 3)), none, some (.int x2), some (.int x3), some (.int x4), some (.int x5), some (.int x6), some (.int x7), some (.int x8), some (.int x9), none] [some (.ref (43 + 3)), none, some (.int x2), some (.int x3), some (.int x4), some (.int x5), some (.int x6), some (.int x7), some (.int x8), some (.int x9), some (.int x10)] from ⟨rfl, ⟨rfl, ⟨rfl, ⟨rfl, ⟨rfl, ⟨rfl, ⟨rfl, ⟨rfl, ⟨rfl, trivial⟩⟩⟩⟩⟩⟩⟩⟩⟩) (zyC239_164 hk61 hk83 h)
noncomputable def zyF239_135  (k61 : Int32 → Int32 → Int32 → Int32 → Int32 → Int32 → zy_S → Option (Int32 × zy_S)) (k83 : Int32 → Int32 → Int32 → Int32 → Int32 → Int32 → Int32 → Int32 → zy_S → Option (Int32 × zy_S)) (x2 : Int32) (x3 : Int32) (x4 : Int32) (x5 : Int32) (x6 : Int32) (x7 : Int32) (x8 : Int32) (x9 : Int32) (s : zy_S) : Option (Int32 × zy_S) :=
zyF239_164 k61 k83 x2 x3 x4 x5 x6 x7 x8 x9 s
theorem zyC239_135 {X : zx_X}  {k61 : Int32 → Int32 → Int32 → Int32 → Int32 → Int32 → zy_S → Option (Int32 × zy_S)} {k83 : Int32 → Int32 → Int32 → Int32 → Int32 → Int32 → Int32 → Int32 → zy_S → Option (Int32 × zy_S)}  (hk61 : ∀ (x2 : Int32) (x3 : Int32) (x4 : Int32) (x5 : Int32) (x6 : Int32) (x7 : Int32) (s : zy_S) (r : Int32) (s' : zy_S), k61 x2 x3 x4 x5 x6 x7 s = some (r, s') → zyR X 107 239 61 [some (.ref (43 + 3)), none, some (.int x2), some (.int x3), some (.int x4), some (.int x5), some (.int x6), some (.int x7), none, none, none] [] s (zyE (some (.int r)) s')) (hk83 : ∀ (x2 : Int32) (x3 : Int32) (x4 : Int32) (x5 : Int32) (x6 : Int32) (x7 : Int32) (x8 : Int32) (x9 : Int32) (s : zy_S) (r : Int32) (s' : zy_S), k83 x2 x3 x4 x5 x6 x7 x8 x9 s = some (r, s') → zyR X 107 239 83 [some (.ref (43 + 3)), none, some (.int x2), some (.int x3), some (.int x4), some (.int x5), some (.int x6), some (.int x7), some (.int x8), some (.int x9), none] [] s (zyE (some (.int r)) s')) {x2 : Int32} {x3 : Int32} {x4 : Int32} {x5 : Int32} {x6 : Int32} {x7 : Int32} {x8 : Int32} {x9 : Int32} {s : zy_S} {r : Int32} {s' : zy_S}  (h : zyF239_135 k61 k83 x2 x3 x4 x5 x6 x7 x8 x9 s = some (r, s')) : zyR X 107 239 135 [some (.ref (43 + 3)), none, some (.int x2), some (.int x3), some (.int x4), some (.int x5), some (.int x6), some (.int x7), some (.int x8), some (.int x9), none] [] s (zyE (some (.int r)) s') := by
  unfold zyF239_135 at h
  refine zy_6 rfl (show zyR _ _ _ _ [some (.ref (43 + 3)), none, some (.int x2), some (.int x3), some (.int x4), some (.int x5), some (.int x6), some (.int x7), some (.int x8), some (.int x9), none] [] _ _ from ?_)
  exact zy_sub (show zy_le [some (.ref (43 + 3)), none, some (.int x2), some (.int x3), some (.int x4), some (.int x5), some (.int x6), some (.int x7), some (.int x8), some (.int x9), none] [some (.ref (43 + 3)), none, some (.int x2), some (.int x3), some (.int x4), some (.int x5), some (.int x6), some (.int x7), some (.int x8), some (.int x9), none] from ⟨rfl, ⟨rfl, ⟨rfl, ⟨rfl, ⟨rfl, ⟨rfl, ⟨rfl, ⟨rfl, ⟨rfl, trivial⟩⟩⟩⟩⟩⟩⟩⟩⟩) (zyC239_164 hk61 hk83 h)
noncomputable def zyF239_114  (k61 : Int32 → Int32 → Int32 → Int32 → Int32 → Int32 → zy_S → Option (Int32 × zy_S)) (k83 : Int32 → Int32 → Int32 → Int32 → Int32 → Int32 → Int32 → Int32 → zy_S → Option (Int32 × zy_S)) (x2 : Int32) (x3 : Int32) (x4 : Int32) (x5 : Int32) (x6 : Int32) (x7 : Int32) (x8 : Int32) (x9 : Int32) (x10 : Int32) (s : zy_S) : Option (Int32 × zy_S) :=
(zyF208 x8 x10 s).bind fun p2 =>
if p2.1 = 0 then
(zyF219 x8 p2.2).bind fun p3 =>
if p3.1 = 0 then
zyF239_164 k61 k83 x2 x3 x4 x5 x6 x7 x8 x9 p3.2
else
zyF239_156 k61 k83 x2 x3 x4 x5 x6 x7 (x8 ||| ((1 : Int32) <<< (x10 &&& 31))) x9 x10 p3.2
else
zyF239_135 k61 k83 x2 x3 x4 x5 x6 x7 (x8 &&& (((1 : Int32) <<< (x10 &&& 31)) ^^^ (-1 : Int32))) x9 p2.2
theorem zyC239_114 {X : zx_X}  {k61 : Int32 → Int32 → Int32 → Int32 → Int32 → Int32 → zy_S → Option (Int32 × zy_S)} {k83 : Int32 → Int32 → Int32 → Int32 → Int32 → Int32 → Int32 → Int32 → zy_S → Option (Int32 × zy_S)}  (hk61 : ∀ (x2 : Int32) (x3 : Int32) (x4 : Int32) (x5 : Int32) (x6 : Int32) (x7 : Int32) (s : zy_S) (r : Int32) (s' : zy_S), k61 x2 x3 x4 x5 x6 x7 s = some (r, s') → zyR X 107 239 61 [some (.ref (43 + 3)), none, some (.int x2), some (.int x3), some (.int x4), some (.int x5), some (.int x6), some (.int x7), none, none, none] [] s (zyE (some (.int r)) s')) (hk83 : ∀ (x2 : Int32) (x3 : Int32) (x4 : Int32) (x5 : Int32) (x6 : Int32) (x7 : Int32) (x8 : Int32) (x9 : Int32) (s : zy_S) (r : Int32) (s' : zy_S), k83 x2 x3 x4 x5 x6 x7 x8 x9 s = some (r, s') → zyR X 107 239 83 [some (.ref (43 + 3)), none, some (.int x2), some (.int x3), some (.int x4), some (.int x5), some (.int x6), some (.int x7), some (.int x8), some (.int x9), none] [] s (zyE (some (.int r)) s')) {x2 : Int32} {x3 : Int32} {x4 : Int32} {x5 : Int32} {x6 : Int32} {x7 : Int32} {x8 : Int32} {x9 : Int32} {x10 : Int32} {s : zy_S} {r : Int32} {s' : zy_S}  (h : zyF239_114 k61 k83 x2 x3 x4 x5 x6 x7 x8 x9 x10 s = some (r, s')) : zyR X 107 239 114 [some (.ref (43 + 3)), none, some (.int x2), some (.int x3), some (.int x4), some (.int x5), some (.int x6), some (.int x7), some (.int x8), some (.int x9), some (.int x10)] [] s (zyE (some (.int r)) s') := by
  unfold zyF239_114 at h
  refine zy_2 rfl rfl (show zyR _ _ _ _ [some (.ref (43 + 3)), none, some (.int x2), some (.int x3), some (.int x4), some (.int x5), some (.int x6), some (.int x7), some (.int x8), some (.int x9), some (.int x10)] [.int x8] _ _ from ?_)
  refine zy_2 rfl rfl (show zyR _ _ _ _ [some (.ref (43 + 3)), none, some (.int x2), some (.int x3), some (.int x4), some (.int x5), some (.int x6), some (.int x7), some (.int x8), some (.int x9), some (.int x10)] [.int x10, .int x8] _ _ from ?_)
  obtain ⟨p2, hp2, h⟩ := zy_bind h
  refine zy_60 (as := [.int x8, .int x10]) (rest := []) (L := [some (.int x8), some (.int x10)]) (d' := 1) rfl rfl (Nat.le_of_ble_eq_true rfl) (Nat.le_of_ble_eq_true rfl) rfl (Nat.le_of_ble_eq_true rfl) rfl rfl (zyC208 hp2) ?_
  show zyR _ _ _ _ [some (.ref (43 + 3)), none, some (.int x2), some (.int x3), some (.int x4), some (.int x5), some (.int x6), some (.int x7), some (.int x8), some (.int x9), some (.int x10)] [.int p2.1] _ _
  refine zy_24_0 rfl (fun b5 => (show zyR _ _ _ _ [some (.ref (43 + 3)), none, some (.int x2), some (.int x3), some (.int x4), some (.int x5), some (.int x6), some (.int x7), some (.int x8), some (.int x9), some (.int x10)] [] _ _ from ?_)) (fun b5 => (show zyR _ _ _ _ [some (.ref (43 + 3)), none, some (.int x2), some (.int x3), some (.int x4), some (.int x5), some (.int x6), some (.int x7), some (.int x8), some (.int x9), some (.int x10)] [] _ _ from ?_))
  · replace h := zy_ifp h b5
    refine zy_0 rfl rfl (show zyR _ _ _ _ [some (.ref (43 + 3)), none, some (.int x2), some (.int x3), some (.int x4), some (.int x5), some (.int x6), some (.int x7), some (.int x8), some (.int x9), some (.int x10)] [.ref (43 + 3)] _ _ from ?_)
    refine zy_2 rfl rfl (show zyR _ _ _ _ [some (.ref (43 + 3)), none, some (.int x2), some (.int x3), some (.int x4), some (.int x5), some (.int x6), some (.int x7), some (.int x8), some (.int x9), some (.int x10)] [.int x8, .ref (43 + 3)] _ _ from ?_)
    obtain ⟨p3, hp3, h⟩ := zy_bind h
    refine zy_5 (c := 43) (as := [.int x8]) (rest := []) (L := [some (.ref (43 + 3)), some (.int x8)]) (d' := 2) rfl rfl rfl (Nat.le_of_ble_eq_true rfl) (Nat.le_of_ble_eq_true rfl) rfl (Nat.le_of_ble_eq_true rfl) rfl rfl (zyC219 hp3) ?_
    show zyR _ _ _ _ [some (.ref (43 + 3)), none, some (.int x2), some (.int x3), some (.int x4), some (.int x5), some (.int x6), some (.int x7), some (.int x8), some (.int x9), some (.int x10)] [.int p3.1] _ _
    refine zy_24_0 rfl (fun b4 => (show zyR _ _ _ _ [some (.ref (43 + 3)), none, some (.int x2), some (.int x3), some (.int x4), some (.int x5), some (.int x6), some (.int x7), some (.int x8), some (.int x9), some (.int x10)] [] _ _ from ?_)) (fun b4 => (show zyR _ _ _ _ [some (.ref (43 + 3)), none, some (.int x2), some (.int x3), some (.int x4), some (.int x5), some (.int x6), some (.int x7), some (.int x8), some (.int x9), some (.int x10)] [] _ _ from ?_))
    · replace h := zy_ifp h b4
      exact zy_sub (show zy_le [some (.ref (43 + 3)), none, some (.int x2), some (.int x3), some (.int x4), some (.int x5), some (.int x6), some (.int x7), some (.int x8), some (.int x9), none] [some (.ref (43 + 3)), none, some (.int x2), some (.int x3), some (.int x4), some (.int x5), some (.int x6), some (.int x7), some (.int x8), some (.int x9), some (.int x10)] from ⟨rfl, ⟨rfl, ⟨rfl, ⟨rfl, ⟨rfl, ⟨rfl, ⟨rfl, ⟨rfl, ⟨rfl, trivial⟩⟩⟩⟩⟩⟩⟩⟩⟩) (zyC239_164 hk61 hk83 h)
    · replace h := zy_ifn h b4
      refine zy_2 rfl rfl (show zyR _ _ _ _ [some (.ref (43 + 3)), none, some (.int x2), some (.int x3), some (.int x4), some (.int x5), some (.int x6), some (.int x7), some (.int x8), some (.int x9), some (.int x10)] [.int x8] _ _ from ?_)
      refine zy_3 rfl rfl (show zyR _ _ _ _ [some (.ref (43 + 3)), none, some (.int x2), some (.int x3), some (.int x4), some (.int x5), some (.int x6), some (.int x7), some (.int x8), some (.int x9), some (.int x10)] [.int (1 : Int32), .int x8] _ _ from ?_)
      refine zy_2 rfl rfl (show zyR _ _ _ _ [some (.ref (43 + 3)), none, some (.int x2), some (.int x3), some (.int x4), some (.int x5), some (.int x6), some (.int x7), some (.int x8), some (.int x9), some (.int x10)] [.int x10, .int (1 : Int32), .int x8] _ _ from ?_)
      refine zy_16 rfl (show zyR _ _ _ _ [some (.ref (43 + 3)), none, some (.int x2), some (.int x3), some (.int x4), some (.int x5), some (.int x6), some (.int x7), some (.int x8), some (.int x9), some (.int x10)] [.int ((1 : Int32) <<< (x10 &&& 31)), .int x8] _ _ from ?_)
      refine zy_14 rfl (show zyR _ _ _ _ [some (.ref (43 + 3)), none, some (.int x2), some (.int x3), some (.int x4), some (.int x5), some (.int x6), some (.int x7), some (.int x8), some (.int x9), some (.int x10)] [.int (x8 ||| ((1 : Int32) <<< (x10 &&& 31)))] _ _ from ?_)
      refine zy_23 rfl rfl (show zyR _ _ _ _ [some (.ref (43 + 3)), none, some (.int x2), some (.int x3), some (.int x4), some (.int x5), some (.int x6), some (.int x7), some (.int (x8 ||| ((1 : Int32) <<< (x10 &&& 31)))), some (.int x9), some (.int x10)] [] _ _ from ?_)
      exact zy_sub (show zy_le [some (.ref (43 + 3)), none, some (.int x2), some (.int x3), some (.int x4), some (.int x5), some (.int x6), some (.int x7), some (.int (x8 ||| ((1 : Int32) <<< (x10 &&& 31)))), some (.int x9), some (.int x10)] [some (.ref (43 + 3)), none, some (.int x2), some (.int x3), some (.int x4), some (.int x5), some (.int x6), some (.int x7), some (.int (x8 ||| ((1 : Int32) <<< (x10 &&& 31)))), some (.int x9), some (.int x10)] from ⟨rfl, ⟨rfl, ⟨rfl, ⟨rfl, ⟨rfl, ⟨rfl, ⟨rfl, ⟨rfl, ⟨rfl, ⟨rfl, trivial⟩⟩⟩⟩⟩⟩⟩⟩⟩⟩) (zyC239_156 hk61 hk83 h)
  · replace h := zy_ifn h b5
    refine zy_2 rfl rfl (show zyR _ _ _ _ [some (.ref (43 + 3)), none, some (.int x2), some (.int x3), some (.int x4), some (.int x5), some (.int x6), some (.int x7), some (.int x8), some (.int x9), some (.int x10)] [.int x8] _ _ from ?_)
    refine zy_3 rfl rfl (show zyR _ _ _ _ [some (.ref (43 + 3)), none, some (.int x2), some (.int x3), some (.int x4), some (.int x5), some (.int x6), some (.int x7), some (.int x8), some (.int x9), some (.int x10)] [.int (1 : Int32), .int x8] _ _ from ?_)
    refine zy_2 rfl rfl (show zyR _ _ _ _ [some (.ref (43 + 3)), none, some (.int x2), some (.int x3), some (.int x4), some (.int x5), some (.int x6), some (.int x7), some (.int x8), some (.int x9), some (.int x10)] [.int x10, .int (1 : Int32), .int x8] _ _ from ?_)
    refine zy_16 rfl (show zyR _ _ _ _ [some (.ref (43 + 3)), none, some (.int x2), some (.int x3), some (.int x4), some (.int x5), some (.int x6), some (.int x7), some (.int x8), some (.int x9), some (.int x10)] [.int ((1 : Int32) <<< (x10 &&& 31)), .int x8] _ _ from ?_)
    refine zy_3 rfl rfl (show zyR _ _ _ _ [some (.ref (43 + 3)), none, some (.int x2), some (.int x3), some (.int x4), some (.int x5), some (.int x6), some (.int x7), some (.int x8), some (.int x9), some (.int x10)] [.int (-1 : Int32), .int ((1 : Int32) <<< (x10 &&& 31)), .int x8] _ _ from ?_)
    refine zy_15 rfl (show zyR _ _ _ _ [some (.ref (43 + 3)), none, some (.int x2), some (.int x3), some (.int x4), some (.int x5), some (.int x6), some (.int x7), some (.int x8), some (.int x9), some (.int x10)] [.int (((1 : Int32) <<< (x10 &&& 31)) ^^^ (-1 : Int32)), .int x8] _ _ from ?_)
    refine zy_13 rfl (show zyR _ _ _ _ [some (.ref (43 + 3)), none, some (.int x2), some (.int x3), some (.int x4), some (.int x5), some (.int x6), some (.int x7), some (.int x8), some (.int x9), some (.int x10)] [.int (x8 &&& (((1 : Int32) <<< (x10 &&& 31)) ^^^ (-1 : Int32)))] _ _ from ?_)
    refine zy_23 rfl rfl (show zyR _ _ _ _ [some (.ref (43 + 3)), none, some (.int x2), some (.int x3), some (.int x4), some (.int x5), some (.int x6), some (.int x7), some (.int (x8 &&& (((1 : Int32) <<< (x10 &&& 31)) ^^^ (-1 : Int32)))), some (.int x9), some (.int x10)] [] _ _ from ?_)
    exact zy_sub (show zy_le [some (.ref (43 + 3)), none, some (.int x2), some (.int x3), some (.int x4), some (.int x5), some (.int x6), some (.int x7), some (.int (x8 &&& (((1 : Int32) <<< (x10 &&& 31)) ^^^ (-1 : Int32)))), some (.int x9), none] [some (.ref (43 + 3)), none, some (.int x2), some (.int x3), some (.int x4), some (.int x5), some (.int x6), some (.int x7), some (.int (x8 &&& (((1 : Int32) <<< (x10 &&& 31)) ^^^ (-1 : Int32)))), some (.int x9), some (.int x10)] from ⟨rfl, ⟨rfl, ⟨rfl, ⟨rfl, ⟨rfl, ⟨rfl, ⟨rfl, ⟨rfl, ⟨rfl, trivial⟩⟩⟩⟩⟩⟩⟩⟩⟩) (zyC239_135 hk61 hk83 h)
noncomputable def zyF239_83b  (k61 : Int32 → Int32 → Int32 → Int32 → Int32 → Int32 → zy_S → Option (Int32 × zy_S)) (k83 : Int32 → Int32 → Int32 → Int32 → Int32 → Int32 → Int32 → Int32 → zy_S → Option (Int32 × zy_S)) (x2 : Int32) (x3 : Int32) (x4 : Int32) (x5 : Int32) (x6 : Int32) (x7 : Int32) (x8 : Int32) (x9 : Int32) (s : zy_S) : Option (Int32 × zy_S) :=
if (x2 - x2 / (100 : Int32) * (100 : Int32)) ≤ x9 then
(zyF212 x8 s).bind fun p6 =>
if x3 < 0 then
zyF239_200 k61 x2 x3 x4 (x5 + p6.1) x7 x6 p6.2
else
(zyF208 x8 x3 p6.2).bind fun p7 =>
if p7.1 = 0 then
zyF239_200 k61 x2 x3 x4 (x5 + p6.1) x7 x6 p7.2
else
zyF239_201 k61 x2 x3 x4 (x5 + p6.1) x7 (1 : Int32) x6 p7.2
else
zyF239_114 k61 k83 x2 x3 ((x4 * (1103515245 : Int32)) + (12345 : Int32)) x5 x6 x7 x8 x9 (((((x4 * (1103515245 : Int32)) + (12345 : Int32))).toUInt32 >>> (((8 : Int32)).toUInt32 &&& Int32.toUInt32 31)).toInt32 - ((((x4 * (1103515245 : Int32)) + (12345 : Int32))).toUInt32 >>> (((8 : Int32)).toUInt32 &&& Int32.toUInt32 31)).toInt32 / (24 : Int32) * (24 : Int32)) s
theorem zyC239_83b {X : zx_X}  {k61 : Int32 → Int32 → Int32 → Int32 → Int32 → Int32 → zy_S → Option (Int32 × zy_S)} {k83 : Int32 → Int32 → Int32 → Int32 → Int32 → Int32 → Int32 → Int32 → zy_S → Option (Int32 × zy_S)}  (hk61 : ∀ (x2 : Int32) (x3 : Int32) (x4 : Int32) (x5 : Int32) (x6 : Int32) (x7 : Int32) (s : zy_S) (r : Int32) (s' : zy_S), k61 x2 x3 x4 x5 x6 x7 s = some (r, s') → zyR X 107 239 61 [some (.ref (43 + 3)), none, some (.int x2), some (.int x3), some (.int x4), some (.int x5), some (.int x6), some (.int x7), none, none, none] [] s (zyE (some (.int r)) s')) (hk83 : ∀ (x2 : Int32) (x3 : Int32) (x4 : Int32) (x5 : Int32) (x6 : Int32) (x7 : Int32) (x8 : Int32) (x9 : Int32) (s : zy_S) (r : Int32) (s' : zy_S), k83 x2 x3 x4 x5 x6 x7 x8 x9 s = some (r, s') → zyR X 107 239 83 [some (.ref (43 + 3)), none, some (.int x2), some (.int x3), some (.int x4), some (.int x5), some (.int x6), some (.int x7), some (.int x8), some (.int x9), none] [] s (zyE (some (.int r)) s')) {x2 : Int32} {x3 : Int32} {x4 : Int32} {x5 : Int32} {x6 : Int32} {x7 : Int32} {x8 : Int32} {x9 : Int32} {s : zy_S} {r : Int32} {s' : zy_S}  (h : zyF239_83b k61 k83 x2 x3 x4 x5 x6 x7 x8 x9 s = some (r, s')) : zyR X 107 239 83 [some (.ref (43 + 3)), none, some (.int x2), some (.int x3), some (.int x4), some (.int x5), some (.int x6), some (.int x7), some (.int x8), some (.int x9), none] [] s (zyE (some (.int r)) s') := by
  unfold zyF239_83b at h
  refine zy_2 rfl rfl (show zyR _ _ _ _ [some (.ref (43 + 3)), none, some (.int x2), some (.int x3), some (.int x4), some (.int x5), some (.int x6), some (.int x7), some (.int x8), some (.int x9), none] [.int x9] _ _ from ?_)
  refine zy_2 rfl rfl (show zyR _ _ _ _ [some (.ref (43 + 3)), none, some (.int x2), some (.int x3), some (.int x4), some (.int x5), some (.int x6), some (.int x7), some (.int x8), some (.int x9), none] [.int x2, .int x9] _ _ from ?_)
  refine zy_3 rfl rfl (show zyR _ _ _ _ [some (.ref (43 + 3)), none, some (.int x2), some (.int x3), some (.int x4), some (.int x5), some (.int x6), some (.int x7), some (.int x8), some (.int x9), none] [.int (100 : Int32), .int x2, .int x9] _ _ from ?_)
  refine zy_20 rfl (by decide) (show zyR _ _ _ _ [some (.ref (43 + 3)), none, some (.int x2), some (.int x3), some (.int x4), some (.int x5), some (.int x6), some (.int x7), some (.int x8), some (.int x9), none] [.int (x2 - x2 / (100 : Int32) * (100 : Int32)), .int x9] _ _ from ?_)
  refine zy_25_3 rfl (fun b10 => (show zyR _ _ _ _ [some (.ref (43 + 3)), none, some (.int x2), some (.int x3), some (.int x4), some (.int x5), some (.int x6), some (.int x7), some (.int x8), some (.int x9), none] [] _ _ from ?_)) (fun b10 => (show zyR _ _ _ _ [some (.ref (43 + 3)), none, some (.int x2), some (.int x3), some (.int x4), some (.int x5), some (.int x6), some (.int x7), some (.int x8), some (.int x9), none] [] _ _ from ?_))
  · replace h := zy_ifp h b10
    refine zy_2 rfl rfl (show zyR _ _ _ _ [some (.ref (43 + 3)), none, some (.int x2), some (.int x3), some (.int x4), some (.int x5), some (.int x6), some (.int x7), some (.int x8), some (.int x9), none] [.int x5] _ _ from ?_)
    refine zy_0 rfl rfl (show zyR _ _ _ _ [some (.ref (43 + 3)), none, some (.int x2), some (.int x3), some (.int x4), some (.int x5), some (.int x6), some (.int x7), some (.int x8), some (.int x9), none] [.ref (43 + 3), .int x5] _ _ from ?_)
    refine zy_2 rfl rfl (show zyR _ _ _ _ [some (.ref (43 + 3)), none, some (.int x2), some (.int x3), some (.int x4), some (.int x5), some (.int x6), some (.int x7), some (.int x8), some (.int x9), none] [.int x8, .ref (43 + 3), .int x5] _ _ from ?_)
    obtain ⟨p6, hp6, h⟩ := zy_bind h
    refine zy_5 (c := 43) (as := [.int x8]) (rest := [.int x5]) (L := [some (.ref (43 + 3)), some (.int x8), none, none]) (d' := 106) rfl rfl rfl (Nat.le_of_ble_eq_true rfl) (Nat.le_of_ble_eq_true rfl) rfl (Nat.le_of_ble_eq_true rfl) rfl rfl (zyC212 hp6) ?_
    show zyR _ _ _ _ [some (.ref (43 + 3)), none, some (.int x2), some (.int x3), some (.int x4), some (.int x5), some (.int x6), some (.int x7), some (.int x8), some (.int x9), none] [.int p6.1, .int x5] _ _
    refine zy_10 rfl (show zyR _ _ _ _ [some (.ref (43 + 3)), none, some (.int x2), some (.int x3), some (.int x4), some (.int x5), some (.int x6), some (.int x7), some (.int x8), some (.int x9), none] [.int (x5 + p6.1)] _ _ from ?_)
    refine zy_23 rfl rfl (show zyR _ _ _ _ [some (.ref (43 + 3)), none, some (.int x2), some (.int x3), some (.int x4), some (.int (x5 + p6.1)), some (.int x6), some (.int x7), some (.int x8), some (.int x9), none] [] _ _ from ?_)
    refine zy_2 rfl rfl (show zyR _ _ _ _ [some (.ref (43 + 3)), none, some (.int x2), some (.int x3), some (.int x4), some (.int (x5 + p6.1)), some (.int x6), some (.int x7), some (.int x8), some (.int x9), none] [.int x6] _ _ from ?_)
    refine zy_2 rfl rfl (show zyR _ _ _ _ [some (.ref (43 + 3)), none, some (.int x2), some (.int x3), some (.int x4), some (.int (x5 + p6.1)), some (.int x6), some (.int x7), some (.int x8), some (.int x9), none] [.int x3, .int x6] _ _ from ?_)
    refine zy_24_2 rfl (fun b9 => (show zyR _ _ _ _ [some (.ref (43 + 3)), none, some (.int x2), some (.int x3), some (.int x4), some (.int (x5 + p6.1)), some (.int x6), some (.int x7), some (.int x8), some (.int x9), none] [.int x6] _ _ from ?_)) (fun b9 => (show zyR _ _ _ _ [some (.ref (43 + 3)), none, some (.int x2), some (.int x3), some (.int x4), some (.int (x5 + p6.1)), some (.int x6), some (.int x7), some (.int x8), some (.int x9), none] [.int x6] _ _ from ?_))
    · replace h := zy_ifp h b9
      exact zy_sub (show zy_le [some (.ref (43 + 3)), none, some (.int x2), some (.int x3), some (.int x4), some (.int (x5 + p6.1)), none, some (.int x7), none, none, none] [some (.ref (43 + 3)), none, some (.int x2), some (.int x3), some (.int x4), some (.int (x5 + p6.1)), some (.int x6), some (.int x7), some (.int x8), some (.int x9), none] from ⟨rfl, ⟨rfl, ⟨rfl, ⟨rfl, ⟨rfl, ⟨rfl, trivial⟩⟩⟩⟩⟩⟩) (zyC239_200 hk61 h)
    · replace h := zy_ifn h b9
      refine zy_2 rfl rfl (show zyR _ _ _ _ [some (.ref (43 + 3)), none, some (.int x2), some (.int x3), some (.int x4), some (.int (x5 + p6.1)), some (.int x6), some (.int x7), some (.int x8), some (.int x9), none] [.int x8, .int x6] _ _ from ?_)
      refine zy_2 rfl rfl (show zyR _ _ _ _ [some (.ref (43 + 3)), none, some (.int x2), some (.int x3), some (.int x4), some (.int (x5 + p6.1)), some (.int x6), some (.int x7), some (.int x8), some (.int x9), none] [.int x3, .int x8, .int x6] _ _ from ?_)
      obtain ⟨p7, hp7, h⟩ := zy_bind h
      refine zy_60 (as := [.int x8, .int x3]) (rest := [.int x6]) (L := [some (.int x8), some (.int x3)]) (d' := 1) rfl rfl (Nat.le_of_ble_eq_true rfl) (Nat.le_of_ble_eq_true rfl) rfl (Nat.le_of_ble_eq_true rfl) rfl rfl (zyC208 hp7) ?_
      show zyR _ _ _ _ [some (.ref (43 + 3)), none, some (.int x2), some (.int x3), some (.int x4), some (.int (x5 + p6.1)), some (.int x6), some (.int x7), some (.int x8), some (.int x9), none] [.int p7.1, .int x6] _ _
      refine zy_24_0 rfl (fun b8 => (show zyR _ _ _ _ [some (.ref (43 + 3)), none, some (.int x2), some (.int x3), some (.int x4), some (.int (x5 + p6.1)), some (.int x6), some (.int x7), some (.int x8), some (.int x9), none] [.int x6] _ _ from ?_)) (fun b8 => (show zyR _ _ _ _ [some (.ref (43 + 3)), none, some (.int x2), some (.int x3), some (.int x4), some (.int (x5 + p6.1)), some (.int x6), some (.int x7), some (.int x8), some (.int x9), none] [.int x6] _ _ from ?_))
      · replace h := zy_ifp h b8
        exact zy_sub (show zy_le [some (.ref (43 + 3)), none, some (.int x2), some (.int x3), some (.int x4), some (.int (x5 + p6.1)), none, some (.int x7), none, none, none] [some (.ref (43 + 3)), none, some (.int x2), some (.int x3), some (.int x4), some (.int (x5 + p6.1)), some (.int x6), some (.int x7), some (.int x8), some (.int x9), none] from ⟨rfl, ⟨rfl, ⟨rfl, ⟨rfl, ⟨rfl, ⟨rfl, trivial⟩⟩⟩⟩⟩⟩) (zyC239_200 hk61 h)
      · replace h := zy_ifn h b8
        refine zy_3 rfl rfl (show zyR _ _ _ _ [some (.ref (43 + 3)), none, some (.int x2), some (.int x3), some (.int x4), some (.int (x5 + p6.1)), some (.int x6), some (.int x7), some (.int x8), some (.int x9), none] [.int (1 : Int32), .int x6] _ _ from ?_)
        refine zy_6 rfl (show zyR _ _ _ _ [some (.ref (43 + 3)), none, some (.int x2), some (.int x3), some (.int x4), some (.int (x5 + p6.1)), some (.int x6), some (.int x7), some (.int x8), some (.int x9), none] [.int (1 : Int32), .int x6] _ _ from ?_)
        exact zy_sub (show zy_le [some (.ref (43 + 3)), none, some (.int x2), some (.int x3), some (.int x4), some (.int (x5 + p6.1)), none, some (.int x7), none, none, none] [some (.ref (43 + 3)), none, some (.int x2), some (.int x3), some (.int x4), some (.int (x5 + p6.1)), some (.int x6), some (.int x7), some (.int x8), some (.int x9), none] from ⟨rfl, ⟨rfl, ⟨rfl, ⟨rfl, ⟨rfl, ⟨rfl, trivial⟩⟩⟩⟩⟩⟩) (zyC239_201 hk61 h)
  · replace h := zy_ifn h b10
    refine zy_2 rfl rfl (show zyR _ _ _ _ [some (.ref (43 + 3)), none, some (.int x2), some (.int x3), some (.int x4), some (.int x5), some (.int x6), some (.int x7), some (.int x8), some (.int x9), none] [.int x4] _ _ from ?_)
    refine zy_3c rfl rfl (show zyR _ _ _ _ [some (.ref (43 + 3)), none, some (.int x2), some (.int x3), some (.int x4), some (.int x5), some (.int x6), some (.int x7), some (.int x8), some (.int x9), none] [.int (1103515245 : Int32), .int x4] _ _ from ?_)
    refine zy_12 rfl (show zyR _ _ _ _ [some (.ref (43 + 3)), none, some (.int x2), some (.int x3), some (.int x4), some (.int x5), some (.int x6), some (.int x7), some (.int x8), some (.int x9), none] [.int (x4 * (1103515245 : Int32))] _ _ from ?_)
    refine zy_3 rfl rfl (show zyR _ _ _ _ [some (.ref (43 + 3)), none, some (.int x2), some (.int x3), some (.int x4), some (.int x5), some (.int x6), some (.int x7), some (.int x8), some (.int x9), none] [.int (12345 : Int32), .int (x4 * (1103515245 : Int32))] _ _ from ?_)
    refine zy_10 rfl (show zyR _ _ _ _ [some (.ref (43 + 3)), none, some (.int x2), some (.int x3), some (.int x4), some (.int x5), some (.int x6), some (.int x7), some (.int x8), some (.int x9), none] [.int ((x4 * (1103515245 : Int32)) + (12345 : Int32))] _ _ from ?_)
    refine zy_23 rfl rfl (show zyR _ _ _ _ [some (.ref (43 + 3)), none, some (.int x2), some (.int x3), some (.int ((x4 * (1103515245 : Int32)) + (12345 : Int32))), some (.int x5), some (.int x6), some (.int x7), some (.int x8), some (.int x9), none] [] _ _ from ?_)
    refine zy_2 rfl rfl (show zyR _ _ _ _ [some (.ref (43 + 3)), none, some (.int x2), some (.int x3), some (.int ((x4 * (1103515245 : Int32)) + (12345 : Int32))), some (.int x5), some (.int x6), some (.int x7), some (.int x8), some (.int x9), none] [.int ((x4 * (1103515245 : Int32)) + (12345 : Int32))] _ _ from ?_)
    refine zy_3 rfl rfl (show zyR _ _ _ _ [some (.ref (43 + 3)), none, some (.int x2), some (.int x3), some (.int ((x4 * (1103515245 : Int32)) + (12345 : Int32))), some (.int x5), some (.int x6), some (.int x7), some (.int x8), some (.int x9), none] [.int (8 : Int32), .int ((x4 * (1103515245 : Int32)) + (12345 : Int32))] _ _ from ?_)
    refine zy_18 rfl (show zyR _ _ _ _ [some (.ref (43 + 3)), none, some (.int x2), some (.int x3), some (.int ((x4 * (1103515245 : Int32)) + (12345 : Int32))), some (.int x5), some (.int x6), some (.int x7), some (.int x8), some (.int x9), none] [.int ((((x4 * (1103515245 : Int32)) + (12345 : Int32))).toUInt32 >>> (((8 : Int32)).toUInt32 &&& Int32.toUInt32 31)).toInt32] _ _ from ?_)
    refine zy_3 rfl rfl (show zyR _ _ _ _ [some (.ref (43 + 3)), none, some (.int x2), some (.int x3), some (.int ((x4 * (1103515245 : Int32)) + (12345 : Int32))), some (.int x5), some (.int x6), some (.int x7), some (.int x8), some (.int x9), none] [.int (24 : Int32), .int ((((x4 * (1103515245 : Int32)) + (12345 : Int32))).toUInt32 >>> (((8 : Int32)).toUInt32 &&& Int32.toUInt32 31)).toInt32] _ _ from ?_)
    refine zy_20 rfl (by decide) (show zyR _ _ _ _ [some (.ref (43 + 3)), none, some (.int x2), some (.int x3), some (.int ((x4 * (1103515245 : Int32)) + (12345 : Int32))), some (.int x5), some (.int x6), some (.int x7), some (.int x8), some (.int x9), none] [.int (((((x4 * (1103515245 : Int32)) + (12345 : Int32))).toUInt32 >>> (((8 : Int32)).toUInt32 &&& Int32.toUInt32 31)).toInt32 - ((((x4 * (1103515245 : Int32)) + (12345 : Int32))).toUInt32 >>> (((8 : Int32)).toUInt32 &&& Int32.toUInt32 31)).toInt32 / (24 : Int32) * (24 : Int32))] _ _ from ?_)
    refine zy_23 rfl rfl (show zyR _ _ _ _ [some (.ref (43 + 3)), none, some (.int x2), some (.int x3), some (.int ((x4 * (1103515245 : Int32)) + (12345 : Int32))), some (.int x5), some (.int x6), some (.int x7), some (.int x8), some (.int x9), some (.int (((((x4 * (1103515245 : Int32)) + (12345 : Int32))).toUInt32 >>> (((8 : Int32)).toUInt32 &&& Int32.toUInt32 31)).toInt32 - ((((x4 * (1103515245 : Int32)) + (12345 : Int32))).toUInt32 >>> (((8 : Int32)).toUInt32 &&& Int32.toUInt32 31)).toInt32 / (24 : Int32) * (24 : Int32)))] [] _ _ from ?_)
    exact zy_sub (show zy_le [some (.ref (43 + 3)), none, some (.int x2), some (.int x3), some (.int ((x4 * (1103515245 : Int32)) + (12345 : Int32))), some (.int x5), some (.int x6), some (.int x7), some (.int x8), some (.int x9), some (.int (((((x4 * (1103515245 : Int32)) + (12345 : Int32))).toUInt32 >>> (((8 : Int32)).toUInt32 &&& Int32.toUInt32 31)).toInt32 - ((((x4 * (1103515245 : Int32)) + (12345 : Int32))).toUInt32 >>> (((8 : Int32)).toUInt32 &&& Int32.toUInt32 31)).toInt32 / (24 : Int32) * (24 : Int32)))] [some (.ref (43 + 3)), none, some (.int x2), some (.int x3), some (.int ((x4 * (1103515245 : Int32)) + (12345 : Int32))), some (.int x5), some (.int x6), some (.int x7), some (.int x8), some (.int x9), some (.int (((((x4 * (1103515245 : Int32)) + (12345 : Int32))).toUInt32 >>> (((8 : Int32)).toUInt32 &&& Int32.toUInt32 31)).toInt32 - ((((x4 * (1103515245 : Int32)) + (12345 : Int32))).toUInt32 >>> (((8 : Int32)).toUInt32 &&& Int32.toUInt32 31)).toInt32 / (24 : Int32) * (24 : Int32)))] from ⟨rfl, ⟨rfl, ⟨rfl, ⟨rfl, ⟨rfl, ⟨rfl, ⟨rfl, ⟨rfl, ⟨rfl, ⟨rfl, trivial⟩⟩⟩⟩⟩⟩⟩⟩⟩⟩) (zyC239_114 hk61 hk83 h)
noncomputable def zyF239_83  (k61 : Int32 → Int32 → Int32 → Int32 → Int32 → Int32 → zy_S → Option (Int32 × zy_S)) (n : Nat) : Int32 → Int32 → Int32 → Int32 → Int32 → Int32 → Int32 → Int32 → zy_S → Option (Int32 × zy_S) := Nat.rec (fun _ _ _ _ _ _ _ _ _ => none) (fun _ k83 => zyF239_83b k61 k83) n
theorem zyC239_83 {X : zx_X}  {k61 : Int32 → Int32 → Int32 → Int32 → Int32 → Int32 → zy_S → Option (Int32 × zy_S)}  (hk61 : ∀ (x2 : Int32) (x3 : Int32) (x4 : Int32) (x5 : Int32) (x6 : Int32) (x7 : Int32) (s : zy_S) (r : Int32) (s' : zy_S), k61 x2 x3 x4 x5 x6 x7 s = some (r, s') → zyR X 107 239 61 [some (.ref (43 + 3)), none, some (.int x2), some (.int x3), some (.int x4), some (.int x5), some (.int x6), some (.int x7), none, none, none] [] s (zyE (some (.int r)) s')) : ∀ (n : Nat) (x2 : Int32) (x3 : Int32) (x4 : Int32) (x5 : Int32) (x6 : Int32) (x7 : Int32) (x8 : Int32) (x9 : Int32) (s : zy_S) (r : Int32) (s' : zy_S), zyF239_83 k61 n x2 x3 x4 x5 x6 x7 x8 x9 s = some (r, s') → zyR X 107 239 83 [some (.ref (43 + 3)), none, some (.int x2), some (.int x3), some (.int x4), some (.int x5), some (.int x6), some (.int x7), some (.int x8), some (.int x9), none] [] s (zyE (some (.int r)) s')
  | 0, _, _, _, _, _, _, _, _ => by
    intro s r s'  h
    have h : (none : Option (Int32 × zy_S)) = some (r, s') := h
    cases h
  | n + 1, x2, x3, x4, x5, x6, x7, x8, x9 => by
    intro s r s'  h
    exact zyC239_83b (k83 := zyF239_83 k61 n) hk61 (fun x2 x3 x4 x5 x6 x7 x8 x9 s r s'  h => zyC239_83 hk61 n x2 x3 x4 x5 x6 x7 x8 x9 s r s'  h) h
noncomputable def zyF239_61b  (k61 : Int32 → Int32 → Int32 → Int32 → Int32 → Int32 → zy_S → Option (Int32 × zy_S)) (x2 : Int32) (x3 : Int32) (x4 : Int32) (x5 : Int32) (x6 : Int32) (x7 : Int32) (s : zy_S) : Option (Int32 × zy_S) :=
if (x2 / (100 : Int32)) ≤ x7 then
if 0 ≤ x3 then
some (x6, s)
else
some (x5, s)
else
(zyF203 s).bind fun p12 =>
zyF239_83 k61 zy_fu x2 x3 x4 x5 x6 x7 (p12.2.1 43 7) (0 : Int32) p12.2
theorem zyC239_61b {X : zx_X}  {k61 : Int32 → Int32 → Int32 → Int32 → Int32 → Int32 → zy_S → Option (Int32 × zy_S)}  (hk61 : ∀ (x2 : Int32) (x3 : Int32) (x4 : Int32) (x5 : Int32) (x6 : Int32) (x7 : Int32) (s : zy_S) (r : Int32) (s' : zy_S), k61 x2 x3 x4 x5 x6 x7 s = some (r, s') → zyR X 107 239 61 [some (.ref (43 + 3)), none, some (.int x2), some (.int x3), some (.int x4), some (.int x5), some (.int x6), some (.int x7), none, none, none] [] s (zyE (some (.int r)) s')) {x2 : Int32} {x3 : Int32} {x4 : Int32} {x5 : Int32} {x6 : Int32} {x7 : Int32} {s : zy_S} {r : Int32} {s' : zy_S}  (h : zyF239_61b k61 x2 x3 x4 x5 x6 x7 s = some (r, s')) : zyR X 107 239 61 [some (.ref (43 + 3)), none, some (.int x2), some (.int x3), some (.int x4), some (.int x5), some (.int x6), some (.int x7), none, none, none] [] s (zyE (some (.int r)) s') := by
  unfold zyF239_61b at h
  refine zy_2 rfl rfl (show zyR _ _ _ _ [some (.ref (43 + 3)), none, some (.int x2), some (.int x3), some (.int x4), some (.int x5), some (.int x6), some (.int x7), none, none, none] [.int x7] _ _ from ?_)
  refine zy_2 rfl rfl (show zyR _ _ _ _ [some (.ref (43 + 3)), none, some (.int x2), some (.int x3), some (.int x4), some (.int x5), some (.int x6), some (.int x7), none, none, none] [.int x2, .int x7] _ _ from ?_)
  refine zy_3 rfl rfl (show zyR _ _ _ _ [some (.ref (43 + 3)), none, some (.int x2), some (.int x3), some (.int x4), some (.int x5), some (.int x6), some (.int x7), none, none, none] [.int (100 : Int32), .int x2, .int x7] _ _ from ?_)
  refine zy_19 rfl (by decide) (show zyR _ _ _ _ [some (.ref (43 + 3)), none, some (.int x2), some (.int x3), some (.int x4), some (.int x5), some (.int x6), some (.int x7), none, none, none] [.int (x2 / (100 : Int32)), .int x7] _ _ from ?_)
  refine zy_25_3 rfl (fun b13 => (show zyR _ _ _ _ [some (.ref (43 + 3)), none, some (.int x2), some (.int x3), some (.int x4), some (.int x5), some (.int x6), some (.int x7), none, none, none] [] _ _ from ?_)) (fun b13 => (show zyR _ _ _ _ [some (.ref (43 + 3)), none, some (.int x2), some (.int x3), some (.int x4), some (.int x5), some (.int x6), some (.int x7), none, none, none] [] _ _ from ?_))
  · replace h := zy_ifp h b13
    refine zy_2 rfl rfl (show zyR _ _ _ _ [some (.ref (43 + 3)), none, some (.int x2), some (.int x3), some (.int x4), some (.int x5), some (.int x6), some (.int x7), none, none, none] [.int x3] _ _ from ?_)
    refine zy_24_3 rfl (fun b11 => (show zyR _ _ _ _ [some (.ref (43 + 3)), none, some (.int x2), some (.int x3), some (.int x4), some (.int x5), some (.int x6), some (.int x7), none, none, none] [] _ _ from ?_)) (fun b11 => (show zyR _ _ _ _ [some (.ref (43 + 3)), none, some (.int x2), some (.int x3), some (.int x4), some (.int x5), some (.int x6), some (.int x7), none, none, none] [] _ _ from ?_))
    · replace h := zy_ifp h b11
      refine zy_2 rfl rfl (show zyR _ _ _ _ [some (.ref (43 + 3)), none, some (.int x2), some (.int x3), some (.int x4), some (.int x5), some (.int x6), some (.int x7), none, none, none] [.int x6] _ _ from ?_)
      obtain ⟨rfl, rfl⟩ := zy_pi h
      exact zy_4 rfl ⟨rfl, rfl⟩
    · replace h := zy_ifn h b11
      refine zy_2 rfl rfl (show zyR _ _ _ _ [some (.ref (43 + 3)), none, some (.int x2), some (.int x3), some (.int x4), some (.int x5), some (.int x6), some (.int x7), none, none, none] [.int x5] _ _ from ?_)
      refine zy_6 rfl (show zyR _ _ _ _ [some (.ref (43 + 3)), none, some (.int x2), some (.int x3), some (.int x4), some (.int x5), some (.int x6), some (.int x7), none, none, none] [.int x5] _ _ from ?_)
      obtain ⟨rfl, rfl⟩ := zy_pi h
      exact zy_4 rfl ⟨rfl, rfl⟩
  · replace h := zy_ifn h b13
    refine zy_0 rfl rfl (show zyR _ _ _ _ [some (.ref (43 + 3)), none, some (.int x2), some (.int x3), some (.int x4), some (.int x5), some (.int x6), some (.int x7), none, none, none] [.ref (43 + 3)] _ _ from ?_)
    obtain ⟨p12, hp12, h⟩ := zy_bind h
    refine zy_5 (c := 43) (as := []) (rest := []) (L := [some (.ref (43 + 3)), none]) (d' := 1) rfl rfl rfl (Nat.le_of_ble_eq_true rfl) (Nat.le_of_ble_eq_true rfl) rfl (Nat.le_of_ble_eq_true rfl) rfl rfl (zyC203 hp12) ?_
    show zyR _ _ _ _ [some (.ref (43 + 3)), none, some (.int x2), some (.int x3), some (.int x4), some (.int x5), some (.int x6), some (.int x7), none, none, none] [] _ _
    refine zy_0 rfl rfl (show zyR _ _ _ _ [some (.ref (43 + 3)), none, some (.int x2), some (.int x3), some (.int x4), some (.int x5), some (.int x6), some (.int x7), none, none, none] [.ref (43 + 3)] _ _ from ?_)
    refine zy_1 (c := 43) rfl rfl rfl (show zyR _ _ _ _ [some (.ref (43 + 3)), none, some (.int x2), some (.int x3), some (.int x4), some (.int x5), some (.int x6), some (.int x7), none, none, none] [.int (p12.2.1 43 7)] _ _ from ?_)
    refine zy_23 rfl rfl (show zyR _ _ _ _ [some (.ref (43 + 3)), none, some (.int x2), some (.int x3), some (.int x4), some (.int x5), some (.int x6), some (.int x7), some (.int (p12.2.1 43 7)), none, none] [] _ _ from ?_)
    refine zy_3 rfl rfl (show zyR _ _ _ _ [some (.ref (43 + 3)), none, some (.int x2), some (.int x3), some (.int x4), some (.int x5), some (.int x6), some (.int x7), some (.int (p12.2.1 43 7)), none, none] [.int (0 : Int32)] _ _ from ?_)
    refine zy_23 rfl rfl (show zyR _ _ _ _ [some (.ref (43 + 3)), none, some (.int x2), some (.int x3), some (.int x4), some (.int x5), some (.int x6), some (.int x7), some (.int (p12.2.1 43 7)), some (.int (0 : Int32)), none] [] _ _ from ?_)
    exact zy_sub (show zy_le [some (.ref (43 + 3)), none, some (.int x2), some (.int x3), some (.int x4), some (.int x5), some (.int x6), some (.int x7), some (.int (p12.2.1 43 7)), some (.int (0 : Int32)), none] [some (.ref (43 + 3)), none, some (.int x2), some (.int x3), some (.int x4), some (.int x5), some (.int x6), some (.int x7), some (.int (p12.2.1 43 7)), some (.int (0 : Int32)), none] from ⟨rfl, ⟨rfl, ⟨rfl, ⟨rfl, ⟨rfl, ⟨rfl, ⟨rfl, ⟨rfl, ⟨rfl, trivial⟩⟩⟩⟩⟩⟩⟩⟩⟩) (zyC239_83 hk61 zy_fu x2 x3 x4 x5 x6 x7 (p12.2.1 43 7) (0 : Int32) p12.2 _ _ h)
noncomputable def zyF239_61   (n : Nat) : Int32 → Int32 → Int32 → Int32 → Int32 → Int32 → zy_S → Option (Int32 × zy_S) := Nat.rec (fun _ _ _ _ _ _ _ => none) (fun _ k61 => zyF239_61b k61) n
theorem zyC239_61 {X : zx_X}     : ∀ (n : Nat) (x2 : Int32) (x3 : Int32) (x4 : Int32) (x5 : Int32) (x6 : Int32) (x7 : Int32) (s : zy_S) (r : Int32) (s' : zy_S), zyF239_61 n x2 x3 x4 x5 x6 x7 s = some (r, s') → zyR X 107 239 61 [some (.ref (43 + 3)), none, some (.int x2), some (.int x3), some (.int x4), some (.int x5), some (.int x6), some (.int x7), none, none, none] [] s (zyE (some (.int r)) s')
  | 0, _, _, _, _, _, _ => by
    intro s r s'  h
    have h : (none : Option (Int32 × zy_S)) = some (r, s') := h
    cases h
  | n + 1, x2, x3, x4, x5, x6, x7 => by
    intro s r s'  h
    exact zyC239_61b (k61 := zyF239_61 n) (fun x2 x3 x4 x5 x6 x7 s r s'  h => zyC239_61  n x2 x3 x4 x5 x6 x7 s r s'  h) h
noncomputable def zyF239_49   (x1 : Int32) (x2 : Int32) (x3 : Int32) (s : zy_S) : Option (Int32 × zy_S) :=
zyF239_61 zy_fu x2 x3 x1 (0 : Int32) (0 : Int32) (0 : Int32) s
theorem zyC239_49 {X : zx_X}     {x1 : Int32} {x2 : Int32} {x3 : Int32} {s : zy_S} {r : Int32} {s' : zy_S}  (h : zyF239_49 x1 x2 x3 s = some (r, s')) : zyR X 107 239 49 [some (.ref (43 + 3)), some (.int x1), some (.int x2), some (.int x3), none, none, none, none, none, none, none] [] s (zyE (some (.int r)) s') := by
  unfold zyF239_49 at h
  refine zy_2 rfl rfl (show zyR _ _ _ _ [some (.ref (43 + 3)), some (.int x1), some (.int x2), some (.int x3), none, none, none, none, none, none, none] [.int x1] _ _ from ?_)
  refine zy_23 rfl rfl (show zyR _ _ _ _ [some (.ref (43 + 3)), some (.int x1), some (.int x2), some (.int x3), some (.int x1), none, none, none, none, none, none] [] _ _ from ?_)
  refine zy_3 rfl rfl (show zyR _ _ _ _ [some (.ref (43 + 3)), some (.int x1), some (.int x2), some (.int x3), some (.int x1), none, none, none, none, none, none] [.int (0 : Int32)] _ _ from ?_)
  refine zy_23 rfl rfl (show zyR _ _ _ _ [some (.ref (43 + 3)), some (.int x1), some (.int x2), some (.int x3), some (.int x1), some (.int (0 : Int32)), none, none, none, none, none] [] _ _ from ?_)
  refine zy_3 rfl rfl (show zyR _ _ _ _ [some (.ref (43 + 3)), some (.int x1), some (.int x2), some (.int x3), some (.int x1), some (.int (0 : Int32)), none, none, none, none, none] [.int (0 : Int32)] _ _ from ?_)
  refine zy_23 rfl rfl (show zyR _ _ _ _ [some (.ref (43 + 3)), some (.int x1), some (.int x2), some (.int x3), some (.int x1), some (.int (0 : Int32)), some (.int (0 : Int32)), none, none, none, none] [] _ _ from ?_)
  refine zy_3 rfl rfl (show zyR _ _ _ _ [some (.ref (43 + 3)), some (.int x1), some (.int x2), some (.int x3), some (.int x1), some (.int (0 : Int32)), some (.int (0 : Int32)), none, none, none, none] [.int (0 : Int32)] _ _ from ?_)
  refine zy_23 rfl rfl (show zyR _ _ _ _ [some (.ref (43 + 3)), some (.int x1), some (.int x2), some (.int x3), some (.int x1), some (.int (0 : Int32)), some (.int (0 : Int32)), some (.int (0 : Int32)), none, none, none] [] _ _ from ?_)
  exact zy_sub (show zy_le [some (.ref (43 + 3)), none, some (.int x2), some (.int x3), some (.int x1), some (.int (0 : Int32)), some (.int (0 : Int32)), some (.int (0 : Int32)), none, none, none] [some (.ref (43 + 3)), some (.int x1), some (.int x2), some (.int x3), some (.int x1), some (.int (0 : Int32)), some (.int (0 : Int32)), some (.int (0 : Int32)), none, none, none] from ⟨rfl, ⟨rfl, ⟨rfl, ⟨rfl, ⟨rfl, ⟨rfl, ⟨rfl, trivial⟩⟩⟩⟩⟩⟩⟩) (zyC239_61 zy_fu x2 x3 x1 (0 : Int32) (0 : Int32) (0 : Int32) s _ _ h)
noncomputable def zyF239   (x1 : Int32) (x2 : Int32) (x3 : Int32) (s : zy_S) : Option (Int32 × zy_S) :=
if x2 < 0 then
some ((-1 : Int32), s)
else
(zyF179 ((x2 / (100 : Int32))).toInt64 (1 : Int64) (30 : Int64) s).bind fun p14 =>
if p14.1 = 0 then
some ((-1 : Int32), p14.2)
else
(zyF179 ((x2 - x2 / (100 : Int32) * (100 : Int32))).toInt64 (1 : Int64) (30 : Int64) p14.2).bind fun p15 =>
if p15.1 = 0 then
some ((-1 : Int32), p15.2)
else
if x3 = (-1 : Int32) then
zyF239_49 x1 x2 x3 p15.2
else
(zyF186 (x3).toInt64 p15.2).bind fun p16 =>
if p16.1 ≠ 0 then
zyF239_49 x1 x2 x3 p16.2
else
some ((-1 : Int32), p16.2)
theorem zyC239 {X : zx_X}     {x1 : Int32} {x2 : Int32} {x3 : Int32} {s : zy_S} {r : Int32} {s' : zy_S}  (h : zyF239 x1 x2 x3 s = some (r, s')) : zyR X 107 239 0 [some (.ref (43 + 3)), some (.int x1), some (.int x2), some (.int x3), none, none, none, none, none, none, none] [] s (zyE (some (.int r)) s') := by
  unfold zyF239 at h
  refine zy_2 rfl rfl (show zyR _ _ _ _ [some (.ref (43 + 3)), some (.int x1), some (.int x2), some (.int x3), none, none, none, none, none, none, none] [.int x2] _ _ from ?_)
  refine zy_24_2 rfl (fun b21 => (show zyR _ _ _ _ [some (.ref (43 + 3)), some (.int x1), some (.int x2), some (.int x3), none, none, none, none, none, none, none] [] _ _ from ?_)) (fun b21 => (show zyR _ _ _ _ [some (.ref (43 + 3)), some (.int x1), some (.int x2), some (.int x3), none, none, none, none, none, none, none] [] _ _ from ?_))
  · replace h := zy_ifp h b21
    refine zy_3 rfl rfl (show zyR _ _ _ _ [some (.ref (43 + 3)), some (.int x1), some (.int x2), some (.int x3), none, none, none, none, none, none, none] [.int (-1 : Int32)] _ _ from ?_)
    obtain ⟨rfl, rfl⟩ := zy_pi h
    exact zy_4 rfl ⟨rfl, rfl⟩
  · replace h := zy_ifn h b21
    refine zy_2 rfl rfl (show zyR _ _ _ _ [some (.ref (43 + 3)), some (.int x1), some (.int x2), some (.int x3), none, none, none, none, none, none, none] [.int x2] _ _ from ?_)
    refine zy_3 rfl rfl (show zyR _ _ _ _ [some (.ref (43 + 3)), some (.int x1), some (.int x2), some (.int x3), none, none, none, none, none, none, none] [.int (100 : Int32), .int x2] _ _ from ?_)
    refine zy_19 rfl (by decide) (show zyR _ _ _ _ [some (.ref (43 + 3)), some (.int x1), some (.int x2), some (.int x3), none, none, none, none, none, none, none] [.int (x2 / (100 : Int32))] _ _ from ?_)
    refine zy_40 rfl (show zyR _ _ _ _ [some (.ref (43 + 3)), some (.int x1), some (.int x2), some (.int x3), none, none, none, none, none, none, none] [.long ((x2 / (100 : Int32))).toInt64] _ _ from ?_)
    refine zy_36 rfl rfl (show zyR _ _ _ _ [some (.ref (43 + 3)), some (.int x1), some (.int x2), some (.int x3), none, none, none, none, none, none, none] [.long (1 : Int64), .long ((x2 / (100 : Int32))).toInt64] _ _ from ?_)
    refine zy_36c rfl rfl (show zyR _ _ _ _ [some (.ref (43 + 3)), some (.int x1), some (.int x2), some (.int x3), none, none, none, none, none, none, none] [.long (30 : Int64), .long (1 : Int64), .long ((x2 / (100 : Int32))).toInt64] _ _ from ?_)
    obtain ⟨p14, hp14, h⟩ := zy_bind h
    refine zy_60 (as := [.long ((x2 / (100 : Int32))).toInt64, .long (1 : Int64), .long (30 : Int64)]) (rest := []) (L := [some (.long ((x2 / (100 : Int32))).toInt64), none, some (.long (1 : Int64)), none, some (.long (30 : Int64)), none]) (d' := 1) rfl rfl (Nat.le_of_ble_eq_true rfl) (Nat.le_of_ble_eq_true rfl) rfl (Nat.le_of_ble_eq_true rfl) rfl rfl (zyC179 hp14) ?_
    show zyR _ _ _ _ [some (.ref (43 + 3)), some (.int x1), some (.int x2), some (.int x3), none, none, none, none, none, none, none] [.int p14.1] _ _
    refine zy_24_0 rfl (fun b20 => (show zyR _ _ _ _ [some (.ref (43 + 3)), some (.int x1), some (.int x2), some (.int x3), none, none, none, none, none, none, none] [] _ _ from ?_)) (fun b20 => (show zyR _ _ _ _ [some (.ref (43 + 3)), some (.int x1), some (.int x2), some (.int x3), none, none, none, none, none, none, none] [] _ _ from ?_))
    · replace h := zy_ifp h b20
      refine zy_3 rfl rfl (show zyR _ _ _ _ [some (.ref (43 + 3)), some (.int x1), some (.int x2), some (.int x3), none, none, none, none, none, none, none] [.int (-1 : Int32)] _ _ from ?_)
      obtain ⟨rfl, rfl⟩ := zy_pi h
      exact zy_4 rfl ⟨rfl, rfl⟩
    · replace h := zy_ifn h b20
      refine zy_2 rfl rfl (show zyR _ _ _ _ [some (.ref (43 + 3)), some (.int x1), some (.int x2), some (.int x3), none, none, none, none, none, none, none] [.int x2] _ _ from ?_)
      refine zy_3 rfl rfl (show zyR _ _ _ _ [some (.ref (43 + 3)), some (.int x1), some (.int x2), some (.int x3), none, none, none, none, none, none, none] [.int (100 : Int32), .int x2] _ _ from ?_)
      refine zy_20 rfl (by decide) (show zyR _ _ _ _ [some (.ref (43 + 3)), some (.int x1), some (.int x2), some (.int x3), none, none, none, none, none, none, none] [.int (x2 - x2 / (100 : Int32) * (100 : Int32))] _ _ from ?_)
      refine zy_40 rfl (show zyR _ _ _ _ [some (.ref (43 + 3)), some (.int x1), some (.int x2), some (.int x3), none, none, none, none, none, none, none] [.long ((x2 - x2 / (100 : Int32) * (100 : Int32))).toInt64] _ _ from ?_)
      refine zy_36 rfl rfl (show zyR _ _ _ _ [some (.ref (43 + 3)), some (.int x1), some (.int x2), some (.int x3), none, none, none, none, none, none, none] [.long (1 : Int64), .long ((x2 - x2 / (100 : Int32) * (100 : Int32))).toInt64] _ _ from ?_)
      refine zy_36c rfl rfl (show zyR _ _ _ _ [some (.ref (43 + 3)), some (.int x1), some (.int x2), some (.int x3), none, none, none, none, none, none, none] [.long (30 : Int64), .long (1 : Int64), .long ((x2 - x2 / (100 : Int32) * (100 : Int32))).toInt64] _ _ from ?_)
      obtain ⟨p15, hp15, h⟩ := zy_bind h
      refine zy_60 (as := [.long ((x2 - x2 / (100 : Int32) * (100 : Int32))).toInt64, .long (1 : Int64), .long (30 : Int64)]) (rest := []) (L := [some (.long ((x2 - x2 / (100 : Int32) * (100 : Int32))).toInt64), none, some (.long (1 : Int64)), none, some (.long (30 : Int64)), none]) (d' := 1) rfl rfl (Nat.le_of_ble_eq_true rfl) (Nat.le_of_ble_eq_true rfl) rfl (Nat.le_of_ble_eq_true rfl) rfl rfl (zyC179 hp15) ?_
      show zyR _ _ _ _ [some (.ref (43 + 3)), some (.int x1), some (.int x2), some (.int x3), none, none, none, none, none, none, none] [.int p15.1] _ _
      refine zy_24_0 rfl (fun b19 => (show zyR _ _ _ _ [some (.ref (43 + 3)), some (.int x1), some (.int x2), some (.int x3), none, none, none, none, none, none, none] [] _ _ from ?_)) (fun b19 => (show zyR _ _ _ _ [some (.ref (43 + 3)), some (.int x1), some (.int x2), some (.int x3), none, none, none, none, none, none, none] [] _ _ from ?_))
      · replace h := zy_ifp h b19
        refine zy_3 rfl rfl (show zyR _ _ _ _ [some (.ref (43 + 3)), some (.int x1), some (.int x2), some (.int x3), none, none, none, none, none, none, none] [.int (-1 : Int32)] _ _ from ?_)
        obtain ⟨rfl, rfl⟩ := zy_pi h
        exact zy_4 rfl ⟨rfl, rfl⟩
      · replace h := zy_ifn h b19
        refine zy_2 rfl rfl (show zyR _ _ _ _ [some (.ref (43 + 3)), some (.int x1), some (.int x2), some (.int x3), none, none, none, none, none, none, none] [.int x3] _ _ from ?_)
        refine zy_3 rfl rfl (show zyR _ _ _ _ [some (.ref (43 + 3)), some (.int x1), some (.int x2), some (.int x3), none, none, none, none, none, none, none] [.int (-1 : Int32), .int x3] _ _ from ?_)
        refine zy_25_0 rfl (fun b18 => (show zyR _ _ _ _ [some (.ref (43 + 3)), some (.int x1), some (.int x2), some (.int x3), none, none, none, none, none, none, none] [] _ _ from ?_)) (fun b18 => (show zyR _ _ _ _ [some (.ref (43 + 3)), some (.int x1), some (.int x2), some (.int x3), none, none, none, none, none, none, none] [] _ _ from ?_))
        · replace h := zy_ifp h b18
          exact zy_sub (show zy_le [some (.ref (43 + 3)), some (.int x1), some (.int x2), some (.int x3), none, none, none, none, none, none, none] [some (.ref (43 + 3)), some (.int x1), some (.int x2), some (.int x3), none, none, none, none, none, none, none] from ⟨rfl, ⟨rfl, ⟨rfl, ⟨rfl, trivial⟩⟩⟩⟩) (zyC239_49 h)
        · replace h := zy_ifn h b18
          refine zy_2 rfl rfl (show zyR _ _ _ _ [some (.ref (43 + 3)), some (.int x1), some (.int x2), some (.int x3), none, none, none, none, none, none, none] [.int x3] _ _ from ?_)
          refine zy_40 rfl (show zyR _ _ _ _ [some (.ref (43 + 3)), some (.int x1), some (.int x2), some (.int x3), none, none, none, none, none, none, none] [.long (x3).toInt64] _ _ from ?_)
          obtain ⟨p16, hp16, h⟩ := zy_bind h
          refine zy_60 (as := [.long (x3).toInt64]) (rest := []) (L := [some (.long (x3).toInt64), none]) (d' := 2) rfl rfl (Nat.le_of_ble_eq_true rfl) (Nat.le_of_ble_eq_true rfl) rfl (Nat.le_of_ble_eq_true rfl) rfl rfl (zyC186 hp16) ?_
          show zyR _ _ _ _ [some (.ref (43 + 3)), some (.int x1), some (.int x2), some (.int x3), none, none, none, none, none, none, none] [.int p16.1] _ _
          refine zy_24_1 rfl (fun b17 => (show zyR _ _ _ _ [some (.ref (43 + 3)), some (.int x1), some (.int x2), some (.int x3), none, none, none, none, none, none, none] [] _ _ from ?_)) (fun b17 => (show zyR _ _ _ _ [some (.ref (43 + 3)), some (.int x1), some (.int x2), some (.int x3), none, none, none, none, none, none, none] [] _ _ from ?_))
          · replace h := zy_ifp h b17
            exact zy_sub (show zy_le [some (.ref (43 + 3)), some (.int x1), some (.int x2), some (.int x3), none, none, none, none, none, none, none] [some (.ref (43 + 3)), some (.int x1), some (.int x2), some (.int x3), none, none, none, none, none, none, none] from ⟨rfl, ⟨rfl, ⟨rfl, ⟨rfl, trivial⟩⟩⟩⟩) (zyC239_49 h)
          · replace h := zy_ifn h b17
            refine zy_3 rfl rfl (show zyR _ _ _ _ [some (.ref (43 + 3)), some (.int x1), some (.int x2), some (.int x3), none, none, none, none, none, none, none] [.int (-1 : Int32)] _ _ from ?_)
            obtain ⟨rfl, rfl⟩ := zy_pi h
            exact zy_4 rfl ⟨rfl, rfl⟩
end
section
/-! PART 41.42: methods as functions. Made by wip/v4/dcp.py. -/
/-! NineOpinions$Thought.leastOf(II)I -/
noncomputable def zyF81   (x1 : Int32) (x2 : Int32) (s : zy_S) : Option (Int32 × zy_S) :=
if x2 < 0 then
some ((0 : Int32), s)
else
if x2 ≤ (9 : Int32) then
if zy_in (((10 : Int32) * x1) + x2) 70 then
some ((s.1 14 ((((10 : Int32) * x1) + x2)).toNatClampNeg), s)
else none
else
some ((0 : Int32), s)
theorem zyC81 {X : zx_X}     {x1 : Int32} {x2 : Int32} {s : zy_S} {r : Int32} {s' : zy_S}  (h : zyF81 x1 x2 s = some (r, s')) : zyR X 1 81 0 [some (.ref (12 + 3)), some (.int x1), some (.int x2)] [] s (zyE (some (.int r)) s') := by
  unfold zyF81 at h
  refine zy_2 rfl rfl (show zyR _ _ _ _ [some (.ref (12 + 3)), some (.int x1), some (.int x2)] [.int x2] _ _ from ?_)
  refine zy_24_2 rfl (fun b3 => (show zyR _ _ _ _ [some (.ref (12 + 3)), some (.int x1), some (.int x2)] [] _ _ from ?_)) (fun b3 => (show zyR _ _ _ _ [some (.ref (12 + 3)), some (.int x1), some (.int x2)] [] _ _ from ?_))
  · replace h := zy_ifp h b3
    refine zy_3 rfl rfl (show zyR _ _ _ _ [some (.ref (12 + 3)), some (.int x1), some (.int x2)] [.int (0 : Int32)] _ _ from ?_)
    refine zy_6 rfl (show zyR _ _ _ _ [some (.ref (12 + 3)), some (.int x1), some (.int x2)] [.int (0 : Int32)] _ _ from ?_)
    obtain ⟨rfl, rfl⟩ := zy_pi h
    exact zy_4 rfl ⟨rfl, rfl⟩
  · replace h := zy_ifn h b3
    refine zy_2 rfl rfl (show zyR _ _ _ _ [some (.ref (12 + 3)), some (.int x1), some (.int x2)] [.int x2] _ _ from ?_)
    refine zy_3 rfl rfl (show zyR _ _ _ _ [some (.ref (12 + 3)), some (.int x1), some (.int x2)] [.int (9 : Int32), .int x2] _ _ from ?_)
    refine zy_25_5 rfl (fun b2 => (show zyR _ _ _ _ [some (.ref (12 + 3)), some (.int x1), some (.int x2)] [] _ _ from ?_)) (fun b2 => (show zyR _ _ _ _ [some (.ref (12 + 3)), some (.int x1), some (.int x2)] [] _ _ from ?_))
    · replace h := zy_ifp h b2
      refine zy_0 rfl rfl (show zyR _ _ _ _ [some (.ref (12 + 3)), some (.int x1), some (.int x2)] [.ref (12 + 3)] _ _ from ?_)
      refine zy_1r (c := 12) rfl rfl rfl (show zyR _ _ _ _ [some (.ref (12 + 3)), some (.int x1), some (.int x2)] [.ref (14 + 3)] _ _ from ?_)
      refine zy_3 rfl rfl (show zyR _ _ _ _ [some (.ref (12 + 3)), some (.int x1), some (.int x2)] [.int (10 : Int32), .ref (14 + 3)] _ _ from ?_)
      refine zy_2 rfl rfl (show zyR _ _ _ _ [some (.ref (12 + 3)), some (.int x1), some (.int x2)] [.int x1, .int (10 : Int32), .ref (14 + 3)] _ _ from ?_)
      refine zy_12 rfl (show zyR _ _ _ _ [some (.ref (12 + 3)), some (.int x1), some (.int x2)] [.int ((10 : Int32) * x1), .ref (14 + 3)] _ _ from ?_)
      refine zy_2 rfl rfl (show zyR _ _ _ _ [some (.ref (12 + 3)), some (.int x1), some (.int x2)] [.int x2, .int ((10 : Int32) * x1), .ref (14 + 3)] _ _ from ?_)
      refine zy_10 rfl (show zyR _ _ _ _ [some (.ref (12 + 3)), some (.int x1), some (.int x2)] [.int (((10 : Int32) * x1) + x2), .ref (14 + 3)] _ _ from ?_)
      obtain ⟨c1, h⟩ := zy_if h
      refine zy_26 (c := 14) rfl rfl c1 (show zyR _ _ _ _ [some (.ref (12 + 3)), some (.int x1), some (.int x2)] [.int (s.1 14 ((((10 : Int32) * x1) + x2)).toNatClampNeg)] _ _ from ?_)
      obtain ⟨rfl, rfl⟩ := zy_pi h
      exact zy_4 rfl ⟨rfl, rfl⟩
    · replace h := zy_ifn h b2
      refine zy_3 rfl rfl (show zyR _ _ _ _ [some (.ref (12 + 3)), some (.int x1), some (.int x2)] [.int (0 : Int32)] _ _ from ?_)
      refine zy_6 rfl (show zyR _ _ _ _ [some (.ref (12 + 3)), some (.int x1), some (.int x2)] [.int (0 : Int32)] _ _ from ?_)
      obtain ⟨rfl, rfl⟩ := zy_pi h
      exact zy_4 rfl ⟨rfl, rfl⟩
/-! NineOpinions$Thought.leastWith(III)I -/
noncomputable def zyF80   (x1 : Int32) (x2 : Int32) (x3 : Int32) (s : zy_S) : Option (Int32 × zy_S) :=
(zyF56 x1 (x2 <<< (((4 : Int32) * x1) &&& 31)) (s.1 1 3) s).bind fun p1 =>
if zy_in p1.1 1536 then
(zyF63 x2 p1.2).bind fun p3 =>
(zyF81 x1 (x3 - p3.1) p3.2).bind fun p4 =>
some (((p1.2.1 13 (p1.1).toNatClampNeg) + p4.1), p4.2)
else none
theorem zyC80 {X : zx_X}     {x1 : Int32} {x2 : Int32} {x3 : Int32} {s : zy_S} {r : Int32} {s' : zy_S}  (h : zyF80 x1 x2 x3 s = some (r, s')) : zyR X 3 80 0 [some (.ref (12 + 3)), some (.int x1), some (.int x2), some (.int x3), none] [] s (zyE (some (.int r)) s') := by
  unfold zyF80 at h
  refine zy_2 rfl rfl (show zyR _ _ _ _ [some (.ref (12 + 3)), some (.int x1), some (.int x2), some (.int x3), none] [.int x1] _ _ from ?_)
  refine zy_2 rfl rfl (show zyR _ _ _ _ [some (.ref (12 + 3)), some (.int x1), some (.int x2), some (.int x3), none] [.int x2, .int x1] _ _ from ?_)
  refine zy_3 rfl rfl (show zyR _ _ _ _ [some (.ref (12 + 3)), some (.int x1), some (.int x2), some (.int x3), none] [.int (4 : Int32), .int x2, .int x1] _ _ from ?_)
  refine zy_2 rfl rfl (show zyR _ _ _ _ [some (.ref (12 + 3)), some (.int x1), some (.int x2), some (.int x3), none] [.int x1, .int (4 : Int32), .int x2, .int x1] _ _ from ?_)
  refine zy_12 rfl (show zyR _ _ _ _ [some (.ref (12 + 3)), some (.int x1), some (.int x2), some (.int x3), none] [.int ((4 : Int32) * x1), .int x2, .int x1] _ _ from ?_)
  refine zy_16 rfl (show zyR _ _ _ _ [some (.ref (12 + 3)), some (.int x1), some (.int x2), some (.int x3), none] [.int (x2 <<< (((4 : Int32) * x1) &&& 31)), .int x1] _ _ from ?_)
  refine zy_0 rfl rfl (show zyR _ _ _ _ [some (.ref (12 + 3)), some (.int x1), some (.int x2), some (.int x3), none] [.ref (12 + 3), .int (x2 <<< (((4 : Int32) * x1) &&& 31)), .int x1] _ _ from ?_)
  refine zy_1r (c := 12) rfl rfl rfl (show zyR _ _ _ _ [some (.ref (12 + 3)), some (.int x1), some (.int x2), some (.int x3), none] [.ref (1 + 3), .int (x2 <<< (((4 : Int32) * x1) &&& 31)), .int x1] _ _ from ?_)
  refine zy_1 (c := 1) rfl rfl rfl (show zyR _ _ _ _ [some (.ref (12 + 3)), some (.int x1), some (.int x2), some (.int x3), none] [.int (s.1 1 3), .int (x2 <<< (((4 : Int32) * x1) &&& 31)), .int x1] _ _ from ?_)
  obtain ⟨p1, hp1, h⟩ := zy_bind h
  refine zy_60 (as := [.int x1, .int (x2 <<< (((4 : Int32) * x1) &&& 31)), .int (s.1 1 3)]) (rest := []) (L := [some (.int x1), some (.int (x2 <<< (((4 : Int32) * x1) &&& 31))), some (.int (s.1 1 3))]) (d' := 2) rfl rfl (Nat.le_of_ble_eq_true rfl) (Nat.le_of_ble_eq_true rfl) rfl (Nat.le_of_ble_eq_true rfl) rfl rfl (zyC56 hp1) ?_
  show zyR _ _ _ _ [some (.ref (12 + 3)), some (.int x1), some (.int x2), some (.int x3), none] [.int p1.1] _ _
  refine zy_23 rfl rfl (show zyR _ _ _ _ [some (.ref (12 + 3)), some (.int x1), some (.int x2), some (.int x3), some (.int p1.1)] [] _ _ from ?_)
  refine zy_0 rfl rfl (show zyR _ _ _ _ [some (.ref (12 + 3)), some (.int x1), some (.int x2), some (.int x3), some (.int p1.1)] [.ref (12 + 3)] _ _ from ?_)
  refine zy_1r (c := 12) rfl rfl rfl (show zyR _ _ _ _ [some (.ref (12 + 3)), some (.int x1), some (.int x2), some (.int x3), some (.int p1.1)] [.ref (13 + 3)] _ _ from ?_)
  refine zy_2 rfl rfl (show zyR _ _ _ _ [some (.ref (12 + 3)), some (.int x1), some (.int x2), some (.int x3), some (.int p1.1)] [.int p1.1, .ref (13 + 3)] _ _ from ?_)
  obtain ⟨c2, h⟩ := zy_if h
  refine zy_26 (c := 13) rfl rfl c2 (show zyR _ _ _ _ [some (.ref (12 + 3)), some (.int x1), some (.int x2), some (.int x3), some (.int p1.1)] [.int (p1.2.1 13 (p1.1).toNatClampNeg)] _ _ from ?_)
  refine zy_0 rfl rfl (show zyR _ _ _ _ [some (.ref (12 + 3)), some (.int x1), some (.int x2), some (.int x3), some (.int p1.1)] [.ref (12 + 3), .int (p1.2.1 13 (p1.1).toNatClampNeg)] _ _ from ?_)
  refine zy_2 rfl rfl (show zyR _ _ _ _ [some (.ref (12 + 3)), some (.int x1), some (.int x2), some (.int x3), some (.int p1.1)] [.int x1, .ref (12 + 3), .int (p1.2.1 13 (p1.1).toNatClampNeg)] _ _ from ?_)
  refine zy_2 rfl rfl (show zyR _ _ _ _ [some (.ref (12 + 3)), some (.int x1), some (.int x2), some (.int x3), some (.int p1.1)] [.int x3, .int x1, .ref (12 + 3), .int (p1.2.1 13 (p1.1).toNatClampNeg)] _ _ from ?_)
  refine zy_2 rfl rfl (show zyR _ _ _ _ [some (.ref (12 + 3)), some (.int x1), some (.int x2), some (.int x3), some (.int p1.1)] [.int x2, .int x3, .int x1, .ref (12 + 3), .int (p1.2.1 13 (p1.1).toNatClampNeg)] _ _ from ?_)
  obtain ⟨p3, hp3, h⟩ := zy_bind h
  refine zy_60 (as := [.int x2]) (rest := [.int x3, .int x1, .ref (12 + 3), .int (p1.2.1 13 (p1.1).toNatClampNeg)]) (L := [some (.int x2)]) (d' := 1) rfl rfl (Nat.le_of_ble_eq_true rfl) (Nat.le_of_ble_eq_true rfl) rfl (Nat.le_of_ble_eq_true rfl) rfl rfl (zyC63 hp3) ?_
  show zyR _ _ _ _ [some (.ref (12 + 3)), some (.int x1), some (.int x2), some (.int x3), some (.int p1.1)] [.int p3.1, .int x3, .int x1, .ref (12 + 3), .int (p1.2.1 13 (p1.1).toNatClampNeg)] _ _
  refine zy_11 rfl (show zyR _ _ _ _ [some (.ref (12 + 3)), some (.int x1), some (.int x2), some (.int x3), some (.int p1.1)] [.int (x3 - p3.1), .int x1, .ref (12 + 3), .int (p1.2.1 13 (p1.1).toNatClampNeg)] _ _ from ?_)
  obtain ⟨p4, hp4, h⟩ := zy_bind h
  refine zy_5 (c := 12) (as := [.int x1, .int (x3 - p3.1)]) (rest := [.int (p1.2.1 13 (p1.1).toNatClampNeg)]) (L := [some (.ref (12 + 3)), some (.int x1), some (.int (x3 - p3.1))]) (d' := 1) rfl rfl rfl (Nat.le_of_ble_eq_true rfl) (Nat.le_of_ble_eq_true rfl) rfl (Nat.le_of_ble_eq_true rfl) rfl rfl (zyC81 hp4) ?_
  show zyR _ _ _ _ [some (.ref (12 + 3)), some (.int x1), some (.int x2), some (.int x3), some (.int p1.1)] [.int p4.1, .int (p1.2.1 13 (p1.1).toNatClampNeg)] _ _
  refine zy_10 rfl (show zyR _ _ _ _ [some (.ref (12 + 3)), some (.int x1), some (.int x2), some (.int x3), some (.int p1.1)] [.int ((p1.2.1 13 (p1.1).toNatClampNeg) + p4.1)] _ _ from ?_)
  obtain ⟨rfl, rfl⟩ := zy_pi h
  exact zy_4 rfl ⟨rfl, rfl⟩
/-! NineOpinions$Thought.leastViews(II)I -/
noncomputable def zyF79_54  (k5 : Int32 → Int32 → Int32 → Int32 → zy_S → Option (Int32 × zy_S)) (x1 : Int32) (x2 : Int32) (x3 : Int32) (x4 : Int32) (s : zy_S) : Option (Int32 × zy_S) :=
k5 x1 x2 x3 (x4 + (1 : Int32)) s
theorem zyC79_54 {X : zx_X}  {k5 : Int32 → Int32 → Int32 → Int32 → zy_S → Option (Int32 × zy_S)}  (hk5 : ∀ (x1 : Int32) (x2 : Int32) (x3 : Int32) (x4 : Int32) (s : zy_S) (r : Int32) (s' : zy_S), k5 x1 x2 x3 x4 s = some (r, s') → zyR X 4 79 5 [some (.ref (12 + 3)), some (.int x1), some (.int x2), some (.int x3), some (.int x4), none] [] s (zyE (some (.int r)) s')) {x1 : Int32} {x2 : Int32} {x3 : Int32} {x4 : Int32} {s : zy_S} {r : Int32} {s' : zy_S}  (h : zyF79_54 k5 x1 x2 x3 x4 s = some (r, s')) : zyR X 4 79 54 [some (.ref (12 + 3)), some (.int x1), some (.int x2), some (.int x3), some (.int x4), none] [] s (zyE (some (.int r)) s') := by
  unfold zyF79_54 at h
  refine zy_22 rfl rfl rfl rfl (show zyR _ _ _ _ [some (.ref (12 + 3)), some (.int x1), some (.int x2), some (.int x3), some (.int (x4 + (1 : Int32))), none] [] _ _ from ?_)
  refine zy_6 rfl (show zyR _ _ _ _ [some (.ref (12 + 3)), some (.int x1), some (.int x2), some (.int x3), some (.int (x4 + (1 : Int32))), none] [] _ _ from ?_)
  exact zy_sub (show zy_le [some (.ref (12 + 3)), some (.int x1), some (.int x2), some (.int x3), some (.int (x4 + (1 : Int32))), none] [some (.ref (12 + 3)), some (.int x1), some (.int x2), some (.int x3), some (.int (x4 + (1 : Int32))), none] from ⟨rfl, ⟨rfl, ⟨rfl, ⟨rfl, ⟨rfl, trivial⟩⟩⟩⟩⟩) (hk5 x1 x2 x3 (x4 + (1 : Int32)) s _ _ h)
noncomputable def zyF79_26  (k5 : Int32 → Int32 → Int32 → Int32 → zy_S → Option (Int32 × zy_S)) (x1 : Int32) (x2 : Int32) (x3 : Int32) (x4 : Int32) (y0 : Int32) (s : zy_S) : Option (Int32 × zy_S) :=
if y0 = 0 then
zyF79_54 k5 x1 x2 x3 x4 s
else
(zyF80 x1 x4 x2 s).bind fun p1 =>
(zyF80 x1 x3 x2 p1.2).bind fun p2 =>
if p2.1 ≤ p1.1 then
zyF79_54 k5 x1 x2 x3 x4 p2.2
else
zyF79_54 k5 x1 x2 x4 x4 p2.2
theorem zyC79_26 {X : zx_X}  {k5 : Int32 → Int32 → Int32 → Int32 → zy_S → Option (Int32 × zy_S)}  (hk5 : ∀ (x1 : Int32) (x2 : Int32) (x3 : Int32) (x4 : Int32) (s : zy_S) (r : Int32) (s' : zy_S), k5 x1 x2 x3 x4 s = some (r, s') → zyR X 4 79 5 [some (.ref (12 + 3)), some (.int x1), some (.int x2), some (.int x3), some (.int x4), none] [] s (zyE (some (.int r)) s')) {x1 : Int32} {x2 : Int32} {x3 : Int32} {x4 : Int32} {y0 : Int32} {s : zy_S} {r : Int32} {s' : zy_S}  (h : zyF79_26 k5 x1 x2 x3 x4 y0 s = some (r, s')) : zyR X 4 79 26 [some (.ref (12 + 3)), some (.int x1), some (.int x2), some (.int x3), some (.int x4), none] [.int y0] s (zyE (some (.int r)) s') := by
  unfold zyF79_26 at h
  refine zy_23 rfl rfl (show zyR _ _ _ _ [some (.ref (12 + 3)), some (.int x1), some (.int x2), some (.int x3), some (.int x4), some (.int y0)] [] _ _ from ?_)
  refine zy_2 rfl rfl (show zyR _ _ _ _ [some (.ref (12 + 3)), some (.int x1), some (.int x2), some (.int x3), some (.int x4), some (.int y0)] [.int y0] _ _ from ?_)
  refine zy_24_0 rfl (fun b4 => (show zyR _ _ _ _ [some (.ref (12 + 3)), some (.int x1), some (.int x2), some (.int x3), some (.int x4), some (.int y0)] [] _ _ from ?_)) (fun b4 => (show zyR _ _ _ _ [some (.ref (12 + 3)), some (.int x1), some (.int x2), some (.int x3), some (.int x4), some (.int y0)] [] _ _ from ?_))
  · replace h := zy_ifp h b4
    exact zy_sub (show zy_le [some (.ref (12 + 3)), some (.int x1), some (.int x2), some (.int x3), some (.int x4), none] [some (.ref (12 + 3)), some (.int x1), some (.int x2), some (.int x3), some (.int x4), some (.int y0)] from ⟨rfl, ⟨rfl, ⟨rfl, ⟨rfl, ⟨rfl, trivial⟩⟩⟩⟩⟩) (zyC79_54 hk5 h)
  · replace h := zy_ifn h b4
    refine zy_0 rfl rfl (show zyR _ _ _ _ [some (.ref (12 + 3)), some (.int x1), some (.int x2), some (.int x3), some (.int x4), some (.int y0)] [.ref (12 + 3)] _ _ from ?_)
    refine zy_2 rfl rfl (show zyR _ _ _ _ [some (.ref (12 + 3)), some (.int x1), some (.int x2), some (.int x3), some (.int x4), some (.int y0)] [.int x1, .ref (12 + 3)] _ _ from ?_)
    refine zy_2 rfl rfl (show zyR _ _ _ _ [some (.ref (12 + 3)), some (.int x1), some (.int x2), some (.int x3), some (.int x4), some (.int y0)] [.int x4, .int x1, .ref (12 + 3)] _ _ from ?_)
    refine zy_2 rfl rfl (show zyR _ _ _ _ [some (.ref (12 + 3)), some (.int x1), some (.int x2), some (.int x3), some (.int x4), some (.int y0)] [.int x2, .int x4, .int x1, .ref (12 + 3)] _ _ from ?_)
    obtain ⟨p1, hp1, h⟩ := zy_bind h
    refine zy_5 (c := 12) (as := [.int x1, .int x4, .int x2]) (rest := []) (L := [some (.ref (12 + 3)), some (.int x1), some (.int x4), some (.int x2), none]) (d' := 3) rfl rfl rfl (Nat.le_of_ble_eq_true rfl) (Nat.le_of_ble_eq_true rfl) rfl (Nat.le_of_ble_eq_true rfl) rfl rfl (zyC80 hp1) ?_
    show zyR _ _ _ _ [some (.ref (12 + 3)), some (.int x1), some (.int x2), some (.int x3), some (.int x4), some (.int y0)] [.int p1.1] _ _
    refine zy_0 rfl rfl (show zyR _ _ _ _ [some (.ref (12 + 3)), some (.int x1), some (.int x2), some (.int x3), some (.int x4), some (.int y0)] [.ref (12 + 3), .int p1.1] _ _ from ?_)
    refine zy_2 rfl rfl (show zyR _ _ _ _ [some (.ref (12 + 3)), some (.int x1), some (.int x2), some (.int x3), some (.int x4), some (.int y0)] [.int x1, .ref (12 + 3), .int p1.1] _ _ from ?_)
    refine zy_2 rfl rfl (show zyR _ _ _ _ [some (.ref (12 + 3)), some (.int x1), some (.int x2), some (.int x3), some (.int x4), some (.int y0)] [.int x3, .int x1, .ref (12 + 3), .int p1.1] _ _ from ?_)
    refine zy_2 rfl rfl (show zyR _ _ _ _ [some (.ref (12 + 3)), some (.int x1), some (.int x2), some (.int x3), some (.int x4), some (.int y0)] [.int x2, .int x3, .int x1, .ref (12 + 3), .int p1.1] _ _ from ?_)
    obtain ⟨p2, hp2, h⟩ := zy_bind h
    refine zy_5 (c := 12) (as := [.int x1, .int x3, .int x2]) (rest := [.int p1.1]) (L := [some (.ref (12 + 3)), some (.int x1), some (.int x3), some (.int x2), none]) (d' := 3) rfl rfl rfl (Nat.le_of_ble_eq_true rfl) (Nat.le_of_ble_eq_true rfl) rfl (Nat.le_of_ble_eq_true rfl) rfl rfl (zyC80 hp2) ?_
    show zyR _ _ _ _ [some (.ref (12 + 3)), some (.int x1), some (.int x2), some (.int x3), some (.int x4), some (.int y0)] [.int p2.1, .int p1.1] _ _
    refine zy_25_3 rfl (fun b3 => (show zyR _ _ _ _ [some (.ref (12 + 3)), some (.int x1), some (.int x2), some (.int x3), some (.int x4), some (.int y0)] [] _ _ from ?_)) (fun b3 => (show zyR _ _ _ _ [some (.ref (12 + 3)), some (.int x1), some (.int x2), some (.int x3), some (.int x4), some (.int y0)] [] _ _ from ?_))
    · replace h := zy_ifp h b3
      exact zy_sub (show zy_le [some (.ref (12 + 3)), some (.int x1), some (.int x2), some (.int x3), some (.int x4), none] [some (.ref (12 + 3)), some (.int x1), some (.int x2), some (.int x3), some (.int x4), some (.int y0)] from ⟨rfl, ⟨rfl, ⟨rfl, ⟨rfl, ⟨rfl, trivial⟩⟩⟩⟩⟩) (zyC79_54 hk5 h)
    · replace h := zy_ifn h b3
      refine zy_2 rfl rfl (show zyR _ _ _ _ [some (.ref (12 + 3)), some (.int x1), some (.int x2), some (.int x3), some (.int x4), some (.int y0)] [.int x4] _ _ from ?_)
      refine zy_23 rfl rfl (show zyR _ _ _ _ [some (.ref (12 + 3)), some (.int x1), some (.int x2), some (.int x4), some (.int x4), some (.int y0)] [] _ _ from ?_)
      exact zy_sub (show zy_le [some (.ref (12 + 3)), some (.int x1), some (.int x2), some (.int x4), some (.int x4), none] [some (.ref (12 + 3)), some (.int x1), some (.int x2), some (.int x4), some (.int x4), some (.int y0)] from ⟨rfl, ⟨rfl, ⟨rfl, ⟨rfl, ⟨rfl, trivial⟩⟩⟩⟩⟩) (zyC79_54 hk5 h)
noncomputable def zyF79_5b  (k5 : Int32 → Int32 → Int32 → Int32 → zy_S → Option (Int32 × zy_S)) (x1 : Int32) (x2 : Int32) (x3 : Int32) (x4 : Int32) (s : zy_S) : Option (Int32 × zy_S) :=
if (16 : Int32) ≤ x4 then
some (x3, s)
else
(zyF63 x4 s).bind fun p5 =>
if x2 < p5.1 then
zyF79_26 k5 x1 x2 x3 x4 (0 : Int32) p5.2
else
zyF79_26 k5 x1 x2 x3 x4 (1 : Int32) p5.2
theorem zyC79_5b {X : zx_X}  {k5 : Int32 → Int32 → Int32 → Int32 → zy_S → Option (Int32 × zy_S)}  (hk5 : ∀ (x1 : Int32) (x2 : Int32) (x3 : Int32) (x4 : Int32) (s : zy_S) (r : Int32) (s' : zy_S), k5 x1 x2 x3 x4 s = some (r, s') → zyR X 4 79 5 [some (.ref (12 + 3)), some (.int x1), some (.int x2), some (.int x3), some (.int x4), none] [] s (zyE (some (.int r)) s')) {x1 : Int32} {x2 : Int32} {x3 : Int32} {x4 : Int32} {s : zy_S} {r : Int32} {s' : zy_S}  (h : zyF79_5b k5 x1 x2 x3 x4 s = some (r, s')) : zyR X 4 79 5 [some (.ref (12 + 3)), some (.int x1), some (.int x2), some (.int x3), some (.int x4), none] [] s (zyE (some (.int r)) s') := by
  unfold zyF79_5b at h
  refine zy_2 rfl rfl (show zyR _ _ _ _ [some (.ref (12 + 3)), some (.int x1), some (.int x2), some (.int x3), some (.int x4), none] [.int x4] _ _ from ?_)
  refine zy_3 rfl rfl (show zyR _ _ _ _ [some (.ref (12 + 3)), some (.int x1), some (.int x2), some (.int x3), some (.int x4), none] [.int (16 : Int32), .int x4] _ _ from ?_)
  refine zy_25_3 rfl (fun b7 => (show zyR _ _ _ _ [some (.ref (12 + 3)), some (.int x1), some (.int x2), some (.int x3), some (.int x4), none] [] _ _ from ?_)) (fun b7 => (show zyR _ _ _ _ [some (.ref (12 + 3)), some (.int x1), some (.int x2), some (.int x3), some (.int x4), none] [] _ _ from ?_))
  · replace h := zy_ifp h b7
    refine zy_2 rfl rfl (show zyR _ _ _ _ [some (.ref (12 + 3)), some (.int x1), some (.int x2), some (.int x3), some (.int x4), none] [.int x3] _ _ from ?_)
    obtain ⟨rfl, rfl⟩ := zy_pi h
    exact zy_4 rfl ⟨rfl, rfl⟩
  · replace h := zy_ifn h b7
    refine zy_2 rfl rfl (show zyR _ _ _ _ [some (.ref (12 + 3)), some (.int x1), some (.int x2), some (.int x3), some (.int x4), none] [.int x4] _ _ from ?_)
    obtain ⟨p5, hp5, h⟩ := zy_bind h
    refine zy_60 (as := [.int x4]) (rest := []) (L := [some (.int x4)]) (d' := 1) rfl rfl (Nat.le_of_ble_eq_true rfl) (Nat.le_of_ble_eq_true rfl) rfl (Nat.le_of_ble_eq_true rfl) rfl rfl (zyC63 hp5) ?_
    show zyR _ _ _ _ [some (.ref (12 + 3)), some (.int x1), some (.int x2), some (.int x3), some (.int x4), none] [.int p5.1] _ _
    refine zy_2 rfl rfl (show zyR _ _ _ _ [some (.ref (12 + 3)), some (.int x1), some (.int x2), some (.int x3), some (.int x4), none] [.int x2, .int p5.1] _ _ from ?_)
    refine zy_25_4 rfl (fun b6 => (show zyR _ _ _ _ [some (.ref (12 + 3)), some (.int x1), some (.int x2), some (.int x3), some (.int x4), none] [] _ _ from ?_)) (fun b6 => (show zyR _ _ _ _ [some (.ref (12 + 3)), some (.int x1), some (.int x2), some (.int x3), some (.int x4), none] [] _ _ from ?_))
    · replace h := zy_ifp h b6
      refine zy_3 rfl rfl (show zyR _ _ _ _ [some (.ref (12 + 3)), some (.int x1), some (.int x2), some (.int x3), some (.int x4), none] [.int (0 : Int32)] _ _ from ?_)
      exact zy_sub (show zy_le [some (.ref (12 + 3)), some (.int x1), some (.int x2), some (.int x3), some (.int x4), none] [some (.ref (12 + 3)), some (.int x1), some (.int x2), some (.int x3), some (.int x4), none] from ⟨rfl, ⟨rfl, ⟨rfl, ⟨rfl, ⟨rfl, trivial⟩⟩⟩⟩⟩) (zyC79_26 hk5 h)
    · replace h := zy_ifn h b6
      refine zy_3 rfl rfl (show zyR _ _ _ _ [some (.ref (12 + 3)), some (.int x1), some (.int x2), some (.int x3), some (.int x4), none] [.int (1 : Int32)] _ _ from ?_)
      refine zy_6 rfl (show zyR _ _ _ _ [some (.ref (12 + 3)), some (.int x1), some (.int x2), some (.int x3), some (.int x4), none] [.int (1 : Int32)] _ _ from ?_)
      exact zy_sub (show zy_le [some (.ref (12 + 3)), some (.int x1), some (.int x2), some (.int x3), some (.int x4), none] [some (.ref (12 + 3)), some (.int x1), some (.int x2), some (.int x3), some (.int x4), none] from ⟨rfl, ⟨rfl, ⟨rfl, ⟨rfl, ⟨rfl, trivial⟩⟩⟩⟩⟩) (zyC79_26 hk5 h)
noncomputable def zyF79_5   (n : Nat) : Int32 → Int32 → Int32 → Int32 → zy_S → Option (Int32 × zy_S) := Nat.rec (fun _ _ _ _ _ => none) (fun _ k5 => zyF79_5b k5) n
theorem zyC79_5 {X : zx_X}     : ∀ (n : Nat) (x1 : Int32) (x2 : Int32) (x3 : Int32) (x4 : Int32) (s : zy_S) (r : Int32) (s' : zy_S), zyF79_5 n x1 x2 x3 x4 s = some (r, s') → zyR X 4 79 5 [some (.ref (12 + 3)), some (.int x1), some (.int x2), some (.int x3), some (.int x4), none] [] s (zyE (some (.int r)) s')
  | 0, _, _, _, _ => by
    intro s r s'  h
    have h : (none : Option (Int32 × zy_S)) = some (r, s') := h
    cases h
  | n + 1, x1, x2, x3, x4 => by
    intro s r s'  h
    exact zyC79_5b (k5 := zyF79_5 n) (fun x1 x2 x3 x4 s r s'  h => zyC79_5  n x1 x2 x3 x4 s r s'  h) h
noncomputable def zyF79   (x1 : Int32) (x2 : Int32) (s : zy_S) : Option (Int32 × zy_S) :=
zyF79_5 zy_fu x1 x2 (0 : Int32) (1 : Int32) s
theorem zyC79 {X : zx_X}     {x1 : Int32} {x2 : Int32} {s : zy_S} {r : Int32} {s' : zy_S}  (h : zyF79 x1 x2 s = some (r, s')) : zyR X 4 79 0 [some (.ref (12 + 3)), some (.int x1), some (.int x2), none, none, none] [] s (zyE (some (.int r)) s') := by
  unfold zyF79 at h
  refine zy_3 rfl rfl (show zyR _ _ _ _ [some (.ref (12 + 3)), some (.int x1), some (.int x2), none, none, none] [.int (0 : Int32)] _ _ from ?_)
  refine zy_23 rfl rfl (show zyR _ _ _ _ [some (.ref (12 + 3)), some (.int x1), some (.int x2), some (.int (0 : Int32)), none, none] [] _ _ from ?_)
  refine zy_3 rfl rfl (show zyR _ _ _ _ [some (.ref (12 + 3)), some (.int x1), some (.int x2), some (.int (0 : Int32)), none, none] [.int (1 : Int32)] _ _ from ?_)
  refine zy_23 rfl rfl (show zyR _ _ _ _ [some (.ref (12 + 3)), some (.int x1), some (.int x2), some (.int (0 : Int32)), some (.int (1 : Int32)), none] [] _ _ from ?_)
  exact zy_sub (show zy_le [some (.ref (12 + 3)), some (.int x1), some (.int x2), some (.int (0 : Int32)), some (.int (1 : Int32)), none] [some (.ref (12 + 3)), some (.int x1), some (.int x2), some (.int (0 : Int32)), some (.int (1 : Int32)), none] from ⟨rfl, ⟨rfl, ⟨rfl, ⟨rfl, ⟨rfl, trivial⟩⟩⟩⟩⟩) (zyC79_5 zy_fu x1 x2 (0 : Int32) (1 : Int32) s _ _ h)
/-! NineOpinions$Thought.sumUpLeast()V -/
noncomputable def zyF78_31b  (k23 : Int32 → zy_S → Option (Int32 × zy_S)) (k31 : Int32 → Int32 → zy_S → Option (Int32 × zy_S)) (x1 : Int32) (x2 : Int32) (s : zy_S) : Option (Int32 × zy_S) :=
if (9 : Int32) < x2 then
k23 (x1 + (1 : Int32)) s
else
(zyF79 x1 x2 s).bind fun p1 =>
(zyF80 x1 p1.1 x2 p1.2).bind fun p2 =>
if zy_in (((10 : Int32) * (x1 + (1 : Int32))) + x2) 70 then
k31 x1 (x2 + (1 : Int32)) (zy_up p2.2 14 ((((10 : Int32) * (x1 + (1 : Int32))) + x2)).toNatClampNeg p2.1)
else none
theorem zyC78_31b {X : zx_X}  {k23 : Int32 → zy_S → Option (Int32 × zy_S)} {k31 : Int32 → Int32 → zy_S → Option (Int32 × zy_S)}  (hk23 : ∀ (x1 : Int32) (s : zy_S) (r : Int32) (s' : zy_S), k23 x1 s = some (r, s') → zyR X 5 78 23 [some (.ref (12 + 3)), some (.int x1), none] [] s (zyE none s')) (hk31 : ∀ (x1 : Int32) (x2 : Int32) (s : zy_S) (r : Int32) (s' : zy_S), k31 x1 x2 s = some (r, s') → zyR X 5 78 31 [some (.ref (12 + 3)), some (.int x1), some (.int x2)] [] s (zyE none s')) {x1 : Int32} {x2 : Int32} {s : zy_S} {r : Int32} {s' : zy_S}  (h : zyF78_31b k23 k31 x1 x2 s = some (r, s')) : zyR X 5 78 31 [some (.ref (12 + 3)), some (.int x1), some (.int x2)] [] s (zyE none s') := by
  unfold zyF78_31b at h
  refine zy_2 rfl rfl (show zyR _ _ _ _ [some (.ref (12 + 3)), some (.int x1), some (.int x2)] [.int x2] _ _ from ?_)
  refine zy_3 rfl rfl (show zyR _ _ _ _ [some (.ref (12 + 3)), some (.int x1), some (.int x2)] [.int (9 : Int32), .int x2] _ _ from ?_)
  refine zy_25_4 rfl (fun b4 => (show zyR _ _ _ _ [some (.ref (12 + 3)), some (.int x1), some (.int x2)] [] _ _ from ?_)) (fun b4 => (show zyR _ _ _ _ [some (.ref (12 + 3)), some (.int x1), some (.int x2)] [] _ _ from ?_))
  · replace h := zy_ifp h b4
    refine zy_22 rfl rfl rfl rfl (show zyR _ _ _ _ [some (.ref (12 + 3)), some (.int (x1 + (1 : Int32))), some (.int x2)] [] _ _ from ?_)
    refine zy_6 rfl (show zyR _ _ _ _ [some (.ref (12 + 3)), some (.int (x1 + (1 : Int32))), some (.int x2)] [] _ _ from ?_)
    exact zy_sub (show zy_le [some (.ref (12 + 3)), some (.int (x1 + (1 : Int32))), none] [some (.ref (12 + 3)), some (.int (x1 + (1 : Int32))), some (.int x2)] from ⟨rfl, ⟨rfl, trivial⟩⟩) (hk23 (x1 + (1 : Int32)) s _ _ h)
  · replace h := zy_ifn h b4
    refine zy_0 rfl rfl (show zyR _ _ _ _ [some (.ref (12 + 3)), some (.int x1), some (.int x2)] [.ref (12 + 3)] _ _ from ?_)
    refine zy_1r (c := 12) rfl rfl rfl (show zyR _ _ _ _ [some (.ref (12 + 3)), some (.int x1), some (.int x2)] [.ref (14 + 3)] _ _ from ?_)
    refine zy_3 rfl rfl (show zyR _ _ _ _ [some (.ref (12 + 3)), some (.int x1), some (.int x2)] [.int (10 : Int32), .ref (14 + 3)] _ _ from ?_)
    refine zy_2 rfl rfl (show zyR _ _ _ _ [some (.ref (12 + 3)), some (.int x1), some (.int x2)] [.int x1, .int (10 : Int32), .ref (14 + 3)] _ _ from ?_)
    refine zy_3 rfl rfl (show zyR _ _ _ _ [some (.ref (12 + 3)), some (.int x1), some (.int x2)] [.int (1 : Int32), .int x1, .int (10 : Int32), .ref (14 + 3)] _ _ from ?_)
    refine zy_10 rfl (show zyR _ _ _ _ [some (.ref (12 + 3)), some (.int x1), some (.int x2)] [.int (x1 + (1 : Int32)), .int (10 : Int32), .ref (14 + 3)] _ _ from ?_)
    refine zy_12 rfl (show zyR _ _ _ _ [some (.ref (12 + 3)), some (.int x1), some (.int x2)] [.int ((10 : Int32) * (x1 + (1 : Int32))), .ref (14 + 3)] _ _ from ?_)
    refine zy_2 rfl rfl (show zyR _ _ _ _ [some (.ref (12 + 3)), some (.int x1), some (.int x2)] [.int x2, .int ((10 : Int32) * (x1 + (1 : Int32))), .ref (14 + 3)] _ _ from ?_)
    refine zy_10 rfl (show zyR _ _ _ _ [some (.ref (12 + 3)), some (.int x1), some (.int x2)] [.int (((10 : Int32) * (x1 + (1 : Int32))) + x2), .ref (14 + 3)] _ _ from ?_)
    refine zy_0 rfl rfl (show zyR _ _ _ _ [some (.ref (12 + 3)), some (.int x1), some (.int x2)] [.ref (12 + 3), .int (((10 : Int32) * (x1 + (1 : Int32))) + x2), .ref (14 + 3)] _ _ from ?_)
    refine zy_2 rfl rfl (show zyR _ _ _ _ [some (.ref (12 + 3)), some (.int x1), some (.int x2)] [.int x1, .ref (12 + 3), .int (((10 : Int32) * (x1 + (1 : Int32))) + x2), .ref (14 + 3)] _ _ from ?_)
    refine zy_0 rfl rfl (show zyR _ _ _ _ [some (.ref (12 + 3)), some (.int x1), some (.int x2)] [.ref (12 + 3), .int x1, .ref (12 + 3), .int (((10 : Int32) * (x1 + (1 : Int32))) + x2), .ref (14 + 3)] _ _ from ?_)
    refine zy_2 rfl rfl (show zyR _ _ _ _ [some (.ref (12 + 3)), some (.int x1), some (.int x2)] [.int x1, .ref (12 + 3), .int x1, .ref (12 + 3), .int (((10 : Int32) * (x1 + (1 : Int32))) + x2), .ref (14 + 3)] _ _ from ?_)
    refine zy_2 rfl rfl (show zyR _ _ _ _ [some (.ref (12 + 3)), some (.int x1), some (.int x2)] [.int x2, .int x1, .ref (12 + 3), .int x1, .ref (12 + 3), .int (((10 : Int32) * (x1 + (1 : Int32))) + x2), .ref (14 + 3)] _ _ from ?_)
    obtain ⟨p1, hp1, h⟩ := zy_bind h
    refine zy_5 (c := 12) (as := [.int x1, .int x2]) (rest := [.int x1, .ref (12 + 3), .int (((10 : Int32) * (x1 + (1 : Int32))) + x2), .ref (14 + 3)]) (L := [some (.ref (12 + 3)), some (.int x1), some (.int x2), none, none, none]) (d' := 4) rfl rfl rfl (Nat.le_of_ble_eq_true rfl) (Nat.le_of_ble_eq_true rfl) rfl (Nat.le_of_ble_eq_true rfl) rfl rfl (zyC79 hp1) ?_
    show zyR _ _ _ _ [some (.ref (12 + 3)), some (.int x1), some (.int x2)] [.int p1.1, .int x1, .ref (12 + 3), .int (((10 : Int32) * (x1 + (1 : Int32))) + x2), .ref (14 + 3)] _ _
    refine zy_2 rfl rfl (show zyR _ _ _ _ [some (.ref (12 + 3)), some (.int x1), some (.int x2)] [.int x2, .int p1.1, .int x1, .ref (12 + 3), .int (((10 : Int32) * (x1 + (1 : Int32))) + x2), .ref (14 + 3)] _ _ from ?_)
    obtain ⟨p2, hp2, h⟩ := zy_bind h
    refine zy_5 (c := 12) (as := [.int x1, .int p1.1, .int x2]) (rest := [.int (((10 : Int32) * (x1 + (1 : Int32))) + x2), .ref (14 + 3)]) (L := [some (.ref (12 + 3)), some (.int x1), some (.int p1.1), some (.int x2), none]) (d' := 3) rfl rfl rfl (Nat.le_of_ble_eq_true rfl) (Nat.le_of_ble_eq_true rfl) rfl (Nat.le_of_ble_eq_true rfl) rfl rfl (zyC80 hp2) ?_
    show zyR _ _ _ _ [some (.ref (12 + 3)), some (.int x1), some (.int x2)] [.int p2.1, .int (((10 : Int32) * (x1 + (1 : Int32))) + x2), .ref (14 + 3)] _ _
    obtain ⟨c3, h⟩ := zy_if h
    refine zy_27 (c := 14) rfl rfl c3 (show zyR _ _ _ _ [some (.ref (12 + 3)), some (.int x1), some (.int x2)] [] _ _ from ?_)
    refine zy_22 rfl rfl rfl rfl (show zyR _ _ _ _ [some (.ref (12 + 3)), some (.int x1), some (.int (x2 + (1 : Int32)))] [] _ _ from ?_)
    refine zy_6 rfl (show zyR _ _ _ _ [some (.ref (12 + 3)), some (.int x1), some (.int (x2 + (1 : Int32)))] [] _ _ from ?_)
    exact zy_sub (show zy_le [some (.ref (12 + 3)), some (.int x1), some (.int (x2 + (1 : Int32)))] [some (.ref (12 + 3)), some (.int x1), some (.int (x2 + (1 : Int32)))] from ⟨rfl, ⟨rfl, ⟨rfl, trivial⟩⟩⟩) (hk31 x1 (x2 + (1 : Int32)) (zy_up p2.2 14 ((((10 : Int32) * (x1 + (1 : Int32))) + x2)).toNatClampNeg p2.1) _ _ h)
noncomputable def zyF78_31  (k23 : Int32 → zy_S → Option (Int32 × zy_S)) (n : Nat) : Int32 → Int32 → zy_S → Option (Int32 × zy_S) := Nat.rec (fun _ _ _ => none) (fun _ k31 => zyF78_31b k23 k31) n
theorem zyC78_31 {X : zx_X}  {k23 : Int32 → zy_S → Option (Int32 × zy_S)}  (hk23 : ∀ (x1 : Int32) (s : zy_S) (r : Int32) (s' : zy_S), k23 x1 s = some (r, s') → zyR X 5 78 23 [some (.ref (12 + 3)), some (.int x1), none] [] s (zyE none s')) : ∀ (n : Nat) (x1 : Int32) (x2 : Int32) (s : zy_S) (r : Int32) (s' : zy_S), zyF78_31 k23 n x1 x2 s = some (r, s') → zyR X 5 78 31 [some (.ref (12 + 3)), some (.int x1), some (.int x2)] [] s (zyE none s')
  | 0, _, _ => by
    intro s r s'  h
    have h : (none : Option (Int32 × zy_S)) = some (r, s') := h
    cases h
  | n + 1, x1, x2 => by
    intro s r s'  h
    exact zyC78_31b (k31 := zyF78_31 k23 n) hk23 (fun x1 x2 s r s'  h => zyC78_31 hk23 n x1 x2 s r s'  h) h
noncomputable def zyF78_23b  (k23 : Int32 → zy_S → Option (Int32 × zy_S)) (x1 : Int32) (s : zy_S) : Option (Int32 × zy_S) :=
if (6 : Int32) ≤ x1 then
some ((0 : Int32), s)
else
zyF78_31 k23 zy_fu x1 (0 : Int32) s
theorem zyC78_23b {X : zx_X}  {k23 : Int32 → zy_S → Option (Int32 × zy_S)}  (hk23 : ∀ (x1 : Int32) (s : zy_S) (r : Int32) (s' : zy_S), k23 x1 s = some (r, s') → zyR X 5 78 23 [some (.ref (12 + 3)), some (.int x1), none] [] s (zyE none s')) {x1 : Int32} {s : zy_S} {r : Int32} {s' : zy_S}  (h : zyF78_23b k23 x1 s = some (r, s')) : zyR X 5 78 23 [some (.ref (12 + 3)), some (.int x1), none] [] s (zyE none s') := by
  unfold zyF78_23b at h
  refine zy_2 rfl rfl (show zyR _ _ _ _ [some (.ref (12 + 3)), some (.int x1), none] [.int x1] _ _ from ?_)
  refine zy_3 rfl rfl (show zyR _ _ _ _ [some (.ref (12 + 3)), some (.int x1), none] [.int (6 : Int32), .int x1] _ _ from ?_)
  refine zy_25_3 rfl (fun b5 => (show zyR _ _ _ _ [some (.ref (12 + 3)), some (.int x1), none] [] _ _ from ?_)) (fun b5 => (show zyR _ _ _ _ [some (.ref (12 + 3)), some (.int x1), none] [] _ _ from ?_))
  · replace h := zy_ifp h b5
    cases h
    exact zy_66 rfl ⟨rfl, rfl⟩
  · replace h := zy_ifn h b5
    refine zy_3 rfl rfl (show zyR _ _ _ _ [some (.ref (12 + 3)), some (.int x1), none] [.int (0 : Int32)] _ _ from ?_)
    refine zy_23 rfl rfl (show zyR _ _ _ _ [some (.ref (12 + 3)), some (.int x1), some (.int (0 : Int32))] [] _ _ from ?_)
    exact zy_sub (show zy_le [some (.ref (12 + 3)), some (.int x1), some (.int (0 : Int32))] [some (.ref (12 + 3)), some (.int x1), some (.int (0 : Int32))] from ⟨rfl, ⟨rfl, ⟨rfl, trivial⟩⟩⟩) (zyC78_31 hk23 zy_fu x1 (0 : Int32) s _ _ h)
noncomputable def zyF78_23   (n : Nat) : Int32 → zy_S → Option (Int32 × zy_S) := Nat.rec (fun _ _ => none) (fun _ k23 => zyF78_23b k23) n
theorem zyC78_23 {X : zx_X}     : ∀ (n : Nat) (x1 : Int32) (s : zy_S) (r : Int32) (s' : zy_S), zyF78_23 n x1 s = some (r, s') → zyR X 5 78 23 [some (.ref (12 + 3)), some (.int x1), none] [] s (zyE none s')
  | 0, _ => by
    intro s r s'  h
    have h : (none : Option (Int32 × zy_S)) = some (r, s') := h
    cases h
  | n + 1, x1 => by
    intro s r s'  h
    exact zyC78_23b (k23 := zyF78_23 n) (fun x1 s r s'  h => zyC78_23  n x1 s r s'  h) h
noncomputable def zyF78_2b  (k2 : Int32 → zy_S → Option (Int32 × zy_S)) (x1 : Int32) (s : zy_S) : Option (Int32 × zy_S) :=
if (9 : Int32) < x1 then
zyF78_23 zy_fu (0 : Int32) s
else
if zy_in x1 70 then
k2 (x1 + (1 : Int32)) (zy_up s 14 (x1).toNatClampNeg (0 : Int32))
else none
theorem zyC78_2b {X : zx_X}  {k2 : Int32 → zy_S → Option (Int32 × zy_S)}  (hk2 : ∀ (x1 : Int32) (s : zy_S) (r : Int32) (s' : zy_S), k2 x1 s = some (r, s') → zyR X 5 78 2 [some (.ref (12 + 3)), some (.int x1), none] [] s (zyE none s')) {x1 : Int32} {s : zy_S} {r : Int32} {s' : zy_S}  (h : zyF78_2b k2 x1 s = some (r, s')) : zyR X 5 78 2 [some (.ref (12 + 3)), some (.int x1), none] [] s (zyE none s') := by
  unfold zyF78_2b at h
  refine zy_2 rfl rfl (show zyR _ _ _ _ [some (.ref (12 + 3)), some (.int x1), none] [.int x1] _ _ from ?_)
  refine zy_3 rfl rfl (show zyR _ _ _ _ [some (.ref (12 + 3)), some (.int x1), none] [.int (9 : Int32), .int x1] _ _ from ?_)
  refine zy_25_4 rfl (fun b7 => (show zyR _ _ _ _ [some (.ref (12 + 3)), some (.int x1), none] [] _ _ from ?_)) (fun b7 => (show zyR _ _ _ _ [some (.ref (12 + 3)), some (.int x1), none] [] _ _ from ?_))
  · replace h := zy_ifp h b7
    refine zy_3 rfl rfl (show zyR _ _ _ _ [some (.ref (12 + 3)), some (.int x1), none] [.int (0 : Int32)] _ _ from ?_)
    refine zy_23 rfl rfl (show zyR _ _ _ _ [some (.ref (12 + 3)), some (.int (0 : Int32)), none] [] _ _ from ?_)
    exact zy_sub (show zy_le [some (.ref (12 + 3)), some (.int (0 : Int32)), none] [some (.ref (12 + 3)), some (.int (0 : Int32)), none] from ⟨rfl, ⟨rfl, trivial⟩⟩) (zyC78_23 zy_fu (0 : Int32) s _ _ h)
  · replace h := zy_ifn h b7
    refine zy_0 rfl rfl (show zyR _ _ _ _ [some (.ref (12 + 3)), some (.int x1), none] [.ref (12 + 3)] _ _ from ?_)
    refine zy_1r (c := 12) rfl rfl rfl (show zyR _ _ _ _ [some (.ref (12 + 3)), some (.int x1), none] [.ref (14 + 3)] _ _ from ?_)
    refine zy_2 rfl rfl (show zyR _ _ _ _ [some (.ref (12 + 3)), some (.int x1), none] [.int x1, .ref (14 + 3)] _ _ from ?_)
    refine zy_3 rfl rfl (show zyR _ _ _ _ [some (.ref (12 + 3)), some (.int x1), none] [.int (0 : Int32), .int x1, .ref (14 + 3)] _ _ from ?_)
    obtain ⟨c6, h⟩ := zy_if h
    refine zy_27 (c := 14) rfl rfl c6 (show zyR _ _ _ _ [some (.ref (12 + 3)), some (.int x1), none] [] _ _ from ?_)
    refine zy_22 rfl rfl rfl rfl (show zyR _ _ _ _ [some (.ref (12 + 3)), some (.int (x1 + (1 : Int32))), none] [] _ _ from ?_)
    refine zy_6 rfl (show zyR _ _ _ _ [some (.ref (12 + 3)), some (.int (x1 + (1 : Int32))), none] [] _ _ from ?_)
    exact zy_sub (show zy_le [some (.ref (12 + 3)), some (.int (x1 + (1 : Int32))), none] [some (.ref (12 + 3)), some (.int (x1 + (1 : Int32))), none] from ⟨rfl, ⟨rfl, trivial⟩⟩) (hk2 (x1 + (1 : Int32)) (zy_up s 14 (x1).toNatClampNeg (0 : Int32)) _ _ h)
noncomputable def zyF78_2   (n : Nat) : Int32 → zy_S → Option (Int32 × zy_S) := Nat.rec (fun _ _ => none) (fun _ k2 => zyF78_2b k2) n
theorem zyC78_2 {X : zx_X}     : ∀ (n : Nat) (x1 : Int32) (s : zy_S) (r : Int32) (s' : zy_S), zyF78_2 n x1 s = some (r, s') → zyR X 5 78 2 [some (.ref (12 + 3)), some (.int x1), none] [] s (zyE none s')
  | 0, _ => by
    intro s r s'  h
    have h : (none : Option (Int32 × zy_S)) = some (r, s') := h
    cases h
  | n + 1, x1 => by
    intro s r s'  h
    exact zyC78_2b (k2 := zyF78_2 n) (fun x1 s r s'  h => zyC78_2  n x1 s r s'  h) h
noncomputable def zyF78    (s : zy_S) : Option (Int32 × zy_S) :=
zyF78_2 zy_fu (0 : Int32) s
theorem zyC78 {X : zx_X}      {s : zy_S} {r : Int32} {s' : zy_S}  (h : zyF78 s = some (r, s')) : zyR X 5 78 0 [some (.ref (12 + 3)), none, none] [] s (zyE none s') := by
  unfold zyF78 at h
  refine zy_3 rfl rfl (show zyR _ _ _ _ [some (.ref (12 + 3)), none, none] [.int (0 : Int32)] _ _ from ?_)
  refine zy_23 rfl rfl (show zyR _ _ _ _ [some (.ref (12 + 3)), some (.int (0 : Int32)), none] [] _ _ from ?_)
  exact zy_sub (show zy_le [some (.ref (12 + 3)), some (.int (0 : Int32)), none] [some (.ref (12 + 3)), some (.int (0 : Int32)), none] from ⟨rfl, ⟨rfl, trivial⟩⟩) (zyC78_2 zy_fu (0 : Int32) s _ _ h)
/-! NineOpinions$Thought.weighAllBoards()V -/
noncomputable def zyF77_14b  (k6 : Int32 → zy_S → Option (Int32 × zy_S)) (k14 : Int32 → Int32 → zy_S → Option (Int32 × zy_S)) (x1 : Int32) (x2 : Int32) (s : zy_S) : Option (Int32 × zy_S) :=
if (16 : Int32) ≤ x2 then
k6 (x1 + (1 : Int32)) s
else
(zyF55 x1 (x2 <<< (((4 : Int32) * x1) &&& 31)) (s.1 1 3) s).bind fun p1 =>
k14 x1 (x2 + (1 : Int32)) p1.2
theorem zyC77_14b {X : zx_X}  {k6 : Int32 → zy_S → Option (Int32 × zy_S)} {k14 : Int32 → Int32 → zy_S → Option (Int32 × zy_S)}  (hk6 : ∀ (x1 : Int32) (s : zy_S) (r : Int32) (s' : zy_S), k6 x1 s = some (r, s') → zyR X 6 77 6 [some (.ref (12 + 3)), some (.int x1), none] [] s (zyE none s')) (hk14 : ∀ (x1 : Int32) (x2 : Int32) (s : zy_S) (r : Int32) (s' : zy_S), k14 x1 x2 s = some (r, s') → zyR X 6 77 14 [some (.ref (12 + 3)), some (.int x1), some (.int x2)] [] s (zyE none s')) {x1 : Int32} {x2 : Int32} {s : zy_S} {r : Int32} {s' : zy_S}  (h : zyF77_14b k6 k14 x1 x2 s = some (r, s')) : zyR X 6 77 14 [some (.ref (12 + 3)), some (.int x1), some (.int x2)] [] s (zyE none s') := by
  unfold zyF77_14b at h
  refine zy_2 rfl rfl (show zyR _ _ _ _ [some (.ref (12 + 3)), some (.int x1), some (.int x2)] [.int x2] _ _ from ?_)
  refine zy_3 rfl rfl (show zyR _ _ _ _ [some (.ref (12 + 3)), some (.int x1), some (.int x2)] [.int (16 : Int32), .int x2] _ _ from ?_)
  refine zy_25_3 rfl (fun b2 => (show zyR _ _ _ _ [some (.ref (12 + 3)), some (.int x1), some (.int x2)] [] _ _ from ?_)) (fun b2 => (show zyR _ _ _ _ [some (.ref (12 + 3)), some (.int x1), some (.int x2)] [] _ _ from ?_))
  · replace h := zy_ifp h b2
    refine zy_22 rfl rfl rfl rfl (show zyR _ _ _ _ [some (.ref (12 + 3)), some (.int (x1 + (1 : Int32))), some (.int x2)] [] _ _ from ?_)
    refine zy_6 rfl (show zyR _ _ _ _ [some (.ref (12 + 3)), some (.int (x1 + (1 : Int32))), some (.int x2)] [] _ _ from ?_)
    exact zy_sub (show zy_le [some (.ref (12 + 3)), some (.int (x1 + (1 : Int32))), none] [some (.ref (12 + 3)), some (.int (x1 + (1 : Int32))), some (.int x2)] from ⟨rfl, ⟨rfl, trivial⟩⟩) (hk6 (x1 + (1 : Int32)) s _ _ h)
  · replace h := zy_ifn h b2
    refine zy_0 rfl rfl (show zyR _ _ _ _ [some (.ref (12 + 3)), some (.int x1), some (.int x2)] [.ref (12 + 3)] _ _ from ?_)
    refine zy_2 rfl rfl (show zyR _ _ _ _ [some (.ref (12 + 3)), some (.int x1), some (.int x2)] [.int x1, .ref (12 + 3)] _ _ from ?_)
    refine zy_2 rfl rfl (show zyR _ _ _ _ [some (.ref (12 + 3)), some (.int x1), some (.int x2)] [.int x2, .int x1, .ref (12 + 3)] _ _ from ?_)
    refine zy_3 rfl rfl (show zyR _ _ _ _ [some (.ref (12 + 3)), some (.int x1), some (.int x2)] [.int (4 : Int32), .int x2, .int x1, .ref (12 + 3)] _ _ from ?_)
    refine zy_2 rfl rfl (show zyR _ _ _ _ [some (.ref (12 + 3)), some (.int x1), some (.int x2)] [.int x1, .int (4 : Int32), .int x2, .int x1, .ref (12 + 3)] _ _ from ?_)
    refine zy_12 rfl (show zyR _ _ _ _ [some (.ref (12 + 3)), some (.int x1), some (.int x2)] [.int ((4 : Int32) * x1), .int x2, .int x1, .ref (12 + 3)] _ _ from ?_)
    refine zy_16 rfl (show zyR _ _ _ _ [some (.ref (12 + 3)), some (.int x1), some (.int x2)] [.int (x2 <<< (((4 : Int32) * x1) &&& 31)), .int x1, .ref (12 + 3)] _ _ from ?_)
    refine zy_0 rfl rfl (show zyR _ _ _ _ [some (.ref (12 + 3)), some (.int x1), some (.int x2)] [.ref (12 + 3), .int (x2 <<< (((4 : Int32) * x1) &&& 31)), .int x1, .ref (12 + 3)] _ _ from ?_)
    refine zy_1r (c := 12) rfl rfl rfl (show zyR _ _ _ _ [some (.ref (12 + 3)), some (.int x1), some (.int x2)] [.ref (1 + 3), .int (x2 <<< (((4 : Int32) * x1) &&& 31)), .int x1, .ref (12 + 3)] _ _ from ?_)
    refine zy_1 (c := 1) rfl rfl rfl (show zyR _ _ _ _ [some (.ref (12 + 3)), some (.int x1), some (.int x2)] [.int (s.1 1 3), .int (x2 <<< (((4 : Int32) * x1) &&& 31)), .int x1, .ref (12 + 3)] _ _ from ?_)
    obtain ⟨p1, hp1, h⟩ := zy_bind h
    refine zy_5 (c := 12) (as := [.int x1, .int (x2 <<< (((4 : Int32) * x1) &&& 31)), .int (s.1 1 3)]) (rest := []) (L := [some (.ref (12 + 3)), some (.int x1), some (.int (x2 <<< (((4 : Int32) * x1) &&& 31))), some (.int (s.1 1 3)), none]) (d' := 5) rfl rfl rfl (Nat.le_of_ble_eq_true rfl) (Nat.le_of_ble_eq_true rfl) rfl (Nat.le_of_ble_eq_true rfl) rfl rfl (zyC55 hp1) ?_
    show zyR _ _ _ _ [some (.ref (12 + 3)), some (.int x1), some (.int x2)] [.int p1.1] _ _
    refine zy_34 rfl rfl (show zyR _ _ _ _ [some (.ref (12 + 3)), some (.int x1), some (.int x2)] [] _ _ from ?_)
    refine zy_22 rfl rfl rfl rfl (show zyR _ _ _ _ [some (.ref (12 + 3)), some (.int x1), some (.int (x2 + (1 : Int32)))] [] _ _ from ?_)
    refine zy_6 rfl (show zyR _ _ _ _ [some (.ref (12 + 3)), some (.int x1), some (.int (x2 + (1 : Int32)))] [] _ _ from ?_)
    exact zy_sub (show zy_le [some (.ref (12 + 3)), some (.int x1), some (.int (x2 + (1 : Int32)))] [some (.ref (12 + 3)), some (.int x1), some (.int (x2 + (1 : Int32)))] from ⟨rfl, ⟨rfl, ⟨rfl, trivial⟩⟩⟩) (hk14 x1 (x2 + (1 : Int32)) p1.2 _ _ h)
noncomputable def zyF77_14  (k6 : Int32 → zy_S → Option (Int32 × zy_S)) (n : Nat) : Int32 → Int32 → zy_S → Option (Int32 × zy_S) := Nat.rec (fun _ _ _ => none) (fun _ k14 => zyF77_14b k6 k14) n
theorem zyC77_14 {X : zx_X}  {k6 : Int32 → zy_S → Option (Int32 × zy_S)}  (hk6 : ∀ (x1 : Int32) (s : zy_S) (r : Int32) (s' : zy_S), k6 x1 s = some (r, s') → zyR X 6 77 6 [some (.ref (12 + 3)), some (.int x1), none] [] s (zyE none s')) : ∀ (n : Nat) (x1 : Int32) (x2 : Int32) (s : zy_S) (r : Int32) (s' : zy_S), zyF77_14 k6 n x1 x2 s = some (r, s') → zyR X 6 77 14 [some (.ref (12 + 3)), some (.int x1), some (.int x2)] [] s (zyE none s')
  | 0, _, _ => by
    intro s r s'  h
    have h : (none : Option (Int32 × zy_S)) = some (r, s') := h
    cases h
  | n + 1, x1, x2 => by
    intro s r s'  h
    exact zyC77_14b (k14 := zyF77_14 k6 n) hk6 (fun x1 x2 s r s'  h => zyC77_14 hk6 n x1 x2 s r s'  h) h
noncomputable def zyF77_6b  (k6 : Int32 → zy_S → Option (Int32 × zy_S)) (x1 : Int32) (s : zy_S) : Option (Int32 × zy_S) :=
if (6 : Int32) ≤ x1 then
(zyF78 s).bind fun p3 =>
some ((0 : Int32), p3.2)
else
zyF77_14 k6 zy_fu x1 (0 : Int32) s
theorem zyC77_6b {X : zx_X}  {k6 : Int32 → zy_S → Option (Int32 × zy_S)}  (hk6 : ∀ (x1 : Int32) (s : zy_S) (r : Int32) (s' : zy_S), k6 x1 s = some (r, s') → zyR X 6 77 6 [some (.ref (12 + 3)), some (.int x1), none] [] s (zyE none s')) {x1 : Int32} {s : zy_S} {r : Int32} {s' : zy_S}  (h : zyF77_6b k6 x1 s = some (r, s')) : zyR X 6 77 6 [some (.ref (12 + 3)), some (.int x1), none] [] s (zyE none s') := by
  unfold zyF77_6b at h
  refine zy_2 rfl rfl (show zyR _ _ _ _ [some (.ref (12 + 3)), some (.int x1), none] [.int x1] _ _ from ?_)
  refine zy_3 rfl rfl (show zyR _ _ _ _ [some (.ref (12 + 3)), some (.int x1), none] [.int (6 : Int32), .int x1] _ _ from ?_)
  refine zy_25_3 rfl (fun b4 => (show zyR _ _ _ _ [some (.ref (12 + 3)), some (.int x1), none] [] _ _ from ?_)) (fun b4 => (show zyR _ _ _ _ [some (.ref (12 + 3)), some (.int x1), none] [] _ _ from ?_))
  · replace h := zy_ifp h b4
    refine zy_0 rfl rfl (show zyR _ _ _ _ [some (.ref (12 + 3)), some (.int x1), none] [.ref (12 + 3)] _ _ from ?_)
    obtain ⟨p3, hp3, h⟩ := zy_bind h
    refine zy_5 (c := 12) (as := []) (rest := []) (L := [some (.ref (12 + 3)), none, none]) (d' := 5) rfl rfl rfl (Nat.le_of_ble_eq_true rfl) (Nat.le_of_ble_eq_true rfl) rfl (Nat.le_of_ble_eq_true rfl) rfl rfl (zyC78 hp3) ?_
    show zyR _ _ _ _ [some (.ref (12 + 3)), some (.int x1), none] [] _ _
    cases h
    exact zy_66 rfl ⟨rfl, rfl⟩
  · replace h := zy_ifn h b4
    refine zy_3 rfl rfl (show zyR _ _ _ _ [some (.ref (12 + 3)), some (.int x1), none] [.int (0 : Int32)] _ _ from ?_)
    refine zy_23 rfl rfl (show zyR _ _ _ _ [some (.ref (12 + 3)), some (.int x1), some (.int (0 : Int32))] [] _ _ from ?_)
    exact zy_sub (show zy_le [some (.ref (12 + 3)), some (.int x1), some (.int (0 : Int32))] [some (.ref (12 + 3)), some (.int x1), some (.int (0 : Int32))] from ⟨rfl, ⟨rfl, ⟨rfl, trivial⟩⟩⟩) (zyC77_14 hk6 zy_fu x1 (0 : Int32) s _ _ h)
noncomputable def zyF77_6   (n : Nat) : Int32 → zy_S → Option (Int32 × zy_S) := Nat.rec (fun _ _ => none) (fun _ k6 => zyF77_6b k6) n
theorem zyC77_6 {X : zx_X}     : ∀ (n : Nat) (x1 : Int32) (s : zy_S) (r : Int32) (s' : zy_S), zyF77_6 n x1 s = some (r, s') → zyR X 6 77 6 [some (.ref (12 + 3)), some (.int x1), none] [] s (zyE none s')
  | 0, _ => by
    intro s r s'  h
    have h : (none : Option (Int32 × zy_S)) = some (r, s') := h
    cases h
  | n + 1, x1 => by
    intro s r s'  h
    exact zyC77_6b (k6 := zyF77_6 n) (fun x1 s r s'  h => zyC77_6  n x1 s r s'  h) h
noncomputable def zyF77    (s : zy_S) : Option (Int32 × zy_S) :=
(zyF74 s).bind fun p5 =>
zyF77_6 zy_fu (0 : Int32) p5.2
theorem zyC77 {X : zx_X}      {s : zy_S} {r : Int32} {s' : zy_S}  (h : zyF77 s = some (r, s')) : zyR X 6 77 0 [some (.ref (12 + 3)), none, none] [] s (zyE none s') := by
  unfold zyF77 at h
  refine zy_0 rfl rfl (show zyR _ _ _ _ [some (.ref (12 + 3)), none, none] [.ref (12 + 3)] _ _ from ?_)
  obtain ⟨p5, hp5, h⟩ := zy_bind h
  refine zy_5 (c := 12) (as := []) (rest := []) (L := [some (.ref (12 + 3))]) (d' := 2) rfl rfl rfl (Nat.le_of_ble_eq_true rfl) (Nat.le_of_ble_eq_true rfl) rfl (Nat.le_of_ble_eq_true rfl) rfl rfl (zyC74 hp5) ?_
  show zyR _ _ _ _ [some (.ref (12 + 3)), none, none] [] _ _
  refine zy_3 rfl rfl (show zyR _ _ _ _ [some (.ref (12 + 3)), none, none] [.int (0 : Int32)] _ _ from ?_)
  refine zy_23 rfl rfl (show zyR _ _ _ _ [some (.ref (12 + 3)), some (.int (0 : Int32)), none] [] _ _ from ?_)
  exact zy_sub (show zy_le [some (.ref (12 + 3)), some (.int (0 : Int32)), none] [some (.ref (12 + 3)), some (.int (0 : Int32)), none] from ⟨rfl, ⟨rfl, trivial⟩⟩) (zyC77_6 zy_fu (0 : Int32) p5.2 _ _ h)
/-! NineOpinions$Thought.leastOfBoards()I -/
noncomputable def zyF76    (s : zy_S) : Option (Int32 × zy_S) :=
(zyF77 s).bind fun p1 =>
(zyF81 (6 : Int32) (p1.2.1 1 4) p1.2).bind fun p2 =>
some (p2.1, p2.2)
theorem zyC76 {X : zx_X}      {s : zy_S} {r : Int32} {s' : zy_S}  (h : zyF76 s = some (r, s')) : zyR X 7 76 0 [some (.ref (12 + 3))] [] s (zyE (some (.int r)) s') := by
  unfold zyF76 at h
  refine zy_0 rfl rfl (show zyR _ _ _ _ [some (.ref (12 + 3))] [.ref (12 + 3)] _ _ from ?_)
  obtain ⟨p1, hp1, h⟩ := zy_bind h
  refine zy_5 (c := 12) (as := []) (rest := []) (L := [some (.ref (12 + 3)), none, none]) (d' := 6) rfl rfl rfl (Nat.le_of_ble_eq_true rfl) (Nat.le_of_ble_eq_true rfl) rfl (Nat.le_of_ble_eq_true rfl) rfl rfl (zyC77 hp1) ?_
  show zyR _ _ _ _ [some (.ref (12 + 3))] [] _ _
  refine zy_0 rfl rfl (show zyR _ _ _ _ [some (.ref (12 + 3))] [.ref (12 + 3)] _ _ from ?_)
  refine zy_3 rfl rfl (show zyR _ _ _ _ [some (.ref (12 + 3))] [.int (6 : Int32), .ref (12 + 3)] _ _ from ?_)
  refine zy_0 rfl rfl (show zyR _ _ _ _ [some (.ref (12 + 3))] [.ref (12 + 3), .int (6 : Int32), .ref (12 + 3)] _ _ from ?_)
  refine zy_1r (c := 12) rfl rfl rfl (show zyR _ _ _ _ [some (.ref (12 + 3))] [.ref (1 + 3), .int (6 : Int32), .ref (12 + 3)] _ _ from ?_)
  refine zy_1 (c := 1) rfl rfl rfl (show zyR _ _ _ _ [some (.ref (12 + 3))] [.int (p1.2.1 1 4), .int (6 : Int32), .ref (12 + 3)] _ _ from ?_)
  obtain ⟨p2, hp2, h⟩ := zy_bind h
  refine zy_5 (c := 12) (as := [.int (6 : Int32), .int (p1.2.1 1 4)]) (rest := []) (L := [some (.ref (12 + 3)), some (.int (6 : Int32)), some (.int (p1.2.1 1 4))]) (d' := 1) rfl rfl rfl (Nat.le_of_ble_eq_true rfl) (Nat.le_of_ble_eq_true rfl) rfl (Nat.le_of_ble_eq_true rfl) rfl rfl (zyC81 hp2) ?_
  show zyR _ _ _ _ [some (.ref (12 + 3))] [.int p2.1] _ _
  obtain ⟨rfl, rfl⟩ := zy_pi h
  exact zy_4 rfl ⟨rfl, rfl⟩
/-! NineOpinions$Thought.nearestBoard()I -/
noncomputable def zyF82_16b  (k16 : Int32 → Int32 → Int32 → zy_S → Option (Int32 × zy_S)) (x1 : Int32) (x2 : Int32) (x3 : Int32) (s : zy_S) : Option (Int32 × zy_S) :=
if x3 < 0 then
some (x1, s)
else
(zyF79 x3 x2 s).bind fun p1 =>
(zyF63 p1.1 p1.2).bind fun p2 =>
k16 (x1 ||| (p1.1 <<< (((4 : Int32) * x3) &&& 31))) (x2 - p2.1) (x3 + (-1 : Int32)) p2.2
theorem zyC82_16b {X : zx_X}  {k16 : Int32 → Int32 → Int32 → zy_S → Option (Int32 × zy_S)}  (hk16 : ∀ (x1 : Int32) (x2 : Int32) (x3 : Int32) (s : zy_S) (r : Int32) (s' : zy_S), k16 x1 x2 x3 s = some (r, s') → zyR X 7 82 16 [some (.ref (12 + 3)), some (.int x1), some (.int x2), some (.int x3), none] [] s (zyE (some (.int r)) s')) {x1 : Int32} {x2 : Int32} {x3 : Int32} {s : zy_S} {r : Int32} {s' : zy_S}  (h : zyF82_16b k16 x1 x2 x3 s = some (r, s')) : zyR X 7 82 16 [some (.ref (12 + 3)), some (.int x1), some (.int x2), some (.int x3), none] [] s (zyE (some (.int r)) s') := by
  unfold zyF82_16b at h
  refine zy_2 rfl rfl (show zyR _ _ _ _ [some (.ref (12 + 3)), some (.int x1), some (.int x2), some (.int x3), none] [.int x3] _ _ from ?_)
  refine zy_24_2 rfl (fun b3 => (show zyR _ _ _ _ [some (.ref (12 + 3)), some (.int x1), some (.int x2), some (.int x3), none] [] _ _ from ?_)) (fun b3 => (show zyR _ _ _ _ [some (.ref (12 + 3)), some (.int x1), some (.int x2), some (.int x3), none] [] _ _ from ?_))
  · replace h := zy_ifp h b3
    refine zy_2 rfl rfl (show zyR _ _ _ _ [some (.ref (12 + 3)), some (.int x1), some (.int x2), some (.int x3), none] [.int x1] _ _ from ?_)
    obtain ⟨rfl, rfl⟩ := zy_pi h
    exact zy_4 rfl ⟨rfl, rfl⟩
  · replace h := zy_ifn h b3
    refine zy_0 rfl rfl (show zyR _ _ _ _ [some (.ref (12 + 3)), some (.int x1), some (.int x2), some (.int x3), none] [.ref (12 + 3)] _ _ from ?_)
    refine zy_2 rfl rfl (show zyR _ _ _ _ [some (.ref (12 + 3)), some (.int x1), some (.int x2), some (.int x3), none] [.int x3, .ref (12 + 3)] _ _ from ?_)
    refine zy_2 rfl rfl (show zyR _ _ _ _ [some (.ref (12 + 3)), some (.int x1), some (.int x2), some (.int x3), none] [.int x2, .int x3, .ref (12 + 3)] _ _ from ?_)
    obtain ⟨p1, hp1, h⟩ := zy_bind h
    refine zy_5 (c := 12) (as := [.int x3, .int x2]) (rest := []) (L := [some (.ref (12 + 3)), some (.int x3), some (.int x2), none, none, none]) (d' := 4) rfl rfl rfl (Nat.le_of_ble_eq_true rfl) (Nat.le_of_ble_eq_true rfl) rfl (Nat.le_of_ble_eq_true rfl) rfl rfl (zyC79 hp1) ?_
    show zyR _ _ _ _ [some (.ref (12 + 3)), some (.int x1), some (.int x2), some (.int x3), none] [.int p1.1] _ _
    refine zy_23 rfl rfl (show zyR _ _ _ _ [some (.ref (12 + 3)), some (.int x1), some (.int x2), some (.int x3), some (.int p1.1)] [] _ _ from ?_)
    refine zy_2 rfl rfl (show zyR _ _ _ _ [some (.ref (12 + 3)), some (.int x1), some (.int x2), some (.int x3), some (.int p1.1)] [.int x1] _ _ from ?_)
    refine zy_2 rfl rfl (show zyR _ _ _ _ [some (.ref (12 + 3)), some (.int x1), some (.int x2), some (.int x3), some (.int p1.1)] [.int p1.1, .int x1] _ _ from ?_)
    refine zy_3 rfl rfl (show zyR _ _ _ _ [some (.ref (12 + 3)), some (.int x1), some (.int x2), some (.int x3), some (.int p1.1)] [.int (4 : Int32), .int p1.1, .int x1] _ _ from ?_)
    refine zy_2 rfl rfl (show zyR _ _ _ _ [some (.ref (12 + 3)), some (.int x1), some (.int x2), some (.int x3), some (.int p1.1)] [.int x3, .int (4 : Int32), .int p1.1, .int x1] _ _ from ?_)
    refine zy_12 rfl (show zyR _ _ _ _ [some (.ref (12 + 3)), some (.int x1), some (.int x2), some (.int x3), some (.int p1.1)] [.int ((4 : Int32) * x3), .int p1.1, .int x1] _ _ from ?_)
    refine zy_16 rfl (show zyR _ _ _ _ [some (.ref (12 + 3)), some (.int x1), some (.int x2), some (.int x3), some (.int p1.1)] [.int (p1.1 <<< (((4 : Int32) * x3) &&& 31)), .int x1] _ _ from ?_)
    refine zy_14 rfl (show zyR _ _ _ _ [some (.ref (12 + 3)), some (.int x1), some (.int x2), some (.int x3), some (.int p1.1)] [.int (x1 ||| (p1.1 <<< (((4 : Int32) * x3) &&& 31)))] _ _ from ?_)
    refine zy_23 rfl rfl (show zyR _ _ _ _ [some (.ref (12 + 3)), some (.int (x1 ||| (p1.1 <<< (((4 : Int32) * x3) &&& 31)))), some (.int x2), some (.int x3), some (.int p1.1)] [] _ _ from ?_)
    refine zy_2 rfl rfl (show zyR _ _ _ _ [some (.ref (12 + 3)), some (.int (x1 ||| (p1.1 <<< (((4 : Int32) * x3) &&& 31)))), some (.int x2), some (.int x3), some (.int p1.1)] [.int x2] _ _ from ?_)
    refine zy_2 rfl rfl (show zyR _ _ _ _ [some (.ref (12 + 3)), some (.int (x1 ||| (p1.1 <<< (((4 : Int32) * x3) &&& 31)))), some (.int x2), some (.int x3), some (.int p1.1)] [.int p1.1, .int x2] _ _ from ?_)
    obtain ⟨p2, hp2, h⟩ := zy_bind h
    refine zy_60 (as := [.int p1.1]) (rest := [.int x2]) (L := [some (.int p1.1)]) (d' := 1) rfl rfl (Nat.le_of_ble_eq_true rfl) (Nat.le_of_ble_eq_true rfl) rfl (Nat.le_of_ble_eq_true rfl) rfl rfl (zyC63 hp2) ?_
    show zyR _ _ _ _ [some (.ref (12 + 3)), some (.int (x1 ||| (p1.1 <<< (((4 : Int32) * x3) &&& 31)))), some (.int x2), some (.int x3), some (.int p1.1)] [.int p2.1, .int x2] _ _
    refine zy_11 rfl (show zyR _ _ _ _ [some (.ref (12 + 3)), some (.int (x1 ||| (p1.1 <<< (((4 : Int32) * x3) &&& 31)))), some (.int x2), some (.int x3), some (.int p1.1)] [.int (x2 - p2.1)] _ _ from ?_)
    refine zy_23 rfl rfl (show zyR _ _ _ _ [some (.ref (12 + 3)), some (.int (x1 ||| (p1.1 <<< (((4 : Int32) * x3) &&& 31)))), some (.int (x2 - p2.1)), some (.int x3), some (.int p1.1)] [] _ _ from ?_)
    refine zy_22 rfl rfl rfl rfl (show zyR _ _ _ _ [some (.ref (12 + 3)), some (.int (x1 ||| (p1.1 <<< (((4 : Int32) * x3) &&& 31)))), some (.int (x2 - p2.1)), some (.int (x3 + (-1 : Int32))), some (.int p1.1)] [] _ _ from ?_)
    refine zy_6 rfl (show zyR _ _ _ _ [some (.ref (12 + 3)), some (.int (x1 ||| (p1.1 <<< (((4 : Int32) * x3) &&& 31)))), some (.int (x2 - p2.1)), some (.int (x3 + (-1 : Int32))), some (.int p1.1)] [] _ _ from ?_)
    exact zy_sub (show zy_le [some (.ref (12 + 3)), some (.int (x1 ||| (p1.1 <<< (((4 : Int32) * x3) &&& 31)))), some (.int (x2 - p2.1)), some (.int (x3 + (-1 : Int32))), none] [some (.ref (12 + 3)), some (.int (x1 ||| (p1.1 <<< (((4 : Int32) * x3) &&& 31)))), some (.int (x2 - p2.1)), some (.int (x3 + (-1 : Int32))), some (.int p1.1)] from ⟨rfl, ⟨rfl, ⟨rfl, ⟨rfl, trivial⟩⟩⟩⟩) (hk16 (x1 ||| (p1.1 <<< (((4 : Int32) * x3) &&& 31))) (x2 - p2.1) (x3 + (-1 : Int32)) p2.2 _ _ h)
noncomputable def zyF82_16   (n : Nat) : Int32 → Int32 → Int32 → zy_S → Option (Int32 × zy_S) := Nat.rec (fun _ _ _ _ => none) (fun _ k16 => zyF82_16b k16) n
theorem zyC82_16 {X : zx_X}     : ∀ (n : Nat) (x1 : Int32) (x2 : Int32) (x3 : Int32) (s : zy_S) (r : Int32) (s' : zy_S), zyF82_16 n x1 x2 x3 s = some (r, s') → zyR X 7 82 16 [some (.ref (12 + 3)), some (.int x1), some (.int x2), some (.int x3), none] [] s (zyE (some (.int r)) s')
  | 0, _, _, _ => by
    intro s r s'  h
    have h : (none : Option (Int32 × zy_S)) = some (r, s') := h
    cases h
  | n + 1, x1, x2, x3 => by
    intro s r s'  h
    exact zyC82_16b (k16 := zyF82_16 n) (fun x1 x2 x3 s r s'  h => zyC82_16  n x1 x2 x3 s r s'  h) h
noncomputable def zyF82    (s : zy_S) : Option (Int32 × zy_S) :=
(zyF77 s).bind fun p4 =>
zyF82_16 zy_fu (0 : Int32) (p4.2.1 1 4) (5 : Int32) p4.2
theorem zyC82 {X : zx_X}      {s : zy_S} {r : Int32} {s' : zy_S}  (h : zyF82 s = some (r, s')) : zyR X 7 82 0 [some (.ref (12 + 3)), none, none, none, none] [] s (zyE (some (.int r)) s') := by
  unfold zyF82 at h
  refine zy_0 rfl rfl (show zyR _ _ _ _ [some (.ref (12 + 3)), none, none, none, none] [.ref (12 + 3)] _ _ from ?_)
  obtain ⟨p4, hp4, h⟩ := zy_bind h
  refine zy_5 (c := 12) (as := []) (rest := []) (L := [some (.ref (12 + 3)), none, none]) (d' := 6) rfl rfl rfl (Nat.le_of_ble_eq_true rfl) (Nat.le_of_ble_eq_true rfl) rfl (Nat.le_of_ble_eq_true rfl) rfl rfl (zyC77 hp4) ?_
  show zyR _ _ _ _ [some (.ref (12 + 3)), none, none, none, none] [] _ _
  refine zy_3 rfl rfl (show zyR _ _ _ _ [some (.ref (12 + 3)), none, none, none, none] [.int (0 : Int32)] _ _ from ?_)
  refine zy_23 rfl rfl (show zyR _ _ _ _ [some (.ref (12 + 3)), some (.int (0 : Int32)), none, none, none] [] _ _ from ?_)
  refine zy_0 rfl rfl (show zyR _ _ _ _ [some (.ref (12 + 3)), some (.int (0 : Int32)), none, none, none] [.ref (12 + 3)] _ _ from ?_)
  refine zy_1r (c := 12) rfl rfl rfl (show zyR _ _ _ _ [some (.ref (12 + 3)), some (.int (0 : Int32)), none, none, none] [.ref (1 + 3)] _ _ from ?_)
  refine zy_1 (c := 1) rfl rfl rfl (show zyR _ _ _ _ [some (.ref (12 + 3)), some (.int (0 : Int32)), none, none, none] [.int (p4.2.1 1 4)] _ _ from ?_)
  refine zy_23 rfl rfl (show zyR _ _ _ _ [some (.ref (12 + 3)), some (.int (0 : Int32)), some (.int (p4.2.1 1 4)), none, none] [] _ _ from ?_)
  refine zy_3 rfl rfl (show zyR _ _ _ _ [some (.ref (12 + 3)), some (.int (0 : Int32)), some (.int (p4.2.1 1 4)), none, none] [.int (5 : Int32)] _ _ from ?_)
  refine zy_23 rfl rfl (show zyR _ _ _ _ [some (.ref (12 + 3)), some (.int (0 : Int32)), some (.int (p4.2.1 1 4)), some (.int (5 : Int32)), none] [] _ _ from ?_)
  exact zy_sub (show zy_le [some (.ref (12 + 3)), some (.int (0 : Int32)), some (.int (p4.2.1 1 4)), some (.int (5 : Int32)), none] [some (.ref (12 + 3)), some (.int (0 : Int32)), some (.int (p4.2.1 1 4)), some (.int (5 : Int32)), none] from ⟨rfl, ⟨rfl, ⟨rfl, ⟨rfl, trivial⟩⟩⟩⟩) (zyC82_16 zy_fu (0 : Int32) (p4.2.1 1 4) (5 : Int32) p4.2 _ _ h)
end
section
/-! PART 41.43: methods as functions. Made by wip/v4/dcp.py. -/
/-! NineOpinions.board(I)I -/
noncomputable def zyF75   (x1 : Int32) (s : zy_S) : Option (Int32 × zy_S) :=
if x1 = (0 : Int32) then
some ((s.1 1 3), s)
else
if x1 = (1 : Int32) then
(zyF76 s).bind fun p2 =>
some (p2.1, p2.2)
else
if x1 = (2 : Int32) then
(zyF82 s).bind fun p4 =>
some (p4.1, p4.2)
else
if x1 = (3 : Int32) then
(zyF82 s).bind fun p6 =>
(zyF63 (p6.1 ^^^ (p6.2.1 1 3)) p6.2).bind fun p7 =>
some (p7.1, p7.2)
else
some ((-1 : Int32), s)
theorem zyC75 {X : zx_X}     {x1 : Int32} {s : zy_S} {r : Int32} {s' : zy_S}  (h : zyF75 x1 s = some (r, s')) : zyR X 8 75 0 [some (.ref (0 + 3)), some (.int x1)] [] s (zyE (some (.int r)) s') := by
  unfold zyF75 at h
  refine zy_2 rfl rfl (show zyR _ _ _ _ [some (.ref (0 + 3)), some (.int x1)] [.int x1] _ _ from ?_)
  refine zy_50 rfl (by decide) ?_
  refine zy_swp (fun b1 => (show zyR _ _ _ _ [some (.ref (0 + 3)), some (.int x1)] [] _ _ from ?_)) (fun b1 => ?_)
  · replace h := zy_ifp h b1
    refine zy_0 rfl rfl (show zyR _ _ _ _ [some (.ref (0 + 3)), some (.int x1)] [.ref (0 + 3)] _ _ from ?_)
    refine zy_1r (c := 0) rfl rfl rfl (show zyR _ _ _ _ [some (.ref (0 + 3)), some (.int x1)] [.ref (1 + 3)] _ _ from ?_)
    refine zy_1 (c := 1) rfl rfl rfl (show zyR _ _ _ _ [some (.ref (0 + 3)), some (.int x1)] [.int (s.1 1 3)] _ _ from ?_)
    obtain ⟨rfl, rfl⟩ := zy_pi h
    exact zy_4 rfl ⟨rfl, rfl⟩
  replace h := zy_ifn h b1
  refine zy_swp (fun b3 => (show zyR _ _ _ _ [some (.ref (0 + 3)), some (.int x1)] [] _ _ from ?_)) (fun b3 => ?_)
  · replace h := zy_ifp h b3
    refine zy_0 rfl rfl (show zyR _ _ _ _ [some (.ref (0 + 3)), some (.int x1)] [.ref (0 + 3)] _ _ from ?_)
    refine zy_1r (c := 0) rfl rfl rfl (show zyR _ _ _ _ [some (.ref (0 + 3)), some (.int x1)] [.ref (12 + 3)] _ _ from ?_)
    obtain ⟨p2, hp2, h⟩ := zy_bind h
    refine zy_5 (c := 12) (as := []) (rest := []) (L := [some (.ref (12 + 3))]) (d' := 7) rfl rfl rfl (Nat.le_of_ble_eq_true rfl) (Nat.le_of_ble_eq_true rfl) rfl (Nat.le_of_ble_eq_true rfl) rfl rfl (zyC76 hp2) ?_
    show zyR _ _ _ _ [some (.ref (0 + 3)), some (.int x1)] [.int p2.1] _ _
    obtain ⟨rfl, rfl⟩ := zy_pi h
    exact zy_4 rfl ⟨rfl, rfl⟩
  replace h := zy_ifn h b3
  refine zy_swp (fun b5 => (show zyR _ _ _ _ [some (.ref (0 + 3)), some (.int x1)] [] _ _ from ?_)) (fun b5 => ?_)
  · replace h := zy_ifp h b5
    refine zy_0 rfl rfl (show zyR _ _ _ _ [some (.ref (0 + 3)), some (.int x1)] [.ref (0 + 3)] _ _ from ?_)
    refine zy_1r (c := 0) rfl rfl rfl (show zyR _ _ _ _ [some (.ref (0 + 3)), some (.int x1)] [.ref (12 + 3)] _ _ from ?_)
    obtain ⟨p4, hp4, h⟩ := zy_bind h
    refine zy_5 (c := 12) (as := []) (rest := []) (L := [some (.ref (12 + 3)), none, none, none, none]) (d' := 7) rfl rfl rfl (Nat.le_of_ble_eq_true rfl) (Nat.le_of_ble_eq_true rfl) rfl (Nat.le_of_ble_eq_true rfl) rfl rfl (zyC82 hp4) ?_
    show zyR _ _ _ _ [some (.ref (0 + 3)), some (.int x1)] [.int p4.1] _ _
    obtain ⟨rfl, rfl⟩ := zy_pi h
    exact zy_4 rfl ⟨rfl, rfl⟩
  replace h := zy_ifn h b5
  refine zy_swp (fun b8 => (show zyR _ _ _ _ [some (.ref (0 + 3)), some (.int x1)] [] _ _ from ?_)) (fun b8 => ?_)
  · replace h := zy_ifp h b8
    refine zy_0 rfl rfl (show zyR _ _ _ _ [some (.ref (0 + 3)), some (.int x1)] [.ref (0 + 3)] _ _ from ?_)
    refine zy_1r (c := 0) rfl rfl rfl (show zyR _ _ _ _ [some (.ref (0 + 3)), some (.int x1)] [.ref (12 + 3)] _ _ from ?_)
    obtain ⟨p6, hp6, h⟩ := zy_bind h
    refine zy_5 (c := 12) (as := []) (rest := []) (L := [some (.ref (12 + 3)), none, none, none, none]) (d' := 7) rfl rfl rfl (Nat.le_of_ble_eq_true rfl) (Nat.le_of_ble_eq_true rfl) rfl (Nat.le_of_ble_eq_true rfl) rfl rfl (zyC82 hp6) ?_
    show zyR _ _ _ _ [some (.ref (0 + 3)), some (.int x1)] [.int p6.1] _ _
    refine zy_0 rfl rfl (show zyR _ _ _ _ [some (.ref (0 + 3)), some (.int x1)] [.ref (0 + 3), .int p6.1] _ _ from ?_)
    refine zy_1r (c := 0) rfl rfl rfl (show zyR _ _ _ _ [some (.ref (0 + 3)), some (.int x1)] [.ref (1 + 3), .int p6.1] _ _ from ?_)
    refine zy_1 (c := 1) rfl rfl rfl (show zyR _ _ _ _ [some (.ref (0 + 3)), some (.int x1)] [.int (p6.2.1 1 3), .int p6.1] _ _ from ?_)
    refine zy_15 rfl (show zyR _ _ _ _ [some (.ref (0 + 3)), some (.int x1)] [.int (p6.1 ^^^ (p6.2.1 1 3))] _ _ from ?_)
    obtain ⟨p7, hp7, h⟩ := zy_bind h
    refine zy_60 (as := [.int (p6.1 ^^^ (p6.2.1 1 3))]) (rest := []) (L := [some (.int (p6.1 ^^^ (p6.2.1 1 3)))]) (d' := 1) rfl rfl (Nat.le_of_ble_eq_true rfl) (Nat.le_of_ble_eq_true rfl) rfl (Nat.le_of_ble_eq_true rfl) rfl rfl (zyC63 hp7) ?_
    show zyR _ _ _ _ [some (.ref (0 + 3)), some (.int x1)] [.int p7.1] _ _
    obtain ⟨rfl, rfl⟩ := zy_pi h
    exact zy_4 rfl ⟨rfl, rfl⟩
  replace h := zy_ifn h b8
  show zyR _ _ _ _ [some (.ref (0 + 3)), some (.int x1)] [] _ _
  refine zy_3 rfl rfl (show zyR _ _ _ _ [some (.ref (0 + 3)), some (.int x1)] [.int (-1 : Int32)] _ _ from ?_)
  obtain ⟨rfl, rfl⟩ := zy_pi h
  exact zy_4 rfl ⟨rfl, rfl⟩
/-! NineOpinionsModel.matterMinds(II)I -/
noncomputable def zyF216_5b  (k5 : Int32 → Int32 → Int32 → Int32 → zy_S → Option (Int32 × zy_S)) (x1 : Int32) (x2 : Int32) (x3 : Int32) (x4 : Int32) (s : zy_S) : Option (Int32 × zy_S) :=
if (s.1 43 6) ≤ x4 then
some (x3, s)
else
(zyF204 x4 x1 (x2 <<< (((4 : Int32) * x1) &&& 31)) s).bind fun p1 =>
k5 x1 x2 (x3 + p1.1) (x4 + (1 : Int32)) p1.2
theorem zyC216_5b {X : zx_X}  {k5 : Int32 → Int32 → Int32 → Int32 → zy_S → Option (Int32 × zy_S)}  (hk5 : ∀ (x1 : Int32) (x2 : Int32) (x3 : Int32) (x4 : Int32) (s : zy_S) (r : Int32) (s' : zy_S), k5 x1 x2 x3 x4 s = some (r, s') → zyR X 105 216 5 [some (.ref (43 + 3)), some (.int x1), some (.int x2), some (.int x3), some (.int x4)] [] s (zyE (some (.int r)) s')) {x1 : Int32} {x2 : Int32} {x3 : Int32} {x4 : Int32} {s : zy_S} {r : Int32} {s' : zy_S}  (h : zyF216_5b k5 x1 x2 x3 x4 s = some (r, s')) : zyR X 105 216 5 [some (.ref (43 + 3)), some (.int x1), some (.int x2), some (.int x3), some (.int x4)] [] s (zyE (some (.int r)) s') := by
  unfold zyF216_5b at h
  refine zy_2 rfl rfl (show zyR _ _ _ _ [some (.ref (43 + 3)), some (.int x1), some (.int x2), some (.int x3), some (.int x4)] [.int x4] _ _ from ?_)
  refine zy_0 rfl rfl (show zyR _ _ _ _ [some (.ref (43 + 3)), some (.int x1), some (.int x2), some (.int x3), some (.int x4)] [.ref (43 + 3), .int x4] _ _ from ?_)
  refine zy_1 (c := 43) rfl rfl rfl (show zyR _ _ _ _ [some (.ref (43 + 3)), some (.int x1), some (.int x2), some (.int x3), some (.int x4)] [.int (s.1 43 6), .int x4] _ _ from ?_)
  refine zy_25_3 rfl (fun b2 => (show zyR _ _ _ _ [some (.ref (43 + 3)), some (.int x1), some (.int x2), some (.int x3), some (.int x4)] [] _ _ from ?_)) (fun b2 => (show zyR _ _ _ _ [some (.ref (43 + 3)), some (.int x1), some (.int x2), some (.int x3), some (.int x4)] [] _ _ from ?_))
  · replace h := zy_ifp h b2
    refine zy_2 rfl rfl (show zyR _ _ _ _ [some (.ref (43 + 3)), some (.int x1), some (.int x2), some (.int x3), some (.int x4)] [.int x3] _ _ from ?_)
    obtain ⟨rfl, rfl⟩ := zy_pi h
    exact zy_4 rfl ⟨rfl, rfl⟩
  · replace h := zy_ifn h b2
    refine zy_2 rfl rfl (show zyR _ _ _ _ [some (.ref (43 + 3)), some (.int x1), some (.int x2), some (.int x3), some (.int x4)] [.int x3] _ _ from ?_)
    refine zy_0 rfl rfl (show zyR _ _ _ _ [some (.ref (43 + 3)), some (.int x1), some (.int x2), some (.int x3), some (.int x4)] [.ref (43 + 3), .int x3] _ _ from ?_)
    refine zy_2 rfl rfl (show zyR _ _ _ _ [some (.ref (43 + 3)), some (.int x1), some (.int x2), some (.int x3), some (.int x4)] [.int x4, .ref (43 + 3), .int x3] _ _ from ?_)
    refine zy_2 rfl rfl (show zyR _ _ _ _ [some (.ref (43 + 3)), some (.int x1), some (.int x2), some (.int x3), some (.int x4)] [.int x1, .int x4, .ref (43 + 3), .int x3] _ _ from ?_)
    refine zy_2 rfl rfl (show zyR _ _ _ _ [some (.ref (43 + 3)), some (.int x1), some (.int x2), some (.int x3), some (.int x4)] [.int x2, .int x1, .int x4, .ref (43 + 3), .int x3] _ _ from ?_)
    refine zy_3 rfl rfl (show zyR _ _ _ _ [some (.ref (43 + 3)), some (.int x1), some (.int x2), some (.int x3), some (.int x4)] [.int (4 : Int32), .int x2, .int x1, .int x4, .ref (43 + 3), .int x3] _ _ from ?_)
    refine zy_2 rfl rfl (show zyR _ _ _ _ [some (.ref (43 + 3)), some (.int x1), some (.int x2), some (.int x3), some (.int x4)] [.int x1, .int (4 : Int32), .int x2, .int x1, .int x4, .ref (43 + 3), .int x3] _ _ from ?_)
    refine zy_12 rfl (show zyR _ _ _ _ [some (.ref (43 + 3)), some (.int x1), some (.int x2), some (.int x3), some (.int x4)] [.int ((4 : Int32) * x1), .int x2, .int x1, .int x4, .ref (43 + 3), .int x3] _ _ from ?_)
    refine zy_16 rfl (show zyR _ _ _ _ [some (.ref (43 + 3)), some (.int x1), some (.int x2), some (.int x3), some (.int x4)] [.int (x2 <<< (((4 : Int32) * x1) &&& 31)), .int x1, .int x4, .ref (43 + 3), .int x3] _ _ from ?_)
    obtain ⟨p1, hp1, h⟩ := zy_bind h
    refine zy_5 (c := 43) (as := [.int x4, .int x1, .int (x2 <<< (((4 : Int32) * x1) &&& 31))]) (rest := [.int x3]) (L := [some (.ref (43 + 3)), some (.int x4), some (.int x1), some (.int (x2 <<< (((4 : Int32) * x1) &&& 31))), none, none, none, none, none]) (d' := 104) rfl rfl rfl (Nat.le_of_ble_eq_true rfl) (Nat.le_of_ble_eq_true rfl) rfl (Nat.le_of_ble_eq_true rfl) rfl rfl (zyC204 hp1) ?_
    show zyR _ _ _ _ [some (.ref (43 + 3)), some (.int x1), some (.int x2), some (.int x3), some (.int x4)] [.int p1.1, .int x3] _ _
    refine zy_10 rfl (show zyR _ _ _ _ [some (.ref (43 + 3)), some (.int x1), some (.int x2), some (.int x3), some (.int x4)] [.int (x3 + p1.1)] _ _ from ?_)
    refine zy_23 rfl rfl (show zyR _ _ _ _ [some (.ref (43 + 3)), some (.int x1), some (.int x2), some (.int (x3 + p1.1)), some (.int x4)] [] _ _ from ?_)
    refine zy_22 rfl rfl rfl rfl (show zyR _ _ _ _ [some (.ref (43 + 3)), some (.int x1), some (.int x2), some (.int (x3 + p1.1)), some (.int (x4 + (1 : Int32)))] [] _ _ from ?_)
    refine zy_6 rfl (show zyR _ _ _ _ [some (.ref (43 + 3)), some (.int x1), some (.int x2), some (.int (x3 + p1.1)), some (.int (x4 + (1 : Int32)))] [] _ _ from ?_)
    exact zy_sub (show zy_le [some (.ref (43 + 3)), some (.int x1), some (.int x2), some (.int (x3 + p1.1)), some (.int (x4 + (1 : Int32)))] [some (.ref (43 + 3)), some (.int x1), some (.int x2), some (.int (x3 + p1.1)), some (.int (x4 + (1 : Int32)))] from ⟨rfl, ⟨rfl, ⟨rfl, ⟨rfl, ⟨rfl, trivial⟩⟩⟩⟩⟩) (hk5 x1 x2 (x3 + p1.1) (x4 + (1 : Int32)) p1.2 _ _ h)
noncomputable def zyF216_5   (n : Nat) : Int32 → Int32 → Int32 → Int32 → zy_S → Option (Int32 × zy_S) := Nat.rec (fun _ _ _ _ _ => none) (fun _ k5 => zyF216_5b k5) n
theorem zyC216_5 {X : zx_X}     : ∀ (n : Nat) (x1 : Int32) (x2 : Int32) (x3 : Int32) (x4 : Int32) (s : zy_S) (r : Int32) (s' : zy_S), zyF216_5 n x1 x2 x3 x4 s = some (r, s') → zyR X 105 216 5 [some (.ref (43 + 3)), some (.int x1), some (.int x2), some (.int x3), some (.int x4)] [] s (zyE (some (.int r)) s')
  | 0, _, _, _, _ => by
    intro s r s'  h
    have h : (none : Option (Int32 × zy_S)) = some (r, s') := h
    cases h
  | n + 1, x1, x2, x3, x4 => by
    intro s r s'  h
    exact zyC216_5b (k5 := zyF216_5 n) (fun x1 x2 x3 x4 s r s'  h => zyC216_5  n x1 x2 x3 x4 s r s'  h) h
noncomputable def zyF216   (x1 : Int32) (x2 : Int32) (s : zy_S) : Option (Int32 × zy_S) :=
zyF216_5 zy_fu x1 x2 (0 : Int32) (0 : Int32) s
theorem zyC216 {X : zx_X}     {x1 : Int32} {x2 : Int32} {s : zy_S} {r : Int32} {s' : zy_S}  (h : zyF216 x1 x2 s = some (r, s')) : zyR X 105 216 0 [some (.ref (43 + 3)), some (.int x1), some (.int x2), none, none] [] s (zyE (some (.int r)) s') := by
  unfold zyF216 at h
  refine zy_3 rfl rfl (show zyR _ _ _ _ [some (.ref (43 + 3)), some (.int x1), some (.int x2), none, none] [.int (0 : Int32)] _ _ from ?_)
  refine zy_23 rfl rfl (show zyR _ _ _ _ [some (.ref (43 + 3)), some (.int x1), some (.int x2), some (.int (0 : Int32)), none] [] _ _ from ?_)
  refine zy_3 rfl rfl (show zyR _ _ _ _ [some (.ref (43 + 3)), some (.int x1), some (.int x2), some (.int (0 : Int32)), none] [.int (0 : Int32)] _ _ from ?_)
  refine zy_23 rfl rfl (show zyR _ _ _ _ [some (.ref (43 + 3)), some (.int x1), some (.int x2), some (.int (0 : Int32)), some (.int (0 : Int32))] [] _ _ from ?_)
  exact zy_sub (show zy_le [some (.ref (43 + 3)), some (.int x1), some (.int x2), some (.int (0 : Int32)), some (.int (0 : Int32))] [some (.ref (43 + 3)), some (.int x1), some (.int x2), some (.int (0 : Int32)), some (.int (0 : Int32))] from ⟨rfl, ⟨rfl, ⟨rfl, ⟨rfl, ⟨rfl, trivial⟩⟩⟩⟩⟩) (zyC216_5 zy_fu x1 x2 (0 : Int32) (0 : Int32) s _ _ h)
end
section
/-! PART 41.44: methods as functions. Made by wip/v4/dcp.py. -/
/-! NineOpinionsModel.nearestBoard(Z)I -/
noncomputable def zyF215_320  (k254 : Int32 → Int32 → Int32 → Int32 → zy_S → Option (Int32 × zy_S)) (k262 : Int32 → Int32 → Int32 → Int32 → Int32 → zy_S → Option (Int32 × zy_S)) (x2 : Int32) (x3 : Int32) (x4 : Int32) (x5 : Int32) (x6 : Int32) (s : zy_S) : Option (Int32 × zy_S) :=
k262 x2 x3 x4 x5 (x6 + (1 : Int32)) s
theorem zyC215_320 {X : zx_X}  {k254 : Int32 → Int32 → Int32 → Int32 → zy_S → Option (Int32 × zy_S)} {k262 : Int32 → Int32 → Int32 → Int32 → Int32 → zy_S → Option (Int32 × zy_S)}  (hk254 : ∀ (x2 : Int32) (x3 : Int32) (x4 : Int32) (x5 : Int32) (s : zy_S) (r : Int32) (s' : zy_S), k254 x2 x3 x4 x5 s = some (r, s') → zyR X 106 215 254 [some (.ref (43 + 3)), none, some (.int x2), some (.int x3), some (.int x4), some (.int x5), none, none, none] [] s (zyE (some (.int r)) s')) (hk262 : ∀ (x2 : Int32) (x3 : Int32) (x4 : Int32) (x5 : Int32) (x6 : Int32) (s : zy_S) (r : Int32) (s' : zy_S), k262 x2 x3 x4 x5 x6 s = some (r, s') → zyR X 106 215 262 [some (.ref (43 + 3)), none, some (.int x2), some (.int x3), some (.int x4), some (.int x5), some (.int x6), none, none] [] s (zyE (some (.int r)) s')) {x2 : Int32} {x3 : Int32} {x4 : Int32} {x5 : Int32} {x6 : Int32} {s : zy_S} {r : Int32} {s' : zy_S}  (h : zyF215_320 k254 k262 x2 x3 x4 x5 x6 s = some (r, s')) : zyR X 106 215 320 [some (.ref (43 + 3)), none, some (.int x2), some (.int x3), some (.int x4), some (.int x5), some (.int x6), none, none] [] s (zyE (some (.int r)) s') := by
  unfold zyF215_320 at h
  refine zy_22 rfl rfl rfl rfl (show zyR _ _ _ _ [some (.ref (43 + 3)), none, some (.int x2), some (.int x3), some (.int x4), some (.int x5), some (.int (x6 + (1 : Int32))), none, none] [] _ _ from ?_)
  refine zy_6 rfl (show zyR _ _ _ _ [some (.ref (43 + 3)), none, some (.int x2), some (.int x3), some (.int x4), some (.int x5), some (.int (x6 + (1 : Int32))), none, none] [] _ _ from ?_)
  exact zy_sub (show zy_le [some (.ref (43 + 3)), none, some (.int x2), some (.int x3), some (.int x4), some (.int x5), some (.int (x6 + (1 : Int32))), none, none] [some (.ref (43 + 3)), none, some (.int x2), some (.int x3), some (.int x4), some (.int x5), some (.int (x6 + (1 : Int32))), none, none] from ⟨rfl, ⟨rfl, ⟨rfl, ⟨rfl, ⟨rfl, ⟨rfl, trivial⟩⟩⟩⟩⟩⟩) (hk262 x2 x3 x4 x5 (x6 + (1 : Int32)) s _ _ h)
noncomputable def zyF215_262b  (k254 : Int32 → Int32 → Int32 → Int32 → zy_S → Option (Int32 × zy_S)) (k262 : Int32 → Int32 → Int32 → Int32 → Int32 → zy_S → Option (Int32 × zy_S)) (x2 : Int32) (x3 : Int32) (x4 : Int32) (x5 : Int32) (x6 : Int32) (s : zy_S) : Option (Int32 × zy_S) :=
(zyF209 x6 s).bind fun p1 =>
if x3 < p1.1 then
zyF215_320 k254 k262 x2 x3 x4 x5 x6 p1.2
else
if zy_in (((16 : Int32) * (x5 - (1 : Int32))) + x6) 96 then
(zyF209 x6 p1.2).bind fun p3 =>
if zy_in (((x2 * (x5 - (1 : Int32))) + x3) - p3.1) 70 then
if zy_in ((x2 * x5) + x3) 70 then
if ((p1.2.1 53 ((((16 : Int32) * (x5 - (1 : Int32))) + x6)).toNatClampNeg) + (p3.2.1 52 ((((x2 * (x5 - (1 : Int32))) + x3) - p3.1)).toNatClampNeg)) = (p3.2.1 52 (((x2 * x5) + x3)).toNatClampNeg) then
(zyF209 x6 p3.2).bind fun p6 =>
k254 x2 (x3 - p6.1) (x4 ||| (x6 <<< (((4 : Int32) * (x5 - (1 : Int32))) &&& 31))) (x5 + (-1 : Int32)) p6.2
else
zyF215_320 k254 k262 x2 x3 x4 x5 x6 p3.2
else none
else none
else none
theorem zyC215_262b {X : zx_X}  {k254 : Int32 → Int32 → Int32 → Int32 → zy_S → Option (Int32 × zy_S)} {k262 : Int32 → Int32 → Int32 → Int32 → Int32 → zy_S → Option (Int32 × zy_S)}  (hk254 : ∀ (x2 : Int32) (x3 : Int32) (x4 : Int32) (x5 : Int32) (s : zy_S) (r : Int32) (s' : zy_S), k254 x2 x3 x4 x5 s = some (r, s') → zyR X 106 215 254 [some (.ref (43 + 3)), none, some (.int x2), some (.int x3), some (.int x4), some (.int x5), none, none, none] [] s (zyE (some (.int r)) s')) (hk262 : ∀ (x2 : Int32) (x3 : Int32) (x4 : Int32) (x5 : Int32) (x6 : Int32) (s : zy_S) (r : Int32) (s' : zy_S), k262 x2 x3 x4 x5 x6 s = some (r, s') → zyR X 106 215 262 [some (.ref (43 + 3)), none, some (.int x2), some (.int x3), some (.int x4), some (.int x5), some (.int x6), none, none] [] s (zyE (some (.int r)) s')) {x2 : Int32} {x3 : Int32} {x4 : Int32} {x5 : Int32} {x6 : Int32} {s : zy_S} {r : Int32} {s' : zy_S}  (h : zyF215_262b k254 k262 x2 x3 x4 x5 x6 s = some (r, s')) : zyR X 106 215 262 [some (.ref (43 + 3)), none, some (.int x2), some (.int x3), some (.int x4), some (.int x5), some (.int x6), none, none] [] s (zyE (some (.int r)) s') := by
  unfold zyF215_262b at h
  refine zy_2 rfl rfl (show zyR _ _ _ _ [some (.ref (43 + 3)), none, some (.int x2), some (.int x3), some (.int x4), some (.int x5), some (.int x6), none, none] [.int x6] _ _ from ?_)
  obtain ⟨p1, hp1, h⟩ := zy_bind h
  refine zy_60 (as := [.int x6]) (rest := []) (L := [some (.int x6), none, none]) (d' := 1) rfl rfl (Nat.le_of_ble_eq_true rfl) (Nat.le_of_ble_eq_true rfl) rfl (Nat.le_of_ble_eq_true rfl) rfl rfl (zyC209 hp1) ?_
  show zyR _ _ _ _ [some (.ref (43 + 3)), none, some (.int x2), some (.int x3), some (.int x4), some (.int x5), some (.int x6), none, none] [.int p1.1] _ _
  refine zy_2 rfl rfl (show zyR _ _ _ _ [some (.ref (43 + 3)), none, some (.int x2), some (.int x3), some (.int x4), some (.int x5), some (.int x6), none, none] [.int x3, .int p1.1] _ _ from ?_)
  refine zy_25_4 rfl (fun b8 => (show zyR _ _ _ _ [some (.ref (43 + 3)), none, some (.int x2), some (.int x3), some (.int x4), some (.int x5), some (.int x6), none, none] [] _ _ from ?_)) (fun b8 => (show zyR _ _ _ _ [some (.ref (43 + 3)), none, some (.int x2), some (.int x3), some (.int x4), some (.int x5), some (.int x6), none, none] [] _ _ from ?_))
  · replace h := zy_ifp h b8
    exact zy_sub (show zy_le [some (.ref (43 + 3)), none, some (.int x2), some (.int x3), some (.int x4), some (.int x5), some (.int x6), none, none] [some (.ref (43 + 3)), none, some (.int x2), some (.int x3), some (.int x4), some (.int x5), some (.int x6), none, none] from ⟨rfl, ⟨rfl, ⟨rfl, ⟨rfl, ⟨rfl, ⟨rfl, trivial⟩⟩⟩⟩⟩⟩) (zyC215_320 hk254 hk262 h)
  · replace h := zy_ifn h b8
    refine zy_0 rfl rfl (show zyR _ _ _ _ [some (.ref (43 + 3)), none, some (.int x2), some (.int x3), some (.int x4), some (.int x5), some (.int x6), none, none] [.ref (43 + 3)] _ _ from ?_)
    refine zy_1r (c := 43) rfl rfl rfl (show zyR _ _ _ _ [some (.ref (43 + 3)), none, some (.int x2), some (.int x3), some (.int x4), some (.int x5), some (.int x6), none, none] [.ref (53 + 3)] _ _ from ?_)
    refine zy_3 rfl rfl (show zyR _ _ _ _ [some (.ref (43 + 3)), none, some (.int x2), some (.int x3), some (.int x4), some (.int x5), some (.int x6), none, none] [.int (16 : Int32), .ref (53 + 3)] _ _ from ?_)
    refine zy_2 rfl rfl (show zyR _ _ _ _ [some (.ref (43 + 3)), none, some (.int x2), some (.int x3), some (.int x4), some (.int x5), some (.int x6), none, none] [.int x5, .int (16 : Int32), .ref (53 + 3)] _ _ from ?_)
    refine zy_3 rfl rfl (show zyR _ _ _ _ [some (.ref (43 + 3)), none, some (.int x2), some (.int x3), some (.int x4), some (.int x5), some (.int x6), none, none] [.int (1 : Int32), .int x5, .int (16 : Int32), .ref (53 + 3)] _ _ from ?_)
    refine zy_11 rfl (show zyR _ _ _ _ [some (.ref (43 + 3)), none, some (.int x2), some (.int x3), some (.int x4), some (.int x5), some (.int x6), none, none] [.int (x5 - (1 : Int32)), .int (16 : Int32), .ref (53 + 3)] _ _ from ?_)
    refine zy_12 rfl (show zyR _ _ _ _ [some (.ref (43 + 3)), none, some (.int x2), some (.int x3), some (.int x4), some (.int x5), some (.int x6), none, none] [.int ((16 : Int32) * (x5 - (1 : Int32))), .ref (53 + 3)] _ _ from ?_)
    refine zy_2 rfl rfl (show zyR _ _ _ _ [some (.ref (43 + 3)), none, some (.int x2), some (.int x3), some (.int x4), some (.int x5), some (.int x6), none, none] [.int x6, .int ((16 : Int32) * (x5 - (1 : Int32))), .ref (53 + 3)] _ _ from ?_)
    refine zy_10 rfl (show zyR _ _ _ _ [some (.ref (43 + 3)), none, some (.int x2), some (.int x3), some (.int x4), some (.int x5), some (.int x6), none, none] [.int (((16 : Int32) * (x5 - (1 : Int32))) + x6), .ref (53 + 3)] _ _ from ?_)
    obtain ⟨c2, h⟩ := zy_if h
    refine zy_26 (c := 53) rfl rfl c2 (show zyR _ _ _ _ [some (.ref (43 + 3)), none, some (.int x2), some (.int x3), some (.int x4), some (.int x5), some (.int x6), none, none] [.int (p1.2.1 53 ((((16 : Int32) * (x5 - (1 : Int32))) + x6)).toNatClampNeg)] _ _ from ?_)
    refine zy_0 rfl rfl (show zyR _ _ _ _ [some (.ref (43 + 3)), none, some (.int x2), some (.int x3), some (.int x4), some (.int x5), some (.int x6), none, none] [.ref (43 + 3), .int (p1.2.1 53 ((((16 : Int32) * (x5 - (1 : Int32))) + x6)).toNatClampNeg)] _ _ from ?_)
    refine zy_1r (c := 43) rfl rfl rfl (show zyR _ _ _ _ [some (.ref (43 + 3)), none, some (.int x2), some (.int x3), some (.int x4), some (.int x5), some (.int x6), none, none] [.ref (52 + 3), .int (p1.2.1 53 ((((16 : Int32) * (x5 - (1 : Int32))) + x6)).toNatClampNeg)] _ _ from ?_)
    refine zy_2 rfl rfl (show zyR _ _ _ _ [some (.ref (43 + 3)), none, some (.int x2), some (.int x3), some (.int x4), some (.int x5), some (.int x6), none, none] [.int x2, .ref (52 + 3), .int (p1.2.1 53 ((((16 : Int32) * (x5 - (1 : Int32))) + x6)).toNatClampNeg)] _ _ from ?_)
    refine zy_2 rfl rfl (show zyR _ _ _ _ [some (.ref (43 + 3)), none, some (.int x2), some (.int x3), some (.int x4), some (.int x5), some (.int x6), none, none] [.int x5, .int x2, .ref (52 + 3), .int (p1.2.1 53 ((((16 : Int32) * (x5 - (1 : Int32))) + x6)).toNatClampNeg)] _ _ from ?_)
    refine zy_3 rfl rfl (show zyR _ _ _ _ [some (.ref (43 + 3)), none, some (.int x2), some (.int x3), some (.int x4), some (.int x5), some (.int x6), none, none] [.int (1 : Int32), .int x5, .int x2, .ref (52 + 3), .int (p1.2.1 53 ((((16 : Int32) * (x5 - (1 : Int32))) + x6)).toNatClampNeg)] _ _ from ?_)
    refine zy_11 rfl (show zyR _ _ _ _ [some (.ref (43 + 3)), none, some (.int x2), some (.int x3), some (.int x4), some (.int x5), some (.int x6), none, none] [.int (x5 - (1 : Int32)), .int x2, .ref (52 + 3), .int (p1.2.1 53 ((((16 : Int32) * (x5 - (1 : Int32))) + x6)).toNatClampNeg)] _ _ from ?_)
    refine zy_12 rfl (show zyR _ _ _ _ [some (.ref (43 + 3)), none, some (.int x2), some (.int x3), some (.int x4), some (.int x5), some (.int x6), none, none] [.int (x2 * (x5 - (1 : Int32))), .ref (52 + 3), .int (p1.2.1 53 ((((16 : Int32) * (x5 - (1 : Int32))) + x6)).toNatClampNeg)] _ _ from ?_)
    refine zy_2 rfl rfl (show zyR _ _ _ _ [some (.ref (43 + 3)), none, some (.int x2), some (.int x3), some (.int x4), some (.int x5), some (.int x6), none, none] [.int x3, .int (x2 * (x5 - (1 : Int32))), .ref (52 + 3), .int (p1.2.1 53 ((((16 : Int32) * (x5 - (1 : Int32))) + x6)).toNatClampNeg)] _ _ from ?_)
    refine zy_10 rfl (show zyR _ _ _ _ [some (.ref (43 + 3)), none, some (.int x2), some (.int x3), some (.int x4), some (.int x5), some (.int x6), none, none] [.int ((x2 * (x5 - (1 : Int32))) + x3), .ref (52 + 3), .int (p1.2.1 53 ((((16 : Int32) * (x5 - (1 : Int32))) + x6)).toNatClampNeg)] _ _ from ?_)
    refine zy_2 rfl rfl (show zyR _ _ _ _ [some (.ref (43 + 3)), none, some (.int x2), some (.int x3), some (.int x4), some (.int x5), some (.int x6), none, none] [.int x6, .int ((x2 * (x5 - (1 : Int32))) + x3), .ref (52 + 3), .int (p1.2.1 53 ((((16 : Int32) * (x5 - (1 : Int32))) + x6)).toNatClampNeg)] _ _ from ?_)
    obtain ⟨p3, hp3, h⟩ := zy_bind h
    refine zy_60 (as := [.int x6]) (rest := [.int ((x2 * (x5 - (1 : Int32))) + x3), .ref (52 + 3), .int (p1.2.1 53 ((((16 : Int32) * (x5 - (1 : Int32))) + x6)).toNatClampNeg)]) (L := [some (.int x6), none, none]) (d' := 1) rfl rfl (Nat.le_of_ble_eq_true rfl) (Nat.le_of_ble_eq_true rfl) rfl (Nat.le_of_ble_eq_true rfl) rfl rfl (zyC209 hp3) ?_
    show zyR _ _ _ _ [some (.ref (43 + 3)), none, some (.int x2), some (.int x3), some (.int x4), some (.int x5), some (.int x6), none, none] [.int p3.1, .int ((x2 * (x5 - (1 : Int32))) + x3), .ref (52 + 3), .int (p1.2.1 53 ((((16 : Int32) * (x5 - (1 : Int32))) + x6)).toNatClampNeg)] _ _
    refine zy_11 rfl (show zyR _ _ _ _ [some (.ref (43 + 3)), none, some (.int x2), some (.int x3), some (.int x4), some (.int x5), some (.int x6), none, none] [.int (((x2 * (x5 - (1 : Int32))) + x3) - p3.1), .ref (52 + 3), .int (p1.2.1 53 ((((16 : Int32) * (x5 - (1 : Int32))) + x6)).toNatClampNeg)] _ _ from ?_)
    obtain ⟨c4, h⟩ := zy_if h
    refine zy_26 (c := 52) rfl rfl c4 (show zyR _ _ _ _ [some (.ref (43 + 3)), none, some (.int x2), some (.int x3), some (.int x4), some (.int x5), some (.int x6), none, none] [.int (p3.2.1 52 ((((x2 * (x5 - (1 : Int32))) + x3) - p3.1)).toNatClampNeg), .int (p1.2.1 53 ((((16 : Int32) * (x5 - (1 : Int32))) + x6)).toNatClampNeg)] _ _ from ?_)
    refine zy_10 rfl (show zyR _ _ _ _ [some (.ref (43 + 3)), none, some (.int x2), some (.int x3), some (.int x4), some (.int x5), some (.int x6), none, none] [.int ((p1.2.1 53 ((((16 : Int32) * (x5 - (1 : Int32))) + x6)).toNatClampNeg) + (p3.2.1 52 ((((x2 * (x5 - (1 : Int32))) + x3) - p3.1)).toNatClampNeg))] _ _ from ?_)
    refine zy_0 rfl rfl (show zyR _ _ _ _ [some (.ref (43 + 3)), none, some (.int x2), some (.int x3), some (.int x4), some (.int x5), some (.int x6), none, none] [.ref (43 + 3), .int ((p1.2.1 53 ((((16 : Int32) * (x5 - (1 : Int32))) + x6)).toNatClampNeg) + (p3.2.1 52 ((((x2 * (x5 - (1 : Int32))) + x3) - p3.1)).toNatClampNeg))] _ _ from ?_)
    refine zy_1r (c := 43) rfl rfl rfl (show zyR _ _ _ _ [some (.ref (43 + 3)), none, some (.int x2), some (.int x3), some (.int x4), some (.int x5), some (.int x6), none, none] [.ref (52 + 3), .int ((p1.2.1 53 ((((16 : Int32) * (x5 - (1 : Int32))) + x6)).toNatClampNeg) + (p3.2.1 52 ((((x2 * (x5 - (1 : Int32))) + x3) - p3.1)).toNatClampNeg))] _ _ from ?_)
    refine zy_2 rfl rfl (show zyR _ _ _ _ [some (.ref (43 + 3)), none, some (.int x2), some (.int x3), some (.int x4), some (.int x5), some (.int x6), none, none] [.int x2, .ref (52 + 3), .int ((p1.2.1 53 ((((16 : Int32) * (x5 - (1 : Int32))) + x6)).toNatClampNeg) + (p3.2.1 52 ((((x2 * (x5 - (1 : Int32))) + x3) - p3.1)).toNatClampNeg))] _ _ from ?_)
    refine zy_2 rfl rfl (show zyR _ _ _ _ [some (.ref (43 + 3)), none, some (.int x2), some (.int x3), some (.int x4), some (.int x5), some (.int x6), none, none] [.int x5, .int x2, .ref (52 + 3), .int ((p1.2.1 53 ((((16 : Int32) * (x5 - (1 : Int32))) + x6)).toNatClampNeg) + (p3.2.1 52 ((((x2 * (x5 - (1 : Int32))) + x3) - p3.1)).toNatClampNeg))] _ _ from ?_)
    refine zy_12 rfl (show zyR _ _ _ _ [some (.ref (43 + 3)), none, some (.int x2), some (.int x3), some (.int x4), some (.int x5), some (.int x6), none, none] [.int (x2 * x5), .ref (52 + 3), .int ((p1.2.1 53 ((((16 : Int32) * (x5 - (1 : Int32))) + x6)).toNatClampNeg) + (p3.2.1 52 ((((x2 * (x5 - (1 : Int32))) + x3) - p3.1)).toNatClampNeg))] _ _ from ?_)
    refine zy_2 rfl rfl (show zyR _ _ _ _ [some (.ref (43 + 3)), none, some (.int x2), some (.int x3), some (.int x4), some (.int x5), some (.int x6), none, none] [.int x3, .int (x2 * x5), .ref (52 + 3), .int ((p1.2.1 53 ((((16 : Int32) * (x5 - (1 : Int32))) + x6)).toNatClampNeg) + (p3.2.1 52 ((((x2 * (x5 - (1 : Int32))) + x3) - p3.1)).toNatClampNeg))] _ _ from ?_)
    refine zy_10 rfl (show zyR _ _ _ _ [some (.ref (43 + 3)), none, some (.int x2), some (.int x3), some (.int x4), some (.int x5), some (.int x6), none, none] [.int ((x2 * x5) + x3), .ref (52 + 3), .int ((p1.2.1 53 ((((16 : Int32) * (x5 - (1 : Int32))) + x6)).toNatClampNeg) + (p3.2.1 52 ((((x2 * (x5 - (1 : Int32))) + x3) - p3.1)).toNatClampNeg))] _ _ from ?_)
    obtain ⟨c5, h⟩ := zy_if h
    refine zy_26 (c := 52) rfl rfl c5 (show zyR _ _ _ _ [some (.ref (43 + 3)), none, some (.int x2), some (.int x3), some (.int x4), some (.int x5), some (.int x6), none, none] [.int (p3.2.1 52 (((x2 * x5) + x3)).toNatClampNeg), .int ((p1.2.1 53 ((((16 : Int32) * (x5 - (1 : Int32))) + x6)).toNatClampNeg) + (p3.2.1 52 ((((x2 * (x5 - (1 : Int32))) + x3) - p3.1)).toNatClampNeg))] _ _ from ?_)
    refine zy_25_0 rfl (fun b7 => (show zyR _ _ _ _ [some (.ref (43 + 3)), none, some (.int x2), some (.int x3), some (.int x4), some (.int x5), some (.int x6), none, none] [] _ _ from ?_)) (fun b7 => (show zyR _ _ _ _ [some (.ref (43 + 3)), none, some (.int x2), some (.int x3), some (.int x4), some (.int x5), some (.int x6), none, none] [] _ _ from ?_))
    · replace h := zy_ifp h b7
      refine zy_2 rfl rfl (show zyR _ _ _ _ [some (.ref (43 + 3)), none, some (.int x2), some (.int x3), some (.int x4), some (.int x5), some (.int x6), none, none] [.int x4] _ _ from ?_)
      refine zy_2 rfl rfl (show zyR _ _ _ _ [some (.ref (43 + 3)), none, some (.int x2), some (.int x3), some (.int x4), some (.int x5), some (.int x6), none, none] [.int x6, .int x4] _ _ from ?_)
      refine zy_3 rfl rfl (show zyR _ _ _ _ [some (.ref (43 + 3)), none, some (.int x2), some (.int x3), some (.int x4), some (.int x5), some (.int x6), none, none] [.int (4 : Int32), .int x6, .int x4] _ _ from ?_)
      refine zy_2 rfl rfl (show zyR _ _ _ _ [some (.ref (43 + 3)), none, some (.int x2), some (.int x3), some (.int x4), some (.int x5), some (.int x6), none, none] [.int x5, .int (4 : Int32), .int x6, .int x4] _ _ from ?_)
      refine zy_3 rfl rfl (show zyR _ _ _ _ [some (.ref (43 + 3)), none, some (.int x2), some (.int x3), some (.int x4), some (.int x5), some (.int x6), none, none] [.int (1 : Int32), .int x5, .int (4 : Int32), .int x6, .int x4] _ _ from ?_)
      refine zy_11 rfl (show zyR _ _ _ _ [some (.ref (43 + 3)), none, some (.int x2), some (.int x3), some (.int x4), some (.int x5), some (.int x6), none, none] [.int (x5 - (1 : Int32)), .int (4 : Int32), .int x6, .int x4] _ _ from ?_)
      refine zy_12 rfl (show zyR _ _ _ _ [some (.ref (43 + 3)), none, some (.int x2), some (.int x3), some (.int x4), some (.int x5), some (.int x6), none, none] [.int ((4 : Int32) * (x5 - (1 : Int32))), .int x6, .int x4] _ _ from ?_)
      refine zy_16 rfl (show zyR _ _ _ _ [some (.ref (43 + 3)), none, some (.int x2), some (.int x3), some (.int x4), some (.int x5), some (.int x6), none, none] [.int (x6 <<< (((4 : Int32) * (x5 - (1 : Int32))) &&& 31)), .int x4] _ _ from ?_)
      refine zy_14 rfl (show zyR _ _ _ _ [some (.ref (43 + 3)), none, some (.int x2), some (.int x3), some (.int x4), some (.int x5), some (.int x6), none, none] [.int (x4 ||| (x6 <<< (((4 : Int32) * (x5 - (1 : Int32))) &&& 31)))] _ _ from ?_)
      refine zy_23 rfl rfl (show zyR _ _ _ _ [some (.ref (43 + 3)), none, some (.int x2), some (.int x3), some (.int (x4 ||| (x6 <<< (((4 : Int32) * (x5 - (1 : Int32))) &&& 31)))), some (.int x5), some (.int x6), none, none] [] _ _ from ?_)
      refine zy_2 rfl rfl (show zyR _ _ _ _ [some (.ref (43 + 3)), none, some (.int x2), some (.int x3), some (.int (x4 ||| (x6 <<< (((4 : Int32) * (x5 - (1 : Int32))) &&& 31)))), some (.int x5), some (.int x6), none, none] [.int x3] _ _ from ?_)
      refine zy_2 rfl rfl (show zyR _ _ _ _ [some (.ref (43 + 3)), none, some (.int x2), some (.int x3), some (.int (x4 ||| (x6 <<< (((4 : Int32) * (x5 - (1 : Int32))) &&& 31)))), some (.int x5), some (.int x6), none, none] [.int x6, .int x3] _ _ from ?_)
      obtain ⟨p6, hp6, h⟩ := zy_bind h
      refine zy_60 (as := [.int x6]) (rest := [.int x3]) (L := [some (.int x6), none, none]) (d' := 1) rfl rfl (Nat.le_of_ble_eq_true rfl) (Nat.le_of_ble_eq_true rfl) rfl (Nat.le_of_ble_eq_true rfl) rfl rfl (zyC209 hp6) ?_
      show zyR _ _ _ _ [some (.ref (43 + 3)), none, some (.int x2), some (.int x3), some (.int (x4 ||| (x6 <<< (((4 : Int32) * (x5 - (1 : Int32))) &&& 31)))), some (.int x5), some (.int x6), none, none] [.int p6.1, .int x3] _ _
      refine zy_11 rfl (show zyR _ _ _ _ [some (.ref (43 + 3)), none, some (.int x2), some (.int x3), some (.int (x4 ||| (x6 <<< (((4 : Int32) * (x5 - (1 : Int32))) &&& 31)))), some (.int x5), some (.int x6), none, none] [.int (x3 - p6.1)] _ _ from ?_)
      refine zy_23 rfl rfl (show zyR _ _ _ _ [some (.ref (43 + 3)), none, some (.int x2), some (.int (x3 - p6.1)), some (.int (x4 ||| (x6 <<< (((4 : Int32) * (x5 - (1 : Int32))) &&& 31)))), some (.int x5), some (.int x6), none, none] [] _ _ from ?_)
      refine zy_22 rfl rfl rfl rfl (show zyR _ _ _ _ [some (.ref (43 + 3)), none, some (.int x2), some (.int (x3 - p6.1)), some (.int (x4 ||| (x6 <<< (((4 : Int32) * (x5 - (1 : Int32))) &&& 31)))), some (.int (x5 + (-1 : Int32))), some (.int x6), none, none] [] _ _ from ?_)
      refine zy_6 rfl (show zyR _ _ _ _ [some (.ref (43 + 3)), none, some (.int x2), some (.int (x3 - p6.1)), some (.int (x4 ||| (x6 <<< (((4 : Int32) * (x5 - (1 : Int32))) &&& 31)))), some (.int (x5 + (-1 : Int32))), some (.int x6), none, none] [] _ _ from ?_)
      exact zy_sub (show zy_le [some (.ref (43 + 3)), none, some (.int x2), some (.int (x3 - p6.1)), some (.int (x4 ||| (x6 <<< (((4 : Int32) * (x5 - (1 : Int32))) &&& 31)))), some (.int (x5 + (-1 : Int32))), none, none, none] [some (.ref (43 + 3)), none, some (.int x2), some (.int (x3 - p6.1)), some (.int (x4 ||| (x6 <<< (((4 : Int32) * (x5 - (1 : Int32))) &&& 31)))), some (.int (x5 + (-1 : Int32))), some (.int x6), none, none] from ⟨rfl, ⟨rfl, ⟨rfl, ⟨rfl, ⟨rfl, trivial⟩⟩⟩⟩⟩) (hk254 x2 (x3 - p6.1) (x4 ||| (x6 <<< (((4 : Int32) * (x5 - (1 : Int32))) &&& 31))) (x5 + (-1 : Int32)) p6.2 _ _ h)
    · replace h := zy_ifn h b7
      exact zy_sub (show zy_le [some (.ref (43 + 3)), none, some (.int x2), some (.int x3), some (.int x4), some (.int x5), some (.int x6), none, none] [some (.ref (43 + 3)), none, some (.int x2), some (.int x3), some (.int x4), some (.int x5), some (.int x6), none, none] from ⟨rfl, ⟨rfl, ⟨rfl, ⟨rfl, ⟨rfl, ⟨rfl, trivial⟩⟩⟩⟩⟩⟩) (zyC215_320 hk254 hk262 h)
noncomputable def zyF215_262  (k254 : Int32 → Int32 → Int32 → Int32 → zy_S → Option (Int32 × zy_S)) (n : Nat) : Int32 → Int32 → Int32 → Int32 → Int32 → zy_S → Option (Int32 × zy_S) := Nat.rec (fun _ _ _ _ _ _ => none) (fun _ k262 => zyF215_262b k254 k262) n
theorem zyC215_262 {X : zx_X}  {k254 : Int32 → Int32 → Int32 → Int32 → zy_S → Option (Int32 × zy_S)}  (hk254 : ∀ (x2 : Int32) (x3 : Int32) (x4 : Int32) (x5 : Int32) (s : zy_S) (r : Int32) (s' : zy_S), k254 x2 x3 x4 x5 s = some (r, s') → zyR X 106 215 254 [some (.ref (43 + 3)), none, some (.int x2), some (.int x3), some (.int x4), some (.int x5), none, none, none] [] s (zyE (some (.int r)) s')) : ∀ (n : Nat) (x2 : Int32) (x3 : Int32) (x4 : Int32) (x5 : Int32) (x6 : Int32) (s : zy_S) (r : Int32) (s' : zy_S), zyF215_262 k254 n x2 x3 x4 x5 x6 s = some (r, s') → zyR X 106 215 262 [some (.ref (43 + 3)), none, some (.int x2), some (.int x3), some (.int x4), some (.int x5), some (.int x6), none, none] [] s (zyE (some (.int r)) s')
  | 0, _, _, _, _, _ => by
    intro s r s'  h
    have h : (none : Option (Int32 × zy_S)) = some (r, s') := h
    cases h
  | n + 1, x2, x3, x4, x5, x6 => by
    intro s r s'  h
    exact zyC215_262b (k262 := zyF215_262 k254 n) hk254 (fun x2 x3 x4 x5 x6 s r s'  h => zyC215_262 hk254 n x2 x3 x4 x5 x6 s r s'  h) h
noncomputable def zyF215_254b  (k254 : Int32 → Int32 → Int32 → Int32 → zy_S → Option (Int32 × zy_S)) (x2 : Int32) (x3 : Int32) (x4 : Int32) (x5 : Int32) (s : zy_S) : Option (Int32 × zy_S) :=
if x5 ≤ 0 then
some (x4, s)
else
zyF215_262 k254 zy_fu x2 x3 x4 x5 (0 : Int32) s
theorem zyC215_254b {X : zx_X}  {k254 : Int32 → Int32 → Int32 → Int32 → zy_S → Option (Int32 × zy_S)}  (hk254 : ∀ (x2 : Int32) (x3 : Int32) (x4 : Int32) (x5 : Int32) (s : zy_S) (r : Int32) (s' : zy_S), k254 x2 x3 x4 x5 s = some (r, s') → zyR X 106 215 254 [some (.ref (43 + 3)), none, some (.int x2), some (.int x3), some (.int x4), some (.int x5), none, none, none] [] s (zyE (some (.int r)) s')) {x2 : Int32} {x3 : Int32} {x4 : Int32} {x5 : Int32} {s : zy_S} {r : Int32} {s' : zy_S}  (h : zyF215_254b k254 x2 x3 x4 x5 s = some (r, s')) : zyR X 106 215 254 [some (.ref (43 + 3)), none, some (.int x2), some (.int x3), some (.int x4), some (.int x5), none, none, none] [] s (zyE (some (.int r)) s') := by
  unfold zyF215_254b at h
  refine zy_2 rfl rfl (show zyR _ _ _ _ [some (.ref (43 + 3)), none, some (.int x2), some (.int x3), some (.int x4), some (.int x5), none, none, none] [.int x5] _ _ from ?_)
  refine zy_24_5 rfl (fun b9 => (show zyR _ _ _ _ [some (.ref (43 + 3)), none, some (.int x2), some (.int x3), some (.int x4), some (.int x5), none, none, none] [] _ _ from ?_)) (fun b9 => (show zyR _ _ _ _ [some (.ref (43 + 3)), none, some (.int x2), some (.int x3), some (.int x4), some (.int x5), none, none, none] [] _ _ from ?_))
  · replace h := zy_ifp h b9
    refine zy_2 rfl rfl (show zyR _ _ _ _ [some (.ref (43 + 3)), none, some (.int x2), some (.int x3), some (.int x4), some (.int x5), none, none, none] [.int x4] _ _ from ?_)
    obtain ⟨rfl, rfl⟩ := zy_pi h
    exact zy_4 rfl ⟨rfl, rfl⟩
  · replace h := zy_ifn h b9
    refine zy_3 rfl rfl (show zyR _ _ _ _ [some (.ref (43 + 3)), none, some (.int x2), some (.int x3), some (.int x4), some (.int x5), none, none, none] [.int (0 : Int32)] _ _ from ?_)
    refine zy_23 rfl rfl (show zyR _ _ _ _ [some (.ref (43 + 3)), none, some (.int x2), some (.int x3), some (.int x4), some (.int x5), some (.int (0 : Int32)), none, none] [] _ _ from ?_)
    exact zy_sub (show zy_le [some (.ref (43 + 3)), none, some (.int x2), some (.int x3), some (.int x4), some (.int x5), some (.int (0 : Int32)), none, none] [some (.ref (43 + 3)), none, some (.int x2), some (.int x3), some (.int x4), some (.int x5), some (.int (0 : Int32)), none, none] from ⟨rfl, ⟨rfl, ⟨rfl, ⟨rfl, ⟨rfl, ⟨rfl, trivial⟩⟩⟩⟩⟩⟩) (zyC215_262 hk254 zy_fu x2 x3 x4 x5 (0 : Int32) s _ _ h)
noncomputable def zyF215_254   (n : Nat) : Int32 → Int32 → Int32 → Int32 → zy_S → Option (Int32 × zy_S) := Nat.rec (fun _ _ _ _ _ => none) (fun _ k254 => zyF215_254b k254) n
theorem zyC215_254 {X : zx_X}     : ∀ (n : Nat) (x2 : Int32) (x3 : Int32) (x4 : Int32) (x5 : Int32) (s : zy_S) (r : Int32) (s' : zy_S), zyF215_254 n x2 x3 x4 x5 s = some (r, s') → zyR X 106 215 254 [some (.ref (43 + 3)), none, some (.int x2), some (.int x3), some (.int x4), some (.int x5), none, none, none] [] s (zyE (some (.int r)) s')
  | 0, _, _, _, _ => by
    intro s r s'  h
    have h : (none : Option (Int32 × zy_S)) = some (r, s') := h
    cases h
  | n + 1, x2, x3, x4, x5 => by
    intro s r s'  h
    exact zyC215_254b (k254 := zyF215_254 n) (fun x2 x3 x4 x5 s r s'  h => zyC215_254  n x2 x3 x4 x5 s r s'  h) h
noncomputable def zyF215_198  (k82 : Int32 → Int32 → Int32 → zy_S → Option (Int32 × zy_S)) (k91 : Int32 → Int32 → Int32 → Int32 → zy_S → Option (Int32 × zy_S)) (x1 : Int32) (x2 : Int32) (x3 : Int32) (x4 : Int32) (x5 : Int32) (s : zy_S) : Option (Int32 × zy_S) :=
if zy_in ((x2 * x3) + x4) 70 then
k91 x1 x2 x3 (x4 + (1 : Int32)) (zy_up s 52 (((x2 * x3) + x4)).toNatClampNeg x5)
else none
theorem zyC215_198 {X : zx_X}  {k82 : Int32 → Int32 → Int32 → zy_S → Option (Int32 × zy_S)} {k91 : Int32 → Int32 → Int32 → Int32 → zy_S → Option (Int32 × zy_S)}  (hk82 : ∀ (x1 : Int32) (x2 : Int32) (x3 : Int32) (s : zy_S) (r : Int32) (s' : zy_S), k82 x1 x2 x3 s = some (r, s') → zyR X 106 215 82 [some (.ref (43 + 3)), some (.int x1), some (.int x2), some (.int x3), none, none, none, none, none] [] s (zyE (some (.int r)) s')) (hk91 : ∀ (x1 : Int32) (x2 : Int32) (x3 : Int32) (x4 : Int32) (s : zy_S) (r : Int32) (s' : zy_S), k91 x1 x2 x3 x4 s = some (r, s') → zyR X 106 215 91 [some (.ref (43 + 3)), some (.int x1), some (.int x2), some (.int x3), some (.int x4), none, none, none, none] [] s (zyE (some (.int r)) s')) {x1 : Int32} {x2 : Int32} {x3 : Int32} {x4 : Int32} {x5 : Int32} {s : zy_S} {r : Int32} {s' : zy_S}  (h : zyF215_198 k82 k91 x1 x2 x3 x4 x5 s = some (r, s')) : zyR X 106 215 198 [some (.ref (43 + 3)), some (.int x1), some (.int x2), some (.int x3), some (.int x4), some (.int x5), none, none, none] [] s (zyE (some (.int r)) s') := by
  unfold zyF215_198 at h
  refine zy_0 rfl rfl (show zyR _ _ _ _ [some (.ref (43 + 3)), some (.int x1), some (.int x2), some (.int x3), some (.int x4), some (.int x5), none, none, none] [.ref (43 + 3)] _ _ from ?_)
  refine zy_1r (c := 43) rfl rfl rfl (show zyR _ _ _ _ [some (.ref (43 + 3)), some (.int x1), some (.int x2), some (.int x3), some (.int x4), some (.int x5), none, none, none] [.ref (52 + 3)] _ _ from ?_)
  refine zy_2 rfl rfl (show zyR _ _ _ _ [some (.ref (43 + 3)), some (.int x1), some (.int x2), some (.int x3), some (.int x4), some (.int x5), none, none, none] [.int x2, .ref (52 + 3)] _ _ from ?_)
  refine zy_2 rfl rfl (show zyR _ _ _ _ [some (.ref (43 + 3)), some (.int x1), some (.int x2), some (.int x3), some (.int x4), some (.int x5), none, none, none] [.int x3, .int x2, .ref (52 + 3)] _ _ from ?_)
  refine zy_12 rfl (show zyR _ _ _ _ [some (.ref (43 + 3)), some (.int x1), some (.int x2), some (.int x3), some (.int x4), some (.int x5), none, none, none] [.int (x2 * x3), .ref (52 + 3)] _ _ from ?_)
  refine zy_2 rfl rfl (show zyR _ _ _ _ [some (.ref (43 + 3)), some (.int x1), some (.int x2), some (.int x3), some (.int x4), some (.int x5), none, none, none] [.int x4, .int (x2 * x3), .ref (52 + 3)] _ _ from ?_)
  refine zy_10 rfl (show zyR _ _ _ _ [some (.ref (43 + 3)), some (.int x1), some (.int x2), some (.int x3), some (.int x4), some (.int x5), none, none, none] [.int ((x2 * x3) + x4), .ref (52 + 3)] _ _ from ?_)
  refine zy_2 rfl rfl (show zyR _ _ _ _ [some (.ref (43 + 3)), some (.int x1), some (.int x2), some (.int x3), some (.int x4), some (.int x5), none, none, none] [.int x5, .int ((x2 * x3) + x4), .ref (52 + 3)] _ _ from ?_)
  obtain ⟨c10, h⟩ := zy_if h
  refine zy_27 (c := 52) rfl rfl c10 (show zyR _ _ _ _ [some (.ref (43 + 3)), some (.int x1), some (.int x2), some (.int x3), some (.int x4), some (.int x5), none, none, none] [] _ _ from ?_)
  refine zy_22 rfl rfl rfl rfl (show zyR _ _ _ _ [some (.ref (43 + 3)), some (.int x1), some (.int x2), some (.int x3), some (.int (x4 + (1 : Int32))), some (.int x5), none, none, none] [] _ _ from ?_)
  refine zy_6 rfl (show zyR _ _ _ _ [some (.ref (43 + 3)), some (.int x1), some (.int x2), some (.int x3), some (.int (x4 + (1 : Int32))), some (.int x5), none, none, none] [] _ _ from ?_)
  exact zy_sub (show zy_le [some (.ref (43 + 3)), some (.int x1), some (.int x2), some (.int x3), some (.int (x4 + (1 : Int32))), none, none, none, none] [some (.ref (43 + 3)), some (.int x1), some (.int x2), some (.int x3), some (.int (x4 + (1 : Int32))), some (.int x5), none, none, none] from ⟨rfl, ⟨rfl, ⟨rfl, ⟨rfl, ⟨rfl, trivial⟩⟩⟩⟩⟩) (hk91 x1 x2 x3 (x4 + (1 : Int32)) (zy_up s 52 (((x2 * x3) + x4)).toNatClampNeg x5) _ _ h)
noncomputable def zyF215_190  (k82 : Int32 → Int32 → Int32 → zy_S → Option (Int32 × zy_S)) (k91 : Int32 → Int32 → Int32 → Int32 → zy_S → Option (Int32 × zy_S)) (k113 : Int32 → Int32 → Int32 → Int32 → Int32 → Int32 → zy_S → Option (Int32 × zy_S)) (x1 : Int32) (x2 : Int32) (x3 : Int32) (x4 : Int32) (x6 : Int32) (y0 : Int32) (s : zy_S) : Option (Int32 × zy_S) :=
k113 x1 x2 x3 x4 y0 (x6 + (1 : Int32)) s
theorem zyC215_190 {X : zx_X}  {k82 : Int32 → Int32 → Int32 → zy_S → Option (Int32 × zy_S)} {k91 : Int32 → Int32 → Int32 → Int32 → zy_S → Option (Int32 × zy_S)} {k113 : Int32 → Int32 → Int32 → Int32 → Int32 → Int32 → zy_S → Option (Int32 × zy_S)}  (hk82 : ∀ (x1 : Int32) (x2 : Int32) (x3 : Int32) (s : zy_S) (r : Int32) (s' : zy_S), k82 x1 x2 x3 s = some (r, s') → zyR X 106 215 82 [some (.ref (43 + 3)), some (.int x1), some (.int x2), some (.int x3), none, none, none, none, none] [] s (zyE (some (.int r)) s')) (hk91 : ∀ (x1 : Int32) (x2 : Int32) (x3 : Int32) (x4 : Int32) (s : zy_S) (r : Int32) (s' : zy_S), k91 x1 x2 x3 x4 s = some (r, s') → zyR X 106 215 91 [some (.ref (43 + 3)), some (.int x1), some (.int x2), some (.int x3), some (.int x4), none, none, none, none] [] s (zyE (some (.int r)) s')) (hk113 : ∀ (x1 : Int32) (x2 : Int32) (x3 : Int32) (x4 : Int32) (x5 : Int32) (x6 : Int32) (s : zy_S) (r : Int32) (s' : zy_S), k113 x1 x2 x3 x4 x5 x6 s = some (r, s') → zyR X 106 215 113 [some (.ref (43 + 3)), some (.int x1), some (.int x2), some (.int x3), some (.int x4), some (.int x5), some (.int x6), none, none] [] s (zyE (some (.int r)) s')) {x1 : Int32} {x2 : Int32} {x3 : Int32} {x4 : Int32} {x6 : Int32} {y0 : Int32} {s : zy_S} {r : Int32} {s' : zy_S}  (h : zyF215_190 k82 k91 k113 x1 x2 x3 x4 x6 y0 s = some (r, s')) : zyR X 106 215 190 [some (.ref (43 + 3)), some (.int x1), some (.int x2), some (.int x3), some (.int x4), none, some (.int x6), none, none] [.int y0] s (zyE (some (.int r)) s') := by
  unfold zyF215_190 at h
  refine zy_23 rfl rfl (show zyR _ _ _ _ [some (.ref (43 + 3)), some (.int x1), some (.int x2), some (.int x3), some (.int x4), some (.int y0), some (.int x6), none, none] [] _ _ from ?_)
  refine zy_22 rfl rfl rfl rfl (show zyR _ _ _ _ [some (.ref (43 + 3)), some (.int x1), some (.int x2), some (.int x3), some (.int x4), some (.int y0), some (.int (x6 + (1 : Int32))), none, none] [] _ _ from ?_)
  refine zy_6 rfl (show zyR _ _ _ _ [some (.ref (43 + 3)), some (.int x1), some (.int x2), some (.int x3), some (.int x4), some (.int y0), some (.int (x6 + (1 : Int32))), none, none] [] _ _ from ?_)
  exact zy_sub (show zy_le [some (.ref (43 + 3)), some (.int x1), some (.int x2), some (.int x3), some (.int x4), some (.int y0), some (.int (x6 + (1 : Int32))), none, none] [some (.ref (43 + 3)), some (.int x1), some (.int x2), some (.int x3), some (.int x4), some (.int y0), some (.int (x6 + (1 : Int32))), none, none] from ⟨rfl, ⟨rfl, ⟨rfl, ⟨rfl, ⟨rfl, ⟨rfl, ⟨rfl, trivial⟩⟩⟩⟩⟩⟩⟩) (hk113 x1 x2 x3 x4 y0 (x6 + (1 : Int32)) s _ _ h)
noncomputable def zyF215_174  (k82 : Int32 → Int32 → Int32 → zy_S → Option (Int32 × zy_S)) (k91 : Int32 → Int32 → Int32 → Int32 → zy_S → Option (Int32 × zy_S)) (k113 : Int32 → Int32 → Int32 → Int32 → Int32 → Int32 → zy_S → Option (Int32 × zy_S)) (x1 : Int32) (x2 : Int32) (x3 : Int32) (x4 : Int32) (x5 : Int32) (x6 : Int32) (y0 : Int32) (s : zy_S) : Option (Int32 × zy_S) :=
if x5 ≤ y0 then
zyF215_190 k82 k91 k113 x1 x2 x3 x4 x6 x5 s
else
zyF215_190 k82 k91 k113 x1 x2 x3 x4 x6 y0 s
theorem zyC215_174 {X : zx_X}  {k82 : Int32 → Int32 → Int32 → zy_S → Option (Int32 × zy_S)} {k91 : Int32 → Int32 → Int32 → Int32 → zy_S → Option (Int32 × zy_S)} {k113 : Int32 → Int32 → Int32 → Int32 → Int32 → Int32 → zy_S → Option (Int32 × zy_S)}  (hk82 : ∀ (x1 : Int32) (x2 : Int32) (x3 : Int32) (s : zy_S) (r : Int32) (s' : zy_S), k82 x1 x2 x3 s = some (r, s') → zyR X 106 215 82 [some (.ref (43 + 3)), some (.int x1), some (.int x2), some (.int x3), none, none, none, none, none] [] s (zyE (some (.int r)) s')) (hk91 : ∀ (x1 : Int32) (x2 : Int32) (x3 : Int32) (x4 : Int32) (s : zy_S) (r : Int32) (s' : zy_S), k91 x1 x2 x3 x4 s = some (r, s') → zyR X 106 215 91 [some (.ref (43 + 3)), some (.int x1), some (.int x2), some (.int x3), some (.int x4), none, none, none, none] [] s (zyE (some (.int r)) s')) (hk113 : ∀ (x1 : Int32) (x2 : Int32) (x3 : Int32) (x4 : Int32) (x5 : Int32) (x6 : Int32) (s : zy_S) (r : Int32) (s' : zy_S), k113 x1 x2 x3 x4 x5 x6 s = some (r, s') → zyR X 106 215 113 [some (.ref (43 + 3)), some (.int x1), some (.int x2), some (.int x3), some (.int x4), some (.int x5), some (.int x6), none, none] [] s (zyE (some (.int r)) s')) {x1 : Int32} {x2 : Int32} {x3 : Int32} {x4 : Int32} {x5 : Int32} {x6 : Int32} {y0 : Int32} {s : zy_S} {r : Int32} {s' : zy_S}  (h : zyF215_174 k82 k91 k113 x1 x2 x3 x4 x5 x6 y0 s = some (r, s')) : zyR X 106 215 174 [some (.ref (43 + 3)), some (.int x1), some (.int x2), some (.int x3), some (.int x4), some (.int x5), some (.int x6), none, none] [.int y0] s (zyE (some (.int r)) s') := by
  unfold zyF215_174 at h
  refine zy_23 rfl rfl (show zyR _ _ _ _ [some (.ref (43 + 3)), some (.int x1), some (.int x2), some (.int x3), some (.int x4), some (.int x5), some (.int x6), none, some (.int y0)] [] _ _ from ?_)
  refine zy_2 rfl rfl (show zyR _ _ _ _ [some (.ref (43 + 3)), some (.int x1), some (.int x2), some (.int x3), some (.int x4), some (.int x5), some (.int x6), none, some (.int y0)] [.int y0] _ _ from ?_)
  refine zy_2 rfl rfl (show zyR _ _ _ _ [some (.ref (43 + 3)), some (.int x1), some (.int x2), some (.int x3), some (.int x4), some (.int x5), some (.int x6), none, some (.int y0)] [.int x5, .int y0] _ _ from ?_)
  refine zy_25_3 rfl (fun b11 => (show zyR _ _ _ _ [some (.ref (43 + 3)), some (.int x1), some (.int x2), some (.int x3), some (.int x4), some (.int x5), some (.int x6), none, some (.int y0)] [] _ _ from ?_)) (fun b11 => (show zyR _ _ _ _ [some (.ref (43 + 3)), some (.int x1), some (.int x2), some (.int x3), some (.int x4), some (.int x5), some (.int x6), none, some (.int y0)] [] _ _ from ?_))
  · replace h := zy_ifp h b11
    refine zy_2 rfl rfl (show zyR _ _ _ _ [some (.ref (43 + 3)), some (.int x1), some (.int x2), some (.int x3), some (.int x4), some (.int x5), some (.int x6), none, some (.int y0)] [.int x5] _ _ from ?_)
    exact zy_sub (show zy_le [some (.ref (43 + 3)), some (.int x1), some (.int x2), some (.int x3), some (.int x4), none, some (.int x6), none, none] [some (.ref (43 + 3)), some (.int x1), some (.int x2), some (.int x3), some (.int x4), some (.int x5), some (.int x6), none, some (.int y0)] from ⟨rfl, ⟨rfl, ⟨rfl, ⟨rfl, ⟨rfl, ⟨rfl, trivial⟩⟩⟩⟩⟩⟩) (zyC215_190 hk82 hk91 hk113 h)
  · replace h := zy_ifn h b11
    refine zy_2 rfl rfl (show zyR _ _ _ _ [some (.ref (43 + 3)), some (.int x1), some (.int x2), some (.int x3), some (.int x4), some (.int x5), some (.int x6), none, some (.int y0)] [.int y0] _ _ from ?_)
    refine zy_6 rfl (show zyR _ _ _ _ [some (.ref (43 + 3)), some (.int x1), some (.int x2), some (.int x3), some (.int x4), some (.int x5), some (.int x6), none, some (.int y0)] [.int y0] _ _ from ?_)
    exact zy_sub (show zy_le [some (.ref (43 + 3)), some (.int x1), some (.int x2), some (.int x3), some (.int x4), none, some (.int x6), none, none] [some (.ref (43 + 3)), some (.int x1), some (.int x2), some (.int x3), some (.int x4), some (.int x5), some (.int x6), none, some (.int y0)] from ⟨rfl, ⟨rfl, ⟨rfl, ⟨rfl, ⟨rfl, ⟨rfl, trivial⟩⟩⟩⟩⟩⟩) (zyC215_190 hk82 hk91 hk113 h)
noncomputable def zyF215_113b  (k82 : Int32 → Int32 → Int32 → zy_S → Option (Int32 × zy_S)) (k91 : Int32 → Int32 → Int32 → Int32 → zy_S → Option (Int32 × zy_S)) (k113 : Int32 → Int32 → Int32 → Int32 → Int32 → Int32 → zy_S → Option (Int32 × zy_S)) (x1 : Int32) (x2 : Int32) (x3 : Int32) (x4 : Int32) (x5 : Int32) (x6 : Int32) (s : zy_S) : Option (Int32 × zy_S) :=
if (16 : Int32) ≤ x6 then
zyF215_198 k82 k91 x1 x2 x3 x4 x5 s
else
if x3 ≤ 0 then
zyF215_198 k82 k91 x1 x2 x3 x4 x5 s
else
(zyF209 x6 s).bind fun p12 =>
if p12.1 ≤ x4 then
if zy_in (((16 : Int32) * (x3 - (1 : Int32))) + x6) 96 then
if zy_in (((x2 * (x3 - (1 : Int32))) + x4) - p12.1) 70 then
zyF215_174 k82 k91 k113 x1 x2 x3 x4 x5 x6 ((p12.2.1 53 ((((16 : Int32) * (x3 - (1 : Int32))) + x6)).toNatClampNeg) + (p12.2.1 52 ((((x2 * (x3 - (1 : Int32))) + x4) - p12.1)).toNatClampNeg)) p12.2
else none
else none
else
zyF215_174 k82 k91 k113 x1 x2 x3 x4 x5 x6 (1000000 : Int32) p12.2
theorem zyC215_113b {X : zx_X}  {k82 : Int32 → Int32 → Int32 → zy_S → Option (Int32 × zy_S)} {k91 : Int32 → Int32 → Int32 → Int32 → zy_S → Option (Int32 × zy_S)} {k113 : Int32 → Int32 → Int32 → Int32 → Int32 → Int32 → zy_S → Option (Int32 × zy_S)}  (hk82 : ∀ (x1 : Int32) (x2 : Int32) (x3 : Int32) (s : zy_S) (r : Int32) (s' : zy_S), k82 x1 x2 x3 s = some (r, s') → zyR X 106 215 82 [some (.ref (43 + 3)), some (.int x1), some (.int x2), some (.int x3), none, none, none, none, none] [] s (zyE (some (.int r)) s')) (hk91 : ∀ (x1 : Int32) (x2 : Int32) (x3 : Int32) (x4 : Int32) (s : zy_S) (r : Int32) (s' : zy_S), k91 x1 x2 x3 x4 s = some (r, s') → zyR X 106 215 91 [some (.ref (43 + 3)), some (.int x1), some (.int x2), some (.int x3), some (.int x4), none, none, none, none] [] s (zyE (some (.int r)) s')) (hk113 : ∀ (x1 : Int32) (x2 : Int32) (x3 : Int32) (x4 : Int32) (x5 : Int32) (x6 : Int32) (s : zy_S) (r : Int32) (s' : zy_S), k113 x1 x2 x3 x4 x5 x6 s = some (r, s') → zyR X 106 215 113 [some (.ref (43 + 3)), some (.int x1), some (.int x2), some (.int x3), some (.int x4), some (.int x5), some (.int x6), none, none] [] s (zyE (some (.int r)) s')) {x1 : Int32} {x2 : Int32} {x3 : Int32} {x4 : Int32} {x5 : Int32} {x6 : Int32} {s : zy_S} {r : Int32} {s' : zy_S}  (h : zyF215_113b k82 k91 k113 x1 x2 x3 x4 x5 x6 s = some (r, s')) : zyR X 106 215 113 [some (.ref (43 + 3)), some (.int x1), some (.int x2), some (.int x3), some (.int x4), some (.int x5), some (.int x6), none, none] [] s (zyE (some (.int r)) s') := by
  unfold zyF215_113b at h
  refine zy_2 rfl rfl (show zyR _ _ _ _ [some (.ref (43 + 3)), some (.int x1), some (.int x2), some (.int x3), some (.int x4), some (.int x5), some (.int x6), none, none] [.int x6] _ _ from ?_)
  refine zy_3 rfl rfl (show zyR _ _ _ _ [some (.ref (43 + 3)), some (.int x1), some (.int x2), some (.int x3), some (.int x4), some (.int x5), some (.int x6), none, none] [.int (16 : Int32), .int x6] _ _ from ?_)
  refine zy_25_3 rfl (fun b17 => (show zyR _ _ _ _ [some (.ref (43 + 3)), some (.int x1), some (.int x2), some (.int x3), some (.int x4), some (.int x5), some (.int x6), none, none] [] _ _ from ?_)) (fun b17 => (show zyR _ _ _ _ [some (.ref (43 + 3)), some (.int x1), some (.int x2), some (.int x3), some (.int x4), some (.int x5), some (.int x6), none, none] [] _ _ from ?_))
  · replace h := zy_ifp h b17
    exact zy_sub (show zy_le [some (.ref (43 + 3)), some (.int x1), some (.int x2), some (.int x3), some (.int x4), some (.int x5), none, none, none] [some (.ref (43 + 3)), some (.int x1), some (.int x2), some (.int x3), some (.int x4), some (.int x5), some (.int x6), none, none] from ⟨rfl, ⟨rfl, ⟨rfl, ⟨rfl, ⟨rfl, ⟨rfl, trivial⟩⟩⟩⟩⟩⟩) (zyC215_198 hk82 hk91 h)
  · replace h := zy_ifn h b17
    refine zy_2 rfl rfl (show zyR _ _ _ _ [some (.ref (43 + 3)), some (.int x1), some (.int x2), some (.int x3), some (.int x4), some (.int x5), some (.int x6), none, none] [.int x3] _ _ from ?_)
    refine zy_24_5 rfl (fun b16 => (show zyR _ _ _ _ [some (.ref (43 + 3)), some (.int x1), some (.int x2), some (.int x3), some (.int x4), some (.int x5), some (.int x6), none, none] [] _ _ from ?_)) (fun b16 => (show zyR _ _ _ _ [some (.ref (43 + 3)), some (.int x1), some (.int x2), some (.int x3), some (.int x4), some (.int x5), some (.int x6), none, none] [] _ _ from ?_))
    · replace h := zy_ifp h b16
      exact zy_sub (show zy_le [some (.ref (43 + 3)), some (.int x1), some (.int x2), some (.int x3), some (.int x4), some (.int x5), none, none, none] [some (.ref (43 + 3)), some (.int x1), some (.int x2), some (.int x3), some (.int x4), some (.int x5), some (.int x6), none, none] from ⟨rfl, ⟨rfl, ⟨rfl, ⟨rfl, ⟨rfl, ⟨rfl, trivial⟩⟩⟩⟩⟩⟩) (zyC215_198 hk82 hk91 h)
    · replace h := zy_ifn h b16
      refine zy_2 rfl rfl (show zyR _ _ _ _ [some (.ref (43 + 3)), some (.int x1), some (.int x2), some (.int x3), some (.int x4), some (.int x5), some (.int x6), none, none] [.int x6] _ _ from ?_)
      obtain ⟨p12, hp12, h⟩ := zy_bind h
      refine zy_60 (as := [.int x6]) (rest := []) (L := [some (.int x6), none, none]) (d' := 1) rfl rfl (Nat.le_of_ble_eq_true rfl) (Nat.le_of_ble_eq_true rfl) rfl (Nat.le_of_ble_eq_true rfl) rfl rfl (zyC209 hp12) ?_
      show zyR _ _ _ _ [some (.ref (43 + 3)), some (.int x1), some (.int x2), some (.int x3), some (.int x4), some (.int x5), some (.int x6), none, none] [.int p12.1] _ _
      refine zy_23 rfl rfl (show zyR _ _ _ _ [some (.ref (43 + 3)), some (.int x1), some (.int x2), some (.int x3), some (.int x4), some (.int x5), some (.int x6), some (.int p12.1), none] [] _ _ from ?_)
      refine zy_2 rfl rfl (show zyR _ _ _ _ [some (.ref (43 + 3)), some (.int x1), some (.int x2), some (.int x3), some (.int x4), some (.int x5), some (.int x6), some (.int p12.1), none] [.int p12.1] _ _ from ?_)
      refine zy_2 rfl rfl (show zyR _ _ _ _ [some (.ref (43 + 3)), some (.int x1), some (.int x2), some (.int x3), some (.int x4), some (.int x5), some (.int x6), some (.int p12.1), none] [.int x4, .int p12.1] _ _ from ?_)
      refine zy_25_5 rfl (fun b15 => (show zyR _ _ _ _ [some (.ref (43 + 3)), some (.int x1), some (.int x2), some (.int x3), some (.int x4), some (.int x5), some (.int x6), some (.int p12.1), none] [] _ _ from ?_)) (fun b15 => (show zyR _ _ _ _ [some (.ref (43 + 3)), some (.int x1), some (.int x2), some (.int x3), some (.int x4), some (.int x5), some (.int x6), some (.int p12.1), none] [] _ _ from ?_))
      · replace h := zy_ifp h b15
        refine zy_0 rfl rfl (show zyR _ _ _ _ [some (.ref (43 + 3)), some (.int x1), some (.int x2), some (.int x3), some (.int x4), some (.int x5), some (.int x6), some (.int p12.1), none] [.ref (43 + 3)] _ _ from ?_)
        refine zy_1r (c := 43) rfl rfl rfl (show zyR _ _ _ _ [some (.ref (43 + 3)), some (.int x1), some (.int x2), some (.int x3), some (.int x4), some (.int x5), some (.int x6), some (.int p12.1), none] [.ref (53 + 3)] _ _ from ?_)
        refine zy_3 rfl rfl (show zyR _ _ _ _ [some (.ref (43 + 3)), some (.int x1), some (.int x2), some (.int x3), some (.int x4), some (.int x5), some (.int x6), some (.int p12.1), none] [.int (16 : Int32), .ref (53 + 3)] _ _ from ?_)
        refine zy_2 rfl rfl (show zyR _ _ _ _ [some (.ref (43 + 3)), some (.int x1), some (.int x2), some (.int x3), some (.int x4), some (.int x5), some (.int x6), some (.int p12.1), none] [.int x3, .int (16 : Int32), .ref (53 + 3)] _ _ from ?_)
        refine zy_3 rfl rfl (show zyR _ _ _ _ [some (.ref (43 + 3)), some (.int x1), some (.int x2), some (.int x3), some (.int x4), some (.int x5), some (.int x6), some (.int p12.1), none] [.int (1 : Int32), .int x3, .int (16 : Int32), .ref (53 + 3)] _ _ from ?_)
        refine zy_11 rfl (show zyR _ _ _ _ [some (.ref (43 + 3)), some (.int x1), some (.int x2), some (.int x3), some (.int x4), some (.int x5), some (.int x6), some (.int p12.1), none] [.int (x3 - (1 : Int32)), .int (16 : Int32), .ref (53 + 3)] _ _ from ?_)
        refine zy_12 rfl (show zyR _ _ _ _ [some (.ref (43 + 3)), some (.int x1), some (.int x2), some (.int x3), some (.int x4), some (.int x5), some (.int x6), some (.int p12.1), none] [.int ((16 : Int32) * (x3 - (1 : Int32))), .ref (53 + 3)] _ _ from ?_)
        refine zy_2 rfl rfl (show zyR _ _ _ _ [some (.ref (43 + 3)), some (.int x1), some (.int x2), some (.int x3), some (.int x4), some (.int x5), some (.int x6), some (.int p12.1), none] [.int x6, .int ((16 : Int32) * (x3 - (1 : Int32))), .ref (53 + 3)] _ _ from ?_)
        refine zy_10 rfl (show zyR _ _ _ _ [some (.ref (43 + 3)), some (.int x1), some (.int x2), some (.int x3), some (.int x4), some (.int x5), some (.int x6), some (.int p12.1), none] [.int (((16 : Int32) * (x3 - (1 : Int32))) + x6), .ref (53 + 3)] _ _ from ?_)
        obtain ⟨c13, h⟩ := zy_if h
        refine zy_26 (c := 53) rfl rfl c13 (show zyR _ _ _ _ [some (.ref (43 + 3)), some (.int x1), some (.int x2), some (.int x3), some (.int x4), some (.int x5), some (.int x6), some (.int p12.1), none] [.int (p12.2.1 53 ((((16 : Int32) * (x3 - (1 : Int32))) + x6)).toNatClampNeg)] _ _ from ?_)
        refine zy_0 rfl rfl (show zyR _ _ _ _ [some (.ref (43 + 3)), some (.int x1), some (.int x2), some (.int x3), some (.int x4), some (.int x5), some (.int x6), some (.int p12.1), none] [.ref (43 + 3), .int (p12.2.1 53 ((((16 : Int32) * (x3 - (1 : Int32))) + x6)).toNatClampNeg)] _ _ from ?_)
        refine zy_1r (c := 43) rfl rfl rfl (show zyR _ _ _ _ [some (.ref (43 + 3)), some (.int x1), some (.int x2), some (.int x3), some (.int x4), some (.int x5), some (.int x6), some (.int p12.1), none] [.ref (52 + 3), .int (p12.2.1 53 ((((16 : Int32) * (x3 - (1 : Int32))) + x6)).toNatClampNeg)] _ _ from ?_)
        refine zy_2 rfl rfl (show zyR _ _ _ _ [some (.ref (43 + 3)), some (.int x1), some (.int x2), some (.int x3), some (.int x4), some (.int x5), some (.int x6), some (.int p12.1), none] [.int x2, .ref (52 + 3), .int (p12.2.1 53 ((((16 : Int32) * (x3 - (1 : Int32))) + x6)).toNatClampNeg)] _ _ from ?_)
        refine zy_2 rfl rfl (show zyR _ _ _ _ [some (.ref (43 + 3)), some (.int x1), some (.int x2), some (.int x3), some (.int x4), some (.int x5), some (.int x6), some (.int p12.1), none] [.int x3, .int x2, .ref (52 + 3), .int (p12.2.1 53 ((((16 : Int32) * (x3 - (1 : Int32))) + x6)).toNatClampNeg)] _ _ from ?_)
        refine zy_3 rfl rfl (show zyR _ _ _ _ [some (.ref (43 + 3)), some (.int x1), some (.int x2), some (.int x3), some (.int x4), some (.int x5), some (.int x6), some (.int p12.1), none] [.int (1 : Int32), .int x3, .int x2, .ref (52 + 3), .int (p12.2.1 53 ((((16 : Int32) * (x3 - (1 : Int32))) + x6)).toNatClampNeg)] _ _ from ?_)
        refine zy_11 rfl (show zyR _ _ _ _ [some (.ref (43 + 3)), some (.int x1), some (.int x2), some (.int x3), some (.int x4), some (.int x5), some (.int x6), some (.int p12.1), none] [.int (x3 - (1 : Int32)), .int x2, .ref (52 + 3), .int (p12.2.1 53 ((((16 : Int32) * (x3 - (1 : Int32))) + x6)).toNatClampNeg)] _ _ from ?_)
        refine zy_12 rfl (show zyR _ _ _ _ [some (.ref (43 + 3)), some (.int x1), some (.int x2), some (.int x3), some (.int x4), some (.int x5), some (.int x6), some (.int p12.1), none] [.int (x2 * (x3 - (1 : Int32))), .ref (52 + 3), .int (p12.2.1 53 ((((16 : Int32) * (x3 - (1 : Int32))) + x6)).toNatClampNeg)] _ _ from ?_)
        refine zy_2 rfl rfl (show zyR _ _ _ _ [some (.ref (43 + 3)), some (.int x1), some (.int x2), some (.int x3), some (.int x4), some (.int x5), some (.int x6), some (.int p12.1), none] [.int x4, .int (x2 * (x3 - (1 : Int32))), .ref (52 + 3), .int (p12.2.1 53 ((((16 : Int32) * (x3 - (1 : Int32))) + x6)).toNatClampNeg)] _ _ from ?_)
        refine zy_10 rfl (show zyR _ _ _ _ [some (.ref (43 + 3)), some (.int x1), some (.int x2), some (.int x3), some (.int x4), some (.int x5), some (.int x6), some (.int p12.1), none] [.int ((x2 * (x3 - (1 : Int32))) + x4), .ref (52 + 3), .int (p12.2.1 53 ((((16 : Int32) * (x3 - (1 : Int32))) + x6)).toNatClampNeg)] _ _ from ?_)
        refine zy_2 rfl rfl (show zyR _ _ _ _ [some (.ref (43 + 3)), some (.int x1), some (.int x2), some (.int x3), some (.int x4), some (.int x5), some (.int x6), some (.int p12.1), none] [.int p12.1, .int ((x2 * (x3 - (1 : Int32))) + x4), .ref (52 + 3), .int (p12.2.1 53 ((((16 : Int32) * (x3 - (1 : Int32))) + x6)).toNatClampNeg)] _ _ from ?_)
        refine zy_11 rfl (show zyR _ _ _ _ [some (.ref (43 + 3)), some (.int x1), some (.int x2), some (.int x3), some (.int x4), some (.int x5), some (.int x6), some (.int p12.1), none] [.int (((x2 * (x3 - (1 : Int32))) + x4) - p12.1), .ref (52 + 3), .int (p12.2.1 53 ((((16 : Int32) * (x3 - (1 : Int32))) + x6)).toNatClampNeg)] _ _ from ?_)
        obtain ⟨c14, h⟩ := zy_if h
        refine zy_26 (c := 52) rfl rfl c14 (show zyR _ _ _ _ [some (.ref (43 + 3)), some (.int x1), some (.int x2), some (.int x3), some (.int x4), some (.int x5), some (.int x6), some (.int p12.1), none] [.int (p12.2.1 52 ((((x2 * (x3 - (1 : Int32))) + x4) - p12.1)).toNatClampNeg), .int (p12.2.1 53 ((((16 : Int32) * (x3 - (1 : Int32))) + x6)).toNatClampNeg)] _ _ from ?_)
        refine zy_10 rfl (show zyR _ _ _ _ [some (.ref (43 + 3)), some (.int x1), some (.int x2), some (.int x3), some (.int x4), some (.int x5), some (.int x6), some (.int p12.1), none] [.int ((p12.2.1 53 ((((16 : Int32) * (x3 - (1 : Int32))) + x6)).toNatClampNeg) + (p12.2.1 52 ((((x2 * (x3 - (1 : Int32))) + x4) - p12.1)).toNatClampNeg))] _ _ from ?_)
        exact zy_sub (show zy_le [some (.ref (43 + 3)), some (.int x1), some (.int x2), some (.int x3), some (.int x4), some (.int x5), some (.int x6), none, none] [some (.ref (43 + 3)), some (.int x1), some (.int x2), some (.int x3), some (.int x4), some (.int x5), some (.int x6), some (.int p12.1), none] from ⟨rfl, ⟨rfl, ⟨rfl, ⟨rfl, ⟨rfl, ⟨rfl, ⟨rfl, trivial⟩⟩⟩⟩⟩⟩⟩) (zyC215_174 hk82 hk91 hk113 h)
      · replace h := zy_ifn h b15
        refine zy_3c rfl rfl (show zyR _ _ _ _ [some (.ref (43 + 3)), some (.int x1), some (.int x2), some (.int x3), some (.int x4), some (.int x5), some (.int x6), some (.int p12.1), none] [.int (1000000 : Int32)] _ _ from ?_)
        refine zy_6 rfl (show zyR _ _ _ _ [some (.ref (43 + 3)), some (.int x1), some (.int x2), some (.int x3), some (.int x4), some (.int x5), some (.int x6), some (.int p12.1), none] [.int (1000000 : Int32)] _ _ from ?_)
        exact zy_sub (show zy_le [some (.ref (43 + 3)), some (.int x1), some (.int x2), some (.int x3), some (.int x4), some (.int x5), some (.int x6), none, none] [some (.ref (43 + 3)), some (.int x1), some (.int x2), some (.int x3), some (.int x4), some (.int x5), some (.int x6), some (.int p12.1), none] from ⟨rfl, ⟨rfl, ⟨rfl, ⟨rfl, ⟨rfl, ⟨rfl, ⟨rfl, trivial⟩⟩⟩⟩⟩⟩⟩) (zyC215_174 hk82 hk91 hk113 h)
noncomputable def zyF215_113  (k82 : Int32 → Int32 → Int32 → zy_S → Option (Int32 × zy_S)) (k91 : Int32 → Int32 → Int32 → Int32 → zy_S → Option (Int32 × zy_S)) (n : Nat) : Int32 → Int32 → Int32 → Int32 → Int32 → Int32 → zy_S → Option (Int32 × zy_S) := Nat.rec (fun _ _ _ _ _ _ _ => none) (fun _ k113 => zyF215_113b k82 k91 k113) n
theorem zyC215_113 {X : zx_X}  {k82 : Int32 → Int32 → Int32 → zy_S → Option (Int32 × zy_S)} {k91 : Int32 → Int32 → Int32 → Int32 → zy_S → Option (Int32 × zy_S)}  (hk82 : ∀ (x1 : Int32) (x2 : Int32) (x3 : Int32) (s : zy_S) (r : Int32) (s' : zy_S), k82 x1 x2 x3 s = some (r, s') → zyR X 106 215 82 [some (.ref (43 + 3)), some (.int x1), some (.int x2), some (.int x3), none, none, none, none, none] [] s (zyE (some (.int r)) s')) (hk91 : ∀ (x1 : Int32) (x2 : Int32) (x3 : Int32) (x4 : Int32) (s : zy_S) (r : Int32) (s' : zy_S), k91 x1 x2 x3 x4 s = some (r, s') → zyR X 106 215 91 [some (.ref (43 + 3)), some (.int x1), some (.int x2), some (.int x3), some (.int x4), none, none, none, none] [] s (zyE (some (.int r)) s')) : ∀ (n : Nat) (x1 : Int32) (x2 : Int32) (x3 : Int32) (x4 : Int32) (x5 : Int32) (x6 : Int32) (s : zy_S) (r : Int32) (s' : zy_S), zyF215_113 k82 k91 n x1 x2 x3 x4 x5 x6 s = some (r, s') → zyR X 106 215 113 [some (.ref (43 + 3)), some (.int x1), some (.int x2), some (.int x3), some (.int x4), some (.int x5), some (.int x6), none, none] [] s (zyE (some (.int r)) s')
  | 0, _, _, _, _, _, _ => by
    intro s r s'  h
    have h : (none : Option (Int32 × zy_S)) = some (r, s') := h
    cases h
  | n + 1, x1, x2, x3, x4, x5, x6 => by
    intro s r s'  h
    exact zyC215_113b (k113 := zyF215_113 k82 k91 n) hk82 hk91 (fun x1 x2 x3 x4 x5 x6 s r s'  h => zyC215_113 hk82 hk91 n x1 x2 x3 x4 x5 x6 s r s'  h) h
noncomputable def zyF215_108  (k82 : Int32 → Int32 → Int32 → zy_S → Option (Int32 × zy_S)) (k91 : Int32 → Int32 → Int32 → Int32 → zy_S → Option (Int32 × zy_S)) (x1 : Int32) (x2 : Int32) (x3 : Int32) (x4 : Int32) (y0 : Int32) (s : zy_S) : Option (Int32 × zy_S) :=
zyF215_113 k82 k91 zy_fu x1 x2 x3 x4 y0 (0 : Int32) s
theorem zyC215_108 {X : zx_X}  {k82 : Int32 → Int32 → Int32 → zy_S → Option (Int32 × zy_S)} {k91 : Int32 → Int32 → Int32 → Int32 → zy_S → Option (Int32 × zy_S)}  (hk82 : ∀ (x1 : Int32) (x2 : Int32) (x3 : Int32) (s : zy_S) (r : Int32) (s' : zy_S), k82 x1 x2 x3 s = some (r, s') → zyR X 106 215 82 [some (.ref (43 + 3)), some (.int x1), some (.int x2), some (.int x3), none, none, none, none, none] [] s (zyE (some (.int r)) s')) (hk91 : ∀ (x1 : Int32) (x2 : Int32) (x3 : Int32) (x4 : Int32) (s : zy_S) (r : Int32) (s' : zy_S), k91 x1 x2 x3 x4 s = some (r, s') → zyR X 106 215 91 [some (.ref (43 + 3)), some (.int x1), some (.int x2), some (.int x3), some (.int x4), none, none, none, none] [] s (zyE (some (.int r)) s')) {x1 : Int32} {x2 : Int32} {x3 : Int32} {x4 : Int32} {y0 : Int32} {s : zy_S} {r : Int32} {s' : zy_S}  (h : zyF215_108 k82 k91 x1 x2 x3 x4 y0 s = some (r, s')) : zyR X 106 215 108 [some (.ref (43 + 3)), some (.int x1), some (.int x2), some (.int x3), some (.int x4), none, none, none, none] [.int y0] s (zyE (some (.int r)) s') := by
  unfold zyF215_108 at h
  refine zy_23 rfl rfl (show zyR _ _ _ _ [some (.ref (43 + 3)), some (.int x1), some (.int x2), some (.int x3), some (.int x4), some (.int y0), none, none, none] [] _ _ from ?_)
  refine zy_3 rfl rfl (show zyR _ _ _ _ [some (.ref (43 + 3)), some (.int x1), some (.int x2), some (.int x3), some (.int x4), some (.int y0), none, none, none] [.int (0 : Int32)] _ _ from ?_)
  refine zy_23 rfl rfl (show zyR _ _ _ _ [some (.ref (43 + 3)), some (.int x1), some (.int x2), some (.int x3), some (.int x4), some (.int y0), some (.int (0 : Int32)), none, none] [] _ _ from ?_)
  exact zy_sub (show zy_le [some (.ref (43 + 3)), some (.int x1), some (.int x2), some (.int x3), some (.int x4), some (.int y0), some (.int (0 : Int32)), none, none] [some (.ref (43 + 3)), some (.int x1), some (.int x2), some (.int x3), some (.int x4), some (.int y0), some (.int (0 : Int32)), none, none] from ⟨rfl, ⟨rfl, ⟨rfl, ⟨rfl, ⟨rfl, ⟨rfl, ⟨rfl, trivial⟩⟩⟩⟩⟩⟩⟩) (zyC215_113 hk82 hk91 zy_fu x1 x2 x3 x4 y0 (0 : Int32) s _ _ h)
noncomputable def zyF215_91b  (k82 : Int32 → Int32 → Int32 → zy_S → Option (Int32 × zy_S)) (k91 : Int32 → Int32 → Int32 → Int32 → zy_S → Option (Int32 × zy_S)) (x1 : Int32) (x2 : Int32) (x3 : Int32) (x4 : Int32) (s : zy_S) : Option (Int32 × zy_S) :=
if (9 : Int32) < x4 then
k82 x1 x2 (x3 + (1 : Int32)) s
else
if x3 ≠ 0 then
zyF215_108 k82 k91 x1 x2 x3 x4 (1000000 : Int32) s
else
zyF215_108 k82 k91 x1 x2 x3 x4 (0 : Int32) s
theorem zyC215_91b {X : zx_X}  {k82 : Int32 → Int32 → Int32 → zy_S → Option (Int32 × zy_S)} {k91 : Int32 → Int32 → Int32 → Int32 → zy_S → Option (Int32 × zy_S)}  (hk82 : ∀ (x1 : Int32) (x2 : Int32) (x3 : Int32) (s : zy_S) (r : Int32) (s' : zy_S), k82 x1 x2 x3 s = some (r, s') → zyR X 106 215 82 [some (.ref (43 + 3)), some (.int x1), some (.int x2), some (.int x3), none, none, none, none, none] [] s (zyE (some (.int r)) s')) (hk91 : ∀ (x1 : Int32) (x2 : Int32) (x3 : Int32) (x4 : Int32) (s : zy_S) (r : Int32) (s' : zy_S), k91 x1 x2 x3 x4 s = some (r, s') → zyR X 106 215 91 [some (.ref (43 + 3)), some (.int x1), some (.int x2), some (.int x3), some (.int x4), none, none, none, none] [] s (zyE (some (.int r)) s')) {x1 : Int32} {x2 : Int32} {x3 : Int32} {x4 : Int32} {s : zy_S} {r : Int32} {s' : zy_S}  (h : zyF215_91b k82 k91 x1 x2 x3 x4 s = some (r, s')) : zyR X 106 215 91 [some (.ref (43 + 3)), some (.int x1), some (.int x2), some (.int x3), some (.int x4), none, none, none, none] [] s (zyE (some (.int r)) s') := by
  unfold zyF215_91b at h
  refine zy_2 rfl rfl (show zyR _ _ _ _ [some (.ref (43 + 3)), some (.int x1), some (.int x2), some (.int x3), some (.int x4), none, none, none, none] [.int x4] _ _ from ?_)
  refine zy_3 rfl rfl (show zyR _ _ _ _ [some (.ref (43 + 3)), some (.int x1), some (.int x2), some (.int x3), some (.int x4), none, none, none, none] [.int (9 : Int32), .int x4] _ _ from ?_)
  refine zy_25_4 rfl (fun b19 => (show zyR _ _ _ _ [some (.ref (43 + 3)), some (.int x1), some (.int x2), some (.int x3), some (.int x4), none, none, none, none] [] _ _ from ?_)) (fun b19 => (show zyR _ _ _ _ [some (.ref (43 + 3)), some (.int x1), some (.int x2), some (.int x3), some (.int x4), none, none, none, none] [] _ _ from ?_))
  · replace h := zy_ifp h b19
    refine zy_22 rfl rfl rfl rfl (show zyR _ _ _ _ [some (.ref (43 + 3)), some (.int x1), some (.int x2), some (.int (x3 + (1 : Int32))), some (.int x4), none, none, none, none] [] _ _ from ?_)
    refine zy_6 rfl (show zyR _ _ _ _ [some (.ref (43 + 3)), some (.int x1), some (.int x2), some (.int (x3 + (1 : Int32))), some (.int x4), none, none, none, none] [] _ _ from ?_)
    exact zy_sub (show zy_le [some (.ref (43 + 3)), some (.int x1), some (.int x2), some (.int (x3 + (1 : Int32))), none, none, none, none, none] [some (.ref (43 + 3)), some (.int x1), some (.int x2), some (.int (x3 + (1 : Int32))), some (.int x4), none, none, none, none] from ⟨rfl, ⟨rfl, ⟨rfl, ⟨rfl, trivial⟩⟩⟩⟩) (hk82 x1 x2 (x3 + (1 : Int32)) s _ _ h)
  · replace h := zy_ifn h b19
    refine zy_2 rfl rfl (show zyR _ _ _ _ [some (.ref (43 + 3)), some (.int x1), some (.int x2), some (.int x3), some (.int x4), none, none, none, none] [.int x3] _ _ from ?_)
    refine zy_24_1 rfl (fun b18 => (show zyR _ _ _ _ [some (.ref (43 + 3)), some (.int x1), some (.int x2), some (.int x3), some (.int x4), none, none, none, none] [] _ _ from ?_)) (fun b18 => (show zyR _ _ _ _ [some (.ref (43 + 3)), some (.int x1), some (.int x2), some (.int x3), some (.int x4), none, none, none, none] [] _ _ from ?_))
    · replace h := zy_ifp h b18
      refine zy_3c rfl rfl (show zyR _ _ _ _ [some (.ref (43 + 3)), some (.int x1), some (.int x2), some (.int x3), some (.int x4), none, none, none, none] [.int (1000000 : Int32)] _ _ from ?_)
      exact zy_sub (show zy_le [some (.ref (43 + 3)), some (.int x1), some (.int x2), some (.int x3), some (.int x4), none, none, none, none] [some (.ref (43 + 3)), some (.int x1), some (.int x2), some (.int x3), some (.int x4), none, none, none, none] from ⟨rfl, ⟨rfl, ⟨rfl, ⟨rfl, ⟨rfl, trivial⟩⟩⟩⟩⟩) (zyC215_108 hk82 hk91 h)
    · replace h := zy_ifn h b18
      refine zy_3 rfl rfl (show zyR _ _ _ _ [some (.ref (43 + 3)), some (.int x1), some (.int x2), some (.int x3), some (.int x4), none, none, none, none] [.int (0 : Int32)] _ _ from ?_)
      refine zy_6 rfl (show zyR _ _ _ _ [some (.ref (43 + 3)), some (.int x1), some (.int x2), some (.int x3), some (.int x4), none, none, none, none] [.int (0 : Int32)] _ _ from ?_)
      exact zy_sub (show zy_le [some (.ref (43 + 3)), some (.int x1), some (.int x2), some (.int x3), some (.int x4), none, none, none, none] [some (.ref (43 + 3)), some (.int x1), some (.int x2), some (.int x3), some (.int x4), none, none, none, none] from ⟨rfl, ⟨rfl, ⟨rfl, ⟨rfl, ⟨rfl, trivial⟩⟩⟩⟩⟩) (zyC215_108 hk82 hk91 h)
noncomputable def zyF215_91  (k82 : Int32 → Int32 → Int32 → zy_S → Option (Int32 × zy_S)) (n : Nat) : Int32 → Int32 → Int32 → Int32 → zy_S → Option (Int32 × zy_S) := Nat.rec (fun _ _ _ _ _ => none) (fun _ k91 => zyF215_91b k82 k91) n
theorem zyC215_91 {X : zx_X}  {k82 : Int32 → Int32 → Int32 → zy_S → Option (Int32 × zy_S)}  (hk82 : ∀ (x1 : Int32) (x2 : Int32) (x3 : Int32) (s : zy_S) (r : Int32) (s' : zy_S), k82 x1 x2 x3 s = some (r, s') → zyR X 106 215 82 [some (.ref (43 + 3)), some (.int x1), some (.int x2), some (.int x3), none, none, none, none, none] [] s (zyE (some (.int r)) s')) : ∀ (n : Nat) (x1 : Int32) (x2 : Int32) (x3 : Int32) (x4 : Int32) (s : zy_S) (r : Int32) (s' : zy_S), zyF215_91 k82 n x1 x2 x3 x4 s = some (r, s') → zyR X 106 215 91 [some (.ref (43 + 3)), some (.int x1), some (.int x2), some (.int x3), some (.int x4), none, none, none, none] [] s (zyE (some (.int r)) s')
  | 0, _, _, _, _ => by
    intro s r s'  h
    have h : (none : Option (Int32 × zy_S)) = some (r, s') := h
    cases h
  | n + 1, x1, x2, x3, x4 => by
    intro s r s'  h
    exact zyC215_91b (k91 := zyF215_91 k82 n) hk82 (fun x1 x2 x3 x4 s r s'  h => zyC215_91 hk82 n x1 x2 x3 x4 s r s'  h) h
noncomputable def zyF215_82b  (k82 : Int32 → Int32 → Int32 → zy_S → Option (Int32 × zy_S)) (x1 : Int32) (x2 : Int32) (x3 : Int32) (s : zy_S) : Option (Int32 × zy_S) :=
if (6 : Int32) < x3 then
if x1 ≠ 0 then
zyF215_254 zy_fu x2 (s.1 44 40) (0 : Int32) (6 : Int32) s
else
if zy_in ((x2 * (6 : Int32)) + (s.1 44 40)) 70 then
some ((s.1 52 (((x2 * (6 : Int32)) + (s.1 44 40))).toNatClampNeg), s)
else none
else
zyF215_91 k82 zy_fu x1 x2 x3 (0 : Int32) s
theorem zyC215_82b {X : zx_X}  {k82 : Int32 → Int32 → Int32 → zy_S → Option (Int32 × zy_S)}  (hk82 : ∀ (x1 : Int32) (x2 : Int32) (x3 : Int32) (s : zy_S) (r : Int32) (s' : zy_S), k82 x1 x2 x3 s = some (r, s') → zyR X 106 215 82 [some (.ref (43 + 3)), some (.int x1), some (.int x2), some (.int x3), none, none, none, none, none] [] s (zyE (some (.int r)) s')) {x1 : Int32} {x2 : Int32} {x3 : Int32} {s : zy_S} {r : Int32} {s' : zy_S}  (h : zyF215_82b k82 x1 x2 x3 s = some (r, s')) : zyR X 106 215 82 [some (.ref (43 + 3)), some (.int x1), some (.int x2), some (.int x3), none, none, none, none, none] [] s (zyE (some (.int r)) s') := by
  unfold zyF215_82b at h
  refine zy_2 rfl rfl (show zyR _ _ _ _ [some (.ref (43 + 3)), some (.int x1), some (.int x2), some (.int x3), none, none, none, none, none] [.int x3] _ _ from ?_)
  refine zy_3 rfl rfl (show zyR _ _ _ _ [some (.ref (43 + 3)), some (.int x1), some (.int x2), some (.int x3), none, none, none, none, none] [.int (6 : Int32), .int x3] _ _ from ?_)
  refine zy_25_4 rfl (fun b22 => (show zyR _ _ _ _ [some (.ref (43 + 3)), some (.int x1), some (.int x2), some (.int x3), none, none, none, none, none] [] _ _ from ?_)) (fun b22 => (show zyR _ _ _ _ [some (.ref (43 + 3)), some (.int x1), some (.int x2), some (.int x3), none, none, none, none, none] [] _ _ from ?_))
  · replace h := zy_ifp h b22
    refine zy_0 rfl rfl (show zyR _ _ _ _ [some (.ref (43 + 3)), some (.int x1), some (.int x2), some (.int x3), none, none, none, none, none] [.ref (43 + 3)] _ _ from ?_)
    refine zy_1r (c := 43) rfl rfl rfl (show zyR _ _ _ _ [some (.ref (43 + 3)), some (.int x1), some (.int x2), some (.int x3), none, none, none, none, none] [.ref (44 + 3)] _ _ from ?_)
    refine zy_3 rfl rfl (show zyR _ _ _ _ [some (.ref (43 + 3)), some (.int x1), some (.int x2), some (.int x3), none, none, none, none, none] [.int (40 : Int32), .ref (44 + 3)] _ _ from ?_)
    refine zy_26 (c := 44) rfl rfl (by decide) (show zyR _ _ _ _ [some (.ref (43 + 3)), some (.int x1), some (.int x2), some (.int x3), none, none, none, none, none] [.int (s.1 44 40)] _ _ from ?_)
    refine zy_23 rfl rfl (show zyR _ _ _ _ [some (.ref (43 + 3)), some (.int x1), some (.int x2), some (.int (s.1 44 40)), none, none, none, none, none] [] _ _ from ?_)
    refine zy_2 rfl rfl (show zyR _ _ _ _ [some (.ref (43 + 3)), some (.int x1), some (.int x2), some (.int (s.1 44 40)), none, none, none, none, none] [.int x1] _ _ from ?_)
    refine zy_24_1 rfl (fun b21 => (show zyR _ _ _ _ [some (.ref (43 + 3)), some (.int x1), some (.int x2), some (.int (s.1 44 40)), none, none, none, none, none] [] _ _ from ?_)) (fun b21 => (show zyR _ _ _ _ [some (.ref (43 + 3)), some (.int x1), some (.int x2), some (.int (s.1 44 40)), none, none, none, none, none] [] _ _ from ?_))
    · replace h := zy_ifp h b21
      refine zy_3 rfl rfl (show zyR _ _ _ _ [some (.ref (43 + 3)), some (.int x1), some (.int x2), some (.int (s.1 44 40)), none, none, none, none, none] [.int (0 : Int32)] _ _ from ?_)
      refine zy_23 rfl rfl (show zyR _ _ _ _ [some (.ref (43 + 3)), some (.int x1), some (.int x2), some (.int (s.1 44 40)), some (.int (0 : Int32)), none, none, none, none] [] _ _ from ?_)
      refine zy_3 rfl rfl (show zyR _ _ _ _ [some (.ref (43 + 3)), some (.int x1), some (.int x2), some (.int (s.1 44 40)), some (.int (0 : Int32)), none, none, none, none] [.int (6 : Int32)] _ _ from ?_)
      refine zy_23 rfl rfl (show zyR _ _ _ _ [some (.ref (43 + 3)), some (.int x1), some (.int x2), some (.int (s.1 44 40)), some (.int (0 : Int32)), some (.int (6 : Int32)), none, none, none] [] _ _ from ?_)
      exact zy_sub (show zy_le [some (.ref (43 + 3)), none, some (.int x2), some (.int (s.1 44 40)), some (.int (0 : Int32)), some (.int (6 : Int32)), none, none, none] [some (.ref (43 + 3)), some (.int x1), some (.int x2), some (.int (s.1 44 40)), some (.int (0 : Int32)), some (.int (6 : Int32)), none, none, none] from ⟨rfl, ⟨rfl, ⟨rfl, ⟨rfl, ⟨rfl, trivial⟩⟩⟩⟩⟩) (zyC215_254 zy_fu x2 (s.1 44 40) (0 : Int32) (6 : Int32) s _ _ h)
    · replace h := zy_ifn h b21
      refine zy_0 rfl rfl (show zyR _ _ _ _ [some (.ref (43 + 3)), some (.int x1), some (.int x2), some (.int (s.1 44 40)), none, none, none, none, none] [.ref (43 + 3)] _ _ from ?_)
      refine zy_1r (c := 43) rfl rfl rfl (show zyR _ _ _ _ [some (.ref (43 + 3)), some (.int x1), some (.int x2), some (.int (s.1 44 40)), none, none, none, none, none] [.ref (52 + 3)] _ _ from ?_)
      refine zy_2 rfl rfl (show zyR _ _ _ _ [some (.ref (43 + 3)), some (.int x1), some (.int x2), some (.int (s.1 44 40)), none, none, none, none, none] [.int x2, .ref (52 + 3)] _ _ from ?_)
      refine zy_3 rfl rfl (show zyR _ _ _ _ [some (.ref (43 + 3)), some (.int x1), some (.int x2), some (.int (s.1 44 40)), none, none, none, none, none] [.int (6 : Int32), .int x2, .ref (52 + 3)] _ _ from ?_)
      refine zy_12 rfl (show zyR _ _ _ _ [some (.ref (43 + 3)), some (.int x1), some (.int x2), some (.int (s.1 44 40)), none, none, none, none, none] [.int (x2 * (6 : Int32)), .ref (52 + 3)] _ _ from ?_)
      refine zy_2 rfl rfl (show zyR _ _ _ _ [some (.ref (43 + 3)), some (.int x1), some (.int x2), some (.int (s.1 44 40)), none, none, none, none, none] [.int (s.1 44 40), .int (x2 * (6 : Int32)), .ref (52 + 3)] _ _ from ?_)
      refine zy_10 rfl (show zyR _ _ _ _ [some (.ref (43 + 3)), some (.int x1), some (.int x2), some (.int (s.1 44 40)), none, none, none, none, none] [.int ((x2 * (6 : Int32)) + (s.1 44 40)), .ref (52 + 3)] _ _ from ?_)
      obtain ⟨c20, h⟩ := zy_if h
      refine zy_26 (c := 52) rfl rfl c20 (show zyR _ _ _ _ [some (.ref (43 + 3)), some (.int x1), some (.int x2), some (.int (s.1 44 40)), none, none, none, none, none] [.int (s.1 52 (((x2 * (6 : Int32)) + (s.1 44 40))).toNatClampNeg)] _ _ from ?_)
      obtain ⟨rfl, rfl⟩ := zy_pi h
      exact zy_4 rfl ⟨rfl, rfl⟩
  · replace h := zy_ifn h b22
    refine zy_3 rfl rfl (show zyR _ _ _ _ [some (.ref (43 + 3)), some (.int x1), some (.int x2), some (.int x3), none, none, none, none, none] [.int (0 : Int32)] _ _ from ?_)
    refine zy_23 rfl rfl (show zyR _ _ _ _ [some (.ref (43 + 3)), some (.int x1), some (.int x2), some (.int x3), some (.int (0 : Int32)), none, none, none, none] [] _ _ from ?_)
    exact zy_sub (show zy_le [some (.ref (43 + 3)), some (.int x1), some (.int x2), some (.int x3), some (.int (0 : Int32)), none, none, none, none] [some (.ref (43 + 3)), some (.int x1), some (.int x2), some (.int x3), some (.int (0 : Int32)), none, none, none, none] from ⟨rfl, ⟨rfl, ⟨rfl, ⟨rfl, ⟨rfl, trivial⟩⟩⟩⟩⟩) (zyC215_91 hk82 zy_fu x1 x2 x3 (0 : Int32) s _ _ h)
noncomputable def zyF215_82   (n : Nat) : Int32 → Int32 → Int32 → zy_S → Option (Int32 × zy_S) := Nat.rec (fun _ _ _ _ => none) (fun _ k82 => zyF215_82b k82) n
theorem zyC215_82 {X : zx_X}     : ∀ (n : Nat) (x1 : Int32) (x2 : Int32) (x3 : Int32) (s : zy_S) (r : Int32) (s' : zy_S), zyF215_82 n x1 x2 x3 s = some (r, s') → zyR X 106 215 82 [some (.ref (43 + 3)), some (.int x1), some (.int x2), some (.int x3), none, none, none, none, none] [] s (zyE (some (.int r)) s')
  | 0, _, _, _ => by
    intro s r s'  h
    have h : (none : Option (Int32 × zy_S)) = some (r, s') := h
    cases h
  | n + 1, x1, x2, x3 => by
    intro s r s'  h
    exact zyC215_82b (k82 := zyF215_82 n) (fun x1 x2 x3 s r s'  h => zyC215_82  n x1 x2 x3 s r s'  h) h
noncomputable def zyF215_47b  (k47 : Int32 → Int32 → zy_S → Option (Int32 × zy_S)) (x1 : Int32) (x2 : Int32) (s : zy_S) : Option (Int32 × zy_S) :=
if (96 : Int32) ≤ x2 then
zyF215_82 zy_fu x1 (10 : Int32) (0 : Int32) s
else
(zyF216 (x2 / (16 : Int32)) (x2 - x2 / (16 : Int32) * (16 : Int32)) s).bind fun p23 =>
if zy_in x2 96 then
k47 x1 (x2 + (1 : Int32)) (zy_up p23.2 53 (x2).toNatClampNeg p23.1)
else none
theorem zyC215_47b {X : zx_X}  {k47 : Int32 → Int32 → zy_S → Option (Int32 × zy_S)}  (hk47 : ∀ (x1 : Int32) (x2 : Int32) (s : zy_S) (r : Int32) (s' : zy_S), k47 x1 x2 s = some (r, s') → zyR X 106 215 47 [some (.ref (43 + 3)), some (.int x1), some (.int x2), none, none, none, none, none, none] [] s (zyE (some (.int r)) s')) {x1 : Int32} {x2 : Int32} {s : zy_S} {r : Int32} {s' : zy_S}  (h : zyF215_47b k47 x1 x2 s = some (r, s')) : zyR X 106 215 47 [some (.ref (43 + 3)), some (.int x1), some (.int x2), none, none, none, none, none, none] [] s (zyE (some (.int r)) s') := by
  unfold zyF215_47b at h
  refine zy_2 rfl rfl (show zyR _ _ _ _ [some (.ref (43 + 3)), some (.int x1), some (.int x2), none, none, none, none, none, none] [.int x2] _ _ from ?_)
  refine zy_3 rfl rfl (show zyR _ _ _ _ [some (.ref (43 + 3)), some (.int x1), some (.int x2), none, none, none, none, none, none] [.int (96 : Int32), .int x2] _ _ from ?_)
  refine zy_25_3 rfl (fun b25 => (show zyR _ _ _ _ [some (.ref (43 + 3)), some (.int x1), some (.int x2), none, none, none, none, none, none] [] _ _ from ?_)) (fun b25 => (show zyR _ _ _ _ [some (.ref (43 + 3)), some (.int x1), some (.int x2), none, none, none, none, none, none] [] _ _ from ?_))
  · replace h := zy_ifp h b25
    refine zy_3 rfl rfl (show zyR _ _ _ _ [some (.ref (43 + 3)), some (.int x1), some (.int x2), none, none, none, none, none, none] [.int (10 : Int32)] _ _ from ?_)
    refine zy_23 rfl rfl (show zyR _ _ _ _ [some (.ref (43 + 3)), some (.int x1), some (.int (10 : Int32)), none, none, none, none, none, none] [] _ _ from ?_)
    refine zy_3 rfl rfl (show zyR _ _ _ _ [some (.ref (43 + 3)), some (.int x1), some (.int (10 : Int32)), none, none, none, none, none, none] [.int (0 : Int32)] _ _ from ?_)
    refine zy_23 rfl rfl (show zyR _ _ _ _ [some (.ref (43 + 3)), some (.int x1), some (.int (10 : Int32)), some (.int (0 : Int32)), none, none, none, none, none] [] _ _ from ?_)
    exact zy_sub (show zy_le [some (.ref (43 + 3)), some (.int x1), some (.int (10 : Int32)), some (.int (0 : Int32)), none, none, none, none, none] [some (.ref (43 + 3)), some (.int x1), some (.int (10 : Int32)), some (.int (0 : Int32)), none, none, none, none, none] from ⟨rfl, ⟨rfl, ⟨rfl, ⟨rfl, trivial⟩⟩⟩⟩) (zyC215_82 zy_fu x1 (10 : Int32) (0 : Int32) s _ _ h)
  · replace h := zy_ifn h b25
    refine zy_0 rfl rfl (show zyR _ _ _ _ [some (.ref (43 + 3)), some (.int x1), some (.int x2), none, none, none, none, none, none] [.ref (43 + 3)] _ _ from ?_)
    refine zy_1r (c := 43) rfl rfl rfl (show zyR _ _ _ _ [some (.ref (43 + 3)), some (.int x1), some (.int x2), none, none, none, none, none, none] [.ref (53 + 3)] _ _ from ?_)
    refine zy_2 rfl rfl (show zyR _ _ _ _ [some (.ref (43 + 3)), some (.int x1), some (.int x2), none, none, none, none, none, none] [.int x2, .ref (53 + 3)] _ _ from ?_)
    refine zy_0 rfl rfl (show zyR _ _ _ _ [some (.ref (43 + 3)), some (.int x1), some (.int x2), none, none, none, none, none, none] [.ref (43 + 3), .int x2, .ref (53 + 3)] _ _ from ?_)
    refine zy_2 rfl rfl (show zyR _ _ _ _ [some (.ref (43 + 3)), some (.int x1), some (.int x2), none, none, none, none, none, none] [.int x2, .ref (43 + 3), .int x2, .ref (53 + 3)] _ _ from ?_)
    refine zy_3 rfl rfl (show zyR _ _ _ _ [some (.ref (43 + 3)), some (.int x1), some (.int x2), none, none, none, none, none, none] [.int (16 : Int32), .int x2, .ref (43 + 3), .int x2, .ref (53 + 3)] _ _ from ?_)
    refine zy_19 rfl (by decide) (show zyR _ _ _ _ [some (.ref (43 + 3)), some (.int x1), some (.int x2), none, none, none, none, none, none] [.int (x2 / (16 : Int32)), .ref (43 + 3), .int x2, .ref (53 + 3)] _ _ from ?_)
    refine zy_2 rfl rfl (show zyR _ _ _ _ [some (.ref (43 + 3)), some (.int x1), some (.int x2), none, none, none, none, none, none] [.int x2, .int (x2 / (16 : Int32)), .ref (43 + 3), .int x2, .ref (53 + 3)] _ _ from ?_)
    refine zy_3 rfl rfl (show zyR _ _ _ _ [some (.ref (43 + 3)), some (.int x1), some (.int x2), none, none, none, none, none, none] [.int (16 : Int32), .int x2, .int (x2 / (16 : Int32)), .ref (43 + 3), .int x2, .ref (53 + 3)] _ _ from ?_)
    refine zy_20 rfl (by decide) (show zyR _ _ _ _ [some (.ref (43 + 3)), some (.int x1), some (.int x2), none, none, none, none, none, none] [.int (x2 - x2 / (16 : Int32) * (16 : Int32)), .int (x2 / (16 : Int32)), .ref (43 + 3), .int x2, .ref (53 + 3)] _ _ from ?_)
    obtain ⟨p23, hp23, h⟩ := zy_bind h
    refine zy_5 (c := 43) (as := [.int (x2 / (16 : Int32)), .int (x2 - x2 / (16 : Int32) * (16 : Int32))]) (rest := [.int x2, .ref (53 + 3)]) (L := [some (.ref (43 + 3)), some (.int (x2 / (16 : Int32))), some (.int (x2 - x2 / (16 : Int32) * (16 : Int32))), none, none]) (d' := 105) rfl rfl rfl (Nat.le_of_ble_eq_true rfl) (Nat.le_of_ble_eq_true rfl) rfl (Nat.le_of_ble_eq_true rfl) rfl rfl (zyC216 hp23) ?_
    show zyR _ _ _ _ [some (.ref (43 + 3)), some (.int x1), some (.int x2), none, none, none, none, none, none] [.int p23.1, .int x2, .ref (53 + 3)] _ _
    obtain ⟨c24, h⟩ := zy_if h
    refine zy_27 (c := 53) rfl rfl c24 (show zyR _ _ _ _ [some (.ref (43 + 3)), some (.int x1), some (.int x2), none, none, none, none, none, none] [] _ _ from ?_)
    refine zy_22 rfl rfl rfl rfl (show zyR _ _ _ _ [some (.ref (43 + 3)), some (.int x1), some (.int (x2 + (1 : Int32))), none, none, none, none, none, none] [] _ _ from ?_)
    refine zy_6 rfl (show zyR _ _ _ _ [some (.ref (43 + 3)), some (.int x1), some (.int (x2 + (1 : Int32))), none, none, none, none, none, none] [] _ _ from ?_)
    exact zy_sub (show zy_le [some (.ref (43 + 3)), some (.int x1), some (.int (x2 + (1 : Int32))), none, none, none, none, none, none] [some (.ref (43 + 3)), some (.int x1), some (.int (x2 + (1 : Int32))), none, none, none, none, none, none] from ⟨rfl, ⟨rfl, ⟨rfl, trivial⟩⟩⟩) (hk47 x1 (x2 + (1 : Int32)) (zy_up p23.2 53 (x2).toNatClampNeg p23.1) _ _ h)
noncomputable def zyF215_47   (n : Nat) : Int32 → Int32 → zy_S → Option (Int32 × zy_S) := Nat.rec (fun _ _ _ => none) (fun _ k47 => zyF215_47b k47) n
theorem zyC215_47 {X : zx_X}     : ∀ (n : Nat) (x1 : Int32) (x2 : Int32) (s : zy_S) (r : Int32) (s' : zy_S), zyF215_47 n x1 x2 s = some (r, s') → zyR X 106 215 47 [some (.ref (43 + 3)), some (.int x1), some (.int x2), none, none, none, none, none, none] [] s (zyE (some (.int r)) s')
  | 0, _, _ => by
    intro s r s'  h
    have h : (none : Option (Int32 × zy_S)) = some (r, s') := h
    cases h
  | n + 1, x1, x2 => by
    intro s r s'  h
    exact zyC215_47b (k47 := zyF215_47 n) (fun x1 x2 s r s'  h => zyC215_47  n x1 x2 s r s'  h) h
noncomputable def zyF215_38  (k6 : Int32 → Int32 → zy_S → Option (Int32 × zy_S)) (x1 : Int32) (x2 : Int32) (y0 : Int32) (y1 : Int32) (s : zy_S) : Option (Int32 × zy_S) :=
if zy_in y1 24 then
k6 x1 (x2 + (1 : Int32)) (zy_up s 51 (y1).toNatClampNeg y0)
else none
theorem zyC215_38 {X : zx_X}  {k6 : Int32 → Int32 → zy_S → Option (Int32 × zy_S)}  (hk6 : ∀ (x1 : Int32) (x2 : Int32) (s : zy_S) (r : Int32) (s' : zy_S), k6 x1 x2 s = some (r, s') → zyR X 106 215 6 [some (.ref (43 + 3)), some (.int x1), some (.int x2), none, none, none, none, none, none] [] s (zyE (some (.int r)) s')) {x1 : Int32} {x2 : Int32} {y0 : Int32} {y1 : Int32} {s : zy_S} {r : Int32} {s' : zy_S}  (h : zyF215_38 k6 x1 x2 y0 y1 s = some (r, s')) : zyR X 106 215 38 [some (.ref (43 + 3)), some (.int x1), some (.int x2), none, none, none, none, none, none] [.int y0, .int y1, .ref (51 + 3)] s (zyE (some (.int r)) s') := by
  unfold zyF215_38 at h
  obtain ⟨c26, h⟩ := zy_if h
  refine zy_27 (c := 51) rfl rfl c26 (show zyR _ _ _ _ [some (.ref (43 + 3)), some (.int x1), some (.int x2), none, none, none, none, none, none] [] _ _ from ?_)
  refine zy_22 rfl rfl rfl rfl (show zyR _ _ _ _ [some (.ref (43 + 3)), some (.int x1), some (.int (x2 + (1 : Int32))), none, none, none, none, none, none] [] _ _ from ?_)
  refine zy_6 rfl (show zyR _ _ _ _ [some (.ref (43 + 3)), some (.int x1), some (.int (x2 + (1 : Int32))), none, none, none, none, none, none] [] _ _ from ?_)
  exact zy_sub (show zy_le [some (.ref (43 + 3)), some (.int x1), some (.int (x2 + (1 : Int32))), none, none, none, none, none, none] [some (.ref (43 + 3)), some (.int x1), some (.int (x2 + (1 : Int32))), none, none, none, none, none, none] from ⟨rfl, ⟨rfl, ⟨rfl, trivial⟩⟩⟩) (hk6 x1 (x2 + (1 : Int32)) (zy_up s 51 (y1).toNatClampNeg y0) _ _ h)
noncomputable def zyF215_6b  (k6 : Int32 → Int32 → zy_S → Option (Int32 × zy_S)) (x1 : Int32) (x2 : Int32) (s : zy_S) : Option (Int32 × zy_S) :=
if (24 : Int32) ≤ x2 then
zyF215_47 zy_fu x1 (0 : Int32) s
else
(zyF208 (s.1 43 7) x2 s).bind fun p27 =>
if p27.1 = 0 then
zyF215_38 k6 x1 x2 (0 : Int32) x2 p27.2
else
if zy_in x2 24 then
zyF215_38 k6 x1 x2 (p27.2.1 51 (x2).toNatClampNeg) x2 p27.2
else none
theorem zyC215_6b {X : zx_X}  {k6 : Int32 → Int32 → zy_S → Option (Int32 × zy_S)}  (hk6 : ∀ (x1 : Int32) (x2 : Int32) (s : zy_S) (r : Int32) (s' : zy_S), k6 x1 x2 s = some (r, s') → zyR X 106 215 6 [some (.ref (43 + 3)), some (.int x1), some (.int x2), none, none, none, none, none, none] [] s (zyE (some (.int r)) s')) {x1 : Int32} {x2 : Int32} {s : zy_S} {r : Int32} {s' : zy_S}  (h : zyF215_6b k6 x1 x2 s = some (r, s')) : zyR X 106 215 6 [some (.ref (43 + 3)), some (.int x1), some (.int x2), none, none, none, none, none, none] [] s (zyE (some (.int r)) s') := by
  unfold zyF215_6b at h
  refine zy_2 rfl rfl (show zyR _ _ _ _ [some (.ref (43 + 3)), some (.int x1), some (.int x2), none, none, none, none, none, none] [.int x2] _ _ from ?_)
  refine zy_3 rfl rfl (show zyR _ _ _ _ [some (.ref (43 + 3)), some (.int x1), some (.int x2), none, none, none, none, none, none] [.int (24 : Int32), .int x2] _ _ from ?_)
  refine zy_25_3 rfl (fun b30 => (show zyR _ _ _ _ [some (.ref (43 + 3)), some (.int x1), some (.int x2), none, none, none, none, none, none] [] _ _ from ?_)) (fun b30 => (show zyR _ _ _ _ [some (.ref (43 + 3)), some (.int x1), some (.int x2), none, none, none, none, none, none] [] _ _ from ?_))
  · replace h := zy_ifp h b30
    refine zy_3 rfl rfl (show zyR _ _ _ _ [some (.ref (43 + 3)), some (.int x1), some (.int x2), none, none, none, none, none, none] [.int (0 : Int32)] _ _ from ?_)
    refine zy_23 rfl rfl (show zyR _ _ _ _ [some (.ref (43 + 3)), some (.int x1), some (.int (0 : Int32)), none, none, none, none, none, none] [] _ _ from ?_)
    exact zy_sub (show zy_le [some (.ref (43 + 3)), some (.int x1), some (.int (0 : Int32)), none, none, none, none, none, none] [some (.ref (43 + 3)), some (.int x1), some (.int (0 : Int32)), none, none, none, none, none, none] from ⟨rfl, ⟨rfl, ⟨rfl, trivial⟩⟩⟩) (zyC215_47 zy_fu x1 (0 : Int32) s _ _ h)
  · replace h := zy_ifn h b30
    refine zy_0 rfl rfl (show zyR _ _ _ _ [some (.ref (43 + 3)), some (.int x1), some (.int x2), none, none, none, none, none, none] [.ref (43 + 3)] _ _ from ?_)
    refine zy_1r (c := 43) rfl rfl rfl (show zyR _ _ _ _ [some (.ref (43 + 3)), some (.int x1), some (.int x2), none, none, none, none, none, none] [.ref (51 + 3)] _ _ from ?_)
    refine zy_2 rfl rfl (show zyR _ _ _ _ [some (.ref (43 + 3)), some (.int x1), some (.int x2), none, none, none, none, none, none] [.int x2, .ref (51 + 3)] _ _ from ?_)
    refine zy_0 rfl rfl (show zyR _ _ _ _ [some (.ref (43 + 3)), some (.int x1), some (.int x2), none, none, none, none, none, none] [.ref (43 + 3), .int x2, .ref (51 + 3)] _ _ from ?_)
    refine zy_1 (c := 43) rfl rfl rfl (show zyR _ _ _ _ [some (.ref (43 + 3)), some (.int x1), some (.int x2), none, none, none, none, none, none] [.int (s.1 43 7), .int x2, .ref (51 + 3)] _ _ from ?_)
    refine zy_2 rfl rfl (show zyR _ _ _ _ [some (.ref (43 + 3)), some (.int x1), some (.int x2), none, none, none, none, none, none] [.int x2, .int (s.1 43 7), .int x2, .ref (51 + 3)] _ _ from ?_)
    obtain ⟨p27, hp27, h⟩ := zy_bind h
    refine zy_60 (as := [.int (s.1 43 7), .int x2]) (rest := [.int x2, .ref (51 + 3)]) (L := [some (.int (s.1 43 7)), some (.int x2)]) (d' := 1) rfl rfl (Nat.le_of_ble_eq_true rfl) (Nat.le_of_ble_eq_true rfl) rfl (Nat.le_of_ble_eq_true rfl) rfl rfl (zyC208 hp27) ?_
    show zyR _ _ _ _ [some (.ref (43 + 3)), some (.int x1), some (.int x2), none, none, none, none, none, none] [.int p27.1, .int x2, .ref (51 + 3)] _ _
    refine zy_24_0 rfl (fun b29 => (show zyR _ _ _ _ [some (.ref (43 + 3)), some (.int x1), some (.int x2), none, none, none, none, none, none] [.int x2, .ref (51 + 3)] _ _ from ?_)) (fun b29 => (show zyR _ _ _ _ [some (.ref (43 + 3)), some (.int x1), some (.int x2), none, none, none, none, none, none] [.int x2, .ref (51 + 3)] _ _ from ?_))
    · replace h := zy_ifp h b29
      refine zy_3 rfl rfl (show zyR _ _ _ _ [some (.ref (43 + 3)), some (.int x1), some (.int x2), none, none, none, none, none, none] [.int (0 : Int32), .int x2, .ref (51 + 3)] _ _ from ?_)
      exact zy_sub (show zy_le [some (.ref (43 + 3)), some (.int x1), some (.int x2), none, none, none, none, none, none] [some (.ref (43 + 3)), some (.int x1), some (.int x2), none, none, none, none, none, none] from ⟨rfl, ⟨rfl, ⟨rfl, trivial⟩⟩⟩) (zyC215_38 hk6 h)
    · replace h := zy_ifn h b29
      refine zy_0 rfl rfl (show zyR _ _ _ _ [some (.ref (43 + 3)), some (.int x1), some (.int x2), none, none, none, none, none, none] [.ref (43 + 3), .int x2, .ref (51 + 3)] _ _ from ?_)
      refine zy_1r (c := 43) rfl rfl rfl (show zyR _ _ _ _ [some (.ref (43 + 3)), some (.int x1), some (.int x2), none, none, none, none, none, none] [.ref (51 + 3), .int x2, .ref (51 + 3)] _ _ from ?_)
      refine zy_2 rfl rfl (show zyR _ _ _ _ [some (.ref (43 + 3)), some (.int x1), some (.int x2), none, none, none, none, none, none] [.int x2, .ref (51 + 3), .int x2, .ref (51 + 3)] _ _ from ?_)
      obtain ⟨c28, h⟩ := zy_if h
      refine zy_26 (c := 51) rfl rfl c28 (show zyR _ _ _ _ [some (.ref (43 + 3)), some (.int x1), some (.int x2), none, none, none, none, none, none] [.int (p27.2.1 51 (x2).toNatClampNeg), .int x2, .ref (51 + 3)] _ _ from ?_)
      refine zy_6 rfl (show zyR _ _ _ _ [some (.ref (43 + 3)), some (.int x1), some (.int x2), none, none, none, none, none, none] [.int (p27.2.1 51 (x2).toNatClampNeg), .int x2, .ref (51 + 3)] _ _ from ?_)
      exact zy_sub (show zy_le [some (.ref (43 + 3)), some (.int x1), some (.int x2), none, none, none, none, none, none] [some (.ref (43 + 3)), some (.int x1), some (.int x2), none, none, none, none, none, none] from ⟨rfl, ⟨rfl, ⟨rfl, trivial⟩⟩⟩) (zyC215_38 hk6 h)
noncomputable def zyF215_6   (n : Nat) : Int32 → Int32 → zy_S → Option (Int32 × zy_S) := Nat.rec (fun _ _ _ => none) (fun _ k6 => zyF215_6b k6) n
theorem zyC215_6 {X : zx_X}     : ∀ (n : Nat) (x1 : Int32) (x2 : Int32) (s : zy_S) (r : Int32) (s' : zy_S), zyF215_6 n x1 x2 s = some (r, s') → zyR X 106 215 6 [some (.ref (43 + 3)), some (.int x1), some (.int x2), none, none, none, none, none, none] [] s (zyE (some (.int r)) s')
  | 0, _, _ => by
    intro s r s'  h
    have h : (none : Option (Int32 × zy_S)) = some (r, s') := h
    cases h
  | n + 1, x1, x2 => by
    intro s r s'  h
    exact zyC215_6b (k6 := zyF215_6 n) (fun x1 x2 s r s'  h => zyC215_6  n x1 x2 s r s'  h) h
noncomputable def zyF215   (x1 : Int32) (s : zy_S) : Option (Int32 × zy_S) :=
(zyF203 s).bind fun p31 =>
zyF215_6 zy_fu x1 (0 : Int32) p31.2
theorem zyC215 {X : zx_X}     {x1 : Int32} {s : zy_S} {r : Int32} {s' : zy_S}  (h : zyF215 x1 s = some (r, s')) : zyR X 106 215 0 [some (.ref (43 + 3)), some (.int x1), none, none, none, none, none, none, none] [] s (zyE (some (.int r)) s') := by
  unfold zyF215 at h
  refine zy_0 rfl rfl (show zyR _ _ _ _ [some (.ref (43 + 3)), some (.int x1), none, none, none, none, none, none, none] [.ref (43 + 3)] _ _ from ?_)
  obtain ⟨p31, hp31, h⟩ := zy_bind h
  refine zy_5 (c := 43) (as := []) (rest := []) (L := [some (.ref (43 + 3)), none]) (d' := 1) rfl rfl rfl (Nat.le_of_ble_eq_true rfl) (Nat.le_of_ble_eq_true rfl) rfl (Nat.le_of_ble_eq_true rfl) rfl rfl (zyC203 hp31) ?_
  show zyR _ _ _ _ [some (.ref (43 + 3)), some (.int x1), none, none, none, none, none, none, none] [] _ _
  refine zy_3 rfl rfl (show zyR _ _ _ _ [some (.ref (43 + 3)), some (.int x1), none, none, none, none, none, none, none] [.int (0 : Int32)] _ _ from ?_)
  refine zy_23 rfl rfl (show zyR _ _ _ _ [some (.ref (43 + 3)), some (.int x1), some (.int (0 : Int32)), none, none, none, none, none, none] [] _ _ from ?_)
  exact zy_sub (show zy_le [some (.ref (43 + 3)), some (.int x1), some (.int (0 : Int32)), none, none, none, none, none, none] [some (.ref (43 + 3)), some (.int x1), some (.int (0 : Int32)), none, none, none, none, none, none] from ⟨rfl, ⟨rfl, ⟨rfl, trivial⟩⟩⟩) (zyC215_6 zy_fu x1 (0 : Int32) p31.2 _ _ h)
end
section
/-! PART 41.45: methods as functions. Made by wip/v4/dcp.py. -/
/-! NineOpinionsModel.board(I)I -/
noncomputable def zyF214   (x1 : Int32) (s : zy_S) : Option (Int32 × zy_S) :=
if x1 = (0 : Int32) then
some ((s.1 43 7), s)
else
if x1 = (1 : Int32) then
(zyF215 (0 : Int32) s).bind fun p2 =>
some (p2.1, p2.2)
else
if x1 = (2 : Int32) then
(zyF215 (1 : Int32) s).bind fun p4 =>
some (p4.1, p4.2)
else
if x1 = (3 : Int32) then
(zyF215 (1 : Int32) s).bind fun p6 =>
(zyF209 (p6.1 ^^^ (p6.2.1 43 7)) p6.2).bind fun p7 =>
some (p7.1, p7.2)
else
some ((-1 : Int32), s)
theorem zyC214 {X : zx_X}     {x1 : Int32} {s : zy_S} {r : Int32} {s' : zy_S}  (h : zyF214 x1 s = some (r, s')) : zyR X 107 214 0 [some (.ref (43 + 3)), some (.int x1)] [] s (zyE (some (.int r)) s') := by
  unfold zyF214 at h
  refine zy_2 rfl rfl (show zyR _ _ _ _ [some (.ref (43 + 3)), some (.int x1)] [.int x1] _ _ from ?_)
  refine zy_50 rfl (by decide) ?_
  refine zy_swp (fun b1 => (show zyR _ _ _ _ [some (.ref (43 + 3)), some (.int x1)] [] _ _ from ?_)) (fun b1 => ?_)
  · replace h := zy_ifp h b1
    refine zy_0 rfl rfl (show zyR _ _ _ _ [some (.ref (43 + 3)), some (.int x1)] [.ref (43 + 3)] _ _ from ?_)
    refine zy_1 (c := 43) rfl rfl rfl (show zyR _ _ _ _ [some (.ref (43 + 3)), some (.int x1)] [.int (s.1 43 7)] _ _ from ?_)
    obtain ⟨rfl, rfl⟩ := zy_pi h
    exact zy_4 rfl ⟨rfl, rfl⟩
  replace h := zy_ifn h b1
  refine zy_swp (fun b3 => (show zyR _ _ _ _ [some (.ref (43 + 3)), some (.int x1)] [] _ _ from ?_)) (fun b3 => ?_)
  · replace h := zy_ifp h b3
    refine zy_0 rfl rfl (show zyR _ _ _ _ [some (.ref (43 + 3)), some (.int x1)] [.ref (43 + 3)] _ _ from ?_)
    refine zy_3 rfl rfl (show zyR _ _ _ _ [some (.ref (43 + 3)), some (.int x1)] [.int (0 : Int32), .ref (43 + 3)] _ _ from ?_)
    obtain ⟨p2, hp2, h⟩ := zy_bind h
    refine zy_5 (c := 43) (as := [.int (0 : Int32)]) (rest := []) (L := [some (.ref (43 + 3)), some (.int (0 : Int32)), none, none, none, none, none, none, none]) (d' := 106) rfl rfl rfl (Nat.le_of_ble_eq_true rfl) (Nat.le_of_ble_eq_true rfl) rfl (Nat.le_of_ble_eq_true rfl) rfl rfl (zyC215 hp2) ?_
    show zyR _ _ _ _ [some (.ref (43 + 3)), some (.int x1)] [.int p2.1] _ _
    obtain ⟨rfl, rfl⟩ := zy_pi h
    exact zy_4 rfl ⟨rfl, rfl⟩
  replace h := zy_ifn h b3
  refine zy_swp (fun b5 => (show zyR _ _ _ _ [some (.ref (43 + 3)), some (.int x1)] [] _ _ from ?_)) (fun b5 => ?_)
  · replace h := zy_ifp h b5
    refine zy_0 rfl rfl (show zyR _ _ _ _ [some (.ref (43 + 3)), some (.int x1)] [.ref (43 + 3)] _ _ from ?_)
    refine zy_3 rfl rfl (show zyR _ _ _ _ [some (.ref (43 + 3)), some (.int x1)] [.int (1 : Int32), .ref (43 + 3)] _ _ from ?_)
    obtain ⟨p4, hp4, h⟩ := zy_bind h
    refine zy_5 (c := 43) (as := [.int (1 : Int32)]) (rest := []) (L := [some (.ref (43 + 3)), some (.int (1 : Int32)), none, none, none, none, none, none, none]) (d' := 106) rfl rfl rfl (Nat.le_of_ble_eq_true rfl) (Nat.le_of_ble_eq_true rfl) rfl (Nat.le_of_ble_eq_true rfl) rfl rfl (zyC215 hp4) ?_
    show zyR _ _ _ _ [some (.ref (43 + 3)), some (.int x1)] [.int p4.1] _ _
    obtain ⟨rfl, rfl⟩ := zy_pi h
    exact zy_4 rfl ⟨rfl, rfl⟩
  replace h := zy_ifn h b5
  refine zy_swp (fun b8 => (show zyR _ _ _ _ [some (.ref (43 + 3)), some (.int x1)] [] _ _ from ?_)) (fun b8 => ?_)
  · replace h := zy_ifp h b8
    refine zy_0 rfl rfl (show zyR _ _ _ _ [some (.ref (43 + 3)), some (.int x1)] [.ref (43 + 3)] _ _ from ?_)
    refine zy_3 rfl rfl (show zyR _ _ _ _ [some (.ref (43 + 3)), some (.int x1)] [.int (1 : Int32), .ref (43 + 3)] _ _ from ?_)
    obtain ⟨p6, hp6, h⟩ := zy_bind h
    refine zy_5 (c := 43) (as := [.int (1 : Int32)]) (rest := []) (L := [some (.ref (43 + 3)), some (.int (1 : Int32)), none, none, none, none, none, none, none]) (d' := 106) rfl rfl rfl (Nat.le_of_ble_eq_true rfl) (Nat.le_of_ble_eq_true rfl) rfl (Nat.le_of_ble_eq_true rfl) rfl rfl (zyC215 hp6) ?_
    show zyR _ _ _ _ [some (.ref (43 + 3)), some (.int x1)] [.int p6.1] _ _
    refine zy_0 rfl rfl (show zyR _ _ _ _ [some (.ref (43 + 3)), some (.int x1)] [.ref (43 + 3), .int p6.1] _ _ from ?_)
    refine zy_1 (c := 43) rfl rfl rfl (show zyR _ _ _ _ [some (.ref (43 + 3)), some (.int x1)] [.int (p6.2.1 43 7), .int p6.1] _ _ from ?_)
    refine zy_15 rfl (show zyR _ _ _ _ [some (.ref (43 + 3)), some (.int x1)] [.int (p6.1 ^^^ (p6.2.1 43 7))] _ _ from ?_)
    obtain ⟨p7, hp7, h⟩ := zy_bind h
    refine zy_60 (as := [.int (p6.1 ^^^ (p6.2.1 43 7))]) (rest := []) (L := [some (.int (p6.1 ^^^ (p6.2.1 43 7))), none, none]) (d' := 1) rfl rfl (Nat.le_of_ble_eq_true rfl) (Nat.le_of_ble_eq_true rfl) rfl (Nat.le_of_ble_eq_true rfl) rfl rfl (zyC209 hp7) ?_
    show zyR _ _ _ _ [some (.ref (43 + 3)), some (.int x1)] [.int p7.1] _ _
    obtain ⟨rfl, rfl⟩ := zy_pi h
    exact zy_4 rfl ⟨rfl, rfl⟩
  replace h := zy_ifn h b8
  show zyR _ _ _ _ [some (.ref (43 + 3)), some (.int x1)] [] _ _
  refine zy_3 rfl rfl (show zyR _ _ _ _ [some (.ref (43 + 3)), some (.int x1)] [.int (-1 : Int32)] _ _ from ?_)
  obtain ⟨rfl, rfl⟩ := zy_pi h
  exact zy_4 rfl ⟨rfl, rfl⟩
end
section
/-! PART 41.46: methods as functions. Made by wip/v4/dcp.py. -/
/-! NineOpinions$Turns.best(IIII)I, over what it calls -/
noncomputable def zyF105_197 (g105 : Int32 → Int32 → Int32 → Int32 → zy_S → Option (Int32 × zy_S)) (k55 : Int32 → Int32 → Int32 → Int32 → Int32 → Int32 → Int32 → Int32 → Int32 → zy_S → Option (Int32 × zy_S)) (x1 : Int32) (x2 : Int32) (x3 : Int32) (x4 : Int32) (x5 : Int32) (x6 : Int32) (x7 : Int32) (x8 : Int32) (x9 : Int32) (s : zy_S) : Option (Int32 × zy_S) :=
k55 x1 x2 x3 x4 x5 x6 x7 x8 (x9 + (1 : Int32)) s
theorem zyC105_197 {X : zx_X} {d : Nat} {g105 : Int32 → Int32 → Int32 → Int32 → zy_S → Option (Int32 × zy_S)} {k55 : Int32 → Int32 → Int32 → Int32 → Int32 → Int32 → Int32 → Int32 → Int32 → zy_S → Option (Int32 × zy_S)} (hd : 5 ≤ d) (hg105 : ∀ (x1 : Int32) (x2 : Int32) (x3 : Int32) (x4 : Int32) (s : zy_S) (r : Int32) (s' : zy_S), g105 x1 x2 x3 x4 s = some (r, s') → zyR X d 105 0 [some (.ref (15 + 3)), some (.int x1), some (.int x2), some (.int x3), some (.int x4), none, none, none, none, none, none, none, none, none] [] s (zyE (some (.int r)) s')) (hk55 : ∀ (x1 : Int32) (x2 : Int32) (x3 : Int32) (x4 : Int32) (x5 : Int32) (x6 : Int32) (x7 : Int32) (x8 : Int32) (x9 : Int32) (s : zy_S) (r : Int32) (s' : zy_S), k55 x1 x2 x3 x4 x5 x6 x7 x8 x9 s = some (r, s') → zyR X (d + 1) 105 55 [some (.ref (15 + 3)), some (.int x1), some (.int x2), some (.int x3), some (.int x4), some (.int x5), some (.int x6), some (.int x7), some (.int x8), some (.int x9), none, none, none, none] [] s (zyE (some (.int r)) s')) {x1 : Int32} {x2 : Int32} {x3 : Int32} {x4 : Int32} {x5 : Int32} {x6 : Int32} {x7 : Int32} {x8 : Int32} {x9 : Int32} {s : zy_S} {r : Int32} {s' : zy_S}  (h : zyF105_197 g105 k55 x1 x2 x3 x4 x5 x6 x7 x8 x9 s = some (r, s')) : zyR X (d + 1) 105 197 [some (.ref (15 + 3)), some (.int x1), some (.int x2), some (.int x3), some (.int x4), some (.int x5), some (.int x6), some (.int x7), some (.int x8), some (.int x9), none, none, none, none] [] s (zyE (some (.int r)) s') := by
  unfold zyF105_197 at h
  refine zy_22 rfl rfl rfl rfl (show zyR _ _ _ _ [some (.ref (15 + 3)), some (.int x1), some (.int x2), some (.int x3), some (.int x4), some (.int x5), some (.int x6), some (.int x7), some (.int x8), some (.int (x9 + (1 : Int32))), none, none, none, none] [] _ _ from ?_)
  refine zy_6 rfl (show zyR _ _ _ _ [some (.ref (15 + 3)), some (.int x1), some (.int x2), some (.int x3), some (.int x4), some (.int x5), some (.int x6), some (.int x7), some (.int x8), some (.int (x9 + (1 : Int32))), none, none, none, none] [] _ _ from ?_)
  exact zy_sub (show zy_le [some (.ref (15 + 3)), some (.int x1), some (.int x2), some (.int x3), some (.int x4), some (.int x5), some (.int x6), some (.int x7), some (.int x8), some (.int (x9 + (1 : Int32))), none, none, none, none] [some (.ref (15 + 3)), some (.int x1), some (.int x2), some (.int x3), some (.int x4), some (.int x5), some (.int x6), some (.int x7), some (.int x8), some (.int (x9 + (1 : Int32))), none, none, none, none] from ⟨rfl, ⟨rfl, ⟨rfl, ⟨rfl, ⟨rfl, ⟨rfl, ⟨rfl, ⟨rfl, ⟨rfl, ⟨rfl, trivial⟩⟩⟩⟩⟩⟩⟩⟩⟩⟩) (hk55 x1 x2 x3 x4 x5 x6 x7 x8 (x9 + (1 : Int32)) s _ _ h)
noncomputable def zyF105_189 (g105 : Int32 → Int32 → Int32 → Int32 → zy_S → Option (Int32 × zy_S)) (k55 : Int32 → Int32 → Int32 → Int32 → Int32 → Int32 → Int32 → Int32 → Int32 → zy_S → Option (Int32 × zy_S)) (x1 : Int32) (x2 : Int32) (x3 : Int32) (x4 : Int32) (x5 : Int32) (x6 : Int32) (x9 : Int32) (x13 : Int32) (s : zy_S) : Option (Int32 × zy_S) :=
zyF105_197 g105 k55 x1 x2 x3 x4 x5 x6 x9 x13 x9 s
theorem zyC105_189 {X : zx_X} {d : Nat} {g105 : Int32 → Int32 → Int32 → Int32 → zy_S → Option (Int32 × zy_S)} {k55 : Int32 → Int32 → Int32 → Int32 → Int32 → Int32 → Int32 → Int32 → Int32 → zy_S → Option (Int32 × zy_S)} (hd : 5 ≤ d) (hg105 : ∀ (x1 : Int32) (x2 : Int32) (x3 : Int32) (x4 : Int32) (s : zy_S) (r : Int32) (s' : zy_S), g105 x1 x2 x3 x4 s = some (r, s') → zyR X d 105 0 [some (.ref (15 + 3)), some (.int x1), some (.int x2), some (.int x3), some (.int x4), none, none, none, none, none, none, none, none, none] [] s (zyE (some (.int r)) s')) (hk55 : ∀ (x1 : Int32) (x2 : Int32) (x3 : Int32) (x4 : Int32) (x5 : Int32) (x6 : Int32) (x7 : Int32) (x8 : Int32) (x9 : Int32) (s : zy_S) (r : Int32) (s' : zy_S), k55 x1 x2 x3 x4 x5 x6 x7 x8 x9 s = some (r, s') → zyR X (d + 1) 105 55 [some (.ref (15 + 3)), some (.int x1), some (.int x2), some (.int x3), some (.int x4), some (.int x5), some (.int x6), some (.int x7), some (.int x8), some (.int x9), none, none, none, none] [] s (zyE (some (.int r)) s')) {x1 : Int32} {x2 : Int32} {x3 : Int32} {x4 : Int32} {x5 : Int32} {x6 : Int32} {x9 : Int32} {x13 : Int32} {s : zy_S} {r : Int32} {s' : zy_S}  (h : zyF105_189 g105 k55 x1 x2 x3 x4 x5 x6 x9 x13 s = some (r, s')) : zyR X (d + 1) 105 189 [some (.ref (15 + 3)), some (.int x1), some (.int x2), some (.int x3), some (.int x4), some (.int x5), some (.int x6), none, none, some (.int x9), none, none, none, some (.int x13)] [] s (zyE (some (.int r)) s') := by
  unfold zyF105_189 at h
  refine zy_2 rfl rfl (show zyR _ _ _ _ [some (.ref (15 + 3)), some (.int x1), some (.int x2), some (.int x3), some (.int x4), some (.int x5), some (.int x6), none, none, some (.int x9), none, none, none, some (.int x13)] [.int x9] _ _ from ?_)
  refine zy_23 rfl rfl (show zyR _ _ _ _ [some (.ref (15 + 3)), some (.int x1), some (.int x2), some (.int x3), some (.int x4), some (.int x5), some (.int x6), some (.int x9), none, some (.int x9), none, none, none, some (.int x13)] [] _ _ from ?_)
  refine zy_2 rfl rfl (show zyR _ _ _ _ [some (.ref (15 + 3)), some (.int x1), some (.int x2), some (.int x3), some (.int x4), some (.int x5), some (.int x6), some (.int x9), none, some (.int x9), none, none, none, some (.int x13)] [.int x13] _ _ from ?_)
  refine zy_23 rfl rfl (show zyR _ _ _ _ [some (.ref (15 + 3)), some (.int x1), some (.int x2), some (.int x3), some (.int x4), some (.int x5), some (.int x6), some (.int x9), some (.int x13), some (.int x9), none, none, none, some (.int x13)] [] _ _ from ?_)
  exact zy_sub (show zy_le [some (.ref (15 + 3)), some (.int x1), some (.int x2), some (.int x3), some (.int x4), some (.int x5), some (.int x6), some (.int x9), some (.int x13), some (.int x9), none, none, none, none] [some (.ref (15 + 3)), some (.int x1), some (.int x2), some (.int x3), some (.int x4), some (.int x5), some (.int x6), some (.int x9), some (.int x13), some (.int x9), none, none, none, some (.int x13)] from ⟨rfl, ⟨rfl, ⟨rfl, ⟨rfl, ⟨rfl, ⟨rfl, ⟨rfl, ⟨rfl, ⟨rfl, ⟨rfl, trivial⟩⟩⟩⟩⟩⟩⟩⟩⟩⟩) (zyC105_197 hd hg105 hk55 h)
noncomputable def zyF105_101 (g105 : Int32 → Int32 → Int32 → Int32 → zy_S → Option (Int32 × zy_S)) (k55 : Int32 → Int32 → Int32 → Int32 → Int32 → Int32 → Int32 → Int32 → Int32 → zy_S → Option (Int32 × zy_S)) (x1 : Int32) (x2 : Int32) (x3 : Int32) (x4 : Int32) (x5 : Int32) (x6 : Int32) (x7 : Int32) (x8 : Int32) (x9 : Int32) (y0 : Int32) (s : zy_S) : Option (Int32 × zy_S) :=
(zyF55 ((x9 / (4 : Int32)) - (x9 / (4 : Int32)) / (6 : Int32) * (6 : Int32)) y0 (x3 &&& y0) s).bind fun p1 =>
(zyF55 ((x9 / (4 : Int32)) - (x9 / (4 : Int32)) / (6 : Int32) * (6 : Int32)) x2 x3 p1.2).bind fun p2 =>
(g105 (x1 - (1 : Int32)) y0 (x3 &&& y0) (x4 + (p1.1 - p2.1)) p2.2).bind fun p3 =>
if x7 = (-1 : Int32) then
zyF105_189 g105 k55 x1 x2 x3 x4 x5 x6 x9 p3.1 p3.2
else
if x5 = 0 then
if p3.1 ≤ x8 then
zyF105_197 g105 k55 x1 x2 x3 x4 x5 x6 x7 x8 x9 p3.2
else
zyF105_189 g105 k55 x1 x2 x3 x4 x5 x6 x9 p3.1 p3.2
else
if x8 ≤ p3.1 then
zyF105_197 g105 k55 x1 x2 x3 x4 x5 x6 x7 x8 x9 p3.2
else
zyF105_189 g105 k55 x1 x2 x3 x4 x5 x6 x9 p3.1 p3.2
theorem zyC105_101 {X : zx_X} {d : Nat} {g105 : Int32 → Int32 → Int32 → Int32 → zy_S → Option (Int32 × zy_S)} {k55 : Int32 → Int32 → Int32 → Int32 → Int32 → Int32 → Int32 → Int32 → Int32 → zy_S → Option (Int32 × zy_S)} (hd : 5 ≤ d) (hg105 : ∀ (x1 : Int32) (x2 : Int32) (x3 : Int32) (x4 : Int32) (s : zy_S) (r : Int32) (s' : zy_S), g105 x1 x2 x3 x4 s = some (r, s') → zyR X d 105 0 [some (.ref (15 + 3)), some (.int x1), some (.int x2), some (.int x3), some (.int x4), none, none, none, none, none, none, none, none, none] [] s (zyE (some (.int r)) s')) (hk55 : ∀ (x1 : Int32) (x2 : Int32) (x3 : Int32) (x4 : Int32) (x5 : Int32) (x6 : Int32) (x7 : Int32) (x8 : Int32) (x9 : Int32) (s : zy_S) (r : Int32) (s' : zy_S), k55 x1 x2 x3 x4 x5 x6 x7 x8 x9 s = some (r, s') → zyR X (d + 1) 105 55 [some (.ref (15 + 3)), some (.int x1), some (.int x2), some (.int x3), some (.int x4), some (.int x5), some (.int x6), some (.int x7), some (.int x8), some (.int x9), none, none, none, none] [] s (zyE (some (.int r)) s')) {x1 : Int32} {x2 : Int32} {x3 : Int32} {x4 : Int32} {x5 : Int32} {x6 : Int32} {x7 : Int32} {x8 : Int32} {x9 : Int32} {y0 : Int32} {s : zy_S} {r : Int32} {s' : zy_S}  (h : zyF105_101 g105 k55 x1 x2 x3 x4 x5 x6 x7 x8 x9 y0 s = some (r, s')) : zyR X (d + 1) 105 101 [some (.ref (15 + 3)), some (.int x1), some (.int x2), some (.int x3), some (.int x4), some (.int x5), some (.int x6), some (.int x7), some (.int x8), some (.int x9), none, none, none, none] [.int y0] s (zyE (some (.int r)) s') := by
  unfold zyF105_101 at h
  refine zy_23 rfl rfl (show zyR _ _ _ _ [some (.ref (15 + 3)), some (.int x1), some (.int x2), some (.int x3), some (.int x4), some (.int x5), some (.int x6), some (.int x7), some (.int x8), some (.int x9), some (.int y0), none, none, none] [] _ _ from ?_)
  refine zy_2 rfl rfl (show zyR _ _ _ _ [some (.ref (15 + 3)), some (.int x1), some (.int x2), some (.int x3), some (.int x4), some (.int x5), some (.int x6), some (.int x7), some (.int x8), some (.int x9), some (.int y0), none, none, none] [.int x9] _ _ from ?_)
  refine zy_3 rfl rfl (show zyR _ _ _ _ [some (.ref (15 + 3)), some (.int x1), some (.int x2), some (.int x3), some (.int x4), some (.int x5), some (.int x6), some (.int x7), some (.int x8), some (.int x9), some (.int y0), none, none, none] [.int (4 : Int32), .int x9] _ _ from ?_)
  refine zy_19 rfl (by decide) (show zyR _ _ _ _ [some (.ref (15 + 3)), some (.int x1), some (.int x2), some (.int x3), some (.int x4), some (.int x5), some (.int x6), some (.int x7), some (.int x8), some (.int x9), some (.int y0), none, none, none] [.int (x9 / (4 : Int32))] _ _ from ?_)
  refine zy_3 rfl rfl (show zyR _ _ _ _ [some (.ref (15 + 3)), some (.int x1), some (.int x2), some (.int x3), some (.int x4), some (.int x5), some (.int x6), some (.int x7), some (.int x8), some (.int x9), some (.int y0), none, none, none] [.int (6 : Int32), .int (x9 / (4 : Int32))] _ _ from ?_)
  refine zy_20 rfl (by decide) (show zyR _ _ _ _ [some (.ref (15 + 3)), some (.int x1), some (.int x2), some (.int x3), some (.int x4), some (.int x5), some (.int x6), some (.int x7), some (.int x8), some (.int x9), some (.int y0), none, none, none] [.int ((x9 / (4 : Int32)) - (x9 / (4 : Int32)) / (6 : Int32) * (6 : Int32))] _ _ from ?_)
  refine zy_23 rfl rfl (show zyR _ _ _ _ [some (.ref (15 + 3)), some (.int x1), some (.int x2), some (.int x3), some (.int x4), some (.int x5), some (.int x6), some (.int x7), some (.int x8), some (.int x9), some (.int y0), some (.int ((x9 / (4 : Int32)) - (x9 / (4 : Int32)) / (6 : Int32) * (6 : Int32))), none, none] [] _ _ from ?_)
  refine zy_0 rfl rfl (show zyR _ _ _ _ [some (.ref (15 + 3)), some (.int x1), some (.int x2), some (.int x3), some (.int x4), some (.int x5), some (.int x6), some (.int x7), some (.int x8), some (.int x9), some (.int y0), some (.int ((x9 / (4 : Int32)) - (x9 / (4 : Int32)) / (6 : Int32) * (6 : Int32))), none, none] [.ref (15 + 3)] _ _ from ?_)
  refine zy_1r (c := 15) rfl rfl rfl (show zyR _ _ _ _ [some (.ref (15 + 3)), some (.int x1), some (.int x2), some (.int x3), some (.int x4), some (.int x5), some (.int x6), some (.int x7), some (.int x8), some (.int x9), some (.int y0), some (.int ((x9 / (4 : Int32)) - (x9 / (4 : Int32)) / (6 : Int32) * (6 : Int32))), none, none] [.ref (12 + 3)] _ _ from ?_)
  refine zy_2 rfl rfl (show zyR _ _ _ _ [some (.ref (15 + 3)), some (.int x1), some (.int x2), some (.int x3), some (.int x4), some (.int x5), some (.int x6), some (.int x7), some (.int x8), some (.int x9), some (.int y0), some (.int ((x9 / (4 : Int32)) - (x9 / (4 : Int32)) / (6 : Int32) * (6 : Int32))), none, none] [.int ((x9 / (4 : Int32)) - (x9 / (4 : Int32)) / (6 : Int32) * (6 : Int32)), .ref (12 + 3)] _ _ from ?_)
  refine zy_2 rfl rfl (show zyR _ _ _ _ [some (.ref (15 + 3)), some (.int x1), some (.int x2), some (.int x3), some (.int x4), some (.int x5), some (.int x6), some (.int x7), some (.int x8), some (.int x9), some (.int y0), some (.int ((x9 / (4 : Int32)) - (x9 / (4 : Int32)) / (6 : Int32) * (6 : Int32))), none, none] [.int y0, .int ((x9 / (4 : Int32)) - (x9 / (4 : Int32)) / (6 : Int32) * (6 : Int32)), .ref (12 + 3)] _ _ from ?_)
  refine zy_2 rfl rfl (show zyR _ _ _ _ [some (.ref (15 + 3)), some (.int x1), some (.int x2), some (.int x3), some (.int x4), some (.int x5), some (.int x6), some (.int x7), some (.int x8), some (.int x9), some (.int y0), some (.int ((x9 / (4 : Int32)) - (x9 / (4 : Int32)) / (6 : Int32) * (6 : Int32))), none, none] [.int x3, .int y0, .int ((x9 / (4 : Int32)) - (x9 / (4 : Int32)) / (6 : Int32) * (6 : Int32)), .ref (12 + 3)] _ _ from ?_)
  refine zy_2 rfl rfl (show zyR _ _ _ _ [some (.ref (15 + 3)), some (.int x1), some (.int x2), some (.int x3), some (.int x4), some (.int x5), some (.int x6), some (.int x7), some (.int x8), some (.int x9), some (.int y0), some (.int ((x9 / (4 : Int32)) - (x9 / (4 : Int32)) / (6 : Int32) * (6 : Int32))), none, none] [.int y0, .int x3, .int y0, .int ((x9 / (4 : Int32)) - (x9 / (4 : Int32)) / (6 : Int32) * (6 : Int32)), .ref (12 + 3)] _ _ from ?_)
  refine zy_13 rfl (show zyR _ _ _ _ [some (.ref (15 + 3)), some (.int x1), some (.int x2), some (.int x3), some (.int x4), some (.int x5), some (.int x6), some (.int x7), some (.int x8), some (.int x9), some (.int y0), some (.int ((x9 / (4 : Int32)) - (x9 / (4 : Int32)) / (6 : Int32) * (6 : Int32))), none, none] [.int (x3 &&& y0), .int y0, .int ((x9 / (4 : Int32)) - (x9 / (4 : Int32)) / (6 : Int32) * (6 : Int32)), .ref (12 + 3)] _ _ from ?_)
  obtain ⟨p1, hp1, h⟩ := zy_bind h
  refine zy_5 (c := 12) (as := [.int ((x9 / (4 : Int32)) - (x9 / (4 : Int32)) / (6 : Int32) * (6 : Int32)), .int y0, .int (x3 &&& y0)]) (rest := []) (L := [some (.ref (12 + 3)), some (.int ((x9 / (4 : Int32)) - (x9 / (4 : Int32)) / (6 : Int32) * (6 : Int32))), some (.int y0), some (.int (x3 &&& y0)), none]) (d' := 5) rfl rfl rfl (Nat.le_of_ble_eq_true rfl) (by omega) rfl (Nat.le_of_ble_eq_true rfl) rfl rfl (zyC55 hp1) ?_
  show zyR _ _ _ _ [some (.ref (15 + 3)), some (.int x1), some (.int x2), some (.int x3), some (.int x4), some (.int x5), some (.int x6), some (.int x7), some (.int x8), some (.int x9), some (.int y0), some (.int ((x9 / (4 : Int32)) - (x9 / (4 : Int32)) / (6 : Int32) * (6 : Int32))), none, none] [.int p1.1] _ _
  refine zy_0 rfl rfl (show zyR _ _ _ _ [some (.ref (15 + 3)), some (.int x1), some (.int x2), some (.int x3), some (.int x4), some (.int x5), some (.int x6), some (.int x7), some (.int x8), some (.int x9), some (.int y0), some (.int ((x9 / (4 : Int32)) - (x9 / (4 : Int32)) / (6 : Int32) * (6 : Int32))), none, none] [.ref (15 + 3), .int p1.1] _ _ from ?_)
  refine zy_1r (c := 15) rfl rfl rfl (show zyR _ _ _ _ [some (.ref (15 + 3)), some (.int x1), some (.int x2), some (.int x3), some (.int x4), some (.int x5), some (.int x6), some (.int x7), some (.int x8), some (.int x9), some (.int y0), some (.int ((x9 / (4 : Int32)) - (x9 / (4 : Int32)) / (6 : Int32) * (6 : Int32))), none, none] [.ref (12 + 3), .int p1.1] _ _ from ?_)
  refine zy_2 rfl rfl (show zyR _ _ _ _ [some (.ref (15 + 3)), some (.int x1), some (.int x2), some (.int x3), some (.int x4), some (.int x5), some (.int x6), some (.int x7), some (.int x8), some (.int x9), some (.int y0), some (.int ((x9 / (4 : Int32)) - (x9 / (4 : Int32)) / (6 : Int32) * (6 : Int32))), none, none] [.int ((x9 / (4 : Int32)) - (x9 / (4 : Int32)) / (6 : Int32) * (6 : Int32)), .ref (12 + 3), .int p1.1] _ _ from ?_)
  refine zy_2 rfl rfl (show zyR _ _ _ _ [some (.ref (15 + 3)), some (.int x1), some (.int x2), some (.int x3), some (.int x4), some (.int x5), some (.int x6), some (.int x7), some (.int x8), some (.int x9), some (.int y0), some (.int ((x9 / (4 : Int32)) - (x9 / (4 : Int32)) / (6 : Int32) * (6 : Int32))), none, none] [.int x2, .int ((x9 / (4 : Int32)) - (x9 / (4 : Int32)) / (6 : Int32) * (6 : Int32)), .ref (12 + 3), .int p1.1] _ _ from ?_)
  refine zy_2 rfl rfl (show zyR _ _ _ _ [some (.ref (15 + 3)), some (.int x1), some (.int x2), some (.int x3), some (.int x4), some (.int x5), some (.int x6), some (.int x7), some (.int x8), some (.int x9), some (.int y0), some (.int ((x9 / (4 : Int32)) - (x9 / (4 : Int32)) / (6 : Int32) * (6 : Int32))), none, none] [.int x3, .int x2, .int ((x9 / (4 : Int32)) - (x9 / (4 : Int32)) / (6 : Int32) * (6 : Int32)), .ref (12 + 3), .int p1.1] _ _ from ?_)
  obtain ⟨p2, hp2, h⟩ := zy_bind h
  refine zy_5 (c := 12) (as := [.int ((x9 / (4 : Int32)) - (x9 / (4 : Int32)) / (6 : Int32) * (6 : Int32)), .int x2, .int x3]) (rest := [.int p1.1]) (L := [some (.ref (12 + 3)), some (.int ((x9 / (4 : Int32)) - (x9 / (4 : Int32)) / (6 : Int32) * (6 : Int32))), some (.int x2), some (.int x3), none]) (d' := 5) rfl rfl rfl (Nat.le_of_ble_eq_true rfl) (by omega) rfl (Nat.le_of_ble_eq_true rfl) rfl rfl (zyC55 hp2) ?_
  show zyR _ _ _ _ [some (.ref (15 + 3)), some (.int x1), some (.int x2), some (.int x3), some (.int x4), some (.int x5), some (.int x6), some (.int x7), some (.int x8), some (.int x9), some (.int y0), some (.int ((x9 / (4 : Int32)) - (x9 / (4 : Int32)) / (6 : Int32) * (6 : Int32))), none, none] [.int p2.1, .int p1.1] _ _
  refine zy_11 rfl (show zyR _ _ _ _ [some (.ref (15 + 3)), some (.int x1), some (.int x2), some (.int x3), some (.int x4), some (.int x5), some (.int x6), some (.int x7), some (.int x8), some (.int x9), some (.int y0), some (.int ((x9 / (4 : Int32)) - (x9 / (4 : Int32)) / (6 : Int32) * (6 : Int32))), none, none] [.int (p1.1 - p2.1)] _ _ from ?_)
  refine zy_23 rfl rfl (show zyR _ _ _ _ [some (.ref (15 + 3)), some (.int x1), some (.int x2), some (.int x3), some (.int x4), some (.int x5), some (.int x6), some (.int x7), some (.int x8), some (.int x9), some (.int y0), some (.int ((x9 / (4 : Int32)) - (x9 / (4 : Int32)) / (6 : Int32) * (6 : Int32))), some (.int (p1.1 - p2.1)), none] [] _ _ from ?_)
  refine zy_0 rfl rfl (show zyR _ _ _ _ [some (.ref (15 + 3)), some (.int x1), some (.int x2), some (.int x3), some (.int x4), some (.int x5), some (.int x6), some (.int x7), some (.int x8), some (.int x9), some (.int y0), some (.int ((x9 / (4 : Int32)) - (x9 / (4 : Int32)) / (6 : Int32) * (6 : Int32))), some (.int (p1.1 - p2.1)), none] [.ref (15 + 3)] _ _ from ?_)
  refine zy_2 rfl rfl (show zyR _ _ _ _ [some (.ref (15 + 3)), some (.int x1), some (.int x2), some (.int x3), some (.int x4), some (.int x5), some (.int x6), some (.int x7), some (.int x8), some (.int x9), some (.int y0), some (.int ((x9 / (4 : Int32)) - (x9 / (4 : Int32)) / (6 : Int32) * (6 : Int32))), some (.int (p1.1 - p2.1)), none] [.int x1, .ref (15 + 3)] _ _ from ?_)
  refine zy_3 rfl rfl (show zyR _ _ _ _ [some (.ref (15 + 3)), some (.int x1), some (.int x2), some (.int x3), some (.int x4), some (.int x5), some (.int x6), some (.int x7), some (.int x8), some (.int x9), some (.int y0), some (.int ((x9 / (4 : Int32)) - (x9 / (4 : Int32)) / (6 : Int32) * (6 : Int32))), some (.int (p1.1 - p2.1)), none] [.int (1 : Int32), .int x1, .ref (15 + 3)] _ _ from ?_)
  refine zy_11 rfl (show zyR _ _ _ _ [some (.ref (15 + 3)), some (.int x1), some (.int x2), some (.int x3), some (.int x4), some (.int x5), some (.int x6), some (.int x7), some (.int x8), some (.int x9), some (.int y0), some (.int ((x9 / (4 : Int32)) - (x9 / (4 : Int32)) / (6 : Int32) * (6 : Int32))), some (.int (p1.1 - p2.1)), none] [.int (x1 - (1 : Int32)), .ref (15 + 3)] _ _ from ?_)
  refine zy_2 rfl rfl (show zyR _ _ _ _ [some (.ref (15 + 3)), some (.int x1), some (.int x2), some (.int x3), some (.int x4), some (.int x5), some (.int x6), some (.int x7), some (.int x8), some (.int x9), some (.int y0), some (.int ((x9 / (4 : Int32)) - (x9 / (4 : Int32)) / (6 : Int32) * (6 : Int32))), some (.int (p1.1 - p2.1)), none] [.int y0, .int (x1 - (1 : Int32)), .ref (15 + 3)] _ _ from ?_)
  refine zy_2 rfl rfl (show zyR _ _ _ _ [some (.ref (15 + 3)), some (.int x1), some (.int x2), some (.int x3), some (.int x4), some (.int x5), some (.int x6), some (.int x7), some (.int x8), some (.int x9), some (.int y0), some (.int ((x9 / (4 : Int32)) - (x9 / (4 : Int32)) / (6 : Int32) * (6 : Int32))), some (.int (p1.1 - p2.1)), none] [.int x3, .int y0, .int (x1 - (1 : Int32)), .ref (15 + 3)] _ _ from ?_)
  refine zy_2 rfl rfl (show zyR _ _ _ _ [some (.ref (15 + 3)), some (.int x1), some (.int x2), some (.int x3), some (.int x4), some (.int x5), some (.int x6), some (.int x7), some (.int x8), some (.int x9), some (.int y0), some (.int ((x9 / (4 : Int32)) - (x9 / (4 : Int32)) / (6 : Int32) * (6 : Int32))), some (.int (p1.1 - p2.1)), none] [.int y0, .int x3, .int y0, .int (x1 - (1 : Int32)), .ref (15 + 3)] _ _ from ?_)
  refine zy_13 rfl (show zyR _ _ _ _ [some (.ref (15 + 3)), some (.int x1), some (.int x2), some (.int x3), some (.int x4), some (.int x5), some (.int x6), some (.int x7), some (.int x8), some (.int x9), some (.int y0), some (.int ((x9 / (4 : Int32)) - (x9 / (4 : Int32)) / (6 : Int32) * (6 : Int32))), some (.int (p1.1 - p2.1)), none] [.int (x3 &&& y0), .int y0, .int (x1 - (1 : Int32)), .ref (15 + 3)] _ _ from ?_)
  refine zy_2 rfl rfl (show zyR _ _ _ _ [some (.ref (15 + 3)), some (.int x1), some (.int x2), some (.int x3), some (.int x4), some (.int x5), some (.int x6), some (.int x7), some (.int x8), some (.int x9), some (.int y0), some (.int ((x9 / (4 : Int32)) - (x9 / (4 : Int32)) / (6 : Int32) * (6 : Int32))), some (.int (p1.1 - p2.1)), none] [.int x4, .int (x3 &&& y0), .int y0, .int (x1 - (1 : Int32)), .ref (15 + 3)] _ _ from ?_)
  refine zy_2 rfl rfl (show zyR _ _ _ _ [some (.ref (15 + 3)), some (.int x1), some (.int x2), some (.int x3), some (.int x4), some (.int x5), some (.int x6), some (.int x7), some (.int x8), some (.int x9), some (.int y0), some (.int ((x9 / (4 : Int32)) - (x9 / (4 : Int32)) / (6 : Int32) * (6 : Int32))), some (.int (p1.1 - p2.1)), none] [.int (p1.1 - p2.1), .int x4, .int (x3 &&& y0), .int y0, .int (x1 - (1 : Int32)), .ref (15 + 3)] _ _ from ?_)
  refine zy_10 rfl (show zyR _ _ _ _ [some (.ref (15 + 3)), some (.int x1), some (.int x2), some (.int x3), some (.int x4), some (.int x5), some (.int x6), some (.int x7), some (.int x8), some (.int x9), some (.int y0), some (.int ((x9 / (4 : Int32)) - (x9 / (4 : Int32)) / (6 : Int32) * (6 : Int32))), some (.int (p1.1 - p2.1)), none] [.int (x4 + (p1.1 - p2.1)), .int (x3 &&& y0), .int y0, .int (x1 - (1 : Int32)), .ref (15 + 3)] _ _ from ?_)
  obtain ⟨p3, hp3, h⟩ := zy_bind h
  refine zy_5 (c := 15) (as := [.int (x1 - (1 : Int32)), .int y0, .int (x3 &&& y0), .int (x4 + (p1.1 - p2.1))]) (rest := []) (L := [some (.ref (15 + 3)), some (.int (x1 - (1 : Int32))), some (.int y0), some (.int (x3 &&& y0)), some (.int (x4 + (p1.1 - p2.1))), none, none, none, none, none, none, none, none, none]) (d' := d) rfl rfl rfl (Nat.le_of_ble_eq_true rfl) (by omega) rfl (Nat.le_of_ble_eq_true rfl) rfl rfl (hg105 (x1 - (1 : Int32)) y0 (x3 &&& y0) (x4 + (p1.1 - p2.1)) p2.2 _ _ hp3) ?_
  show zyR _ _ _ _ [some (.ref (15 + 3)), some (.int x1), some (.int x2), some (.int x3), some (.int x4), some (.int x5), some (.int x6), some (.int x7), some (.int x8), some (.int x9), some (.int y0), some (.int ((x9 / (4 : Int32)) - (x9 / (4 : Int32)) / (6 : Int32) * (6 : Int32))), some (.int (p1.1 - p2.1)), none] [.int p3.1] _ _
  refine zy_23 rfl rfl (show zyR _ _ _ _ [some (.ref (15 + 3)), some (.int x1), some (.int x2), some (.int x3), some (.int x4), some (.int x5), some (.int x6), some (.int x7), some (.int x8), some (.int x9), some (.int y0), some (.int ((x9 / (4 : Int32)) - (x9 / (4 : Int32)) / (6 : Int32) * (6 : Int32))), some (.int (p1.1 - p2.1)), some (.int p3.1)] [] _ _ from ?_)
  refine zy_2 rfl rfl (show zyR _ _ _ _ [some (.ref (15 + 3)), some (.int x1), some (.int x2), some (.int x3), some (.int x4), some (.int x5), some (.int x6), some (.int x7), some (.int x8), some (.int x9), some (.int y0), some (.int ((x9 / (4 : Int32)) - (x9 / (4 : Int32)) / (6 : Int32) * (6 : Int32))), some (.int (p1.1 - p2.1)), some (.int p3.1)] [.int x7] _ _ from ?_)
  refine zy_3 rfl rfl (show zyR _ _ _ _ [some (.ref (15 + 3)), some (.int x1), some (.int x2), some (.int x3), some (.int x4), some (.int x5), some (.int x6), some (.int x7), some (.int x8), some (.int x9), some (.int y0), some (.int ((x9 / (4 : Int32)) - (x9 / (4 : Int32)) / (6 : Int32) * (6 : Int32))), some (.int (p1.1 - p2.1)), some (.int p3.1)] [.int (-1 : Int32), .int x7] _ _ from ?_)
  refine zy_25_0 rfl (fun b7 => (show zyR _ _ _ _ [some (.ref (15 + 3)), some (.int x1), some (.int x2), some (.int x3), some (.int x4), some (.int x5), some (.int x6), some (.int x7), some (.int x8), some (.int x9), some (.int y0), some (.int ((x9 / (4 : Int32)) - (x9 / (4 : Int32)) / (6 : Int32) * (6 : Int32))), some (.int (p1.1 - p2.1)), some (.int p3.1)] [] _ _ from ?_)) (fun b7 => (show zyR _ _ _ _ [some (.ref (15 + 3)), some (.int x1), some (.int x2), some (.int x3), some (.int x4), some (.int x5), some (.int x6), some (.int x7), some (.int x8), some (.int x9), some (.int y0), some (.int ((x9 / (4 : Int32)) - (x9 / (4 : Int32)) / (6 : Int32) * (6 : Int32))), some (.int (p1.1 - p2.1)), some (.int p3.1)] [] _ _ from ?_))
  · replace h := zy_ifp h b7
    exact zy_sub (show zy_le [some (.ref (15 + 3)), some (.int x1), some (.int x2), some (.int x3), some (.int x4), some (.int x5), some (.int x6), none, none, some (.int x9), none, none, none, some (.int p3.1)] [some (.ref (15 + 3)), some (.int x1), some (.int x2), some (.int x3), some (.int x4), some (.int x5), some (.int x6), some (.int x7), some (.int x8), some (.int x9), some (.int y0), some (.int ((x9 / (4 : Int32)) - (x9 / (4 : Int32)) / (6 : Int32) * (6 : Int32))), some (.int (p1.1 - p2.1)), some (.int p3.1)] from ⟨rfl, ⟨rfl, ⟨rfl, ⟨rfl, ⟨rfl, ⟨rfl, ⟨rfl, ⟨rfl, ⟨rfl, trivial⟩⟩⟩⟩⟩⟩⟩⟩⟩) (zyC105_189 hd hg105 hk55 h)
  · replace h := zy_ifn h b7
    refine zy_2 rfl rfl (show zyR _ _ _ _ [some (.ref (15 + 3)), some (.int x1), some (.int x2), some (.int x3), some (.int x4), some (.int x5), some (.int x6), some (.int x7), some (.int x8), some (.int x9), some (.int y0), some (.int ((x9 / (4 : Int32)) - (x9 / (4 : Int32)) / (6 : Int32) * (6 : Int32))), some (.int (p1.1 - p2.1)), some (.int p3.1)] [.int x5] _ _ from ?_)
    refine zy_24_0 rfl (fun b6 => (show zyR _ _ _ _ [some (.ref (15 + 3)), some (.int x1), some (.int x2), some (.int x3), some (.int x4), some (.int x5), some (.int x6), some (.int x7), some (.int x8), some (.int x9), some (.int y0), some (.int ((x9 / (4 : Int32)) - (x9 / (4 : Int32)) / (6 : Int32) * (6 : Int32))), some (.int (p1.1 - p2.1)), some (.int p3.1)] [] _ _ from ?_)) (fun b6 => (show zyR _ _ _ _ [some (.ref (15 + 3)), some (.int x1), some (.int x2), some (.int x3), some (.int x4), some (.int x5), some (.int x6), some (.int x7), some (.int x8), some (.int x9), some (.int y0), some (.int ((x9 / (4 : Int32)) - (x9 / (4 : Int32)) / (6 : Int32) * (6 : Int32))), some (.int (p1.1 - p2.1)), some (.int p3.1)] [] _ _ from ?_))
    · replace h := zy_ifp h b6
      refine zy_2 rfl rfl (show zyR _ _ _ _ [some (.ref (15 + 3)), some (.int x1), some (.int x2), some (.int x3), some (.int x4), some (.int x5), some (.int x6), some (.int x7), some (.int x8), some (.int x9), some (.int y0), some (.int ((x9 / (4 : Int32)) - (x9 / (4 : Int32)) / (6 : Int32) * (6 : Int32))), some (.int (p1.1 - p2.1)), some (.int p3.1)] [.int p3.1] _ _ from ?_)
      refine zy_2 rfl rfl (show zyR _ _ _ _ [some (.ref (15 + 3)), some (.int x1), some (.int x2), some (.int x3), some (.int x4), some (.int x5), some (.int x6), some (.int x7), some (.int x8), some (.int x9), some (.int y0), some (.int ((x9 / (4 : Int32)) - (x9 / (4 : Int32)) / (6 : Int32) * (6 : Int32))), some (.int (p1.1 - p2.1)), some (.int p3.1)] [.int x8, .int p3.1] _ _ from ?_)
      refine zy_25_5 rfl (fun b4 => (show zyR _ _ _ _ [some (.ref (15 + 3)), some (.int x1), some (.int x2), some (.int x3), some (.int x4), some (.int x5), some (.int x6), some (.int x7), some (.int x8), some (.int x9), some (.int y0), some (.int ((x9 / (4 : Int32)) - (x9 / (4 : Int32)) / (6 : Int32) * (6 : Int32))), some (.int (p1.1 - p2.1)), some (.int p3.1)] [] _ _ from ?_)) (fun b4 => (show zyR _ _ _ _ [some (.ref (15 + 3)), some (.int x1), some (.int x2), some (.int x3), some (.int x4), some (.int x5), some (.int x6), some (.int x7), some (.int x8), some (.int x9), some (.int y0), some (.int ((x9 / (4 : Int32)) - (x9 / (4 : Int32)) / (6 : Int32) * (6 : Int32))), some (.int (p1.1 - p2.1)), some (.int p3.1)] [] _ _ from ?_))
      · replace h := zy_ifp h b4
        exact zy_sub (show zy_le [some (.ref (15 + 3)), some (.int x1), some (.int x2), some (.int x3), some (.int x4), some (.int x5), some (.int x6), some (.int x7), some (.int x8), some (.int x9), none, none, none, none] [some (.ref (15 + 3)), some (.int x1), some (.int x2), some (.int x3), some (.int x4), some (.int x5), some (.int x6), some (.int x7), some (.int x8), some (.int x9), some (.int y0), some (.int ((x9 / (4 : Int32)) - (x9 / (4 : Int32)) / (6 : Int32) * (6 : Int32))), some (.int (p1.1 - p2.1)), some (.int p3.1)] from ⟨rfl, ⟨rfl, ⟨rfl, ⟨rfl, ⟨rfl, ⟨rfl, ⟨rfl, ⟨rfl, ⟨rfl, ⟨rfl, trivial⟩⟩⟩⟩⟩⟩⟩⟩⟩⟩) (zyC105_197 hd hg105 hk55 h)
      · replace h := zy_ifn h b4
        exact zy_sub (show zy_le [some (.ref (15 + 3)), some (.int x1), some (.int x2), some (.int x3), some (.int x4), some (.int x5), some (.int x6), none, none, some (.int x9), none, none, none, some (.int p3.1)] [some (.ref (15 + 3)), some (.int x1), some (.int x2), some (.int x3), some (.int x4), some (.int x5), some (.int x6), some (.int x7), some (.int x8), some (.int x9), some (.int y0), some (.int ((x9 / (4 : Int32)) - (x9 / (4 : Int32)) / (6 : Int32) * (6 : Int32))), some (.int (p1.1 - p2.1)), some (.int p3.1)] from ⟨rfl, ⟨rfl, ⟨rfl, ⟨rfl, ⟨rfl, ⟨rfl, ⟨rfl, ⟨rfl, ⟨rfl, trivial⟩⟩⟩⟩⟩⟩⟩⟩⟩) (zyC105_189 hd hg105 hk55 h)
    · replace h := zy_ifn h b6
      refine zy_2 rfl rfl (show zyR _ _ _ _ [some (.ref (15 + 3)), some (.int x1), some (.int x2), some (.int x3), some (.int x4), some (.int x5), some (.int x6), some (.int x7), some (.int x8), some (.int x9), some (.int y0), some (.int ((x9 / (4 : Int32)) - (x9 / (4 : Int32)) / (6 : Int32) * (6 : Int32))), some (.int (p1.1 - p2.1)), some (.int p3.1)] [.int p3.1] _ _ from ?_)
      refine zy_2 rfl rfl (show zyR _ _ _ _ [some (.ref (15 + 3)), some (.int x1), some (.int x2), some (.int x3), some (.int x4), some (.int x5), some (.int x6), some (.int x7), some (.int x8), some (.int x9), some (.int y0), some (.int ((x9 / (4 : Int32)) - (x9 / (4 : Int32)) / (6 : Int32) * (6 : Int32))), some (.int (p1.1 - p2.1)), some (.int p3.1)] [.int x8, .int p3.1] _ _ from ?_)
      refine zy_25_3 rfl (fun b5 => (show zyR _ _ _ _ [some (.ref (15 + 3)), some (.int x1), some (.int x2), some (.int x3), some (.int x4), some (.int x5), some (.int x6), some (.int x7), some (.int x8), some (.int x9), some (.int y0), some (.int ((x9 / (4 : Int32)) - (x9 / (4 : Int32)) / (6 : Int32) * (6 : Int32))), some (.int (p1.1 - p2.1)), some (.int p3.1)] [] _ _ from ?_)) (fun b5 => (show zyR _ _ _ _ [some (.ref (15 + 3)), some (.int x1), some (.int x2), some (.int x3), some (.int x4), some (.int x5), some (.int x6), some (.int x7), some (.int x8), some (.int x9), some (.int y0), some (.int ((x9 / (4 : Int32)) - (x9 / (4 : Int32)) / (6 : Int32) * (6 : Int32))), some (.int (p1.1 - p2.1)), some (.int p3.1)] [] _ _ from ?_))
      · replace h := zy_ifp h b5
        exact zy_sub (show zy_le [some (.ref (15 + 3)), some (.int x1), some (.int x2), some (.int x3), some (.int x4), some (.int x5), some (.int x6), some (.int x7), some (.int x8), some (.int x9), none, none, none, none] [some (.ref (15 + 3)), some (.int x1), some (.int x2), some (.int x3), some (.int x4), some (.int x5), some (.int x6), some (.int x7), some (.int x8), some (.int x9), some (.int y0), some (.int ((x9 / (4 : Int32)) - (x9 / (4 : Int32)) / (6 : Int32) * (6 : Int32))), some (.int (p1.1 - p2.1)), some (.int p3.1)] from ⟨rfl, ⟨rfl, ⟨rfl, ⟨rfl, ⟨rfl, ⟨rfl, ⟨rfl, ⟨rfl, ⟨rfl, ⟨rfl, trivial⟩⟩⟩⟩⟩⟩⟩⟩⟩⟩) (zyC105_197 hd hg105 hk55 h)
      · replace h := zy_ifn h b5
        refine zy_6 rfl (show zyR _ _ _ _ [some (.ref (15 + 3)), some (.int x1), some (.int x2), some (.int x3), some (.int x4), some (.int x5), some (.int x6), some (.int x7), some (.int x8), some (.int x9), some (.int y0), some (.int ((x9 / (4 : Int32)) - (x9 / (4 : Int32)) / (6 : Int32) * (6 : Int32))), some (.int (p1.1 - p2.1)), some (.int p3.1)] [] _ _ from ?_)
        exact zy_sub (show zy_le [some (.ref (15 + 3)), some (.int x1), some (.int x2), some (.int x3), some (.int x4), some (.int x5), some (.int x6), none, none, some (.int x9), none, none, none, some (.int p3.1)] [some (.ref (15 + 3)), some (.int x1), some (.int x2), some (.int x3), some (.int x4), some (.int x5), some (.int x6), some (.int x7), some (.int x8), some (.int x9), some (.int y0), some (.int ((x9 / (4 : Int32)) - (x9 / (4 : Int32)) / (6 : Int32) * (6 : Int32))), some (.int (p1.1 - p2.1)), some (.int p3.1)] from ⟨rfl, ⟨rfl, ⟨rfl, ⟨rfl, ⟨rfl, ⟨rfl, ⟨rfl, ⟨rfl, ⟨rfl, trivial⟩⟩⟩⟩⟩⟩⟩⟩⟩) (zyC105_189 hd hg105 hk55 h)
noncomputable def zyF105_84 (g105 : Int32 → Int32 → Int32 → Int32 → zy_S → Option (Int32 × zy_S)) (k55 : Int32 → Int32 → Int32 → Int32 → Int32 → Int32 → Int32 → Int32 → Int32 → zy_S → Option (Int32 × zy_S)) (x1 : Int32) (x2 : Int32) (x3 : Int32) (x4 : Int32) (x5 : Int32) (x6 : Int32) (x7 : Int32) (x8 : Int32) (x9 : Int32) (s : zy_S) : Option (Int32 × zy_S) :=
if x9 ≠ (24 : Int32) then
zyF105_101 g105 k55 x1 x2 x3 x4 x5 x6 x7 x8 x9 (x2 ^^^ ((1 : Int32) <<< (x9 &&& 31))) s
else
zyF105_101 g105 k55 x1 x2 x3 x4 x5 x6 x7 x8 x9 x2 s
theorem zyC105_84 {X : zx_X} {d : Nat} {g105 : Int32 → Int32 → Int32 → Int32 → zy_S → Option (Int32 × zy_S)} {k55 : Int32 → Int32 → Int32 → Int32 → Int32 → Int32 → Int32 → Int32 → Int32 → zy_S → Option (Int32 × zy_S)} (hd : 5 ≤ d) (hg105 : ∀ (x1 : Int32) (x2 : Int32) (x3 : Int32) (x4 : Int32) (s : zy_S) (r : Int32) (s' : zy_S), g105 x1 x2 x3 x4 s = some (r, s') → zyR X d 105 0 [some (.ref (15 + 3)), some (.int x1), some (.int x2), some (.int x3), some (.int x4), none, none, none, none, none, none, none, none, none] [] s (zyE (some (.int r)) s')) (hk55 : ∀ (x1 : Int32) (x2 : Int32) (x3 : Int32) (x4 : Int32) (x5 : Int32) (x6 : Int32) (x7 : Int32) (x8 : Int32) (x9 : Int32) (s : zy_S) (r : Int32) (s' : zy_S), k55 x1 x2 x3 x4 x5 x6 x7 x8 x9 s = some (r, s') → zyR X (d + 1) 105 55 [some (.ref (15 + 3)), some (.int x1), some (.int x2), some (.int x3), some (.int x4), some (.int x5), some (.int x6), some (.int x7), some (.int x8), some (.int x9), none, none, none, none] [] s (zyE (some (.int r)) s')) {x1 : Int32} {x2 : Int32} {x3 : Int32} {x4 : Int32} {x5 : Int32} {x6 : Int32} {x7 : Int32} {x8 : Int32} {x9 : Int32} {s : zy_S} {r : Int32} {s' : zy_S}  (h : zyF105_84 g105 k55 x1 x2 x3 x4 x5 x6 x7 x8 x9 s = some (r, s')) : zyR X (d + 1) 105 84 [some (.ref (15 + 3)), some (.int x1), some (.int x2), some (.int x3), some (.int x4), some (.int x5), some (.int x6), some (.int x7), some (.int x8), some (.int x9), none, none, none, none] [] s (zyE (some (.int r)) s') := by
  unfold zyF105_84 at h
  refine zy_2 rfl rfl (show zyR _ _ _ _ [some (.ref (15 + 3)), some (.int x1), some (.int x2), some (.int x3), some (.int x4), some (.int x5), some (.int x6), some (.int x7), some (.int x8), some (.int x9), none, none, none, none] [.int x9] _ _ from ?_)
  refine zy_3 rfl rfl (show zyR _ _ _ _ [some (.ref (15 + 3)), some (.int x1), some (.int x2), some (.int x3), some (.int x4), some (.int x5), some (.int x6), some (.int x7), some (.int x8), some (.int x9), none, none, none, none] [.int (24 : Int32), .int x9] _ _ from ?_)
  refine zy_25_1 rfl (fun b8 => (show zyR _ _ _ _ [some (.ref (15 + 3)), some (.int x1), some (.int x2), some (.int x3), some (.int x4), some (.int x5), some (.int x6), some (.int x7), some (.int x8), some (.int x9), none, none, none, none] [] _ _ from ?_)) (fun b8 => (show zyR _ _ _ _ [some (.ref (15 + 3)), some (.int x1), some (.int x2), some (.int x3), some (.int x4), some (.int x5), some (.int x6), some (.int x7), some (.int x8), some (.int x9), none, none, none, none] [] _ _ from ?_))
  · replace h := zy_ifp h b8
    refine zy_2 rfl rfl (show zyR _ _ _ _ [some (.ref (15 + 3)), some (.int x1), some (.int x2), some (.int x3), some (.int x4), some (.int x5), some (.int x6), some (.int x7), some (.int x8), some (.int x9), none, none, none, none] [.int x2] _ _ from ?_)
    refine zy_3 rfl rfl (show zyR _ _ _ _ [some (.ref (15 + 3)), some (.int x1), some (.int x2), some (.int x3), some (.int x4), some (.int x5), some (.int x6), some (.int x7), some (.int x8), some (.int x9), none, none, none, none] [.int (1 : Int32), .int x2] _ _ from ?_)
    refine zy_2 rfl rfl (show zyR _ _ _ _ [some (.ref (15 + 3)), some (.int x1), some (.int x2), some (.int x3), some (.int x4), some (.int x5), some (.int x6), some (.int x7), some (.int x8), some (.int x9), none, none, none, none] [.int x9, .int (1 : Int32), .int x2] _ _ from ?_)
    refine zy_16 rfl (show zyR _ _ _ _ [some (.ref (15 + 3)), some (.int x1), some (.int x2), some (.int x3), some (.int x4), some (.int x5), some (.int x6), some (.int x7), some (.int x8), some (.int x9), none, none, none, none] [.int ((1 : Int32) <<< (x9 &&& 31)), .int x2] _ _ from ?_)
    refine zy_15 rfl (show zyR _ _ _ _ [some (.ref (15 + 3)), some (.int x1), some (.int x2), some (.int x3), some (.int x4), some (.int x5), some (.int x6), some (.int x7), some (.int x8), some (.int x9), none, none, none, none] [.int (x2 ^^^ ((1 : Int32) <<< (x9 &&& 31)))] _ _ from ?_)
    exact zy_sub (show zy_le [some (.ref (15 + 3)), some (.int x1), some (.int x2), some (.int x3), some (.int x4), some (.int x5), some (.int x6), some (.int x7), some (.int x8), some (.int x9), none, none, none, none] [some (.ref (15 + 3)), some (.int x1), some (.int x2), some (.int x3), some (.int x4), some (.int x5), some (.int x6), some (.int x7), some (.int x8), some (.int x9), none, none, none, none] from ⟨rfl, ⟨rfl, ⟨rfl, ⟨rfl, ⟨rfl, ⟨rfl, ⟨rfl, ⟨rfl, ⟨rfl, ⟨rfl, trivial⟩⟩⟩⟩⟩⟩⟩⟩⟩⟩) (zyC105_101 hd hg105 hk55 h)
  · replace h := zy_ifn h b8
    refine zy_2 rfl rfl (show zyR _ _ _ _ [some (.ref (15 + 3)), some (.int x1), some (.int x2), some (.int x3), some (.int x4), some (.int x5), some (.int x6), some (.int x7), some (.int x8), some (.int x9), none, none, none, none] [.int x2] _ _ from ?_)
    refine zy_6 rfl (show zyR _ _ _ _ [some (.ref (15 + 3)), some (.int x1), some (.int x2), some (.int x3), some (.int x4), some (.int x5), some (.int x6), some (.int x7), some (.int x8), some (.int x9), none, none, none, none] [.int x2] _ _ from ?_)
    exact zy_sub (show zy_le [some (.ref (15 + 3)), some (.int x1), some (.int x2), some (.int x3), some (.int x4), some (.int x5), some (.int x6), some (.int x7), some (.int x8), some (.int x9), none, none, none, none] [some (.ref (15 + 3)), some (.int x1), some (.int x2), some (.int x3), some (.int x4), some (.int x5), some (.int x6), some (.int x7), some (.int x8), some (.int x9), none, none, none, none] from ⟨rfl, ⟨rfl, ⟨rfl, ⟨rfl, ⟨rfl, ⟨rfl, ⟨rfl, ⟨rfl, ⟨rfl, ⟨rfl, trivial⟩⟩⟩⟩⟩⟩⟩⟩⟩⟩) (zyC105_101 hd hg105 hk55 h)
noncomputable def zyF105_55b (g105 : Int32 → Int32 → Int32 → Int32 → zy_S → Option (Int32 × zy_S)) (k55 : Int32 → Int32 → Int32 → Int32 → Int32 → Int32 → Int32 → Int32 → Int32 → zy_S → Option (Int32 × zy_S)) (x1 : Int32) (x2 : Int32) (x3 : Int32) (x4 : Int32) (x5 : Int32) (x6 : Int32) (x7 : Int32) (x8 : Int32) (x9 : Int32) (s : zy_S) : Option (Int32 × zy_S) :=
if (24 : Int32) < x9 then
if x1 ≠ (s.1 15 2) then
some (x8, s)
else
some (x8, (zy_up s 15 3 x7))
else
if x9 = (24 : Int32) then
zyF105_84 g105 k55 x1 x2 x3 x4 x5 x6 x7 x8 x9 s
else
if x6 ≠ 0 then
zyF105_84 g105 k55 x1 x2 x3 x4 x5 x6 x7 x8 x9 s
else
(zyF32 x2 x9 s).bind fun p10 =>
if p10.1 ≠ (1 : Int32) then
zyF105_197 g105 k55 x1 x2 x3 x4 x5 x6 x7 x8 x9 p10.2
else
zyF105_84 g105 k55 x1 x2 x3 x4 x5 x6 x7 x8 x9 p10.2
theorem zyC105_55b {X : zx_X} {d : Nat} {g105 : Int32 → Int32 → Int32 → Int32 → zy_S → Option (Int32 × zy_S)} {k55 : Int32 → Int32 → Int32 → Int32 → Int32 → Int32 → Int32 → Int32 → Int32 → zy_S → Option (Int32 × zy_S)} (hd : 5 ≤ d) (hg105 : ∀ (x1 : Int32) (x2 : Int32) (x3 : Int32) (x4 : Int32) (s : zy_S) (r : Int32) (s' : zy_S), g105 x1 x2 x3 x4 s = some (r, s') → zyR X d 105 0 [some (.ref (15 + 3)), some (.int x1), some (.int x2), some (.int x3), some (.int x4), none, none, none, none, none, none, none, none, none] [] s (zyE (some (.int r)) s')) (hk55 : ∀ (x1 : Int32) (x2 : Int32) (x3 : Int32) (x4 : Int32) (x5 : Int32) (x6 : Int32) (x7 : Int32) (x8 : Int32) (x9 : Int32) (s : zy_S) (r : Int32) (s' : zy_S), k55 x1 x2 x3 x4 x5 x6 x7 x8 x9 s = some (r, s') → zyR X (d + 1) 105 55 [some (.ref (15 + 3)), some (.int x1), some (.int x2), some (.int x3), some (.int x4), some (.int x5), some (.int x6), some (.int x7), some (.int x8), some (.int x9), none, none, none, none] [] s (zyE (some (.int r)) s')) {x1 : Int32} {x2 : Int32} {x3 : Int32} {x4 : Int32} {x5 : Int32} {x6 : Int32} {x7 : Int32} {x8 : Int32} {x9 : Int32} {s : zy_S} {r : Int32} {s' : zy_S}  (h : zyF105_55b g105 k55 x1 x2 x3 x4 x5 x6 x7 x8 x9 s = some (r, s')) : zyR X (d + 1) 105 55 [some (.ref (15 + 3)), some (.int x1), some (.int x2), some (.int x3), some (.int x4), some (.int x5), some (.int x6), some (.int x7), some (.int x8), some (.int x9), none, none, none, none] [] s (zyE (some (.int r)) s') := by
  unfold zyF105_55b at h
  refine zy_2 rfl rfl (show zyR _ _ _ _ [some (.ref (15 + 3)), some (.int x1), some (.int x2), some (.int x3), some (.int x4), some (.int x5), some (.int x6), some (.int x7), some (.int x8), some (.int x9), none, none, none, none] [.int x9] _ _ from ?_)
  refine zy_3 rfl rfl (show zyR _ _ _ _ [some (.ref (15 + 3)), some (.int x1), some (.int x2), some (.int x3), some (.int x4), some (.int x5), some (.int x6), some (.int x7), some (.int x8), some (.int x9), none, none, none, none] [.int (24 : Int32), .int x9] _ _ from ?_)
  refine zy_25_4 rfl (fun b14 => (show zyR _ _ _ _ [some (.ref (15 + 3)), some (.int x1), some (.int x2), some (.int x3), some (.int x4), some (.int x5), some (.int x6), some (.int x7), some (.int x8), some (.int x9), none, none, none, none] [] _ _ from ?_)) (fun b14 => (show zyR _ _ _ _ [some (.ref (15 + 3)), some (.int x1), some (.int x2), some (.int x3), some (.int x4), some (.int x5), some (.int x6), some (.int x7), some (.int x8), some (.int x9), none, none, none, none] [] _ _ from ?_))
  · replace h := zy_ifp h b14
    refine zy_2 rfl rfl (show zyR _ _ _ _ [some (.ref (15 + 3)), some (.int x1), some (.int x2), some (.int x3), some (.int x4), some (.int x5), some (.int x6), some (.int x7), some (.int x8), some (.int x9), none, none, none, none] [.int x1] _ _ from ?_)
    refine zy_0 rfl rfl (show zyR _ _ _ _ [some (.ref (15 + 3)), some (.int x1), some (.int x2), some (.int x3), some (.int x4), some (.int x5), some (.int x6), some (.int x7), some (.int x8), some (.int x9), none, none, none, none] [.ref (15 + 3), .int x1] _ _ from ?_)
    refine zy_1 (c := 15) rfl rfl rfl (show zyR _ _ _ _ [some (.ref (15 + 3)), some (.int x1), some (.int x2), some (.int x3), some (.int x4), some (.int x5), some (.int x6), some (.int x7), some (.int x8), some (.int x9), none, none, none, none] [.int (s.1 15 2), .int x1] _ _ from ?_)
    refine zy_25_1 rfl (fun b9 => (show zyR _ _ _ _ [some (.ref (15 + 3)), some (.int x1), some (.int x2), some (.int x3), some (.int x4), some (.int x5), some (.int x6), some (.int x7), some (.int x8), some (.int x9), none, none, none, none] [] _ _ from ?_)) (fun b9 => (show zyR _ _ _ _ [some (.ref (15 + 3)), some (.int x1), some (.int x2), some (.int x3), some (.int x4), some (.int x5), some (.int x6), some (.int x7), some (.int x8), some (.int x9), none, none, none, none] [] _ _ from ?_))
    · replace h := zy_ifp h b9
      refine zy_2 rfl rfl (show zyR _ _ _ _ [some (.ref (15 + 3)), some (.int x1), some (.int x2), some (.int x3), some (.int x4), some (.int x5), some (.int x6), some (.int x7), some (.int x8), some (.int x9), none, none, none, none] [.int x8] _ _ from ?_)
      obtain ⟨rfl, rfl⟩ := zy_pi h
      exact zy_4 rfl ⟨rfl, rfl⟩
    · replace h := zy_ifn h b9
      refine zy_0 rfl rfl (show zyR _ _ _ _ [some (.ref (15 + 3)), some (.int x1), some (.int x2), some (.int x3), some (.int x4), some (.int x5), some (.int x6), some (.int x7), some (.int x8), some (.int x9), none, none, none, none] [.ref (15 + 3)] _ _ from ?_)
      refine zy_2 rfl rfl (show zyR _ _ _ _ [some (.ref (15 + 3)), some (.int x1), some (.int x2), some (.int x3), some (.int x4), some (.int x5), some (.int x6), some (.int x7), some (.int x8), some (.int x9), none, none, none, none] [.int x7, .ref (15 + 3)] _ _ from ?_)
      refine zy_52 (c := 15) rfl rfl rfl (show zyR _ _ _ _ [some (.ref (15 + 3)), some (.int x1), some (.int x2), some (.int x3), some (.int x4), some (.int x5), some (.int x6), some (.int x7), some (.int x8), some (.int x9), none, none, none, none] [] _ _ from ?_)
      refine zy_2 rfl rfl (show zyR _ _ _ _ [some (.ref (15 + 3)), some (.int x1), some (.int x2), some (.int x3), some (.int x4), some (.int x5), some (.int x6), some (.int x7), some (.int x8), some (.int x9), none, none, none, none] [.int x8] _ _ from ?_)
      obtain ⟨rfl, rfl⟩ := zy_pi h
      exact zy_4 rfl ⟨rfl, rfl⟩
  · replace h := zy_ifn h b14
    refine zy_2 rfl rfl (show zyR _ _ _ _ [some (.ref (15 + 3)), some (.int x1), some (.int x2), some (.int x3), some (.int x4), some (.int x5), some (.int x6), some (.int x7), some (.int x8), some (.int x9), none, none, none, none] [.int x9] _ _ from ?_)
    refine zy_3 rfl rfl (show zyR _ _ _ _ [some (.ref (15 + 3)), some (.int x1), some (.int x2), some (.int x3), some (.int x4), some (.int x5), some (.int x6), some (.int x7), some (.int x8), some (.int x9), none, none, none, none] [.int (24 : Int32), .int x9] _ _ from ?_)
    refine zy_25_0 rfl (fun b13 => (show zyR _ _ _ _ [some (.ref (15 + 3)), some (.int x1), some (.int x2), some (.int x3), some (.int x4), some (.int x5), some (.int x6), some (.int x7), some (.int x8), some (.int x9), none, none, none, none] [] _ _ from ?_)) (fun b13 => (show zyR _ _ _ _ [some (.ref (15 + 3)), some (.int x1), some (.int x2), some (.int x3), some (.int x4), some (.int x5), some (.int x6), some (.int x7), some (.int x8), some (.int x9), none, none, none, none] [] _ _ from ?_))
    · replace h := zy_ifp h b13
      exact zy_sub (show zy_le [some (.ref (15 + 3)), some (.int x1), some (.int x2), some (.int x3), some (.int x4), some (.int x5), some (.int x6), some (.int x7), some (.int x8), some (.int x9), none, none, none, none] [some (.ref (15 + 3)), some (.int x1), some (.int x2), some (.int x3), some (.int x4), some (.int x5), some (.int x6), some (.int x7), some (.int x8), some (.int x9), none, none, none, none] from ⟨rfl, ⟨rfl, ⟨rfl, ⟨rfl, ⟨rfl, ⟨rfl, ⟨rfl, ⟨rfl, ⟨rfl, ⟨rfl, trivial⟩⟩⟩⟩⟩⟩⟩⟩⟩⟩) (zyC105_84 hd hg105 hk55 h)
    · replace h := zy_ifn h b13
      refine zy_2 rfl rfl (show zyR _ _ _ _ [some (.ref (15 + 3)), some (.int x1), some (.int x2), some (.int x3), some (.int x4), some (.int x5), some (.int x6), some (.int x7), some (.int x8), some (.int x9), none, none, none, none] [.int x6] _ _ from ?_)
      refine zy_24_1 rfl (fun b12 => (show zyR _ _ _ _ [some (.ref (15 + 3)), some (.int x1), some (.int x2), some (.int x3), some (.int x4), some (.int x5), some (.int x6), some (.int x7), some (.int x8), some (.int x9), none, none, none, none] [] _ _ from ?_)) (fun b12 => (show zyR _ _ _ _ [some (.ref (15 + 3)), some (.int x1), some (.int x2), some (.int x3), some (.int x4), some (.int x5), some (.int x6), some (.int x7), some (.int x8), some (.int x9), none, none, none, none] [] _ _ from ?_))
      · replace h := zy_ifp h b12
        exact zy_sub (show zy_le [some (.ref (15 + 3)), some (.int x1), some (.int x2), some (.int x3), some (.int x4), some (.int x5), some (.int x6), some (.int x7), some (.int x8), some (.int x9), none, none, none, none] [some (.ref (15 + 3)), some (.int x1), some (.int x2), some (.int x3), some (.int x4), some (.int x5), some (.int x6), some (.int x7), some (.int x8), some (.int x9), none, none, none, none] from ⟨rfl, ⟨rfl, ⟨rfl, ⟨rfl, ⟨rfl, ⟨rfl, ⟨rfl, ⟨rfl, ⟨rfl, ⟨rfl, trivial⟩⟩⟩⟩⟩⟩⟩⟩⟩⟩) (zyC105_84 hd hg105 hk55 h)
      · replace h := zy_ifn h b12
        refine zy_2 rfl rfl (show zyR _ _ _ _ [some (.ref (15 + 3)), some (.int x1), some (.int x2), some (.int x3), some (.int x4), some (.int x5), some (.int x6), some (.int x7), some (.int x8), some (.int x9), none, none, none, none] [.int x2] _ _ from ?_)
        refine zy_2 rfl rfl (show zyR _ _ _ _ [some (.ref (15 + 3)), some (.int x1), some (.int x2), some (.int x3), some (.int x4), some (.int x5), some (.int x6), some (.int x7), some (.int x8), some (.int x9), none, none, none, none] [.int x9, .int x2] _ _ from ?_)
        obtain ⟨p10, hp10, h⟩ := zy_bind h
        refine zy_61 (as := [.int x2, .int x9]) (rest := []) (L := [some (.int x2), some (.int x9)]) (d' := 1) rfl rfl (Nat.le_of_ble_eq_true rfl) (by omega) rfl (Nat.le_of_ble_eq_true rfl) rfl rfl (zyC32 hp10) ?_
        show zyR _ _ _ _ [some (.ref (15 + 3)), some (.int x1), some (.int x2), some (.int x3), some (.int x4), some (.int x5), some (.int x6), some (.int x7), some (.int x8), some (.int x9), none, none, none, none] [.int p10.1] _ _
        refine zy_3 rfl rfl (show zyR _ _ _ _ [some (.ref (15 + 3)), some (.int x1), some (.int x2), some (.int x3), some (.int x4), some (.int x5), some (.int x6), some (.int x7), some (.int x8), some (.int x9), none, none, none, none] [.int (1 : Int32), .int p10.1] _ _ from ?_)
        refine zy_25_1 rfl (fun b11 => (show zyR _ _ _ _ [some (.ref (15 + 3)), some (.int x1), some (.int x2), some (.int x3), some (.int x4), some (.int x5), some (.int x6), some (.int x7), some (.int x8), some (.int x9), none, none, none, none] [] _ _ from ?_)) (fun b11 => (show zyR _ _ _ _ [some (.ref (15 + 3)), some (.int x1), some (.int x2), some (.int x3), some (.int x4), some (.int x5), some (.int x6), some (.int x7), some (.int x8), some (.int x9), none, none, none, none] [] _ _ from ?_))
        · replace h := zy_ifp h b11
          exact zy_sub (show zy_le [some (.ref (15 + 3)), some (.int x1), some (.int x2), some (.int x3), some (.int x4), some (.int x5), some (.int x6), some (.int x7), some (.int x8), some (.int x9), none, none, none, none] [some (.ref (15 + 3)), some (.int x1), some (.int x2), some (.int x3), some (.int x4), some (.int x5), some (.int x6), some (.int x7), some (.int x8), some (.int x9), none, none, none, none] from ⟨rfl, ⟨rfl, ⟨rfl, ⟨rfl, ⟨rfl, ⟨rfl, ⟨rfl, ⟨rfl, ⟨rfl, ⟨rfl, trivial⟩⟩⟩⟩⟩⟩⟩⟩⟩⟩) (zyC105_197 hd hg105 hk55 h)
        · replace h := zy_ifn h b11
          exact zy_sub (show zy_le [some (.ref (15 + 3)), some (.int x1), some (.int x2), some (.int x3), some (.int x4), some (.int x5), some (.int x6), some (.int x7), some (.int x8), some (.int x9), none, none, none, none] [some (.ref (15 + 3)), some (.int x1), some (.int x2), some (.int x3), some (.int x4), some (.int x5), some (.int x6), some (.int x7), some (.int x8), some (.int x9), none, none, none, none] from ⟨rfl, ⟨rfl, ⟨rfl, ⟨rfl, ⟨rfl, ⟨rfl, ⟨rfl, ⟨rfl, ⟨rfl, ⟨rfl, trivial⟩⟩⟩⟩⟩⟩⟩⟩⟩⟩) (zyC105_84 hd hg105 hk55 h)
noncomputable def zyF105_55 (g105 : Int32 → Int32 → Int32 → Int32 → zy_S → Option (Int32 × zy_S))  (n : Nat) : Int32 → Int32 → Int32 → Int32 → Int32 → Int32 → Int32 → Int32 → Int32 → zy_S → Option (Int32 × zy_S) := Nat.rec (fun _ _ _ _ _ _ _ _ _ _ => none) (fun _ k55 => zyF105_55b g105 k55) n
theorem zyC105_55 {X : zx_X} {d : Nat} {g105 : Int32 → Int32 → Int32 → Int32 → zy_S → Option (Int32 × zy_S)}  (hd : 5 ≤ d) (hg105 : ∀ (x1 : Int32) (x2 : Int32) (x3 : Int32) (x4 : Int32) (s : zy_S) (r : Int32) (s' : zy_S), g105 x1 x2 x3 x4 s = some (r, s') → zyR X d 105 0 [some (.ref (15 + 3)), some (.int x1), some (.int x2), some (.int x3), some (.int x4), none, none, none, none, none, none, none, none, none] [] s (zyE (some (.int r)) s'))  : ∀ (n : Nat) (x1 : Int32) (x2 : Int32) (x3 : Int32) (x4 : Int32) (x5 : Int32) (x6 : Int32) (x7 : Int32) (x8 : Int32) (x9 : Int32) (s : zy_S) (r : Int32) (s' : zy_S), zyF105_55 g105 n x1 x2 x3 x4 x5 x6 x7 x8 x9 s = some (r, s') → zyR X (d + 1) 105 55 [some (.ref (15 + 3)), some (.int x1), some (.int x2), some (.int x3), some (.int x4), some (.int x5), some (.int x6), some (.int x7), some (.int x8), some (.int x9), none, none, none, none] [] s (zyE (some (.int r)) s')
  | 0, _, _, _, _, _, _, _, _, _ => by
    intro s r s'  h
    have h : (none : Option (Int32 × zy_S)) = some (r, s') := h
    cases h
  | n + 1, x1, x2, x3, x4, x5, x6, x7, x8, x9 => by
    intro s r s'  h
    exact zyC105_55b hd hg105 (k55 := zyF105_55 g105 n) (fun x1 x2 x3 x4 x5 x6 x7 x8 x9 s r s'  h => zyC105_55 hd hg105 n x1 x2 x3 x4 x5 x6 x7 x8 x9 s r s'  h) h
noncomputable def zyF105_44 (g105 : Int32 → Int32 → Int32 → Int32 → zy_S → Option (Int32 × zy_S))  (x1 : Int32) (x2 : Int32) (x3 : Int32) (x4 : Int32) (x5 : Int32) (y0 : Int32) (s : zy_S) : Option (Int32 × zy_S) :=
zyF105_55 g105 zy_fu x1 x2 x3 x4 x5 y0 (-1 : Int32) (0 : Int32) (0 : Int32) s
theorem zyC105_44 {X : zx_X} {d : Nat} {g105 : Int32 → Int32 → Int32 → Int32 → zy_S → Option (Int32 × zy_S)}  (hd : 5 ≤ d) (hg105 : ∀ (x1 : Int32) (x2 : Int32) (x3 : Int32) (x4 : Int32) (s : zy_S) (r : Int32) (s' : zy_S), g105 x1 x2 x3 x4 s = some (r, s') → zyR X d 105 0 [some (.ref (15 + 3)), some (.int x1), some (.int x2), some (.int x3), some (.int x4), none, none, none, none, none, none, none, none, none] [] s (zyE (some (.int r)) s'))  {x1 : Int32} {x2 : Int32} {x3 : Int32} {x4 : Int32} {x5 : Int32} {y0 : Int32} {s : zy_S} {r : Int32} {s' : zy_S}  (h : zyF105_44 g105 x1 x2 x3 x4 x5 y0 s = some (r, s')) : zyR X (d + 1) 105 44 [some (.ref (15 + 3)), some (.int x1), some (.int x2), some (.int x3), some (.int x4), some (.int x5), none, none, none, none, none, none, none, none] [.int y0] s (zyE (some (.int r)) s') := by
  unfold zyF105_44 at h
  refine zy_23 rfl rfl (show zyR _ _ _ _ [some (.ref (15 + 3)), some (.int x1), some (.int x2), some (.int x3), some (.int x4), some (.int x5), some (.int y0), none, none, none, none, none, none, none] [] _ _ from ?_)
  refine zy_3 rfl rfl (show zyR _ _ _ _ [some (.ref (15 + 3)), some (.int x1), some (.int x2), some (.int x3), some (.int x4), some (.int x5), some (.int y0), none, none, none, none, none, none, none] [.int (-1 : Int32)] _ _ from ?_)
  refine zy_23 rfl rfl (show zyR _ _ _ _ [some (.ref (15 + 3)), some (.int x1), some (.int x2), some (.int x3), some (.int x4), some (.int x5), some (.int y0), some (.int (-1 : Int32)), none, none, none, none, none, none] [] _ _ from ?_)
  refine zy_3 rfl rfl (show zyR _ _ _ _ [some (.ref (15 + 3)), some (.int x1), some (.int x2), some (.int x3), some (.int x4), some (.int x5), some (.int y0), some (.int (-1 : Int32)), none, none, none, none, none, none] [.int (0 : Int32)] _ _ from ?_)
  refine zy_23 rfl rfl (show zyR _ _ _ _ [some (.ref (15 + 3)), some (.int x1), some (.int x2), some (.int x3), some (.int x4), some (.int x5), some (.int y0), some (.int (-1 : Int32)), some (.int (0 : Int32)), none, none, none, none, none] [] _ _ from ?_)
  refine zy_3 rfl rfl (show zyR _ _ _ _ [some (.ref (15 + 3)), some (.int x1), some (.int x2), some (.int x3), some (.int x4), some (.int x5), some (.int y0), some (.int (-1 : Int32)), some (.int (0 : Int32)), none, none, none, none, none] [.int (0 : Int32)] _ _ from ?_)
  refine zy_23 rfl rfl (show zyR _ _ _ _ [some (.ref (15 + 3)), some (.int x1), some (.int x2), some (.int x3), some (.int x4), some (.int x5), some (.int y0), some (.int (-1 : Int32)), some (.int (0 : Int32)), some (.int (0 : Int32)), none, none, none, none] [] _ _ from ?_)
  exact zy_sub (show zy_le [some (.ref (15 + 3)), some (.int x1), some (.int x2), some (.int x3), some (.int x4), some (.int x5), some (.int y0), some (.int (-1 : Int32)), some (.int (0 : Int32)), some (.int (0 : Int32)), none, none, none, none] [some (.ref (15 + 3)), some (.int x1), some (.int x2), some (.int x3), some (.int x4), some (.int x5), some (.int y0), some (.int (-1 : Int32)), some (.int (0 : Int32)), some (.int (0 : Int32)), none, none, none, none] from ⟨rfl, ⟨rfl, ⟨rfl, ⟨rfl, ⟨rfl, ⟨rfl, ⟨rfl, ⟨rfl, ⟨rfl, ⟨rfl, trivial⟩⟩⟩⟩⟩⟩⟩⟩⟩⟩) (zyC105_55 hd hg105 zy_fu x1 x2 x3 x4 x5 y0 (-1 : Int32) (0 : Int32) (0 : Int32) s _ _ h)
noncomputable def zyF105_23 (g105 : Int32 → Int32 → Int32 → Int32 → zy_S → Option (Int32 × zy_S))  (x1 : Int32) (x2 : Int32) (x3 : Int32) (x4 : Int32) (y0 : Int32) (s : zy_S) : Option (Int32 × zy_S) :=
(zyF63 x2 s).bind fun p15 =>
if (p15.2.1 1 4) ≤ p15.1 then
zyF105_44 g105 x1 x2 x3 x4 y0 (0 : Int32) p15.2
else
zyF105_44 g105 x1 x2 x3 x4 y0 (1 : Int32) p15.2
theorem zyC105_23 {X : zx_X} {d : Nat} {g105 : Int32 → Int32 → Int32 → Int32 → zy_S → Option (Int32 × zy_S)}  (hd : 5 ≤ d) (hg105 : ∀ (x1 : Int32) (x2 : Int32) (x3 : Int32) (x4 : Int32) (s : zy_S) (r : Int32) (s' : zy_S), g105 x1 x2 x3 x4 s = some (r, s') → zyR X d 105 0 [some (.ref (15 + 3)), some (.int x1), some (.int x2), some (.int x3), some (.int x4), none, none, none, none, none, none, none, none, none] [] s (zyE (some (.int r)) s'))  {x1 : Int32} {x2 : Int32} {x3 : Int32} {x4 : Int32} {y0 : Int32} {s : zy_S} {r : Int32} {s' : zy_S}  (h : zyF105_23 g105 x1 x2 x3 x4 y0 s = some (r, s')) : zyR X (d + 1) 105 23 [some (.ref (15 + 3)), some (.int x1), some (.int x2), some (.int x3), some (.int x4), none, none, none, none, none, none, none, none, none] [.int y0] s (zyE (some (.int r)) s') := by
  unfold zyF105_23 at h
  refine zy_23 rfl rfl (show zyR _ _ _ _ [some (.ref (15 + 3)), some (.int x1), some (.int x2), some (.int x3), some (.int x4), some (.int y0), none, none, none, none, none, none, none, none] [] _ _ from ?_)
  refine zy_2 rfl rfl (show zyR _ _ _ _ [some (.ref (15 + 3)), some (.int x1), some (.int x2), some (.int x3), some (.int x4), some (.int y0), none, none, none, none, none, none, none, none] [.int x2] _ _ from ?_)
  obtain ⟨p15, hp15, h⟩ := zy_bind h
  refine zy_60 (as := [.int x2]) (rest := []) (L := [some (.int x2)]) (d' := 1) rfl rfl (Nat.le_of_ble_eq_true rfl) (by omega) rfl (Nat.le_of_ble_eq_true rfl) rfl rfl (zyC63 hp15) ?_
  show zyR _ _ _ _ [some (.ref (15 + 3)), some (.int x1), some (.int x2), some (.int x3), some (.int x4), some (.int y0), none, none, none, none, none, none, none, none] [.int p15.1] _ _
  refine zy_0 rfl rfl (show zyR _ _ _ _ [some (.ref (15 + 3)), some (.int x1), some (.int x2), some (.int x3), some (.int x4), some (.int y0), none, none, none, none, none, none, none, none] [.ref (15 + 3), .int p15.1] _ _ from ?_)
  refine zy_1r (c := 15) rfl rfl rfl (show zyR _ _ _ _ [some (.ref (15 + 3)), some (.int x1), some (.int x2), some (.int x3), some (.int x4), some (.int y0), none, none, none, none, none, none, none, none] [.ref (1 + 3), .int p15.1] _ _ from ?_)
  refine zy_1 (c := 1) rfl rfl rfl (show zyR _ _ _ _ [some (.ref (15 + 3)), some (.int x1), some (.int x2), some (.int x3), some (.int x4), some (.int y0), none, none, none, none, none, none, none, none] [.int (p15.2.1 1 4), .int p15.1] _ _ from ?_)
  refine zy_25_3 rfl (fun b16 => (show zyR _ _ _ _ [some (.ref (15 + 3)), some (.int x1), some (.int x2), some (.int x3), some (.int x4), some (.int y0), none, none, none, none, none, none, none, none] [] _ _ from ?_)) (fun b16 => (show zyR _ _ _ _ [some (.ref (15 + 3)), some (.int x1), some (.int x2), some (.int x3), some (.int x4), some (.int y0), none, none, none, none, none, none, none, none] [] _ _ from ?_))
  · replace h := zy_ifp h b16
    refine zy_3 rfl rfl (show zyR _ _ _ _ [some (.ref (15 + 3)), some (.int x1), some (.int x2), some (.int x3), some (.int x4), some (.int y0), none, none, none, none, none, none, none, none] [.int (0 : Int32)] _ _ from ?_)
    exact zy_sub (show zy_le [some (.ref (15 + 3)), some (.int x1), some (.int x2), some (.int x3), some (.int x4), some (.int y0), none, none, none, none, none, none, none, none] [some (.ref (15 + 3)), some (.int x1), some (.int x2), some (.int x3), some (.int x4), some (.int y0), none, none, none, none, none, none, none, none] from ⟨rfl, ⟨rfl, ⟨rfl, ⟨rfl, ⟨rfl, ⟨rfl, trivial⟩⟩⟩⟩⟩⟩) (zyC105_44 hd hg105 h)
  · replace h := zy_ifn h b16
    refine zy_3 rfl rfl (show zyR _ _ _ _ [some (.ref (15 + 3)), some (.int x1), some (.int x2), some (.int x3), some (.int x4), some (.int y0), none, none, none, none, none, none, none, none] [.int (1 : Int32)] _ _ from ?_)
    refine zy_6 rfl (show zyR _ _ _ _ [some (.ref (15 + 3)), some (.int x1), some (.int x2), some (.int x3), some (.int x4), some (.int y0), none, none, none, none, none, none, none, none] [.int (1 : Int32)] _ _ from ?_)
    exact zy_sub (show zy_le [some (.ref (15 + 3)), some (.int x1), some (.int x2), some (.int x3), some (.int x4), some (.int y0), none, none, none, none, none, none, none, none] [some (.ref (15 + 3)), some (.int x1), some (.int x2), some (.int x3), some (.int x4), some (.int y0), none, none, none, none, none, none, none, none] from ⟨rfl, ⟨rfl, ⟨rfl, ⟨rfl, ⟨rfl, ⟨rfl, trivial⟩⟩⟩⟩⟩⟩) (zyC105_44 hd hg105 h)
noncomputable def zyF105_0 (g105 : Int32 → Int32 → Int32 → Int32 → zy_S → Option (Int32 × zy_S))  (x1 : Int32) (x2 : Int32) (x3 : Int32) (x4 : Int32) (s : zy_S) : Option (Int32 × zy_S) :=
if 0 < x1 then
if (((s.1 15 2) - x1) - ((s.1 15 2) - x1) / (2 : Int32) * (2 : Int32)) ≠ 0 then
zyF105_23 g105 x1 x2 x3 x4 (0 : Int32) s
else
zyF105_23 g105 x1 x2 x3 x4 (1 : Int32) s
else
some (x4, s)
theorem zyC105_0 {X : zx_X} {d : Nat} {g105 : Int32 → Int32 → Int32 → Int32 → zy_S → Option (Int32 × zy_S)}  (hd : 5 ≤ d) (hg105 : ∀ (x1 : Int32) (x2 : Int32) (x3 : Int32) (x4 : Int32) (s : zy_S) (r : Int32) (s' : zy_S), g105 x1 x2 x3 x4 s = some (r, s') → zyR X d 105 0 [some (.ref (15 + 3)), some (.int x1), some (.int x2), some (.int x3), some (.int x4), none, none, none, none, none, none, none, none, none] [] s (zyE (some (.int r)) s'))  {x1 : Int32} {x2 : Int32} {x3 : Int32} {x4 : Int32} {s : zy_S} {r : Int32} {s' : zy_S}  (h : zyF105_0 g105 x1 x2 x3 x4 s = some (r, s')) : zyR X (d + 1) 105 0 [some (.ref (15 + 3)), some (.int x1), some (.int x2), some (.int x3), some (.int x4), none, none, none, none, none, none, none, none, none] [] s (zyE (some (.int r)) s') := by
  unfold zyF105_0 at h
  refine zy_2 rfl rfl (show zyR _ _ _ _ [some (.ref (15 + 3)), some (.int x1), some (.int x2), some (.int x3), some (.int x4), none, none, none, none, none, none, none, none, none] [.int x1] _ _ from ?_)
  refine zy_24_4 rfl (fun b18 => (show zyR _ _ _ _ [some (.ref (15 + 3)), some (.int x1), some (.int x2), some (.int x3), some (.int x4), none, none, none, none, none, none, none, none, none] [] _ _ from ?_)) (fun b18 => (show zyR _ _ _ _ [some (.ref (15 + 3)), some (.int x1), some (.int x2), some (.int x3), some (.int x4), none, none, none, none, none, none, none, none, none] [] _ _ from ?_))
  · replace h := zy_ifp h b18
    refine zy_0 rfl rfl (show zyR _ _ _ _ [some (.ref (15 + 3)), some (.int x1), some (.int x2), some (.int x3), some (.int x4), none, none, none, none, none, none, none, none, none] [.ref (15 + 3)] _ _ from ?_)
    refine zy_1 (c := 15) rfl rfl rfl (show zyR _ _ _ _ [some (.ref (15 + 3)), some (.int x1), some (.int x2), some (.int x3), some (.int x4), none, none, none, none, none, none, none, none, none] [.int (s.1 15 2)] _ _ from ?_)
    refine zy_2 rfl rfl (show zyR _ _ _ _ [some (.ref (15 + 3)), some (.int x1), some (.int x2), some (.int x3), some (.int x4), none, none, none, none, none, none, none, none, none] [.int x1, .int (s.1 15 2)] _ _ from ?_)
    refine zy_11 rfl (show zyR _ _ _ _ [some (.ref (15 + 3)), some (.int x1), some (.int x2), some (.int x3), some (.int x4), none, none, none, none, none, none, none, none, none] [.int ((s.1 15 2) - x1)] _ _ from ?_)
    refine zy_3 rfl rfl (show zyR _ _ _ _ [some (.ref (15 + 3)), some (.int x1), some (.int x2), some (.int x3), some (.int x4), none, none, none, none, none, none, none, none, none] [.int (2 : Int32), .int ((s.1 15 2) - x1)] _ _ from ?_)
    refine zy_20 rfl (by decide) (show zyR _ _ _ _ [some (.ref (15 + 3)), some (.int x1), some (.int x2), some (.int x3), some (.int x4), none, none, none, none, none, none, none, none, none] [.int (((s.1 15 2) - x1) - ((s.1 15 2) - x1) / (2 : Int32) * (2 : Int32))] _ _ from ?_)
    refine zy_24_1 rfl (fun b17 => (show zyR _ _ _ _ [some (.ref (15 + 3)), some (.int x1), some (.int x2), some (.int x3), some (.int x4), none, none, none, none, none, none, none, none, none] [] _ _ from ?_)) (fun b17 => (show zyR _ _ _ _ [some (.ref (15 + 3)), some (.int x1), some (.int x2), some (.int x3), some (.int x4), none, none, none, none, none, none, none, none, none] [] _ _ from ?_))
    · replace h := zy_ifp h b17
      refine zy_3 rfl rfl (show zyR _ _ _ _ [some (.ref (15 + 3)), some (.int x1), some (.int x2), some (.int x3), some (.int x4), none, none, none, none, none, none, none, none, none] [.int (0 : Int32)] _ _ from ?_)
      exact zy_sub (show zy_le [some (.ref (15 + 3)), some (.int x1), some (.int x2), some (.int x3), some (.int x4), none, none, none, none, none, none, none, none, none] [some (.ref (15 + 3)), some (.int x1), some (.int x2), some (.int x3), some (.int x4), none, none, none, none, none, none, none, none, none] from ⟨rfl, ⟨rfl, ⟨rfl, ⟨rfl, ⟨rfl, trivial⟩⟩⟩⟩⟩) (zyC105_23 hd hg105 h)
    · replace h := zy_ifn h b17
      refine zy_3 rfl rfl (show zyR _ _ _ _ [some (.ref (15 + 3)), some (.int x1), some (.int x2), some (.int x3), some (.int x4), none, none, none, none, none, none, none, none, none] [.int (1 : Int32)] _ _ from ?_)
      refine zy_6 rfl (show zyR _ _ _ _ [some (.ref (15 + 3)), some (.int x1), some (.int x2), some (.int x3), some (.int x4), none, none, none, none, none, none, none, none, none] [.int (1 : Int32)] _ _ from ?_)
      exact zy_sub (show zy_le [some (.ref (15 + 3)), some (.int x1), some (.int x2), some (.int x3), some (.int x4), none, none, none, none, none, none, none, none, none] [some (.ref (15 + 3)), some (.int x1), some (.int x2), some (.int x3), some (.int x4), none, none, none, none, none, none, none, none, none] from ⟨rfl, ⟨rfl, ⟨rfl, ⟨rfl, ⟨rfl, trivial⟩⟩⟩⟩⟩) (zyC105_23 hd hg105 h)
  · replace h := zy_ifn h b18
    refine zy_2 rfl rfl (show zyR _ _ _ _ [some (.ref (15 + 3)), some (.int x1), some (.int x2), some (.int x3), some (.int x4), none, none, none, none, none, none, none, none, none] [.int x4] _ _ from ?_)
    obtain ⟨rfl, rfl⟩ := zy_pi h
    exact zy_4 rfl ⟨rfl, rfl⟩
noncomputable def zyG105 (n : Nat) : (Int32 → Int32 → Int32 → Int32 → zy_S → Option (Int32 × zy_S)) := Nat.rec (fun _ _ _ _ _ => none) (fun _ g => (fun x1 x2 x3 x4 s => zyF105_0 g x1 x2 x3 x4 s)) n
theorem zyG105_s (n : Nat) : zyG105 (n + 1) = (fun x1 x2 x3 x4 s => zyF105_0 (zyG105 n) x1 x2 x3 x4 s) := rfl
theorem zyS105 (n : Nat) (x1 : Int32) (x2 : Int32) (x3 : Int32) (x4 : Int32) (s : zy_S) : (zyG105 (n + 1)) x1 x2 x3 x4 s = zyF105_0 (zyG105 n) x1 x2 x3 x4 s := by
  rw [zyG105_s]
theorem zyG105_ok {X : zx_X} : ∀ n : Nat, (∀ (x1 : Int32) (x2 : Int32) (x3 : Int32) (x4 : Int32) (s : zy_S) (r : Int32) (s' : zy_S), (zyG105 n) x1 x2 x3 x4 s = some (r, s') → zyR X (5 + n) 105 0 [some (.ref (15 + 3)), some (.int x1), some (.int x2), some (.int x3), some (.int x4), none, none, none, none, none, none, none, none, none] [] s (zyE (some (.int r)) s'))
  | 0 => by
    · intro x1 x2 x3 x4 s r s'  h
      have h : (none : Option (Int32 × zy_S)) = some (r, s') := h
      cases h
  | n + 1 => by
    obtain i0 := zyG105_ok (X := X) n
    · intro x1 x2 x3 x4 s r s'  h
      rw [zyS105] at h
      exact zy_sub (show zy_le [some (.ref (15 + 3)), some (.int x1), some (.int x2), some (.int x3), some (.int x4), none, none, none, none, none, none, none, none, none] [some (.ref (15 + 3)), some (.int x1), some (.int x2), some (.int x3), some (.int x4), none, none, none, none, none, none, none, none, none] from ⟨rfl, ⟨rfl, ⟨rfl, ⟨rfl, ⟨rfl, trivial⟩⟩⟩⟩⟩) (zyC105_0 (d := 5 + n) (g105 := (zyG105 n)) (by omega) i0  h)
noncomputable def zyF105 : Int32 → Int32 → Int32 → Int32 → zy_S → Option (Int32 × zy_S) := (zyG105 100)
theorem zyC105 {X : zx_X} {x1 : Int32} {x2 : Int32} {x3 : Int32} {x4 : Int32} {s : zy_S} {r : Int32} {s' : zy_S}  (h : zyF105 x1 x2 x3 x4 s = some (r, s')) : zyR X 105 105 0 [some (.ref (15 + 3)), some (.int x1), some (.int x2), some (.int x3), some (.int x4), none, none, none, none, none, none, none, none, none] [] s (zyE (some (.int r)) s') := (zyG105_ok (X := X) 100) x1 x2 x3 x4 s r s'  h
end
section
/-! PART 41.47: methods as functions. Made by wip/v4/dcp.py. -/
/-! NineOpinions$Turns.play(III)I -/
noncomputable def zyF104   (x1 : Int32) (x2 : Int32) (x3 : Int32) (s : zy_S) : Option (Int32 × zy_S) :=
(zyF52 ((1 : Int32) <<< (x1 &&& 31)) ((1 : Int32) <<< (x2 &&& 31)) (zy_up s 15 2 x3)).bind fun p1 =>
(zyF54 (p1.2.1 1 3) (p1.2.1 1 3) p1.2).bind fun p2 =>
(zyF105 x3 (p1.2.1 1 3) (p1.2.1 1 3) p2.1 p2.2).bind fun p3 =>
some (p3.1, p3.2)
theorem zyC104 {X : zx_X}     {x1 : Int32} {x2 : Int32} {x3 : Int32} {s : zy_S} {r : Int32} {s' : zy_S}  (h : zyF104 x1 x2 x3 s = some (r, s')) : zyR X 106 104 0 [some (.ref (15 + 3)), some (.int x1), some (.int x2), some (.int x3)] [] s (zyE (some (.int r)) s') := by
  unfold zyF104 at h
  refine zy_0 rfl rfl (show zyR _ _ _ _ [some (.ref (15 + 3)), some (.int x1), some (.int x2), some (.int x3)] [.ref (15 + 3)] _ _ from ?_)
  refine zy_2 rfl rfl (show zyR _ _ _ _ [some (.ref (15 + 3)), some (.int x1), some (.int x2), some (.int x3)] [.int x3, .ref (15 + 3)] _ _ from ?_)
  refine zy_52 (c := 15) rfl rfl rfl (show zyR _ _ _ _ [some (.ref (15 + 3)), some (.int x1), some (.int x2), some (.int x3)] [] _ _ from ?_)
  refine zy_0 rfl rfl (show zyR _ _ _ _ [some (.ref (15 + 3)), some (.int x1), some (.int x2), some (.int x3)] [.ref (15 + 3)] _ _ from ?_)
  refine zy_1r (c := 15) rfl rfl rfl (show zyR _ _ _ _ [some (.ref (15 + 3)), some (.int x1), some (.int x2), some (.int x3)] [.ref (12 + 3)] _ _ from ?_)
  refine zy_3 rfl rfl (show zyR _ _ _ _ [some (.ref (15 + 3)), some (.int x1), some (.int x2), some (.int x3)] [.int (1 : Int32), .ref (12 + 3)] _ _ from ?_)
  refine zy_2 rfl rfl (show zyR _ _ _ _ [some (.ref (15 + 3)), some (.int x1), some (.int x2), some (.int x3)] [.int x1, .int (1 : Int32), .ref (12 + 3)] _ _ from ?_)
  refine zy_16 rfl (show zyR _ _ _ _ [some (.ref (15 + 3)), some (.int x1), some (.int x2), some (.int x3)] [.int ((1 : Int32) <<< (x1 &&& 31)), .ref (12 + 3)] _ _ from ?_)
  refine zy_3 rfl rfl (show zyR _ _ _ _ [some (.ref (15 + 3)), some (.int x1), some (.int x2), some (.int x3)] [.int (1 : Int32), .int ((1 : Int32) <<< (x1 &&& 31)), .ref (12 + 3)] _ _ from ?_)
  refine zy_2 rfl rfl (show zyR _ _ _ _ [some (.ref (15 + 3)), some (.int x1), some (.int x2), some (.int x3)] [.int x2, .int (1 : Int32), .int ((1 : Int32) <<< (x1 &&& 31)), .ref (12 + 3)] _ _ from ?_)
  refine zy_16 rfl (show zyR _ _ _ _ [some (.ref (15 + 3)), some (.int x1), some (.int x2), some (.int x3)] [.int ((1 : Int32) <<< (x2 &&& 31)), .int ((1 : Int32) <<< (x1 &&& 31)), .ref (12 + 3)] _ _ from ?_)
  obtain ⟨p1, hp1, h⟩ := zy_bind h
  refine zy_5 (c := 12) (as := [.int ((1 : Int32) <<< (x1 &&& 31)), .int ((1 : Int32) <<< (x2 &&& 31))]) (rest := []) (L := [some (.ref (12 + 3)), some (.int ((1 : Int32) <<< (x1 &&& 31))), some (.int ((1 : Int32) <<< (x2 &&& 31)))]) (d' := 1) rfl rfl rfl (Nat.le_of_ble_eq_true rfl) (Nat.le_of_ble_eq_true rfl) rfl (Nat.le_of_ble_eq_true rfl) rfl rfl (zyC52 hp1) ?_
  show zyR _ _ _ _ [some (.ref (15 + 3)), some (.int x1), some (.int x2), some (.int x3)] [] _ _
  refine zy_0 rfl rfl (show zyR _ _ _ _ [some (.ref (15 + 3)), some (.int x1), some (.int x2), some (.int x3)] [.ref (15 + 3)] _ _ from ?_)
  refine zy_2 rfl rfl (show zyR _ _ _ _ [some (.ref (15 + 3)), some (.int x1), some (.int x2), some (.int x3)] [.int x3, .ref (15 + 3)] _ _ from ?_)
  refine zy_0 rfl rfl (show zyR _ _ _ _ [some (.ref (15 + 3)), some (.int x1), some (.int x2), some (.int x3)] [.ref (15 + 3), .int x3, .ref (15 + 3)] _ _ from ?_)
  refine zy_1r (c := 15) rfl rfl rfl (show zyR _ _ _ _ [some (.ref (15 + 3)), some (.int x1), some (.int x2), some (.int x3)] [.ref (1 + 3), .int x3, .ref (15 + 3)] _ _ from ?_)
  refine zy_1 (c := 1) rfl rfl rfl (show zyR _ _ _ _ [some (.ref (15 + 3)), some (.int x1), some (.int x2), some (.int x3)] [.int (p1.2.1 1 3), .int x3, .ref (15 + 3)] _ _ from ?_)
  refine zy_0 rfl rfl (show zyR _ _ _ _ [some (.ref (15 + 3)), some (.int x1), some (.int x2), some (.int x3)] [.ref (15 + 3), .int (p1.2.1 1 3), .int x3, .ref (15 + 3)] _ _ from ?_)
  refine zy_1r (c := 15) rfl rfl rfl (show zyR _ _ _ _ [some (.ref (15 + 3)), some (.int x1), some (.int x2), some (.int x3)] [.ref (1 + 3), .int (p1.2.1 1 3), .int x3, .ref (15 + 3)] _ _ from ?_)
  refine zy_1 (c := 1) rfl rfl rfl (show zyR _ _ _ _ [some (.ref (15 + 3)), some (.int x1), some (.int x2), some (.int x3)] [.int (p1.2.1 1 3), .int (p1.2.1 1 3), .int x3, .ref (15 + 3)] _ _ from ?_)
  refine zy_0 rfl rfl (show zyR _ _ _ _ [some (.ref (15 + 3)), some (.int x1), some (.int x2), some (.int x3)] [.ref (15 + 3), .int (p1.2.1 1 3), .int (p1.2.1 1 3), .int x3, .ref (15 + 3)] _ _ from ?_)
  refine zy_1r (c := 15) rfl rfl rfl (show zyR _ _ _ _ [some (.ref (15 + 3)), some (.int x1), some (.int x2), some (.int x3)] [.ref (12 + 3), .int (p1.2.1 1 3), .int (p1.2.1 1 3), .int x3, .ref (15 + 3)] _ _ from ?_)
  refine zy_0 rfl rfl (show zyR _ _ _ _ [some (.ref (15 + 3)), some (.int x1), some (.int x2), some (.int x3)] [.ref (15 + 3), .ref (12 + 3), .int (p1.2.1 1 3), .int (p1.2.1 1 3), .int x3, .ref (15 + 3)] _ _ from ?_)
  refine zy_1r (c := 15) rfl rfl rfl (show zyR _ _ _ _ [some (.ref (15 + 3)), some (.int x1), some (.int x2), some (.int x3)] [.ref (1 + 3), .ref (12 + 3), .int (p1.2.1 1 3), .int (p1.2.1 1 3), .int x3, .ref (15 + 3)] _ _ from ?_)
  refine zy_1 (c := 1) rfl rfl rfl (show zyR _ _ _ _ [some (.ref (15 + 3)), some (.int x1), some (.int x2), some (.int x3)] [.int (p1.2.1 1 3), .ref (12 + 3), .int (p1.2.1 1 3), .int (p1.2.1 1 3), .int x3, .ref (15 + 3)] _ _ from ?_)
  refine zy_0 rfl rfl (show zyR _ _ _ _ [some (.ref (15 + 3)), some (.int x1), some (.int x2), some (.int x3)] [.ref (15 + 3), .int (p1.2.1 1 3), .ref (12 + 3), .int (p1.2.1 1 3), .int (p1.2.1 1 3), .int x3, .ref (15 + 3)] _ _ from ?_)
  refine zy_1r (c := 15) rfl rfl rfl (show zyR _ _ _ _ [some (.ref (15 + 3)), some (.int x1), some (.int x2), some (.int x3)] [.ref (1 + 3), .int (p1.2.1 1 3), .ref (12 + 3), .int (p1.2.1 1 3), .int (p1.2.1 1 3), .int x3, .ref (15 + 3)] _ _ from ?_)
  refine zy_1 (c := 1) rfl rfl rfl (show zyR _ _ _ _ [some (.ref (15 + 3)), some (.int x1), some (.int x2), some (.int x3)] [.int (p1.2.1 1 3), .int (p1.2.1 1 3), .ref (12 + 3), .int (p1.2.1 1 3), .int (p1.2.1 1 3), .int x3, .ref (15 + 3)] _ _ from ?_)
  obtain ⟨p2, hp2, h⟩ := zy_bind h
  refine zy_5 (c := 12) (as := [.int (p1.2.1 1 3), .int (p1.2.1 1 3)]) (rest := [.int (p1.2.1 1 3), .int (p1.2.1 1 3), .int x3, .ref (15 + 3)]) (L := [some (.ref (12 + 3)), some (.int (p1.2.1 1 3)), some (.int (p1.2.1 1 3)), none, none]) (d' := 6) rfl rfl rfl (Nat.le_of_ble_eq_true rfl) (Nat.le_of_ble_eq_true rfl) rfl (Nat.le_of_ble_eq_true rfl) rfl rfl (zyC54 hp2) ?_
  show zyR _ _ _ _ [some (.ref (15 + 3)), some (.int x1), some (.int x2), some (.int x3)] [.int p2.1, .int (p1.2.1 1 3), .int (p1.2.1 1 3), .int x3, .ref (15 + 3)] _ _
  obtain ⟨p3, hp3, h⟩ := zy_bind h
  refine zy_5 (c := 15) (as := [.int x3, .int (p1.2.1 1 3), .int (p1.2.1 1 3), .int p2.1]) (rest := []) (L := [some (.ref (15 + 3)), some (.int x3), some (.int (p1.2.1 1 3)), some (.int (p1.2.1 1 3)), some (.int p2.1), none, none, none, none, none, none, none, none, none]) (d' := 105) rfl rfl rfl (Nat.le_of_ble_eq_true rfl) (Nat.le_of_ble_eq_true rfl) rfl (Nat.le_of_ble_eq_true rfl) rfl rfl (zyC105 hp3) ?_
  show zyR _ _ _ _ [some (.ref (15 + 3)), some (.int x1), some (.int x2), some (.int x3)] [.int p3.1] _ _
  obtain ⟨rfl, rfl⟩ := zy_pi h
  exact zy_4 rfl ⟨rfl, rfl⟩
/-! NineOpinions.byTurns(II)I -/
noncomputable def zyF103   (x1 : Int32) (x2 : Int32) (s : zy_S) : Option (Int32 × zy_S) :=
if x1 < 0 then
some ((-2000000000 : Int32), s)
else
(zyF84 x2 s).bind fun p1 =>
if p1.1 ≠ 0 then
(zyF25 (0 : Int32) (x1 / (100 : Int32)) p1.2).bind fun p2 =>
if p2.1 = 0 then
some ((-2000000000 : Int32), p2.2)
else
(zyF25 (0 : Int32) ((x1 / (10 : Int32)) - (x1 / (10 : Int32)) / (10 : Int32) * (10 : Int32)) p2.2).bind fun p3 =>
if p3.1 = 0 then
some ((-2000000000 : Int32), p3.2)
else
if (x1 / (100 : Int32)) = ((x1 / (10 : Int32)) - (x1 / (10 : Int32)) / (10 : Int32) * (10 : Int32)) then
some ((-2000000000 : Int32), p3.2)
else
if (x1 - x1 / (10 : Int32) * (10 : Int32)) < (1 : Int32) then
some ((-2000000000 : Int32), p3.2)
else
if (x1 - x1 / (10 : Int32) * (10 : Int32)) ≤ (3 : Int32) then
(zyF104 (x1 / (100 : Int32)) ((x1 / (10 : Int32)) - (x1 / (10 : Int32)) / (10 : Int32) * (10 : Int32)) (x1 - x1 / (10 : Int32) * (10 : Int32)) p3.2).bind fun p4 =>
if x2 ≠ 0 then
some ((p4.2.1 15 3), p4.2)
else
some (p4.1, p4.2)
else
some ((-2000000000 : Int32), p3.2)
else
some ((-2000000000 : Int32), p1.2)
theorem zyC103 {X : zx_X}     {x1 : Int32} {x2 : Int32} {s : zy_S} {r : Int32} {s' : zy_S}  (h : zyF103 x1 x2 s = some (r, s')) : zyR X 107 103 0 [some (.ref (0 + 3)), some (.int x1), some (.int x2), none, none, none, none] [] s (zyE (some (.int r)) s') := by
  unfold zyF103 at h
  refine zy_2 rfl rfl (show zyR _ _ _ _ [some (.ref (0 + 3)), some (.int x1), some (.int x2), none, none, none, none] [.int x1] _ _ from ?_)
  refine zy_24_2 rfl (fun b12 => (show zyR _ _ _ _ [some (.ref (0 + 3)), some (.int x1), some (.int x2), none, none, none, none] [] _ _ from ?_)) (fun b12 => (show zyR _ _ _ _ [some (.ref (0 + 3)), some (.int x1), some (.int x2), none, none, none, none] [] _ _ from ?_))
  · replace h := zy_ifp h b12
    refine zy_3c rfl rfl (show zyR _ _ _ _ [some (.ref (0 + 3)), some (.int x1), some (.int x2), none, none, none, none] [.int (-2000000000 : Int32)] _ _ from ?_)
    obtain ⟨rfl, rfl⟩ := zy_pi h
    exact zy_4 rfl ⟨rfl, rfl⟩
  · replace h := zy_ifn h b12
    refine zy_2 rfl rfl (show zyR _ _ _ _ [some (.ref (0 + 3)), some (.int x1), some (.int x2), none, none, none, none] [.int x2] _ _ from ?_)
    obtain ⟨p1, hp1, h⟩ := zy_bind h
    refine zy_60 (as := [.int x2]) (rest := []) (L := [some (.int x2)]) (d' := 1) rfl rfl (Nat.le_of_ble_eq_true rfl) (Nat.le_of_ble_eq_true rfl) rfl (Nat.le_of_ble_eq_true rfl) rfl rfl (zyC84 hp1) ?_
    show zyR _ _ _ _ [some (.ref (0 + 3)), some (.int x1), some (.int x2), none, none, none, none] [.int p1.1] _ _
    refine zy_24_1 rfl (fun b11 => (show zyR _ _ _ _ [some (.ref (0 + 3)), some (.int x1), some (.int x2), none, none, none, none] [] _ _ from ?_)) (fun b11 => (show zyR _ _ _ _ [some (.ref (0 + 3)), some (.int x1), some (.int x2), none, none, none, none] [] _ _ from ?_))
    · replace h := zy_ifp h b11
      refine zy_2 rfl rfl (show zyR _ _ _ _ [some (.ref (0 + 3)), some (.int x1), some (.int x2), none, none, none, none] [.int x1] _ _ from ?_)
      refine zy_3 rfl rfl (show zyR _ _ _ _ [some (.ref (0 + 3)), some (.int x1), some (.int x2), none, none, none, none] [.int (100 : Int32), .int x1] _ _ from ?_)
      refine zy_19 rfl (by decide) (show zyR _ _ _ _ [some (.ref (0 + 3)), some (.int x1), some (.int x2), none, none, none, none] [.int (x1 / (100 : Int32))] _ _ from ?_)
      refine zy_23 rfl rfl (show zyR _ _ _ _ [some (.ref (0 + 3)), some (.int x1), some (.int x2), some (.int (x1 / (100 : Int32))), none, none, none] [] _ _ from ?_)
      refine zy_2 rfl rfl (show zyR _ _ _ _ [some (.ref (0 + 3)), some (.int x1), some (.int x2), some (.int (x1 / (100 : Int32))), none, none, none] [.int x1] _ _ from ?_)
      refine zy_3 rfl rfl (show zyR _ _ _ _ [some (.ref (0 + 3)), some (.int x1), some (.int x2), some (.int (x1 / (100 : Int32))), none, none, none] [.int (10 : Int32), .int x1] _ _ from ?_)
      refine zy_19 rfl (by decide) (show zyR _ _ _ _ [some (.ref (0 + 3)), some (.int x1), some (.int x2), some (.int (x1 / (100 : Int32))), none, none, none] [.int (x1 / (10 : Int32))] _ _ from ?_)
      refine zy_3 rfl rfl (show zyR _ _ _ _ [some (.ref (0 + 3)), some (.int x1), some (.int x2), some (.int (x1 / (100 : Int32))), none, none, none] [.int (10 : Int32), .int (x1 / (10 : Int32))] _ _ from ?_)
      refine zy_20 rfl (by decide) (show zyR _ _ _ _ [some (.ref (0 + 3)), some (.int x1), some (.int x2), some (.int (x1 / (100 : Int32))), none, none, none] [.int ((x1 / (10 : Int32)) - (x1 / (10 : Int32)) / (10 : Int32) * (10 : Int32))] _ _ from ?_)
      refine zy_23 rfl rfl (show zyR _ _ _ _ [some (.ref (0 + 3)), some (.int x1), some (.int x2), some (.int (x1 / (100 : Int32))), some (.int ((x1 / (10 : Int32)) - (x1 / (10 : Int32)) / (10 : Int32) * (10 : Int32))), none, none] [] _ _ from ?_)
      refine zy_2 rfl rfl (show zyR _ _ _ _ [some (.ref (0 + 3)), some (.int x1), some (.int x2), some (.int (x1 / (100 : Int32))), some (.int ((x1 / (10 : Int32)) - (x1 / (10 : Int32)) / (10 : Int32) * (10 : Int32))), none, none] [.int x1] _ _ from ?_)
      refine zy_3 rfl rfl (show zyR _ _ _ _ [some (.ref (0 + 3)), some (.int x1), some (.int x2), some (.int (x1 / (100 : Int32))), some (.int ((x1 / (10 : Int32)) - (x1 / (10 : Int32)) / (10 : Int32) * (10 : Int32))), none, none] [.int (10 : Int32), .int x1] _ _ from ?_)
      refine zy_20 rfl (by decide) (show zyR _ _ _ _ [some (.ref (0 + 3)), some (.int x1), some (.int x2), some (.int (x1 / (100 : Int32))), some (.int ((x1 / (10 : Int32)) - (x1 / (10 : Int32)) / (10 : Int32) * (10 : Int32))), none, none] [.int (x1 - x1 / (10 : Int32) * (10 : Int32))] _ _ from ?_)
      refine zy_23 rfl rfl (show zyR _ _ _ _ [some (.ref (0 + 3)), some (.int x1), some (.int x2), some (.int (x1 / (100 : Int32))), some (.int ((x1 / (10 : Int32)) - (x1 / (10 : Int32)) / (10 : Int32) * (10 : Int32))), some (.int (x1 - x1 / (10 : Int32) * (10 : Int32))), none] [] _ _ from ?_)
      refine zy_0 rfl rfl (show zyR _ _ _ _ [some (.ref (0 + 3)), some (.int x1), some (.int x2), some (.int (x1 / (100 : Int32))), some (.int ((x1 / (10 : Int32)) - (x1 / (10 : Int32)) / (10 : Int32) * (10 : Int32))), some (.int (x1 - x1 / (10 : Int32) * (10 : Int32))), none] [.ref (0 + 3)] _ _ from ?_)
      refine zy_1r (c := 0) rfl rfl rfl (show zyR _ _ _ _ [some (.ref (0 + 3)), some (.int x1), some (.int x2), some (.int (x1 / (100 : Int32))), some (.int ((x1 / (10 : Int32)) - (x1 / (10 : Int32)) / (10 : Int32) * (10 : Int32))), some (.int (x1 - x1 / (10 : Int32) * (10 : Int32))), none] [.ref (1 + 3)] _ _ from ?_)
      refine zy_3 rfl rfl (show zyR _ _ _ _ [some (.ref (0 + 3)), some (.int x1), some (.int x2), some (.int (x1 / (100 : Int32))), some (.int ((x1 / (10 : Int32)) - (x1 / (10 : Int32)) / (10 : Int32) * (10 : Int32))), some (.int (x1 - x1 / (10 : Int32) * (10 : Int32))), none] [.int (0 : Int32), .ref (1 + 3)] _ _ from ?_)
      refine zy_2 rfl rfl (show zyR _ _ _ _ [some (.ref (0 + 3)), some (.int x1), some (.int x2), some (.int (x1 / (100 : Int32))), some (.int ((x1 / (10 : Int32)) - (x1 / (10 : Int32)) / (10 : Int32) * (10 : Int32))), some (.int (x1 - x1 / (10 : Int32) * (10 : Int32))), none] [.int (x1 / (100 : Int32)), .int (0 : Int32), .ref (1 + 3)] _ _ from ?_)
      obtain ⟨p2, hp2, h⟩ := zy_bind h
      refine zy_5 (c := 1) (as := [.int (0 : Int32), .int (x1 / (100 : Int32))]) (rest := []) (L := [some (.ref (1 + 3)), some (.int (0 : Int32)), some (.int (x1 / (100 : Int32)))]) (d' := 2) rfl rfl rfl (Nat.le_of_ble_eq_true rfl) (Nat.le_of_ble_eq_true rfl) rfl (Nat.le_of_ble_eq_true rfl) rfl rfl (zyC25 hp2) ?_
      show zyR _ _ _ _ [some (.ref (0 + 3)), some (.int x1), some (.int x2), some (.int (x1 / (100 : Int32))), some (.int ((x1 / (10 : Int32)) - (x1 / (10 : Int32)) / (10 : Int32) * (10 : Int32))), some (.int (x1 - x1 / (10 : Int32) * (10 : Int32))), none] [.int p2.1] _ _
      refine zy_24_0 rfl (fun b10 => (show zyR _ _ _ _ [some (.ref (0 + 3)), some (.int x1), some (.int x2), some (.int (x1 / (100 : Int32))), some (.int ((x1 / (10 : Int32)) - (x1 / (10 : Int32)) / (10 : Int32) * (10 : Int32))), some (.int (x1 - x1 / (10 : Int32) * (10 : Int32))), none] [] _ _ from ?_)) (fun b10 => (show zyR _ _ _ _ [some (.ref (0 + 3)), some (.int x1), some (.int x2), some (.int (x1 / (100 : Int32))), some (.int ((x1 / (10 : Int32)) - (x1 / (10 : Int32)) / (10 : Int32) * (10 : Int32))), some (.int (x1 - x1 / (10 : Int32) * (10 : Int32))), none] [] _ _ from ?_))
      · replace h := zy_ifp h b10
        refine zy_3c rfl rfl (show zyR _ _ _ _ [some (.ref (0 + 3)), some (.int x1), some (.int x2), some (.int (x1 / (100 : Int32))), some (.int ((x1 / (10 : Int32)) - (x1 / (10 : Int32)) / (10 : Int32) * (10 : Int32))), some (.int (x1 - x1 / (10 : Int32) * (10 : Int32))), none] [.int (-2000000000 : Int32)] _ _ from ?_)
        obtain ⟨rfl, rfl⟩ := zy_pi h
        exact zy_4 rfl ⟨rfl, rfl⟩
      · replace h := zy_ifn h b10
        refine zy_0 rfl rfl (show zyR _ _ _ _ [some (.ref (0 + 3)), some (.int x1), some (.int x2), some (.int (x1 / (100 : Int32))), some (.int ((x1 / (10 : Int32)) - (x1 / (10 : Int32)) / (10 : Int32) * (10 : Int32))), some (.int (x1 - x1 / (10 : Int32) * (10 : Int32))), none] [.ref (0 + 3)] _ _ from ?_)
        refine zy_1r (c := 0) rfl rfl rfl (show zyR _ _ _ _ [some (.ref (0 + 3)), some (.int x1), some (.int x2), some (.int (x1 / (100 : Int32))), some (.int ((x1 / (10 : Int32)) - (x1 / (10 : Int32)) / (10 : Int32) * (10 : Int32))), some (.int (x1 - x1 / (10 : Int32) * (10 : Int32))), none] [.ref (1 + 3)] _ _ from ?_)
        refine zy_3 rfl rfl (show zyR _ _ _ _ [some (.ref (0 + 3)), some (.int x1), some (.int x2), some (.int (x1 / (100 : Int32))), some (.int ((x1 / (10 : Int32)) - (x1 / (10 : Int32)) / (10 : Int32) * (10 : Int32))), some (.int (x1 - x1 / (10 : Int32) * (10 : Int32))), none] [.int (0 : Int32), .ref (1 + 3)] _ _ from ?_)
        refine zy_2 rfl rfl (show zyR _ _ _ _ [some (.ref (0 + 3)), some (.int x1), some (.int x2), some (.int (x1 / (100 : Int32))), some (.int ((x1 / (10 : Int32)) - (x1 / (10 : Int32)) / (10 : Int32) * (10 : Int32))), some (.int (x1 - x1 / (10 : Int32) * (10 : Int32))), none] [.int ((x1 / (10 : Int32)) - (x1 / (10 : Int32)) / (10 : Int32) * (10 : Int32)), .int (0 : Int32), .ref (1 + 3)] _ _ from ?_)
        obtain ⟨p3, hp3, h⟩ := zy_bind h
        refine zy_5 (c := 1) (as := [.int (0 : Int32), .int ((x1 / (10 : Int32)) - (x1 / (10 : Int32)) / (10 : Int32) * (10 : Int32))]) (rest := []) (L := [some (.ref (1 + 3)), some (.int (0 : Int32)), some (.int ((x1 / (10 : Int32)) - (x1 / (10 : Int32)) / (10 : Int32) * (10 : Int32)))]) (d' := 2) rfl rfl rfl (Nat.le_of_ble_eq_true rfl) (Nat.le_of_ble_eq_true rfl) rfl (Nat.le_of_ble_eq_true rfl) rfl rfl (zyC25 hp3) ?_
        show zyR _ _ _ _ [some (.ref (0 + 3)), some (.int x1), some (.int x2), some (.int (x1 / (100 : Int32))), some (.int ((x1 / (10 : Int32)) - (x1 / (10 : Int32)) / (10 : Int32) * (10 : Int32))), some (.int (x1 - x1 / (10 : Int32) * (10 : Int32))), none] [.int p3.1] _ _
        refine zy_24_0 rfl (fun b9 => (show zyR _ _ _ _ [some (.ref (0 + 3)), some (.int x1), some (.int x2), some (.int (x1 / (100 : Int32))), some (.int ((x1 / (10 : Int32)) - (x1 / (10 : Int32)) / (10 : Int32) * (10 : Int32))), some (.int (x1 - x1 / (10 : Int32) * (10 : Int32))), none] [] _ _ from ?_)) (fun b9 => (show zyR _ _ _ _ [some (.ref (0 + 3)), some (.int x1), some (.int x2), some (.int (x1 / (100 : Int32))), some (.int ((x1 / (10 : Int32)) - (x1 / (10 : Int32)) / (10 : Int32) * (10 : Int32))), some (.int (x1 - x1 / (10 : Int32) * (10 : Int32))), none] [] _ _ from ?_))
        · replace h := zy_ifp h b9
          refine zy_3c rfl rfl (show zyR _ _ _ _ [some (.ref (0 + 3)), some (.int x1), some (.int x2), some (.int (x1 / (100 : Int32))), some (.int ((x1 / (10 : Int32)) - (x1 / (10 : Int32)) / (10 : Int32) * (10 : Int32))), some (.int (x1 - x1 / (10 : Int32) * (10 : Int32))), none] [.int (-2000000000 : Int32)] _ _ from ?_)
          obtain ⟨rfl, rfl⟩ := zy_pi h
          exact zy_4 rfl ⟨rfl, rfl⟩
        · replace h := zy_ifn h b9
          refine zy_2 rfl rfl (show zyR _ _ _ _ [some (.ref (0 + 3)), some (.int x1), some (.int x2), some (.int (x1 / (100 : Int32))), some (.int ((x1 / (10 : Int32)) - (x1 / (10 : Int32)) / (10 : Int32) * (10 : Int32))), some (.int (x1 - x1 / (10 : Int32) * (10 : Int32))), none] [.int (x1 / (100 : Int32))] _ _ from ?_)
          refine zy_2 rfl rfl (show zyR _ _ _ _ [some (.ref (0 + 3)), some (.int x1), some (.int x2), some (.int (x1 / (100 : Int32))), some (.int ((x1 / (10 : Int32)) - (x1 / (10 : Int32)) / (10 : Int32) * (10 : Int32))), some (.int (x1 - x1 / (10 : Int32) * (10 : Int32))), none] [.int ((x1 / (10 : Int32)) - (x1 / (10 : Int32)) / (10 : Int32) * (10 : Int32)), .int (x1 / (100 : Int32))] _ _ from ?_)
          refine zy_25_0 rfl (fun b8 => (show zyR _ _ _ _ [some (.ref (0 + 3)), some (.int x1), some (.int x2), some (.int (x1 / (100 : Int32))), some (.int ((x1 / (10 : Int32)) - (x1 / (10 : Int32)) / (10 : Int32) * (10 : Int32))), some (.int (x1 - x1 / (10 : Int32) * (10 : Int32))), none] [] _ _ from ?_)) (fun b8 => (show zyR _ _ _ _ [some (.ref (0 + 3)), some (.int x1), some (.int x2), some (.int (x1 / (100 : Int32))), some (.int ((x1 / (10 : Int32)) - (x1 / (10 : Int32)) / (10 : Int32) * (10 : Int32))), some (.int (x1 - x1 / (10 : Int32) * (10 : Int32))), none] [] _ _ from ?_))
          · replace h := zy_ifp h b8
            refine zy_3c rfl rfl (show zyR _ _ _ _ [some (.ref (0 + 3)), some (.int x1), some (.int x2), some (.int (x1 / (100 : Int32))), some (.int ((x1 / (10 : Int32)) - (x1 / (10 : Int32)) / (10 : Int32) * (10 : Int32))), some (.int (x1 - x1 / (10 : Int32) * (10 : Int32))), none] [.int (-2000000000 : Int32)] _ _ from ?_)
            obtain ⟨rfl, rfl⟩ := zy_pi h
            exact zy_4 rfl ⟨rfl, rfl⟩
          · replace h := zy_ifn h b8
            refine zy_2 rfl rfl (show zyR _ _ _ _ [some (.ref (0 + 3)), some (.int x1), some (.int x2), some (.int (x1 / (100 : Int32))), some (.int ((x1 / (10 : Int32)) - (x1 / (10 : Int32)) / (10 : Int32) * (10 : Int32))), some (.int (x1 - x1 / (10 : Int32) * (10 : Int32))), none] [.int (x1 - x1 / (10 : Int32) * (10 : Int32))] _ _ from ?_)
            refine zy_3 rfl rfl (show zyR _ _ _ _ [some (.ref (0 + 3)), some (.int x1), some (.int x2), some (.int (x1 / (100 : Int32))), some (.int ((x1 / (10 : Int32)) - (x1 / (10 : Int32)) / (10 : Int32) * (10 : Int32))), some (.int (x1 - x1 / (10 : Int32) * (10 : Int32))), none] [.int (1 : Int32), .int (x1 - x1 / (10 : Int32) * (10 : Int32))] _ _ from ?_)
            refine zy_25_2 rfl (fun b7 => (show zyR _ _ _ _ [some (.ref (0 + 3)), some (.int x1), some (.int x2), some (.int (x1 / (100 : Int32))), some (.int ((x1 / (10 : Int32)) - (x1 / (10 : Int32)) / (10 : Int32) * (10 : Int32))), some (.int (x1 - x1 / (10 : Int32) * (10 : Int32))), none] [] _ _ from ?_)) (fun b7 => (show zyR _ _ _ _ [some (.ref (0 + 3)), some (.int x1), some (.int x2), some (.int (x1 / (100 : Int32))), some (.int ((x1 / (10 : Int32)) - (x1 / (10 : Int32)) / (10 : Int32) * (10 : Int32))), some (.int (x1 - x1 / (10 : Int32) * (10 : Int32))), none] [] _ _ from ?_))
            · replace h := zy_ifp h b7
              refine zy_3c rfl rfl (show zyR _ _ _ _ [some (.ref (0 + 3)), some (.int x1), some (.int x2), some (.int (x1 / (100 : Int32))), some (.int ((x1 / (10 : Int32)) - (x1 / (10 : Int32)) / (10 : Int32) * (10 : Int32))), some (.int (x1 - x1 / (10 : Int32) * (10 : Int32))), none] [.int (-2000000000 : Int32)] _ _ from ?_)
              obtain ⟨rfl, rfl⟩ := zy_pi h
              exact zy_4 rfl ⟨rfl, rfl⟩
            · replace h := zy_ifn h b7
              refine zy_2 rfl rfl (show zyR _ _ _ _ [some (.ref (0 + 3)), some (.int x1), some (.int x2), some (.int (x1 / (100 : Int32))), some (.int ((x1 / (10 : Int32)) - (x1 / (10 : Int32)) / (10 : Int32) * (10 : Int32))), some (.int (x1 - x1 / (10 : Int32) * (10 : Int32))), none] [.int (x1 - x1 / (10 : Int32) * (10 : Int32))] _ _ from ?_)
              refine zy_3 rfl rfl (show zyR _ _ _ _ [some (.ref (0 + 3)), some (.int x1), some (.int x2), some (.int (x1 / (100 : Int32))), some (.int ((x1 / (10 : Int32)) - (x1 / (10 : Int32)) / (10 : Int32) * (10 : Int32))), some (.int (x1 - x1 / (10 : Int32) * (10 : Int32))), none] [.int (3 : Int32), .int (x1 - x1 / (10 : Int32) * (10 : Int32))] _ _ from ?_)
              refine zy_25_5 rfl (fun b6 => (show zyR _ _ _ _ [some (.ref (0 + 3)), some (.int x1), some (.int x2), some (.int (x1 / (100 : Int32))), some (.int ((x1 / (10 : Int32)) - (x1 / (10 : Int32)) / (10 : Int32) * (10 : Int32))), some (.int (x1 - x1 / (10 : Int32) * (10 : Int32))), none] [] _ _ from ?_)) (fun b6 => (show zyR _ _ _ _ [some (.ref (0 + 3)), some (.int x1), some (.int x2), some (.int (x1 / (100 : Int32))), some (.int ((x1 / (10 : Int32)) - (x1 / (10 : Int32)) / (10 : Int32) * (10 : Int32))), some (.int (x1 - x1 / (10 : Int32) * (10 : Int32))), none] [] _ _ from ?_))
              · replace h := zy_ifp h b6
                refine zy_0 rfl rfl (show zyR _ _ _ _ [some (.ref (0 + 3)), some (.int x1), some (.int x2), some (.int (x1 / (100 : Int32))), some (.int ((x1 / (10 : Int32)) - (x1 / (10 : Int32)) / (10 : Int32) * (10 : Int32))), some (.int (x1 - x1 / (10 : Int32) * (10 : Int32))), none] [.ref (0 + 3)] _ _ from ?_)
                refine zy_1r (c := 0) rfl rfl rfl (show zyR _ _ _ _ [some (.ref (0 + 3)), some (.int x1), some (.int x2), some (.int (x1 / (100 : Int32))), some (.int ((x1 / (10 : Int32)) - (x1 / (10 : Int32)) / (10 : Int32) * (10 : Int32))), some (.int (x1 - x1 / (10 : Int32) * (10 : Int32))), none] [.ref (15 + 3)] _ _ from ?_)
                refine zy_2 rfl rfl (show zyR _ _ _ _ [some (.ref (0 + 3)), some (.int x1), some (.int x2), some (.int (x1 / (100 : Int32))), some (.int ((x1 / (10 : Int32)) - (x1 / (10 : Int32)) / (10 : Int32) * (10 : Int32))), some (.int (x1 - x1 / (10 : Int32) * (10 : Int32))), none] [.int (x1 / (100 : Int32)), .ref (15 + 3)] _ _ from ?_)
                refine zy_2 rfl rfl (show zyR _ _ _ _ [some (.ref (0 + 3)), some (.int x1), some (.int x2), some (.int (x1 / (100 : Int32))), some (.int ((x1 / (10 : Int32)) - (x1 / (10 : Int32)) / (10 : Int32) * (10 : Int32))), some (.int (x1 - x1 / (10 : Int32) * (10 : Int32))), none] [.int ((x1 / (10 : Int32)) - (x1 / (10 : Int32)) / (10 : Int32) * (10 : Int32)), .int (x1 / (100 : Int32)), .ref (15 + 3)] _ _ from ?_)
                refine zy_2 rfl rfl (show zyR _ _ _ _ [some (.ref (0 + 3)), some (.int x1), some (.int x2), some (.int (x1 / (100 : Int32))), some (.int ((x1 / (10 : Int32)) - (x1 / (10 : Int32)) / (10 : Int32) * (10 : Int32))), some (.int (x1 - x1 / (10 : Int32) * (10 : Int32))), none] [.int (x1 - x1 / (10 : Int32) * (10 : Int32)), .int ((x1 / (10 : Int32)) - (x1 / (10 : Int32)) / (10 : Int32) * (10 : Int32)), .int (x1 / (100 : Int32)), .ref (15 + 3)] _ _ from ?_)
                obtain ⟨p4, hp4, h⟩ := zy_bind h
                refine zy_5 (c := 15) (as := [.int (x1 / (100 : Int32)), .int ((x1 / (10 : Int32)) - (x1 / (10 : Int32)) / (10 : Int32) * (10 : Int32)), .int (x1 - x1 / (10 : Int32) * (10 : Int32))]) (rest := []) (L := [some (.ref (15 + 3)), some (.int (x1 / (100 : Int32))), some (.int ((x1 / (10 : Int32)) - (x1 / (10 : Int32)) / (10 : Int32) * (10 : Int32))), some (.int (x1 - x1 / (10 : Int32) * (10 : Int32)))]) (d' := 106) rfl rfl rfl (Nat.le_of_ble_eq_true rfl) (Nat.le_of_ble_eq_true rfl) rfl (Nat.le_of_ble_eq_true rfl) rfl rfl (zyC104 hp4) ?_
                show zyR _ _ _ _ [some (.ref (0 + 3)), some (.int x1), some (.int x2), some (.int (x1 / (100 : Int32))), some (.int ((x1 / (10 : Int32)) - (x1 / (10 : Int32)) / (10 : Int32) * (10 : Int32))), some (.int (x1 - x1 / (10 : Int32) * (10 : Int32))), none] [.int p4.1] _ _
                refine zy_23 rfl rfl (show zyR _ _ _ _ [some (.ref (0 + 3)), some (.int x1), some (.int x2), some (.int (x1 / (100 : Int32))), some (.int ((x1 / (10 : Int32)) - (x1 / (10 : Int32)) / (10 : Int32) * (10 : Int32))), some (.int (x1 - x1 / (10 : Int32) * (10 : Int32))), some (.int p4.1)] [] _ _ from ?_)
                refine zy_2 rfl rfl (show zyR _ _ _ _ [some (.ref (0 + 3)), some (.int x1), some (.int x2), some (.int (x1 / (100 : Int32))), some (.int ((x1 / (10 : Int32)) - (x1 / (10 : Int32)) / (10 : Int32) * (10 : Int32))), some (.int (x1 - x1 / (10 : Int32) * (10 : Int32))), some (.int p4.1)] [.int x2] _ _ from ?_)
                refine zy_24_1 rfl (fun b5 => (show zyR _ _ _ _ [some (.ref (0 + 3)), some (.int x1), some (.int x2), some (.int (x1 / (100 : Int32))), some (.int ((x1 / (10 : Int32)) - (x1 / (10 : Int32)) / (10 : Int32) * (10 : Int32))), some (.int (x1 - x1 / (10 : Int32) * (10 : Int32))), some (.int p4.1)] [] _ _ from ?_)) (fun b5 => (show zyR _ _ _ _ [some (.ref (0 + 3)), some (.int x1), some (.int x2), some (.int (x1 / (100 : Int32))), some (.int ((x1 / (10 : Int32)) - (x1 / (10 : Int32)) / (10 : Int32) * (10 : Int32))), some (.int (x1 - x1 / (10 : Int32) * (10 : Int32))), some (.int p4.1)] [] _ _ from ?_))
                · replace h := zy_ifp h b5
                  refine zy_0 rfl rfl (show zyR _ _ _ _ [some (.ref (0 + 3)), some (.int x1), some (.int x2), some (.int (x1 / (100 : Int32))), some (.int ((x1 / (10 : Int32)) - (x1 / (10 : Int32)) / (10 : Int32) * (10 : Int32))), some (.int (x1 - x1 / (10 : Int32) * (10 : Int32))), some (.int p4.1)] [.ref (0 + 3)] _ _ from ?_)
                  refine zy_1r (c := 0) rfl rfl rfl (show zyR _ _ _ _ [some (.ref (0 + 3)), some (.int x1), some (.int x2), some (.int (x1 / (100 : Int32))), some (.int ((x1 / (10 : Int32)) - (x1 / (10 : Int32)) / (10 : Int32) * (10 : Int32))), some (.int (x1 - x1 / (10 : Int32) * (10 : Int32))), some (.int p4.1)] [.ref (15 + 3)] _ _ from ?_)
                  refine zy_1 (c := 15) rfl rfl rfl (show zyR _ _ _ _ [some (.ref (0 + 3)), some (.int x1), some (.int x2), some (.int (x1 / (100 : Int32))), some (.int ((x1 / (10 : Int32)) - (x1 / (10 : Int32)) / (10 : Int32) * (10 : Int32))), some (.int (x1 - x1 / (10 : Int32) * (10 : Int32))), some (.int p4.1)] [.int (p4.2.1 15 3)] _ _ from ?_)
                  obtain ⟨rfl, rfl⟩ := zy_pi h
                  exact zy_4 rfl ⟨rfl, rfl⟩
                · replace h := zy_ifn h b5
                  refine zy_2 rfl rfl (show zyR _ _ _ _ [some (.ref (0 + 3)), some (.int x1), some (.int x2), some (.int (x1 / (100 : Int32))), some (.int ((x1 / (10 : Int32)) - (x1 / (10 : Int32)) / (10 : Int32) * (10 : Int32))), some (.int (x1 - x1 / (10 : Int32) * (10 : Int32))), some (.int p4.1)] [.int p4.1] _ _ from ?_)
                  refine zy_6 rfl (show zyR _ _ _ _ [some (.ref (0 + 3)), some (.int x1), some (.int x2), some (.int (x1 / (100 : Int32))), some (.int ((x1 / (10 : Int32)) - (x1 / (10 : Int32)) / (10 : Int32) * (10 : Int32))), some (.int (x1 - x1 / (10 : Int32) * (10 : Int32))), some (.int p4.1)] [.int p4.1] _ _ from ?_)
                  obtain ⟨rfl, rfl⟩ := zy_pi h
                  exact zy_4 rfl ⟨rfl, rfl⟩
              · replace h := zy_ifn h b6
                refine zy_3c rfl rfl (show zyR _ _ _ _ [some (.ref (0 + 3)), some (.int x1), some (.int x2), some (.int (x1 / (100 : Int32))), some (.int ((x1 / (10 : Int32)) - (x1 / (10 : Int32)) / (10 : Int32) * (10 : Int32))), some (.int (x1 - x1 / (10 : Int32) * (10 : Int32))), none] [.int (-2000000000 : Int32)] _ _ from ?_)
                obtain ⟨rfl, rfl⟩ := zy_pi h
                exact zy_4 rfl ⟨rfl, rfl⟩
    · replace h := zy_ifn h b11
      refine zy_3c rfl rfl (show zyR _ _ _ _ [some (.ref (0 + 3)), some (.int x1), some (.int x2), none, none, none, none] [.int (-2000000000 : Int32)] _ _ from ?_)
      obtain ⟨rfl, rfl⟩ := zy_pi h
      exact zy_4 rfl ⟨rfl, rfl⟩
end
section
/-! PART 41.48: methods as functions. Made by wip/v4/dcp.py. -/
/-! NineOpinionsModel.playFrom(IIIII)I, over what it calls -/
noncomputable def zyF227_166 (g227 : Int32 → Int32 → Int32 → Int32 → Int32 → zy_S → Option (Int32 × zy_S)) (k40 : Int32 → Int32 → Int32 → Int32 → Int32 → Int32 → Int32 → zy_S → Option (Int32 × zy_S)) (x1 : Int32) (x2 : Int32) (x3 : Int32) (x4 : Int32) (x5 : Int32) (x6 : Int32) (x7 : Int32) (s : zy_S) : Option (Int32 × zy_S) :=
k40 x1 x2 x3 x4 x5 x6 (x7 + (1 : Int32)) s
theorem zyC227_166 {X : zx_X} {d : Nat} {g227 : Int32 → Int32 → Int32 → Int32 → Int32 → zy_S → Option (Int32 × zy_S)} {k40 : Int32 → Int32 → Int32 → Int32 → Int32 → Int32 → Int32 → zy_S → Option (Int32 × zy_S)} (hd : 105 ≤ d) (hg227 : ∀ (x1 : Int32) (x2 : Int32) (x3 : Int32) (x4 : Int32) (x5 : Int32) (s : zy_S) (r : Int32) (s' : zy_S), g227 x1 x2 x3 x4 x5 s = some (r, s') → zyR X d 227 0 [some (.ref (43 + 3)), some (.int x1), some (.int x2), some (.int x3), some (.int x4), some (.int x5), none, none, none, none] [] s (zyE (some (.int r)) s')) (hk40 : ∀ (x1 : Int32) (x2 : Int32) (x3 : Int32) (x4 : Int32) (x5 : Int32) (x6 : Int32) (x7 : Int32) (s : zy_S) (r : Int32) (s' : zy_S), k40 x1 x2 x3 x4 x5 x6 x7 s = some (r, s') → zyR X (d + 1) 227 40 [some (.ref (43 + 3)), some (.int x1), some (.int x2), some (.int x3), some (.int x4), some (.int x5), some (.int x6), some (.int x7), none, none] [] s (zyE (some (.int r)) s')) {x1 : Int32} {x2 : Int32} {x3 : Int32} {x4 : Int32} {x5 : Int32} {x6 : Int32} {x7 : Int32} {s : zy_S} {r : Int32} {s' : zy_S}  (h : zyF227_166 g227 k40 x1 x2 x3 x4 x5 x6 x7 s = some (r, s')) : zyR X (d + 1) 227 166 [some (.ref (43 + 3)), some (.int x1), some (.int x2), some (.int x3), some (.int x4), some (.int x5), some (.int x6), some (.int x7), none, none] [] s (zyE (some (.int r)) s') := by
  unfold zyF227_166 at h
  refine zy_22 rfl rfl rfl rfl (show zyR _ _ _ _ [some (.ref (43 + 3)), some (.int x1), some (.int x2), some (.int x3), some (.int x4), some (.int x5), some (.int x6), some (.int (x7 + (1 : Int32))), none, none] [] _ _ from ?_)
  refine zy_6 rfl (show zyR _ _ _ _ [some (.ref (43 + 3)), some (.int x1), some (.int x2), some (.int x3), some (.int x4), some (.int x5), some (.int x6), some (.int (x7 + (1 : Int32))), none, none] [] _ _ from ?_)
  exact zy_sub (show zy_le [some (.ref (43 + 3)), some (.int x1), some (.int x2), some (.int x3), some (.int x4), some (.int x5), some (.int x6), some (.int (x7 + (1 : Int32))), none, none] [some (.ref (43 + 3)), some (.int x1), some (.int x2), some (.int x3), some (.int x4), some (.int x5), some (.int x6), some (.int (x7 + (1 : Int32))), none, none] from ⟨rfl, ⟨rfl, ⟨rfl, ⟨rfl, ⟨rfl, ⟨rfl, ⟨rfl, ⟨rfl, trivial⟩⟩⟩⟩⟩⟩⟩⟩) (hk40 x1 x2 x3 x4 x5 x6 (x7 + (1 : Int32)) s _ _ h)
noncomputable def zyF227_164 (g227 : Int32 → Int32 → Int32 → Int32 → Int32 → zy_S → Option (Int32 × zy_S)) (k40 : Int32 → Int32 → Int32 → Int32 → Int32 → Int32 → Int32 → zy_S → Option (Int32 × zy_S)) (x1 : Int32) (x2 : Int32) (x3 : Int32) (x4 : Int32) (x5 : Int32) (x7 : Int32) (y0 : Int32) (s : zy_S) : Option (Int32 × zy_S) :=
zyF227_166 g227 k40 x1 x2 x3 x4 x5 y0 x7 s
theorem zyC227_164 {X : zx_X} {d : Nat} {g227 : Int32 → Int32 → Int32 → Int32 → Int32 → zy_S → Option (Int32 × zy_S)} {k40 : Int32 → Int32 → Int32 → Int32 → Int32 → Int32 → Int32 → zy_S → Option (Int32 × zy_S)} (hd : 105 ≤ d) (hg227 : ∀ (x1 : Int32) (x2 : Int32) (x3 : Int32) (x4 : Int32) (x5 : Int32) (s : zy_S) (r : Int32) (s' : zy_S), g227 x1 x2 x3 x4 x5 s = some (r, s') → zyR X d 227 0 [some (.ref (43 + 3)), some (.int x1), some (.int x2), some (.int x3), some (.int x4), some (.int x5), none, none, none, none] [] s (zyE (some (.int r)) s')) (hk40 : ∀ (x1 : Int32) (x2 : Int32) (x3 : Int32) (x4 : Int32) (x5 : Int32) (x6 : Int32) (x7 : Int32) (s : zy_S) (r : Int32) (s' : zy_S), k40 x1 x2 x3 x4 x5 x6 x7 s = some (r, s') → zyR X (d + 1) 227 40 [some (.ref (43 + 3)), some (.int x1), some (.int x2), some (.int x3), some (.int x4), some (.int x5), some (.int x6), some (.int x7), none, none] [] s (zyE (some (.int r)) s')) {x1 : Int32} {x2 : Int32} {x3 : Int32} {x4 : Int32} {x5 : Int32} {x7 : Int32} {y0 : Int32} {s : zy_S} {r : Int32} {s' : zy_S}  (h : zyF227_164 g227 k40 x1 x2 x3 x4 x5 x7 y0 s = some (r, s')) : zyR X (d + 1) 227 164 [some (.ref (43 + 3)), some (.int x1), some (.int x2), some (.int x3), some (.int x4), some (.int x5), none, some (.int x7), none, none] [.int y0] s (zyE (some (.int r)) s') := by
  unfold zyF227_164 at h
  refine zy_23 rfl rfl (show zyR _ _ _ _ [some (.ref (43 + 3)), some (.int x1), some (.int x2), some (.int x3), some (.int x4), some (.int x5), some (.int y0), some (.int x7), none, none] [] _ _ from ?_)
  exact zy_sub (show zy_le [some (.ref (43 + 3)), some (.int x1), some (.int x2), some (.int x3), some (.int x4), some (.int x5), some (.int y0), some (.int x7), none, none] [some (.ref (43 + 3)), some (.int x1), some (.int x2), some (.int x3), some (.int x4), some (.int x5), some (.int y0), some (.int x7), none, none] from ⟨rfl, ⟨rfl, ⟨rfl, ⟨rfl, ⟨rfl, ⟨rfl, ⟨rfl, ⟨rfl, trivial⟩⟩⟩⟩⟩⟩⟩⟩) (zyC227_166 hd hg227 hk40 h)
noncomputable def zyF227_97 (g227 : Int32 → Int32 → Int32 → Int32 → Int32 → zy_S → Option (Int32 × zy_S)) (k40 : Int32 → Int32 → Int32 → Int32 → Int32 → Int32 → Int32 → zy_S → Option (Int32 × zy_S)) (x1 : Int32) (x2 : Int32) (x3 : Int32) (x4 : Int32) (x5 : Int32) (x6 : Int32) (x7 : Int32) (x8 : Int32) (y0 : Int32) (y1 : Int32) (s : zy_S) : Option (Int32 × zy_S) :=
if zy_in y1 24 then
(g227 x1 x2 (x3 + (1 : Int32)) x4 (x5 ^^^ ((1 : Int32) <<< (x7 &&& 31))) (zy_up s 51 (y1).toNatClampNeg y0)).bind fun p2 =>
if zy_in x7 24 then
if (x3 - x3 / (2 : Int32) * (2 : Int32)) ≠ 0 then
if p2.1 ≤ x6 then
zyF227_164 g227 k40 x1 x2 x3 x4 x5 x7 x6 (zy_up p2.2 51 (x7).toNatClampNeg x8)
else
zyF227_164 g227 k40 x1 x2 x3 x4 x5 x7 p2.1 (zy_up p2.2 51 (x7).toNatClampNeg x8)
else
if x6 ≤ p2.1 then
zyF227_164 g227 k40 x1 x2 x3 x4 x5 x7 x6 (zy_up p2.2 51 (x7).toNatClampNeg x8)
else
zyF227_164 g227 k40 x1 x2 x3 x4 x5 x7 p2.1 (zy_up p2.2 51 (x7).toNatClampNeg x8)
else none
else none
theorem zyC227_97 {X : zx_X} {d : Nat} {g227 : Int32 → Int32 → Int32 → Int32 → Int32 → zy_S → Option (Int32 × zy_S)} {k40 : Int32 → Int32 → Int32 → Int32 → Int32 → Int32 → Int32 → zy_S → Option (Int32 × zy_S)} (hd : 105 ≤ d) (hg227 : ∀ (x1 : Int32) (x2 : Int32) (x3 : Int32) (x4 : Int32) (x5 : Int32) (s : zy_S) (r : Int32) (s' : zy_S), g227 x1 x2 x3 x4 x5 s = some (r, s') → zyR X d 227 0 [some (.ref (43 + 3)), some (.int x1), some (.int x2), some (.int x3), some (.int x4), some (.int x5), none, none, none, none] [] s (zyE (some (.int r)) s')) (hk40 : ∀ (x1 : Int32) (x2 : Int32) (x3 : Int32) (x4 : Int32) (x5 : Int32) (x6 : Int32) (x7 : Int32) (s : zy_S) (r : Int32) (s' : zy_S), k40 x1 x2 x3 x4 x5 x6 x7 s = some (r, s') → zyR X (d + 1) 227 40 [some (.ref (43 + 3)), some (.int x1), some (.int x2), some (.int x3), some (.int x4), some (.int x5), some (.int x6), some (.int x7), none, none] [] s (zyE (some (.int r)) s')) {x1 : Int32} {x2 : Int32} {x3 : Int32} {x4 : Int32} {x5 : Int32} {x6 : Int32} {x7 : Int32} {x8 : Int32} {y0 : Int32} {y1 : Int32} {s : zy_S} {r : Int32} {s' : zy_S}  (h : zyF227_97 g227 k40 x1 x2 x3 x4 x5 x6 x7 x8 y0 y1 s = some (r, s')) : zyR X (d + 1) 227 97 [some (.ref (43 + 3)), some (.int x1), some (.int x2), some (.int x3), some (.int x4), some (.int x5), some (.int x6), some (.int x7), some (.int x8), none] [.int y0, .int y1, .ref (51 + 3)] s (zyE (some (.int r)) s') := by
  unfold zyF227_97 at h
  obtain ⟨c1, h⟩ := zy_if h
  refine zy_27 (c := 51) rfl rfl c1 (show zyR _ _ _ _ [some (.ref (43 + 3)), some (.int x1), some (.int x2), some (.int x3), some (.int x4), some (.int x5), some (.int x6), some (.int x7), some (.int x8), none] [] _ _ from ?_)
  refine zy_0 rfl rfl (show zyR _ _ _ _ [some (.ref (43 + 3)), some (.int x1), some (.int x2), some (.int x3), some (.int x4), some (.int x5), some (.int x6), some (.int x7), some (.int x8), none] [.ref (43 + 3)] _ _ from ?_)
  refine zy_2 rfl rfl (show zyR _ _ _ _ [some (.ref (43 + 3)), some (.int x1), some (.int x2), some (.int x3), some (.int x4), some (.int x5), some (.int x6), some (.int x7), some (.int x8), none] [.int x1, .ref (43 + 3)] _ _ from ?_)
  refine zy_2 rfl rfl (show zyR _ _ _ _ [some (.ref (43 + 3)), some (.int x1), some (.int x2), some (.int x3), some (.int x4), some (.int x5), some (.int x6), some (.int x7), some (.int x8), none] [.int x2, .int x1, .ref (43 + 3)] _ _ from ?_)
  refine zy_2 rfl rfl (show zyR _ _ _ _ [some (.ref (43 + 3)), some (.int x1), some (.int x2), some (.int x3), some (.int x4), some (.int x5), some (.int x6), some (.int x7), some (.int x8), none] [.int x3, .int x2, .int x1, .ref (43 + 3)] _ _ from ?_)
  refine zy_3 rfl rfl (show zyR _ _ _ _ [some (.ref (43 + 3)), some (.int x1), some (.int x2), some (.int x3), some (.int x4), some (.int x5), some (.int x6), some (.int x7), some (.int x8), none] [.int (1 : Int32), .int x3, .int x2, .int x1, .ref (43 + 3)] _ _ from ?_)
  refine zy_10 rfl (show zyR _ _ _ _ [some (.ref (43 + 3)), some (.int x1), some (.int x2), some (.int x3), some (.int x4), some (.int x5), some (.int x6), some (.int x7), some (.int x8), none] [.int (x3 + (1 : Int32)), .int x2, .int x1, .ref (43 + 3)] _ _ from ?_)
  refine zy_2 rfl rfl (show zyR _ _ _ _ [some (.ref (43 + 3)), some (.int x1), some (.int x2), some (.int x3), some (.int x4), some (.int x5), some (.int x6), some (.int x7), some (.int x8), none] [.int x4, .int (x3 + (1 : Int32)), .int x2, .int x1, .ref (43 + 3)] _ _ from ?_)
  refine zy_2 rfl rfl (show zyR _ _ _ _ [some (.ref (43 + 3)), some (.int x1), some (.int x2), some (.int x3), some (.int x4), some (.int x5), some (.int x6), some (.int x7), some (.int x8), none] [.int x5, .int x4, .int (x3 + (1 : Int32)), .int x2, .int x1, .ref (43 + 3)] _ _ from ?_)
  refine zy_3 rfl rfl (show zyR _ _ _ _ [some (.ref (43 + 3)), some (.int x1), some (.int x2), some (.int x3), some (.int x4), some (.int x5), some (.int x6), some (.int x7), some (.int x8), none] [.int (1 : Int32), .int x5, .int x4, .int (x3 + (1 : Int32)), .int x2, .int x1, .ref (43 + 3)] _ _ from ?_)
  refine zy_2 rfl rfl (show zyR _ _ _ _ [some (.ref (43 + 3)), some (.int x1), some (.int x2), some (.int x3), some (.int x4), some (.int x5), some (.int x6), some (.int x7), some (.int x8), none] [.int x7, .int (1 : Int32), .int x5, .int x4, .int (x3 + (1 : Int32)), .int x2, .int x1, .ref (43 + 3)] _ _ from ?_)
  refine zy_16 rfl (show zyR _ _ _ _ [some (.ref (43 + 3)), some (.int x1), some (.int x2), some (.int x3), some (.int x4), some (.int x5), some (.int x6), some (.int x7), some (.int x8), none] [.int ((1 : Int32) <<< (x7 &&& 31)), .int x5, .int x4, .int (x3 + (1 : Int32)), .int x2, .int x1, .ref (43 + 3)] _ _ from ?_)
  refine zy_15 rfl (show zyR _ _ _ _ [some (.ref (43 + 3)), some (.int x1), some (.int x2), some (.int x3), some (.int x4), some (.int x5), some (.int x6), some (.int x7), some (.int x8), none] [.int (x5 ^^^ ((1 : Int32) <<< (x7 &&& 31))), .int x4, .int (x3 + (1 : Int32)), .int x2, .int x1, .ref (43 + 3)] _ _ from ?_)
  obtain ⟨p2, hp2, h⟩ := zy_bind h
  refine zy_5 (c := 43) (as := [.int x1, .int x2, .int (x3 + (1 : Int32)), .int x4, .int (x5 ^^^ ((1 : Int32) <<< (x7 &&& 31)))]) (rest := []) (L := [some (.ref (43 + 3)), some (.int x1), some (.int x2), some (.int (x3 + (1 : Int32))), some (.int x4), some (.int (x5 ^^^ ((1 : Int32) <<< (x7 &&& 31)))), none, none, none, none]) (d' := d) rfl rfl rfl (Nat.le_of_ble_eq_true rfl) (by omega) rfl (Nat.le_of_ble_eq_true rfl) rfl rfl (hg227 x1 x2 (x3 + (1 : Int32)) x4 (x5 ^^^ ((1 : Int32) <<< (x7 &&& 31))) (zy_up s 51 (y1).toNatClampNeg y0) _ _ hp2) ?_
  show zyR _ _ _ _ [some (.ref (43 + 3)), some (.int x1), some (.int x2), some (.int x3), some (.int x4), some (.int x5), some (.int x6), some (.int x7), some (.int x8), none] [.int p2.1] _ _
  refine zy_23 rfl rfl (show zyR _ _ _ _ [some (.ref (43 + 3)), some (.int x1), some (.int x2), some (.int x3), some (.int x4), some (.int x5), some (.int x6), some (.int x7), some (.int x8), some (.int p2.1)] [] _ _ from ?_)
  refine zy_0 rfl rfl (show zyR _ _ _ _ [some (.ref (43 + 3)), some (.int x1), some (.int x2), some (.int x3), some (.int x4), some (.int x5), some (.int x6), some (.int x7), some (.int x8), some (.int p2.1)] [.ref (43 + 3)] _ _ from ?_)
  refine zy_1r (c := 43) rfl rfl rfl (show zyR _ _ _ _ [some (.ref (43 + 3)), some (.int x1), some (.int x2), some (.int x3), some (.int x4), some (.int x5), some (.int x6), some (.int x7), some (.int x8), some (.int p2.1)] [.ref (51 + 3)] _ _ from ?_)
  refine zy_2 rfl rfl (show zyR _ _ _ _ [some (.ref (43 + 3)), some (.int x1), some (.int x2), some (.int x3), some (.int x4), some (.int x5), some (.int x6), some (.int x7), some (.int x8), some (.int p2.1)] [.int x7, .ref (51 + 3)] _ _ from ?_)
  refine zy_2 rfl rfl (show zyR _ _ _ _ [some (.ref (43 + 3)), some (.int x1), some (.int x2), some (.int x3), some (.int x4), some (.int x5), some (.int x6), some (.int x7), some (.int x8), some (.int p2.1)] [.int x8, .int x7, .ref (51 + 3)] _ _ from ?_)
  obtain ⟨c3, h⟩ := zy_if h
  refine zy_27 (c := 51) rfl rfl c3 (show zyR _ _ _ _ [some (.ref (43 + 3)), some (.int x1), some (.int x2), some (.int x3), some (.int x4), some (.int x5), some (.int x6), some (.int x7), some (.int x8), some (.int p2.1)] [] _ _ from ?_)
  refine zy_2 rfl rfl (show zyR _ _ _ _ [some (.ref (43 + 3)), some (.int x1), some (.int x2), some (.int x3), some (.int x4), some (.int x5), some (.int x6), some (.int x7), some (.int x8), some (.int p2.1)] [.int x3] _ _ from ?_)
  refine zy_3 rfl rfl (show zyR _ _ _ _ [some (.ref (43 + 3)), some (.int x1), some (.int x2), some (.int x3), some (.int x4), some (.int x5), some (.int x6), some (.int x7), some (.int x8), some (.int p2.1)] [.int (2 : Int32), .int x3] _ _ from ?_)
  refine zy_20 rfl (by decide) (show zyR _ _ _ _ [some (.ref (43 + 3)), some (.int x1), some (.int x2), some (.int x3), some (.int x4), some (.int x5), some (.int x6), some (.int x7), some (.int x8), some (.int p2.1)] [.int (x3 - x3 / (2 : Int32) * (2 : Int32))] _ _ from ?_)
  refine zy_24_1 rfl (fun b6 => (show zyR _ _ _ _ [some (.ref (43 + 3)), some (.int x1), some (.int x2), some (.int x3), some (.int x4), some (.int x5), some (.int x6), some (.int x7), some (.int x8), some (.int p2.1)] [] _ _ from ?_)) (fun b6 => (show zyR _ _ _ _ [some (.ref (43 + 3)), some (.int x1), some (.int x2), some (.int x3), some (.int x4), some (.int x5), some (.int x6), some (.int x7), some (.int x8), some (.int p2.1)] [] _ _ from ?_))
  · replace h := zy_ifp h b6
    refine zy_2 rfl rfl (show zyR _ _ _ _ [some (.ref (43 + 3)), some (.int x1), some (.int x2), some (.int x3), some (.int x4), some (.int x5), some (.int x6), some (.int x7), some (.int x8), some (.int p2.1)] [.int p2.1] _ _ from ?_)
    refine zy_2 rfl rfl (show zyR _ _ _ _ [some (.ref (43 + 3)), some (.int x1), some (.int x2), some (.int x3), some (.int x4), some (.int x5), some (.int x6), some (.int x7), some (.int x8), some (.int p2.1)] [.int x6, .int p2.1] _ _ from ?_)
    refine zy_25_5 rfl (fun b4 => (show zyR _ _ _ _ [some (.ref (43 + 3)), some (.int x1), some (.int x2), some (.int x3), some (.int x4), some (.int x5), some (.int x6), some (.int x7), some (.int x8), some (.int p2.1)] [] _ _ from ?_)) (fun b4 => (show zyR _ _ _ _ [some (.ref (43 + 3)), some (.int x1), some (.int x2), some (.int x3), some (.int x4), some (.int x5), some (.int x6), some (.int x7), some (.int x8), some (.int p2.1)] [] _ _ from ?_))
    · replace h := zy_ifp h b4
      refine zy_2 rfl rfl (show zyR _ _ _ _ [some (.ref (43 + 3)), some (.int x1), some (.int x2), some (.int x3), some (.int x4), some (.int x5), some (.int x6), some (.int x7), some (.int x8), some (.int p2.1)] [.int x6] _ _ from ?_)
      exact zy_sub (show zy_le [some (.ref (43 + 3)), some (.int x1), some (.int x2), some (.int x3), some (.int x4), some (.int x5), none, some (.int x7), none, none] [some (.ref (43 + 3)), some (.int x1), some (.int x2), some (.int x3), some (.int x4), some (.int x5), some (.int x6), some (.int x7), some (.int x8), some (.int p2.1)] from ⟨rfl, ⟨rfl, ⟨rfl, ⟨rfl, ⟨rfl, ⟨rfl, ⟨rfl, trivial⟩⟩⟩⟩⟩⟩⟩) (zyC227_164 hd hg227 hk40 h)
    · replace h := zy_ifn h b4
      refine zy_2 rfl rfl (show zyR _ _ _ _ [some (.ref (43 + 3)), some (.int x1), some (.int x2), some (.int x3), some (.int x4), some (.int x5), some (.int x6), some (.int x7), some (.int x8), some (.int p2.1)] [.int p2.1] _ _ from ?_)
      refine zy_6 rfl (show zyR _ _ _ _ [some (.ref (43 + 3)), some (.int x1), some (.int x2), some (.int x3), some (.int x4), some (.int x5), some (.int x6), some (.int x7), some (.int x8), some (.int p2.1)] [.int p2.1] _ _ from ?_)
      exact zy_sub (show zy_le [some (.ref (43 + 3)), some (.int x1), some (.int x2), some (.int x3), some (.int x4), some (.int x5), none, some (.int x7), none, none] [some (.ref (43 + 3)), some (.int x1), some (.int x2), some (.int x3), some (.int x4), some (.int x5), some (.int x6), some (.int x7), some (.int x8), some (.int p2.1)] from ⟨rfl, ⟨rfl, ⟨rfl, ⟨rfl, ⟨rfl, ⟨rfl, ⟨rfl, trivial⟩⟩⟩⟩⟩⟩⟩) (zyC227_164 hd hg227 hk40 h)
  · replace h := zy_ifn h b6
    refine zy_2 rfl rfl (show zyR _ _ _ _ [some (.ref (43 + 3)), some (.int x1), some (.int x2), some (.int x3), some (.int x4), some (.int x5), some (.int x6), some (.int x7), some (.int x8), some (.int p2.1)] [.int p2.1] _ _ from ?_)
    refine zy_2 rfl rfl (show zyR _ _ _ _ [some (.ref (43 + 3)), some (.int x1), some (.int x2), some (.int x3), some (.int x4), some (.int x5), some (.int x6), some (.int x7), some (.int x8), some (.int p2.1)] [.int x6, .int p2.1] _ _ from ?_)
    refine zy_25_3 rfl (fun b5 => (show zyR _ _ _ _ [some (.ref (43 + 3)), some (.int x1), some (.int x2), some (.int x3), some (.int x4), some (.int x5), some (.int x6), some (.int x7), some (.int x8), some (.int p2.1)] [] _ _ from ?_)) (fun b5 => (show zyR _ _ _ _ [some (.ref (43 + 3)), some (.int x1), some (.int x2), some (.int x3), some (.int x4), some (.int x5), some (.int x6), some (.int x7), some (.int x8), some (.int p2.1)] [] _ _ from ?_))
    · replace h := zy_ifp h b5
      refine zy_2 rfl rfl (show zyR _ _ _ _ [some (.ref (43 + 3)), some (.int x1), some (.int x2), some (.int x3), some (.int x4), some (.int x5), some (.int x6), some (.int x7), some (.int x8), some (.int p2.1)] [.int x6] _ _ from ?_)
      refine zy_6 rfl (show zyR _ _ _ _ [some (.ref (43 + 3)), some (.int x1), some (.int x2), some (.int x3), some (.int x4), some (.int x5), some (.int x6), some (.int x7), some (.int x8), some (.int p2.1)] [.int x6] _ _ from ?_)
      exact zy_sub (show zy_le [some (.ref (43 + 3)), some (.int x1), some (.int x2), some (.int x3), some (.int x4), some (.int x5), none, some (.int x7), none, none] [some (.ref (43 + 3)), some (.int x1), some (.int x2), some (.int x3), some (.int x4), some (.int x5), some (.int x6), some (.int x7), some (.int x8), some (.int p2.1)] from ⟨rfl, ⟨rfl, ⟨rfl, ⟨rfl, ⟨rfl, ⟨rfl, ⟨rfl, trivial⟩⟩⟩⟩⟩⟩⟩) (zyC227_164 hd hg227 hk40 h)
    · replace h := zy_ifn h b5
      refine zy_2 rfl rfl (show zyR _ _ _ _ [some (.ref (43 + 3)), some (.int x1), some (.int x2), some (.int x3), some (.int x4), some (.int x5), some (.int x6), some (.int x7), some (.int x8), some (.int p2.1)] [.int p2.1] _ _ from ?_)
      refine zy_6 rfl (show zyR _ _ _ _ [some (.ref (43 + 3)), some (.int x1), some (.int x2), some (.int x3), some (.int x4), some (.int x5), some (.int x6), some (.int x7), some (.int x8), some (.int p2.1)] [.int p2.1] _ _ from ?_)
      exact zy_sub (show zy_le [some (.ref (43 + 3)), some (.int x1), some (.int x2), some (.int x3), some (.int x4), some (.int x5), none, some (.int x7), none, none] [some (.ref (43 + 3)), some (.int x1), some (.int x2), some (.int x3), some (.int x4), some (.int x5), some (.int x6), some (.int x7), some (.int x8), some (.int p2.1)] from ⟨rfl, ⟨rfl, ⟨rfl, ⟨rfl, ⟨rfl, ⟨rfl, ⟨rfl, trivial⟩⟩⟩⟩⟩⟩⟩) (zyC227_164 hd hg227 hk40 h)
noncomputable def zyF227_66 (g227 : Int32 → Int32 → Int32 → Int32 → Int32 → zy_S → Option (Int32 × zy_S)) (k40 : Int32 → Int32 → Int32 → Int32 → Int32 → Int32 → Int32 → zy_S → Option (Int32 × zy_S)) (x1 : Int32) (x2 : Int32) (x3 : Int32) (x4 : Int32) (x5 : Int32) (x6 : Int32) (x7 : Int32) (s : zy_S) : Option (Int32 × zy_S) :=
if zy_in x7 24 then
(zyF208 x5 x7 s).bind fun p8 =>
if p8.1 = 0 then
zyF227_97 g227 k40 x1 x2 x3 x4 x5 x6 x7 (s.1 51 (x7).toNatClampNeg) (0 : Int32) x7 p8.2
else
zyF227_97 g227 k40 x1 x2 x3 x4 x5 x6 x7 (s.1 51 (x7).toNatClampNeg) (s.1 51 (x7).toNatClampNeg) x7 p8.2
else none
theorem zyC227_66 {X : zx_X} {d : Nat} {g227 : Int32 → Int32 → Int32 → Int32 → Int32 → zy_S → Option (Int32 × zy_S)} {k40 : Int32 → Int32 → Int32 → Int32 → Int32 → Int32 → Int32 → zy_S → Option (Int32 × zy_S)} (hd : 105 ≤ d) (hg227 : ∀ (x1 : Int32) (x2 : Int32) (x3 : Int32) (x4 : Int32) (x5 : Int32) (s : zy_S) (r : Int32) (s' : zy_S), g227 x1 x2 x3 x4 x5 s = some (r, s') → zyR X d 227 0 [some (.ref (43 + 3)), some (.int x1), some (.int x2), some (.int x3), some (.int x4), some (.int x5), none, none, none, none] [] s (zyE (some (.int r)) s')) (hk40 : ∀ (x1 : Int32) (x2 : Int32) (x3 : Int32) (x4 : Int32) (x5 : Int32) (x6 : Int32) (x7 : Int32) (s : zy_S) (r : Int32) (s' : zy_S), k40 x1 x2 x3 x4 x5 x6 x7 s = some (r, s') → zyR X (d + 1) 227 40 [some (.ref (43 + 3)), some (.int x1), some (.int x2), some (.int x3), some (.int x4), some (.int x5), some (.int x6), some (.int x7), none, none] [] s (zyE (some (.int r)) s')) {x1 : Int32} {x2 : Int32} {x3 : Int32} {x4 : Int32} {x5 : Int32} {x6 : Int32} {x7 : Int32} {s : zy_S} {r : Int32} {s' : zy_S}  (h : zyF227_66 g227 k40 x1 x2 x3 x4 x5 x6 x7 s = some (r, s')) : zyR X (d + 1) 227 66 [some (.ref (43 + 3)), some (.int x1), some (.int x2), some (.int x3), some (.int x4), some (.int x5), some (.int x6), some (.int x7), none, none] [] s (zyE (some (.int r)) s') := by
  unfold zyF227_66 at h
  refine zy_0 rfl rfl (show zyR _ _ _ _ [some (.ref (43 + 3)), some (.int x1), some (.int x2), some (.int x3), some (.int x4), some (.int x5), some (.int x6), some (.int x7), none, none] [.ref (43 + 3)] _ _ from ?_)
  refine zy_1r (c := 43) rfl rfl rfl (show zyR _ _ _ _ [some (.ref (43 + 3)), some (.int x1), some (.int x2), some (.int x3), some (.int x4), some (.int x5), some (.int x6), some (.int x7), none, none] [.ref (51 + 3)] _ _ from ?_)
  refine zy_2 rfl rfl (show zyR _ _ _ _ [some (.ref (43 + 3)), some (.int x1), some (.int x2), some (.int x3), some (.int x4), some (.int x5), some (.int x6), some (.int x7), none, none] [.int x7, .ref (51 + 3)] _ _ from ?_)
  obtain ⟨c7, h⟩ := zy_if h
  refine zy_26 (c := 51) rfl rfl c7 (show zyR _ _ _ _ [some (.ref (43 + 3)), some (.int x1), some (.int x2), some (.int x3), some (.int x4), some (.int x5), some (.int x6), some (.int x7), none, none] [.int (s.1 51 (x7).toNatClampNeg)] _ _ from ?_)
  refine zy_23 rfl rfl (show zyR _ _ _ _ [some (.ref (43 + 3)), some (.int x1), some (.int x2), some (.int x3), some (.int x4), some (.int x5), some (.int x6), some (.int x7), some (.int (s.1 51 (x7).toNatClampNeg)), none] [] _ _ from ?_)
  refine zy_0 rfl rfl (show zyR _ _ _ _ [some (.ref (43 + 3)), some (.int x1), some (.int x2), some (.int x3), some (.int x4), some (.int x5), some (.int x6), some (.int x7), some (.int (s.1 51 (x7).toNatClampNeg)), none] [.ref (43 + 3)] _ _ from ?_)
  refine zy_1r (c := 43) rfl rfl rfl (show zyR _ _ _ _ [some (.ref (43 + 3)), some (.int x1), some (.int x2), some (.int x3), some (.int x4), some (.int x5), some (.int x6), some (.int x7), some (.int (s.1 51 (x7).toNatClampNeg)), none] [.ref (51 + 3)] _ _ from ?_)
  refine zy_2 rfl rfl (show zyR _ _ _ _ [some (.ref (43 + 3)), some (.int x1), some (.int x2), some (.int x3), some (.int x4), some (.int x5), some (.int x6), some (.int x7), some (.int (s.1 51 (x7).toNatClampNeg)), none] [.int x7, .ref (51 + 3)] _ _ from ?_)
  refine zy_2 rfl rfl (show zyR _ _ _ _ [some (.ref (43 + 3)), some (.int x1), some (.int x2), some (.int x3), some (.int x4), some (.int x5), some (.int x6), some (.int x7), some (.int (s.1 51 (x7).toNatClampNeg)), none] [.int x5, .int x7, .ref (51 + 3)] _ _ from ?_)
  refine zy_2 rfl rfl (show zyR _ _ _ _ [some (.ref (43 + 3)), some (.int x1), some (.int x2), some (.int x3), some (.int x4), some (.int x5), some (.int x6), some (.int x7), some (.int (s.1 51 (x7).toNatClampNeg)), none] [.int x7, .int x5, .int x7, .ref (51 + 3)] _ _ from ?_)
  obtain ⟨p8, hp8, h⟩ := zy_bind h
  refine zy_60 (as := [.int x5, .int x7]) (rest := [.int x7, .ref (51 + 3)]) (L := [some (.int x5), some (.int x7)]) (d' := 1) rfl rfl (Nat.le_of_ble_eq_true rfl) (by omega) rfl (Nat.le_of_ble_eq_true rfl) rfl rfl (zyC208 hp8) ?_
  show zyR _ _ _ _ [some (.ref (43 + 3)), some (.int x1), some (.int x2), some (.int x3), some (.int x4), some (.int x5), some (.int x6), some (.int x7), some (.int (s.1 51 (x7).toNatClampNeg)), none] [.int p8.1, .int x7, .ref (51 + 3)] _ _
  refine zy_24_0 rfl (fun b9 => (show zyR _ _ _ _ [some (.ref (43 + 3)), some (.int x1), some (.int x2), some (.int x3), some (.int x4), some (.int x5), some (.int x6), some (.int x7), some (.int (s.1 51 (x7).toNatClampNeg)), none] [.int x7, .ref (51 + 3)] _ _ from ?_)) (fun b9 => (show zyR _ _ _ _ [some (.ref (43 + 3)), some (.int x1), some (.int x2), some (.int x3), some (.int x4), some (.int x5), some (.int x6), some (.int x7), some (.int (s.1 51 (x7).toNatClampNeg)), none] [.int x7, .ref (51 + 3)] _ _ from ?_))
  · replace h := zy_ifp h b9
    refine zy_3 rfl rfl (show zyR _ _ _ _ [some (.ref (43 + 3)), some (.int x1), some (.int x2), some (.int x3), some (.int x4), some (.int x5), some (.int x6), some (.int x7), some (.int (s.1 51 (x7).toNatClampNeg)), none] [.int (0 : Int32), .int x7, .ref (51 + 3)] _ _ from ?_)
    exact zy_sub (show zy_le [some (.ref (43 + 3)), some (.int x1), some (.int x2), some (.int x3), some (.int x4), some (.int x5), some (.int x6), some (.int x7), some (.int (s.1 51 (x7).toNatClampNeg)), none] [some (.ref (43 + 3)), some (.int x1), some (.int x2), some (.int x3), some (.int x4), some (.int x5), some (.int x6), some (.int x7), some (.int (s.1 51 (x7).toNatClampNeg)), none] from ⟨rfl, ⟨rfl, ⟨rfl, ⟨rfl, ⟨rfl, ⟨rfl, ⟨rfl, ⟨rfl, ⟨rfl, trivial⟩⟩⟩⟩⟩⟩⟩⟩⟩) (zyC227_97 hd hg227 hk40 h)
  · replace h := zy_ifn h b9
    refine zy_2 rfl rfl (show zyR _ _ _ _ [some (.ref (43 + 3)), some (.int x1), some (.int x2), some (.int x3), some (.int x4), some (.int x5), some (.int x6), some (.int x7), some (.int (s.1 51 (x7).toNatClampNeg)), none] [.int (s.1 51 (x7).toNatClampNeg), .int x7, .ref (51 + 3)] _ _ from ?_)
    refine zy_6 rfl (show zyR _ _ _ _ [some (.ref (43 + 3)), some (.int x1), some (.int x2), some (.int x3), some (.int x4), some (.int x5), some (.int x6), some (.int x7), some (.int (s.1 51 (x7).toNatClampNeg)), none] [.int (s.1 51 (x7).toNatClampNeg), .int x7, .ref (51 + 3)] _ _ from ?_)
    exact zy_sub (show zy_le [some (.ref (43 + 3)), some (.int x1), some (.int x2), some (.int x3), some (.int x4), some (.int x5), some (.int x6), some (.int x7), some (.int (s.1 51 (x7).toNatClampNeg)), none] [some (.ref (43 + 3)), some (.int x1), some (.int x2), some (.int x3), some (.int x4), some (.int x5), some (.int x6), some (.int x7), some (.int (s.1 51 (x7).toNatClampNeg)), none] from ⟨rfl, ⟨rfl, ⟨rfl, ⟨rfl, ⟨rfl, ⟨rfl, ⟨rfl, ⟨rfl, ⟨rfl, trivial⟩⟩⟩⟩⟩⟩⟩⟩⟩) (zyC227_97 hd hg227 hk40 h)
noncomputable def zyF227_40b (g227 : Int32 → Int32 → Int32 → Int32 → Int32 → zy_S → Option (Int32 × zy_S)) (k40 : Int32 → Int32 → Int32 → Int32 → Int32 → Int32 → Int32 → zy_S → Option (Int32 × zy_S)) (x1 : Int32) (x2 : Int32) (x3 : Int32) (x4 : Int32) (x5 : Int32) (x6 : Int32) (x7 : Int32) (s : zy_S) : Option (Int32 × zy_S) :=
if (24 : Int32) ≤ x7 then
some (x6, s)
else
(zyF208 x5 x7 s).bind fun p10 =>
if p10.1 ≠ 0 then
zyF227_66 g227 k40 x1 x2 x3 x4 x5 x6 x7 p10.2
else
(zyF219 x5 p10.2).bind fun p11 =>
if p11.1 = 0 then
zyF227_166 g227 k40 x1 x2 x3 x4 x5 x6 x7 p11.2
else
zyF227_66 g227 k40 x1 x2 x3 x4 x5 x6 x7 p11.2
theorem zyC227_40b {X : zx_X} {d : Nat} {g227 : Int32 → Int32 → Int32 → Int32 → Int32 → zy_S → Option (Int32 × zy_S)} {k40 : Int32 → Int32 → Int32 → Int32 → Int32 → Int32 → Int32 → zy_S → Option (Int32 × zy_S)} (hd : 105 ≤ d) (hg227 : ∀ (x1 : Int32) (x2 : Int32) (x3 : Int32) (x4 : Int32) (x5 : Int32) (s : zy_S) (r : Int32) (s' : zy_S), g227 x1 x2 x3 x4 x5 s = some (r, s') → zyR X d 227 0 [some (.ref (43 + 3)), some (.int x1), some (.int x2), some (.int x3), some (.int x4), some (.int x5), none, none, none, none] [] s (zyE (some (.int r)) s')) (hk40 : ∀ (x1 : Int32) (x2 : Int32) (x3 : Int32) (x4 : Int32) (x5 : Int32) (x6 : Int32) (x7 : Int32) (s : zy_S) (r : Int32) (s' : zy_S), k40 x1 x2 x3 x4 x5 x6 x7 s = some (r, s') → zyR X (d + 1) 227 40 [some (.ref (43 + 3)), some (.int x1), some (.int x2), some (.int x3), some (.int x4), some (.int x5), some (.int x6), some (.int x7), none, none] [] s (zyE (some (.int r)) s')) {x1 : Int32} {x2 : Int32} {x3 : Int32} {x4 : Int32} {x5 : Int32} {x6 : Int32} {x7 : Int32} {s : zy_S} {r : Int32} {s' : zy_S}  (h : zyF227_40b g227 k40 x1 x2 x3 x4 x5 x6 x7 s = some (r, s')) : zyR X (d + 1) 227 40 [some (.ref (43 + 3)), some (.int x1), some (.int x2), some (.int x3), some (.int x4), some (.int x5), some (.int x6), some (.int x7), none, none] [] s (zyE (some (.int r)) s') := by
  unfold zyF227_40b at h
  refine zy_2 rfl rfl (show zyR _ _ _ _ [some (.ref (43 + 3)), some (.int x1), some (.int x2), some (.int x3), some (.int x4), some (.int x5), some (.int x6), some (.int x7), none, none] [.int x7] _ _ from ?_)
  refine zy_3 rfl rfl (show zyR _ _ _ _ [some (.ref (43 + 3)), some (.int x1), some (.int x2), some (.int x3), some (.int x4), some (.int x5), some (.int x6), some (.int x7), none, none] [.int (24 : Int32), .int x7] _ _ from ?_)
  refine zy_25_3 rfl (fun b14 => (show zyR _ _ _ _ [some (.ref (43 + 3)), some (.int x1), some (.int x2), some (.int x3), some (.int x4), some (.int x5), some (.int x6), some (.int x7), none, none] [] _ _ from ?_)) (fun b14 => (show zyR _ _ _ _ [some (.ref (43 + 3)), some (.int x1), some (.int x2), some (.int x3), some (.int x4), some (.int x5), some (.int x6), some (.int x7), none, none] [] _ _ from ?_))
  · replace h := zy_ifp h b14
    refine zy_2 rfl rfl (show zyR _ _ _ _ [some (.ref (43 + 3)), some (.int x1), some (.int x2), some (.int x3), some (.int x4), some (.int x5), some (.int x6), some (.int x7), none, none] [.int x6] _ _ from ?_)
    obtain ⟨rfl, rfl⟩ := zy_pi h
    exact zy_4 rfl ⟨rfl, rfl⟩
  · replace h := zy_ifn h b14
    refine zy_2 rfl rfl (show zyR _ _ _ _ [some (.ref (43 + 3)), some (.int x1), some (.int x2), some (.int x3), some (.int x4), some (.int x5), some (.int x6), some (.int x7), none, none] [.int x5] _ _ from ?_)
    refine zy_2 rfl rfl (show zyR _ _ _ _ [some (.ref (43 + 3)), some (.int x1), some (.int x2), some (.int x3), some (.int x4), some (.int x5), some (.int x6), some (.int x7), none, none] [.int x7, .int x5] _ _ from ?_)
    obtain ⟨p10, hp10, h⟩ := zy_bind h
    refine zy_60 (as := [.int x5, .int x7]) (rest := []) (L := [some (.int x5), some (.int x7)]) (d' := 1) rfl rfl (Nat.le_of_ble_eq_true rfl) (by omega) rfl (Nat.le_of_ble_eq_true rfl) rfl rfl (zyC208 hp10) ?_
    show zyR _ _ _ _ [some (.ref (43 + 3)), some (.int x1), some (.int x2), some (.int x3), some (.int x4), some (.int x5), some (.int x6), some (.int x7), none, none] [.int p10.1] _ _
    refine zy_24_1 rfl (fun b13 => (show zyR _ _ _ _ [some (.ref (43 + 3)), some (.int x1), some (.int x2), some (.int x3), some (.int x4), some (.int x5), some (.int x6), some (.int x7), none, none] [] _ _ from ?_)) (fun b13 => (show zyR _ _ _ _ [some (.ref (43 + 3)), some (.int x1), some (.int x2), some (.int x3), some (.int x4), some (.int x5), some (.int x6), some (.int x7), none, none] [] _ _ from ?_))
    · replace h := zy_ifp h b13
      exact zy_sub (show zy_le [some (.ref (43 + 3)), some (.int x1), some (.int x2), some (.int x3), some (.int x4), some (.int x5), some (.int x6), some (.int x7), none, none] [some (.ref (43 + 3)), some (.int x1), some (.int x2), some (.int x3), some (.int x4), some (.int x5), some (.int x6), some (.int x7), none, none] from ⟨rfl, ⟨rfl, ⟨rfl, ⟨rfl, ⟨rfl, ⟨rfl, ⟨rfl, ⟨rfl, trivial⟩⟩⟩⟩⟩⟩⟩⟩) (zyC227_66 hd hg227 hk40 h)
    · replace h := zy_ifn h b13
      refine zy_0 rfl rfl (show zyR _ _ _ _ [some (.ref (43 + 3)), some (.int x1), some (.int x2), some (.int x3), some (.int x4), some (.int x5), some (.int x6), some (.int x7), none, none] [.ref (43 + 3)] _ _ from ?_)
      refine zy_2 rfl rfl (show zyR _ _ _ _ [some (.ref (43 + 3)), some (.int x1), some (.int x2), some (.int x3), some (.int x4), some (.int x5), some (.int x6), some (.int x7), none, none] [.int x5, .ref (43 + 3)] _ _ from ?_)
      obtain ⟨p11, hp11, h⟩ := zy_bind h
      refine zy_5 (c := 43) (as := [.int x5]) (rest := []) (L := [some (.ref (43 + 3)), some (.int x5)]) (d' := 2) rfl rfl rfl (Nat.le_of_ble_eq_true rfl) (by omega) rfl (Nat.le_of_ble_eq_true rfl) rfl rfl (zyC219 hp11) ?_
      show zyR _ _ _ _ [some (.ref (43 + 3)), some (.int x1), some (.int x2), some (.int x3), some (.int x4), some (.int x5), some (.int x6), some (.int x7), none, none] [.int p11.1] _ _
      refine zy_24_0 rfl (fun b12 => (show zyR _ _ _ _ [some (.ref (43 + 3)), some (.int x1), some (.int x2), some (.int x3), some (.int x4), some (.int x5), some (.int x6), some (.int x7), none, none] [] _ _ from ?_)) (fun b12 => (show zyR _ _ _ _ [some (.ref (43 + 3)), some (.int x1), some (.int x2), some (.int x3), some (.int x4), some (.int x5), some (.int x6), some (.int x7), none, none] [] _ _ from ?_))
      · replace h := zy_ifp h b12
        exact zy_sub (show zy_le [some (.ref (43 + 3)), some (.int x1), some (.int x2), some (.int x3), some (.int x4), some (.int x5), some (.int x6), some (.int x7), none, none] [some (.ref (43 + 3)), some (.int x1), some (.int x2), some (.int x3), some (.int x4), some (.int x5), some (.int x6), some (.int x7), none, none] from ⟨rfl, ⟨rfl, ⟨rfl, ⟨rfl, ⟨rfl, ⟨rfl, ⟨rfl, ⟨rfl, trivial⟩⟩⟩⟩⟩⟩⟩⟩) (zyC227_166 hd hg227 hk40 h)
      · replace h := zy_ifn h b12
        exact zy_sub (show zy_le [some (.ref (43 + 3)), some (.int x1), some (.int x2), some (.int x3), some (.int x4), some (.int x5), some (.int x6), some (.int x7), none, none] [some (.ref (43 + 3)), some (.int x1), some (.int x2), some (.int x3), some (.int x4), some (.int x5), some (.int x6), some (.int x7), none, none] from ⟨rfl, ⟨rfl, ⟨rfl, ⟨rfl, ⟨rfl, ⟨rfl, ⟨rfl, ⟨rfl, trivial⟩⟩⟩⟩⟩⟩⟩⟩) (zyC227_66 hd hg227 hk40 h)
noncomputable def zyF227_40 (g227 : Int32 → Int32 → Int32 → Int32 → Int32 → zy_S → Option (Int32 × zy_S))  (n : Nat) : Int32 → Int32 → Int32 → Int32 → Int32 → Int32 → Int32 → zy_S → Option (Int32 × zy_S) := Nat.rec (fun _ _ _ _ _ _ _ _ => none) (fun _ k40 => zyF227_40b g227 k40) n
theorem zyC227_40 {X : zx_X} {d : Nat} {g227 : Int32 → Int32 → Int32 → Int32 → Int32 → zy_S → Option (Int32 × zy_S)}  (hd : 105 ≤ d) (hg227 : ∀ (x1 : Int32) (x2 : Int32) (x3 : Int32) (x4 : Int32) (x5 : Int32) (s : zy_S) (r : Int32) (s' : zy_S), g227 x1 x2 x3 x4 x5 s = some (r, s') → zyR X d 227 0 [some (.ref (43 + 3)), some (.int x1), some (.int x2), some (.int x3), some (.int x4), some (.int x5), none, none, none, none] [] s (zyE (some (.int r)) s'))  : ∀ (n : Nat) (x1 : Int32) (x2 : Int32) (x3 : Int32) (x4 : Int32) (x5 : Int32) (x6 : Int32) (x7 : Int32) (s : zy_S) (r : Int32) (s' : zy_S), zyF227_40 g227 n x1 x2 x3 x4 x5 x6 x7 s = some (r, s') → zyR X (d + 1) 227 40 [some (.ref (43 + 3)), some (.int x1), some (.int x2), some (.int x3), some (.int x4), some (.int x5), some (.int x6), some (.int x7), none, none] [] s (zyE (some (.int r)) s')
  | 0, _, _, _, _, _, _, _ => by
    intro s r s'  h
    have h : (none : Option (Int32 × zy_S)) = some (r, s') := h
    cases h
  | n + 1, x1, x2, x3, x4, x5, x6, x7 => by
    intro s r s'  h
    exact zyC227_40b hd hg227 (k40 := zyF227_40 g227 n) (fun x1 x2 x3 x4 x5 x6 x7 s r s'  h => zyC227_40 hd hg227 n x1 x2 x3 x4 x5 x6 x7 s r s'  h) h
noncomputable def zyF227_0 (g227 : Int32 → Int32 → Int32 → Int32 → Int32 → zy_S → Option (Int32 × zy_S))  (x1 : Int32) (x2 : Int32) (x3 : Int32) (x4 : Int32) (x5 : Int32) (s : zy_S) : Option (Int32 × zy_S) :=
if x3 ≠ x4 then
(g227 x1 x2 (x3 + (1 : Int32)) x4 x5 s).bind fun p15 =>
zyF227_40 g227 zy_fu x1 x2 x3 x4 x5 p15.1 (0 : Int32) p15.2
else
(zyF213 x1 x5 s).bind fun p16 =>
(zyF213 x2 x5 p16.2).bind fun p17 =>
some ((p16.1 - p17.1), p17.2)
theorem zyC227_0 {X : zx_X} {d : Nat} {g227 : Int32 → Int32 → Int32 → Int32 → Int32 → zy_S → Option (Int32 × zy_S)}  (hd : 105 ≤ d) (hg227 : ∀ (x1 : Int32) (x2 : Int32) (x3 : Int32) (x4 : Int32) (x5 : Int32) (s : zy_S) (r : Int32) (s' : zy_S), g227 x1 x2 x3 x4 x5 s = some (r, s') → zyR X d 227 0 [some (.ref (43 + 3)), some (.int x1), some (.int x2), some (.int x3), some (.int x4), some (.int x5), none, none, none, none] [] s (zyE (some (.int r)) s'))  {x1 : Int32} {x2 : Int32} {x3 : Int32} {x4 : Int32} {x5 : Int32} {s : zy_S} {r : Int32} {s' : zy_S}  (h : zyF227_0 g227 x1 x2 x3 x4 x5 s = some (r, s')) : zyR X (d + 1) 227 0 [some (.ref (43 + 3)), some (.int x1), some (.int x2), some (.int x3), some (.int x4), some (.int x5), none, none, none, none] [] s (zyE (some (.int r)) s') := by
  unfold zyF227_0 at h
  refine zy_2 rfl rfl (show zyR _ _ _ _ [some (.ref (43 + 3)), some (.int x1), some (.int x2), some (.int x3), some (.int x4), some (.int x5), none, none, none, none] [.int x3] _ _ from ?_)
  refine zy_2 rfl rfl (show zyR _ _ _ _ [some (.ref (43 + 3)), some (.int x1), some (.int x2), some (.int x3), some (.int x4), some (.int x5), none, none, none, none] [.int x4, .int x3] _ _ from ?_)
  refine zy_25_1 rfl (fun b18 => (show zyR _ _ _ _ [some (.ref (43 + 3)), some (.int x1), some (.int x2), some (.int x3), some (.int x4), some (.int x5), none, none, none, none] [] _ _ from ?_)) (fun b18 => (show zyR _ _ _ _ [some (.ref (43 + 3)), some (.int x1), some (.int x2), some (.int x3), some (.int x4), some (.int x5), none, none, none, none] [] _ _ from ?_))
  · replace h := zy_ifp h b18
    refine zy_0 rfl rfl (show zyR _ _ _ _ [some (.ref (43 + 3)), some (.int x1), some (.int x2), some (.int x3), some (.int x4), some (.int x5), none, none, none, none] [.ref (43 + 3)] _ _ from ?_)
    refine zy_2 rfl rfl (show zyR _ _ _ _ [some (.ref (43 + 3)), some (.int x1), some (.int x2), some (.int x3), some (.int x4), some (.int x5), none, none, none, none] [.int x1, .ref (43 + 3)] _ _ from ?_)
    refine zy_2 rfl rfl (show zyR _ _ _ _ [some (.ref (43 + 3)), some (.int x1), some (.int x2), some (.int x3), some (.int x4), some (.int x5), none, none, none, none] [.int x2, .int x1, .ref (43 + 3)] _ _ from ?_)
    refine zy_2 rfl rfl (show zyR _ _ _ _ [some (.ref (43 + 3)), some (.int x1), some (.int x2), some (.int x3), some (.int x4), some (.int x5), none, none, none, none] [.int x3, .int x2, .int x1, .ref (43 + 3)] _ _ from ?_)
    refine zy_3 rfl rfl (show zyR _ _ _ _ [some (.ref (43 + 3)), some (.int x1), some (.int x2), some (.int x3), some (.int x4), some (.int x5), none, none, none, none] [.int (1 : Int32), .int x3, .int x2, .int x1, .ref (43 + 3)] _ _ from ?_)
    refine zy_10 rfl (show zyR _ _ _ _ [some (.ref (43 + 3)), some (.int x1), some (.int x2), some (.int x3), some (.int x4), some (.int x5), none, none, none, none] [.int (x3 + (1 : Int32)), .int x2, .int x1, .ref (43 + 3)] _ _ from ?_)
    refine zy_2 rfl rfl (show zyR _ _ _ _ [some (.ref (43 + 3)), some (.int x1), some (.int x2), some (.int x3), some (.int x4), some (.int x5), none, none, none, none] [.int x4, .int (x3 + (1 : Int32)), .int x2, .int x1, .ref (43 + 3)] _ _ from ?_)
    refine zy_2 rfl rfl (show zyR _ _ _ _ [some (.ref (43 + 3)), some (.int x1), some (.int x2), some (.int x3), some (.int x4), some (.int x5), none, none, none, none] [.int x5, .int x4, .int (x3 + (1 : Int32)), .int x2, .int x1, .ref (43 + 3)] _ _ from ?_)
    obtain ⟨p15, hp15, h⟩ := zy_bind h
    refine zy_5 (c := 43) (as := [.int x1, .int x2, .int (x3 + (1 : Int32)), .int x4, .int x5]) (rest := []) (L := [some (.ref (43 + 3)), some (.int x1), some (.int x2), some (.int (x3 + (1 : Int32))), some (.int x4), some (.int x5), none, none, none, none]) (d' := d) rfl rfl rfl (Nat.le_of_ble_eq_true rfl) (by omega) rfl (Nat.le_of_ble_eq_true rfl) rfl rfl (hg227 x1 x2 (x3 + (1 : Int32)) x4 x5 s _ _ hp15) ?_
    show zyR _ _ _ _ [some (.ref (43 + 3)), some (.int x1), some (.int x2), some (.int x3), some (.int x4), some (.int x5), none, none, none, none] [.int p15.1] _ _
    refine zy_23 rfl rfl (show zyR _ _ _ _ [some (.ref (43 + 3)), some (.int x1), some (.int x2), some (.int x3), some (.int x4), some (.int x5), some (.int p15.1), none, none, none] [] _ _ from ?_)
    refine zy_3 rfl rfl (show zyR _ _ _ _ [some (.ref (43 + 3)), some (.int x1), some (.int x2), some (.int x3), some (.int x4), some (.int x5), some (.int p15.1), none, none, none] [.int (0 : Int32)] _ _ from ?_)
    refine zy_23 rfl rfl (show zyR _ _ _ _ [some (.ref (43 + 3)), some (.int x1), some (.int x2), some (.int x3), some (.int x4), some (.int x5), some (.int p15.1), some (.int (0 : Int32)), none, none] [] _ _ from ?_)
    exact zy_sub (show zy_le [some (.ref (43 + 3)), some (.int x1), some (.int x2), some (.int x3), some (.int x4), some (.int x5), some (.int p15.1), some (.int (0 : Int32)), none, none] [some (.ref (43 + 3)), some (.int x1), some (.int x2), some (.int x3), some (.int x4), some (.int x5), some (.int p15.1), some (.int (0 : Int32)), none, none] from ⟨rfl, ⟨rfl, ⟨rfl, ⟨rfl, ⟨rfl, ⟨rfl, ⟨rfl, ⟨rfl, trivial⟩⟩⟩⟩⟩⟩⟩⟩) (zyC227_40 hd hg227 zy_fu x1 x2 x3 x4 x5 p15.1 (0 : Int32) p15.2 _ _ h)
  · replace h := zy_ifn h b18
    refine zy_0 rfl rfl (show zyR _ _ _ _ [some (.ref (43 + 3)), some (.int x1), some (.int x2), some (.int x3), some (.int x4), some (.int x5), none, none, none, none] [.ref (43 + 3)] _ _ from ?_)
    refine zy_2 rfl rfl (show zyR _ _ _ _ [some (.ref (43 + 3)), some (.int x1), some (.int x2), some (.int x3), some (.int x4), some (.int x5), none, none, none, none] [.int x1, .ref (43 + 3)] _ _ from ?_)
    refine zy_2 rfl rfl (show zyR _ _ _ _ [some (.ref (43 + 3)), some (.int x1), some (.int x2), some (.int x3), some (.int x4), some (.int x5), none, none, none, none] [.int x5, .int x1, .ref (43 + 3)] _ _ from ?_)
    obtain ⟨p16, hp16, h⟩ := zy_bind h
    refine zy_5 (c := 43) (as := [.int x1, .int x5]) (rest := []) (L := [some (.ref (43 + 3)), some (.int x1), some (.int x5), none, none]) (d' := 105) rfl rfl rfl (Nat.le_of_ble_eq_true rfl) (by omega) rfl (Nat.le_of_ble_eq_true rfl) rfl rfl (zyC213 hp16) ?_
    show zyR _ _ _ _ [some (.ref (43 + 3)), some (.int x1), some (.int x2), some (.int x3), some (.int x4), some (.int x5), none, none, none, none] [.int p16.1] _ _
    refine zy_0 rfl rfl (show zyR _ _ _ _ [some (.ref (43 + 3)), some (.int x1), some (.int x2), some (.int x3), some (.int x4), some (.int x5), none, none, none, none] [.ref (43 + 3), .int p16.1] _ _ from ?_)
    refine zy_2 rfl rfl (show zyR _ _ _ _ [some (.ref (43 + 3)), some (.int x1), some (.int x2), some (.int x3), some (.int x4), some (.int x5), none, none, none, none] [.int x2, .ref (43 + 3), .int p16.1] _ _ from ?_)
    refine zy_2 rfl rfl (show zyR _ _ _ _ [some (.ref (43 + 3)), some (.int x1), some (.int x2), some (.int x3), some (.int x4), some (.int x5), none, none, none, none] [.int x5, .int x2, .ref (43 + 3), .int p16.1] _ _ from ?_)
    obtain ⟨p17, hp17, h⟩ := zy_bind h
    refine zy_5 (c := 43) (as := [.int x2, .int x5]) (rest := [.int p16.1]) (L := [some (.ref (43 + 3)), some (.int x2), some (.int x5), none, none]) (d' := 105) rfl rfl rfl (Nat.le_of_ble_eq_true rfl) (by omega) rfl (Nat.le_of_ble_eq_true rfl) rfl rfl (zyC213 hp17) ?_
    show zyR _ _ _ _ [some (.ref (43 + 3)), some (.int x1), some (.int x2), some (.int x3), some (.int x4), some (.int x5), none, none, none, none] [.int p17.1, .int p16.1] _ _
    refine zy_11 rfl (show zyR _ _ _ _ [some (.ref (43 + 3)), some (.int x1), some (.int x2), some (.int x3), some (.int x4), some (.int x5), none, none, none, none] [.int (p16.1 - p17.1)] _ _ from ?_)
    obtain ⟨rfl, rfl⟩ := zy_pi h
    exact zy_4 rfl ⟨rfl, rfl⟩
noncomputable def zyG227 (n : Nat) : (Int32 → Int32 → Int32 → Int32 → Int32 → zy_S → Option (Int32 × zy_S)) := Nat.rec (fun _ _ _ _ _ _ => none) (fun _ g => (fun x1 x2 x3 x4 x5 s => zyF227_0 g x1 x2 x3 x4 x5 s)) n
theorem zyG227_s (n : Nat) : zyG227 (n + 1) = (fun x1 x2 x3 x4 x5 s => zyF227_0 (zyG227 n) x1 x2 x3 x4 x5 s) := rfl
theorem zyS227 (n : Nat) (x1 : Int32) (x2 : Int32) (x3 : Int32) (x4 : Int32) (x5 : Int32) (s : zy_S) : (zyG227 (n + 1)) x1 x2 x3 x4 x5 s = zyF227_0 (zyG227 n) x1 x2 x3 x4 x5 s := by
  rw [zyG227_s]
theorem zyG227_ok {X : zx_X} : ∀ n : Nat, (∀ (x1 : Int32) (x2 : Int32) (x3 : Int32) (x4 : Int32) (x5 : Int32) (s : zy_S) (r : Int32) (s' : zy_S), (zyG227 n) x1 x2 x3 x4 x5 s = some (r, s') → zyR X (105 + n) 227 0 [some (.ref (43 + 3)), some (.int x1), some (.int x2), some (.int x3), some (.int x4), some (.int x5), none, none, none, none] [] s (zyE (some (.int r)) s'))
  | 0 => by
    · intro x1 x2 x3 x4 x5 s r s'  h
      have h : (none : Option (Int32 × zy_S)) = some (r, s') := h
      cases h
  | n + 1 => by
    obtain i0 := zyG227_ok (X := X) n
    · intro x1 x2 x3 x4 x5 s r s'  h
      rw [zyS227] at h
      exact zy_sub (show zy_le [some (.ref (43 + 3)), some (.int x1), some (.int x2), some (.int x3), some (.int x4), some (.int x5), none, none, none, none] [some (.ref (43 + 3)), some (.int x1), some (.int x2), some (.int x3), some (.int x4), some (.int x5), none, none, none, none] from ⟨rfl, ⟨rfl, ⟨rfl, ⟨rfl, ⟨rfl, ⟨rfl, trivial⟩⟩⟩⟩⟩⟩) (zyC227_0 (d := 105 + n) (g227 := (zyG227 n)) (by omega) i0  h)
noncomputable def zyF227 : Int32 → Int32 → Int32 → Int32 → Int32 → zy_S → Option (Int32 × zy_S) := (zyG227 100)
theorem zyC227 {X : zx_X} {x1 : Int32} {x2 : Int32} {x3 : Int32} {x4 : Int32} {x5 : Int32} {s : zy_S} {r : Int32} {s' : zy_S}  (h : zyF227 x1 x2 x3 x4 x5 s = some (r, s')) : zyR X 205 227 0 [some (.ref (43 + 3)), some (.int x1), some (.int x2), some (.int x3), some (.int x4), some (.int x5), none, none, none, none] [] s (zyE (some (.int r)) s') := (zyG227_ok (X := X) 100) x1 x2 x3 x4 x5 s r s'  h
end
section
/-! PART 41.49: methods as functions. Made by wip/v4/dcp.py. -/
/-! NineOpinionsModel.byTurns(II)I -/
noncomputable def zyF226_227  (k123 : Int32 → Int32 → Int32 → Int32 → Int32 → zy_S → Option (Int32 × zy_S)) (x3 : Int32) (x4 : Int32) (x5 : Int32) (x6 : Int32) (x7 : Int32) (s : zy_S) : Option (Int32 × zy_S) :=
k123 x3 x4 x5 x6 (x7 + (1 : Int32)) s
theorem zyC226_227 {X : zx_X}  {k123 : Int32 → Int32 → Int32 → Int32 → Int32 → zy_S → Option (Int32 × zy_S)}  (hk123 : ∀ (x3 : Int32) (x4 : Int32) (x5 : Int32) (x6 : Int32) (x7 : Int32) (s : zy_S) (r : Int32) (s' : zy_S), k123 x3 x4 x5 x6 x7 s = some (r, s') → zyR X 206 226 123 [some (.ref (43 + 3)), none, none, some (.int x3), some (.int x4), some (.int x5), some (.int x6), some (.int x7), none, none] [] s (zyE (some (.int r)) s')) {x3 : Int32} {x4 : Int32} {x5 : Int32} {x6 : Int32} {x7 : Int32} {s : zy_S} {r : Int32} {s' : zy_S}  (h : zyF226_227 k123 x3 x4 x5 x6 x7 s = some (r, s')) : zyR X 206 226 227 [some (.ref (43 + 3)), none, none, some (.int x3), some (.int x4), some (.int x5), some (.int x6), some (.int x7), none, none] [] s (zyE (some (.int r)) s') := by
  unfold zyF226_227 at h
  refine zy_22 rfl rfl rfl rfl (show zyR _ _ _ _ [some (.ref (43 + 3)), none, none, some (.int x3), some (.int x4), some (.int x5), some (.int x6), some (.int (x7 + (1 : Int32))), none, none] [] _ _ from ?_)
  refine zy_6 rfl (show zyR _ _ _ _ [some (.ref (43 + 3)), none, none, some (.int x3), some (.int x4), some (.int x5), some (.int x6), some (.int (x7 + (1 : Int32))), none, none] [] _ _ from ?_)
  exact zy_sub (show zy_le [some (.ref (43 + 3)), none, none, some (.int x3), some (.int x4), some (.int x5), some (.int x6), some (.int (x7 + (1 : Int32))), none, none] [some (.ref (43 + 3)), none, none, some (.int x3), some (.int x4), some (.int x5), some (.int x6), some (.int (x7 + (1 : Int32))), none, none] from ⟨rfl, ⟨rfl, ⟨rfl, ⟨rfl, ⟨rfl, ⟨rfl, trivial⟩⟩⟩⟩⟩⟩) (hk123 x3 x4 x5 x6 (x7 + (1 : Int32)) s _ _ h)
noncomputable def zyF226_186  (k123 : Int32 → Int32 → Int32 → Int32 → Int32 → zy_S → Option (Int32 × zy_S)) (x3 : Int32) (x4 : Int32) (x5 : Int32) (x6 : Int32) (x7 : Int32) (x8 : Int32) (y0 : Int32) (y1 : Int32) (s : zy_S) : Option (Int32 × zy_S) :=
if zy_in y1 24 then
(zyF227 x3 x4 (1 : Int32) x5 ((s.1 43 7) ^^^ ((1 : Int32) <<< (x7 &&& 31))) (zy_up s 51 (y1).toNatClampNeg y0)).bind fun p2 =>
if zy_in x7 24 then
if p2.1 ≠ x6 then
zyF226_227 k123 x3 x4 x5 x6 x7 (zy_up p2.2 51 (x7).toNatClampNeg x8)
else
some (x7, (zy_up p2.2 51 (x7).toNatClampNeg x8))
else none
else none
theorem zyC226_186 {X : zx_X}  {k123 : Int32 → Int32 → Int32 → Int32 → Int32 → zy_S → Option (Int32 × zy_S)}  (hk123 : ∀ (x3 : Int32) (x4 : Int32) (x5 : Int32) (x6 : Int32) (x7 : Int32) (s : zy_S) (r : Int32) (s' : zy_S), k123 x3 x4 x5 x6 x7 s = some (r, s') → zyR X 206 226 123 [some (.ref (43 + 3)), none, none, some (.int x3), some (.int x4), some (.int x5), some (.int x6), some (.int x7), none, none] [] s (zyE (some (.int r)) s')) {x3 : Int32} {x4 : Int32} {x5 : Int32} {x6 : Int32} {x7 : Int32} {x8 : Int32} {y0 : Int32} {y1 : Int32} {s : zy_S} {r : Int32} {s' : zy_S}  (h : zyF226_186 k123 x3 x4 x5 x6 x7 x8 y0 y1 s = some (r, s')) : zyR X 206 226 186 [some (.ref (43 + 3)), none, none, some (.int x3), some (.int x4), some (.int x5), some (.int x6), some (.int x7), some (.int x8), none] [.int y0, .int y1, .ref (51 + 3)] s (zyE (some (.int r)) s') := by
  unfold zyF226_186 at h
  obtain ⟨c1, h⟩ := zy_if h
  refine zy_27 (c := 51) rfl rfl c1 (show zyR _ _ _ _ [some (.ref (43 + 3)), none, none, some (.int x3), some (.int x4), some (.int x5), some (.int x6), some (.int x7), some (.int x8), none] [] _ _ from ?_)
  refine zy_0 rfl rfl (show zyR _ _ _ _ [some (.ref (43 + 3)), none, none, some (.int x3), some (.int x4), some (.int x5), some (.int x6), some (.int x7), some (.int x8), none] [.ref (43 + 3)] _ _ from ?_)
  refine zy_2 rfl rfl (show zyR _ _ _ _ [some (.ref (43 + 3)), none, none, some (.int x3), some (.int x4), some (.int x5), some (.int x6), some (.int x7), some (.int x8), none] [.int x3, .ref (43 + 3)] _ _ from ?_)
  refine zy_2 rfl rfl (show zyR _ _ _ _ [some (.ref (43 + 3)), none, none, some (.int x3), some (.int x4), some (.int x5), some (.int x6), some (.int x7), some (.int x8), none] [.int x4, .int x3, .ref (43 + 3)] _ _ from ?_)
  refine zy_3 rfl rfl (show zyR _ _ _ _ [some (.ref (43 + 3)), none, none, some (.int x3), some (.int x4), some (.int x5), some (.int x6), some (.int x7), some (.int x8), none] [.int (1 : Int32), .int x4, .int x3, .ref (43 + 3)] _ _ from ?_)
  refine zy_2 rfl rfl (show zyR _ _ _ _ [some (.ref (43 + 3)), none, none, some (.int x3), some (.int x4), some (.int x5), some (.int x6), some (.int x7), some (.int x8), none] [.int x5, .int (1 : Int32), .int x4, .int x3, .ref (43 + 3)] _ _ from ?_)
  refine zy_0 rfl rfl (show zyR _ _ _ _ [some (.ref (43 + 3)), none, none, some (.int x3), some (.int x4), some (.int x5), some (.int x6), some (.int x7), some (.int x8), none] [.ref (43 + 3), .int x5, .int (1 : Int32), .int x4, .int x3, .ref (43 + 3)] _ _ from ?_)
  refine zy_1 (c := 43) rfl rfl rfl (show zyR _ _ _ _ [some (.ref (43 + 3)), none, none, some (.int x3), some (.int x4), some (.int x5), some (.int x6), some (.int x7), some (.int x8), none] [.int (s.1 43 7), .int x5, .int (1 : Int32), .int x4, .int x3, .ref (43 + 3)] _ _ from ?_)
  refine zy_3 rfl rfl (show zyR _ _ _ _ [some (.ref (43 + 3)), none, none, some (.int x3), some (.int x4), some (.int x5), some (.int x6), some (.int x7), some (.int x8), none] [.int (1 : Int32), .int (s.1 43 7), .int x5, .int (1 : Int32), .int x4, .int x3, .ref (43 + 3)] _ _ from ?_)
  refine zy_2 rfl rfl (show zyR _ _ _ _ [some (.ref (43 + 3)), none, none, some (.int x3), some (.int x4), some (.int x5), some (.int x6), some (.int x7), some (.int x8), none] [.int x7, .int (1 : Int32), .int (s.1 43 7), .int x5, .int (1 : Int32), .int x4, .int x3, .ref (43 + 3)] _ _ from ?_)
  refine zy_16 rfl (show zyR _ _ _ _ [some (.ref (43 + 3)), none, none, some (.int x3), some (.int x4), some (.int x5), some (.int x6), some (.int x7), some (.int x8), none] [.int ((1 : Int32) <<< (x7 &&& 31)), .int (s.1 43 7), .int x5, .int (1 : Int32), .int x4, .int x3, .ref (43 + 3)] _ _ from ?_)
  refine zy_15 rfl (show zyR _ _ _ _ [some (.ref (43 + 3)), none, none, some (.int x3), some (.int x4), some (.int x5), some (.int x6), some (.int x7), some (.int x8), none] [.int ((s.1 43 7) ^^^ ((1 : Int32) <<< (x7 &&& 31))), .int x5, .int (1 : Int32), .int x4, .int x3, .ref (43 + 3)] _ _ from ?_)
  obtain ⟨p2, hp2, h⟩ := zy_bind h
  refine zy_5 (c := 43) (as := [.int x3, .int x4, .int (1 : Int32), .int x5, .int ((s.1 43 7) ^^^ ((1 : Int32) <<< (x7 &&& 31)))]) (rest := []) (L := [some (.ref (43 + 3)), some (.int x3), some (.int x4), some (.int (1 : Int32)), some (.int x5), some (.int ((s.1 43 7) ^^^ ((1 : Int32) <<< (x7 &&& 31)))), none, none, none, none]) (d' := 205) rfl rfl rfl (Nat.le_of_ble_eq_true rfl) (Nat.le_of_ble_eq_true rfl) rfl (Nat.le_of_ble_eq_true rfl) rfl rfl (zyC227 hp2) ?_
  show zyR _ _ _ _ [some (.ref (43 + 3)), none, none, some (.int x3), some (.int x4), some (.int x5), some (.int x6), some (.int x7), some (.int x8), none] [.int p2.1] _ _
  refine zy_23 rfl rfl (show zyR _ _ _ _ [some (.ref (43 + 3)), none, none, some (.int x3), some (.int x4), some (.int x5), some (.int x6), some (.int x7), some (.int x8), some (.int p2.1)] [] _ _ from ?_)
  refine zy_0 rfl rfl (show zyR _ _ _ _ [some (.ref (43 + 3)), none, none, some (.int x3), some (.int x4), some (.int x5), some (.int x6), some (.int x7), some (.int x8), some (.int p2.1)] [.ref (43 + 3)] _ _ from ?_)
  refine zy_1r (c := 43) rfl rfl rfl (show zyR _ _ _ _ [some (.ref (43 + 3)), none, none, some (.int x3), some (.int x4), some (.int x5), some (.int x6), some (.int x7), some (.int x8), some (.int p2.1)] [.ref (51 + 3)] _ _ from ?_)
  refine zy_2 rfl rfl (show zyR _ _ _ _ [some (.ref (43 + 3)), none, none, some (.int x3), some (.int x4), some (.int x5), some (.int x6), some (.int x7), some (.int x8), some (.int p2.1)] [.int x7, .ref (51 + 3)] _ _ from ?_)
  refine zy_2 rfl rfl (show zyR _ _ _ _ [some (.ref (43 + 3)), none, none, some (.int x3), some (.int x4), some (.int x5), some (.int x6), some (.int x7), some (.int x8), some (.int p2.1)] [.int x8, .int x7, .ref (51 + 3)] _ _ from ?_)
  obtain ⟨c3, h⟩ := zy_if h
  refine zy_27 (c := 51) rfl rfl c3 (show zyR _ _ _ _ [some (.ref (43 + 3)), none, none, some (.int x3), some (.int x4), some (.int x5), some (.int x6), some (.int x7), some (.int x8), some (.int p2.1)] [] _ _ from ?_)
  refine zy_2 rfl rfl (show zyR _ _ _ _ [some (.ref (43 + 3)), none, none, some (.int x3), some (.int x4), some (.int x5), some (.int x6), some (.int x7), some (.int x8), some (.int p2.1)] [.int p2.1] _ _ from ?_)
  refine zy_2 rfl rfl (show zyR _ _ _ _ [some (.ref (43 + 3)), none, none, some (.int x3), some (.int x4), some (.int x5), some (.int x6), some (.int x7), some (.int x8), some (.int p2.1)] [.int x6, .int p2.1] _ _ from ?_)
  refine zy_25_1 rfl (fun b4 => (show zyR _ _ _ _ [some (.ref (43 + 3)), none, none, some (.int x3), some (.int x4), some (.int x5), some (.int x6), some (.int x7), some (.int x8), some (.int p2.1)] [] _ _ from ?_)) (fun b4 => (show zyR _ _ _ _ [some (.ref (43 + 3)), none, none, some (.int x3), some (.int x4), some (.int x5), some (.int x6), some (.int x7), some (.int x8), some (.int p2.1)] [] _ _ from ?_))
  · replace h := zy_ifp h b4
    exact zy_sub (show zy_le [some (.ref (43 + 3)), none, none, some (.int x3), some (.int x4), some (.int x5), some (.int x6), some (.int x7), none, none] [some (.ref (43 + 3)), none, none, some (.int x3), some (.int x4), some (.int x5), some (.int x6), some (.int x7), some (.int x8), some (.int p2.1)] from ⟨rfl, ⟨rfl, ⟨rfl, ⟨rfl, ⟨rfl, ⟨rfl, trivial⟩⟩⟩⟩⟩⟩) (zyC226_227 hk123 h)
  · replace h := zy_ifn h b4
    refine zy_2 rfl rfl (show zyR _ _ _ _ [some (.ref (43 + 3)), none, none, some (.int x3), some (.int x4), some (.int x5), some (.int x6), some (.int x7), some (.int x8), some (.int p2.1)] [.int x7] _ _ from ?_)
    obtain ⟨rfl, rfl⟩ := zy_pi h
    exact zy_4 rfl ⟨rfl, rfl⟩
noncomputable def zyF226_153  (k123 : Int32 → Int32 → Int32 → Int32 → Int32 → zy_S → Option (Int32 × zy_S)) (x3 : Int32) (x4 : Int32) (x5 : Int32) (x6 : Int32) (x7 : Int32) (s : zy_S) : Option (Int32 × zy_S) :=
if zy_in x7 24 then
(zyF208 (s.1 43 7) x7 s).bind fun p6 =>
if p6.1 = 0 then
zyF226_186 k123 x3 x4 x5 x6 x7 (s.1 51 (x7).toNatClampNeg) (0 : Int32) x7 p6.2
else
zyF226_186 k123 x3 x4 x5 x6 x7 (s.1 51 (x7).toNatClampNeg) (s.1 51 (x7).toNatClampNeg) x7 p6.2
else none
theorem zyC226_153 {X : zx_X}  {k123 : Int32 → Int32 → Int32 → Int32 → Int32 → zy_S → Option (Int32 × zy_S)}  (hk123 : ∀ (x3 : Int32) (x4 : Int32) (x5 : Int32) (x6 : Int32) (x7 : Int32) (s : zy_S) (r : Int32) (s' : zy_S), k123 x3 x4 x5 x6 x7 s = some (r, s') → zyR X 206 226 123 [some (.ref (43 + 3)), none, none, some (.int x3), some (.int x4), some (.int x5), some (.int x6), some (.int x7), none, none] [] s (zyE (some (.int r)) s')) {x3 : Int32} {x4 : Int32} {x5 : Int32} {x6 : Int32} {x7 : Int32} {s : zy_S} {r : Int32} {s' : zy_S}  (h : zyF226_153 k123 x3 x4 x5 x6 x7 s = some (r, s')) : zyR X 206 226 153 [some (.ref (43 + 3)), none, none, some (.int x3), some (.int x4), some (.int x5), some (.int x6), some (.int x7), none, none] [] s (zyE (some (.int r)) s') := by
  unfold zyF226_153 at h
  refine zy_0 rfl rfl (show zyR _ _ _ _ [some (.ref (43 + 3)), none, none, some (.int x3), some (.int x4), some (.int x5), some (.int x6), some (.int x7), none, none] [.ref (43 + 3)] _ _ from ?_)
  refine zy_1r (c := 43) rfl rfl rfl (show zyR _ _ _ _ [some (.ref (43 + 3)), none, none, some (.int x3), some (.int x4), some (.int x5), some (.int x6), some (.int x7), none, none] [.ref (51 + 3)] _ _ from ?_)
  refine zy_2 rfl rfl (show zyR _ _ _ _ [some (.ref (43 + 3)), none, none, some (.int x3), some (.int x4), some (.int x5), some (.int x6), some (.int x7), none, none] [.int x7, .ref (51 + 3)] _ _ from ?_)
  obtain ⟨c5, h⟩ := zy_if h
  refine zy_26 (c := 51) rfl rfl c5 (show zyR _ _ _ _ [some (.ref (43 + 3)), none, none, some (.int x3), some (.int x4), some (.int x5), some (.int x6), some (.int x7), none, none] [.int (s.1 51 (x7).toNatClampNeg)] _ _ from ?_)
  refine zy_23 rfl rfl (show zyR _ _ _ _ [some (.ref (43 + 3)), none, none, some (.int x3), some (.int x4), some (.int x5), some (.int x6), some (.int x7), some (.int (s.1 51 (x7).toNatClampNeg)), none] [] _ _ from ?_)
  refine zy_0 rfl rfl (show zyR _ _ _ _ [some (.ref (43 + 3)), none, none, some (.int x3), some (.int x4), some (.int x5), some (.int x6), some (.int x7), some (.int (s.1 51 (x7).toNatClampNeg)), none] [.ref (43 + 3)] _ _ from ?_)
  refine zy_1r (c := 43) rfl rfl rfl (show zyR _ _ _ _ [some (.ref (43 + 3)), none, none, some (.int x3), some (.int x4), some (.int x5), some (.int x6), some (.int x7), some (.int (s.1 51 (x7).toNatClampNeg)), none] [.ref (51 + 3)] _ _ from ?_)
  refine zy_2 rfl rfl (show zyR _ _ _ _ [some (.ref (43 + 3)), none, none, some (.int x3), some (.int x4), some (.int x5), some (.int x6), some (.int x7), some (.int (s.1 51 (x7).toNatClampNeg)), none] [.int x7, .ref (51 + 3)] _ _ from ?_)
  refine zy_0 rfl rfl (show zyR _ _ _ _ [some (.ref (43 + 3)), none, none, some (.int x3), some (.int x4), some (.int x5), some (.int x6), some (.int x7), some (.int (s.1 51 (x7).toNatClampNeg)), none] [.ref (43 + 3), .int x7, .ref (51 + 3)] _ _ from ?_)
  refine zy_1 (c := 43) rfl rfl rfl (show zyR _ _ _ _ [some (.ref (43 + 3)), none, none, some (.int x3), some (.int x4), some (.int x5), some (.int x6), some (.int x7), some (.int (s.1 51 (x7).toNatClampNeg)), none] [.int (s.1 43 7), .int x7, .ref (51 + 3)] _ _ from ?_)
  refine zy_2 rfl rfl (show zyR _ _ _ _ [some (.ref (43 + 3)), none, none, some (.int x3), some (.int x4), some (.int x5), some (.int x6), some (.int x7), some (.int (s.1 51 (x7).toNatClampNeg)), none] [.int x7, .int (s.1 43 7), .int x7, .ref (51 + 3)] _ _ from ?_)
  obtain ⟨p6, hp6, h⟩ := zy_bind h
  refine zy_60 (as := [.int (s.1 43 7), .int x7]) (rest := [.int x7, .ref (51 + 3)]) (L := [some (.int (s.1 43 7)), some (.int x7)]) (d' := 1) rfl rfl (Nat.le_of_ble_eq_true rfl) (Nat.le_of_ble_eq_true rfl) rfl (Nat.le_of_ble_eq_true rfl) rfl rfl (zyC208 hp6) ?_
  show zyR _ _ _ _ [some (.ref (43 + 3)), none, none, some (.int x3), some (.int x4), some (.int x5), some (.int x6), some (.int x7), some (.int (s.1 51 (x7).toNatClampNeg)), none] [.int p6.1, .int x7, .ref (51 + 3)] _ _
  refine zy_24_0 rfl (fun b7 => (show zyR _ _ _ _ [some (.ref (43 + 3)), none, none, some (.int x3), some (.int x4), some (.int x5), some (.int x6), some (.int x7), some (.int (s.1 51 (x7).toNatClampNeg)), none] [.int x7, .ref (51 + 3)] _ _ from ?_)) (fun b7 => (show zyR _ _ _ _ [some (.ref (43 + 3)), none, none, some (.int x3), some (.int x4), some (.int x5), some (.int x6), some (.int x7), some (.int (s.1 51 (x7).toNatClampNeg)), none] [.int x7, .ref (51 + 3)] _ _ from ?_))
  · replace h := zy_ifp h b7
    refine zy_3 rfl rfl (show zyR _ _ _ _ [some (.ref (43 + 3)), none, none, some (.int x3), some (.int x4), some (.int x5), some (.int x6), some (.int x7), some (.int (s.1 51 (x7).toNatClampNeg)), none] [.int (0 : Int32), .int x7, .ref (51 + 3)] _ _ from ?_)
    exact zy_sub (show zy_le [some (.ref (43 + 3)), none, none, some (.int x3), some (.int x4), some (.int x5), some (.int x6), some (.int x7), some (.int (s.1 51 (x7).toNatClampNeg)), none] [some (.ref (43 + 3)), none, none, some (.int x3), some (.int x4), some (.int x5), some (.int x6), some (.int x7), some (.int (s.1 51 (x7).toNatClampNeg)), none] from ⟨rfl, ⟨rfl, ⟨rfl, ⟨rfl, ⟨rfl, ⟨rfl, ⟨rfl, trivial⟩⟩⟩⟩⟩⟩⟩) (zyC226_186 hk123 h)
  · replace h := zy_ifn h b7
    refine zy_2 rfl rfl (show zyR _ _ _ _ [some (.ref (43 + 3)), none, none, some (.int x3), some (.int x4), some (.int x5), some (.int x6), some (.int x7), some (.int (s.1 51 (x7).toNatClampNeg)), none] [.int (s.1 51 (x7).toNatClampNeg), .int x7, .ref (51 + 3)] _ _ from ?_)
    refine zy_6 rfl (show zyR _ _ _ _ [some (.ref (43 + 3)), none, none, some (.int x3), some (.int x4), some (.int x5), some (.int x6), some (.int x7), some (.int (s.1 51 (x7).toNatClampNeg)), none] [.int (s.1 51 (x7).toNatClampNeg), .int x7, .ref (51 + 3)] _ _ from ?_)
    exact zy_sub (show zy_le [some (.ref (43 + 3)), none, none, some (.int x3), some (.int x4), some (.int x5), some (.int x6), some (.int x7), some (.int (s.1 51 (x7).toNatClampNeg)), none] [some (.ref (43 + 3)), none, none, some (.int x3), some (.int x4), some (.int x5), some (.int x6), some (.int x7), some (.int (s.1 51 (x7).toNatClampNeg)), none] from ⟨rfl, ⟨rfl, ⟨rfl, ⟨rfl, ⟨rfl, ⟨rfl, ⟨rfl, trivial⟩⟩⟩⟩⟩⟩⟩) (zyC226_186 hk123 h)
noncomputable def zyF226_123b  (k123 : Int32 → Int32 → Int32 → Int32 → Int32 → zy_S → Option (Int32 × zy_S)) (x3 : Int32) (x4 : Int32) (x5 : Int32) (x6 : Int32) (x7 : Int32) (s : zy_S) : Option (Int32 × zy_S) :=
if (24 : Int32) ≤ x7 then
some ((24 : Int32), s)
else
(zyF208 (s.1 43 7) x7 s).bind fun p8 =>
if p8.1 ≠ 0 then
zyF226_153 k123 x3 x4 x5 x6 x7 p8.2
else
(zyF219 (p8.2.1 43 7) p8.2).bind fun p9 =>
if p9.1 = 0 then
zyF226_227 k123 x3 x4 x5 x6 x7 p9.2
else
zyF226_153 k123 x3 x4 x5 x6 x7 p9.2
theorem zyC226_123b {X : zx_X}  {k123 : Int32 → Int32 → Int32 → Int32 → Int32 → zy_S → Option (Int32 × zy_S)}  (hk123 : ∀ (x3 : Int32) (x4 : Int32) (x5 : Int32) (x6 : Int32) (x7 : Int32) (s : zy_S) (r : Int32) (s' : zy_S), k123 x3 x4 x5 x6 x7 s = some (r, s') → zyR X 206 226 123 [some (.ref (43 + 3)), none, none, some (.int x3), some (.int x4), some (.int x5), some (.int x6), some (.int x7), none, none] [] s (zyE (some (.int r)) s')) {x3 : Int32} {x4 : Int32} {x5 : Int32} {x6 : Int32} {x7 : Int32} {s : zy_S} {r : Int32} {s' : zy_S}  (h : zyF226_123b k123 x3 x4 x5 x6 x7 s = some (r, s')) : zyR X 206 226 123 [some (.ref (43 + 3)), none, none, some (.int x3), some (.int x4), some (.int x5), some (.int x6), some (.int x7), none, none] [] s (zyE (some (.int r)) s') := by
  unfold zyF226_123b at h
  refine zy_2 rfl rfl (show zyR _ _ _ _ [some (.ref (43 + 3)), none, none, some (.int x3), some (.int x4), some (.int x5), some (.int x6), some (.int x7), none, none] [.int x7] _ _ from ?_)
  refine zy_3 rfl rfl (show zyR _ _ _ _ [some (.ref (43 + 3)), none, none, some (.int x3), some (.int x4), some (.int x5), some (.int x6), some (.int x7), none, none] [.int (24 : Int32), .int x7] _ _ from ?_)
  refine zy_25_3 rfl (fun b12 => (show zyR _ _ _ _ [some (.ref (43 + 3)), none, none, some (.int x3), some (.int x4), some (.int x5), some (.int x6), some (.int x7), none, none] [] _ _ from ?_)) (fun b12 => (show zyR _ _ _ _ [some (.ref (43 + 3)), none, none, some (.int x3), some (.int x4), some (.int x5), some (.int x6), some (.int x7), none, none] [] _ _ from ?_))
  · replace h := zy_ifp h b12
    refine zy_3 rfl rfl (show zyR _ _ _ _ [some (.ref (43 + 3)), none, none, some (.int x3), some (.int x4), some (.int x5), some (.int x6), some (.int x7), none, none] [.int (24 : Int32)] _ _ from ?_)
    obtain ⟨rfl, rfl⟩ := zy_pi h
    exact zy_4 rfl ⟨rfl, rfl⟩
  · replace h := zy_ifn h b12
    refine zy_0 rfl rfl (show zyR _ _ _ _ [some (.ref (43 + 3)), none, none, some (.int x3), some (.int x4), some (.int x5), some (.int x6), some (.int x7), none, none] [.ref (43 + 3)] _ _ from ?_)
    refine zy_1 (c := 43) rfl rfl rfl (show zyR _ _ _ _ [some (.ref (43 + 3)), none, none, some (.int x3), some (.int x4), some (.int x5), some (.int x6), some (.int x7), none, none] [.int (s.1 43 7)] _ _ from ?_)
    refine zy_2 rfl rfl (show zyR _ _ _ _ [some (.ref (43 + 3)), none, none, some (.int x3), some (.int x4), some (.int x5), some (.int x6), some (.int x7), none, none] [.int x7, .int (s.1 43 7)] _ _ from ?_)
    obtain ⟨p8, hp8, h⟩ := zy_bind h
    refine zy_60 (as := [.int (s.1 43 7), .int x7]) (rest := []) (L := [some (.int (s.1 43 7)), some (.int x7)]) (d' := 1) rfl rfl (Nat.le_of_ble_eq_true rfl) (Nat.le_of_ble_eq_true rfl) rfl (Nat.le_of_ble_eq_true rfl) rfl rfl (zyC208 hp8) ?_
    show zyR _ _ _ _ [some (.ref (43 + 3)), none, none, some (.int x3), some (.int x4), some (.int x5), some (.int x6), some (.int x7), none, none] [.int p8.1] _ _
    refine zy_24_1 rfl (fun b11 => (show zyR _ _ _ _ [some (.ref (43 + 3)), none, none, some (.int x3), some (.int x4), some (.int x5), some (.int x6), some (.int x7), none, none] [] _ _ from ?_)) (fun b11 => (show zyR _ _ _ _ [some (.ref (43 + 3)), none, none, some (.int x3), some (.int x4), some (.int x5), some (.int x6), some (.int x7), none, none] [] _ _ from ?_))
    · replace h := zy_ifp h b11
      exact zy_sub (show zy_le [some (.ref (43 + 3)), none, none, some (.int x3), some (.int x4), some (.int x5), some (.int x6), some (.int x7), none, none] [some (.ref (43 + 3)), none, none, some (.int x3), some (.int x4), some (.int x5), some (.int x6), some (.int x7), none, none] from ⟨rfl, ⟨rfl, ⟨rfl, ⟨rfl, ⟨rfl, ⟨rfl, trivial⟩⟩⟩⟩⟩⟩) (zyC226_153 hk123 h)
    · replace h := zy_ifn h b11
      refine zy_0 rfl rfl (show zyR _ _ _ _ [some (.ref (43 + 3)), none, none, some (.int x3), some (.int x4), some (.int x5), some (.int x6), some (.int x7), none, none] [.ref (43 + 3)] _ _ from ?_)
      refine zy_0 rfl rfl (show zyR _ _ _ _ [some (.ref (43 + 3)), none, none, some (.int x3), some (.int x4), some (.int x5), some (.int x6), some (.int x7), none, none] [.ref (43 + 3), .ref (43 + 3)] _ _ from ?_)
      refine zy_1 (c := 43) rfl rfl rfl (show zyR _ _ _ _ [some (.ref (43 + 3)), none, none, some (.int x3), some (.int x4), some (.int x5), some (.int x6), some (.int x7), none, none] [.int (p8.2.1 43 7), .ref (43 + 3)] _ _ from ?_)
      obtain ⟨p9, hp9, h⟩ := zy_bind h
      refine zy_5 (c := 43) (as := [.int (p8.2.1 43 7)]) (rest := []) (L := [some (.ref (43 + 3)), some (.int (p8.2.1 43 7))]) (d' := 2) rfl rfl rfl (Nat.le_of_ble_eq_true rfl) (Nat.le_of_ble_eq_true rfl) rfl (Nat.le_of_ble_eq_true rfl) rfl rfl (zyC219 hp9) ?_
      show zyR _ _ _ _ [some (.ref (43 + 3)), none, none, some (.int x3), some (.int x4), some (.int x5), some (.int x6), some (.int x7), none, none] [.int p9.1] _ _
      refine zy_24_0 rfl (fun b10 => (show zyR _ _ _ _ [some (.ref (43 + 3)), none, none, some (.int x3), some (.int x4), some (.int x5), some (.int x6), some (.int x7), none, none] [] _ _ from ?_)) (fun b10 => (show zyR _ _ _ _ [some (.ref (43 + 3)), none, none, some (.int x3), some (.int x4), some (.int x5), some (.int x6), some (.int x7), none, none] [] _ _ from ?_))
      · replace h := zy_ifp h b10
        exact zy_sub (show zy_le [some (.ref (43 + 3)), none, none, some (.int x3), some (.int x4), some (.int x5), some (.int x6), some (.int x7), none, none] [some (.ref (43 + 3)), none, none, some (.int x3), some (.int x4), some (.int x5), some (.int x6), some (.int x7), none, none] from ⟨rfl, ⟨rfl, ⟨rfl, ⟨rfl, ⟨rfl, ⟨rfl, trivial⟩⟩⟩⟩⟩⟩) (zyC226_227 hk123 h)
      · replace h := zy_ifn h b10
        exact zy_sub (show zy_le [some (.ref (43 + 3)), none, none, some (.int x3), some (.int x4), some (.int x5), some (.int x6), some (.int x7), none, none] [some (.ref (43 + 3)), none, none, some (.int x3), some (.int x4), some (.int x5), some (.int x6), some (.int x7), none, none] from ⟨rfl, ⟨rfl, ⟨rfl, ⟨rfl, ⟨rfl, ⟨rfl, trivial⟩⟩⟩⟩⟩⟩) (zyC226_153 hk123 h)
noncomputable def zyF226_123   (n : Nat) : Int32 → Int32 → Int32 → Int32 → Int32 → zy_S → Option (Int32 × zy_S) := Nat.rec (fun _ _ _ _ _ _ => none) (fun _ k123 => zyF226_123b k123) n
theorem zyC226_123 {X : zx_X}     : ∀ (n : Nat) (x3 : Int32) (x4 : Int32) (x5 : Int32) (x6 : Int32) (x7 : Int32) (s : zy_S) (r : Int32) (s' : zy_S), zyF226_123 n x3 x4 x5 x6 x7 s = some (r, s') → zyR X 206 226 123 [some (.ref (43 + 3)), none, none, some (.int x3), some (.int x4), some (.int x5), some (.int x6), some (.int x7), none, none] [] s (zyE (some (.int r)) s')
  | 0, _, _, _, _, _ => by
    intro s r s'  h
    have h : (none : Option (Int32 × zy_S)) = some (r, s') := h
    cases h
  | n + 1, x3, x4, x5, x6, x7 => by
    intro s r s'  h
    exact zyC226_123b (k123 := zyF226_123 n) (fun x3 x4 x5 x6 x7 s r s'  h => zyC226_123  n x3 x4 x5 x6 x7 s r s'  h) h
noncomputable def zyF226   (x1 : Int32) (x2 : Int32) (s : zy_S) : Option (Int32 × zy_S) :=
if x1 < 0 then
some ((-2000000000 : Int32), s)
else
(zyF185 ((x1 / (100 : Int32))).toInt64 s).bind fun p13 =>
if p13.1 = 0 then
some ((-2000000000 : Int32), p13.2)
else
(zyF185 (((x1 / (10 : Int32)) - (x1 / (10 : Int32)) / (10 : Int32) * (10 : Int32))).toInt64 p13.2).bind fun p14 =>
if p14.1 = 0 then
some ((-2000000000 : Int32), p14.2)
else
if (x1 / (100 : Int32)) = ((x1 / (10 : Int32)) - (x1 / (10 : Int32)) / (10 : Int32) * (10 : Int32)) then
some ((-2000000000 : Int32), p14.2)
else
(zyF179 ((x1 - x1 / (10 : Int32) * (10 : Int32))).toInt64 (1 : Int64) (3 : Int64) p14.2).bind fun p15 =>
if p15.1 = 0 then
some ((-2000000000 : Int32), p15.2)
else
(zyF179 (x2).toInt64 (0 : Int64) (1 : Int64) p15.2).bind fun p16 =>
if p16.1 ≠ 0 then
(zyF203 p16.2).bind fun p17 =>
(zyF227 (x1 / (100 : Int32)) ((x1 / (10 : Int32)) - (x1 / (10 : Int32)) / (10 : Int32) * (10 : Int32)) (0 : Int32) (x1 - x1 / (10 : Int32) * (10 : Int32)) (p17.2.1 43 7) p17.2).bind fun p18 =>
if x2 ≠ 0 then
zyF226_123 zy_fu (x1 / (100 : Int32)) ((x1 / (10 : Int32)) - (x1 / (10 : Int32)) / (10 : Int32) * (10 : Int32)) (x1 - x1 / (10 : Int32) * (10 : Int32)) p18.1 (0 : Int32) p18.2
else
some (p18.1, p18.2)
else
some ((-2000000000 : Int32), p16.2)
theorem zyC226 {X : zx_X}     {x1 : Int32} {x2 : Int32} {s : zy_S} {r : Int32} {s' : zy_S}  (h : zyF226 x1 x2 s = some (r, s')) : zyR X 206 226 0 [some (.ref (43 + 3)), some (.int x1), some (.int x2), none, none, none, none, none, none, none] [] s (zyE (some (.int r)) s') := by
  unfold zyF226 at h
  refine zy_2 rfl rfl (show zyR _ _ _ _ [some (.ref (43 + 3)), some (.int x1), some (.int x2), none, none, none, none, none, none, none] [.int x1] _ _ from ?_)
  refine zy_24_2 rfl (fun b25 => (show zyR _ _ _ _ [some (.ref (43 + 3)), some (.int x1), some (.int x2), none, none, none, none, none, none, none] [] _ _ from ?_)) (fun b25 => (show zyR _ _ _ _ [some (.ref (43 + 3)), some (.int x1), some (.int x2), none, none, none, none, none, none, none] [] _ _ from ?_))
  · replace h := zy_ifp h b25
    refine zy_3c rfl rfl (show zyR _ _ _ _ [some (.ref (43 + 3)), some (.int x1), some (.int x2), none, none, none, none, none, none, none] [.int (-2000000000 : Int32)] _ _ from ?_)
    obtain ⟨rfl, rfl⟩ := zy_pi h
    exact zy_4 rfl ⟨rfl, rfl⟩
  · replace h := zy_ifn h b25
    refine zy_0 rfl rfl (show zyR _ _ _ _ [some (.ref (43 + 3)), some (.int x1), some (.int x2), none, none, none, none, none, none, none] [.ref (43 + 3)] _ _ from ?_)
    refine zy_2 rfl rfl (show zyR _ _ _ _ [some (.ref (43 + 3)), some (.int x1), some (.int x2), none, none, none, none, none, none, none] [.int x1, .ref (43 + 3)] _ _ from ?_)
    refine zy_3 rfl rfl (show zyR _ _ _ _ [some (.ref (43 + 3)), some (.int x1), some (.int x2), none, none, none, none, none, none, none] [.int (100 : Int32), .int x1, .ref (43 + 3)] _ _ from ?_)
    refine zy_19 rfl (by decide) (show zyR _ _ _ _ [some (.ref (43 + 3)), some (.int x1), some (.int x2), none, none, none, none, none, none, none] [.int (x1 / (100 : Int32)), .ref (43 + 3)] _ _ from ?_)
    refine zy_40 rfl (show zyR _ _ _ _ [some (.ref (43 + 3)), some (.int x1), some (.int x2), none, none, none, none, none, none, none] [.long ((x1 / (100 : Int32))).toInt64, .ref (43 + 3)] _ _ from ?_)
    obtain ⟨p13, hp13, h⟩ := zy_bind h
    refine zy_5 (c := 43) (as := [.long ((x1 / (100 : Int32))).toInt64]) (rest := []) (L := [some (.ref (43 + 3)), some (.long ((x1 / (100 : Int32))).toInt64), none]) (d' := 2) rfl rfl rfl (Nat.le_of_ble_eq_true rfl) (Nat.le_of_ble_eq_true rfl) rfl (Nat.le_of_ble_eq_true rfl) rfl rfl (zyC185 hp13) ?_
    show zyR _ _ _ _ [some (.ref (43 + 3)), some (.int x1), some (.int x2), none, none, none, none, none, none, none] [.int p13.1] _ _
    refine zy_24_0 rfl (fun b24 => (show zyR _ _ _ _ [some (.ref (43 + 3)), some (.int x1), some (.int x2), none, none, none, none, none, none, none] [] _ _ from ?_)) (fun b24 => (show zyR _ _ _ _ [some (.ref (43 + 3)), some (.int x1), some (.int x2), none, none, none, none, none, none, none] [] _ _ from ?_))
    · replace h := zy_ifp h b24
      refine zy_3c rfl rfl (show zyR _ _ _ _ [some (.ref (43 + 3)), some (.int x1), some (.int x2), none, none, none, none, none, none, none] [.int (-2000000000 : Int32)] _ _ from ?_)
      obtain ⟨rfl, rfl⟩ := zy_pi h
      exact zy_4 rfl ⟨rfl, rfl⟩
    · replace h := zy_ifn h b24
      refine zy_0 rfl rfl (show zyR _ _ _ _ [some (.ref (43 + 3)), some (.int x1), some (.int x2), none, none, none, none, none, none, none] [.ref (43 + 3)] _ _ from ?_)
      refine zy_2 rfl rfl (show zyR _ _ _ _ [some (.ref (43 + 3)), some (.int x1), some (.int x2), none, none, none, none, none, none, none] [.int x1, .ref (43 + 3)] _ _ from ?_)
      refine zy_3 rfl rfl (show zyR _ _ _ _ [some (.ref (43 + 3)), some (.int x1), some (.int x2), none, none, none, none, none, none, none] [.int (10 : Int32), .int x1, .ref (43 + 3)] _ _ from ?_)
      refine zy_19 rfl (by decide) (show zyR _ _ _ _ [some (.ref (43 + 3)), some (.int x1), some (.int x2), none, none, none, none, none, none, none] [.int (x1 / (10 : Int32)), .ref (43 + 3)] _ _ from ?_)
      refine zy_3 rfl rfl (show zyR _ _ _ _ [some (.ref (43 + 3)), some (.int x1), some (.int x2), none, none, none, none, none, none, none] [.int (10 : Int32), .int (x1 / (10 : Int32)), .ref (43 + 3)] _ _ from ?_)
      refine zy_20 rfl (by decide) (show zyR _ _ _ _ [some (.ref (43 + 3)), some (.int x1), some (.int x2), none, none, none, none, none, none, none] [.int ((x1 / (10 : Int32)) - (x1 / (10 : Int32)) / (10 : Int32) * (10 : Int32)), .ref (43 + 3)] _ _ from ?_)
      refine zy_40 rfl (show zyR _ _ _ _ [some (.ref (43 + 3)), some (.int x1), some (.int x2), none, none, none, none, none, none, none] [.long (((x1 / (10 : Int32)) - (x1 / (10 : Int32)) / (10 : Int32) * (10 : Int32))).toInt64, .ref (43 + 3)] _ _ from ?_)
      obtain ⟨p14, hp14, h⟩ := zy_bind h
      refine zy_5 (c := 43) (as := [.long (((x1 / (10 : Int32)) - (x1 / (10 : Int32)) / (10 : Int32) * (10 : Int32))).toInt64]) (rest := []) (L := [some (.ref (43 + 3)), some (.long (((x1 / (10 : Int32)) - (x1 / (10 : Int32)) / (10 : Int32) * (10 : Int32))).toInt64), none]) (d' := 2) rfl rfl rfl (Nat.le_of_ble_eq_true rfl) (Nat.le_of_ble_eq_true rfl) rfl (Nat.le_of_ble_eq_true rfl) rfl rfl (zyC185 hp14) ?_
      show zyR _ _ _ _ [some (.ref (43 + 3)), some (.int x1), some (.int x2), none, none, none, none, none, none, none] [.int p14.1] _ _
      refine zy_24_0 rfl (fun b23 => (show zyR _ _ _ _ [some (.ref (43 + 3)), some (.int x1), some (.int x2), none, none, none, none, none, none, none] [] _ _ from ?_)) (fun b23 => (show zyR _ _ _ _ [some (.ref (43 + 3)), some (.int x1), some (.int x2), none, none, none, none, none, none, none] [] _ _ from ?_))
      · replace h := zy_ifp h b23
        refine zy_3c rfl rfl (show zyR _ _ _ _ [some (.ref (43 + 3)), some (.int x1), some (.int x2), none, none, none, none, none, none, none] [.int (-2000000000 : Int32)] _ _ from ?_)
        obtain ⟨rfl, rfl⟩ := zy_pi h
        exact zy_4 rfl ⟨rfl, rfl⟩
      · replace h := zy_ifn h b23
        refine zy_2 rfl rfl (show zyR _ _ _ _ [some (.ref (43 + 3)), some (.int x1), some (.int x2), none, none, none, none, none, none, none] [.int x1] _ _ from ?_)
        refine zy_3 rfl rfl (show zyR _ _ _ _ [some (.ref (43 + 3)), some (.int x1), some (.int x2), none, none, none, none, none, none, none] [.int (100 : Int32), .int x1] _ _ from ?_)
        refine zy_19 rfl (by decide) (show zyR _ _ _ _ [some (.ref (43 + 3)), some (.int x1), some (.int x2), none, none, none, none, none, none, none] [.int (x1 / (100 : Int32))] _ _ from ?_)
        refine zy_2 rfl rfl (show zyR _ _ _ _ [some (.ref (43 + 3)), some (.int x1), some (.int x2), none, none, none, none, none, none, none] [.int x1, .int (x1 / (100 : Int32))] _ _ from ?_)
        refine zy_3 rfl rfl (show zyR _ _ _ _ [some (.ref (43 + 3)), some (.int x1), some (.int x2), none, none, none, none, none, none, none] [.int (10 : Int32), .int x1, .int (x1 / (100 : Int32))] _ _ from ?_)
        refine zy_19 rfl (by decide) (show zyR _ _ _ _ [some (.ref (43 + 3)), some (.int x1), some (.int x2), none, none, none, none, none, none, none] [.int (x1 / (10 : Int32)), .int (x1 / (100 : Int32))] _ _ from ?_)
        refine zy_3 rfl rfl (show zyR _ _ _ _ [some (.ref (43 + 3)), some (.int x1), some (.int x2), none, none, none, none, none, none, none] [.int (10 : Int32), .int (x1 / (10 : Int32)), .int (x1 / (100 : Int32))] _ _ from ?_)
        refine zy_20 rfl (by decide) (show zyR _ _ _ _ [some (.ref (43 + 3)), some (.int x1), some (.int x2), none, none, none, none, none, none, none] [.int ((x1 / (10 : Int32)) - (x1 / (10 : Int32)) / (10 : Int32) * (10 : Int32)), .int (x1 / (100 : Int32))] _ _ from ?_)
        refine zy_25_0 rfl (fun b22 => (show zyR _ _ _ _ [some (.ref (43 + 3)), some (.int x1), some (.int x2), none, none, none, none, none, none, none] [] _ _ from ?_)) (fun b22 => (show zyR _ _ _ _ [some (.ref (43 + 3)), some (.int x1), some (.int x2), none, none, none, none, none, none, none] [] _ _ from ?_))
        · replace h := zy_ifp h b22
          refine zy_3c rfl rfl (show zyR _ _ _ _ [some (.ref (43 + 3)), some (.int x1), some (.int x2), none, none, none, none, none, none, none] [.int (-2000000000 : Int32)] _ _ from ?_)
          obtain ⟨rfl, rfl⟩ := zy_pi h
          exact zy_4 rfl ⟨rfl, rfl⟩
        · replace h := zy_ifn h b22
          refine zy_2 rfl rfl (show zyR _ _ _ _ [some (.ref (43 + 3)), some (.int x1), some (.int x2), none, none, none, none, none, none, none] [.int x1] _ _ from ?_)
          refine zy_3 rfl rfl (show zyR _ _ _ _ [some (.ref (43 + 3)), some (.int x1), some (.int x2), none, none, none, none, none, none, none] [.int (10 : Int32), .int x1] _ _ from ?_)
          refine zy_20 rfl (by decide) (show zyR _ _ _ _ [some (.ref (43 + 3)), some (.int x1), some (.int x2), none, none, none, none, none, none, none] [.int (x1 - x1 / (10 : Int32) * (10 : Int32))] _ _ from ?_)
          refine zy_40 rfl (show zyR _ _ _ _ [some (.ref (43 + 3)), some (.int x1), some (.int x2), none, none, none, none, none, none, none] [.long ((x1 - x1 / (10 : Int32) * (10 : Int32))).toInt64] _ _ from ?_)
          refine zy_36 rfl rfl (show zyR _ _ _ _ [some (.ref (43 + 3)), some (.int x1), some (.int x2), none, none, none, none, none, none, none] [.long (1 : Int64), .long ((x1 - x1 / (10 : Int32) * (10 : Int32))).toInt64] _ _ from ?_)
          refine zy_36c rfl rfl (show zyR _ _ _ _ [some (.ref (43 + 3)), some (.int x1), some (.int x2), none, none, none, none, none, none, none] [.long (3 : Int64), .long (1 : Int64), .long ((x1 - x1 / (10 : Int32) * (10 : Int32))).toInt64] _ _ from ?_)
          obtain ⟨p15, hp15, h⟩ := zy_bind h
          refine zy_60 (as := [.long ((x1 - x1 / (10 : Int32) * (10 : Int32))).toInt64, .long (1 : Int64), .long (3 : Int64)]) (rest := []) (L := [some (.long ((x1 - x1 / (10 : Int32) * (10 : Int32))).toInt64), none, some (.long (1 : Int64)), none, some (.long (3 : Int64)), none]) (d' := 1) rfl rfl (Nat.le_of_ble_eq_true rfl) (Nat.le_of_ble_eq_true rfl) rfl (Nat.le_of_ble_eq_true rfl) rfl rfl (zyC179 hp15) ?_
          show zyR _ _ _ _ [some (.ref (43 + 3)), some (.int x1), some (.int x2), none, none, none, none, none, none, none] [.int p15.1] _ _
          refine zy_24_0 rfl (fun b21 => (show zyR _ _ _ _ [some (.ref (43 + 3)), some (.int x1), some (.int x2), none, none, none, none, none, none, none] [] _ _ from ?_)) (fun b21 => (show zyR _ _ _ _ [some (.ref (43 + 3)), some (.int x1), some (.int x2), none, none, none, none, none, none, none] [] _ _ from ?_))
          · replace h := zy_ifp h b21
            refine zy_3c rfl rfl (show zyR _ _ _ _ [some (.ref (43 + 3)), some (.int x1), some (.int x2), none, none, none, none, none, none, none] [.int (-2000000000 : Int32)] _ _ from ?_)
            obtain ⟨rfl, rfl⟩ := zy_pi h
            exact zy_4 rfl ⟨rfl, rfl⟩
          · replace h := zy_ifn h b21
            refine zy_2 rfl rfl (show zyR _ _ _ _ [some (.ref (43 + 3)), some (.int x1), some (.int x2), none, none, none, none, none, none, none] [.int x2] _ _ from ?_)
            refine zy_40 rfl (show zyR _ _ _ _ [some (.ref (43 + 3)), some (.int x1), some (.int x2), none, none, none, none, none, none, none] [.long (x2).toInt64] _ _ from ?_)
            refine zy_36 rfl rfl (show zyR _ _ _ _ [some (.ref (43 + 3)), some (.int x1), some (.int x2), none, none, none, none, none, none, none] [.long (0 : Int64), .long (x2).toInt64] _ _ from ?_)
            refine zy_36 rfl rfl (show zyR _ _ _ _ [some (.ref (43 + 3)), some (.int x1), some (.int x2), none, none, none, none, none, none, none] [.long (1 : Int64), .long (0 : Int64), .long (x2).toInt64] _ _ from ?_)
            obtain ⟨p16, hp16, h⟩ := zy_bind h
            refine zy_60 (as := [.long (x2).toInt64, .long (0 : Int64), .long (1 : Int64)]) (rest := []) (L := [some (.long (x2).toInt64), none, some (.long (0 : Int64)), none, some (.long (1 : Int64)), none]) (d' := 1) rfl rfl (Nat.le_of_ble_eq_true rfl) (Nat.le_of_ble_eq_true rfl) rfl (Nat.le_of_ble_eq_true rfl) rfl rfl (zyC179 hp16) ?_
            show zyR _ _ _ _ [some (.ref (43 + 3)), some (.int x1), some (.int x2), none, none, none, none, none, none, none] [.int p16.1] _ _
            refine zy_24_1 rfl (fun b20 => (show zyR _ _ _ _ [some (.ref (43 + 3)), some (.int x1), some (.int x2), none, none, none, none, none, none, none] [] _ _ from ?_)) (fun b20 => (show zyR _ _ _ _ [some (.ref (43 + 3)), some (.int x1), some (.int x2), none, none, none, none, none, none, none] [] _ _ from ?_))
            · replace h := zy_ifp h b20
              refine zy_2 rfl rfl (show zyR _ _ _ _ [some (.ref (43 + 3)), some (.int x1), some (.int x2), none, none, none, none, none, none, none] [.int x1] _ _ from ?_)
              refine zy_3 rfl rfl (show zyR _ _ _ _ [some (.ref (43 + 3)), some (.int x1), some (.int x2), none, none, none, none, none, none, none] [.int (100 : Int32), .int x1] _ _ from ?_)
              refine zy_19 rfl (by decide) (show zyR _ _ _ _ [some (.ref (43 + 3)), some (.int x1), some (.int x2), none, none, none, none, none, none, none] [.int (x1 / (100 : Int32))] _ _ from ?_)
              refine zy_23 rfl rfl (show zyR _ _ _ _ [some (.ref (43 + 3)), some (.int x1), some (.int x2), some (.int (x1 / (100 : Int32))), none, none, none, none, none, none] [] _ _ from ?_)
              refine zy_2 rfl rfl (show zyR _ _ _ _ [some (.ref (43 + 3)), some (.int x1), some (.int x2), some (.int (x1 / (100 : Int32))), none, none, none, none, none, none] [.int x1] _ _ from ?_)
              refine zy_3 rfl rfl (show zyR _ _ _ _ [some (.ref (43 + 3)), some (.int x1), some (.int x2), some (.int (x1 / (100 : Int32))), none, none, none, none, none, none] [.int (10 : Int32), .int x1] _ _ from ?_)
              refine zy_19 rfl (by decide) (show zyR _ _ _ _ [some (.ref (43 + 3)), some (.int x1), some (.int x2), some (.int (x1 / (100 : Int32))), none, none, none, none, none, none] [.int (x1 / (10 : Int32))] _ _ from ?_)
              refine zy_3 rfl rfl (show zyR _ _ _ _ [some (.ref (43 + 3)), some (.int x1), some (.int x2), some (.int (x1 / (100 : Int32))), none, none, none, none, none, none] [.int (10 : Int32), .int (x1 / (10 : Int32))] _ _ from ?_)
              refine zy_20 rfl (by decide) (show zyR _ _ _ _ [some (.ref (43 + 3)), some (.int x1), some (.int x2), some (.int (x1 / (100 : Int32))), none, none, none, none, none, none] [.int ((x1 / (10 : Int32)) - (x1 / (10 : Int32)) / (10 : Int32) * (10 : Int32))] _ _ from ?_)
              refine zy_23 rfl rfl (show zyR _ _ _ _ [some (.ref (43 + 3)), some (.int x1), some (.int x2), some (.int (x1 / (100 : Int32))), some (.int ((x1 / (10 : Int32)) - (x1 / (10 : Int32)) / (10 : Int32) * (10 : Int32))), none, none, none, none, none] [] _ _ from ?_)
              refine zy_2 rfl rfl (show zyR _ _ _ _ [some (.ref (43 + 3)), some (.int x1), some (.int x2), some (.int (x1 / (100 : Int32))), some (.int ((x1 / (10 : Int32)) - (x1 / (10 : Int32)) / (10 : Int32) * (10 : Int32))), none, none, none, none, none] [.int x1] _ _ from ?_)
              refine zy_3 rfl rfl (show zyR _ _ _ _ [some (.ref (43 + 3)), some (.int x1), some (.int x2), some (.int (x1 / (100 : Int32))), some (.int ((x1 / (10 : Int32)) - (x1 / (10 : Int32)) / (10 : Int32) * (10 : Int32))), none, none, none, none, none] [.int (10 : Int32), .int x1] _ _ from ?_)
              refine zy_20 rfl (by decide) (show zyR _ _ _ _ [some (.ref (43 + 3)), some (.int x1), some (.int x2), some (.int (x1 / (100 : Int32))), some (.int ((x1 / (10 : Int32)) - (x1 / (10 : Int32)) / (10 : Int32) * (10 : Int32))), none, none, none, none, none] [.int (x1 - x1 / (10 : Int32) * (10 : Int32))] _ _ from ?_)
              refine zy_23 rfl rfl (show zyR _ _ _ _ [some (.ref (43 + 3)), some (.int x1), some (.int x2), some (.int (x1 / (100 : Int32))), some (.int ((x1 / (10 : Int32)) - (x1 / (10 : Int32)) / (10 : Int32) * (10 : Int32))), some (.int (x1 - x1 / (10 : Int32) * (10 : Int32))), none, none, none, none] [] _ _ from ?_)
              refine zy_0 rfl rfl (show zyR _ _ _ _ [some (.ref (43 + 3)), some (.int x1), some (.int x2), some (.int (x1 / (100 : Int32))), some (.int ((x1 / (10 : Int32)) - (x1 / (10 : Int32)) / (10 : Int32) * (10 : Int32))), some (.int (x1 - x1 / (10 : Int32) * (10 : Int32))), none, none, none, none] [.ref (43 + 3)] _ _ from ?_)
              obtain ⟨p17, hp17, h⟩ := zy_bind h
              refine zy_5 (c := 43) (as := []) (rest := []) (L := [some (.ref (43 + 3)), none]) (d' := 1) rfl rfl rfl (Nat.le_of_ble_eq_true rfl) (Nat.le_of_ble_eq_true rfl) rfl (Nat.le_of_ble_eq_true rfl) rfl rfl (zyC203 hp17) ?_
              show zyR _ _ _ _ [some (.ref (43 + 3)), some (.int x1), some (.int x2), some (.int (x1 / (100 : Int32))), some (.int ((x1 / (10 : Int32)) - (x1 / (10 : Int32)) / (10 : Int32) * (10 : Int32))), some (.int (x1 - x1 / (10 : Int32) * (10 : Int32))), none, none, none, none] [] _ _
              refine zy_0 rfl rfl (show zyR _ _ _ _ [some (.ref (43 + 3)), some (.int x1), some (.int x2), some (.int (x1 / (100 : Int32))), some (.int ((x1 / (10 : Int32)) - (x1 / (10 : Int32)) / (10 : Int32) * (10 : Int32))), some (.int (x1 - x1 / (10 : Int32) * (10 : Int32))), none, none, none, none] [.ref (43 + 3)] _ _ from ?_)
              refine zy_2 rfl rfl (show zyR _ _ _ _ [some (.ref (43 + 3)), some (.int x1), some (.int x2), some (.int (x1 / (100 : Int32))), some (.int ((x1 / (10 : Int32)) - (x1 / (10 : Int32)) / (10 : Int32) * (10 : Int32))), some (.int (x1 - x1 / (10 : Int32) * (10 : Int32))), none, none, none, none] [.int (x1 / (100 : Int32)), .ref (43 + 3)] _ _ from ?_)
              refine zy_2 rfl rfl (show zyR _ _ _ _ [some (.ref (43 + 3)), some (.int x1), some (.int x2), some (.int (x1 / (100 : Int32))), some (.int ((x1 / (10 : Int32)) - (x1 / (10 : Int32)) / (10 : Int32) * (10 : Int32))), some (.int (x1 - x1 / (10 : Int32) * (10 : Int32))), none, none, none, none] [.int ((x1 / (10 : Int32)) - (x1 / (10 : Int32)) / (10 : Int32) * (10 : Int32)), .int (x1 / (100 : Int32)), .ref (43 + 3)] _ _ from ?_)
              refine zy_3 rfl rfl (show zyR _ _ _ _ [some (.ref (43 + 3)), some (.int x1), some (.int x2), some (.int (x1 / (100 : Int32))), some (.int ((x1 / (10 : Int32)) - (x1 / (10 : Int32)) / (10 : Int32) * (10 : Int32))), some (.int (x1 - x1 / (10 : Int32) * (10 : Int32))), none, none, none, none] [.int (0 : Int32), .int ((x1 / (10 : Int32)) - (x1 / (10 : Int32)) / (10 : Int32) * (10 : Int32)), .int (x1 / (100 : Int32)), .ref (43 + 3)] _ _ from ?_)
              refine zy_2 rfl rfl (show zyR _ _ _ _ [some (.ref (43 + 3)), some (.int x1), some (.int x2), some (.int (x1 / (100 : Int32))), some (.int ((x1 / (10 : Int32)) - (x1 / (10 : Int32)) / (10 : Int32) * (10 : Int32))), some (.int (x1 - x1 / (10 : Int32) * (10 : Int32))), none, none, none, none] [.int (x1 - x1 / (10 : Int32) * (10 : Int32)), .int (0 : Int32), .int ((x1 / (10 : Int32)) - (x1 / (10 : Int32)) / (10 : Int32) * (10 : Int32)), .int (x1 / (100 : Int32)), .ref (43 + 3)] _ _ from ?_)
              refine zy_0 rfl rfl (show zyR _ _ _ _ [some (.ref (43 + 3)), some (.int x1), some (.int x2), some (.int (x1 / (100 : Int32))), some (.int ((x1 / (10 : Int32)) - (x1 / (10 : Int32)) / (10 : Int32) * (10 : Int32))), some (.int (x1 - x1 / (10 : Int32) * (10 : Int32))), none, none, none, none] [.ref (43 + 3), .int (x1 - x1 / (10 : Int32) * (10 : Int32)), .int (0 : Int32), .int ((x1 / (10 : Int32)) - (x1 / (10 : Int32)) / (10 : Int32) * (10 : Int32)), .int (x1 / (100 : Int32)), .ref (43 + 3)] _ _ from ?_)
              refine zy_1 (c := 43) rfl rfl rfl (show zyR _ _ _ _ [some (.ref (43 + 3)), some (.int x1), some (.int x2), some (.int (x1 / (100 : Int32))), some (.int ((x1 / (10 : Int32)) - (x1 / (10 : Int32)) / (10 : Int32) * (10 : Int32))), some (.int (x1 - x1 / (10 : Int32) * (10 : Int32))), none, none, none, none] [.int (p17.2.1 43 7), .int (x1 - x1 / (10 : Int32) * (10 : Int32)), .int (0 : Int32), .int ((x1 / (10 : Int32)) - (x1 / (10 : Int32)) / (10 : Int32) * (10 : Int32)), .int (x1 / (100 : Int32)), .ref (43 + 3)] _ _ from ?_)
              obtain ⟨p18, hp18, h⟩ := zy_bind h
              refine zy_5 (c := 43) (as := [.int (x1 / (100 : Int32)), .int ((x1 / (10 : Int32)) - (x1 / (10 : Int32)) / (10 : Int32) * (10 : Int32)), .int (0 : Int32), .int (x1 - x1 / (10 : Int32) * (10 : Int32)), .int (p17.2.1 43 7)]) (rest := []) (L := [some (.ref (43 + 3)), some (.int (x1 / (100 : Int32))), some (.int ((x1 / (10 : Int32)) - (x1 / (10 : Int32)) / (10 : Int32) * (10 : Int32))), some (.int (0 : Int32)), some (.int (x1 - x1 / (10 : Int32) * (10 : Int32))), some (.int (p17.2.1 43 7)), none, none, none, none]) (d' := 205) rfl rfl rfl (Nat.le_of_ble_eq_true rfl) (Nat.le_of_ble_eq_true rfl) rfl (Nat.le_of_ble_eq_true rfl) rfl rfl (zyC227 hp18) ?_
              show zyR _ _ _ _ [some (.ref (43 + 3)), some (.int x1), some (.int x2), some (.int (x1 / (100 : Int32))), some (.int ((x1 / (10 : Int32)) - (x1 / (10 : Int32)) / (10 : Int32) * (10 : Int32))), some (.int (x1 - x1 / (10 : Int32) * (10 : Int32))), none, none, none, none] [.int p18.1] _ _
              refine zy_23 rfl rfl (show zyR _ _ _ _ [some (.ref (43 + 3)), some (.int x1), some (.int x2), some (.int (x1 / (100 : Int32))), some (.int ((x1 / (10 : Int32)) - (x1 / (10 : Int32)) / (10 : Int32) * (10 : Int32))), some (.int (x1 - x1 / (10 : Int32) * (10 : Int32))), some (.int p18.1), none, none, none] [] _ _ from ?_)
              refine zy_2 rfl rfl (show zyR _ _ _ _ [some (.ref (43 + 3)), some (.int x1), some (.int x2), some (.int (x1 / (100 : Int32))), some (.int ((x1 / (10 : Int32)) - (x1 / (10 : Int32)) / (10 : Int32) * (10 : Int32))), some (.int (x1 - x1 / (10 : Int32) * (10 : Int32))), some (.int p18.1), none, none, none] [.int x2] _ _ from ?_)
              refine zy_24_1 rfl (fun b19 => (show zyR _ _ _ _ [some (.ref (43 + 3)), some (.int x1), some (.int x2), some (.int (x1 / (100 : Int32))), some (.int ((x1 / (10 : Int32)) - (x1 / (10 : Int32)) / (10 : Int32) * (10 : Int32))), some (.int (x1 - x1 / (10 : Int32) * (10 : Int32))), some (.int p18.1), none, none, none] [] _ _ from ?_)) (fun b19 => (show zyR _ _ _ _ [some (.ref (43 + 3)), some (.int x1), some (.int x2), some (.int (x1 / (100 : Int32))), some (.int ((x1 / (10 : Int32)) - (x1 / (10 : Int32)) / (10 : Int32) * (10 : Int32))), some (.int (x1 - x1 / (10 : Int32) * (10 : Int32))), some (.int p18.1), none, none, none] [] _ _ from ?_))
              · replace h := zy_ifp h b19
                refine zy_3 rfl rfl (show zyR _ _ _ _ [some (.ref (43 + 3)), some (.int x1), some (.int x2), some (.int (x1 / (100 : Int32))), some (.int ((x1 / (10 : Int32)) - (x1 / (10 : Int32)) / (10 : Int32) * (10 : Int32))), some (.int (x1 - x1 / (10 : Int32) * (10 : Int32))), some (.int p18.1), none, none, none] [.int (0 : Int32)] _ _ from ?_)
                refine zy_23 rfl rfl (show zyR _ _ _ _ [some (.ref (43 + 3)), some (.int x1), some (.int x2), some (.int (x1 / (100 : Int32))), some (.int ((x1 / (10 : Int32)) - (x1 / (10 : Int32)) / (10 : Int32) * (10 : Int32))), some (.int (x1 - x1 / (10 : Int32) * (10 : Int32))), some (.int p18.1), some (.int (0 : Int32)), none, none] [] _ _ from ?_)
                exact zy_sub (show zy_le [some (.ref (43 + 3)), none, none, some (.int (x1 / (100 : Int32))), some (.int ((x1 / (10 : Int32)) - (x1 / (10 : Int32)) / (10 : Int32) * (10 : Int32))), some (.int (x1 - x1 / (10 : Int32) * (10 : Int32))), some (.int p18.1), some (.int (0 : Int32)), none, none] [some (.ref (43 + 3)), some (.int x1), some (.int x2), some (.int (x1 / (100 : Int32))), some (.int ((x1 / (10 : Int32)) - (x1 / (10 : Int32)) / (10 : Int32) * (10 : Int32))), some (.int (x1 - x1 / (10 : Int32) * (10 : Int32))), some (.int p18.1), some (.int (0 : Int32)), none, none] from ⟨rfl, ⟨rfl, ⟨rfl, ⟨rfl, ⟨rfl, ⟨rfl, trivial⟩⟩⟩⟩⟩⟩) (zyC226_123 zy_fu (x1 / (100 : Int32)) ((x1 / (10 : Int32)) - (x1 / (10 : Int32)) / (10 : Int32) * (10 : Int32)) (x1 - x1 / (10 : Int32) * (10 : Int32)) p18.1 (0 : Int32) p18.2 _ _ h)
              · replace h := zy_ifn h b19
                refine zy_2 rfl rfl (show zyR _ _ _ _ [some (.ref (43 + 3)), some (.int x1), some (.int x2), some (.int (x1 / (100 : Int32))), some (.int ((x1 / (10 : Int32)) - (x1 / (10 : Int32)) / (10 : Int32) * (10 : Int32))), some (.int (x1 - x1 / (10 : Int32) * (10 : Int32))), some (.int p18.1), none, none, none] [.int p18.1] _ _ from ?_)
                obtain ⟨rfl, rfl⟩ := zy_pi h
                exact zy_4 rfl ⟨rfl, rfl⟩
            · replace h := zy_ifn h b20
              refine zy_3c rfl rfl (show zyR _ _ _ _ [some (.ref (43 + 3)), some (.int x1), some (.int x2), none, none, none, none, none, none, none] [.int (-2000000000 : Int32)] _ _ from ?_)
              obtain ⟨rfl, rfl⟩ := zy_pi h
              exact zy_4 rfl ⟨rfl, rfl⟩
end
