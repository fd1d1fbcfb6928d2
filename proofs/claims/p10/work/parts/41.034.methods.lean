/-! PART 41.34: methods as functions. Made by wip/v4/dcp.py. -/
/-! NineOpinions.minds(II)I -/
noncomputable def zyF50_61   (x2 : Int32) (y0 : Int32) (s : zy_S) : Option (Int32 × zy_S) :=
(zyF52 y0 (0 : Int32) s).bind fun p1 =>
if x2 ≠ (6 : Int32) then
(zyF55 x2 (p1.2.1 1 3) (p1.2.1 1 3) p1.2).bind fun p2 =>
some (p2.1, p2.2)
else
(zyF54 (p1.2.1 1 3) (p1.2.1 1 3) p1.2).bind fun p3 =>
some (p3.1, p3.2)
theorem zyC50_61 {X : zx_X}     {x2 : Int32} {y0 : Int32} {s : zy_S} {r : Int32} {s' : zy_S}  (h : zyF50_61 x2 y0 s = some (r, s')) : zyR X 7 50 61 [some (.ref (0 + 3)), none, some (.int x2), none] [.int y0, .ref (12 + 3)] s (zyE (some (.int r)) s') := by
  unfold zyF50_61 at h
  refine zy_3 rfl rfl (show zyR _ _ _ _ [some (.ref (0 + 3)), none, some (.int x2), none] [.int (0 : Int32), .int y0, .ref (12 + 3)] _ _ from ?_)
  obtain ⟨p1, hp1, h⟩ := zy_bind h
  refine zy_5 (c := 12) (as := [.int y0, .int (0 : Int32)]) (rest := []) (L := [some (.ref (12 + 3)), some (.int y0), some (.int (0 : Int32))]) (d' := 1) rfl rfl rfl (Nat.le_of_ble_eq_true rfl) (Nat.le_of_ble_eq_true rfl) rfl (Nat.le_of_ble_eq_true rfl) rfl rfl (zyC52 hp1) ?_
  show zyR _ _ _ _ [some (.ref (0 + 3)), none, some (.int x2), none] [] _ _
  refine zy_2 rfl rfl (show zyR _ _ _ _ [some (.ref (0 + 3)), none, some (.int x2), none] [.int x2] _ _ from ?_)
  refine zy_3 rfl rfl (show zyR _ _ _ _ [some (.ref (0 + 3)), none, some (.int x2), none] [.int (6 : Int32), .int x2] _ _ from ?_)
  refine zy_25_1 rfl (fun b4 => (show zyR _ _ _ _ [some (.ref (0 + 3)), none, some (.int x2), none] [] _ _ from ?_)) (fun b4 => (show zyR _ _ _ _ [some (.ref (0 + 3)), none, some (.int x2), none] [] _ _ from ?_))
  · replace h := zy_ifp h b4
    refine zy_0 rfl rfl (show zyR _ _ _ _ [some (.ref (0 + 3)), none, some (.int x2), none] [.ref (0 + 3)] _ _ from ?_)
    refine zy_1r (c := 0) rfl rfl rfl (show zyR _ _ _ _ [some (.ref (0 + 3)), none, some (.int x2), none] [.ref (12 + 3)] _ _ from ?_)
    refine zy_2 rfl rfl (show zyR _ _ _ _ [some (.ref (0 + 3)), none, some (.int x2), none] [.int x2, .ref (12 + 3)] _ _ from ?_)
    refine zy_0 rfl rfl (show zyR _ _ _ _ [some (.ref (0 + 3)), none, some (.int x2), none] [.ref (0 + 3), .int x2, .ref (12 + 3)] _ _ from ?_)
    refine zy_1r (c := 0) rfl rfl rfl (show zyR _ _ _ _ [some (.ref (0 + 3)), none, some (.int x2), none] [.ref (1 + 3), .int x2, .ref (12 + 3)] _ _ from ?_)
    refine zy_1 (c := 1) rfl rfl rfl (show zyR _ _ _ _ [some (.ref (0 + 3)), none, some (.int x2), none] [.int (p1.2.1 1 3), .int x2, .ref (12 + 3)] _ _ from ?_)
    refine zy_0 rfl rfl (show zyR _ _ _ _ [some (.ref (0 + 3)), none, some (.int x2), none] [.ref (0 + 3), .int (p1.2.1 1 3), .int x2, .ref (12 + 3)] _ _ from ?_)
    refine zy_1r (c := 0) rfl rfl rfl (show zyR _ _ _ _ [some (.ref (0 + 3)), none, some (.int x2), none] [.ref (1 + 3), .int (p1.2.1 1 3), .int x2, .ref (12 + 3)] _ _ from ?_)
    refine zy_1 (c := 1) rfl rfl rfl (show zyR _ _ _ _ [some (.ref (0 + 3)), none, some (.int x2), none] [.int (p1.2.1 1 3), .int (p1.2.1 1 3), .int x2, .ref (12 + 3)] _ _ from ?_)
    obtain ⟨p2, hp2, h⟩ := zy_bind h
    refine zy_5 (c := 12) (as := [.int x2, .int (p1.2.1 1 3), .int (p1.2.1 1 3)]) (rest := []) (L := [some (.ref (12 + 3)), some (.int x2), some (.int (p1.2.1 1 3)), some (.int (p1.2.1 1 3)), none]) (d' := 5) rfl rfl rfl (Nat.le_of_ble_eq_true rfl) (Nat.le_of_ble_eq_true rfl) rfl (Nat.le_of_ble_eq_true rfl) rfl rfl (zyC55 hp2) ?_
    show zyR _ _ _ _ [some (.ref (0 + 3)), none, some (.int x2), none] [.int p2.1] _ _
    obtain ⟨rfl, rfl⟩ := zy_pi h
    exact zy_4 rfl ⟨rfl, rfl⟩
  · replace h := zy_ifn h b4
    refine zy_0 rfl rfl (show zyR _ _ _ _ [some (.ref (0 + 3)), none, some (.int x2), none] [.ref (0 + 3)] _ _ from ?_)
    refine zy_1r (c := 0) rfl rfl rfl (show zyR _ _ _ _ [some (.ref (0 + 3)), none, some (.int x2), none] [.ref (12 + 3)] _ _ from ?_)
    refine zy_0 rfl rfl (show zyR _ _ _ _ [some (.ref (0 + 3)), none, some (.int x2), none] [.ref (0 + 3), .ref (12 + 3)] _ _ from ?_)
    refine zy_1r (c := 0) rfl rfl rfl (show zyR _ _ _ _ [some (.ref (0 + 3)), none, some (.int x2), none] [.ref (1 + 3), .ref (12 + 3)] _ _ from ?_)
    refine zy_1 (c := 1) rfl rfl rfl (show zyR _ _ _ _ [some (.ref (0 + 3)), none, some (.int x2), none] [.int (p1.2.1 1 3), .ref (12 + 3)] _ _ from ?_)
    refine zy_0 rfl rfl (show zyR _ _ _ _ [some (.ref (0 + 3)), none, some (.int x2), none] [.ref (0 + 3), .int (p1.2.1 1 3), .ref (12 + 3)] _ _ from ?_)
    refine zy_1r (c := 0) rfl rfl rfl (show zyR _ _ _ _ [some (.ref (0 + 3)), none, some (.int x2), none] [.ref (1 + 3), .int (p1.2.1 1 3), .ref (12 + 3)] _ _ from ?_)
    refine zy_1 (c := 1) rfl rfl rfl (show zyR _ _ _ _ [some (.ref (0 + 3)), none, some (.int x2), none] [.int (p1.2.1 1 3), .int (p1.2.1 1 3), .ref (12 + 3)] _ _ from ?_)
    obtain ⟨p3, hp3, h⟩ := zy_bind h
    refine zy_5 (c := 12) (as := [.int (p1.2.1 1 3), .int (p1.2.1 1 3)]) (rest := []) (L := [some (.ref (12 + 3)), some (.int (p1.2.1 1 3)), some (.int (p1.2.1 1 3)), none, none]) (d' := 6) rfl rfl rfl (Nat.le_of_ble_eq_true rfl) (Nat.le_of_ble_eq_true rfl) rfl (Nat.le_of_ble_eq_true rfl) rfl rfl (zyC54 hp3) ?_
    show zyR _ _ _ _ [some (.ref (0 + 3)), none, some (.int x2), none] [.int p3.1] _ _
    refine zy_6 rfl (show zyR _ _ _ _ [some (.ref (0 + 3)), none, some (.int x2), none] [.int p3.1] _ _ from ?_)
    obtain ⟨rfl, rfl⟩ := zy_pi h
    exact zy_4 rfl ⟨rfl, rfl⟩
noncomputable def zyF50_28   (x1 : Int32) (x2 : Int32) (x3 : Int32) (s : zy_S) : Option (Int32 × zy_S) :=
if x2 < 0 then
some ((-1 : Int32), s)
else
if x2 ≤ (6 : Int32) then
if x3 = 0 then
zyF50_61 x2 ((1 : Int32) <<< (x1 &&& 31)) s
else
(zyF51 s).bind fun p5 =>
zyF50_61 x2 p5.1 p5.2
else
some ((-1 : Int32), s)
theorem zyC50_28 {X : zx_X}     {x1 : Int32} {x2 : Int32} {x3 : Int32} {s : zy_S} {r : Int32} {s' : zy_S}  (h : zyF50_28 x1 x2 x3 s = some (r, s')) : zyR X 7 50 28 [some (.ref (0 + 3)), some (.int x1), some (.int x2), some (.int x3)] [] s (zyE (some (.int r)) s') := by
  unfold zyF50_28 at h
  refine zy_2 rfl rfl (show zyR _ _ _ _ [some (.ref (0 + 3)), some (.int x1), some (.int x2), some (.int x3)] [.int x2] _ _ from ?_)
  refine zy_24_2 rfl (fun b8 => (show zyR _ _ _ _ [some (.ref (0 + 3)), some (.int x1), some (.int x2), some (.int x3)] [] _ _ from ?_)) (fun b8 => (show zyR _ _ _ _ [some (.ref (0 + 3)), some (.int x1), some (.int x2), some (.int x3)] [] _ _ from ?_))
  · replace h := zy_ifp h b8
    refine zy_3 rfl rfl (show zyR _ _ _ _ [some (.ref (0 + 3)), some (.int x1), some (.int x2), some (.int x3)] [.int (-1 : Int32)] _ _ from ?_)
    obtain ⟨rfl, rfl⟩ := zy_pi h
    exact zy_4 rfl ⟨rfl, rfl⟩
  · replace h := zy_ifn h b8
    refine zy_2 rfl rfl (show zyR _ _ _ _ [some (.ref (0 + 3)), some (.int x1), some (.int x2), some (.int x3)] [.int x2] _ _ from ?_)
    refine zy_3 rfl rfl (show zyR _ _ _ _ [some (.ref (0 + 3)), some (.int x1), some (.int x2), some (.int x3)] [.int (6 : Int32), .int x2] _ _ from ?_)
    refine zy_25_5 rfl (fun b7 => (show zyR _ _ _ _ [some (.ref (0 + 3)), some (.int x1), some (.int x2), some (.int x3)] [] _ _ from ?_)) (fun b7 => (show zyR _ _ _ _ [some (.ref (0 + 3)), some (.int x1), some (.int x2), some (.int x3)] [] _ _ from ?_))
    · replace h := zy_ifp h b7
      refine zy_0 rfl rfl (show zyR _ _ _ _ [some (.ref (0 + 3)), some (.int x1), some (.int x2), some (.int x3)] [.ref (0 + 3)] _ _ from ?_)
      refine zy_1r (c := 0) rfl rfl rfl (show zyR _ _ _ _ [some (.ref (0 + 3)), some (.int x1), some (.int x2), some (.int x3)] [.ref (12 + 3)] _ _ from ?_)
      refine zy_2 rfl rfl (show zyR _ _ _ _ [some (.ref (0 + 3)), some (.int x1), some (.int x2), some (.int x3)] [.int x3, .ref (12 + 3)] _ _ from ?_)
      refine zy_24_0 rfl (fun b6 => (show zyR _ _ _ _ [some (.ref (0 + 3)), some (.int x1), some (.int x2), some (.int x3)] [.ref (12 + 3)] _ _ from ?_)) (fun b6 => (show zyR _ _ _ _ [some (.ref (0 + 3)), some (.int x1), some (.int x2), some (.int x3)] [.ref (12 + 3)] _ _ from ?_))
      · replace h := zy_ifp h b6
        refine zy_3 rfl rfl (show zyR _ _ _ _ [some (.ref (0 + 3)), some (.int x1), some (.int x2), some (.int x3)] [.int (1 : Int32), .ref (12 + 3)] _ _ from ?_)
        refine zy_2 rfl rfl (show zyR _ _ _ _ [some (.ref (0 + 3)), some (.int x1), some (.int x2), some (.int x3)] [.int x1, .int (1 : Int32), .ref (12 + 3)] _ _ from ?_)
        refine zy_16 rfl (show zyR _ _ _ _ [some (.ref (0 + 3)), some (.int x1), some (.int x2), some (.int x3)] [.int ((1 : Int32) <<< (x1 &&& 31)), .ref (12 + 3)] _ _ from ?_)
        exact zy_sub (show zy_le [some (.ref (0 + 3)), none, some (.int x2), none] [some (.ref (0 + 3)), some (.int x1), some (.int x2), some (.int x3)] from ⟨rfl, ⟨rfl, trivial⟩⟩) (zyC50_61 h)
      · replace h := zy_ifn h b6
        refine zy_0 rfl rfl (show zyR _ _ _ _ [some (.ref (0 + 3)), some (.int x1), some (.int x2), some (.int x3)] [.ref (0 + 3), .ref (12 + 3)] _ _ from ?_)
        refine zy_1r (c := 0) rfl rfl rfl (show zyR _ _ _ _ [some (.ref (0 + 3)), some (.int x1), some (.int x2), some (.int x3)] [.ref (1 + 3), .ref (12 + 3)] _ _ from ?_)
        obtain ⟨p5, hp5, h⟩ := zy_bind h
        refine zy_5 (c := 1) (as := []) (rest := [.ref (12 + 3)]) (L := [some (.ref (1 + 3))]) (d' := 1) rfl rfl rfl (Nat.le_of_ble_eq_true rfl) (Nat.le_of_ble_eq_true rfl) rfl (Nat.le_of_ble_eq_true rfl) rfl rfl (zyC51 hp5) ?_
        show zyR _ _ _ _ [some (.ref (0 + 3)), some (.int x1), some (.int x2), some (.int x3)] [.int p5.1, .ref (12 + 3)] _ _
        refine zy_6 rfl (show zyR _ _ _ _ [some (.ref (0 + 3)), some (.int x1), some (.int x2), some (.int x3)] [.int p5.1, .ref (12 + 3)] _ _ from ?_)
        exact zy_sub (show zy_le [some (.ref (0 + 3)), none, some (.int x2), none] [some (.ref (0 + 3)), some (.int x1), some (.int x2), some (.int x3)] from ⟨rfl, ⟨rfl, trivial⟩⟩) (zyC50_61 h)
    · replace h := zy_ifn h b7
      refine zy_3 rfl rfl (show zyR _ _ _ _ [some (.ref (0 + 3)), some (.int x1), some (.int x2), some (.int x3)] [.int (-1 : Int32)] _ _ from ?_)
      obtain ⟨rfl, rfl⟩ := zy_pi h
      exact zy_4 rfl ⟨rfl, rfl⟩
noncomputable def zyF50_11   (x1 : Int32) (x2 : Int32) (y0 : Int32) (s : zy_S) : Option (Int32 × zy_S) :=
if y0 ≠ 0 then
zyF50_28 x1 x2 y0 s
else
(zyF25 (0 : Int32) x1 s).bind fun p9 =>
if p9.1 = 0 then
some ((-1 : Int32), p9.2)
else
zyF50_28 x1 x2 y0 p9.2
theorem zyC50_11 {X : zx_X}     {x1 : Int32} {x2 : Int32} {y0 : Int32} {s : zy_S} {r : Int32} {s' : zy_S}  (h : zyF50_11 x1 x2 y0 s = some (r, s')) : zyR X 7 50 11 [some (.ref (0 + 3)), some (.int x1), some (.int x2), none] [.int y0] s (zyE (some (.int r)) s') := by
  unfold zyF50_11 at h
  refine zy_23 rfl rfl (show zyR _ _ _ _ [some (.ref (0 + 3)), some (.int x1), some (.int x2), some (.int y0)] [] _ _ from ?_)
  refine zy_2 rfl rfl (show zyR _ _ _ _ [some (.ref (0 + 3)), some (.int x1), some (.int x2), some (.int y0)] [.int y0] _ _ from ?_)
  refine zy_24_1 rfl (fun b11 => (show zyR _ _ _ _ [some (.ref (0 + 3)), some (.int x1), some (.int x2), some (.int y0)] [] _ _ from ?_)) (fun b11 => (show zyR _ _ _ _ [some (.ref (0 + 3)), some (.int x1), some (.int x2), some (.int y0)] [] _ _ from ?_))
  · replace h := zy_ifp h b11
    exact zy_sub (show zy_le [some (.ref (0 + 3)), some (.int x1), some (.int x2), some (.int y0)] [some (.ref (0 + 3)), some (.int x1), some (.int x2), some (.int y0)] from ⟨rfl, ⟨rfl, ⟨rfl, ⟨rfl, trivial⟩⟩⟩⟩) (zyC50_28 h)
  · replace h := zy_ifn h b11
    refine zy_0 rfl rfl (show zyR _ _ _ _ [some (.ref (0 + 3)), some (.int x1), some (.int x2), some (.int y0)] [.ref (0 + 3)] _ _ from ?_)
    refine zy_1r (c := 0) rfl rfl rfl (show zyR _ _ _ _ [some (.ref (0 + 3)), some (.int x1), some (.int x2), some (.int y0)] [.ref (1 + 3)] _ _ from ?_)
    refine zy_3 rfl rfl (show zyR _ _ _ _ [some (.ref (0 + 3)), some (.int x1), some (.int x2), some (.int y0)] [.int (0 : Int32), .ref (1 + 3)] _ _ from ?_)
    refine zy_2 rfl rfl (show zyR _ _ _ _ [some (.ref (0 + 3)), some (.int x1), some (.int x2), some (.int y0)] [.int x1, .int (0 : Int32), .ref (1 + 3)] _ _ from ?_)
    obtain ⟨p9, hp9, h⟩ := zy_bind h
    refine zy_5 (c := 1) (as := [.int (0 : Int32), .int x1]) (rest := []) (L := [some (.ref (1 + 3)), some (.int (0 : Int32)), some (.int x1)]) (d' := 2) rfl rfl rfl (Nat.le_of_ble_eq_true rfl) (Nat.le_of_ble_eq_true rfl) rfl (Nat.le_of_ble_eq_true rfl) rfl rfl (zyC25 hp9) ?_
    show zyR _ _ _ _ [some (.ref (0 + 3)), some (.int x1), some (.int x2), some (.int y0)] [.int p9.1] _ _
    refine zy_24_0 rfl (fun b10 => (show zyR _ _ _ _ [some (.ref (0 + 3)), some (.int x1), some (.int x2), some (.int y0)] [] _ _ from ?_)) (fun b10 => (show zyR _ _ _ _ [some (.ref (0 + 3)), some (.int x1), some (.int x2), some (.int y0)] [] _ _ from ?_))
    · replace h := zy_ifp h b10
      refine zy_3 rfl rfl (show zyR _ _ _ _ [some (.ref (0 + 3)), some (.int x1), some (.int x2), some (.int y0)] [.int (-1 : Int32)] _ _ from ?_)
      obtain ⟨rfl, rfl⟩ := zy_pi h
      exact zy_4 rfl ⟨rfl, rfl⟩
    · replace h := zy_ifn h b10
      exact zy_sub (show zy_le [some (.ref (0 + 3)), some (.int x1), some (.int x2), some (.int y0)] [some (.ref (0 + 3)), some (.int x1), some (.int x2), some (.int y0)] from ⟨rfl, ⟨rfl, ⟨rfl, ⟨rfl, trivial⟩⟩⟩⟩) (zyC50_28 h)
noncomputable def zyF50   (x1 : Int32) (x2 : Int32) (s : zy_S) : Option (Int32 × zy_S) :=
if x1 ≠ (8 : Int32) then
zyF50_11 x1 x2 (0 : Int32) s
else
zyF50_11 x1 x2 (1 : Int32) s
theorem zyC50 {X : zx_X}     {x1 : Int32} {x2 : Int32} {s : zy_S} {r : Int32} {s' : zy_S}  (h : zyF50 x1 x2 s = some (r, s')) : zyR X 7 50 0 [some (.ref (0 + 3)), some (.int x1), some (.int x2), none] [] s (zyE (some (.int r)) s') := by
  unfold zyF50 at h
  refine zy_2 rfl rfl (show zyR _ _ _ _ [some (.ref (0 + 3)), some (.int x1), some (.int x2), none] [.int x1] _ _ from ?_)
  refine zy_3 rfl rfl (show zyR _ _ _ _ [some (.ref (0 + 3)), some (.int x1), some (.int x2), none] [.int (8 : Int32), .int x1] _ _ from ?_)
  refine zy_25_1 rfl (fun b12 => (show zyR _ _ _ _ [some (.ref (0 + 3)), some (.int x1), some (.int x2), none] [] _ _ from ?_)) (fun b12 => (show zyR _ _ _ _ [some (.ref (0 + 3)), some (.int x1), some (.int x2), none] [] _ _ from ?_))
  · replace h := zy_ifp h b12
    refine zy_3 rfl rfl (show zyR _ _ _ _ [some (.ref (0 + 3)), some (.int x1), some (.int x2), none] [.int (0 : Int32)] _ _ from ?_)
    exact zy_sub (show zy_le [some (.ref (0 + 3)), some (.int x1), some (.int x2), none] [some (.ref (0 + 3)), some (.int x1), some (.int x2), none] from ⟨rfl, ⟨rfl, ⟨rfl, trivial⟩⟩⟩) (zyC50_11 h)
  · replace h := zy_ifn h b12
    refine zy_3 rfl rfl (show zyR _ _ _ _ [some (.ref (0 + 3)), some (.int x1), some (.int x2), none] [.int (1 : Int32)] _ _ from ?_)
    refine zy_6 rfl (show zyR _ _ _ _ [some (.ref (0 + 3)), some (.int x1), some (.int x2), none] [.int (1 : Int32)] _ _ from ?_)
    exact zy_sub (show zy_le [some (.ref (0 + 3)), some (.int x1), some (.int x2), none] [some (.ref (0 + 3)), some (.int x1), some (.int x2), none] from ⟨rfl, ⟨rfl, ⟨rfl, trivial⟩⟩⟩) (zyC50_11 h)
/-! NineOpinionsModel.begins()V -/
noncomputable def zyF203_2b  (k2 : Int32 → zy_S → Option (Int32 × zy_S)) (x1 : Int32) (s : zy_S) : Option (Int32 × zy_S) :=
if (24 : Int32) ≤ x1 then
some ((0 : Int32), s)
else
if zy_in ((16 : Int32) + x1) 41 then
if zy_in x1 24 then
k2 (x1 + (1 : Int32)) (zy_up s 51 (x1).toNatClampNeg (s.1 44 (((16 : Int32) + x1)).toNatClampNeg))
else none
else none
theorem zyC203_2b {X : zx_X}  {k2 : Int32 → zy_S → Option (Int32 × zy_S)}  (hk2 : ∀ (x1 : Int32) (s : zy_S) (r : Int32) (s' : zy_S), k2 x1 s = some (r, s') → zyR X 1 203 2 [some (.ref (43 + 3)), some (.int x1)] [] s (zyE none s')) {x1 : Int32} {s : zy_S} {r : Int32} {s' : zy_S}  (h : zyF203_2b k2 x1 s = some (r, s')) : zyR X 1 203 2 [some (.ref (43 + 3)), some (.int x1)] [] s (zyE none s') := by
  unfold zyF203_2b at h
  refine zy_2 rfl rfl (show zyR _ _ _ _ [some (.ref (43 + 3)), some (.int x1)] [.int x1] _ _ from ?_)
  refine zy_3 rfl rfl (show zyR _ _ _ _ [some (.ref (43 + 3)), some (.int x1)] [.int (24 : Int32), .int x1] _ _ from ?_)
  refine zy_25_3 rfl (fun b3 => (show zyR _ _ _ _ [some (.ref (43 + 3)), some (.int x1)] [] _ _ from ?_)) (fun b3 => (show zyR _ _ _ _ [some (.ref (43 + 3)), some (.int x1)] [] _ _ from ?_))
  · replace h := zy_ifp h b3
    cases h
    exact zy_66 rfl ⟨rfl, rfl⟩
  · replace h := zy_ifn h b3
    refine zy_0 rfl rfl (show zyR _ _ _ _ [some (.ref (43 + 3)), some (.int x1)] [.ref (43 + 3)] _ _ from ?_)
    refine zy_1r (c := 43) rfl rfl rfl (show zyR _ _ _ _ [some (.ref (43 + 3)), some (.int x1)] [.ref (51 + 3)] _ _ from ?_)
    refine zy_2 rfl rfl (show zyR _ _ _ _ [some (.ref (43 + 3)), some (.int x1)] [.int x1, .ref (51 + 3)] _ _ from ?_)
    refine zy_0 rfl rfl (show zyR _ _ _ _ [some (.ref (43 + 3)), some (.int x1)] [.ref (43 + 3), .int x1, .ref (51 + 3)] _ _ from ?_)
    refine zy_1r (c := 43) rfl rfl rfl (show zyR _ _ _ _ [some (.ref (43 + 3)), some (.int x1)] [.ref (44 + 3), .int x1, .ref (51 + 3)] _ _ from ?_)
    refine zy_3 rfl rfl (show zyR _ _ _ _ [some (.ref (43 + 3)), some (.int x1)] [.int (16 : Int32), .ref (44 + 3), .int x1, .ref (51 + 3)] _ _ from ?_)
    refine zy_2 rfl rfl (show zyR _ _ _ _ [some (.ref (43 + 3)), some (.int x1)] [.int x1, .int (16 : Int32), .ref (44 + 3), .int x1, .ref (51 + 3)] _ _ from ?_)
    refine zy_10 rfl (show zyR _ _ _ _ [some (.ref (43 + 3)), some (.int x1)] [.int ((16 : Int32) + x1), .ref (44 + 3), .int x1, .ref (51 + 3)] _ _ from ?_)
    obtain ⟨c1, h⟩ := zy_if h
    refine zy_26 (c := 44) rfl rfl c1 (show zyR _ _ _ _ [some (.ref (43 + 3)), some (.int x1)] [.int (s.1 44 (((16 : Int32) + x1)).toNatClampNeg), .int x1, .ref (51 + 3)] _ _ from ?_)
    obtain ⟨c2, h⟩ := zy_if h
    refine zy_27 (c := 51) rfl rfl c2 (show zyR _ _ _ _ [some (.ref (43 + 3)), some (.int x1)] [] _ _ from ?_)
    refine zy_22 rfl rfl rfl rfl (show zyR _ _ _ _ [some (.ref (43 + 3)), some (.int (x1 + (1 : Int32)))] [] _ _ from ?_)
    refine zy_6 rfl (show zyR _ _ _ _ [some (.ref (43 + 3)), some (.int (x1 + (1 : Int32)))] [] _ _ from ?_)
    exact zy_sub (show zy_le [some (.ref (43 + 3)), some (.int (x1 + (1 : Int32)))] [some (.ref (43 + 3)), some (.int (x1 + (1 : Int32)))] from ⟨rfl, ⟨rfl, trivial⟩⟩) (hk2 (x1 + (1 : Int32)) (zy_up s 51 (x1).toNatClampNeg (s.1 44 (((16 : Int32) + x1)).toNatClampNeg)) _ _ h)
noncomputable def zyF203_2   (n : Nat) : Int32 → zy_S → Option (Int32 × zy_S) := Nat.rec (fun _ _ => none) (fun _ k2 => zyF203_2b k2) n
theorem zyC203_2 {X : zx_X}     : ∀ (n : Nat) (x1 : Int32) (s : zy_S) (r : Int32) (s' : zy_S), zyF203_2 n x1 s = some (r, s') → zyR X 1 203 2 [some (.ref (43 + 3)), some (.int x1)] [] s (zyE none s')
  | 0, _ => by
    intro s r s'  h
    have h : (none : Option (Int32 × zy_S)) = some (r, s') := h
    cases h
  | n + 1, x1 => by
    intro s r s'  h
    exact zyC203_2b (k2 := zyF203_2 n) (fun x1 s r s'  h => zyC203_2  n x1 s r s'  h) h
noncomputable def zyF203    (s : zy_S) : Option (Int32 × zy_S) :=
zyF203_2 zy_fu (0 : Int32) s
theorem zyC203 {X : zx_X}      {s : zy_S} {r : Int32} {s' : zy_S}  (h : zyF203 s = some (r, s')) : zyR X 1 203 0 [some (.ref (43 + 3)), none] [] s (zyE none s') := by
  unfold zyF203 at h
  refine zy_3 rfl rfl (show zyR _ _ _ _ [some (.ref (43 + 3)), none] [.int (0 : Int32)] _ _ from ?_)
  refine zy_23 rfl rfl (show zyR _ _ _ _ [some (.ref (43 + 3)), some (.int (0 : Int32))] [] _ _ from ?_)
  exact zy_sub (show zy_le [some (.ref (43 + 3)), some (.int (0 : Int32))] [some (.ref (43 + 3)), some (.int (0 : Int32))] from ⟨rfl, ⟨rfl, trivial⟩⟩) (zyC203_2 zy_fu (0 : Int32) s _ _ h)
/-! NineOpinionsModel.nearest(III)I -/
noncomputable def zyF207_64  (k8 : Int32 → Int32 → Int32 → Int32 → Int32 → Int32 → zy_S → Option (Int32 × zy_S)) (x0 : Int32) (x1 : Int32) (x2 : Int32) (x3 : Int32) (x4 : Int32) (x5 : Int32) (s : zy_S) : Option (Int32 × zy_S) :=
k8 x0 x1 x2 x3 x4 (x5 + (1 : Int32)) s
theorem zyC207_64 {X : zx_X}  {k8 : Int32 → Int32 → Int32 → Int32 → Int32 → Int32 → zy_S → Option (Int32 × zy_S)}  (hk8 : ∀ (x0 : Int32) (x1 : Int32) (x2 : Int32) (x3 : Int32) (x4 : Int32) (x5 : Int32) (s : zy_S) (r : Int32) (s' : zy_S), k8 x0 x1 x2 x3 x4 x5 s = some (r, s') → zyR X 2 207 8 [some (.int x0), some (.int x1), some (.int x2), some (.int x3), some (.int x4), some (.int x5), none] [] s (zyE (some (.int r)) s')) {x0 : Int32} {x1 : Int32} {x2 : Int32} {x3 : Int32} {x4 : Int32} {x5 : Int32} {s : zy_S} {r : Int32} {s' : zy_S}  (h : zyF207_64 k8 x0 x1 x2 x3 x4 x5 s = some (r, s')) : zyR X 2 207 64 [some (.int x0), some (.int x1), some (.int x2), some (.int x3), some (.int x4), some (.int x5), none] [] s (zyE (some (.int r)) s') := by
  unfold zyF207_64 at h
  refine zy_22 rfl rfl rfl rfl (show zyR _ _ _ _ [some (.int x0), some (.int x1), some (.int x2), some (.int x3), some (.int x4), some (.int (x5 + (1 : Int32))), none] [] _ _ from ?_)
  refine zy_6 rfl (show zyR _ _ _ _ [some (.int x0), some (.int x1), some (.int x2), some (.int x3), some (.int x4), some (.int (x5 + (1 : Int32))), none] [] _ _ from ?_)
  exact zy_sub (show zy_le [some (.int x0), some (.int x1), some (.int x2), some (.int x3), some (.int x4), some (.int (x5 + (1 : Int32))), none] [some (.int x0), some (.int x1), some (.int x2), some (.int x3), some (.int x4), some (.int (x5 + (1 : Int32))), none] from ⟨rfl, ⟨rfl, ⟨rfl, ⟨rfl, ⟨rfl, ⟨rfl, trivial⟩⟩⟩⟩⟩⟩) (hk8 x0 x1 x2 x3 x4 (x5 + (1 : Int32)) s _ _ h)
noncomputable def zyF207_31  (k8 : Int32 → Int32 → Int32 → Int32 → Int32 → Int32 → zy_S → Option (Int32 × zy_S)) (x0 : Int32) (x1 : Int32) (x2 : Int32) (x3 : Int32) (x4 : Int32) (x5 : Int32) (y0 : Int32) (s : zy_S) : Option (Int32 × zy_S) :=
(zyF208 x0 (((4 : Int32) * x1) + x5) s).bind fun p1 =>
if p1.1 = 0 then
zyF207_64 k8 x0 x1 x2 x3 x4 x5 p1.2
else
if x4 ≤ y0 then
zyF207_64 k8 x0 x1 x2 x3 x4 x5 p1.2
else
zyF207_64 k8 x0 x1 x2 (((4 : Int32) * x1) + x5) y0 x5 p1.2
theorem zyC207_31 {X : zx_X}  {k8 : Int32 → Int32 → Int32 → Int32 → Int32 → Int32 → zy_S → Option (Int32 × zy_S)}  (hk8 : ∀ (x0 : Int32) (x1 : Int32) (x2 : Int32) (x3 : Int32) (x4 : Int32) (x5 : Int32) (s : zy_S) (r : Int32) (s' : zy_S), k8 x0 x1 x2 x3 x4 x5 s = some (r, s') → zyR X 2 207 8 [some (.int x0), some (.int x1), some (.int x2), some (.int x3), some (.int x4), some (.int x5), none] [] s (zyE (some (.int r)) s')) {x0 : Int32} {x1 : Int32} {x2 : Int32} {x3 : Int32} {x4 : Int32} {x5 : Int32} {y0 : Int32} {s : zy_S} {r : Int32} {s' : zy_S}  (h : zyF207_31 k8 x0 x1 x2 x3 x4 x5 y0 s = some (r, s')) : zyR X 2 207 31 [some (.int x0), some (.int x1), some (.int x2), some (.int x3), some (.int x4), some (.int x5), none] [.int y0] s (zyE (some (.int r)) s') := by
  unfold zyF207_31 at h
  refine zy_23 rfl rfl (show zyR _ _ _ _ [some (.int x0), some (.int x1), some (.int x2), some (.int x3), some (.int x4), some (.int x5), some (.int y0)] [] _ _ from ?_)
  refine zy_2 rfl rfl (show zyR _ _ _ _ [some (.int x0), some (.int x1), some (.int x2), some (.int x3), some (.int x4), some (.int x5), some (.int y0)] [.int x0] _ _ from ?_)
  refine zy_3 rfl rfl (show zyR _ _ _ _ [some (.int x0), some (.int x1), some (.int x2), some (.int x3), some (.int x4), some (.int x5), some (.int y0)] [.int (4 : Int32), .int x0] _ _ from ?_)
  refine zy_2 rfl rfl (show zyR _ _ _ _ [some (.int x0), some (.int x1), some (.int x2), some (.int x3), some (.int x4), some (.int x5), some (.int y0)] [.int x1, .int (4 : Int32), .int x0] _ _ from ?_)
  refine zy_12 rfl (show zyR _ _ _ _ [some (.int x0), some (.int x1), some (.int x2), some (.int x3), some (.int x4), some (.int x5), some (.int y0)] [.int ((4 : Int32) * x1), .int x0] _ _ from ?_)
  refine zy_2 rfl rfl (show zyR _ _ _ _ [some (.int x0), some (.int x1), some (.int x2), some (.int x3), some (.int x4), some (.int x5), some (.int y0)] [.int x5, .int ((4 : Int32) * x1), .int x0] _ _ from ?_)
  refine zy_10 rfl (show zyR _ _ _ _ [some (.int x0), some (.int x1), some (.int x2), some (.int x3), some (.int x4), some (.int x5), some (.int y0)] [.int (((4 : Int32) * x1) + x5), .int x0] _ _ from ?_)
  obtain ⟨p1, hp1, h⟩ := zy_bind h
  refine zy_60 (as := [.int x0, .int (((4 : Int32) * x1) + x5)]) (rest := []) (L := [some (.int x0), some (.int (((4 : Int32) * x1) + x5))]) (d' := 1) rfl rfl (Nat.le_of_ble_eq_true rfl) (Nat.le_of_ble_eq_true rfl) rfl (Nat.le_of_ble_eq_true rfl) rfl rfl (zyC208 hp1) ?_
  show zyR _ _ _ _ [some (.int x0), some (.int x1), some (.int x2), some (.int x3), some (.int x4), some (.int x5), some (.int y0)] [.int p1.1] _ _
  refine zy_24_0 rfl (fun b3 => (show zyR _ _ _ _ [some (.int x0), some (.int x1), some (.int x2), some (.int x3), some (.int x4), some (.int x5), some (.int y0)] [] _ _ from ?_)) (fun b3 => (show zyR _ _ _ _ [some (.int x0), some (.int x1), some (.int x2), some (.int x3), some (.int x4), some (.int x5), some (.int y0)] [] _ _ from ?_))
  · replace h := zy_ifp h b3
    exact zy_sub (show zy_le [some (.int x0), some (.int x1), some (.int x2), some (.int x3), some (.int x4), some (.int x5), none] [some (.int x0), some (.int x1), some (.int x2), some (.int x3), some (.int x4), some (.int x5), some (.int y0)] from ⟨rfl, ⟨rfl, ⟨rfl, ⟨rfl, ⟨rfl, ⟨rfl, trivial⟩⟩⟩⟩⟩⟩) (zyC207_64 hk8 h)
  · replace h := zy_ifn h b3
    refine zy_2 rfl rfl (show zyR _ _ _ _ [some (.int x0), some (.int x1), some (.int x2), some (.int x3), some (.int x4), some (.int x5), some (.int y0)] [.int y0] _ _ from ?_)
    refine zy_2 rfl rfl (show zyR _ _ _ _ [some (.int x0), some (.int x1), some (.int x2), some (.int x3), some (.int x4), some (.int x5), some (.int y0)] [.int x4, .int y0] _ _ from ?_)
    refine zy_25_3 rfl (fun b2 => (show zyR _ _ _ _ [some (.int x0), some (.int x1), some (.int x2), some (.int x3), some (.int x4), some (.int x5), some (.int y0)] [] _ _ from ?_)) (fun b2 => (show zyR _ _ _ _ [some (.int x0), some (.int x1), some (.int x2), some (.int x3), some (.int x4), some (.int x5), some (.int y0)] [] _ _ from ?_))
    · replace h := zy_ifp h b2
      exact zy_sub (show zy_le [some (.int x0), some (.int x1), some (.int x2), some (.int x3), some (.int x4), some (.int x5), none] [some (.int x0), some (.int x1), some (.int x2), some (.int x3), some (.int x4), some (.int x5), some (.int y0)] from ⟨rfl, ⟨rfl, ⟨rfl, ⟨rfl, ⟨rfl, ⟨rfl, trivial⟩⟩⟩⟩⟩⟩) (zyC207_64 hk8 h)
    · replace h := zy_ifn h b2
      refine zy_3 rfl rfl (show zyR _ _ _ _ [some (.int x0), some (.int x1), some (.int x2), some (.int x3), some (.int x4), some (.int x5), some (.int y0)] [.int (4 : Int32)] _ _ from ?_)
      refine zy_2 rfl rfl (show zyR _ _ _ _ [some (.int x0), some (.int x1), some (.int x2), some (.int x3), some (.int x4), some (.int x5), some (.int y0)] [.int x1, .int (4 : Int32)] _ _ from ?_)
      refine zy_12 rfl (show zyR _ _ _ _ [some (.int x0), some (.int x1), some (.int x2), some (.int x3), some (.int x4), some (.int x5), some (.int y0)] [.int ((4 : Int32) * x1)] _ _ from ?_)
      refine zy_2 rfl rfl (show zyR _ _ _ _ [some (.int x0), some (.int x1), some (.int x2), some (.int x3), some (.int x4), some (.int x5), some (.int y0)] [.int x5, .int ((4 : Int32) * x1)] _ _ from ?_)
      refine zy_10 rfl (show zyR _ _ _ _ [some (.int x0), some (.int x1), some (.int x2), some (.int x3), some (.int x4), some (.int x5), some (.int y0)] [.int (((4 : Int32) * x1) + x5)] _ _ from ?_)
      refine zy_23 rfl rfl (show zyR _ _ _ _ [some (.int x0), some (.int x1), some (.int x2), some (.int (((4 : Int32) * x1) + x5)), some (.int x4), some (.int x5), some (.int y0)] [] _ _ from ?_)
      refine zy_2 rfl rfl (show zyR _ _ _ _ [some (.int x0), some (.int x1), some (.int x2), some (.int (((4 : Int32) * x1) + x5)), some (.int x4), some (.int x5), some (.int y0)] [.int y0] _ _ from ?_)
      refine zy_23 rfl rfl (show zyR _ _ _ _ [some (.int x0), some (.int x1), some (.int x2), some (.int (((4 : Int32) * x1) + x5)), some (.int y0), some (.int x5), some (.int y0)] [] _ _ from ?_)
      exact zy_sub (show zy_le [some (.int x0), some (.int x1), some (.int x2), some (.int (((4 : Int32) * x1) + x5)), some (.int y0), some (.int x5), none] [some (.int x0), some (.int x1), some (.int x2), some (.int (((4 : Int32) * x1) + x5)), some (.int y0), some (.int x5), some (.int y0)] from ⟨rfl, ⟨rfl, ⟨rfl, ⟨rfl, ⟨rfl, ⟨rfl, trivial⟩⟩⟩⟩⟩⟩) (zyC207_64 hk8 h)
noncomputable def zyF207_8b  (k8 : Int32 → Int32 → Int32 → Int32 → Int32 → Int32 → zy_S → Option (Int32 × zy_S)) (x0 : Int32) (x1 : Int32) (x2 : Int32) (x3 : Int32) (x4 : Int32) (x5 : Int32) (s : zy_S) : Option (Int32 × zy_S) :=
if (4 : Int32) ≤ x5 then
some (x3, s)
else
if x5 ≤ x2 then
zyF207_31 k8 x0 x1 x2 x3 x4 x5 (x2 - x5) s
else
zyF207_31 k8 x0 x1 x2 x3 x4 x5 (x5 - x2) s
theorem zyC207_8b {X : zx_X}  {k8 : Int32 → Int32 → Int32 → Int32 → Int32 → Int32 → zy_S → Option (Int32 × zy_S)}  (hk8 : ∀ (x0 : Int32) (x1 : Int32) (x2 : Int32) (x3 : Int32) (x4 : Int32) (x5 : Int32) (s : zy_S) (r : Int32) (s' : zy_S), k8 x0 x1 x2 x3 x4 x5 s = some (r, s') → zyR X 2 207 8 [some (.int x0), some (.int x1), some (.int x2), some (.int x3), some (.int x4), some (.int x5), none] [] s (zyE (some (.int r)) s')) {x0 : Int32} {x1 : Int32} {x2 : Int32} {x3 : Int32} {x4 : Int32} {x5 : Int32} {s : zy_S} {r : Int32} {s' : zy_S}  (h : zyF207_8b k8 x0 x1 x2 x3 x4 x5 s = some (r, s')) : zyR X 2 207 8 [some (.int x0), some (.int x1), some (.int x2), some (.int x3), some (.int x4), some (.int x5), none] [] s (zyE (some (.int r)) s') := by
  unfold zyF207_8b at h
  refine zy_2 rfl rfl (show zyR _ _ _ _ [some (.int x0), some (.int x1), some (.int x2), some (.int x3), some (.int x4), some (.int x5), none] [.int x5] _ _ from ?_)
  refine zy_3 rfl rfl (show zyR _ _ _ _ [some (.int x0), some (.int x1), some (.int x2), some (.int x3), some (.int x4), some (.int x5), none] [.int (4 : Int32), .int x5] _ _ from ?_)
  refine zy_25_3 rfl (fun b5 => (show zyR _ _ _ _ [some (.int x0), some (.int x1), some (.int x2), some (.int x3), some (.int x4), some (.int x5), none] [] _ _ from ?_)) (fun b5 => (show zyR _ _ _ _ [some (.int x0), some (.int x1), some (.int x2), some (.int x3), some (.int x4), some (.int x5), none] [] _ _ from ?_))
  · replace h := zy_ifp h b5
    refine zy_2 rfl rfl (show zyR _ _ _ _ [some (.int x0), some (.int x1), some (.int x2), some (.int x3), some (.int x4), some (.int x5), none] [.int x3] _ _ from ?_)
    obtain ⟨rfl, rfl⟩ := zy_pi h
    exact zy_4 rfl ⟨rfl, rfl⟩
  · replace h := zy_ifn h b5
    refine zy_2 rfl rfl (show zyR _ _ _ _ [some (.int x0), some (.int x1), some (.int x2), some (.int x3), some (.int x4), some (.int x5), none] [.int x5] _ _ from ?_)
    refine zy_2 rfl rfl (show zyR _ _ _ _ [some (.int x0), some (.int x1), some (.int x2), some (.int x3), some (.int x4), some (.int x5), none] [.int x2, .int x5] _ _ from ?_)
    refine zy_25_5 rfl (fun b4 => (show zyR _ _ _ _ [some (.int x0), some (.int x1), some (.int x2), some (.int x3), some (.int x4), some (.int x5), none] [] _ _ from ?_)) (fun b4 => (show zyR _ _ _ _ [some (.int x0), some (.int x1), some (.int x2), some (.int x3), some (.int x4), some (.int x5), none] [] _ _ from ?_))
    · replace h := zy_ifp h b4
      refine zy_2 rfl rfl (show zyR _ _ _ _ [some (.int x0), some (.int x1), some (.int x2), some (.int x3), some (.int x4), some (.int x5), none] [.int x2] _ _ from ?_)
      refine zy_2 rfl rfl (show zyR _ _ _ _ [some (.int x0), some (.int x1), some (.int x2), some (.int x3), some (.int x4), some (.int x5), none] [.int x5, .int x2] _ _ from ?_)
      refine zy_11 rfl (show zyR _ _ _ _ [some (.int x0), some (.int x1), some (.int x2), some (.int x3), some (.int x4), some (.int x5), none] [.int (x2 - x5)] _ _ from ?_)
      exact zy_sub (show zy_le [some (.int x0), some (.int x1), some (.int x2), some (.int x3), some (.int x4), some (.int x5), none] [some (.int x0), some (.int x1), some (.int x2), some (.int x3), some (.int x4), some (.int x5), none] from ⟨rfl, ⟨rfl, ⟨rfl, ⟨rfl, ⟨rfl, ⟨rfl, trivial⟩⟩⟩⟩⟩⟩) (zyC207_31 hk8 h)
    · replace h := zy_ifn h b4
      refine zy_2 rfl rfl (show zyR _ _ _ _ [some (.int x0), some (.int x1), some (.int x2), some (.int x3), some (.int x4), some (.int x5), none] [.int x5] _ _ from ?_)
      refine zy_2 rfl rfl (show zyR _ _ _ _ [some (.int x0), some (.int x1), some (.int x2), some (.int x3), some (.int x4), some (.int x5), none] [.int x2, .int x5] _ _ from ?_)
      refine zy_11 rfl (show zyR _ _ _ _ [some (.int x0), some (.int x1), some (.int x2), some (.int x3), some (.int x4), some (.int x5), none] [.int (x5 - x2)] _ _ from ?_)
      refine zy_6 rfl (show zyR _ _ _ _ [some (.int x0), some (.int x1), some (.int x2), some (.int x3), some (.int x4), some (.int x5), none] [.int (x5 - x2)] _ _ from ?_)
      exact zy_sub (show zy_le [some (.int x0), some (.int x1), some (.int x2), some (.int x3), some (.int x4), some (.int x5), none] [some (.int x0), some (.int x1), some (.int x2), some (.int x3), some (.int x4), some (.int x5), none] from ⟨rfl, ⟨rfl, ⟨rfl, ⟨rfl, ⟨rfl, ⟨rfl, trivial⟩⟩⟩⟩⟩⟩) (zyC207_31 hk8 h)
noncomputable def zyF207_8   (n : Nat) : Int32 → Int32 → Int32 → Int32 → Int32 → Int32 → zy_S → Option (Int32 × zy_S) := Nat.rec (fun _ _ _ _ _ _ _ => none) (fun _ k8 => zyF207_8b k8) n
theorem zyC207_8 {X : zx_X}     : ∀ (n : Nat) (x0 : Int32) (x1 : Int32) (x2 : Int32) (x3 : Int32) (x4 : Int32) (x5 : Int32) (s : zy_S) (r : Int32) (s' : zy_S), zyF207_8 n x0 x1 x2 x3 x4 x5 s = some (r, s') → zyR X 2 207 8 [some (.int x0), some (.int x1), some (.int x2), some (.int x3), some (.int x4), some (.int x5), none] [] s (zyE (some (.int r)) s')
  | 0, _, _, _, _, _, _ => by
    intro s r s'  h
    have h : (none : Option (Int32 × zy_S)) = some (r, s') := h
    cases h
  | n + 1, x0, x1, x2, x3, x4, x5 => by
    intro s r s'  h
    exact zyC207_8b (k8 := zyF207_8 n) (fun x0 x1 x2 x3 x4 x5 s r s'  h => zyC207_8  n x0 x1 x2 x3 x4 x5 s r s'  h) h
noncomputable def zyF207   (x0 : Int32) (x1 : Int32) (x2 : Int32) (s : zy_S) : Option (Int32 × zy_S) :=
zyF207_8 zy_fu x0 x1 x2 (-1 : Int32) (4 : Int32) (0 : Int32) s
theorem zyC207 {X : zx_X}     {x0 : Int32} {x1 : Int32} {x2 : Int32} {s : zy_S} {r : Int32} {s' : zy_S}  (h : zyF207 x0 x1 x2 s = some (r, s')) : zyR X 2 207 0 [some (.int x0), some (.int x1), some (.int x2), none, none, none, none] [] s (zyE (some (.int r)) s') := by
  unfold zyF207 at h
  refine zy_3 rfl rfl (show zyR _ _ _ _ [some (.int x0), some (.int x1), some (.int x2), none, none, none, none] [.int (-1 : Int32)] _ _ from ?_)
  refine zy_23 rfl rfl (show zyR _ _ _ _ [some (.int x0), some (.int x1), some (.int x2), some (.int (-1 : Int32)), none, none, none] [] _ _ from ?_)
  refine zy_3 rfl rfl (show zyR _ _ _ _ [some (.int x0), some (.int x1), some (.int x2), some (.int (-1 : Int32)), none, none, none] [.int (4 : Int32)] _ _ from ?_)
  refine zy_23 rfl rfl (show zyR _ _ _ _ [some (.int x0), some (.int x1), some (.int x2), some (.int (-1 : Int32)), some (.int (4 : Int32)), none, none] [] _ _ from ?_)
  refine zy_3 rfl rfl (show zyR _ _ _ _ [some (.int x0), some (.int x1), some (.int x2), some (.int (-1 : Int32)), some (.int (4 : Int32)), none, none] [.int (0 : Int32)] _ _ from ?_)
  refine zy_23 rfl rfl (show zyR _ _ _ _ [some (.int x0), some (.int x1), some (.int x2), some (.int (-1 : Int32)), some (.int (4 : Int32)), some (.int (0 : Int32)), none] [] _ _ from ?_)
  exact zy_sub (show zy_le [some (.int x0), some (.int x1), some (.int x2), some (.int (-1 : Int32)), some (.int (4 : Int32)), some (.int (0 : Int32)), none] [some (.int x0), some (.int x1), some (.int x2), some (.int (-1 : Int32)), some (.int (4 : Int32)), some (.int (0 : Int32)), none] from ⟨rfl, ⟨rfl, ⟨rfl, ⟨rfl, ⟨rfl, ⟨rfl, trivial⟩⟩⟩⟩⟩⟩) (zyC207_8 zy_fu x0 x1 x2 (-1 : Int32) (4 : Int32) (0 : Int32) s _ _ h)
