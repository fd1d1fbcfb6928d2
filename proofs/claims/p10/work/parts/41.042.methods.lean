/-! PART 41.42: methods as functions. Made by wip/v4/dcp.py. -/
/-! NineOpinions$Thought.leastOf(II)I -/
noncomputable def zyF81   (x1 : Int32) (x2 : Int32) (s : zy_S) : Option (Int32 × zy_S) :=
if x2 < 0 then
some ((0 : Int32), s)
else
if x2 ≤ (9 : Int32) then
if zy_in (((10 : Int32) * x1) + x2) 70 then
some ((s.1 14 ((((10 : Int32) * x1) + x2)).toNatClampNeg), s)
else none
else
some ((0 : Int32), s)
theorem zyC81 {X : zx_X}     {x1 : Int32} {x2 : Int32} {s : zy_S} {r : Int32} {s' : zy_S}  (h : zyF81 x1 x2 s = some (r, s')) : zyR X 1 81 0 [some (.ref (12 + 3)), some (.int x1), some (.int x2)] [] s (zyE (some (.int r)) s') := by
  unfold zyF81 at h
  refine zy_2 rfl rfl (show zyR _ _ _ _ [some (.ref (12 + 3)), some (.int x1), some (.int x2)] [.int x2] _ _ from ?_)
  refine zy_24_2 rfl (fun b3 => (show zyR _ _ _ _ [some (.ref (12 + 3)), some (.int x1), some (.int x2)] [] _ _ from ?_)) (fun b3 => (show zyR _ _ _ _ [some (.ref (12 + 3)), some (.int x1), some (.int x2)] [] _ _ from ?_))
  · replace h := zy_ifp h b3
    refine zy_3 rfl rfl (show zyR _ _ _ _ [some (.ref (12 + 3)), some (.int x1), some (.int x2)] [.int (0 : Int32)] _ _ from ?_)
    refine zy_6 rfl (show zyR _ _ _ _ [some (.ref (12 + 3)), some (.int x1), some (.int x2)] [.int (0 : Int32)] _ _ from ?_)
    obtain ⟨rfl, rfl⟩ := zy_pi h
    exact zy_4 rfl ⟨rfl, rfl⟩
  · replace h := zy_ifn h b3
    refine zy_2 rfl rfl (show zyR _ _ _ _ [some (.ref (12 + 3)), some (.int x1), some (.int x2)] [.int x2] _ _ from ?_)
    refine zy_3 rfl rfl (show zyR _ _ _ _ [some (.ref (12 + 3)), some (.int x1), some (.int x2)] [.int (9 : Int32), .int x2] _ _ from ?_)
    refine zy_25_5 rfl (fun b2 => (show zyR _ _ _ _ [some (.ref (12 + 3)), some (.int x1), some (.int x2)] [] _ _ from ?_)) (fun b2 => (show zyR _ _ _ _ [some (.ref (12 + 3)), some (.int x1), some (.int x2)] [] _ _ from ?_))
    · replace h := zy_ifp h b2
      refine zy_0 rfl rfl (show zyR _ _ _ _ [some (.ref (12 + 3)), some (.int x1), some (.int x2)] [.ref (12 + 3)] _ _ from ?_)
      refine zy_1r (c := 12) rfl rfl rfl (show zyR _ _ _ _ [some (.ref (12 + 3)), some (.int x1), some (.int x2)] [.ref (14 + 3)] _ _ from ?_)
      refine zy_3 rfl rfl (show zyR _ _ _ _ [some (.ref (12 + 3)), some (.int x1), some (.int x2)] [.int (10 : Int32), .ref (14 + 3)] _ _ from ?_)
      refine zy_2 rfl rfl (show zyR _ _ _ _ [some (.ref (12 + 3)), some (.int x1), some (.int x2)] [.int x1, .int (10 : Int32), .ref (14 + 3)] _ _ from ?_)
      refine zy_12 rfl (show zyR _ _ _ _ [some (.ref (12 + 3)), some (.int x1), some (.int x2)] [.int ((10 : Int32) * x1), .ref (14 + 3)] _ _ from ?_)
      refine zy_2 rfl rfl (show zyR _ _ _ _ [some (.ref (12 + 3)), some (.int x1), some (.int x2)] [.int x2, .int ((10 : Int32) * x1), .ref (14 + 3)] _ _ from ?_)
      refine zy_10 rfl (show zyR _ _ _ _ [some (.ref (12 + 3)), some (.int x1), some (.int x2)] [.int (((10 : Int32) * x1) + x2), .ref (14 + 3)] _ _ from ?_)
      obtain ⟨c1, h⟩ := zy_if h
      refine zy_26 (c := 14) rfl rfl c1 (show zyR _ _ _ _ [some (.ref (12 + 3)), some (.int x1), some (.int x2)] [.int (s.1 14 ((((10 : Int32) * x1) + x2)).toNatClampNeg)] _ _ from ?_)
      obtain ⟨rfl, rfl⟩ := zy_pi h
      exact zy_4 rfl ⟨rfl, rfl⟩
    · replace h := zy_ifn h b2
      refine zy_3 rfl rfl (show zyR _ _ _ _ [some (.ref (12 + 3)), some (.int x1), some (.int x2)] [.int (0 : Int32)] _ _ from ?_)
      refine zy_6 rfl (show zyR _ _ _ _ [some (.ref (12 + 3)), some (.int x1), some (.int x2)] [.int (0 : Int32)] _ _ from ?_)
      obtain ⟨rfl, rfl⟩ := zy_pi h
      exact zy_4 rfl ⟨rfl, rfl⟩
/-! NineOpinions$Thought.leastWith(III)I -/
noncomputable def zyF80   (x1 : Int32) (x2 : Int32) (x3 : Int32) (s : zy_S) : Option (Int32 × zy_S) :=
(zyF56 x1 (x2 <<< (((4 : Int32) * x1) &&& 31)) (s.1 1 3) s).bind fun p1 =>
if zy_in p1.1 1536 then
(zyF63 x2 p1.2).bind fun p3 =>
(zyF81 x1 (x3 - p3.1) p3.2).bind fun p4 =>
some (((p1.2.1 13 (p1.1).toNatClampNeg) + p4.1), p4.2)
else none
theorem zyC80 {X : zx_X}     {x1 : Int32} {x2 : Int32} {x3 : Int32} {s : zy_S} {r : Int32} {s' : zy_S}  (h : zyF80 x1 x2 x3 s = some (r, s')) : zyR X 3 80 0 [some (.ref (12 + 3)), some (.int x1), some (.int x2), some (.int x3), none] [] s (zyE (some (.int r)) s') := by
  unfold zyF80 at h
  refine zy_2 rfl rfl (show zyR _ _ _ _ [some (.ref (12 + 3)), some (.int x1), some (.int x2), some (.int x3), none] [.int x1] _ _ from ?_)
  refine zy_2 rfl rfl (show zyR _ _ _ _ [some (.ref (12 + 3)), some (.int x1), some (.int x2), some (.int x3), none] [.int x2, .int x1] _ _ from ?_)
  refine zy_3 rfl rfl (show zyR _ _ _ _ [some (.ref (12 + 3)), some (.int x1), some (.int x2), some (.int x3), none] [.int (4 : Int32), .int x2, .int x1] _ _ from ?_)
  refine zy_2 rfl rfl (show zyR _ _ _ _ [some (.ref (12 + 3)), some (.int x1), some (.int x2), some (.int x3), none] [.int x1, .int (4 : Int32), .int x2, .int x1] _ _ from ?_)
  refine zy_12 rfl (show zyR _ _ _ _ [some (.ref (12 + 3)), some (.int x1), some (.int x2), some (.int x3), none] [.int ((4 : Int32) * x1), .int x2, .int x1] _ _ from ?_)
  refine zy_16 rfl (show zyR _ _ _ _ [some (.ref (12 + 3)), some (.int x1), some (.int x2), some (.int x3), none] [.int (x2 <<< (((4 : Int32) * x1) &&& 31)), .int x1] _ _ from ?_)
  refine zy_0 rfl rfl (show zyR _ _ _ _ [some (.ref (12 + 3)), some (.int x1), some (.int x2), some (.int x3), none] [.ref (12 + 3), .int (x2 <<< (((4 : Int32) * x1) &&& 31)), .int x1] _ _ from ?_)
  refine zy_1r (c := 12) rfl rfl rfl (show zyR _ _ _ _ [some (.ref (12 + 3)), some (.int x1), some (.int x2), some (.int x3), none] [.ref (1 + 3), .int (x2 <<< (((4 : Int32) * x1) &&& 31)), .int x1] _ _ from ?_)
  refine zy_1 (c := 1) rfl rfl rfl (show zyR _ _ _ _ [some (.ref (12 + 3)), some (.int x1), some (.int x2), some (.int x3), none] [.int (s.1 1 3), .int (x2 <<< (((4 : Int32) * x1) &&& 31)), .int x1] _ _ from ?_)
  obtain ⟨p1, hp1, h⟩ := zy_bind h
  refine zy_60 (as := [.int x1, .int (x2 <<< (((4 : Int32) * x1) &&& 31)), .int (s.1 1 3)]) (rest := []) (L := [some (.int x1), some (.int (x2 <<< (((4 : Int32) * x1) &&& 31))), some (.int (s.1 1 3))]) (d' := 2) rfl rfl (Nat.le_of_ble_eq_true rfl) (Nat.le_of_ble_eq_true rfl) rfl (Nat.le_of_ble_eq_true rfl) rfl rfl (zyC56 hp1) ?_
  show zyR _ _ _ _ [some (.ref (12 + 3)), some (.int x1), some (.int x2), some (.int x3), none] [.int p1.1] _ _
  refine zy_23 rfl rfl (show zyR _ _ _ _ [some (.ref (12 + 3)), some (.int x1), some (.int x2), some (.int x3), some (.int p1.1)] [] _ _ from ?_)
  refine zy_0 rfl rfl (show zyR _ _ _ _ [some (.ref (12 + 3)), some (.int x1), some (.int x2), some (.int x3), some (.int p1.1)] [.ref (12 + 3)] _ _ from ?_)
  refine zy_1r (c := 12) rfl rfl rfl (show zyR _ _ _ _ [some (.ref (12 + 3)), some (.int x1), some (.int x2), some (.int x3), some (.int p1.1)] [.ref (13 + 3)] _ _ from ?_)
  refine zy_2 rfl rfl (show zyR _ _ _ _ [some (.ref (12 + 3)), some (.int x1), some (.int x2), some (.int x3), some (.int p1.1)] [.int p1.1, .ref (13 + 3)] _ _ from ?_)
  obtain ⟨c2, h⟩ := zy_if h
  refine zy_26 (c := 13) rfl rfl c2 (show zyR _ _ _ _ [some (.ref (12 + 3)), some (.int x1), some (.int x2), some (.int x3), some (.int p1.1)] [.int (p1.2.1 13 (p1.1).toNatClampNeg)] _ _ from ?_)
  refine zy_0 rfl rfl (show zyR _ _ _ _ [some (.ref (12 + 3)), some (.int x1), some (.int x2), some (.int x3), some (.int p1.1)] [.ref (12 + 3), .int (p1.2.1 13 (p1.1).toNatClampNeg)] _ _ from ?_)
  refine zy_2 rfl rfl (show zyR _ _ _ _ [some (.ref (12 + 3)), some (.int x1), some (.int x2), some (.int x3), some (.int p1.1)] [.int x1, .ref (12 + 3), .int (p1.2.1 13 (p1.1).toNatClampNeg)] _ _ from ?_)
  refine zy_2 rfl rfl (show zyR _ _ _ _ [some (.ref (12 + 3)), some (.int x1), some (.int x2), some (.int x3), some (.int p1.1)] [.int x3, .int x1, .ref (12 + 3), .int (p1.2.1 13 (p1.1).toNatClampNeg)] _ _ from ?_)
  refine zy_2 rfl rfl (show zyR _ _ _ _ [some (.ref (12 + 3)), some (.int x1), some (.int x2), some (.int x3), some (.int p1.1)] [.int x2, .int x3, .int x1, .ref (12 + 3), .int (p1.2.1 13 (p1.1).toNatClampNeg)] _ _ from ?_)
  obtain ⟨p3, hp3, h⟩ := zy_bind h
  refine zy_60 (as := [.int x2]) (rest := [.int x3, .int x1, .ref (12 + 3), .int (p1.2.1 13 (p1.1).toNatClampNeg)]) (L := [some (.int x2)]) (d' := 1) rfl rfl (Nat.le_of_ble_eq_true rfl) (Nat.le_of_ble_eq_true rfl) rfl (Nat.le_of_ble_eq_true rfl) rfl rfl (zyC63 hp3) ?_
  show zyR _ _ _ _ [some (.ref (12 + 3)), some (.int x1), some (.int x2), some (.int x3), some (.int p1.1)] [.int p3.1, .int x3, .int x1, .ref (12 + 3), .int (p1.2.1 13 (p1.1).toNatClampNeg)] _ _
  refine zy_11 rfl (show zyR _ _ _ _ [some (.ref (12 + 3)), some (.int x1), some (.int x2), some (.int x3), some (.int p1.1)] [.int (x3 - p3.1), .int x1, .ref (12 + 3), .int (p1.2.1 13 (p1.1).toNatClampNeg)] _ _ from ?_)
  obtain ⟨p4, hp4, h⟩ := zy_bind h
  refine zy_5 (c := 12) (as := [.int x1, .int (x3 - p3.1)]) (rest := [.int (p1.2.1 13 (p1.1).toNatClampNeg)]) (L := [some (.ref (12 + 3)), some (.int x1), some (.int (x3 - p3.1))]) (d' := 1) rfl rfl rfl (Nat.le_of_ble_eq_true rfl) (Nat.le_of_ble_eq_true rfl) rfl (Nat.le_of_ble_eq_true rfl) rfl rfl (zyC81 hp4) ?_
  show zyR _ _ _ _ [some (.ref (12 + 3)), some (.int x1), some (.int x2), some (.int x3), some (.int p1.1)] [.int p4.1, .int (p1.2.1 13 (p1.1).toNatClampNeg)] _ _
  refine zy_10 rfl (show zyR _ _ _ _ [some (.ref (12 + 3)), some (.int x1), some (.int x2), some (.int x3), some (.int p1.1)] [.int ((p1.2.1 13 (p1.1).toNatClampNeg) + p4.1)] _ _ from ?_)
  obtain ⟨rfl, rfl⟩ := zy_pi h
  exact zy_4 rfl ⟨rfl, rfl⟩
/-! NineOpinions$Thought.leastViews(II)I -/
noncomputable def zyF79_54  (k5 : Int32 → Int32 → Int32 → Int32 → zy_S → Option (Int32 × zy_S)) (x1 : Int32) (x2 : Int32) (x3 : Int32) (x4 : Int32) (s : zy_S) : Option (Int32 × zy_S) :=
k5 x1 x2 x3 (x4 + (1 : Int32)) s
theorem zyC79_54 {X : zx_X}  {k5 : Int32 → Int32 → Int32 → Int32 → zy_S → Option (Int32 × zy_S)}  (hk5 : ∀ (x1 : Int32) (x2 : Int32) (x3 : Int32) (x4 : Int32) (s : zy_S) (r : Int32) (s' : zy_S), k5 x1 x2 x3 x4 s = some (r, s') → zyR X 4 79 5 [some (.ref (12 + 3)), some (.int x1), some (.int x2), some (.int x3), some (.int x4), none] [] s (zyE (some (.int r)) s')) {x1 : Int32} {x2 : Int32} {x3 : Int32} {x4 : Int32} {s : zy_S} {r : Int32} {s' : zy_S}  (h : zyF79_54 k5 x1 x2 x3 x4 s = some (r, s')) : zyR X 4 79 54 [some (.ref (12 + 3)), some (.int x1), some (.int x2), some (.int x3), some (.int x4), none] [] s (zyE (some (.int r)) s') := by
  unfold zyF79_54 at h
  refine zy_22 rfl rfl rfl rfl (show zyR _ _ _ _ [some (.ref (12 + 3)), some (.int x1), some (.int x2), some (.int x3), some (.int (x4 + (1 : Int32))), none] [] _ _ from ?_)
  refine zy_6 rfl (show zyR _ _ _ _ [some (.ref (12 + 3)), some (.int x1), some (.int x2), some (.int x3), some (.int (x4 + (1 : Int32))), none] [] _ _ from ?_)
  exact zy_sub (show zy_le [some (.ref (12 + 3)), some (.int x1), some (.int x2), some (.int x3), some (.int (x4 + (1 : Int32))), none] [some (.ref (12 + 3)), some (.int x1), some (.int x2), some (.int x3), some (.int (x4 + (1 : Int32))), none] from ⟨rfl, ⟨rfl, ⟨rfl, ⟨rfl, ⟨rfl, trivial⟩⟩⟩⟩⟩) (hk5 x1 x2 x3 (x4 + (1 : Int32)) s _ _ h)
noncomputable def zyF79_26  (k5 : Int32 → Int32 → Int32 → Int32 → zy_S → Option (Int32 × zy_S)) (x1 : Int32) (x2 : Int32) (x3 : Int32) (x4 : Int32) (y0 : Int32) (s : zy_S) : Option (Int32 × zy_S) :=
if y0 = 0 then
zyF79_54 k5 x1 x2 x3 x4 s
else
(zyF80 x1 x4 x2 s).bind fun p1 =>
(zyF80 x1 x3 x2 p1.2).bind fun p2 =>
if p2.1 ≤ p1.1 then
zyF79_54 k5 x1 x2 x3 x4 p2.2
else
zyF79_54 k5 x1 x2 x4 x4 p2.2
theorem zyC79_26 {X : zx_X}  {k5 : Int32 → Int32 → Int32 → Int32 → zy_S → Option (Int32 × zy_S)}  (hk5 : ∀ (x1 : Int32) (x2 : Int32) (x3 : Int32) (x4 : Int32) (s : zy_S) (r : Int32) (s' : zy_S), k5 x1 x2 x3 x4 s = some (r, s') → zyR X 4 79 5 [some (.ref (12 + 3)), some (.int x1), some (.int x2), some (.int x3), some (.int x4), none] [] s (zyE (some (.int r)) s')) {x1 : Int32} {x2 : Int32} {x3 : Int32} {x4 : Int32} {y0 : Int32} {s : zy_S} {r : Int32} {s' : zy_S}  (h : zyF79_26 k5 x1 x2 x3 x4 y0 s = some (r, s')) : zyR X 4 79 26 [some (.ref (12 + 3)), some (.int x1), some (.int x2), some (.int x3), some (.int x4), none] [.int y0] s (zyE (some (.int r)) s') := by
  unfold zyF79_26 at h
  refine zy_23 rfl rfl (show zyR _ _ _ _ [some (.ref (12 + 3)), some (.int x1), some (.int x2), some (.int x3), some (.int x4), some (.int y0)] [] _ _ from ?_)
  refine zy_2 rfl rfl (show zyR _ _ _ _ [some (.ref (12 + 3)), some (.int x1), some (.int x2), some (.int x3), some (.int x4), some (.int y0)] [.int y0] _ _ from ?_)
  refine zy_24_0 rfl (fun b4 => (show zyR _ _ _ _ [some (.ref (12 + 3)), some (.int x1), some (.int x2), some (.int x3), some (.int x4), some (.int y0)] [] _ _ from ?_)) (fun b4 => (show zyR _ _ _ _ [some (.ref (12 + 3)), some (.int x1), some (.int x2), some (.int x3), some (.int x4), some (.int y0)] [] _ _ from ?_))
  · replace h := zy_ifp h b4
    exact zy_sub (show zy_le [some (.ref (12 + 3)), some (.int x1), some (.int x2), some (.int x3), some (.int x4), none] [some (.ref (12 + 3)), some (.int x1), some (.int x2), some (.int x3), some (.int x4), some (.int y0)] from ⟨rfl, ⟨rfl, ⟨rfl, ⟨rfl, ⟨rfl, trivial⟩⟩⟩⟩⟩) (zyC79_54 hk5 h)
  · replace h := zy_ifn h b4
    refine zy_0 rfl rfl (show zyR _ _ _ _ [some (.ref (12 + 3)), some (.int x1), some (.int x2), some (.int x3), some (.int x4), some (.int y0)] [.ref (12 + 3)] _ _ from ?_)
    refine zy_2 rfl rfl (show zyR _ _ _ _ [some (.ref (12 + 3)), some (.int x1), some (.int x2), some (.int x3), some (.int x4), some (.int y0)] [.int x1, .ref (12 + 3)] _ _ from ?_)
    refine zy_2 rfl rfl (show zyR _ _ _ _ [some (.ref (12 + 3)), some (.int x1), some (.int x2), some (.int x3), some (.int x4), some (.int y0)] [.int x4, .int x1, .ref (12 + 3)] _ _ from ?_)
    refine zy_2 rfl rfl (show zyR _ _ _ _ [some (.ref (12 + 3)), some (.int x1), some (.int x2), some (.int x3), some (.int x4), some (.int y0)] [.int x2, .int x4, .int x1, .ref (12 + 3)] _ _ from ?_)
    obtain ⟨p1, hp1, h⟩ := zy_bind h
    refine zy_5 (c := 12) (as := [.int x1, .int x4, .int x2]) (rest := []) (L := [some (.ref (12 + 3)), some (.int x1), some (.int x4), some (.int x2), none]) (d' := 3) rfl rfl rfl (Nat.le_of_ble_eq_true rfl) (Nat.le_of_ble_eq_true rfl) rfl (Nat.le_of_ble_eq_true rfl) rfl rfl (zyC80 hp1) ?_
    show zyR _ _ _ _ [some (.ref (12 + 3)), some (.int x1), some (.int x2), some (.int x3), some (.int x4), some (.int y0)] [.int p1.1] _ _
    refine zy_0 rfl rfl (show zyR _ _ _ _ [some (.ref (12 + 3)), some (.int x1), some (.int x2), some (.int x3), some (.int x4), some (.int y0)] [.ref (12 + 3), .int p1.1] _ _ from ?_)
    refine zy_2 rfl rfl (show zyR _ _ _ _ [some (.ref (12 + 3)), some (.int x1), some (.int x2), some (.int x3), some (.int x4), some (.int y0)] [.int x1, .ref (12 + 3), .int p1.1] _ _ from ?_)
    refine zy_2 rfl rfl (show zyR _ _ _ _ [some (.ref (12 + 3)), some (.int x1), some (.int x2), some (.int x3), some (.int x4), some (.int y0)] [.int x3, .int x1, .ref (12 + 3), .int p1.1] _ _ from ?_)
    refine zy_2 rfl rfl (show zyR _ _ _ _ [some (.ref (12 + 3)), some (.int x1), some (.int x2), some (.int x3), some (.int x4), some (.int y0)] [.int x2, .int x3, .int x1, .ref (12 + 3), .int p1.1] _ _ from ?_)
    obtain ⟨p2, hp2, h⟩ := zy_bind h
    refine zy_5 (c := 12) (as := [.int x1, .int x3, .int x2]) (rest := [.int p1.1]) (L := [some (.ref (12 + 3)), some (.int x1), some (.int x3), some (.int x2), none]) (d' := 3) rfl rfl rfl (Nat.le_of_ble_eq_true rfl) (Nat.le_of_ble_eq_true rfl) rfl (Nat.le_of_ble_eq_true rfl) rfl rfl (zyC80 hp2) ?_
    show zyR _ _ _ _ [some (.ref (12 + 3)), some (.int x1), some (.int x2), some (.int x3), some (.int x4), some (.int y0)] [.int p2.1, .int p1.1] _ _
    refine zy_25_3 rfl (fun b3 => (show zyR _ _ _ _ [some (.ref (12 + 3)), some (.int x1), some (.int x2), some (.int x3), some (.int x4), some (.int y0)] [] _ _ from ?_)) (fun b3 => (show zyR _ _ _ _ [some (.ref (12 + 3)), some (.int x1), some (.int x2), some (.int x3), some (.int x4), some (.int y0)] [] _ _ from ?_))
    · replace h := zy_ifp h b3
      exact zy_sub (show zy_le [some (.ref (12 + 3)), some (.int x1), some (.int x2), some (.int x3), some (.int x4), none] [some (.ref (12 + 3)), some (.int x1), some (.int x2), some (.int x3), some (.int x4), some (.int y0)] from ⟨rfl, ⟨rfl, ⟨rfl, ⟨rfl, ⟨rfl, trivial⟩⟩⟩⟩⟩) (zyC79_54 hk5 h)
    · replace h := zy_ifn h b3
      refine zy_2 rfl rfl (show zyR _ _ _ _ [some (.ref (12 + 3)), some (.int x1), some (.int x2), some (.int x3), some (.int x4), some (.int y0)] [.int x4] _ _ from ?_)
      refine zy_23 rfl rfl (show zyR _ _ _ _ [some (.ref (12 + 3)), some (.int x1), some (.int x2), some (.int x4), some (.int x4), some (.int y0)] [] _ _ from ?_)
      exact zy_sub (show zy_le [some (.ref (12 + 3)), some (.int x1), some (.int x2), some (.int x4), some (.int x4), none] [some (.ref (12 + 3)), some (.int x1), some (.int x2), some (.int x4), some (.int x4), some (.int y0)] from ⟨rfl, ⟨rfl, ⟨rfl, ⟨rfl, ⟨rfl, trivial⟩⟩⟩⟩⟩) (zyC79_54 hk5 h)
noncomputable def zyF79_5b  (k5 : Int32 → Int32 → Int32 → Int32 → zy_S → Option (Int32 × zy_S)) (x1 : Int32) (x2 : Int32) (x3 : Int32) (x4 : Int32) (s : zy_S) : Option (Int32 × zy_S) :=
if (16 : Int32) ≤ x4 then
some (x3, s)
else
(zyF63 x4 s).bind fun p5 =>
if x2 < p5.1 then
zyF79_26 k5 x1 x2 x3 x4 (0 : Int32) p5.2
else
zyF79_26 k5 x1 x2 x3 x4 (1 : Int32) p5.2
theorem zyC79_5b {X : zx_X}  {k5 : Int32 → Int32 → Int32 → Int32 → zy_S → Option (Int32 × zy_S)}  (hk5 : ∀ (x1 : Int32) (x2 : Int32) (x3 : Int32) (x4 : Int32) (s : zy_S) (r : Int32) (s' : zy_S), k5 x1 x2 x3 x4 s = some (r, s') → zyR X 4 79 5 [some (.ref (12 + 3)), some (.int x1), some (.int x2), some (.int x3), some (.int x4), none] [] s (zyE (some (.int r)) s')) {x1 : Int32} {x2 : Int32} {x3 : Int32} {x4 : Int32} {s : zy_S} {r : Int32} {s' : zy_S}  (h : zyF79_5b k5 x1 x2 x3 x4 s = some (r, s')) : zyR X 4 79 5 [some (.ref (12 + 3)), some (.int x1), some (.int x2), some (.int x3), some (.int x4), none] [] s (zyE (some (.int r)) s') := by
  unfold zyF79_5b at h
  refine zy_2 rfl rfl (show zyR _ _ _ _ [some (.ref (12 + 3)), some (.int x1), some (.int x2), some (.int x3), some (.int x4), none] [.int x4] _ _ from ?_)
  refine zy_3 rfl rfl (show zyR _ _ _ _ [some (.ref (12 + 3)), some (.int x1), some (.int x2), some (.int x3), some (.int x4), none] [.int (16 : Int32), .int x4] _ _ from ?_)
  refine zy_25_3 rfl (fun b7 => (show zyR _ _ _ _ [some (.ref (12 + 3)), some (.int x1), some (.int x2), some (.int x3), some (.int x4), none] [] _ _ from ?_)) (fun b7 => (show zyR _ _ _ _ [some (.ref (12 + 3)), some (.int x1), some (.int x2), some (.int x3), some (.int x4), none] [] _ _ from ?_))
  · replace h := zy_ifp h b7
    refine zy_2 rfl rfl (show zyR _ _ _ _ [some (.ref (12 + 3)), some (.int x1), some (.int x2), some (.int x3), some (.int x4), none] [.int x3] _ _ from ?_)
    obtain ⟨rfl, rfl⟩ := zy_pi h
    exact zy_4 rfl ⟨rfl, rfl⟩
  · replace h := zy_ifn h b7
    refine zy_2 rfl rfl (show zyR _ _ _ _ [some (.ref (12 + 3)), some (.int x1), some (.int x2), some (.int x3), some (.int x4), none] [.int x4] _ _ from ?_)
    obtain ⟨p5, hp5, h⟩ := zy_bind h
    refine zy_60 (as := [.int x4]) (rest := []) (L := [some (.int x4)]) (d' := 1) rfl rfl (Nat.le_of_ble_eq_true rfl) (Nat.le_of_ble_eq_true rfl) rfl (Nat.le_of_ble_eq_true rfl) rfl rfl (zyC63 hp5) ?_
    show zyR _ _ _ _ [some (.ref (12 + 3)), some (.int x1), some (.int x2), some (.int x3), some (.int x4), none] [.int p5.1] _ _
    refine zy_2 rfl rfl (show zyR _ _ _ _ [some (.ref (12 + 3)), some (.int x1), some (.int x2), some (.int x3), some (.int x4), none] [.int x2, .int p5.1] _ _ from ?_)
    refine zy_25_4 rfl (fun b6 => (show zyR _ _ _ _ [some (.ref (12 + 3)), some (.int x1), some (.int x2), some (.int x3), some (.int x4), none] [] _ _ from ?_)) (fun b6 => (show zyR _ _ _ _ [some (.ref (12 + 3)), some (.int x1), some (.int x2), some (.int x3), some (.int x4), none] [] _ _ from ?_))
    · replace h := zy_ifp h b6
      refine zy_3 rfl rfl (show zyR _ _ _ _ [some (.ref (12 + 3)), some (.int x1), some (.int x2), some (.int x3), some (.int x4), none] [.int (0 : Int32)] _ _ from ?_)
      exact zy_sub (show zy_le [some (.ref (12 + 3)), some (.int x1), some (.int x2), some (.int x3), some (.int x4), none] [some (.ref (12 + 3)), some (.int x1), some (.int x2), some (.int x3), some (.int x4), none] from ⟨rfl, ⟨rfl, ⟨rfl, ⟨rfl, ⟨rfl, trivial⟩⟩⟩⟩⟩) (zyC79_26 hk5 h)
    · replace h := zy_ifn h b6
      refine zy_3 rfl rfl (show zyR _ _ _ _ [some (.ref (12 + 3)), some (.int x1), some (.int x2), some (.int x3), some (.int x4), none] [.int (1 : Int32)] _ _ from ?_)
      refine zy_6 rfl (show zyR _ _ _ _ [some (.ref (12 + 3)), some (.int x1), some (.int x2), some (.int x3), some (.int x4), none] [.int (1 : Int32)] _ _ from ?_)
      exact zy_sub (show zy_le [some (.ref (12 + 3)), some (.int x1), some (.int x2), some (.int x3), some (.int x4), none] [some (.ref (12 + 3)), some (.int x1), some (.int x2), some (.int x3), some (.int x4), none] from ⟨rfl, ⟨rfl, ⟨rfl, ⟨rfl, ⟨rfl, trivial⟩⟩⟩⟩⟩) (zyC79_26 hk5 h)
noncomputable def zyF79_5   (n : Nat) : Int32 → Int32 → Int32 → Int32 → zy_S → Option (Int32 × zy_S) := Nat.rec (fun _ _ _ _ _ => none) (fun _ k5 => zyF79_5b k5) n
theorem zyC79_5 {X : zx_X}     : ∀ (n : Nat) (x1 : Int32) (x2 : Int32) (x3 : Int32) (x4 : Int32) (s : zy_S) (r : Int32) (s' : zy_S), zyF79_5 n x1 x2 x3 x4 s = some (r, s') → zyR X 4 79 5 [some (.ref (12 + 3)), some (.int x1), some (.int x2), some (.int x3), some (.int x4), none] [] s (zyE (some (.int r)) s')
  | 0, _, _, _, _ => by
    intro s r s'  h
    have h : (none : Option (Int32 × zy_S)) = some (r, s') := h
    cases h
  | n + 1, x1, x2, x3, x4 => by
    intro s r s'  h
    exact zyC79_5b (k5 := zyF79_5 n) (fun x1 x2 x3 x4 s r s'  h => zyC79_5  n x1 x2 x3 x4 s r s'  h) h
noncomputable def zyF79   (x1 : Int32) (x2 : Int32) (s : zy_S) : Option (Int32 × zy_S) :=
zyF79_5 zy_fu x1 x2 (0 : Int32) (1 : Int32) s
theorem zyC79 {X : zx_X}     {x1 : Int32} {x2 : Int32} {s : zy_S} {r : Int32} {s' : zy_S}  (h : zyF79 x1 x2 s = some (r, s')) : zyR X 4 79 0 [some (.ref (12 + 3)), some (.int x1), some (.int x2), none, none, none] [] s (zyE (some (.int r)) s') := by
  unfold zyF79 at h
  refine zy_3 rfl rfl (show zyR _ _ _ _ [some (.ref (12 + 3)), some (.int x1), some (.int x2), none, none, none] [.int (0 : Int32)] _ _ from ?_)
  refine zy_23 rfl rfl (show zyR _ _ _ _ [some (.ref (12 + 3)), some (.int x1), some (.int x2), some (.int (0 : Int32)), none, none] [] _ _ from ?_)
  refine zy_3 rfl rfl (show zyR _ _ _ _ [some (.ref (12 + 3)), some (.int x1), some (.int x2), some (.int (0 : Int32)), none, none] [.int (1 : Int32)] _ _ from ?_)
  refine zy_23 rfl rfl (show zyR _ _ _ _ [some (.ref (12 + 3)), some (.int x1), some (.int x2), some (.int (0 : Int32)), some (.int (1 : Int32)), none] [] _ _ from ?_)
  exact zy_sub (show zy_le [some (.ref (12 + 3)), some (.int x1), some (.int x2), some (.int (0 : Int32)), some (.int (1 : Int32)), none] [some (.ref (12 + 3)), some (.int x1), some (.int x2), some (.int (0 : Int32)), some (.int (1 : Int32)), none] from ⟨rfl, ⟨rfl, ⟨rfl, ⟨rfl, ⟨rfl, trivial⟩⟩⟩⟩⟩) (zyC79_5 zy_fu x1 x2 (0 : Int32) (1 : Int32) s _ _ h)
/-! NineOpinions$Thought.sumUpLeast()V -/
noncomputable def zyF78_31b  (k23 : Int32 → zy_S → Option (Int32 × zy_S)) (k31 : Int32 → Int32 → zy_S → Option (Int32 × zy_S)) (x1 : Int32) (x2 : Int32) (s : zy_S) : Option (Int32 × zy_S) :=
if (9 : Int32) < x2 then
k23 (x1 + (1 : Int32)) s
else
(zyF79 x1 x2 s).bind fun p1 =>
(zyF80 x1 p1.1 x2 p1.2).bind fun p2 =>
if zy_in (((10 : Int32) * (x1 + (1 : Int32))) + x2) 70 then
k31 x1 (x2 + (1 : Int32)) (zy_up p2.2 14 ((((10 : Int32) * (x1 + (1 : Int32))) + x2)).toNatClampNeg p2.1)
else none
theorem zyC78_31b {X : zx_X}  {k23 : Int32 → zy_S → Option (Int32 × zy_S)} {k31 : Int32 → Int32 → zy_S → Option (Int32 × zy_S)}  (hk23 : ∀ (x1 : Int32) (s : zy_S) (r : Int32) (s' : zy_S), k23 x1 s = some (r, s') → zyR X 5 78 23 [some (.ref (12 + 3)), some (.int x1), none] [] s (zyE none s')) (hk31 : ∀ (x1 : Int32) (x2 : Int32) (s : zy_S) (r : Int32) (s' : zy_S), k31 x1 x2 s = some (r, s') → zyR X 5 78 31 [some (.ref (12 + 3)), some (.int x1), some (.int x2)] [] s (zyE none s')) {x1 : Int32} {x2 : Int32} {s : zy_S} {r : Int32} {s' : zy_S}  (h : zyF78_31b k23 k31 x1 x2 s = some (r, s')) : zyR X 5 78 31 [some (.ref (12 + 3)), some (.int x1), some (.int x2)] [] s (zyE none s') := by
  unfold zyF78_31b at h
  refine zy_2 rfl rfl (show zyR _ _ _ _ [some (.ref (12 + 3)), some (.int x1), some (.int x2)] [.int x2] _ _ from ?_)
  refine zy_3 rfl rfl (show zyR _ _ _ _ [some (.ref (12 + 3)), some (.int x1), some (.int x2)] [.int (9 : Int32), .int x2] _ _ from ?_)
  refine zy_25_4 rfl (fun b4 => (show zyR _ _ _ _ [some (.ref (12 + 3)), some (.int x1), some (.int x2)] [] _ _ from ?_)) (fun b4 => (show zyR _ _ _ _ [some (.ref (12 + 3)), some (.int x1), some (.int x2)] [] _ _ from ?_))
  · replace h := zy_ifp h b4
    refine zy_22 rfl rfl rfl rfl (show zyR _ _ _ _ [some (.ref (12 + 3)), some (.int (x1 + (1 : Int32))), some (.int x2)] [] _ _ from ?_)
    refine zy_6 rfl (show zyR _ _ _ _ [some (.ref (12 + 3)), some (.int (x1 + (1 : Int32))), some (.int x2)] [] _ _ from ?_)
    exact zy_sub (show zy_le [some (.ref (12 + 3)), some (.int (x1 + (1 : Int32))), none] [some (.ref (12 + 3)), some (.int (x1 + (1 : Int32))), some (.int x2)] from ⟨rfl, ⟨rfl, trivial⟩⟩) (hk23 (x1 + (1 : Int32)) s _ _ h)
  · replace h := zy_ifn h b4
    refine zy_0 rfl rfl (show zyR _ _ _ _ [some (.ref (12 + 3)), some (.int x1), some (.int x2)] [.ref (12 + 3)] _ _ from ?_)
    refine zy_1r (c := 12) rfl rfl rfl (show zyR _ _ _ _ [some (.ref (12 + 3)), some (.int x1), some (.int x2)] [.ref (14 + 3)] _ _ from ?_)
    refine zy_3 rfl rfl (show zyR _ _ _ _ [some (.ref (12 + 3)), some (.int x1), some (.int x2)] [.int (10 : Int32), .ref (14 + 3)] _ _ from ?_)
    refine zy_2 rfl rfl (show zyR _ _ _ _ [some (.ref (12 + 3)), some (.int x1), some (.int x2)] [.int x1, .int (10 : Int32), .ref (14 + 3)] _ _ from ?_)
    refine zy_3 rfl rfl (show zyR _ _ _ _ [some (.ref (12 + 3)), some (.int x1), some (.int x2)] [.int (1 : Int32), .int x1, .int (10 : Int32), .ref (14 + 3)] _ _ from ?_)
    refine zy_10 rfl (show zyR _ _ _ _ [some (.ref (12 + 3)), some (.int x1), some (.int x2)] [.int (x1 + (1 : Int32)), .int (10 : Int32), .ref (14 + 3)] _ _ from ?_)
    refine zy_12 rfl (show zyR _ _ _ _ [some (.ref (12 + 3)), some (.int x1), some (.int x2)] [.int ((10 : Int32) * (x1 + (1 : Int32))), .ref (14 + 3)] _ _ from ?_)
    refine zy_2 rfl rfl (show zyR _ _ _ _ [some (.ref (12 + 3)), some (.int x1), some (.int x2)] [.int x2, .int ((10 : Int32) * (x1 + (1 : Int32))), .ref (14 + 3)] _ _ from ?_)
    refine zy_10 rfl (show zyR _ _ _ _ [some (.ref (12 + 3)), some (.int x1), some (.int x2)] [.int (((10 : Int32) * (x1 + (1 : Int32))) + x2), .ref (14 + 3)] _ _ from ?_)
    refine zy_0 rfl rfl (show zyR _ _ _ _ [some (.ref (12 + 3)), some (.int x1), some (.int x2)] [.ref (12 + 3), .int (((10 : Int32) * (x1 + (1 : Int32))) + x2), .ref (14 + 3)] _ _ from ?_)
    refine zy_2 rfl rfl (show zyR _ _ _ _ [some (.ref (12 + 3)), some (.int x1), some (.int x2)] [.int x1, .ref (12 + 3), .int (((10 : Int32) * (x1 + (1 : Int32))) + x2), .ref (14 + 3)] _ _ from ?_)
    refine zy_0 rfl rfl (show zyR _ _ _ _ [some (.ref (12 + 3)), some (.int x1), some (.int x2)] [.ref (12 + 3), .int x1, .ref (12 + 3), .int (((10 : Int32) * (x1 + (1 : Int32))) + x2), .ref (14 + 3)] _ _ from ?_)
    refine zy_2 rfl rfl (show zyR _ _ _ _ [some (.ref (12 + 3)), some (.int x1), some (.int x2)] [.int x1, .ref (12 + 3), .int x1, .ref (12 + 3), .int (((10 : Int32) * (x1 + (1 : Int32))) + x2), .ref (14 + 3)] _ _ from ?_)
    refine zy_2 rfl rfl (show zyR _ _ _ _ [some (.ref (12 + 3)), some (.int x1), some (.int x2)] [.int x2, .int x1, .ref (12 + 3), .int x1, .ref (12 + 3), .int (((10 : Int32) * (x1 + (1 : Int32))) + x2), .ref (14 + 3)] _ _ from ?_)
    obtain ⟨p1, hp1, h⟩ := zy_bind h
    refine zy_5 (c := 12) (as := [.int x1, .int x2]) (rest := [.int x1, .ref (12 + 3), .int (((10 : Int32) * (x1 + (1 : Int32))) + x2), .ref (14 + 3)]) (L := [some (.ref (12 + 3)), some (.int x1), some (.int x2), none, none, none]) (d' := 4) rfl rfl rfl (Nat.le_of_ble_eq_true rfl) (Nat.le_of_ble_eq_true rfl) rfl (Nat.le_of_ble_eq_true rfl) rfl rfl (zyC79 hp1) ?_
    show zyR _ _ _ _ [some (.ref (12 + 3)), some (.int x1), some (.int x2)] [.int p1.1, .int x1, .ref (12 + 3), .int (((10 : Int32) * (x1 + (1 : Int32))) + x2), .ref (14 + 3)] _ _
    refine zy_2 rfl rfl (show zyR _ _ _ _ [some (.ref (12 + 3)), some (.int x1), some (.int x2)] [.int x2, .int p1.1, .int x1, .ref (12 + 3), .int (((10 : Int32) * (x1 + (1 : Int32))) + x2), .ref (14 + 3)] _ _ from ?_)
    obtain ⟨p2, hp2, h⟩ := zy_bind h
    refine zy_5 (c := 12) (as := [.int x1, .int p1.1, .int x2]) (rest := [.int (((10 : Int32) * (x1 + (1 : Int32))) + x2), .ref (14 + 3)]) (L := [some (.ref (12 + 3)), some (.int x1), some (.int p1.1), some (.int x2), none]) (d' := 3) rfl rfl rfl (Nat.le_of_ble_eq_true rfl) (Nat.le_of_ble_eq_true rfl) rfl (Nat.le_of_ble_eq_true rfl) rfl rfl (zyC80 hp2) ?_
    show zyR _ _ _ _ [some (.ref (12 + 3)), some (.int x1), some (.int x2)] [.int p2.1, .int (((10 : Int32) * (x1 + (1 : Int32))) + x2), .ref (14 + 3)] _ _
    obtain ⟨c3, h⟩ := zy_if h
    refine zy_27 (c := 14) rfl rfl c3 (show zyR _ _ _ _ [some (.ref (12 + 3)), some (.int x1), some (.int x2)] [] _ _ from ?_)
    refine zy_22 rfl rfl rfl rfl (show zyR _ _ _ _ [some (.ref (12 + 3)), some (.int x1), some (.int (x2 + (1 : Int32)))] [] _ _ from ?_)
    refine zy_6 rfl (show zyR _ _ _ _ [some (.ref (12 + 3)), some (.int x1), some (.int (x2 + (1 : Int32)))] [] _ _ from ?_)
    exact zy_sub (show zy_le [some (.ref (12 + 3)), some (.int x1), some (.int (x2 + (1 : Int32)))] [some (.ref (12 + 3)), some (.int x1), some (.int (x2 + (1 : Int32)))] from ⟨rfl, ⟨rfl, ⟨rfl, trivial⟩⟩⟩) (hk31 x1 (x2 + (1 : Int32)) (zy_up p2.2 14 ((((10 : Int32) * (x1 + (1 : Int32))) + x2)).toNatClampNeg p2.1) _ _ h)
noncomputable def zyF78_31  (k23 : Int32 → zy_S → Option (Int32 × zy_S)) (n : Nat) : Int32 → Int32 → zy_S → Option (Int32 × zy_S) := Nat.rec (fun _ _ _ => none) (fun _ k31 => zyF78_31b k23 k31) n
theorem zyC78_31 {X : zx_X}  {k23 : Int32 → zy_S → Option (Int32 × zy_S)}  (hk23 : ∀ (x1 : Int32) (s : zy_S) (r : Int32) (s' : zy_S), k23 x1 s = some (r, s') → zyR X 5 78 23 [some (.ref (12 + 3)), some (.int x1), none] [] s (zyE none s')) : ∀ (n : Nat) (x1 : Int32) (x2 : Int32) (s : zy_S) (r : Int32) (s' : zy_S), zyF78_31 k23 n x1 x2 s = some (r, s') → zyR X 5 78 31 [some (.ref (12 + 3)), some (.int x1), some (.int x2)] [] s (zyE none s')
  | 0, _, _ => by
    intro s r s'  h
    have h : (none : Option (Int32 × zy_S)) = some (r, s') := h
    cases h
  | n + 1, x1, x2 => by
    intro s r s'  h
    exact zyC78_31b (k31 := zyF78_31 k23 n) hk23 (fun x1 x2 s r s'  h => zyC78_31 hk23 n x1 x2 s r s'  h) h
noncomputable def zyF78_23b  (k23 : Int32 → zy_S → Option (Int32 × zy_S)) (x1 : Int32) (s : zy_S) : Option (Int32 × zy_S) :=
if (6 : Int32) ≤ x1 then
some ((0 : Int32), s)
else
zyF78_31 k23 zy_fu x1 (0 : Int32) s
theorem zyC78_23b {X : zx_X}  {k23 : Int32 → zy_S → Option (Int32 × zy_S)}  (hk23 : ∀ (x1 : Int32) (s : zy_S) (r : Int32) (s' : zy_S), k23 x1 s = some (r, s') → zyR X 5 78 23 [some (.ref (12 + 3)), some (.int x1), none] [] s (zyE none s')) {x1 : Int32} {s : zy_S} {r : Int32} {s' : zy_S}  (h : zyF78_23b k23 x1 s = some (r, s')) : zyR X 5 78 23 [some (.ref (12 + 3)), some (.int x1), none] [] s (zyE none s') := by
  unfold zyF78_23b at h
  refine zy_2 rfl rfl (show zyR _ _ _ _ [some (.ref (12 + 3)), some (.int x1), none] [.int x1] _ _ from ?_)
  refine zy_3 rfl rfl (show zyR _ _ _ _ [some (.ref (12 + 3)), some (.int x1), none] [.int (6 : Int32), .int x1] _ _ from ?_)
  refine zy_25_3 rfl (fun b5 => (show zyR _ _ _ _ [some (.ref (12 + 3)), some (.int x1), none] [] _ _ from ?_)) (fun b5 => (show zyR _ _ _ _ [some (.ref (12 + 3)), some (.int x1), none] [] _ _ from ?_))
  · replace h := zy_ifp h b5
    cases h
    exact zy_66 rfl ⟨rfl, rfl⟩
  · replace h := zy_ifn h b5
    refine zy_3 rfl rfl (show zyR _ _ _ _ [some (.ref (12 + 3)), some (.int x1), none] [.int (0 : Int32)] _ _ from ?_)
    refine zy_23 rfl rfl (show zyR _ _ _ _ [some (.ref (12 + 3)), some (.int x1), some (.int (0 : Int32))] [] _ _ from ?_)
    exact zy_sub (show zy_le [some (.ref (12 + 3)), some (.int x1), some (.int (0 : Int32))] [some (.ref (12 + 3)), some (.int x1), some (.int (0 : Int32))] from ⟨rfl, ⟨rfl, ⟨rfl, trivial⟩⟩⟩) (zyC78_31 hk23 zy_fu x1 (0 : Int32) s _ _ h)
noncomputable def zyF78_23   (n : Nat) : Int32 → zy_S → Option (Int32 × zy_S) := Nat.rec (fun _ _ => none) (fun _ k23 => zyF78_23b k23) n
theorem zyC78_23 {X : zx_X}     : ∀ (n : Nat) (x1 : Int32) (s : zy_S) (r : Int32) (s' : zy_S), zyF78_23 n x1 s = some (r, s') → zyR X 5 78 23 [some (.ref (12 + 3)), some (.int x1), none] [] s (zyE none s')
  | 0, _ => by
    intro s r s'  h
    have h : (none : Option (Int32 × zy_S)) = some (r, s') := h
    cases h
  | n + 1, x1 => by
    intro s r s'  h
    exact zyC78_23b (k23 := zyF78_23 n) (fun x1 s r s'  h => zyC78_23  n x1 s r s'  h) h
noncomputable def zyF78_2b  (k2 : Int32 → zy_S → Option (Int32 × zy_S)) (x1 : Int32) (s : zy_S) : Option (Int32 × zy_S) :=
if (9 : Int32) < x1 then
zyF78_23 zy_fu (0 : Int32) s
else
if zy_in x1 70 then
k2 (x1 + (1 : Int32)) (zy_up s 14 (x1).toNatClampNeg (0 : Int32))
else none
theorem zyC78_2b {X : zx_X}  {k2 : Int32 → zy_S → Option (Int32 × zy_S)}  (hk2 : ∀ (x1 : Int32) (s : zy_S) (r : Int32) (s' : zy_S), k2 x1 s = some (r, s') → zyR X 5 78 2 [some (.ref (12 + 3)), some (.int x1), none] [] s (zyE none s')) {x1 : Int32} {s : zy_S} {r : Int32} {s' : zy_S}  (h : zyF78_2b k2 x1 s = some (r, s')) : zyR X 5 78 2 [some (.ref (12 + 3)), some (.int x1), none] [] s (zyE none s') := by
  unfold zyF78_2b at h
  refine zy_2 rfl rfl (show zyR _ _ _ _ [some (.ref (12 + 3)), some (.int x1), none] [.int x1] _ _ from ?_)
  refine zy_3 rfl rfl (show zyR _ _ _ _ [some (.ref (12 + 3)), some (.int x1), none] [.int (9 : Int32), .int x1] _ _ from ?_)
  refine zy_25_4 rfl (fun b7 => (show zyR _ _ _ _ [some (.ref (12 + 3)), some (.int x1), none] [] _ _ from ?_)) (fun b7 => (show zyR _ _ _ _ [some (.ref (12 + 3)), some (.int x1), none] [] _ _ from ?_))
  · replace h := zy_ifp h b7
    refine zy_3 rfl rfl (show zyR _ _ _ _ [some (.ref (12 + 3)), some (.int x1), none] [.int (0 : Int32)] _ _ from ?_)
    refine zy_23 rfl rfl (show zyR _ _ _ _ [some (.ref (12 + 3)), some (.int (0 : Int32)), none] [] _ _ from ?_)
    exact zy_sub (show zy_le [some (.ref (12 + 3)), some (.int (0 : Int32)), none] [some (.ref (12 + 3)), some (.int (0 : Int32)), none] from ⟨rfl, ⟨rfl, trivial⟩⟩) (zyC78_23 zy_fu (0 : Int32) s _ _ h)
  · replace h := zy_ifn h b7
    refine zy_0 rfl rfl (show zyR _ _ _ _ [some (.ref (12 + 3)), some (.int x1), none] [.ref (12 + 3)] _ _ from ?_)
    refine zy_1r (c := 12) rfl rfl rfl (show zyR _ _ _ _ [some (.ref (12 + 3)), some (.int x1), none] [.ref (14 + 3)] _ _ from ?_)
    refine zy_2 rfl rfl (show zyR _ _ _ _ [some (.ref (12 + 3)), some (.int x1), none] [.int x1, .ref (14 + 3)] _ _ from ?_)
    refine zy_3 rfl rfl (show zyR _ _ _ _ [some (.ref (12 + 3)), some (.int x1), none] [.int (0 : Int32), .int x1, .ref (14 + 3)] _ _ from ?_)
    obtain ⟨c6, h⟩ := zy_if h
    refine zy_27 (c := 14) rfl rfl c6 (show zyR _ _ _ _ [some (.ref (12 + 3)), some (.int x1), none] [] _ _ from ?_)
    refine zy_22 rfl rfl rfl rfl (show zyR _ _ _ _ [some (.ref (12 + 3)), some (.int (x1 + (1 : Int32))), none] [] _ _ from ?_)
    refine zy_6 rfl (show zyR _ _ _ _ [some (.ref (12 + 3)), some (.int (x1 + (1 : Int32))), none] [] _ _ from ?_)
    exact zy_sub (show zy_le [some (.ref (12 + 3)), some (.int (x1 + (1 : Int32))), none] [some (.ref (12 + 3)), some (.int (x1 + (1 : Int32))), none] from ⟨rfl, ⟨rfl, trivial⟩⟩) (hk2 (x1 + (1 : Int32)) (zy_up s 14 (x1).toNatClampNeg (0 : Int32)) _ _ h)
noncomputable def zyF78_2   (n : Nat) : Int32 → zy_S → Option (Int32 × zy_S) := Nat.rec (fun _ _ => none) (fun _ k2 => zyF78_2b k2) n
theorem zyC78_2 {X : zx_X}     : ∀ (n : Nat) (x1 : Int32) (s : zy_S) (r : Int32) (s' : zy_S), zyF78_2 n x1 s = some (r, s') → zyR X 5 78 2 [some (.ref (12 + 3)), some (.int x1), none] [] s (zyE none s')
  | 0, _ => by
    intro s r s'  h
    have h : (none : Option (Int32 × zy_S)) = some (r, s') := h
    cases h
  | n + 1, x1 => by
    intro s r s'  h
    exact zyC78_2b (k2 := zyF78_2 n) (fun x1 s r s'  h => zyC78_2  n x1 s r s'  h) h
noncomputable def zyF78    (s : zy_S) : Option (Int32 × zy_S) :=
zyF78_2 zy_fu (0 : Int32) s
theorem zyC78 {X : zx_X}      {s : zy_S} {r : Int32} {s' : zy_S}  (h : zyF78 s = some (r, s')) : zyR X 5 78 0 [some (.ref (12 + 3)), none, none] [] s (zyE none s') := by
  unfold zyF78 at h
  refine zy_3 rfl rfl (show zyR _ _ _ _ [some (.ref (12 + 3)), none, none] [.int (0 : Int32)] _ _ from ?_)
  refine zy_23 rfl rfl (show zyR _ _ _ _ [some (.ref (12 + 3)), some (.int (0 : Int32)), none] [] _ _ from ?_)
  exact zy_sub (show zy_le [some (.ref (12 + 3)), some (.int (0 : Int32)), none] [some (.ref (12 + 3)), some (.int (0 : Int32)), none] from ⟨rfl, ⟨rfl, trivial⟩⟩) (zyC78_2 zy_fu (0 : Int32) s _ _ h)
/-! NineOpinions$Thought.weighAllBoards()V -/
noncomputable def zyF77_14b  (k6 : Int32 → zy_S → Option (Int32 × zy_S)) (k14 : Int32 → Int32 → zy_S → Option (Int32 × zy_S)) (x1 : Int32) (x2 : Int32) (s : zy_S) : Option (Int32 × zy_S) :=
if (16 : Int32) ≤ x2 then
k6 (x1 + (1 : Int32)) s
else
(zyF55 x1 (x2 <<< (((4 : Int32) * x1) &&& 31)) (s.1 1 3) s).bind fun p1 =>
k14 x1 (x2 + (1 : Int32)) p1.2
theorem zyC77_14b {X : zx_X}  {k6 : Int32 → zy_S → Option (Int32 × zy_S)} {k14 : Int32 → Int32 → zy_S → Option (Int32 × zy_S)}  (hk6 : ∀ (x1 : Int32) (s : zy_S) (r : Int32) (s' : zy_S), k6 x1 s = some (r, s') → zyR X 6 77 6 [some (.ref (12 + 3)), some (.int x1), none] [] s (zyE none s')) (hk14 : ∀ (x1 : Int32) (x2 : Int32) (s : zy_S) (r : Int32) (s' : zy_S), k14 x1 x2 s = some (r, s') → zyR X 6 77 14 [some (.ref (12 + 3)), some (.int x1), some (.int x2)] [] s (zyE none s')) {x1 : Int32} {x2 : Int32} {s : zy_S} {r : Int32} {s' : zy_S}  (h : zyF77_14b k6 k14 x1 x2 s = some (r, s')) : zyR X 6 77 14 [some (.ref (12 + 3)), some (.int x1), some (.int x2)] [] s (zyE none s') := by
  unfold zyF77_14b at h
  refine zy_2 rfl rfl (show zyR _ _ _ _ [some (.ref (12 + 3)), some (.int x1), some (.int x2)] [.int x2] _ _ from ?_)
  refine zy_3 rfl rfl (show zyR _ _ _ _ [some (.ref (12 + 3)), some (.int x1), some (.int x2)] [.int (16 : Int32), .int x2] _ _ from ?_)
  refine zy_25_3 rfl (fun b2 => (show zyR _ _ _ _ [some (.ref (12 + 3)), some (.int x1), some (.int x2)] [] _ _ from ?_)) (fun b2 => (show zyR _ _ _ _ [some (.ref (12 + 3)), some (.int x1), some (.int x2)] [] _ _ from ?_))
  · replace h := zy_ifp h b2
    refine zy_22 rfl rfl rfl rfl (show zyR _ _ _ _ [some (.ref (12 + 3)), some (.int (x1 + (1 : Int32))), some (.int x2)] [] _ _ from ?_)
    refine zy_6 rfl (show zyR _ _ _ _ [some (.ref (12 + 3)), some (.int (x1 + (1 : Int32))), some (.int x2)] [] _ _ from ?_)
    exact zy_sub (show zy_le [some (.ref (12 + 3)), some (.int (x1 + (1 : Int32))), none] [some (.ref (12 + 3)), some (.int (x1 + (1 : Int32))), some (.int x2)] from ⟨rfl, ⟨rfl, trivial⟩⟩) (hk6 (x1 + (1 : Int32)) s _ _ h)
  · replace h := zy_ifn h b2
    refine zy_0 rfl rfl (show zyR _ _ _ _ [some (.ref (12 + 3)), some (.int x1), some (.int x2)] [.ref (12 + 3)] _ _ from ?_)
    refine zy_2 rfl rfl (show zyR _ _ _ _ [some (.ref (12 + 3)), some (.int x1), some (.int x2)] [.int x1, .ref (12 + 3)] _ _ from ?_)
    refine zy_2 rfl rfl (show zyR _ _ _ _ [some (.ref (12 + 3)), some (.int x1), some (.int x2)] [.int x2, .int x1, .ref (12 + 3)] _ _ from ?_)
    refine zy_3 rfl rfl (show zyR _ _ _ _ [some (.ref (12 + 3)), some (.int x1), some (.int x2)] [.int (4 : Int32), .int x2, .int x1, .ref (12 + 3)] _ _ from ?_)
    refine zy_2 rfl rfl (show zyR _ _ _ _ [some (.ref (12 + 3)), some (.int x1), some (.int x2)] [.int x1, .int (4 : Int32), .int x2, .int x1, .ref (12 + 3)] _ _ from ?_)
    refine zy_12 rfl (show zyR _ _ _ _ [some (.ref (12 + 3)), some (.int x1), some (.int x2)] [.int ((4 : Int32) * x1), .int x2, .int x1, .ref (12 + 3)] _ _ from ?_)
    refine zy_16 rfl (show zyR _ _ _ _ [some (.ref (12 + 3)), some (.int x1), some (.int x2)] [.int (x2 <<< (((4 : Int32) * x1) &&& 31)), .int x1, .ref (12 + 3)] _ _ from ?_)
    refine zy_0 rfl rfl (show zyR _ _ _ _ [some (.ref (12 + 3)), some (.int x1), some (.int x2)] [.ref (12 + 3), .int (x2 <<< (((4 : Int32) * x1) &&& 31)), .int x1, .ref (12 + 3)] _ _ from ?_)
    refine zy_1r (c := 12) rfl rfl rfl (show zyR _ _ _ _ [some (.ref (12 + 3)), some (.int x1), some (.int x2)] [.ref (1 + 3), .int (x2 <<< (((4 : Int32) * x1) &&& 31)), .int x1, .ref (12 + 3)] _ _ from ?_)
    refine zy_1 (c := 1) rfl rfl rfl (show zyR _ _ _ _ [some (.ref (12 + 3)), some (.int x1), some (.int x2)] [.int (s.1 1 3), .int (x2 <<< (((4 : Int32) * x1) &&& 31)), .int x1, .ref (12 + 3)] _ _ from ?_)
    obtain ⟨p1, hp1, h⟩ := zy_bind h
    refine zy_5 (c := 12) (as := [.int x1, .int (x2 <<< (((4 : Int32) * x1) &&& 31)), .int (s.1 1 3)]) (rest := []) (L := [some (.ref (12 + 3)), some (.int x1), some (.int (x2 <<< (((4 : Int32) * x1) &&& 31))), some (.int (s.1 1 3)), none]) (d' := 5) rfl rfl rfl (Nat.le_of_ble_eq_true rfl) (Nat.le_of_ble_eq_true rfl) rfl (Nat.le_of_ble_eq_true rfl) rfl rfl (zyC55 hp1) ?_
    show zyR _ _ _ _ [some (.ref (12 + 3)), some (.int x1), some (.int x2)] [.int p1.1] _ _
    refine zy_34 rfl rfl (show zyR _ _ _ _ [some (.ref (12 + 3)), some (.int x1), some (.int x2)] [] _ _ from ?_)
    refine zy_22 rfl rfl rfl rfl (show zyR _ _ _ _ [some (.ref (12 + 3)), some (.int x1), some (.int (x2 + (1 : Int32)))] [] _ _ from ?_)
    refine zy_6 rfl (show zyR _ _ _ _ [some (.ref (12 + 3)), some (.int x1), some (.int (x2 + (1 : Int32)))] [] _ _ from ?_)
    exact zy_sub (show zy_le [some (.ref (12 + 3)), some (.int x1), some (.int (x2 + (1 : Int32)))] [some (.ref (12 + 3)), some (.int x1), some (.int (x2 + (1 : Int32)))] from ⟨rfl, ⟨rfl, ⟨rfl, trivial⟩⟩⟩) (hk14 x1 (x2 + (1 : Int32)) p1.2 _ _ h)
noncomputable def zyF77_14  (k6 : Int32 → zy_S → Option (Int32 × zy_S)) (n : Nat) : Int32 → Int32 → zy_S → Option (Int32 × zy_S) := Nat.rec (fun _ _ _ => none) (fun _ k14 => zyF77_14b k6 k14) n
theorem zyC77_14 {X : zx_X}  {k6 : Int32 → zy_S → Option (Int32 × zy_S)}  (hk6 : ∀ (x1 : Int32) (s : zy_S) (r : Int32) (s' : zy_S), k6 x1 s = some (r, s') → zyR X 6 77 6 [some (.ref (12 + 3)), some (.int x1), none] [] s (zyE none s')) : ∀ (n : Nat) (x1 : Int32) (x2 : Int32) (s : zy_S) (r : Int32) (s' : zy_S), zyF77_14 k6 n x1 x2 s = some (r, s') → zyR X 6 77 14 [some (.ref (12 + 3)), some (.int x1), some (.int x2)] [] s (zyE none s')
  | 0, _, _ => by
    intro s r s'  h
    have h : (none : Option (Int32 × zy_S)) = some (r, s') := h
    cases h
  | n + 1, x1, x2 => by
    intro s r s'  h
    exact zyC77_14b (k14 := zyF77_14 k6 n) hk6 (fun x1 x2 s r s'  h => zyC77_14 hk6 n x1 x2 s r s'  h) h
noncomputable def zyF77_6b  (k6 : Int32 → zy_S → Option (Int32 × zy_S)) (x1 : Int32) (s : zy_S) : Option (Int32 × zy_S) :=
if (6 : Int32) ≤ x1 then
(zyF78 s).bind fun p3 =>
some ((0 : Int32), p3.2)
else
zyF77_14 k6 zy_fu x1 (0 : Int32) s
theorem zyC77_6b {X : zx_X}  {k6 : Int32 → zy_S → Option (Int32 × zy_S)}  (hk6 : ∀ (x1 : Int32) (s : zy_S) (r : Int32) (s' : zy_S), k6 x1 s = some (r, s') → zyR X 6 77 6 [some (.ref (12 + 3)), some (.int x1), none] [] s (zyE none s')) {x1 : Int32} {s : zy_S} {r : Int32} {s' : zy_S}  (h : zyF77_6b k6 x1 s = some (r, s')) : zyR X 6 77 6 [some (.ref (12 + 3)), some (.int x1), none] [] s (zyE none s') := by
  unfold zyF77_6b at h
  refine zy_2 rfl rfl (show zyR _ _ _ _ [some (.ref (12 + 3)), some (.int x1), none] [.int x1] _ _ from ?_)
  refine zy_3 rfl rfl (show zyR _ _ _ _ [some (.ref (12 + 3)), some (.int x1), none] [.int (6 : Int32), .int x1] _ _ from ?_)
  refine zy_25_3 rfl (fun b4 => (show zyR _ _ _ _ [some (.ref (12 + 3)), some (.int x1), none] [] _ _ from ?_)) (fun b4 => (show zyR _ _ _ _ [some (.ref (12 + 3)), some (.int x1), none] [] _ _ from ?_))
  · replace h := zy_ifp h b4
    refine zy_0 rfl rfl (show zyR _ _ _ _ [some (.ref (12 + 3)), some (.int x1), none] [.ref (12 + 3)] _ _ from ?_)
    obtain ⟨p3, hp3, h⟩ := zy_bind h
    refine zy_5 (c := 12) (as := []) (rest := []) (L := [some (.ref (12 + 3)), none, none]) (d' := 5) rfl rfl rfl (Nat.le_of_ble_eq_true rfl) (Nat.le_of_ble_eq_true rfl) rfl (Nat.le_of_ble_eq_true rfl) rfl rfl (zyC78 hp3) ?_
    show zyR _ _ _ _ [some (.ref (12 + 3)), some (.int x1), none] [] _ _
    cases h
    exact zy_66 rfl ⟨rfl, rfl⟩
  · replace h := zy_ifn h b4
    refine zy_3 rfl rfl (show zyR _ _ _ _ [some (.ref (12 + 3)), some (.int x1), none] [.int (0 : Int32)] _ _ from ?_)
    refine zy_23 rfl rfl (show zyR _ _ _ _ [some (.ref (12 + 3)), some (.int x1), some (.int (0 : Int32))] [] _ _ from ?_)
    exact zy_sub (show zy_le [some (.ref (12 + 3)), some (.int x1), some (.int (0 : Int32))] [some (.ref (12 + 3)), some (.int x1), some (.int (0 : Int32))] from ⟨rfl, ⟨rfl, ⟨rfl, trivial⟩⟩⟩) (zyC77_14 hk6 zy_fu x1 (0 : Int32) s _ _ h)
noncomputable def zyF77_6   (n : Nat) : Int32 → zy_S → Option (Int32 × zy_S) := Nat.rec (fun _ _ => none) (fun _ k6 => zyF77_6b k6) n
theorem zyC77_6 {X : zx_X}     : ∀ (n : Nat) (x1 : Int32) (s : zy_S) (r : Int32) (s' : zy_S), zyF77_6 n x1 s = some (r, s') → zyR X 6 77 6 [some (.ref (12 + 3)), some (.int x1), none] [] s (zyE none s')
  | 0, _ => by
    intro s r s'  h
    have h : (none : Option (Int32 × zy_S)) = some (r, s') := h
    cases h
  | n + 1, x1 => by
    intro s r s'  h
    exact zyC77_6b (k6 := zyF77_6 n) (fun x1 s r s'  h => zyC77_6  n x1 s r s'  h) h
noncomputable def zyF77    (s : zy_S) : Option (Int32 × zy_S) :=
(zyF74 s).bind fun p5 =>
zyF77_6 zy_fu (0 : Int32) p5.2
theorem zyC77 {X : zx_X}      {s : zy_S} {r : Int32} {s' : zy_S}  (h : zyF77 s = some (r, s')) : zyR X 6 77 0 [some (.ref (12 + 3)), none, none] [] s (zyE none s') := by
  unfold zyF77 at h
  refine zy_0 rfl rfl (show zyR _ _ _ _ [some (.ref (12 + 3)), none, none] [.ref (12 + 3)] _ _ from ?_)
  obtain ⟨p5, hp5, h⟩ := zy_bind h
  refine zy_5 (c := 12) (as := []) (rest := []) (L := [some (.ref (12 + 3))]) (d' := 2) rfl rfl rfl (Nat.le_of_ble_eq_true rfl) (Nat.le_of_ble_eq_true rfl) rfl (Nat.le_of_ble_eq_true rfl) rfl rfl (zyC74 hp5) ?_
  show zyR _ _ _ _ [some (.ref (12 + 3)), none, none] [] _ _
  refine zy_3 rfl rfl (show zyR _ _ _ _ [some (.ref (12 + 3)), none, none] [.int (0 : Int32)] _ _ from ?_)
  refine zy_23 rfl rfl (show zyR _ _ _ _ [some (.ref (12 + 3)), some (.int (0 : Int32)), none] [] _ _ from ?_)
  exact zy_sub (show zy_le [some (.ref (12 + 3)), some (.int (0 : Int32)), none] [some (.ref (12 + 3)), some (.int (0 : Int32)), none] from ⟨rfl, ⟨rfl, trivial⟩⟩) (zyC77_6 zy_fu (0 : Int32) p5.2 _ _ h)
/-! NineOpinions$Thought.leastOfBoards()I -/
noncomputable def zyF76    (s : zy_S) : Option (Int32 × zy_S) :=
(zyF77 s).bind fun p1 =>
(zyF81 (6 : Int32) (p1.2.1 1 4) p1.2).bind fun p2 =>
some (p2.1, p2.2)
theorem zyC76 {X : zx_X}      {s : zy_S} {r : Int32} {s' : zy_S}  (h : zyF76 s = some (r, s')) : zyR X 7 76 0 [some (.ref (12 + 3))] [] s (zyE (some (.int r)) s') := by
  unfold zyF76 at h
  refine zy_0 rfl rfl (show zyR _ _ _ _ [some (.ref (12 + 3))] [.ref (12 + 3)] _ _ from ?_)
  obtain ⟨p1, hp1, h⟩ := zy_bind h
  refine zy_5 (c := 12) (as := []) (rest := []) (L := [some (.ref (12 + 3)), none, none]) (d' := 6) rfl rfl rfl (Nat.le_of_ble_eq_true rfl) (Nat.le_of_ble_eq_true rfl) rfl (Nat.le_of_ble_eq_true rfl) rfl rfl (zyC77 hp1) ?_
  show zyR _ _ _ _ [some (.ref (12 + 3))] [] _ _
  refine zy_0 rfl rfl (show zyR _ _ _ _ [some (.ref (12 + 3))] [.ref (12 + 3)] _ _ from ?_)
  refine zy_3 rfl rfl (show zyR _ _ _ _ [some (.ref (12 + 3))] [.int (6 : Int32), .ref (12 + 3)] _ _ from ?_)
  refine zy_0 rfl rfl (show zyR _ _ _ _ [some (.ref (12 + 3))] [.ref (12 + 3), .int (6 : Int32), .ref (12 + 3)] _ _ from ?_)
  refine zy_1r (c := 12) rfl rfl rfl (show zyR _ _ _ _ [some (.ref (12 + 3))] [.ref (1 + 3), .int (6 : Int32), .ref (12 + 3)] _ _ from ?_)
  refine zy_1 (c := 1) rfl rfl rfl (show zyR _ _ _ _ [some (.ref (12 + 3))] [.int (p1.2.1 1 4), .int (6 : Int32), .ref (12 + 3)] _ _ from ?_)
  obtain ⟨p2, hp2, h⟩ := zy_bind h
  refine zy_5 (c := 12) (as := [.int (6 : Int32), .int (p1.2.1 1 4)]) (rest := []) (L := [some (.ref (12 + 3)), some (.int (6 : Int32)), some (.int (p1.2.1 1 4))]) (d' := 1) rfl rfl rfl (Nat.le_of_ble_eq_true rfl) (Nat.le_of_ble_eq_true rfl) rfl (Nat.le_of_ble_eq_true rfl) rfl rfl (zyC81 hp2) ?_
  show zyR _ _ _ _ [some (.ref (12 + 3))] [.int p2.1] _ _
  obtain ⟨rfl, rfl⟩ := zy_pi h
  exact zy_4 rfl ⟨rfl, rfl⟩
/-! NineOpinions$Thought.nearestBoard()I -/
noncomputable def zyF82_16b  (k16 : Int32 → Int32 → Int32 → zy_S → Option (Int32 × zy_S)) (x1 : Int32) (x2 : Int32) (x3 : Int32) (s : zy_S) : Option (Int32 × zy_S) :=
if x3 < 0 then
some (x1, s)
else
(zyF79 x3 x2 s).bind fun p1 =>
(zyF63 p1.1 p1.2).bind fun p2 =>
k16 (x1 ||| (p1.1 <<< (((4 : Int32) * x3) &&& 31))) (x2 - p2.1) (x3 + (-1 : Int32)) p2.2
theorem zyC82_16b {X : zx_X}  {k16 : Int32 → Int32 → Int32 → zy_S → Option (Int32 × zy_S)}  (hk16 : ∀ (x1 : Int32) (x2 : Int32) (x3 : Int32) (s : zy_S) (r : Int32) (s' : zy_S), k16 x1 x2 x3 s = some (r, s') → zyR X 7 82 16 [some (.ref (12 + 3)), some (.int x1), some (.int x2), some (.int x3), none] [] s (zyE (some (.int r)) s')) {x1 : Int32} {x2 : Int32} {x3 : Int32} {s : zy_S} {r : Int32} {s' : zy_S}  (h : zyF82_16b k16 x1 x2 x3 s = some (r, s')) : zyR X 7 82 16 [some (.ref (12 + 3)), some (.int x1), some (.int x2), some (.int x3), none] [] s (zyE (some (.int r)) s') := by
  unfold zyF82_16b at h
  refine zy_2 rfl rfl (show zyR _ _ _ _ [some (.ref (12 + 3)), some (.int x1), some (.int x2), some (.int x3), none] [.int x3] _ _ from ?_)
  refine zy_24_2 rfl (fun b3 => (show zyR _ _ _ _ [some (.ref (12 + 3)), some (.int x1), some (.int x2), some (.int x3), none] [] _ _ from ?_)) (fun b3 => (show zyR _ _ _ _ [some (.ref (12 + 3)), some (.int x1), some (.int x2), some (.int x3), none] [] _ _ from ?_))
  · replace h := zy_ifp h b3
    refine zy_2 rfl rfl (show zyR _ _ _ _ [some (.ref (12 + 3)), some (.int x1), some (.int x2), some (.int x3), none] [.int x1] _ _ from ?_)
    obtain ⟨rfl, rfl⟩ := zy_pi h
    exact zy_4 rfl ⟨rfl, rfl⟩
  · replace h := zy_ifn h b3
    refine zy_0 rfl rfl (show zyR _ _ _ _ [some (.ref (12 + 3)), some (.int x1), some (.int x2), some (.int x3), none] [.ref (12 + 3)] _ _ from ?_)
    refine zy_2 rfl rfl (show zyR _ _ _ _ [some (.ref (12 + 3)), some (.int x1), some (.int x2), some (.int x3), none] [.int x3, .ref (12 + 3)] _ _ from ?_)
    refine zy_2 rfl rfl (show zyR _ _ _ _ [some (.ref (12 + 3)), some (.int x1), some (.int x2), some (.int x3), none] [.int x2, .int x3, .ref (12 + 3)] _ _ from ?_)
    obtain ⟨p1, hp1, h⟩ := zy_bind h
    refine zy_5 (c := 12) (as := [.int x3, .int x2]) (rest := []) (L := [some (.ref (12 + 3)), some (.int x3), some (.int x2), none, none, none]) (d' := 4) rfl rfl rfl (Nat.le_of_ble_eq_true rfl) (Nat.le_of_ble_eq_true rfl) rfl (Nat.le_of_ble_eq_true rfl) rfl rfl (zyC79 hp1) ?_
    show zyR _ _ _ _ [some (.ref (12 + 3)), some (.int x1), some (.int x2), some (.int x3), none] [.int p1.1] _ _
    refine zy_23 rfl rfl (show zyR _ _ _ _ [some (.ref (12 + 3)), some (.int x1), some (.int x2), some (.int x3), some (.int p1.1)] [] _ _ from ?_)
    refine zy_2 rfl rfl (show zyR _ _ _ _ [some (.ref (12 + 3)), some (.int x1), some (.int x2), some (.int x3), some (.int p1.1)] [.int x1] _ _ from ?_)
    refine zy_2 rfl rfl (show zyR _ _ _ _ [some (.ref (12 + 3)), some (.int x1), some (.int x2), some (.int x3), some (.int p1.1)] [.int p1.1, .int x1] _ _ from ?_)
    refine zy_3 rfl rfl (show zyR _ _ _ _ [some (.ref (12 + 3)), some (.int x1), some (.int x2), some (.int x3), some (.int p1.1)] [.int (4 : Int32), .int p1.1, .int x1] _ _ from ?_)
    refine zy_2 rfl rfl (show zyR _ _ _ _ [some (.ref (12 + 3)), some (.int x1), some (.int x2), some (.int x3), some (.int p1.1)] [.int x3, .int (4 : Int32), .int p1.1, .int x1] _ _ from ?_)
    refine zy_12 rfl (show zyR _ _ _ _ [some (.ref (12 + 3)), some (.int x1), some (.int x2), some (.int x3), some (.int p1.1)] [.int ((4 : Int32) * x3), .int p1.1, .int x1] _ _ from ?_)
    refine zy_16 rfl (show zyR _ _ _ _ [some (.ref (12 + 3)), some (.int x1), some (.int x2), some (.int x3), some (.int p1.1)] [.int (p1.1 <<< (((4 : Int32) * x3) &&& 31)), .int x1] _ _ from ?_)
    refine zy_14 rfl (show zyR _ _ _ _ [some (.ref (12 + 3)), some (.int x1), some (.int x2), some (.int x3), some (.int p1.1)] [.int (x1 ||| (p1.1 <<< (((4 : Int32) * x3) &&& 31)))] _ _ from ?_)
    refine zy_23 rfl rfl (show zyR _ _ _ _ [some (.ref (12 + 3)), some (.int (x1 ||| (p1.1 <<< (((4 : Int32) * x3) &&& 31)))), some (.int x2), some (.int x3), some (.int p1.1)] [] _ _ from ?_)
    refine zy_2 rfl rfl (show zyR _ _ _ _ [some (.ref (12 + 3)), some (.int (x1 ||| (p1.1 <<< (((4 : Int32) * x3) &&& 31)))), some (.int x2), some (.int x3), some (.int p1.1)] [.int x2] _ _ from ?_)
    refine zy_2 rfl rfl (show zyR _ _ _ _ [some (.ref (12 + 3)), some (.int (x1 ||| (p1.1 <<< (((4 : Int32) * x3) &&& 31)))), some (.int x2), some (.int x3), some (.int p1.1)] [.int p1.1, .int x2] _ _ from ?_)
    obtain ⟨p2, hp2, h⟩ := zy_bind h
    refine zy_60 (as := [.int p1.1]) (rest := [.int x2]) (L := [some (.int p1.1)]) (d' := 1) rfl rfl (Nat.le_of_ble_eq_true rfl) (Nat.le_of_ble_eq_true rfl) rfl (Nat.le_of_ble_eq_true rfl) rfl rfl (zyC63 hp2) ?_
    show zyR _ _ _ _ [some (.ref (12 + 3)), some (.int (x1 ||| (p1.1 <<< (((4 : Int32) * x3) &&& 31)))), some (.int x2), some (.int x3), some (.int p1.1)] [.int p2.1, .int x2] _ _
    refine zy_11 rfl (show zyR _ _ _ _ [some (.ref (12 + 3)), some (.int (x1 ||| (p1.1 <<< (((4 : Int32) * x3) &&& 31)))), some (.int x2), some (.int x3), some (.int p1.1)] [.int (x2 - p2.1)] _ _ from ?_)
    refine zy_23 rfl rfl (show zyR _ _ _ _ [some (.ref (12 + 3)), some (.int (x1 ||| (p1.1 <<< (((4 : Int32) * x3) &&& 31)))), some (.int (x2 - p2.1)), some (.int x3), some (.int p1.1)] [] _ _ from ?_)
    refine zy_22 rfl rfl rfl rfl (show zyR _ _ _ _ [some (.ref (12 + 3)), some (.int (x1 ||| (p1.1 <<< (((4 : Int32) * x3) &&& 31)))), some (.int (x2 - p2.1)), some (.int (x3 + (-1 : Int32))), some (.int p1.1)] [] _ _ from ?_)
    refine zy_6 rfl (show zyR _ _ _ _ [some (.ref (12 + 3)), some (.int (x1 ||| (p1.1 <<< (((4 : Int32) * x3) &&& 31)))), some (.int (x2 - p2.1)), some (.int (x3 + (-1 : Int32))), some (.int p1.1)] [] _ _ from ?_)
    exact zy_sub (show zy_le [some (.ref (12 + 3)), some (.int (x1 ||| (p1.1 <<< (((4 : Int32) * x3) &&& 31)))), some (.int (x2 - p2.1)), some (.int (x3 + (-1 : Int32))), none] [some (.ref (12 + 3)), some (.int (x1 ||| (p1.1 <<< (((4 : Int32) * x3) &&& 31)))), some (.int (x2 - p2.1)), some (.int (x3 + (-1 : Int32))), some (.int p1.1)] from ⟨rfl, ⟨rfl, ⟨rfl, ⟨rfl, trivial⟩⟩⟩⟩) (hk16 (x1 ||| (p1.1 <<< (((4 : Int32) * x3) &&& 31))) (x2 - p2.1) (x3 + (-1 : Int32)) p2.2 _ _ h)
noncomputable def zyF82_16   (n : Nat) : Int32 → Int32 → Int32 → zy_S → Option (Int32 × zy_S) := Nat.rec (fun _ _ _ _ => none) (fun _ k16 => zyF82_16b k16) n
theorem zyC82_16 {X : zx_X}     : ∀ (n : Nat) (x1 : Int32) (x2 : Int32) (x3 : Int32) (s : zy_S) (r : Int32) (s' : zy_S), zyF82_16 n x1 x2 x3 s = some (r, s') → zyR X 7 82 16 [some (.ref (12 + 3)), some (.int x1), some (.int x2), some (.int x3), none] [] s (zyE (some (.int r)) s')
  | 0, _, _, _ => by
    intro s r s'  h
    have h : (none : Option (Int32 × zy_S)) = some (r, s') := h
    cases h
  | n + 1, x1, x2, x3 => by
    intro s r s'  h
    exact zyC82_16b (k16 := zyF82_16 n) (fun x1 x2 x3 s r s'  h => zyC82_16  n x1 x2 x3 s r s'  h) h
noncomputable def zyF82    (s : zy_S) : Option (Int32 × zy_S) :=
(zyF77 s).bind fun p4 =>
zyF82_16 zy_fu (0 : Int32) (p4.2.1 1 4) (5 : Int32) p4.2
theorem zyC82 {X : zx_X}      {s : zy_S} {r : Int32} {s' : zy_S}  (h : zyF82 s = some (r, s')) : zyR X 7 82 0 [some (.ref (12 + 3)), none, none, none, none] [] s (zyE (some (.int r)) s') := by
  unfold zyF82 at h
  refine zy_0 rfl rfl (show zyR _ _ _ _ [some (.ref (12 + 3)), none, none, none, none] [.ref (12 + 3)] _ _ from ?_)
  obtain ⟨p4, hp4, h⟩ := zy_bind h
  refine zy_5 (c := 12) (as := []) (rest := []) (L := [some (.ref (12 + 3)), none, none]) (d' := 6) rfl rfl rfl (Nat.le_of_ble_eq_true rfl) (Nat.le_of_ble_eq_true rfl) rfl (Nat.le_of_ble_eq_true rfl) rfl rfl (zyC77 hp4) ?_
  show zyR _ _ _ _ [some (.ref (12 + 3)), none, none, none, none] [] _ _
  refine zy_3 rfl rfl (show zyR _ _ _ _ [some (.ref (12 + 3)), none, none, none, none] [.int (0 : Int32)] _ _ from ?_)
  refine zy_23 rfl rfl (show zyR _ _ _ _ [some (.ref (12 + 3)), some (.int (0 : Int32)), none, none, none] [] _ _ from ?_)
  refine zy_0 rfl rfl (show zyR _ _ _ _ [some (.ref (12 + 3)), some (.int (0 : Int32)), none, none, none] [.ref (12 + 3)] _ _ from ?_)
  refine zy_1r (c := 12) rfl rfl rfl (show zyR _ _ _ _ [some (.ref (12 + 3)), some (.int (0 : Int32)), none, none, none] [.ref (1 + 3)] _ _ from ?_)
  refine zy_1 (c := 1) rfl rfl rfl (show zyR _ _ _ _ [some (.ref (12 + 3)), some (.int (0 : Int32)), none, none, none] [.int (p4.2.1 1 4)] _ _ from ?_)
  refine zy_23 rfl rfl (show zyR _ _ _ _ [some (.ref (12 + 3)), some (.int (0 : Int32)), some (.int (p4.2.1 1 4)), none, none] [] _ _ from ?_)
  refine zy_3 rfl rfl (show zyR _ _ _ _ [some (.ref (12 + 3)), some (.int (0 : Int32)), some (.int (p4.2.1 1 4)), none, none] [.int (5 : Int32)] _ _ from ?_)
  refine zy_23 rfl rfl (show zyR _ _ _ _ [some (.ref (12 + 3)), some (.int (0 : Int32)), some (.int (p4.2.1 1 4)), some (.int (5 : Int32)), none] [] _ _ from ?_)
  exact zy_sub (show zy_le [some (.ref (12 + 3)), some (.int (0 : Int32)), some (.int (p4.2.1 1 4)), some (.int (5 : Int32)), none] [some (.ref (12 + 3)), some (.int (0 : Int32)), some (.int (p4.2.1 1 4)), some (.int (5 : Int32)), none] from ⟨rfl, ⟨rfl, ⟨rfl, ⟨rfl, trivial⟩⟩⟩⟩) (zyC82_16 zy_fu (0 : Int32) (p4.2.1 1 4) (5 : Int32) p4.2 _ _ h)
