/-! PART 41.53: methods as functions. Made by wip/v4/dcp.py. -/
/-! NineOpinions$Town.everybody()I -/
noncomputable def zyF51    (s : zy_S) : Option (Int32 × zy_S) :=
some ((((1 : Int32) <<< ((s.1 1 5) &&& 31)) - (1 : Int32)), s)
theorem zyC51 {X : zx_X}      {s : zy_S} {r : Int32} {s' : zy_S}  (h : zyF51 s = some (r, s')) : zyR X 1 51 0 [some (.ref (1 + 3))] [] s (zyE (some (.int r)) s') := by
  unfold zyF51 at h
  refine zy_3 rfl rfl (show zyR _ _ _ _ [some (.ref (1 + 3))] [.int (1 : Int32)] _ _ from ?_)
  refine zy_0 rfl rfl (show zyR _ _ _ _ [some (.ref (1 + 3))] [.ref (1 + 3), .int (1 : Int32)] _ _ from ?_)
  refine zy_1 (c := 1) rfl rfl rfl (show zyR _ _ _ _ [some (.ref (1 + 3))] [.int (s.1 1 5), .int (1 : Int32)] _ _ from ?_)
  refine zy_16 rfl (show zyR _ _ _ _ [some (.ref (1 + 3))] [.int ((1 : Int32) <<< ((s.1 1 5) &&& 31))] _ _ from ?_)
  refine zy_3 rfl rfl (show zyR _ _ _ _ [some (.ref (1 + 3))] [.int (1 : Int32), .int ((1 : Int32) <<< ((s.1 1 5) &&& 31))] _ _ from ?_)
  refine zy_11 rfl (show zyR _ _ _ _ [some (.ref (1 + 3))] [.int (((1 : Int32) <<< ((s.1 1 5) &&& 31)) - (1 : Int32))] _ _ from ?_)
  obtain ⟨rfl, rfl⟩ := zy_pi h
  exact zy_4 rfl ⟨rfl, rfl⟩
/-! NineOpinions$Votes.haveMoreThanHalf(I)Z -/
noncomputable def zyF97   (x1 : Int32) (s : zy_S) : Option (Int32 × zy_S) :=
(zyF98 x1 s).bind fun p1 =>
(zyF51 p1.2).bind fun p2 =>
(zyF98 p2.1 p2.2).bind fun p3 =>
if ((2 : Int32) * p1.1) ≤ p3.1 then
some ((0 : Int32), p3.2)
else
some ((1 : Int32), p3.2)
theorem zyC97 {X : zx_X}     {x1 : Int32} {s : zy_S} {r : Int32} {s' : zy_S}  (h : zyF97 x1 s = some (r, s')) : zyR X 3 97 0 [some (.ref (16 + 3)), some (.int x1)] [] s (zyE (some (.int r)) s') := by
  unfold zyF97 at h
  refine zy_3 rfl rfl (show zyR _ _ _ _ [some (.ref (16 + 3)), some (.int x1)] [.int (2 : Int32)] _ _ from ?_)
  refine zy_0 rfl rfl (show zyR _ _ _ _ [some (.ref (16 + 3)), some (.int x1)] [.ref (16 + 3), .int (2 : Int32)] _ _ from ?_)
  refine zy_2 rfl rfl (show zyR _ _ _ _ [some (.ref (16 + 3)), some (.int x1)] [.int x1, .ref (16 + 3), .int (2 : Int32)] _ _ from ?_)
  obtain ⟨p1, hp1, h⟩ := zy_bind h
  refine zy_5 (c := 16) (as := [.int x1]) (rest := [.int (2 : Int32)]) (L := [some (.ref (16 + 3)), some (.int x1), none, none]) (d' := 2) rfl rfl rfl (Nat.le_of_ble_eq_true rfl) (Nat.le_of_ble_eq_true rfl) rfl (Nat.le_of_ble_eq_true rfl) rfl rfl (zyC98 hp1) ?_
  show zyR _ _ _ _ [some (.ref (16 + 3)), some (.int x1)] [.int p1.1, .int (2 : Int32)] _ _
  refine zy_12 rfl (show zyR _ _ _ _ [some (.ref (16 + 3)), some (.int x1)] [.int ((2 : Int32) * p1.1)] _ _ from ?_)
  refine zy_0 rfl rfl (show zyR _ _ _ _ [some (.ref (16 + 3)), some (.int x1)] [.ref (16 + 3), .int ((2 : Int32) * p1.1)] _ _ from ?_)
  refine zy_0 rfl rfl (show zyR _ _ _ _ [some (.ref (16 + 3)), some (.int x1)] [.ref (16 + 3), .ref (16 + 3), .int ((2 : Int32) * p1.1)] _ _ from ?_)
  refine zy_1r (c := 16) rfl rfl rfl (show zyR _ _ _ _ [some (.ref (16 + 3)), some (.int x1)] [.ref (1 + 3), .ref (16 + 3), .int ((2 : Int32) * p1.1)] _ _ from ?_)
  obtain ⟨p2, hp2, h⟩ := zy_bind h
  refine zy_5 (c := 1) (as := []) (rest := [.ref (16 + 3), .int ((2 : Int32) * p1.1)]) (L := [some (.ref (1 + 3))]) (d' := 1) rfl rfl rfl (Nat.le_of_ble_eq_true rfl) (Nat.le_of_ble_eq_true rfl) rfl (Nat.le_of_ble_eq_true rfl) rfl rfl (zyC51 hp2) ?_
  show zyR _ _ _ _ [some (.ref (16 + 3)), some (.int x1)] [.int p2.1, .ref (16 + 3), .int ((2 : Int32) * p1.1)] _ _
  obtain ⟨p3, hp3, h⟩ := zy_bind h
  refine zy_5 (c := 16) (as := [.int p2.1]) (rest := [.int ((2 : Int32) * p1.1)]) (L := [some (.ref (16 + 3)), some (.int p2.1), none, none]) (d' := 2) rfl rfl rfl (Nat.le_of_ble_eq_true rfl) (Nat.le_of_ble_eq_true rfl) rfl (Nat.le_of_ble_eq_true rfl) rfl rfl (zyC98 hp3) ?_
  show zyR _ _ _ _ [some (.ref (16 + 3)), some (.int x1)] [.int p3.1, .int ((2 : Int32) * p1.1)] _ _
  refine zy_25_5 rfl (fun b4 => (show zyR _ _ _ _ [some (.ref (16 + 3)), some (.int x1)] [] _ _ from ?_)) (fun b4 => (show zyR _ _ _ _ [some (.ref (16 + 3)), some (.int x1)] [] _ _ from ?_))
  · replace h := zy_ifp h b4
    refine zy_3 rfl rfl (show zyR _ _ _ _ [some (.ref (16 + 3)), some (.int x1)] [.int (0 : Int32)] _ _ from ?_)
    cases h
    exact zy_4b rfl ⟨rfl, rfl⟩ (Or.inl rfl)
  · replace h := zy_ifn h b4
    refine zy_3 rfl rfl (show zyR _ _ _ _ [some (.ref (16 + 3)), some (.int x1)] [.int (1 : Int32)] _ _ from ?_)
    refine zy_6 rfl (show zyR _ _ _ _ [some (.ref (16 + 3)), some (.int x1)] [.int (1 : Int32)] _ _ from ?_)
    cases h
    exact zy_4b rfl ⟨rfl, rfl⟩ (Or.inr rfl)
/-! NineOpinions$Votes.strikable()I -/
noncomputable def zyF94_61  (k4 : Int32 → Int32 → zy_S → Option (Int32 × zy_S)) (x2 : Int32) (y0 : Int32) (y1 : Int32) (s : zy_S) : Option (Int32 × zy_S) :=
k4 (y1 ||| y0) (x2 + (1 : Int32)) s
theorem zyC94_61 {X : zx_X}  {k4 : Int32 → Int32 → zy_S → Option (Int32 × zy_S)}  (hk4 : ∀ (x1 : Int32) (x2 : Int32) (s : zy_S) (r : Int32) (s' : zy_S), k4 x1 x2 s = some (r, s') → zyR X 4 94 4 [some (.ref (16 + 3)), some (.int x1), some (.int x2), none] [] s (zyE (some (.int r)) s')) {x2 : Int32} {y0 : Int32} {y1 : Int32} {s : zy_S} {r : Int32} {s' : zy_S}  (h : zyF94_61 k4 x2 y0 y1 s = some (r, s')) : zyR X 4 94 61 [some (.ref (16 + 3)), none, some (.int x2), none] [.int y0, .int y1] s (zyE (some (.int r)) s') := by
  unfold zyF94_61 at h
  refine zy_14 rfl (show zyR _ _ _ _ [some (.ref (16 + 3)), none, some (.int x2), none] [.int (y1 ||| y0)] _ _ from ?_)
  refine zy_23 rfl rfl (show zyR _ _ _ _ [some (.ref (16 + 3)), some (.int (y1 ||| y0)), some (.int x2), none] [] _ _ from ?_)
  refine zy_22 rfl rfl rfl rfl (show zyR _ _ _ _ [some (.ref (16 + 3)), some (.int (y1 ||| y0)), some (.int (x2 + (1 : Int32))), none] [] _ _ from ?_)
  refine zy_6 rfl (show zyR _ _ _ _ [some (.ref (16 + 3)), some (.int (y1 ||| y0)), some (.int (x2 + (1 : Int32))), none] [] _ _ from ?_)
  exact zy_sub (show zy_le [some (.ref (16 + 3)), some (.int (y1 ||| y0)), some (.int (x2 + (1 : Int32))), none] [some (.ref (16 + 3)), some (.int (y1 ||| y0)), some (.int (x2 + (1 : Int32))), none] from ⟨rfl, ⟨rfl, ⟨rfl, trivial⟩⟩⟩) (hk4 (y1 ||| y0) (x2 + (1 : Int32)) s _ _ h)
noncomputable def zyF94_48  (k4 : Int32 → Int32 → zy_S → Option (Int32 × zy_S)) (x1 : Int32) (x2 : Int32) (y0 : Int32) (s : zy_S) : Option (Int32 × zy_S) :=
if y0 = 0 then
zyF94_61 k4 x2 (0 : Int32) x1 s
else
zyF94_61 k4 x2 ((1 : Int32) <<< (x2 &&& 31)) x1 s
theorem zyC94_48 {X : zx_X}  {k4 : Int32 → Int32 → zy_S → Option (Int32 × zy_S)}  (hk4 : ∀ (x1 : Int32) (x2 : Int32) (s : zy_S) (r : Int32) (s' : zy_S), k4 x1 x2 s = some (r, s') → zyR X 4 94 4 [some (.ref (16 + 3)), some (.int x1), some (.int x2), none] [] s (zyE (some (.int r)) s')) {x1 : Int32} {x2 : Int32} {y0 : Int32} {s : zy_S} {r : Int32} {s' : zy_S}  (h : zyF94_48 k4 x1 x2 y0 s = some (r, s')) : zyR X 4 94 48 [some (.ref (16 + 3)), some (.int x1), some (.int x2), none] [.int y0] s (zyE (some (.int r)) s') := by
  unfold zyF94_48 at h
  refine zy_23 rfl rfl (show zyR _ _ _ _ [some (.ref (16 + 3)), some (.int x1), some (.int x2), some (.int y0)] [] _ _ from ?_)
  refine zy_2 rfl rfl (show zyR _ _ _ _ [some (.ref (16 + 3)), some (.int x1), some (.int x2), some (.int y0)] [.int x1] _ _ from ?_)
  refine zy_2 rfl rfl (show zyR _ _ _ _ [some (.ref (16 + 3)), some (.int x1), some (.int x2), some (.int y0)] [.int y0, .int x1] _ _ from ?_)
  refine zy_24_0 rfl (fun b1 => (show zyR _ _ _ _ [some (.ref (16 + 3)), some (.int x1), some (.int x2), some (.int y0)] [.int x1] _ _ from ?_)) (fun b1 => (show zyR _ _ _ _ [some (.ref (16 + 3)), some (.int x1), some (.int x2), some (.int y0)] [.int x1] _ _ from ?_))
  · replace h := zy_ifp h b1
    refine zy_3 rfl rfl (show zyR _ _ _ _ [some (.ref (16 + 3)), some (.int x1), some (.int x2), some (.int y0)] [.int (0 : Int32), .int x1] _ _ from ?_)
    exact zy_sub (show zy_le [some (.ref (16 + 3)), none, some (.int x2), none] [some (.ref (16 + 3)), some (.int x1), some (.int x2), some (.int y0)] from ⟨rfl, ⟨rfl, trivial⟩⟩) (zyC94_61 hk4 h)
  · replace h := zy_ifn h b1
    refine zy_3 rfl rfl (show zyR _ _ _ _ [some (.ref (16 + 3)), some (.int x1), some (.int x2), some (.int y0)] [.int (1 : Int32), .int x1] _ _ from ?_)
    refine zy_2 rfl rfl (show zyR _ _ _ _ [some (.ref (16 + 3)), some (.int x1), some (.int x2), some (.int y0)] [.int x2, .int (1 : Int32), .int x1] _ _ from ?_)
    refine zy_16 rfl (show zyR _ _ _ _ [some (.ref (16 + 3)), some (.int x1), some (.int x2), some (.int y0)] [.int ((1 : Int32) <<< (x2 &&& 31)), .int x1] _ _ from ?_)
    refine zy_6 rfl (show zyR _ _ _ _ [some (.ref (16 + 3)), some (.int x1), some (.int x2), some (.int y0)] [.int ((1 : Int32) <<< (x2 &&& 31)), .int x1] _ _ from ?_)
    exact zy_sub (show zy_le [some (.ref (16 + 3)), none, some (.int x2), none] [some (.ref (16 + 3)), some (.int x1), some (.int x2), some (.int y0)] from ⟨rfl, ⟨rfl, trivial⟩⟩) (zyC94_61 hk4 h)
noncomputable def zyF94_47  (k4 : Int32 → Int32 → zy_S → Option (Int32 × zy_S)) (x1 : Int32) (x2 : Int32) (s : zy_S) : Option (Int32 × zy_S) :=
zyF94_48 k4 x1 x2 (0 : Int32) s
theorem zyC94_47 {X : zx_X}  {k4 : Int32 → Int32 → zy_S → Option (Int32 × zy_S)}  (hk4 : ∀ (x1 : Int32) (x2 : Int32) (s : zy_S) (r : Int32) (s' : zy_S), k4 x1 x2 s = some (r, s') → zyR X 4 94 4 [some (.ref (16 + 3)), some (.int x1), some (.int x2), none] [] s (zyE (some (.int r)) s')) {x1 : Int32} {x2 : Int32} {s : zy_S} {r : Int32} {s' : zy_S}  (h : zyF94_47 k4 x1 x2 s = some (r, s')) : zyR X 4 94 47 [some (.ref (16 + 3)), some (.int x1), some (.int x2), none] [] s (zyE (some (.int r)) s') := by
  unfold zyF94_47 at h
  refine zy_3 rfl rfl (show zyR _ _ _ _ [some (.ref (16 + 3)), some (.int x1), some (.int x2), none] [.int (0 : Int32)] _ _ from ?_)
  exact zy_sub (show zy_le [some (.ref (16 + 3)), some (.int x1), some (.int x2), none] [some (.ref (16 + 3)), some (.int x1), some (.int x2), none] from ⟨rfl, ⟨rfl, ⟨rfl, trivial⟩⟩⟩) (zyC94_48 hk4 h)
noncomputable def zyF94_4b  (k4 : Int32 → Int32 → zy_S → Option (Int32 × zy_S)) (x1 : Int32) (x2 : Int32) (s : zy_S) : Option (Int32 × zy_S) :=
if (24 : Int32) ≤ x2 then
some (x1, s)
else
(zyF86 x2 s).bind fun p2 =>
if p2.1 = 0 then
zyF94_47 k4 x1 x2 p2.2
else
(zyF51 p2.2).bind fun p3 =>
(zyF95 x2 p3.2).bind fun p4 =>
(zyF97 (p3.1 &&& (p4.1 ^^^ (-1 : Int32))) p4.2).bind fun p5 =>
if p5.1 = 0 then
zyF94_47 k4 x1 x2 p5.2
else
zyF94_48 k4 x1 x2 (1 : Int32) p5.2
theorem zyC94_4b {X : zx_X}  {k4 : Int32 → Int32 → zy_S → Option (Int32 × zy_S)}  (hk4 : ∀ (x1 : Int32) (x2 : Int32) (s : zy_S) (r : Int32) (s' : zy_S), k4 x1 x2 s = some (r, s') → zyR X 4 94 4 [some (.ref (16 + 3)), some (.int x1), some (.int x2), none] [] s (zyE (some (.int r)) s')) {x1 : Int32} {x2 : Int32} {s : zy_S} {r : Int32} {s' : zy_S}  (h : zyF94_4b k4 x1 x2 s = some (r, s')) : zyR X 4 94 4 [some (.ref (16 + 3)), some (.int x1), some (.int x2), none] [] s (zyE (some (.int r)) s') := by
  unfold zyF94_4b at h
  refine zy_2 rfl rfl (show zyR _ _ _ _ [some (.ref (16 + 3)), some (.int x1), some (.int x2), none] [.int x2] _ _ from ?_)
  refine zy_3 rfl rfl (show zyR _ _ _ _ [some (.ref (16 + 3)), some (.int x1), some (.int x2), none] [.int (24 : Int32), .int x2] _ _ from ?_)
  refine zy_25_3 rfl (fun b8 => (show zyR _ _ _ _ [some (.ref (16 + 3)), some (.int x1), some (.int x2), none] [] _ _ from ?_)) (fun b8 => (show zyR _ _ _ _ [some (.ref (16 + 3)), some (.int x1), some (.int x2), none] [] _ _ from ?_))
  · replace h := zy_ifp h b8
    refine zy_2 rfl rfl (show zyR _ _ _ _ [some (.ref (16 + 3)), some (.int x1), some (.int x2), none] [.int x1] _ _ from ?_)
    obtain ⟨rfl, rfl⟩ := zy_pi h
    exact zy_4 rfl ⟨rfl, rfl⟩
  · replace h := zy_ifn h b8
    refine zy_0 rfl rfl (show zyR _ _ _ _ [some (.ref (16 + 3)), some (.int x1), some (.int x2), none] [.ref (16 + 3)] _ _ from ?_)
    refine zy_1r (c := 16) rfl rfl rfl (show zyR _ _ _ _ [some (.ref (16 + 3)), some (.int x1), some (.int x2), none] [.ref (1 + 3)] _ _ from ?_)
    refine zy_2 rfl rfl (show zyR _ _ _ _ [some (.ref (16 + 3)), some (.int x1), some (.int x2), none] [.int x2, .ref (1 + 3)] _ _ from ?_)
    obtain ⟨p2, hp2, h⟩ := zy_bind h
    refine zy_5 (c := 1) (as := [.int x2]) (rest := []) (L := [some (.ref (1 + 3)), some (.int x2)]) (d' := 2) rfl rfl rfl (Nat.le_of_ble_eq_true rfl) (Nat.le_of_ble_eq_true rfl) rfl (Nat.le_of_ble_eq_true rfl) rfl rfl (zyC86 hp2) ?_
    show zyR _ _ _ _ [some (.ref (16 + 3)), some (.int x1), some (.int x2), none] [.int p2.1] _ _
    refine zy_24_0 rfl (fun b7 => (show zyR _ _ _ _ [some (.ref (16 + 3)), some (.int x1), some (.int x2), none] [] _ _ from ?_)) (fun b7 => (show zyR _ _ _ _ [some (.ref (16 + 3)), some (.int x1), some (.int x2), none] [] _ _ from ?_))
    · replace h := zy_ifp h b7
      exact zy_sub (show zy_le [some (.ref (16 + 3)), some (.int x1), some (.int x2), none] [some (.ref (16 + 3)), some (.int x1), some (.int x2), none] from ⟨rfl, ⟨rfl, ⟨rfl, trivial⟩⟩⟩) (zyC94_47 hk4 h)
    · replace h := zy_ifn h b7
      refine zy_0 rfl rfl (show zyR _ _ _ _ [some (.ref (16 + 3)), some (.int x1), some (.int x2), none] [.ref (16 + 3)] _ _ from ?_)
      refine zy_0 rfl rfl (show zyR _ _ _ _ [some (.ref (16 + 3)), some (.int x1), some (.int x2), none] [.ref (16 + 3), .ref (16 + 3)] _ _ from ?_)
      refine zy_1r (c := 16) rfl rfl rfl (show zyR _ _ _ _ [some (.ref (16 + 3)), some (.int x1), some (.int x2), none] [.ref (1 + 3), .ref (16 + 3)] _ _ from ?_)
      obtain ⟨p3, hp3, h⟩ := zy_bind h
      refine zy_5 (c := 1) (as := []) (rest := [.ref (16 + 3)]) (L := [some (.ref (1 + 3))]) (d' := 1) rfl rfl rfl (Nat.le_of_ble_eq_true rfl) (Nat.le_of_ble_eq_true rfl) rfl (Nat.le_of_ble_eq_true rfl) rfl rfl (zyC51 hp3) ?_
      show zyR _ _ _ _ [some (.ref (16 + 3)), some (.int x1), some (.int x2), none] [.int p3.1, .ref (16 + 3)] _ _
      refine zy_0 rfl rfl (show zyR _ _ _ _ [some (.ref (16 + 3)), some (.int x1), some (.int x2), none] [.ref (16 + 3), .int p3.1, .ref (16 + 3)] _ _ from ?_)
      refine zy_2 rfl rfl (show zyR _ _ _ _ [some (.ref (16 + 3)), some (.int x1), some (.int x2), none] [.int x2, .ref (16 + 3), .int p3.1, .ref (16 + 3)] _ _ from ?_)
      obtain ⟨p4, hp4, h⟩ := zy_bind h
      refine zy_5 (c := 16) (as := [.int x2]) (rest := [.int p3.1, .ref (16 + 3)]) (L := [some (.ref (16 + 3)), some (.int x2), none, none]) (d' := 3) rfl rfl rfl (Nat.le_of_ble_eq_true rfl) (Nat.le_of_ble_eq_true rfl) rfl (Nat.le_of_ble_eq_true rfl) rfl rfl (zyC95 hp4) ?_
      show zyR _ _ _ _ [some (.ref (16 + 3)), some (.int x1), some (.int x2), none] [.int p4.1, .int p3.1, .ref (16 + 3)] _ _
      refine zy_3 rfl rfl (show zyR _ _ _ _ [some (.ref (16 + 3)), some (.int x1), some (.int x2), none] [.int (-1 : Int32), .int p4.1, .int p3.1, .ref (16 + 3)] _ _ from ?_)
      refine zy_15 rfl (show zyR _ _ _ _ [some (.ref (16 + 3)), some (.int x1), some (.int x2), none] [.int (p4.1 ^^^ (-1 : Int32)), .int p3.1, .ref (16 + 3)] _ _ from ?_)
      refine zy_13 rfl (show zyR _ _ _ _ [some (.ref (16 + 3)), some (.int x1), some (.int x2), none] [.int (p3.1 &&& (p4.1 ^^^ (-1 : Int32))), .ref (16 + 3)] _ _ from ?_)
      obtain ⟨p5, hp5, h⟩ := zy_bind h
      refine zy_5 (c := 16) (as := [.int (p3.1 &&& (p4.1 ^^^ (-1 : Int32)))]) (rest := []) (L := [some (.ref (16 + 3)), some (.int (p3.1 &&& (p4.1 ^^^ (-1 : Int32))))]) (d' := 3) rfl rfl rfl (Nat.le_of_ble_eq_true rfl) (Nat.le_of_ble_eq_true rfl) rfl (Nat.le_of_ble_eq_true rfl) rfl rfl (zyC97 hp5) ?_
      show zyR _ _ _ _ [some (.ref (16 + 3)), some (.int x1), some (.int x2), none] [.int p5.1] _ _
      refine zy_24_0 rfl (fun b6 => (show zyR _ _ _ _ [some (.ref (16 + 3)), some (.int x1), some (.int x2), none] [] _ _ from ?_)) (fun b6 => (show zyR _ _ _ _ [some (.ref (16 + 3)), some (.int x1), some (.int x2), none] [] _ _ from ?_))
      · replace h := zy_ifp h b6
        exact zy_sub (show zy_le [some (.ref (16 + 3)), some (.int x1), some (.int x2), none] [some (.ref (16 + 3)), some (.int x1), some (.int x2), none] from ⟨rfl, ⟨rfl, ⟨rfl, trivial⟩⟩⟩) (zyC94_47 hk4 h)
      · replace h := zy_ifn h b6
        refine zy_3 rfl rfl (show zyR _ _ _ _ [some (.ref (16 + 3)), some (.int x1), some (.int x2), none] [.int (1 : Int32)] _ _ from ?_)
        refine zy_6 rfl (show zyR _ _ _ _ [some (.ref (16 + 3)), some (.int x1), some (.int x2), none] [.int (1 : Int32)] _ _ from ?_)
        exact zy_sub (show zy_le [some (.ref (16 + 3)), some (.int x1), some (.int x2), none] [some (.ref (16 + 3)), some (.int x1), some (.int x2), none] from ⟨rfl, ⟨rfl, ⟨rfl, trivial⟩⟩⟩) (zyC94_48 hk4 h)
noncomputable def zyF94_4   (n : Nat) : Int32 → Int32 → zy_S → Option (Int32 × zy_S) := Nat.rec (fun _ _ _ => none) (fun _ k4 => zyF94_4b k4) n
theorem zyC94_4 {X : zx_X}     : ∀ (n : Nat) (x1 : Int32) (x2 : Int32) (s : zy_S) (r : Int32) (s' : zy_S), zyF94_4 n x1 x2 s = some (r, s') → zyR X 4 94 4 [some (.ref (16 + 3)), some (.int x1), some (.int x2), none] [] s (zyE (some (.int r)) s')
  | 0, _, _ => by
    intro s r s'  h
    have h : (none : Option (Int32 × zy_S)) = some (r, s') := h
    cases h
  | n + 1, x1, x2 => by
    intro s r s'  h
    exact zyC94_4b (k4 := zyF94_4 n) (fun x1 x2 s r s'  h => zyC94_4  n x1 x2 s r s'  h) h
noncomputable def zyF94    (s : zy_S) : Option (Int32 × zy_S) :=
zyF94_4 zy_fu (0 : Int32) (0 : Int32) s
theorem zyC94 {X : zx_X}      {s : zy_S} {r : Int32} {s' : zy_S}  (h : zyF94 s = some (r, s')) : zyR X 4 94 0 [some (.ref (16 + 3)), none, none, none] [] s (zyE (some (.int r)) s') := by
  unfold zyF94 at h
  refine zy_3 rfl rfl (show zyR _ _ _ _ [some (.ref (16 + 3)), none, none, none] [.int (0 : Int32)] _ _ from ?_)
  refine zy_23 rfl rfl (show zyR _ _ _ _ [some (.ref (16 + 3)), some (.int (0 : Int32)), none, none] [] _ _ from ?_)
  refine zy_3 rfl rfl (show zyR _ _ _ _ [some (.ref (16 + 3)), some (.int (0 : Int32)), none, none] [.int (0 : Int32)] _ _ from ?_)
  refine zy_23 rfl rfl (show zyR _ _ _ _ [some (.ref (16 + 3)), some (.int (0 : Int32)), some (.int (0 : Int32)), none] [] _ _ from ?_)
  exact zy_sub (show zy_le [some (.ref (16 + 3)), some (.int (0 : Int32)), some (.int (0 : Int32)), none] [some (.ref (16 + 3)), some (.int (0 : Int32)), some (.int (0 : Int32)), none] from ⟨rfl, ⟨rfl, ⟨rfl, trivial⟩⟩⟩) (zyC94_4 zy_fu (0 : Int32) (0 : Int32) s _ _ h)
