/-! PART 41.107: methods as functions. Made by wip/v4/dcp.py. -/
/-! NineOpinions$Thought.beginWithAll()V -/
noncomputable def zyF74    (s : zy_S) : Option (Int32 × zy_S) :=
(zyF51 s).bind fun p1 =>
(zyF52 p1.1 (0 : Int32) p1.2).bind fun p2 =>
some ((0 : Int32), p2.2)
theorem zyC74 {X : zx_X}      {s : zy_S} {r : Int32} {s' : zy_S}  (h : zyF74 s = some (r, s')) : zyR X 2 74 0 [some (.ref (12 + 3))] [] s (zyE none s') := by
  unfold zyF74 at h
  refine zy_0 rfl rfl (show zyR _ _ _ _ [some (.ref (12 + 3))] [.ref (12 + 3)] _ _ from ?_)
  refine zy_0 rfl rfl (show zyR _ _ _ _ [some (.ref (12 + 3))] [.ref (12 + 3), .ref (12 + 3)] _ _ from ?_)
  refine zy_1r (c := 12) rfl rfl rfl (show zyR _ _ _ _ [some (.ref (12 + 3))] [.ref (1 + 3), .ref (12 + 3)] _ _ from ?_)
  obtain ⟨p1, hp1, h⟩ := zy_bind h
  refine zy_5 (c := 1) (as := []) (rest := [.ref (12 + 3)]) (L := [some (.ref (1 + 3))]) (d' := 1) rfl rfl rfl (Nat.le_of_ble_eq_true rfl) (Nat.le_of_ble_eq_true rfl) rfl (Nat.le_of_ble_eq_true rfl) rfl rfl (zyC51 hp1) ?_
  show zyR _ _ _ _ [some (.ref (12 + 3))] [.int p1.1, .ref (12 + 3)] _ _
  refine zy_3 rfl rfl (show zyR _ _ _ _ [some (.ref (12 + 3))] [.int (0 : Int32), .int p1.1, .ref (12 + 3)] _ _ from ?_)
  obtain ⟨p2, hp2, h⟩ := zy_bind h
  refine zy_5 (c := 12) (as := [.int p1.1, .int (0 : Int32)]) (rest := []) (L := [some (.ref (12 + 3)), some (.int p1.1), some (.int (0 : Int32))]) (d' := 1) rfl rfl rfl (Nat.le_of_ble_eq_true rfl) (Nat.le_of_ble_eq_true rfl) rfl (Nat.le_of_ble_eq_true rfl) rfl rfl (zyC52 hp2) ?_
  show zyR _ _ _ _ [some (.ref (12 + 3))] [] _ _
  cases h
  exact zy_66 rfl ⟨rfl, rfl⟩
/-! NineOpinions$Thought.ifChanged(I)I -/
noncomputable def zyF73   (x1 : Int32) (s : zy_S) : Option (Int32 × zy_S) :=
(zyF74 s).bind fun p1 =>
(zyF54 ((p1.2.1 1 3) ^^^ ((1 : Int32) <<< (x1 &&& 31))) (p1.2.1 1 3) p1.2).bind fun p2 =>
some (p2.1, p2.2)
theorem zyC73 {X : zx_X}     {x1 : Int32} {s : zy_S} {r : Int32} {s' : zy_S}  (h : zyF73 x1 s = some (r, s')) : zyR X 7 73 0 [some (.ref (12 + 3)), some (.int x1)] [] s (zyE (some (.int r)) s') := by
  unfold zyF73 at h
  refine zy_0 rfl rfl (show zyR _ _ _ _ [some (.ref (12 + 3)), some (.int x1)] [.ref (12 + 3)] _ _ from ?_)
  obtain ⟨p1, hp1, h⟩ := zy_bind h
  refine zy_5 (c := 12) (as := []) (rest := []) (L := [some (.ref (12 + 3))]) (d' := 2) rfl rfl rfl (Nat.le_of_ble_eq_true rfl) (Nat.le_of_ble_eq_true rfl) rfl (Nat.le_of_ble_eq_true rfl) rfl rfl (zyC74 hp1) ?_
  show zyR _ _ _ _ [some (.ref (12 + 3)), some (.int x1)] [] _ _
  refine zy_0 rfl rfl (show zyR _ _ _ _ [some (.ref (12 + 3)), some (.int x1)] [.ref (12 + 3)] _ _ from ?_)
  refine zy_0 rfl rfl (show zyR _ _ _ _ [some (.ref (12 + 3)), some (.int x1)] [.ref (12 + 3), .ref (12 + 3)] _ _ from ?_)
  refine zy_1r (c := 12) rfl rfl rfl (show zyR _ _ _ _ [some (.ref (12 + 3)), some (.int x1)] [.ref (1 + 3), .ref (12 + 3)] _ _ from ?_)
  refine zy_1 (c := 1) rfl rfl rfl (show zyR _ _ _ _ [some (.ref (12 + 3)), some (.int x1)] [.int (p1.2.1 1 3), .ref (12 + 3)] _ _ from ?_)
  refine zy_3 rfl rfl (show zyR _ _ _ _ [some (.ref (12 + 3)), some (.int x1)] [.int (1 : Int32), .int (p1.2.1 1 3), .ref (12 + 3)] _ _ from ?_)
  refine zy_2 rfl rfl (show zyR _ _ _ _ [some (.ref (12 + 3)), some (.int x1)] [.int x1, .int (1 : Int32), .int (p1.2.1 1 3), .ref (12 + 3)] _ _ from ?_)
  refine zy_16 rfl (show zyR _ _ _ _ [some (.ref (12 + 3)), some (.int x1)] [.int ((1 : Int32) <<< (x1 &&& 31)), .int (p1.2.1 1 3), .ref (12 + 3)] _ _ from ?_)
  refine zy_15 rfl (show zyR _ _ _ _ [some (.ref (12 + 3)), some (.int x1)] [.int ((p1.2.1 1 3) ^^^ ((1 : Int32) <<< (x1 &&& 31))), .ref (12 + 3)] _ _ from ?_)
  refine zy_0 rfl rfl (show zyR _ _ _ _ [some (.ref (12 + 3)), some (.int x1)] [.ref (12 + 3), .int ((p1.2.1 1 3) ^^^ ((1 : Int32) <<< (x1 &&& 31))), .ref (12 + 3)] _ _ from ?_)
  refine zy_1r (c := 12) rfl rfl rfl (show zyR _ _ _ _ [some (.ref (12 + 3)), some (.int x1)] [.ref (1 + 3), .int ((p1.2.1 1 3) ^^^ ((1 : Int32) <<< (x1 &&& 31))), .ref (12 + 3)] _ _ from ?_)
  refine zy_1 (c := 1) rfl rfl rfl (show zyR _ _ _ _ [some (.ref (12 + 3)), some (.int x1)] [.int (p1.2.1 1 3), .int ((p1.2.1 1 3) ^^^ ((1 : Int32) <<< (x1 &&& 31))), .ref (12 + 3)] _ _ from ?_)
  obtain ⟨p2, hp2, h⟩ := zy_bind h
  refine zy_5 (c := 12) (as := [.int ((p1.2.1 1 3) ^^^ ((1 : Int32) <<< (x1 &&& 31))), .int (p1.2.1 1 3)]) (rest := []) (L := [some (.ref (12 + 3)), some (.int ((p1.2.1 1 3) ^^^ ((1 : Int32) <<< (x1 &&& 31)))), some (.int (p1.2.1 1 3)), none, none]) (d' := 6) rfl rfl rfl (Nat.le_of_ble_eq_true rfl) (Nat.le_of_ble_eq_true rfl) rfl (Nat.le_of_ble_eq_true rfl) rfl rfl (zyC54 hp2) ?_
  show zyR _ _ _ _ [some (.ref (12 + 3)), some (.int x1)] [.int p2.1] _ _
  obtain ⟨rfl, rfl⟩ := zy_pi h
  exact zy_4 rfl ⟨rfl, rfl⟩
/-! NineOpinions.ifLine(I)I -/
noncomputable def zyF72   (x1 : Int32) (s : zy_S) : Option (Int32 × zy_S) :=
(zyF26 x1 s).bind fun p1 =>
if p1.1 = 0 then
some ((-1 : Int32), p1.2)
else
(zyF73 x1 p1.2).bind fun p2 =>
some (p2.1, p2.2)
theorem zyC72 {X : zx_X}     {x1 : Int32} {s : zy_S} {r : Int32} {s' : zy_S}  (h : zyF72 x1 s = some (r, s')) : zyR X 8 72 0 [some (.ref (0 + 3)), some (.int x1)] [] s (zyE (some (.int r)) s') := by
  unfold zyF72 at h
  refine zy_2 rfl rfl (show zyR _ _ _ _ [some (.ref (0 + 3)), some (.int x1)] [.int x1] _ _ from ?_)
  obtain ⟨p1, hp1, h⟩ := zy_bind h
  refine zy_60 (as := [.int x1]) (rest := []) (L := [some (.int x1)]) (d' := 1) rfl rfl (Nat.le_of_ble_eq_true rfl) (Nat.le_of_ble_eq_true rfl) rfl (Nat.le_of_ble_eq_true rfl) rfl rfl (zyC26 hp1) ?_
  show zyR _ _ _ _ [some (.ref (0 + 3)), some (.int x1)] [.int p1.1] _ _
  refine zy_24_0 rfl (fun b3 => (show zyR _ _ _ _ [some (.ref (0 + 3)), some (.int x1)] [] _ _ from ?_)) (fun b3 => (show zyR _ _ _ _ [some (.ref (0 + 3)), some (.int x1)] [] _ _ from ?_))
  · replace h := zy_ifp h b3
    refine zy_3 rfl rfl (show zyR _ _ _ _ [some (.ref (0 + 3)), some (.int x1)] [.int (-1 : Int32)] _ _ from ?_)
    obtain ⟨rfl, rfl⟩ := zy_pi h
    exact zy_4 rfl ⟨rfl, rfl⟩
  · replace h := zy_ifn h b3
    refine zy_0 rfl rfl (show zyR _ _ _ _ [some (.ref (0 + 3)), some (.int x1)] [.ref (0 + 3)] _ _ from ?_)
    refine zy_1r (c := 0) rfl rfl rfl (show zyR _ _ _ _ [some (.ref (0 + 3)), some (.int x1)] [.ref (12 + 3)] _ _ from ?_)
    refine zy_2 rfl rfl (show zyR _ _ _ _ [some (.ref (0 + 3)), some (.int x1)] [.int x1, .ref (12 + 3)] _ _ from ?_)
    obtain ⟨p2, hp2, h⟩ := zy_bind h
    refine zy_5 (c := 12) (as := [.int x1]) (rest := []) (L := [some (.ref (12 + 3)), some (.int x1)]) (d' := 7) rfl rfl rfl (Nat.le_of_ble_eq_true rfl) (Nat.le_of_ble_eq_true rfl) rfl (Nat.le_of_ble_eq_true rfl) rfl rfl (zyC73 hp2) ?_
    show zyR _ _ _ _ [some (.ref (0 + 3)), some (.int x1)] [.int p2.1] _ _
    refine zy_6 rfl (show zyR _ _ _ _ [some (.ref (0 + 3)), some (.int x1)] [.int p2.1] _ _ from ?_)
    obtain ⟨rfl, rfl⟩ := zy_pi h
    exact zy_4 rfl ⟨rfl, rfl⟩
/-! NineOpinionsModel.mindsAll(II)I -/
noncomputable def zyF213_5b  (k5 : Int32 → Int32 → Int32 → Int32 → zy_S → Option (Int32 × zy_S)) (x1 : Int32) (x2 : Int32) (x3 : Int32) (x4 : Int32) (s : zy_S) : Option (Int32 × zy_S) :=
if (6 : Int32) ≤ x4 then
some (x3, s)
else
(zyF204 x1 x4 x2 s).bind fun p1 =>
k5 x1 x2 (x3 + p1.1) (x4 + (1 : Int32)) p1.2
theorem zyC213_5b {X : zx_X}  {k5 : Int32 → Int32 → Int32 → Int32 → zy_S → Option (Int32 × zy_S)}  (hk5 : ∀ (x1 : Int32) (x2 : Int32) (x3 : Int32) (x4 : Int32) (s : zy_S) (r : Int32) (s' : zy_S), k5 x1 x2 x3 x4 s = some (r, s') → zyR X 105 213 5 [some (.ref (43 + 3)), some (.int x1), some (.int x2), some (.int x3), some (.int x4)] [] s (zyE (some (.int r)) s')) {x1 : Int32} {x2 : Int32} {x3 : Int32} {x4 : Int32} {s : zy_S} {r : Int32} {s' : zy_S}  (h : zyF213_5b k5 x1 x2 x3 x4 s = some (r, s')) : zyR X 105 213 5 [some (.ref (43 + 3)), some (.int x1), some (.int x2), some (.int x3), some (.int x4)] [] s (zyE (some (.int r)) s') := by
  unfold zyF213_5b at h
  refine zy_2 rfl rfl (show zyR _ _ _ _ [some (.ref (43 + 3)), some (.int x1), some (.int x2), some (.int x3), some (.int x4)] [.int x4] _ _ from ?_)
  refine zy_3 rfl rfl (show zyR _ _ _ _ [some (.ref (43 + 3)), some (.int x1), some (.int x2), some (.int x3), some (.int x4)] [.int (6 : Int32), .int x4] _ _ from ?_)
  refine zy_25_3 rfl (fun b2 => (show zyR _ _ _ _ [some (.ref (43 + 3)), some (.int x1), some (.int x2), some (.int x3), some (.int x4)] [] _ _ from ?_)) (fun b2 => (show zyR _ _ _ _ [some (.ref (43 + 3)), some (.int x1), some (.int x2), some (.int x3), some (.int x4)] [] _ _ from ?_))
  · replace h := zy_ifp h b2
    refine zy_2 rfl rfl (show zyR _ _ _ _ [some (.ref (43 + 3)), some (.int x1), some (.int x2), some (.int x3), some (.int x4)] [.int x3] _ _ from ?_)
    obtain ⟨rfl, rfl⟩ := zy_pi h
    exact zy_4 rfl ⟨rfl, rfl⟩
  · replace h := zy_ifn h b2
    refine zy_2 rfl rfl (show zyR _ _ _ _ [some (.ref (43 + 3)), some (.int x1), some (.int x2), some (.int x3), some (.int x4)] [.int x3] _ _ from ?_)
    refine zy_0 rfl rfl (show zyR _ _ _ _ [some (.ref (43 + 3)), some (.int x1), some (.int x2), some (.int x3), some (.int x4)] [.ref (43 + 3), .int x3] _ _ from ?_)
    refine zy_2 rfl rfl (show zyR _ _ _ _ [some (.ref (43 + 3)), some (.int x1), some (.int x2), some (.int x3), some (.int x4)] [.int x1, .ref (43 + 3), .int x3] _ _ from ?_)
    refine zy_2 rfl rfl (show zyR _ _ _ _ [some (.ref (43 + 3)), some (.int x1), some (.int x2), some (.int x3), some (.int x4)] [.int x4, .int x1, .ref (43 + 3), .int x3] _ _ from ?_)
    refine zy_2 rfl rfl (show zyR _ _ _ _ [some (.ref (43 + 3)), some (.int x1), some (.int x2), some (.int x3), some (.int x4)] [.int x2, .int x4, .int x1, .ref (43 + 3), .int x3] _ _ from ?_)
    obtain ⟨p1, hp1, h⟩ := zy_bind h
    refine zy_5 (c := 43) (as := [.int x1, .int x4, .int x2]) (rest := [.int x3]) (L := [some (.ref (43 + 3)), some (.int x1), some (.int x4), some (.int x2), none, none, none, none, none]) (d' := 104) rfl rfl rfl (Nat.le_of_ble_eq_true rfl) (Nat.le_of_ble_eq_true rfl) rfl (Nat.le_of_ble_eq_true rfl) rfl rfl (zyC204 hp1) ?_
    show zyR _ _ _ _ [some (.ref (43 + 3)), some (.int x1), some (.int x2), some (.int x3), some (.int x4)] [.int p1.1, .int x3] _ _
    refine zy_10 rfl (show zyR _ _ _ _ [some (.ref (43 + 3)), some (.int x1), some (.int x2), some (.int x3), some (.int x4)] [.int (x3 + p1.1)] _ _ from ?_)
    refine zy_23 rfl rfl (show zyR _ _ _ _ [some (.ref (43 + 3)), some (.int x1), some (.int x2), some (.int (x3 + p1.1)), some (.int x4)] [] _ _ from ?_)
    refine zy_22 rfl rfl rfl rfl (show zyR _ _ _ _ [some (.ref (43 + 3)), some (.int x1), some (.int x2), some (.int (x3 + p1.1)), some (.int (x4 + (1 : Int32)))] [] _ _ from ?_)
    refine zy_6 rfl (show zyR _ _ _ _ [some (.ref (43 + 3)), some (.int x1), some (.int x2), some (.int (x3 + p1.1)), some (.int (x4 + (1 : Int32)))] [] _ _ from ?_)
    exact zy_sub (show zy_le [some (.ref (43 + 3)), some (.int x1), some (.int x2), some (.int (x3 + p1.1)), some (.int (x4 + (1 : Int32)))] [some (.ref (43 + 3)), some (.int x1), some (.int x2), some (.int (x3 + p1.1)), some (.int (x4 + (1 : Int32)))] from ⟨rfl, ⟨rfl, ⟨rfl, ⟨rfl, ⟨rfl, trivial⟩⟩⟩⟩⟩) (hk5 x1 x2 (x3 + p1.1) (x4 + (1 : Int32)) p1.2 _ _ h)
noncomputable def zyF213_5   (n : Nat) : Int32 → Int32 → Int32 → Int32 → zy_S → Option (Int32 × zy_S) := Nat.rec (fun _ _ _ _ _ => none) (fun _ k5 => zyF213_5b k5) n
theorem zyC213_5 {X : zx_X}     : ∀ (n : Nat) (x1 : Int32) (x2 : Int32) (x3 : Int32) (x4 : Int32) (s : zy_S) (r : Int32) (s' : zy_S), zyF213_5 n x1 x2 x3 x4 s = some (r, s') → zyR X 105 213 5 [some (.ref (43 + 3)), some (.int x1), some (.int x2), some (.int x3), some (.int x4)] [] s (zyE (some (.int r)) s')
  | 0, _, _, _, _ => by
    intro s r s'  h
    have h : (none : Option (Int32 × zy_S)) = some (r, s') := h
    cases h
  | n + 1, x1, x2, x3, x4 => by
    intro s r s'  h
    exact zyC213_5b (k5 := zyF213_5 n) (fun x1 x2 x3 x4 s r s'  h => zyC213_5  n x1 x2 x3 x4 s r s'  h) h
noncomputable def zyF213   (x1 : Int32) (x2 : Int32) (s : zy_S) : Option (Int32 × zy_S) :=
zyF213_5 zy_fu x1 x2 (0 : Int32) (0 : Int32) s
theorem zyC213 {X : zx_X}     {x1 : Int32} {x2 : Int32} {s : zy_S} {r : Int32} {s' : zy_S}  (h : zyF213 x1 x2 s = some (r, s')) : zyR X 105 213 0 [some (.ref (43 + 3)), some (.int x1), some (.int x2), none, none] [] s (zyE (some (.int r)) s') := by
  unfold zyF213 at h
  refine zy_3 rfl rfl (show zyR _ _ _ _ [some (.ref (43 + 3)), some (.int x1), some (.int x2), none, none] [.int (0 : Int32)] _ _ from ?_)
  refine zy_23 rfl rfl (show zyR _ _ _ _ [some (.ref (43 + 3)), some (.int x1), some (.int x2), some (.int (0 : Int32)), none] [] _ _ from ?_)
  refine zy_3 rfl rfl (show zyR _ _ _ _ [some (.ref (43 + 3)), some (.int x1), some (.int x2), some (.int (0 : Int32)), none] [.int (0 : Int32)] _ _ from ?_)
  refine zy_23 rfl rfl (show zyR _ _ _ _ [some (.ref (43 + 3)), some (.int x1), some (.int x2), some (.int (0 : Int32)), some (.int (0 : Int32))] [] _ _ from ?_)
  exact zy_sub (show zy_le [some (.ref (43 + 3)), some (.int x1), some (.int x2), some (.int (0 : Int32)), some (.int (0 : Int32))] [some (.ref (43 + 3)), some (.int x1), some (.int x2), some (.int (0 : Int32)), some (.int (0 : Int32))] from ⟨rfl, ⟨rfl, ⟨rfl, ⟨rfl, ⟨rfl, trivial⟩⟩⟩⟩⟩) (zyC213_5 zy_fu x1 x2 (0 : Int32) (0 : Int32) s _ _ h)
/-! NineOpinionsModel.allMind(I)I -/
noncomputable def zyF212_4b  (k4 : Int32 → Int32 → Int32 → zy_S → Option (Int32 × zy_S)) (x1 : Int32) (x2 : Int32) (x3 : Int32) (s : zy_S) : Option (Int32 × zy_S) :=
if (s.1 43 6) ≤ x3 then
some (x2, s)
else
(zyF213 x3 x1 s).bind fun p1 =>
k4 x1 (x2 + p1.1) (x3 + (1 : Int32)) p1.2
theorem zyC212_4b {X : zx_X}  {k4 : Int32 → Int32 → Int32 → zy_S → Option (Int32 × zy_S)}  (hk4 : ∀ (x1 : Int32) (x2 : Int32) (x3 : Int32) (s : zy_S) (r : Int32) (s' : zy_S), k4 x1 x2 x3 s = some (r, s') → zyR X 106 212 4 [some (.ref (43 + 3)), some (.int x1), some (.int x2), some (.int x3)] [] s (zyE (some (.int r)) s')) {x1 : Int32} {x2 : Int32} {x3 : Int32} {s : zy_S} {r : Int32} {s' : zy_S}  (h : zyF212_4b k4 x1 x2 x3 s = some (r, s')) : zyR X 106 212 4 [some (.ref (43 + 3)), some (.int x1), some (.int x2), some (.int x3)] [] s (zyE (some (.int r)) s') := by
  unfold zyF212_4b at h
  refine zy_2 rfl rfl (show zyR _ _ _ _ [some (.ref (43 + 3)), some (.int x1), some (.int x2), some (.int x3)] [.int x3] _ _ from ?_)
  refine zy_0 rfl rfl (show zyR _ _ _ _ [some (.ref (43 + 3)), some (.int x1), some (.int x2), some (.int x3)] [.ref (43 + 3), .int x3] _ _ from ?_)
  refine zy_1 (c := 43) rfl rfl rfl (show zyR _ _ _ _ [some (.ref (43 + 3)), some (.int x1), some (.int x2), some (.int x3)] [.int (s.1 43 6), .int x3] _ _ from ?_)
  refine zy_25_3 rfl (fun b2 => (show zyR _ _ _ _ [some (.ref (43 + 3)), some (.int x1), some (.int x2), some (.int x3)] [] _ _ from ?_)) (fun b2 => (show zyR _ _ _ _ [some (.ref (43 + 3)), some (.int x1), some (.int x2), some (.int x3)] [] _ _ from ?_))
  · replace h := zy_ifp h b2
    refine zy_2 rfl rfl (show zyR _ _ _ _ [some (.ref (43 + 3)), some (.int x1), some (.int x2), some (.int x3)] [.int x2] _ _ from ?_)
    obtain ⟨rfl, rfl⟩ := zy_pi h
    exact zy_4 rfl ⟨rfl, rfl⟩
  · replace h := zy_ifn h b2
    refine zy_2 rfl rfl (show zyR _ _ _ _ [some (.ref (43 + 3)), some (.int x1), some (.int x2), some (.int x3)] [.int x2] _ _ from ?_)
    refine zy_0 rfl rfl (show zyR _ _ _ _ [some (.ref (43 + 3)), some (.int x1), some (.int x2), some (.int x3)] [.ref (43 + 3), .int x2] _ _ from ?_)
    refine zy_2 rfl rfl (show zyR _ _ _ _ [some (.ref (43 + 3)), some (.int x1), some (.int x2), some (.int x3)] [.int x3, .ref (43 + 3), .int x2] _ _ from ?_)
    refine zy_2 rfl rfl (show zyR _ _ _ _ [some (.ref (43 + 3)), some (.int x1), some (.int x2), some (.int x3)] [.int x1, .int x3, .ref (43 + 3), .int x2] _ _ from ?_)
    obtain ⟨p1, hp1, h⟩ := zy_bind h
    refine zy_5 (c := 43) (as := [.int x3, .int x1]) (rest := [.int x2]) (L := [some (.ref (43 + 3)), some (.int x3), some (.int x1), none, none]) (d' := 105) rfl rfl rfl (Nat.le_of_ble_eq_true rfl) (Nat.le_of_ble_eq_true rfl) rfl (Nat.le_of_ble_eq_true rfl) rfl rfl (zyC213 hp1) ?_
    show zyR _ _ _ _ [some (.ref (43 + 3)), some (.int x1), some (.int x2), some (.int x3)] [.int p1.1, .int x2] _ _
    refine zy_10 rfl (show zyR _ _ _ _ [some (.ref (43 + 3)), some (.int x1), some (.int x2), some (.int x3)] [.int (x2 + p1.1)] _ _ from ?_)
    refine zy_23 rfl rfl (show zyR _ _ _ _ [some (.ref (43 + 3)), some (.int x1), some (.int (x2 + p1.1)), some (.int x3)] [] _ _ from ?_)
    refine zy_22 rfl rfl rfl rfl (show zyR _ _ _ _ [some (.ref (43 + 3)), some (.int x1), some (.int (x2 + p1.1)), some (.int (x3 + (1 : Int32)))] [] _ _ from ?_)
    refine zy_6 rfl (show zyR _ _ _ _ [some (.ref (43 + 3)), some (.int x1), some (.int (x2 + p1.1)), some (.int (x3 + (1 : Int32)))] [] _ _ from ?_)
    exact zy_sub (show zy_le [some (.ref (43 + 3)), some (.int x1), some (.int (x2 + p1.1)), some (.int (x3 + (1 : Int32)))] [some (.ref (43 + 3)), some (.int x1), some (.int (x2 + p1.1)), some (.int (x3 + (1 : Int32)))] from ⟨rfl, ⟨rfl, ⟨rfl, ⟨rfl, trivial⟩⟩⟩⟩) (hk4 x1 (x2 + p1.1) (x3 + (1 : Int32)) p1.2 _ _ h)
noncomputable def zyF212_4   (n : Nat) : Int32 → Int32 → Int32 → zy_S → Option (Int32 × zy_S) := Nat.rec (fun _ _ _ _ => none) (fun _ k4 => zyF212_4b k4) n
theorem zyC212_4 {X : zx_X}     : ∀ (n : Nat) (x1 : Int32) (x2 : Int32) (x3 : Int32) (s : zy_S) (r : Int32) (s' : zy_S), zyF212_4 n x1 x2 x3 s = some (r, s') → zyR X 106 212 4 [some (.ref (43 + 3)), some (.int x1), some (.int x2), some (.int x3)] [] s (zyE (some (.int r)) s')
  | 0, _, _, _ => by
    intro s r s'  h
    have h : (none : Option (Int32 × zy_S)) = some (r, s') := h
    cases h
  | n + 1, x1, x2, x3 => by
    intro s r s'  h
    exact zyC212_4b (k4 := zyF212_4 n) (fun x1 x2 x3 s r s'  h => zyC212_4  n x1 x2 x3 s r s'  h) h
noncomputable def zyF212   (x1 : Int32) (s : zy_S) : Option (Int32 × zy_S) :=
zyF212_4 zy_fu x1 (0 : Int32) (0 : Int32) s
theorem zyC212 {X : zx_X}     {x1 : Int32} {s : zy_S} {r : Int32} {s' : zy_S}  (h : zyF212 x1 s = some (r, s')) : zyR X 106 212 0 [some (.ref (43 + 3)), some (.int x1), none, none] [] s (zyE (some (.int r)) s') := by
  unfold zyF212 at h
  refine zy_3 rfl rfl (show zyR _ _ _ _ [some (.ref (43 + 3)), some (.int x1), none, none] [.int (0 : Int32)] _ _ from ?_)
  refine zy_23 rfl rfl (show zyR _ _ _ _ [some (.ref (43 + 3)), some (.int x1), some (.int (0 : Int32)), none] [] _ _ from ?_)
  refine zy_3 rfl rfl (show zyR _ _ _ _ [some (.ref (43 + 3)), some (.int x1), some (.int (0 : Int32)), none] [.int (0 : Int32)] _ _ from ?_)
  refine zy_23 rfl rfl (show zyR _ _ _ _ [some (.ref (43 + 3)), some (.int x1), some (.int (0 : Int32)), some (.int (0 : Int32))] [] _ _ from ?_)
  exact zy_sub (show zy_le [some (.ref (43 + 3)), some (.int x1), some (.int (0 : Int32)), some (.int (0 : Int32))] [some (.ref (43 + 3)), some (.int x1), some (.int (0 : Int32)), some (.int (0 : Int32))] from ⟨rfl, ⟨rfl, ⟨rfl, ⟨rfl, trivial⟩⟩⟩⟩) (zyC212_4 zy_fu x1 (0 : Int32) (0 : Int32) s _ _ h)
