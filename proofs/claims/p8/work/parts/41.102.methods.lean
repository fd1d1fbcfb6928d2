/-! PART 41.102: methods as functions. Made by wip/v4/dcp.py. -/
/-! NineOpinions$Thought.onMatter(III)I -/
noncomputable def zyF55_44   (x4 : Int32) (s : zy_S) : Option (Int32 × zy_S) :=
if zy_in x4 1536 then
some ((s.1 13 (x4).toNatClampNeg), s)
else none
theorem zyC55_44 {X : zx_X}     {x4 : Int32} {s : zy_S} {r : Int32} {s' : zy_S}  (h : zyF55_44 x4 s = some (r, s')) : zyR X 5 55 44 [some (.ref (12 + 3)), none, none, none, some (.int x4)] [] s (zyE (some (.int r)) s') := by
  unfold zyF55_44 at h
  refine zy_0 rfl rfl (show zyR _ _ _ _ [some (.ref (12 + 3)), none, none, none, some (.int x4)] [.ref (12 + 3)] _ _ from ?_)
  refine zy_1r (c := 12) rfl rfl rfl (show zyR _ _ _ _ [some (.ref (12 + 3)), none, none, none, some (.int x4)] [.ref (13 + 3)] _ _ from ?_)
  refine zy_2 rfl rfl (show zyR _ _ _ _ [some (.ref (12 + 3)), none, none, none, some (.int x4)] [.int x4, .ref (13 + 3)] _ _ from ?_)
  obtain ⟨c1, h⟩ := zy_if h
  refine zy_26 (c := 13) rfl rfl c1 (show zyR _ _ _ _ [some (.ref (12 + 3)), none, none, none, some (.int x4)] [.int (s.1 13 (x4).toNatClampNeg)] _ _ from ?_)
  obtain ⟨rfl, rfl⟩ := zy_pi h
  exact zy_4 rfl ⟨rfl, rfl⟩
noncomputable def zyF55   (x1 : Int32) (x2 : Int32) (x3 : Int32) (s : zy_S) : Option (Int32 × zy_S) :=
(zyF56 x1 x2 x3 s).bind fun p2 =>
if zy_in p2.1 1536 then
if (p2.2.1 13 (p2.1).toNatClampNeg) ≠ (-2000000000 : Int32) then
zyF55_44 p2.1 p2.2
else
(zyF57 x2 x1 p2.2).bind fun p4 =>
(zyF57 (x2 &&& x3) x1 p4.2).bind fun p5 =>
(zyF58 x1 p4.1 p5.1 p5.2).bind fun p6 =>
if zy_in p2.1 1536 then
zyF55_44 p2.1 (zy_up p6.2 13 (p2.1).toNatClampNeg p6.1)
else none
else none
theorem zyC55 {X : zx_X}     {x1 : Int32} {x2 : Int32} {x3 : Int32} {s : zy_S} {r : Int32} {s' : zy_S}  (h : zyF55 x1 x2 x3 s = some (r, s')) : zyR X 5 55 0 [some (.ref (12 + 3)), some (.int x1), some (.int x2), some (.int x3), none] [] s (zyE (some (.int r)) s') := by
  unfold zyF55 at h
  refine zy_2 rfl rfl (show zyR _ _ _ _ [some (.ref (12 + 3)), some (.int x1), some (.int x2), some (.int x3), none] [.int x1] _ _ from ?_)
  refine zy_2 rfl rfl (show zyR _ _ _ _ [some (.ref (12 + 3)), some (.int x1), some (.int x2), some (.int x3), none] [.int x2, .int x1] _ _ from ?_)
  refine zy_2 rfl rfl (show zyR _ _ _ _ [some (.ref (12 + 3)), some (.int x1), some (.int x2), some (.int x3), none] [.int x3, .int x2, .int x1] _ _ from ?_)
  obtain ⟨p2, hp2, h⟩ := zy_bind h
  refine zy_60 (as := [.int x1, .int x2, .int x3]) (rest := []) (L := [some (.int x1), some (.int x2), some (.int x3)]) (d' := 2) rfl rfl (Nat.le_of_ble_eq_true rfl) (Nat.le_of_ble_eq_true rfl) rfl (Nat.le_of_ble_eq_true rfl) rfl rfl (zyC56 hp2) ?_
  show zyR _ _ _ _ [some (.ref (12 + 3)), some (.int x1), some (.int x2), some (.int x3), none] [.int p2.1] _ _
  refine zy_23 rfl rfl (show zyR _ _ _ _ [some (.ref (12 + 3)), some (.int x1), some (.int x2), some (.int x3), some (.int p2.1)] [] _ _ from ?_)
  refine zy_0 rfl rfl (show zyR _ _ _ _ [some (.ref (12 + 3)), some (.int x1), some (.int x2), some (.int x3), some (.int p2.1)] [.ref (12 + 3)] _ _ from ?_)
  refine zy_1r (c := 12) rfl rfl rfl (show zyR _ _ _ _ [some (.ref (12 + 3)), some (.int x1), some (.int x2), some (.int x3), some (.int p2.1)] [.ref (13 + 3)] _ _ from ?_)
  refine zy_2 rfl rfl (show zyR _ _ _ _ [some (.ref (12 + 3)), some (.int x1), some (.int x2), some (.int x3), some (.int p2.1)] [.int p2.1, .ref (13 + 3)] _ _ from ?_)
  obtain ⟨c3, h⟩ := zy_if h
  refine zy_26 (c := 13) rfl rfl c3 (show zyR _ _ _ _ [some (.ref (12 + 3)), some (.int x1), some (.int x2), some (.int x3), some (.int p2.1)] [.int (p2.2.1 13 (p2.1).toNatClampNeg)] _ _ from ?_)
  refine zy_3c rfl rfl (show zyR _ _ _ _ [some (.ref (12 + 3)), some (.int x1), some (.int x2), some (.int x3), some (.int p2.1)] [.int (-2000000000 : Int32), .int (p2.2.1 13 (p2.1).toNatClampNeg)] _ _ from ?_)
  refine zy_25_1 rfl (fun b8 => (show zyR _ _ _ _ [some (.ref (12 + 3)), some (.int x1), some (.int x2), some (.int x3), some (.int p2.1)] [] _ _ from ?_)) (fun b8 => (show zyR _ _ _ _ [some (.ref (12 + 3)), some (.int x1), some (.int x2), some (.int x3), some (.int p2.1)] [] _ _ from ?_))
  · replace h := zy_ifp h b8
    exact zy_sub (show zy_le [some (.ref (12 + 3)), none, none, none, some (.int p2.1)] [some (.ref (12 + 3)), some (.int x1), some (.int x2), some (.int x3), some (.int p2.1)] from ⟨rfl, ⟨rfl, trivial⟩⟩) (zyC55_44 h)
  · replace h := zy_ifn h b8
    refine zy_0 rfl rfl (show zyR _ _ _ _ [some (.ref (12 + 3)), some (.int x1), some (.int x2), some (.int x3), some (.int p2.1)] [.ref (12 + 3)] _ _ from ?_)
    refine zy_1r (c := 12) rfl rfl rfl (show zyR _ _ _ _ [some (.ref (12 + 3)), some (.int x1), some (.int x2), some (.int x3), some (.int p2.1)] [.ref (13 + 3)] _ _ from ?_)
    refine zy_2 rfl rfl (show zyR _ _ _ _ [some (.ref (12 + 3)), some (.int x1), some (.int x2), some (.int x3), some (.int p2.1)] [.int p2.1, .ref (13 + 3)] _ _ from ?_)
    refine zy_0 rfl rfl (show zyR _ _ _ _ [some (.ref (12 + 3)), some (.int x1), some (.int x2), some (.int x3), some (.int p2.1)] [.ref (12 + 3), .int p2.1, .ref (13 + 3)] _ _ from ?_)
    refine zy_2 rfl rfl (show zyR _ _ _ _ [some (.ref (12 + 3)), some (.int x1), some (.int x2), some (.int x3), some (.int p2.1)] [.int x1, .ref (12 + 3), .int p2.1, .ref (13 + 3)] _ _ from ?_)
    refine zy_2 rfl rfl (show zyR _ _ _ _ [some (.ref (12 + 3)), some (.int x1), some (.int x2), some (.int x3), some (.int p2.1)] [.int x2, .int x1, .ref (12 + 3), .int p2.1, .ref (13 + 3)] _ _ from ?_)
    refine zy_2 rfl rfl (show zyR _ _ _ _ [some (.ref (12 + 3)), some (.int x1), some (.int x2), some (.int x3), some (.int p2.1)] [.int x1, .int x2, .int x1, .ref (12 + 3), .int p2.1, .ref (13 + 3)] _ _ from ?_)
    obtain ⟨p4, hp4, h⟩ := zy_bind h
    refine zy_61 (as := [.int x2, .int x1]) (rest := [.int x1, .ref (12 + 3), .int p2.1, .ref (13 + 3)]) (L := [some (.int x2), some (.int x1)]) (d' := 1) rfl rfl (Nat.le_of_ble_eq_true rfl) (Nat.le_of_ble_eq_true rfl) rfl (Nat.le_of_ble_eq_true rfl) rfl rfl (zyC57 hp4) ?_
    show zyR _ _ _ _ [some (.ref (12 + 3)), some (.int x1), some (.int x2), some (.int x3), some (.int p2.1)] [.int p4.1, .int x1, .ref (12 + 3), .int p2.1, .ref (13 + 3)] _ _
    refine zy_2 rfl rfl (show zyR _ _ _ _ [some (.ref (12 + 3)), some (.int x1), some (.int x2), some (.int x3), some (.int p2.1)] [.int x2, .int p4.1, .int x1, .ref (12 + 3), .int p2.1, .ref (13 + 3)] _ _ from ?_)
    refine zy_2 rfl rfl (show zyR _ _ _ _ [some (.ref (12 + 3)), some (.int x1), some (.int x2), some (.int x3), some (.int p2.1)] [.int x3, .int x2, .int p4.1, .int x1, .ref (12 + 3), .int p2.1, .ref (13 + 3)] _ _ from ?_)
    refine zy_13 rfl (show zyR _ _ _ _ [some (.ref (12 + 3)), some (.int x1), some (.int x2), some (.int x3), some (.int p2.1)] [.int (x2 &&& x3), .int p4.1, .int x1, .ref (12 + 3), .int p2.1, .ref (13 + 3)] _ _ from ?_)
    refine zy_2 rfl rfl (show zyR _ _ _ _ [some (.ref (12 + 3)), some (.int x1), some (.int x2), some (.int x3), some (.int p2.1)] [.int x1, .int (x2 &&& x3), .int p4.1, .int x1, .ref (12 + 3), .int p2.1, .ref (13 + 3)] _ _ from ?_)
    obtain ⟨p5, hp5, h⟩ := zy_bind h
    refine zy_61 (as := [.int (x2 &&& x3), .int x1]) (rest := [.int p4.1, .int x1, .ref (12 + 3), .int p2.1, .ref (13 + 3)]) (L := [some (.int (x2 &&& x3)), some (.int x1)]) (d' := 1) rfl rfl (Nat.le_of_ble_eq_true rfl) (Nat.le_of_ble_eq_true rfl) rfl (Nat.le_of_ble_eq_true rfl) rfl rfl (zyC57 hp5) ?_
    show zyR _ _ _ _ [some (.ref (12 + 3)), some (.int x1), some (.int x2), some (.int x3), some (.int p2.1)] [.int p5.1, .int p4.1, .int x1, .ref (12 + 3), .int p2.1, .ref (13 + 3)] _ _
    obtain ⟨p6, hp6, h⟩ := zy_bind h
    refine zy_5 (c := 12) (as := [.int x1, .int p4.1, .int p5.1]) (rest := [.int p2.1, .ref (13 + 3)]) (L := [some (.ref (12 + 3)), some (.int x1), some (.int p4.1), some (.int p5.1), none, none, none]) (d' := 4) rfl rfl rfl (Nat.le_of_ble_eq_true rfl) (Nat.le_of_ble_eq_true rfl) rfl (Nat.le_of_ble_eq_true rfl) rfl rfl (zyC58 hp6) ?_
    show zyR _ _ _ _ [some (.ref (12 + 3)), some (.int x1), some (.int x2), some (.int x3), some (.int p2.1)] [.int p6.1, .int p2.1, .ref (13 + 3)] _ _
    obtain ⟨c7, h⟩ := zy_if h
    refine zy_27 (c := 13) rfl rfl c7 (show zyR _ _ _ _ [some (.ref (12 + 3)), some (.int x1), some (.int x2), some (.int x3), some (.int p2.1)] [] _ _ from ?_)
    exact zy_sub (show zy_le [some (.ref (12 + 3)), none, none, none, some (.int p2.1)] [some (.ref (12 + 3)), some (.int x1), some (.int x2), some (.int x3), some (.int p2.1)] from ⟨rfl, ⟨rfl, trivial⟩⟩) (zyC55_44 h)
/-! NineOpinions$Thought.inAll(II)I -/
noncomputable def zyF54_5b  (k5 : Int32 → Int32 → Int32 → Int32 → zy_S → Option (Int32 × zy_S)) (x1 : Int32) (x2 : Int32) (x3 : Int32) (x4 : Int32) (s : zy_S) : Option (Int32 × zy_S) :=
if (6 : Int32) ≤ x4 then
some (x3, s)
else
(zyF55 x4 x1 x2 s).bind fun p1 =>
k5 x1 x2 (x3 + p1.1) (x4 + (1 : Int32)) p1.2
theorem zyC54_5b {X : zx_X}  {k5 : Int32 → Int32 → Int32 → Int32 → zy_S → Option (Int32 × zy_S)}  (hk5 : ∀ (x1 : Int32) (x2 : Int32) (x3 : Int32) (x4 : Int32) (s : zy_S) (r : Int32) (s' : zy_S), k5 x1 x2 x3 x4 s = some (r, s') → zyR X 6 54 5 [some (.ref (12 + 3)), some (.int x1), some (.int x2), some (.int x3), some (.int x4)] [] s (zyE (some (.int r)) s')) {x1 : Int32} {x2 : Int32} {x3 : Int32} {x4 : Int32} {s : zy_S} {r : Int32} {s' : zy_S}  (h : zyF54_5b k5 x1 x2 x3 x4 s = some (r, s')) : zyR X 6 54 5 [some (.ref (12 + 3)), some (.int x1), some (.int x2), some (.int x3), some (.int x4)] [] s (zyE (some (.int r)) s') := by
  unfold zyF54_5b at h
  refine zy_2 rfl rfl (show zyR _ _ _ _ [some (.ref (12 + 3)), some (.int x1), some (.int x2), some (.int x3), some (.int x4)] [.int x4] _ _ from ?_)
  refine zy_3 rfl rfl (show zyR _ _ _ _ [some (.ref (12 + 3)), some (.int x1), some (.int x2), some (.int x3), some (.int x4)] [.int (6 : Int32), .int x4] _ _ from ?_)
  refine zy_25_3 rfl (fun b2 => (show zyR _ _ _ _ [some (.ref (12 + 3)), some (.int x1), some (.int x2), some (.int x3), some (.int x4)] [] _ _ from ?_)) (fun b2 => (show zyR _ _ _ _ [some (.ref (12 + 3)), some (.int x1), some (.int x2), some (.int x3), some (.int x4)] [] _ _ from ?_))
  · replace h := zy_ifp h b2
    refine zy_2 rfl rfl (show zyR _ _ _ _ [some (.ref (12 + 3)), some (.int x1), some (.int x2), some (.int x3), some (.int x4)] [.int x3] _ _ from ?_)
    obtain ⟨rfl, rfl⟩ := zy_pi h
    exact zy_4 rfl ⟨rfl, rfl⟩
  · replace h := zy_ifn h b2
    refine zy_2 rfl rfl (show zyR _ _ _ _ [some (.ref (12 + 3)), some (.int x1), some (.int x2), some (.int x3), some (.int x4)] [.int x3] _ _ from ?_)
    refine zy_0 rfl rfl (show zyR _ _ _ _ [some (.ref (12 + 3)), some (.int x1), some (.int x2), some (.int x3), some (.int x4)] [.ref (12 + 3), .int x3] _ _ from ?_)
    refine zy_2 rfl rfl (show zyR _ _ _ _ [some (.ref (12 + 3)), some (.int x1), some (.int x2), some (.int x3), some (.int x4)] [.int x4, .ref (12 + 3), .int x3] _ _ from ?_)
    refine zy_2 rfl rfl (show zyR _ _ _ _ [some (.ref (12 + 3)), some (.int x1), some (.int x2), some (.int x3), some (.int x4)] [.int x1, .int x4, .ref (12 + 3), .int x3] _ _ from ?_)
    refine zy_2 rfl rfl (show zyR _ _ _ _ [some (.ref (12 + 3)), some (.int x1), some (.int x2), some (.int x3), some (.int x4)] [.int x2, .int x1, .int x4, .ref (12 + 3), .int x3] _ _ from ?_)
    obtain ⟨p1, hp1, h⟩ := zy_bind h
    refine zy_5 (c := 12) (as := [.int x4, .int x1, .int x2]) (rest := [.int x3]) (L := [some (.ref (12 + 3)), some (.int x4), some (.int x1), some (.int x2), none]) (d' := 5) rfl rfl rfl (Nat.le_of_ble_eq_true rfl) (Nat.le_of_ble_eq_true rfl) rfl (Nat.le_of_ble_eq_true rfl) rfl rfl (zyC55 hp1) ?_
    show zyR _ _ _ _ [some (.ref (12 + 3)), some (.int x1), some (.int x2), some (.int x3), some (.int x4)] [.int p1.1, .int x3] _ _
    refine zy_10 rfl (show zyR _ _ _ _ [some (.ref (12 + 3)), some (.int x1), some (.int x2), some (.int x3), some (.int x4)] [.int (x3 + p1.1)] _ _ from ?_)
    refine zy_23 rfl rfl (show zyR _ _ _ _ [some (.ref (12 + 3)), some (.int x1), some (.int x2), some (.int (x3 + p1.1)), some (.int x4)] [] _ _ from ?_)
    refine zy_22 rfl rfl rfl rfl (show zyR _ _ _ _ [some (.ref (12 + 3)), some (.int x1), some (.int x2), some (.int (x3 + p1.1)), some (.int (x4 + (1 : Int32)))] [] _ _ from ?_)
    refine zy_6 rfl (show zyR _ _ _ _ [some (.ref (12 + 3)), some (.int x1), some (.int x2), some (.int (x3 + p1.1)), some (.int (x4 + (1 : Int32)))] [] _ _ from ?_)
    exact zy_sub (show zy_le [some (.ref (12 + 3)), some (.int x1), some (.int x2), some (.int (x3 + p1.1)), some (.int (x4 + (1 : Int32)))] [some (.ref (12 + 3)), some (.int x1), some (.int x2), some (.int (x3 + p1.1)), some (.int (x4 + (1 : Int32)))] from ⟨rfl, ⟨rfl, ⟨rfl, ⟨rfl, ⟨rfl, trivial⟩⟩⟩⟩⟩) (hk5 x1 x2 (x3 + p1.1) (x4 + (1 : Int32)) p1.2 _ _ h)
noncomputable def zyF54_5   (n : Nat) : Int32 → Int32 → Int32 → Int32 → zy_S → Option (Int32 × zy_S) := Nat.rec (fun _ _ _ _ _ => none) (fun _ k5 => zyF54_5b k5) n
theorem zyC54_5 {X : zx_X}     : ∀ (n : Nat) (x1 : Int32) (x2 : Int32) (x3 : Int32) (x4 : Int32) (s : zy_S) (r : Int32) (s' : zy_S), zyF54_5 n x1 x2 x3 x4 s = some (r, s') → zyR X 6 54 5 [some (.ref (12 + 3)), some (.int x1), some (.int x2), some (.int x3), some (.int x4)] [] s (zyE (some (.int r)) s')
  | 0, _, _, _, _ => by
    intro s r s'  h
    have h : (none : Option (Int32 × zy_S)) = some (r, s') := h
    cases h
  | n + 1, x1, x2, x3, x4 => by
    intro s r s'  h
    exact zyC54_5b (k5 := zyF54_5 n) (fun x1 x2 x3 x4 s r s'  h => zyC54_5  n x1 x2 x3 x4 s r s'  h) h
noncomputable def zyF54   (x1 : Int32) (x2 : Int32) (s : zy_S) : Option (Int32 × zy_S) :=
zyF54_5 zy_fu x1 x2 (0 : Int32) (0 : Int32) s
theorem zyC54 {X : zx_X}     {x1 : Int32} {x2 : Int32} {s : zy_S} {r : Int32} {s' : zy_S}  (h : zyF54 x1 x2 s = some (r, s')) : zyR X 6 54 0 [some (.ref (12 + 3)), some (.int x1), some (.int x2), none, none] [] s (zyE (some (.int r)) s') := by
  unfold zyF54 at h
  refine zy_3 rfl rfl (show zyR _ _ _ _ [some (.ref (12 + 3)), some (.int x1), some (.int x2), none, none] [.int (0 : Int32)] _ _ from ?_)
  refine zy_23 rfl rfl (show zyR _ _ _ _ [some (.ref (12 + 3)), some (.int x1), some (.int x2), some (.int (0 : Int32)), none] [] _ _ from ?_)
  refine zy_3 rfl rfl (show zyR _ _ _ _ [some (.ref (12 + 3)), some (.int x1), some (.int x2), some (.int (0 : Int32)), none] [.int (0 : Int32)] _ _ from ?_)
  refine zy_23 rfl rfl (show zyR _ _ _ _ [some (.ref (12 + 3)), some (.int x1), some (.int x2), some (.int (0 : Int32)), some (.int (0 : Int32))] [] _ _ from ?_)
  exact zy_sub (show zy_le [some (.ref (12 + 3)), some (.int x1), some (.int x2), some (.int (0 : Int32)), some (.int (0 : Int32))] [some (.ref (12 + 3)), some (.int x1), some (.int x2), some (.int (0 : Int32)), some (.int (0 : Int32))] from ⟨rfl, ⟨rfl, ⟨rfl, ⟨rfl, ⟨rfl, trivial⟩⟩⟩⟩⟩) (zyC54_5 zy_fu x1 x2 (0 : Int32) (0 : Int32) s _ _ h)
