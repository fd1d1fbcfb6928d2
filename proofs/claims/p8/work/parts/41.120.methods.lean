/-! PART 41.120: methods as functions. Made by wip/v4/dcp.py. -/
/-! NineOpinions$Thought.weighAllBoards()V -/
noncomputable def zyF77_14b  (k6 : Int32 → zy_S → Option (Int32 × zy_S)) (k14 : Int32 → Int32 → zy_S → Option (Int32 × zy_S)) (x1 : Int32) (x2 : Int32) (s : zy_S) : Option (Int32 × zy_S) :=
if (16 : Int32) ≤ x2 then
k6 (x1 + (1 : Int32)) s
else
(zyF55 x1 (x2 <<< (((4 : Int32) * x1) &&& 31)) (s.1 1 3) s).bind fun p1 =>
k14 x1 (x2 + (1 : Int32)) p1.2
theorem zyC77_14b {X : zx_X}  {k6 : Int32 → zy_S → Option (Int32 × zy_S)} {k14 : Int32 → Int32 → zy_S → Option (Int32 × zy_S)}  (hk6 : ∀ (x1 : Int32) (s : zy_S) (r : Int32) (s' : zy_S), k6 x1 s = some (r, s') → zyR X 6 77 6 [some (.ref (12 + 3)), some (.int x1), none] [] s (zyE none s')) (hk14 : ∀ (x1 : Int32) (x2 : Int32) (s : zy_S) (r : Int32) (s' : zy_S), k14 x1 x2 s = some (r, s') → zyR X 6 77 14 [some (.ref (12 + 3)), some (.int x1), some (.int x2)] [] s (zyE none s')) {x1 : Int32} {x2 : Int32} {s : zy_S} {r : Int32} {s' : zy_S}  (h : zyF77_14b k6 k14 x1 x2 s = some (r, s')) : zyR X 6 77 14 [some (.ref (12 + 3)), some (.int x1), some (.int x2)] [] s (zyE none s') := by
  unfold zyF77_14b at h
  refine zy_2 rfl rfl (show zyR _ _ _ _ [some (.ref (12 + 3)), some (.int x1), some (.int x2)] [.int x2] _ _ from ?_)
  refine zy_3 rfl rfl (show zyR _ _ _ _ [some (.ref (12 + 3)), some (.int x1), some (.int x2)] [.int (16 : Int32), .int x2] _ _ from ?_)
  refine zy_25_3 rfl (fun b2 => (show zyR _ _ _ _ [some (.ref (12 + 3)), some (.int x1), some (.int x2)] [] _ _ from ?_)) (fun b2 => (show zyR _ _ _ _ [some (.ref (12 + 3)), some (.int x1), some (.int x2)] [] _ _ from ?_))
  · replace h := zy_ifp h b2
    refine zy_22 rfl rfl rfl rfl (show zyR _ _ _ _ [some (.ref (12 + 3)), some (.int (x1 + (1 : Int32))), some (.int x2)] [] _ _ from ?_)
    refine zy_6 rfl (show zyR _ _ _ _ [some (.ref (12 + 3)), some (.int (x1 + (1 : Int32))), some (.int x2)] [] _ _ from ?_)
    exact zy_sub (show zy_le [some (.ref (12 + 3)), some (.int (x1 + (1 : Int32))), none] [some (.ref (12 + 3)), some (.int (x1 + (1 : Int32))), some (.int x2)] from ⟨rfl, ⟨rfl, trivial⟩⟩) (hk6 (x1 + (1 : Int32)) s _ _ h)
  · replace h := zy_ifn h b2
    refine zy_0 rfl rfl (show zyR _ _ _ _ [some (.ref (12 + 3)), some (.int x1), some (.int x2)] [.ref (12 + 3)] _ _ from ?_)
    refine zy_2 rfl rfl (show zyR _ _ _ _ [some (.ref (12 + 3)), some (.int x1), some (.int x2)] [.int x1, .ref (12 + 3)] _ _ from ?_)
    refine zy_2 rfl rfl (show zyR _ _ _ _ [some (.ref (12 + 3)), some (.int x1), some (.int x2)] [.int x2, .int x1, .ref (12 + 3)] _ _ from ?_)
    refine zy_3 rfl rfl (show zyR _ _ _ _ [some (.ref (12 + 3)), some (.int x1), some (.int x2)] [.int (4 : Int32), .int x2, .int x1, .ref (12 + 3)] _ _ from ?_)
    refine zy_2 rfl rfl (show zyR _ _ _ _ [some (.ref (12 + 3)), some (.int x1), some (.int x2)] [.int x1, .int (4 : Int32), .int x2, .int x1, .ref (12 + 3)] _ _ from ?_)
    refine zy_12 rfl (show zyR _ _ _ _ [some (.ref (12 + 3)), some (.int x1), some (.int x2)] [.int ((4 : Int32) * x1), .int x2, .int x1, .ref (12 + 3)] _ _ from ?_)
    refine zy_16 rfl (show zyR _ _ _ _ [some (.ref (12 + 3)), some (.int x1), some (.int x2)] [.int (x2 <<< (((4 : Int32) * x1) &&& 31)), .int x1, .ref (12 + 3)] _ _ from ?_)
    refine zy_0 rfl rfl (show zyR _ _ _ _ [some (.ref (12 + 3)), some (.int x1), some (.int x2)] [.ref (12 + 3), .int (x2 <<< (((4 : Int32) * x1) &&& 31)), .int x1, .ref (12 + 3)] _ _ from ?_)
    refine zy_1r (c := 12) rfl rfl rfl (show zyR _ _ _ _ [some (.ref (12 + 3)), some (.int x1), some (.int x2)] [.ref (1 + 3), .int (x2 <<< (((4 : Int32) * x1) &&& 31)), .int x1, .ref (12 + 3)] _ _ from ?_)
    refine zy_1 (c := 1) rfl rfl rfl (show zyR _ _ _ _ [some (.ref (12 + 3)), some (.int x1), some (.int x2)] [.int (s.1 1 3), .int (x2 <<< (((4 : Int32) * x1) &&& 31)), .int x1, .ref (12 + 3)] _ _ from ?_)
    obtain ⟨p1, hp1, h⟩ := zy_bind h
    refine zy_5 (c := 12) (as := [.int x1, .int (x2 <<< (((4 : Int32) * x1) &&& 31)), .int (s.1 1 3)]) (rest := []) (L := [some (.ref (12 + 3)), some (.int x1), some (.int (x2 <<< (((4 : Int32) * x1) &&& 31))), some (.int (s.1 1 3)), none]) (d' := 5) rfl rfl rfl (Nat.le_of_ble_eq_true rfl) (Nat.le_of_ble_eq_true rfl) rfl (Nat.le_of_ble_eq_true rfl) rfl rfl (zyC55 hp1) ?_
    show zyR _ _ _ _ [some (.ref (12 + 3)), some (.int x1), some (.int x2)] [.int p1.1] _ _
    refine zy_34 rfl rfl (show zyR _ _ _ _ [some (.ref (12 + 3)), some (.int x1), some (.int x2)] [] _ _ from ?_)
    refine zy_22 rfl rfl rfl rfl (show zyR _ _ _ _ [some (.ref (12 + 3)), some (.int x1), some (.int (x2 + (1 : Int32)))] [] _ _ from ?_)
    refine zy_6 rfl (show zyR _ _ _ _ [some (.ref (12 + 3)), some (.int x1), some (.int (x2 + (1 : Int32)))] [] _ _ from ?_)
    exact zy_sub (show zy_le [some (.ref (12 + 3)), some (.int x1), some (.int (x2 + (1 : Int32)))] [some (.ref (12 + 3)), some (.int x1), some (.int (x2 + (1 : Int32)))] from ⟨rfl, ⟨rfl, ⟨rfl, trivial⟩⟩⟩) (hk14 x1 (x2 + (1 : Int32)) p1.2 _ _ h)
noncomputable def zyF77_14  (k6 : Int32 → zy_S → Option (Int32 × zy_S)) (n : Nat) : Int32 → Int32 → zy_S → Option (Int32 × zy_S) := Nat.rec (fun _ _ _ => none) (fun _ k14 => zyF77_14b k6 k14) n
theorem zyC77_14 {X : zx_X}  {k6 : Int32 → zy_S → Option (Int32 × zy_S)}  (hk6 : ∀ (x1 : Int32) (s : zy_S) (r : Int32) (s' : zy_S), k6 x1 s = some (r, s') → zyR X 6 77 6 [some (.ref (12 + 3)), some (.int x1), none] [] s (zyE none s')) : ∀ (n : Nat) (x1 : Int32) (x2 : Int32) (s : zy_S) (r : Int32) (s' : zy_S), zyF77_14 k6 n x1 x2 s = some (r, s') → zyR X 6 77 14 [some (.ref (12 + 3)), some (.int x1), some (.int x2)] [] s (zyE none s')
  | 0, _, _ => by
    intro s r s'  h
    have h : (none : Option (Int32 × zy_S)) = some (r, s') := h
    cases h
  | n + 1, x1, x2 => by
    intro s r s'  h
    exact zyC77_14b (k14 := zyF77_14 k6 n) hk6 (fun x1 x2 s r s'  h => zyC77_14 hk6 n x1 x2 s r s'  h) h
noncomputable def zyF77_6b  (k6 : Int32 → zy_S → Option (Int32 × zy_S)) (x1 : Int32) (s : zy_S) : Option (Int32 × zy_S) :=
if (6 : Int32) ≤ x1 then
(zyF78 s).bind fun p3 =>
some ((0 : Int32), p3.2)
else
zyF77_14 k6 zy_fu x1 (0 : Int32) s
theorem zyC77_6b {X : zx_X}  {k6 : Int32 → zy_S → Option (Int32 × zy_S)}  (hk6 : ∀ (x1 : Int32) (s : zy_S) (r : Int32) (s' : zy_S), k6 x1 s = some (r, s') → zyR X 6 77 6 [some (.ref (12 + 3)), some (.int x1), none] [] s (zyE none s')) {x1 : Int32} {s : zy_S} {r : Int32} {s' : zy_S}  (h : zyF77_6b k6 x1 s = some (r, s')) : zyR X 6 77 6 [some (.ref (12 + 3)), some (.int x1), none] [] s (zyE none s') := by
  unfold zyF77_6b at h
  refine zy_2 rfl rfl (show zyR _ _ _ _ [some (.ref (12 + 3)), some (.int x1), none] [.int x1] _ _ from ?_)
  refine zy_3 rfl rfl (show zyR _ _ _ _ [some (.ref (12 + 3)), some (.int x1), none] [.int (6 : Int32), .int x1] _ _ from ?_)
  refine zy_25_3 rfl (fun b4 => (show zyR _ _ _ _ [some (.ref (12 + 3)), some (.int x1), none] [] _ _ from ?_)) (fun b4 => (show zyR _ _ _ _ [some (.ref (12 + 3)), some (.int x1), none] [] _ _ from ?_))
  · replace h := zy_ifp h b4
    refine zy_0 rfl rfl (show zyR _ _ _ _ [some (.ref (12 + 3)), some (.int x1), none] [.ref (12 + 3)] _ _ from ?_)
    obtain ⟨p3, hp3, h⟩ := zy_bind h
    refine zy_5 (c := 12) (as := []) (rest := []) (L := [some (.ref (12 + 3)), none, none]) (d' := 5) rfl rfl rfl (Nat.le_of_ble_eq_true rfl) (Nat.le_of_ble_eq_true rfl) rfl (Nat.le_of_ble_eq_true rfl) rfl rfl (zyC78 hp3) ?_
    show zyR _ _ _ _ [some (.ref (12 + 3)), some (.int x1), none] [] _ _
    cases h
    exact zy_66 rfl ⟨rfl, rfl⟩
  · replace h := zy_ifn h b4
    refine zy_3 rfl rfl (show zyR _ _ _ _ [some (.ref (12 + 3)), some (.int x1), none] [.int (0 : Int32)] _ _ from ?_)
    refine zy_23 rfl rfl (show zyR _ _ _ _ [some (.ref (12 + 3)), some (.int x1), some (.int (0 : Int32))] [] _ _ from ?_)
    exact zy_sub (show zy_le [some (.ref (12 + 3)), some (.int x1), some (.int (0 : Int32))] [some (.ref (12 + 3)), some (.int x1), some (.int (0 : Int32))] from ⟨rfl, ⟨rfl, ⟨rfl, trivial⟩⟩⟩) (zyC77_14 hk6 zy_fu x1 (0 : Int32) s _ _ h)
noncomputable def zyF77_6   (n : Nat) : Int32 → zy_S → Option (Int32 × zy_S) := Nat.rec (fun _ _ => none) (fun _ k6 => zyF77_6b k6) n
theorem zyC77_6 {X : zx_X}     : ∀ (n : Nat) (x1 : Int32) (s : zy_S) (r : Int32) (s' : zy_S), zyF77_6 n x1 s = some (r, s') → zyR X 6 77 6 [some (.ref (12 + 3)), some (.int x1), none] [] s (zyE none s')
  | 0, _ => by
    intro s r s'  h
    have h : (none : Option (Int32 × zy_S)) = some (r, s') := h
    cases h
  | n + 1, x1 => by
    intro s r s'  h
    exact zyC77_6b (k6 := zyF77_6 n) (fun x1 s r s'  h => zyC77_6  n x1 s r s'  h) h
noncomputable def zyF77    (s : zy_S) : Option (Int32 × zy_S) :=
(zyF74 s).bind fun p5 =>
zyF77_6 zy_fu (0 : Int32) p5.2
theorem zyC77 {X : zx_X}      {s : zy_S} {r : Int32} {s' : zy_S}  (h : zyF77 s = some (r, s')) : zyR X 6 77 0 [some (.ref (12 + 3)), none, none] [] s (zyE none s') := by
  unfold zyF77 at h
  refine zy_0 rfl rfl (show zyR _ _ _ _ [some (.ref (12 + 3)), none, none] [.ref (12 + 3)] _ _ from ?_)
  obtain ⟨p5, hp5, h⟩ := zy_bind h
  refine zy_5 (c := 12) (as := []) (rest := []) (L := [some (.ref (12 + 3))]) (d' := 2) rfl rfl rfl (Nat.le_of_ble_eq_true rfl) (Nat.le_of_ble_eq_true rfl) rfl (Nat.le_of_ble_eq_true rfl) rfl rfl (zyC74 hp5) ?_
  show zyR _ _ _ _ [some (.ref (12 + 3)), none, none] [] _ _
  refine zy_3 rfl rfl (show zyR _ _ _ _ [some (.ref (12 + 3)), none, none] [.int (0 : Int32)] _ _ from ?_)
  refine zy_23 rfl rfl (show zyR _ _ _ _ [some (.ref (12 + 3)), some (.int (0 : Int32)), none] [] _ _ from ?_)
  exact zy_sub (show zy_le [some (.ref (12 + 3)), some (.int (0 : Int32)), none] [some (.ref (12 + 3)), some (.int (0 : Int32)), none] from ⟨rfl, ⟨rfl, trivial⟩⟩) (zyC77_6 zy_fu (0 : Int32) p5.2 _ _ h)
/-! NineOpinions$Thought.leastOfBoards()I -/
noncomputable def zyF76    (s : zy_S) : Option (Int32 × zy_S) :=
(zyF77 s).bind fun p1 =>
(zyF81 (6 : Int32) (p1.2.1 1 4) p1.2).bind fun p2 =>
some (p2.1, p2.2)
theorem zyC76 {X : zx_X}      {s : zy_S} {r : Int32} {s' : zy_S}  (h : zyF76 s = some (r, s')) : zyR X 7 76 0 [some (.ref (12 + 3))] [] s (zyE (some (.int r)) s') := by
  unfold zyF76 at h
  refine zy_0 rfl rfl (show zyR _ _ _ _ [some (.ref (12 + 3))] [.ref (12 + 3)] _ _ from ?_)
  obtain ⟨p1, hp1, h⟩ := zy_bind h
  refine zy_5 (c := 12) (as := []) (rest := []) (L := [some (.ref (12 + 3)), none, none]) (d' := 6) rfl rfl rfl (Nat.le_of_ble_eq_true rfl) (Nat.le_of_ble_eq_true rfl) rfl (Nat.le_of_ble_eq_true rfl) rfl rfl (zyC77 hp1) ?_
  show zyR _ _ _ _ [some (.ref (12 + 3))] [] _ _
  refine zy_0 rfl rfl (show zyR _ _ _ _ [some (.ref (12 + 3))] [.ref (12 + 3)] _ _ from ?_)
  refine zy_3 rfl rfl (show zyR _ _ _ _ [some (.ref (12 + 3))] [.int (6 : Int32), .ref (12 + 3)] _ _ from ?_)
  refine zy_0 rfl rfl (show zyR _ _ _ _ [some (.ref (12 + 3))] [.ref (12 + 3), .int (6 : Int32), .ref (12 + 3)] _ _ from ?_)
  refine zy_1r (c := 12) rfl rfl rfl (show zyR _ _ _ _ [some (.ref (12 + 3))] [.ref (1 + 3), .int (6 : Int32), .ref (12 + 3)] _ _ from ?_)
  refine zy_1 (c := 1) rfl rfl rfl (show zyR _ _ _ _ [some (.ref (12 + 3))] [.int (p1.2.1 1 4), .int (6 : Int32), .ref (12 + 3)] _ _ from ?_)
  obtain ⟨p2, hp2, h⟩ := zy_bind h
  refine zy_5 (c := 12) (as := [.int (6 : Int32), .int (p1.2.1 1 4)]) (rest := []) (L := [some (.ref (12 + 3)), some (.int (6 : Int32)), some (.int (p1.2.1 1 4))]) (d' := 1) rfl rfl rfl (Nat.le_of_ble_eq_true rfl) (Nat.le_of_ble_eq_true rfl) rfl (Nat.le_of_ble_eq_true rfl) rfl rfl (zyC81 hp2) ?_
  show zyR _ _ _ _ [some (.ref (12 + 3))] [.int p2.1] _ _
  obtain ⟨rfl, rfl⟩ := zy_pi h
  exact zy_4 rfl ⟨rfl, rfl⟩
