/-! PART 41.121: methods as functions. Made by wip/v4/dcp.py. -/
/-! NineOpinions$Thought.nearestBoard()I -/
noncomputable def zyF82_16b  (k16 : Int32 → Int32 → Int32 → zy_S → Option (Int32 × zy_S)) (x1 : Int32) (x2 : Int32) (x3 : Int32) (s : zy_S) : Option (Int32 × zy_S) :=
if x3 < 0 then
some (x1, s)
else
(zyF79 x3 x2 s).bind fun p1 =>
(zyF63 p1.1 p1.2).bind fun p2 =>
k16 (x1 ||| (p1.1 <<< (((4 : Int32) * x3) &&& 31))) (x2 - p2.1) (x3 + (-1 : Int32)) p2.2
theorem zyC82_16b {X : zx_X}  {k16 : Int32 → Int32 → Int32 → zy_S → Option (Int32 × zy_S)}  (hk16 : ∀ (x1 : Int32) (x2 : Int32) (x3 : Int32) (s : zy_S) (r : Int32) (s' : zy_S), k16 x1 x2 x3 s = some (r, s') → zyR X 7 82 16 [some (.ref (12 + 3)), some (.int x1), some (.int x2), some (.int x3), none] [] s (zyE (some (.int r)) s')) {x1 : Int32} {x2 : Int32} {x3 : Int32} {s : zy_S} {r : Int32} {s' : zy_S}  (h : zyF82_16b k16 x1 x2 x3 s = some (r, s')) : zyR X 7 82 16 [some (.ref (12 + 3)), some (.int x1), some (.int x2), some (.int x3), none] [] s (zyE (some (.int r)) s') := by
  unfold zyF82_16b at h
  refine zy_2 rfl rfl (show zyR _ _ _ _ [some (.ref (12 + 3)), some (.int x1), some (.int x2), some (.int x3), none] [.int x3] _ _ from ?_)
  refine zy_24_2 rfl (fun b3 => (show zyR _ _ _ _ [some (.ref (12 + 3)), some (.int x1), some (.int x2), some (.int x3), none] [] _ _ from ?_)) (fun b3 => (show zyR _ _ _ _ [some (.ref (12 + 3)), some (.int x1), some (.int x2), some (.int x3), none] [] _ _ from ?_))
  · replace h := zy_ifp h b3
    refine zy_2 rfl rfl (show zyR _ _ _ _ [some (.ref (12 + 3)), some (.int x1), some (.int x2), some (.int x3), none] [.int x1] _ _ from ?_)
    obtain ⟨rfl, rfl⟩ := zy_pi h
    exact zy_4 rfl ⟨rfl, rfl⟩
  · replace h := zy_ifn h b3
    refine zy_0 rfl rfl (show zyR _ _ _ _ [some (.ref (12 + 3)), some (.int x1), some (.int x2), some (.int x3), none] [.ref (12 + 3)] _ _ from ?_)
    refine zy_2 rfl rfl (show zyR _ _ _ _ [some (.ref (12 + 3)), some (.int x1), some (.int x2), some (.int x3), none] [.int x3, .ref (12 + 3)] _ _ from ?_)
    refine zy_2 rfl rfl (show zyR _ _ _ _ [some (.ref (12 + 3)), some (.int x1), some (.int x2), some (.int x3), none] [.int x2, .int x3, .ref (12 + 3)] _ _ from ?_)
    obtain ⟨p1, hp1, h⟩ := zy_bind h
    refine zy_5 (c := 12) (as := [.int x3, .int x2]) (rest := []) (L := [some (.ref (12 + 3)), some (.int x3), some (.int x2), none, none, none]) (d' := 4) rfl rfl rfl (Nat.le_of_ble_eq_true rfl) (Nat.le_of_ble_eq_true rfl) rfl (Nat.le_of_ble_eq_true rfl) rfl rfl (zyC79 hp1) ?_
    show zyR _ _ _ _ [some (.ref (12 + 3)), some (.int x1), some (.int x2), some (.int x3), none] [.int p1.1] _ _
    refine zy_23 rfl rfl (show zyR _ _ _ _ [some (.ref (12 + 3)), some (.int x1), some (.int x2), some (.int x3), some (.int p1.1)] [] _ _ from ?_)
    refine zy_2 rfl rfl (show zyR _ _ _ _ [some (.ref (12 + 3)), some (.int x1), some (.int x2), some (.int x3), some (.int p1.1)] [.int x1] _ _ from ?_)
    refine zy_2 rfl rfl (show zyR _ _ _ _ [some (.ref (12 + 3)), some (.int x1), some (.int x2), some (.int x3), some (.int p1.1)] [.int p1.1, .int x1] _ _ from ?_)
    refine zy_3 rfl rfl (show zyR _ _ _ _ [some (.ref (12 + 3)), some (.int x1), some (.int x2), some (.int x3), some (.int p1.1)] [.int (4 : Int32), .int p1.1, .int x1] _ _ from ?_)
    refine zy_2 rfl rfl (show zyR _ _ _ _ [some (.ref (12 + 3)), some (.int x1), some (.int x2), some (.int x3), some (.int p1.1)] [.int x3, .int (4 : Int32), .int p1.1, .int x1] _ _ from ?_)
    refine zy_12 rfl (show zyR _ _ _ _ [some (.ref (12 + 3)), some (.int x1), some (.int x2), some (.int x3), some (.int p1.1)] [.int ((4 : Int32) * x3), .int p1.1, .int x1] _ _ from ?_)
    refine zy_16 rfl (show zyR _ _ _ _ [some (.ref (12 + 3)), some (.int x1), some (.int x2), some (.int x3), some (.int p1.1)] [.int (p1.1 <<< (((4 : Int32) * x3) &&& 31)), .int x1] _ _ from ?_)
    refine zy_14 rfl (show zyR _ _ _ _ [some (.ref (12 + 3)), some (.int x1), some (.int x2), some (.int x3), some (.int p1.1)] [.int (x1 ||| (p1.1 <<< (((4 : Int32) * x3) &&& 31)))] _ _ from ?_)
    refine zy_23 rfl rfl (show zyR _ _ _ _ [some (.ref (12 + 3)), some (.int (x1 ||| (p1.1 <<< (((4 : Int32) * x3) &&& 31)))), some (.int x2), some (.int x3), some (.int p1.1)] [] _ _ from ?_)
    refine zy_2 rfl rfl (show zyR _ _ _ _ [some (.ref (12 + 3)), some (.int (x1 ||| (p1.1 <<< (((4 : Int32) * x3) &&& 31)))), some (.int x2), some (.int x3), some (.int p1.1)] [.int x2] _ _ from ?_)
    refine zy_2 rfl rfl (show zyR _ _ _ _ [some (.ref (12 + 3)), some (.int (x1 ||| (p1.1 <<< (((4 : Int32) * x3) &&& 31)))), some (.int x2), some (.int x3), some (.int p1.1)] [.int p1.1, .int x2] _ _ from ?_)
    obtain ⟨p2, hp2, h⟩ := zy_bind h
    refine zy_60 (as := [.int p1.1]) (rest := [.int x2]) (L := [some (.int p1.1)]) (d' := 1) rfl rfl (Nat.le_of_ble_eq_true rfl) (Nat.le_of_ble_eq_true rfl) rfl (Nat.le_of_ble_eq_true rfl) rfl rfl (zyC63 hp2) ?_
    show zyR _ _ _ _ [some (.ref (12 + 3)), some (.int (x1 ||| (p1.1 <<< (((4 : Int32) * x3) &&& 31)))), some (.int x2), some (.int x3), some (.int p1.1)] [.int p2.1, .int x2] _ _
    refine zy_11 rfl (show zyR _ _ _ _ [some (.ref (12 + 3)), some (.int (x1 ||| (p1.1 <<< (((4 : Int32) * x3) &&& 31)))), some (.int x2), some (.int x3), some (.int p1.1)] [.int (x2 - p2.1)] _ _ from ?_)
    refine zy_23 rfl rfl (show zyR _ _ _ _ [some (.ref (12 + 3)), some (.int (x1 ||| (p1.1 <<< (((4 : Int32) * x3) &&& 31)))), some (.int (x2 - p2.1)), some (.int x3), some (.int p1.1)] [] _ _ from ?_)
    refine zy_22 rfl rfl rfl rfl (show zyR _ _ _ _ [some (.ref (12 + 3)), some (.int (x1 ||| (p1.1 <<< (((4 : Int32) * x3) &&& 31)))), some (.int (x2 - p2.1)), some (.int (x3 + (-1 : Int32))), some (.int p1.1)] [] _ _ from ?_)
    refine zy_6 rfl (show zyR _ _ _ _ [some (.ref (12 + 3)), some (.int (x1 ||| (p1.1 <<< (((4 : Int32) * x3) &&& 31)))), some (.int (x2 - p2.1)), some (.int (x3 + (-1 : Int32))), some (.int p1.1)] [] _ _ from ?_)
    exact zy_sub (show zy_le [some (.ref (12 + 3)), some (.int (x1 ||| (p1.1 <<< (((4 : Int32) * x3) &&& 31)))), some (.int (x2 - p2.1)), some (.int (x3 + (-1 : Int32))), none] [some (.ref (12 + 3)), some (.int (x1 ||| (p1.1 <<< (((4 : Int32) * x3) &&& 31)))), some (.int (x2 - p2.1)), some (.int (x3 + (-1 : Int32))), some (.int p1.1)] from ⟨rfl, ⟨rfl, ⟨rfl, ⟨rfl, trivial⟩⟩⟩⟩) (hk16 (x1 ||| (p1.1 <<< (((4 : Int32) * x3) &&& 31))) (x2 - p2.1) (x3 + (-1 : Int32)) p2.2 _ _ h)
noncomputable def zyF82_16   (n : Nat) : Int32 → Int32 → Int32 → zy_S → Option (Int32 × zy_S) := Nat.rec (fun _ _ _ _ => none) (fun _ k16 => zyF82_16b k16) n
theorem zyC82_16 {X : zx_X}     : ∀ (n : Nat) (x1 : Int32) (x2 : Int32) (x3 : Int32) (s : zy_S) (r : Int32) (s' : zy_S), zyF82_16 n x1 x2 x3 s = some (r, s') → zyR X 7 82 16 [some (.ref (12 + 3)), some (.int x1), some (.int x2), some (.int x3), none] [] s (zyE (some (.int r)) s')
  | 0, _, _, _ => by
    intro s r s'  h
    have h : (none : Option (Int32 × zy_S)) = some (r, s') := h
    cases h
  | n + 1, x1, x2, x3 => by
    intro s r s'  h
    exact zyC82_16b (k16 := zyF82_16 n) (fun x1 x2 x3 s r s'  h => zyC82_16  n x1 x2 x3 s r s'  h) h
noncomputable def zyF82    (s : zy_S) : Option (Int32 × zy_S) :=
(zyF77 s).bind fun p4 =>
zyF82_16 zy_fu (0 : Int32) (p4.2.1 1 4) (5 : Int32) p4.2
theorem zyC82 {X : zx_X}      {s : zy_S} {r : Int32} {s' : zy_S}  (h : zyF82 s = some (r, s')) : zyR X 7 82 0 [some (.ref (12 + 3)), none, none, none, none] [] s (zyE (some (.int r)) s') := by
  unfold zyF82 at h
  refine zy_0 rfl rfl (show zyR _ _ _ _ [some (.ref (12 + 3)), none, none, none, none] [.ref (12 + 3)] _ _ from ?_)
  obtain ⟨p4, hp4, h⟩ := zy_bind h
  refine zy_5 (c := 12) (as := []) (rest := []) (L := [some (.ref (12 + 3)), none, none]) (d' := 6) rfl rfl rfl (Nat.le_of_ble_eq_true rfl) (Nat.le_of_ble_eq_true rfl) rfl (Nat.le_of_ble_eq_true rfl) rfl rfl (zyC77 hp4) ?_
  show zyR _ _ _ _ [some (.ref (12 + 3)), none, none, none, none] [] _ _
  refine zy_3 rfl rfl (show zyR _ _ _ _ [some (.ref (12 + 3)), none, none, none, none] [.int (0 : Int32)] _ _ from ?_)
  refine zy_23 rfl rfl (show zyR _ _ _ _ [some (.ref (12 + 3)), some (.int (0 : Int32)), none, none, none] [] _ _ from ?_)
  refine zy_0 rfl rfl (show zyR _ _ _ _ [some (.ref (12 + 3)), some (.int (0 : Int32)), none, none, none] [.ref (12 + 3)] _ _ from ?_)
  refine zy_1r (c := 12) rfl rfl rfl (show zyR _ _ _ _ [some (.ref (12 + 3)), some (.int (0 : Int32)), none, none, none] [.ref (1 + 3)] _ _ from ?_)
  refine zy_1 (c := 1) rfl rfl rfl (show zyR _ _ _ _ [some (.ref (12 + 3)), some (.int (0 : Int32)), none, none, none] [.int (p4.2.1 1 4)] _ _ from ?_)
  refine zy_23 rfl rfl (show zyR _ _ _ _ [some (.ref (12 + 3)), some (.int (0 : Int32)), some (.int (p4.2.1 1 4)), none, none] [] _ _ from ?_)
  refine zy_3 rfl rfl (show zyR _ _ _ _ [some (.ref (12 + 3)), some (.int (0 : Int32)), some (.int (p4.2.1 1 4)), none, none] [.int (5 : Int32)] _ _ from ?_)
  refine zy_23 rfl rfl (show zyR _ _ _ _ [some (.ref (12 + 3)), some (.int (0 : Int32)), some (.int (p4.2.1 1 4)), some (.int (5 : Int32)), none] [] _ _ from ?_)
  exact zy_sub (show zy_le [some (.ref (12 + 3)), some (.int (0 : Int32)), some (.int (p4.2.1 1 4)), some (.int (5 : Int32)), none] [some (.ref (12 + 3)), some (.int (0 : Int32)), some (.int (p4.2.1 1 4)), some (.int (5 : Int32)), none] from ⟨rfl, ⟨rfl, ⟨rfl, ⟨rfl, trivial⟩⟩⟩⟩) (zyC82_16 zy_fu (0 : Int32) (p4.2.1 1 4) (5 : Int32) p4.2 _ _ h)
/-! NineOpinions.board(I)I -/
noncomputable def zyF75   (x1 : Int32) (s : zy_S) : Option (Int32 × zy_S) :=
if x1 = (0 : Int32) then
some ((s.1 1 3), s)
else
if x1 = (1 : Int32) then
(zyF76 s).bind fun p2 =>
some (p2.1, p2.2)
else
if x1 = (2 : Int32) then
(zyF82 s).bind fun p4 =>
some (p4.1, p4.2)
else
if x1 = (3 : Int32) then
(zyF82 s).bind fun p6 =>
(zyF63 (p6.1 ^^^ (p6.2.1 1 3)) p6.2).bind fun p7 =>
some (p7.1, p7.2)
else
some ((-1 : Int32), s)
theorem zyC75 {X : zx_X}     {x1 : Int32} {s : zy_S} {r : Int32} {s' : zy_S}  (h : zyF75 x1 s = some (r, s')) : zyR X 8 75 0 [some (.ref (0 + 3)), some (.int x1)] [] s (zyE (some (.int r)) s') := by
  unfold zyF75 at h
  refine zy_2 rfl rfl (show zyR _ _ _ _ [some (.ref (0 + 3)), some (.int x1)] [.int x1] _ _ from ?_)
  refine zy_50 rfl (by decide) ?_
  refine zy_swp (fun b1 => (show zyR _ _ _ _ [some (.ref (0 + 3)), some (.int x1)] [] _ _ from ?_)) (fun b1 => ?_)
  · replace h := zy_ifp h b1
    refine zy_0 rfl rfl (show zyR _ _ _ _ [some (.ref (0 + 3)), some (.int x1)] [.ref (0 + 3)] _ _ from ?_)
    refine zy_1r (c := 0) rfl rfl rfl (show zyR _ _ _ _ [some (.ref (0 + 3)), some (.int x1)] [.ref (1 + 3)] _ _ from ?_)
    refine zy_1 (c := 1) rfl rfl rfl (show zyR _ _ _ _ [some (.ref (0 + 3)), some (.int x1)] [.int (s.1 1 3)] _ _ from ?_)
    obtain ⟨rfl, rfl⟩ := zy_pi h
    exact zy_4 rfl ⟨rfl, rfl⟩
  replace h := zy_ifn h b1
  refine zy_swp (fun b3 => (show zyR _ _ _ _ [some (.ref (0 + 3)), some (.int x1)] [] _ _ from ?_)) (fun b3 => ?_)
  · replace h := zy_ifp h b3
    refine zy_0 rfl rfl (show zyR _ _ _ _ [some (.ref (0 + 3)), some (.int x1)] [.ref (0 + 3)] _ _ from ?_)
    refine zy_1r (c := 0) rfl rfl rfl (show zyR _ _ _ _ [some (.ref (0 + 3)), some (.int x1)] [.ref (12 + 3)] _ _ from ?_)
    obtain ⟨p2, hp2, h⟩ := zy_bind h
    refine zy_5 (c := 12) (as := []) (rest := []) (L := [some (.ref (12 + 3))]) (d' := 7) rfl rfl rfl (Nat.le_of_ble_eq_true rfl) (Nat.le_of_ble_eq_true rfl) rfl (Nat.le_of_ble_eq_true rfl) rfl rfl (zyC76 hp2) ?_
    show zyR _ _ _ _ [some (.ref (0 + 3)), some (.int x1)] [.int p2.1] _ _
    obtain ⟨rfl, rfl⟩ := zy_pi h
    exact zy_4 rfl ⟨rfl, rfl⟩
  replace h := zy_ifn h b3
  refine zy_swp (fun b5 => (show zyR _ _ _ _ [some (.ref (0 + 3)), some (.int x1)] [] _ _ from ?_)) (fun b5 => ?_)
  · replace h := zy_ifp h b5
    refine zy_0 rfl rfl (show zyR _ _ _ _ [some (.ref (0 + 3)), some (.int x1)] [.ref (0 + 3)] _ _ from ?_)
    refine zy_1r (c := 0) rfl rfl rfl (show zyR _ _ _ _ [some (.ref (0 + 3)), some (.int x1)] [.ref (12 + 3)] _ _ from ?_)
    obtain ⟨p4, hp4, h⟩ := zy_bind h
    refine zy_5 (c := 12) (as := []) (rest := []) (L := [some (.ref (12 + 3)), none, none, none, none]) (d' := 7) rfl rfl rfl (Nat.le_of_ble_eq_true rfl) (Nat.le_of_ble_eq_true rfl) rfl (Nat.le_of_ble_eq_true rfl) rfl rfl (zyC82 hp4) ?_
    show zyR _ _ _ _ [some (.ref (0 + 3)), some (.int x1)] [.int p4.1] _ _
    obtain ⟨rfl, rfl⟩ := zy_pi h
    exact zy_4 rfl ⟨rfl, rfl⟩
  replace h := zy_ifn h b5
  refine zy_swp (fun b8 => (show zyR _ _ _ _ [some (.ref (0 + 3)), some (.int x1)] [] _ _ from ?_)) (fun b8 => ?_)
  · replace h := zy_ifp h b8
    refine zy_0 rfl rfl (show zyR _ _ _ _ [some (.ref (0 + 3)), some (.int x1)] [.ref (0 + 3)] _ _ from ?_)
    refine zy_1r (c := 0) rfl rfl rfl (show zyR _ _ _ _ [some (.ref (0 + 3)), some (.int x1)] [.ref (12 + 3)] _ _ from ?_)
    obtain ⟨p6, hp6, h⟩ := zy_bind h
    refine zy_5 (c := 12) (as := []) (rest := []) (L := [some (.ref (12 + 3)), none, none, none, none]) (d' := 7) rfl rfl rfl (Nat.le_of_ble_eq_true rfl) (Nat.le_of_ble_eq_true rfl) rfl (Nat.le_of_ble_eq_true rfl) rfl rfl (zyC82 hp6) ?_
    show zyR _ _ _ _ [some (.ref (0 + 3)), some (.int x1)] [.int p6.1] _ _
    refine zy_0 rfl rfl (show zyR _ _ _ _ [some (.ref (0 + 3)), some (.int x1)] [.ref (0 + 3), .int p6.1] _ _ from ?_)
    refine zy_1r (c := 0) rfl rfl rfl (show zyR _ _ _ _ [some (.ref (0 + 3)), some (.int x1)] [.ref (1 + 3), .int p6.1] _ _ from ?_)
    refine zy_1 (c := 1) rfl rfl rfl (show zyR _ _ _ _ [some (.ref (0 + 3)), some (.int x1)] [.int (p6.2.1 1 3), .int p6.1] _ _ from ?_)
    refine zy_15 rfl (show zyR _ _ _ _ [some (.ref (0 + 3)), some (.int x1)] [.int (p6.1 ^^^ (p6.2.1 1 3))] _ _ from ?_)
    obtain ⟨p7, hp7, h⟩ := zy_bind h
    refine zy_60 (as := [.int (p6.1 ^^^ (p6.2.1 1 3))]) (rest := []) (L := [some (.int (p6.1 ^^^ (p6.2.1 1 3)))]) (d' := 1) rfl rfl (Nat.le_of_ble_eq_true rfl) (Nat.le_of_ble_eq_true rfl) rfl (Nat.le_of_ble_eq_true rfl) rfl rfl (zyC63 hp7) ?_
    show zyR _ _ _ _ [some (.ref (0 + 3)), some (.int x1)] [.int p7.1] _ _
    obtain ⟨rfl, rfl⟩ := zy_pi h
    exact zy_4 rfl ⟨rfl, rfl⟩
  replace h := zy_ifn h b8
  show zyR _ _ _ _ [some (.ref (0 + 3)), some (.int x1)] [] _ _
  refine zy_3 rfl rfl (show zyR _ _ _ _ [some (.ref (0 + 3)), some (.int x1)] [.int (-1 : Int32)] _ _ from ?_)
  obtain ⟨rfl, rfl⟩ := zy_pi h
  exact zy_4 rfl ⟨rfl, rfl⟩
