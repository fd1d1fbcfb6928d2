/-! PART 41.74: methods as functions. Made by wip/v4/dcp.py. -/
/-! NineOpinions$Tape.readLine()V -/
noncomputable def zyF38_27    (s : zy_S) : Option (Int32 × zy_S) :=
(zyF44 (-59 : Int32) s).bind fun p1 =>
some ((0 : Int32), p1.2)
theorem zyC38_27 {X : zx_X}      {s : zy_S} {r : Int32} {s' : zy_S}  (h : zyF38_27 s = some (r, s')) : zyR X 103 38 27 [some (.ref (9 + 3))] [] s (zyE none s') := by
  unfold zyF38_27 at h
  refine zy_0 rfl rfl (show zyR _ _ _ _ [some (.ref (9 + 3))] [.ref (9 + 3)] _ _ from ?_)
  refine zy_3 rfl rfl (show zyR _ _ _ _ [some (.ref (9 + 3))] [.int (-59 : Int32), .ref (9 + 3)] _ _ from ?_)
  obtain ⟨p1, hp1, h⟩ := zy_bind h
  refine zy_5 (c := 9) (as := [.int (-59 : Int32)]) (rest := []) (L := [some (.ref (9 + 3)), some (.int (-59 : Int32))]) (d' := 1) rfl rfl rfl (Nat.le_of_ble_eq_true rfl) (Nat.le_of_ble_eq_true rfl) rfl (Nat.le_of_ble_eq_true rfl) rfl rfl (zyC44 hp1) ?_
  show zyR _ _ _ _ [some (.ref (9 + 3))] [] _ _
  cases h
  exact zy_66 rfl ⟨rfl, rfl⟩
noncomputable def zyF38    (s : zy_S) : Option (Int32 × zy_S) :=
(zyF39 (0 : Int32) (0 : Int32) s).bind fun p2 =>
(zyF46 (63 : Int32) p2.2).bind fun p3 =>
if p3.1 = 0 then
zyF38_27 p3.2
else
(zyF44 (-63 : Int32) p3.2).bind fun p4 =>
(zyF39 (0 : Int32) (0 : Int32) p4.2).bind fun p5 =>
zyF38_27 p5.2
theorem zyC38 {X : zx_X}      {s : zy_S} {r : Int32} {s' : zy_S}  (h : zyF38 s = some (r, s')) : zyR X 103 38 0 [some (.ref (9 + 3))] [] s (zyE none s') := by
  unfold zyF38 at h
  refine zy_0 rfl rfl (show zyR _ _ _ _ [some (.ref (9 + 3))] [.ref (9 + 3)] _ _ from ?_)
  refine zy_3 rfl rfl (show zyR _ _ _ _ [some (.ref (9 + 3))] [.int (0 : Int32), .ref (9 + 3)] _ _ from ?_)
  refine zy_3 rfl rfl (show zyR _ _ _ _ [some (.ref (9 + 3))] [.int (0 : Int32), .int (0 : Int32), .ref (9 + 3)] _ _ from ?_)
  obtain ⟨p2, hp2, h⟩ := zy_bind h
  refine zy_5 (c := 9) (as := [.int (0 : Int32), .int (0 : Int32)]) (rest := []) (L := [some (.ref (9 + 3)), some (.int (0 : Int32)), some (.int (0 : Int32)), none, none, none]) (d' := 102) rfl rfl rfl (Nat.le_of_ble_eq_true rfl) (Nat.le_of_ble_eq_true rfl) rfl (Nat.le_of_ble_eq_true rfl) rfl rfl (zyC39 hp2) ?_
  show zyR _ _ _ _ [some (.ref (9 + 3))] [] _ _
  refine zy_0 rfl rfl (show zyR _ _ _ _ [some (.ref (9 + 3))] [.ref (9 + 3)] _ _ from ?_)
  refine zy_3 rfl rfl (show zyR _ _ _ _ [some (.ref (9 + 3))] [.int (63 : Int32), .ref (9 + 3)] _ _ from ?_)
  obtain ⟨p3, hp3, h⟩ := zy_bind h
  refine zy_5 (c := 9) (as := [.int (63 : Int32)]) (rest := []) (L := [some (.ref (9 + 3)), some (.int (63 : Int32)), none]) (d' := 2) rfl rfl rfl (Nat.le_of_ble_eq_true rfl) (Nat.le_of_ble_eq_true rfl) rfl (Nat.le_of_ble_eq_true rfl) rfl rfl (zyC46 hp3) ?_
  show zyR _ _ _ _ [some (.ref (9 + 3))] [.int p3.1] _ _
  refine zy_24_0 rfl (fun b6 => (show zyR _ _ _ _ [some (.ref (9 + 3))] [] _ _ from ?_)) (fun b6 => (show zyR _ _ _ _ [some (.ref (9 + 3))] [] _ _ from ?_))
  · replace h := zy_ifp h b6
    exact zy_sub (show zy_le [some (.ref (9 + 3))] [some (.ref (9 + 3))] from ⟨rfl, trivial⟩) (zyC38_27 h)
  · replace h := zy_ifn h b6
    refine zy_0 rfl rfl (show zyR _ _ _ _ [some (.ref (9 + 3))] [.ref (9 + 3)] _ _ from ?_)
    refine zy_3 rfl rfl (show zyR _ _ _ _ [some (.ref (9 + 3))] [.int (-63 : Int32), .ref (9 + 3)] _ _ from ?_)
    obtain ⟨p4, hp4, h⟩ := zy_bind h
    refine zy_5 (c := 9) (as := [.int (-63 : Int32)]) (rest := []) (L := [some (.ref (9 + 3)), some (.int (-63 : Int32))]) (d' := 1) rfl rfl rfl (Nat.le_of_ble_eq_true rfl) (Nat.le_of_ble_eq_true rfl) rfl (Nat.le_of_ble_eq_true rfl) rfl rfl (zyC44 hp4) ?_
    show zyR _ _ _ _ [some (.ref (9 + 3))] [] _ _
    refine zy_0 rfl rfl (show zyR _ _ _ _ [some (.ref (9 + 3))] [.ref (9 + 3)] _ _ from ?_)
    refine zy_3 rfl rfl (show zyR _ _ _ _ [some (.ref (9 + 3))] [.int (0 : Int32), .ref (9 + 3)] _ _ from ?_)
    refine zy_3 rfl rfl (show zyR _ _ _ _ [some (.ref (9 + 3))] [.int (0 : Int32), .int (0 : Int32), .ref (9 + 3)] _ _ from ?_)
    obtain ⟨p5, hp5, h⟩ := zy_bind h
    refine zy_5 (c := 9) (as := [.int (0 : Int32), .int (0 : Int32)]) (rest := []) (L := [some (.ref (9 + 3)), some (.int (0 : Int32)), some (.int (0 : Int32)), none, none, none]) (d' := 102) rfl rfl rfl (Nat.le_of_ble_eq_true rfl) (Nat.le_of_ble_eq_true rfl) rfl (Nat.le_of_ble_eq_true rfl) rfl rfl (zyC39 hp5) ?_
    show zyR _ _ _ _ [some (.ref (9 + 3))] [] _ _
    exact zy_sub (show zy_le [some (.ref (9 + 3))] [some (.ref (9 + 3))] from ⟨rfl, trivial⟩) (zyC38_27 h)
/-! NineOpinions$Tape.read()I -/
noncomputable def zyF37_46    (s : zy_S) : Option (Int32 × zy_S) :=
if (s.1 9 5) ≠ 0 then
some ((s.1 9 4), s)
else
if (s.1 9 2) ≤ (s.1 9 4) then
some ((-1 : Int32), s)
else
some ((s.1 9 4), s)
theorem zyC37_46 {X : zx_X}      {s : zy_S} {r : Int32} {s' : zy_S}  (h : zyF37_46 s = some (r, s')) : zyR X 104 37 46 [some (.ref (9 + 3)), none] [] s (zyE (some (.int r)) s') := by
  unfold zyF37_46 at h
  refine zy_0 rfl rfl (show zyR _ _ _ _ [some (.ref (9 + 3)), none] [.ref (9 + 3)] _ _ from ?_)
  refine zy_1 (c := 9) rfl rfl rfl (show zyR _ _ _ _ [some (.ref (9 + 3)), none] [.int (s.1 9 5)] _ _ from ?_)
  refine zy_24_1 rfl (fun b2 => (show zyR _ _ _ _ [some (.ref (9 + 3)), none] [] _ _ from ?_)) (fun b2 => (show zyR _ _ _ _ [some (.ref (9 + 3)), none] [] _ _ from ?_))
  · replace h := zy_ifp h b2
    refine zy_0 rfl rfl (show zyR _ _ _ _ [some (.ref (9 + 3)), none] [.ref (9 + 3)] _ _ from ?_)
    refine zy_1 (c := 9) rfl rfl rfl (show zyR _ _ _ _ [some (.ref (9 + 3)), none] [.int (s.1 9 4)] _ _ from ?_)
    refine zy_6 rfl (show zyR _ _ _ _ [some (.ref (9 + 3)), none] [.int (s.1 9 4)] _ _ from ?_)
    obtain ⟨rfl, rfl⟩ := zy_pi h
    exact zy_4 rfl ⟨rfl, rfl⟩
  · replace h := zy_ifn h b2
    refine zy_0 rfl rfl (show zyR _ _ _ _ [some (.ref (9 + 3)), none] [.ref (9 + 3)] _ _ from ?_)
    refine zy_1 (c := 9) rfl rfl rfl (show zyR _ _ _ _ [some (.ref (9 + 3)), none] [.int (s.1 9 4)] _ _ from ?_)
    refine zy_0 rfl rfl (show zyR _ _ _ _ [some (.ref (9 + 3)), none] [.ref (9 + 3), .int (s.1 9 4)] _ _ from ?_)
    refine zy_1 (c := 9) rfl rfl rfl (show zyR _ _ _ _ [some (.ref (9 + 3)), none] [.int (s.1 9 2), .int (s.1 9 4)] _ _ from ?_)
    refine zy_25_3 rfl (fun b1 => (show zyR _ _ _ _ [some (.ref (9 + 3)), none] [] _ _ from ?_)) (fun b1 => (show zyR _ _ _ _ [some (.ref (9 + 3)), none] [] _ _ from ?_))
    · replace h := zy_ifp h b1
      refine zy_3 rfl rfl (show zyR _ _ _ _ [some (.ref (9 + 3)), none] [.int (-1 : Int32)] _ _ from ?_)
      obtain ⟨rfl, rfl⟩ := zy_pi h
      exact zy_4 rfl ⟨rfl, rfl⟩
    · replace h := zy_ifn h b1
      refine zy_0 rfl rfl (show zyR _ _ _ _ [some (.ref (9 + 3)), none] [.ref (9 + 3)] _ _ from ?_)
      refine zy_1 (c := 9) rfl rfl rfl (show zyR _ _ _ _ [some (.ref (9 + 3)), none] [.int (s.1 9 4)] _ _ from ?_)
      refine zy_6 rfl (show zyR _ _ _ _ [some (.ref (9 + 3)), none] [.int (s.1 9 4)] _ _ from ?_)
      obtain ⟨rfl, rfl⟩ := zy_pi h
      exact zy_4 rfl ⟨rfl, rfl⟩
noncomputable def zyF37_21b  (k21 : Int32 → zy_S → Option (Int32 × zy_S)) (x1 : Int32) (s : zy_S) : Option (Int32 × zy_S) :=
if (120 : Int32) ≤ x1 then
zyF37_46 s
else
(zyF46 (59 : Int32) s).bind fun p3 =>
if p3.1 = 0 then
zyF37_46 p3.2
else
(zyF38 p3.2).bind fun p4 =>
k21 (x1 + (1 : Int32)) p4.2
theorem zyC37_21b {X : zx_X}  {k21 : Int32 → zy_S → Option (Int32 × zy_S)}  (hk21 : ∀ (x1 : Int32) (s : zy_S) (r : Int32) (s' : zy_S), k21 x1 s = some (r, s') → zyR X 104 37 21 [some (.ref (9 + 3)), some (.int x1)] [] s (zyE (some (.int r)) s')) {x1 : Int32} {s : zy_S} {r : Int32} {s' : zy_S}  (h : zyF37_21b k21 x1 s = some (r, s')) : zyR X 104 37 21 [some (.ref (9 + 3)), some (.int x1)] [] s (zyE (some (.int r)) s') := by
  unfold zyF37_21b at h
  refine zy_2 rfl rfl (show zyR _ _ _ _ [some (.ref (9 + 3)), some (.int x1)] [.int x1] _ _ from ?_)
  refine zy_3 rfl rfl (show zyR _ _ _ _ [some (.ref (9 + 3)), some (.int x1)] [.int (120 : Int32), .int x1] _ _ from ?_)
  refine zy_25_3 rfl (fun b6 => (show zyR _ _ _ _ [some (.ref (9 + 3)), some (.int x1)] [] _ _ from ?_)) (fun b6 => (show zyR _ _ _ _ [some (.ref (9 + 3)), some (.int x1)] [] _ _ from ?_))
  · replace h := zy_ifp h b6
    exact zy_sub (show zy_le [some (.ref (9 + 3)), none] [some (.ref (9 + 3)), some (.int x1)] from ⟨rfl, trivial⟩) (zyC37_46 h)
  · replace h := zy_ifn h b6
    refine zy_0 rfl rfl (show zyR _ _ _ _ [some (.ref (9 + 3)), some (.int x1)] [.ref (9 + 3)] _ _ from ?_)
    refine zy_3 rfl rfl (show zyR _ _ _ _ [some (.ref (9 + 3)), some (.int x1)] [.int (59 : Int32), .ref (9 + 3)] _ _ from ?_)
    obtain ⟨p3, hp3, h⟩ := zy_bind h
    refine zy_5 (c := 9) (as := [.int (59 : Int32)]) (rest := []) (L := [some (.ref (9 + 3)), some (.int (59 : Int32)), none]) (d' := 2) rfl rfl rfl (Nat.le_of_ble_eq_true rfl) (Nat.le_of_ble_eq_true rfl) rfl (Nat.le_of_ble_eq_true rfl) rfl rfl (zyC46 hp3) ?_
    show zyR _ _ _ _ [some (.ref (9 + 3)), some (.int x1)] [.int p3.1] _ _
    refine zy_24_0 rfl (fun b5 => (show zyR _ _ _ _ [some (.ref (9 + 3)), some (.int x1)] [] _ _ from ?_)) (fun b5 => (show zyR _ _ _ _ [some (.ref (9 + 3)), some (.int x1)] [] _ _ from ?_))
    · replace h := zy_ifp h b5
      exact zy_sub (show zy_le [some (.ref (9 + 3)), none] [some (.ref (9 + 3)), some (.int x1)] from ⟨rfl, trivial⟩) (zyC37_46 h)
    · replace h := zy_ifn h b5
      refine zy_0 rfl rfl (show zyR _ _ _ _ [some (.ref (9 + 3)), some (.int x1)] [.ref (9 + 3)] _ _ from ?_)
      obtain ⟨p4, hp4, h⟩ := zy_bind h
      refine zy_5 (c := 9) (as := []) (rest := []) (L := [some (.ref (9 + 3))]) (d' := 103) rfl rfl rfl (Nat.le_of_ble_eq_true rfl) (Nat.le_of_ble_eq_true rfl) rfl (Nat.le_of_ble_eq_true rfl) rfl rfl (zyC38 hp4) ?_
      show zyR _ _ _ _ [some (.ref (9 + 3)), some (.int x1)] [] _ _
      refine zy_22 rfl rfl rfl rfl (show zyR _ _ _ _ [some (.ref (9 + 3)), some (.int (x1 + (1 : Int32)))] [] _ _ from ?_)
      refine zy_6 rfl (show zyR _ _ _ _ [some (.ref (9 + 3)), some (.int (x1 + (1 : Int32)))] [] _ _ from ?_)
      exact zy_sub (show zy_le [some (.ref (9 + 3)), some (.int (x1 + (1 : Int32)))] [some (.ref (9 + 3)), some (.int (x1 + (1 : Int32)))] from ⟨rfl, ⟨rfl, trivial⟩⟩) (hk21 (x1 + (1 : Int32)) p4.2 _ _ h)
noncomputable def zyF37_21   (n : Nat) : Int32 → zy_S → Option (Int32 × zy_S) := Nat.rec (fun _ _ => none) (fun _ k21 => zyF37_21b k21) n
theorem zyC37_21 {X : zx_X}     : ∀ (n : Nat) (x1 : Int32) (s : zy_S) (r : Int32) (s' : zy_S), zyF37_21 n x1 s = some (r, s') → zyR X 104 37 21 [some (.ref (9 + 3)), some (.int x1)] [] s (zyE (some (.int r)) s')
  | 0, _ => by
    intro s r s'  h
    have h : (none : Option (Int32 × zy_S)) = some (r, s') := h
    cases h
  | n + 1, x1 => by
    intro s r s'  h
    exact zyC37_21b (k21 := zyF37_21 n) (fun x1 s r s'  h => zyC37_21  n x1 s r s'  h) h
noncomputable def zyF37    (s : zy_S) : Option (Int32 × zy_S) :=
(zyF38 (zy_up (zy_up (zy_up s 9 4 (0 : Int32)) 9 3 (0 : Int32)) 9 5 (0 : Int32))).bind fun p7 =>
zyF37_21 zy_fu (0 : Int32) p7.2
theorem zyC37 {X : zx_X}      {s : zy_S} {r : Int32} {s' : zy_S}  (h : zyF37 s = some (r, s')) : zyR X 104 37 0 [some (.ref (9 + 3)), none] [] s (zyE (some (.int r)) s') := by
  unfold zyF37 at h
  refine zy_0 rfl rfl (show zyR _ _ _ _ [some (.ref (9 + 3)), none] [.ref (9 + 3)] _ _ from ?_)
  refine zy_3 rfl rfl (show zyR _ _ _ _ [some (.ref (9 + 3)), none] [.int (0 : Int32), .ref (9 + 3)] _ _ from ?_)
  refine zy_52 (c := 9) rfl rfl rfl (show zyR _ _ _ _ [some (.ref (9 + 3)), none] [] _ _ from ?_)
  refine zy_0 rfl rfl (show zyR _ _ _ _ [some (.ref (9 + 3)), none] [.ref (9 + 3)] _ _ from ?_)
  refine zy_3 rfl rfl (show zyR _ _ _ _ [some (.ref (9 + 3)), none] [.int (0 : Int32), .ref (9 + 3)] _ _ from ?_)
  refine zy_52 (c := 9) rfl rfl rfl (show zyR _ _ _ _ [some (.ref (9 + 3)), none] [] _ _ from ?_)
  refine zy_0 rfl rfl (show zyR _ _ _ _ [some (.ref (9 + 3)), none] [.ref (9 + 3)] _ _ from ?_)
  refine zy_3 rfl rfl (show zyR _ _ _ _ [some (.ref (9 + 3)), none] [.int (0 : Int32), .ref (9 + 3)] _ _ from ?_)
  refine zy_52b (c := 9) rfl rfl rfl (Or.inl rfl) (show zyR _ _ _ _ [some (.ref (9 + 3)), none] [] _ _ from ?_)
  refine zy_0 rfl rfl (show zyR _ _ _ _ [some (.ref (9 + 3)), none] [.ref (9 + 3)] _ _ from ?_)
  obtain ⟨p7, hp7, h⟩ := zy_bind h
  refine zy_5 (c := 9) (as := []) (rest := []) (L := [some (.ref (9 + 3))]) (d' := 103) rfl rfl rfl (Nat.le_of_ble_eq_true rfl) (Nat.le_of_ble_eq_true rfl) rfl (Nat.le_of_ble_eq_true rfl) rfl rfl (zyC38 hp7) ?_
  show zyR _ _ _ _ [some (.ref (9 + 3)), none] [] _ _
  refine zy_3 rfl rfl (show zyR _ _ _ _ [some (.ref (9 + 3)), none] [.int (0 : Int32)] _ _ from ?_)
  refine zy_23 rfl rfl (show zyR _ _ _ _ [some (.ref (9 + 3)), some (.int (0 : Int32))] [] _ _ from ?_)
  exact zy_sub (show zy_le [some (.ref (9 + 3)), some (.int (0 : Int32))] [some (.ref (9 + 3)), some (.int (0 : Int32))] from ⟨rfl, ⟨rfl, trivial⟩⟩) (zyC37_21 zy_fu (0 : Int32) p7.2 _ _ h)
/-! NineOpinions$Law.adopt([II)V -/
noncomputable def zyF48   (x2 : Int32) (s : zy_S) : Option (Int32 × zy_S) :=
if zy_cpB (0 : Int32) (0 : Int32) x2 128 128 then
some ((0 : Int32), (zy_up (zy_ua s 6 (va_cpy (s.1 11) (s.1 6) 0 0 (x2).toNatClampNeg)) 5 3 x2))
else none
theorem zyC48 {X : zx_X}     {x2 : Int32} {s : zy_S} {r : Int32} {s' : zy_S}  (h : zyF48 x2 s = some (r, s')) : zyR X 1 48 0 [some (.ref (5 + 3)), some (.ref (11 + 3)), some (.int x2)] [] s (zyE none s') := by
  unfold zyF48 at h
  refine zy_0 rfl rfl (show zyR _ _ _ _ [some (.ref (5 + 3)), some (.ref (11 + 3)), some (.int x2)] [.ref (11 + 3)] _ _ from ?_)
  refine zy_3 rfl rfl (show zyR _ _ _ _ [some (.ref (5 + 3)), some (.ref (11 + 3)), some (.int x2)] [.int (0 : Int32), .ref (11 + 3)] _ _ from ?_)
  refine zy_0 rfl rfl (show zyR _ _ _ _ [some (.ref (5 + 3)), some (.ref (11 + 3)), some (.int x2)] [.ref (5 + 3), .int (0 : Int32), .ref (11 + 3)] _ _ from ?_)
  refine zy_1r (c := 5) rfl rfl rfl (show zyR _ _ _ _ [some (.ref (5 + 3)), some (.ref (11 + 3)), some (.int x2)] [.ref (6 + 3), .int (0 : Int32), .ref (11 + 3)] _ _ from ?_)
  refine zy_3 rfl rfl (show zyR _ _ _ _ [some (.ref (5 + 3)), some (.ref (11 + 3)), some (.int x2)] [.int (0 : Int32), .ref (6 + 3), .int (0 : Int32), .ref (11 + 3)] _ _ from ?_)
  refine zy_2 rfl rfl (show zyR _ _ _ _ [some (.ref (5 + 3)), some (.ref (11 + 3)), some (.int x2)] [.int x2, .int (0 : Int32), .ref (6 + 3), .int (0 : Int32), .ref (11 + 3)] _ _ from ?_)
  obtain ⟨c1, h⟩ := zy_if h
  refine zy_64 (c0 := 11) (c1 := 6) rfl rfl rfl c1 (Nat.le_of_ble_eq_true rfl) (Nat.le_of_ble_eq_true rfl) (show zyR _ _ _ _ [some (.ref (5 + 3)), some (.ref (11 + 3)), some (.int x2)] [] _ _ from ?_)
  refine zy_0 rfl rfl (show zyR _ _ _ _ [some (.ref (5 + 3)), some (.ref (11 + 3)), some (.int x2)] [.ref (5 + 3)] _ _ from ?_)
  refine zy_2 rfl rfl (show zyR _ _ _ _ [some (.ref (5 + 3)), some (.ref (11 + 3)), some (.int x2)] [.int x2, .ref (5 + 3)] _ _ from ?_)
  refine zy_52 (c := 5) rfl rfl rfl (show zyR _ _ _ _ [some (.ref (5 + 3)), some (.ref (11 + 3)), some (.int x2)] [] _ _ from ?_)
  cases h
  exact zy_66 rfl ⟨rfl, rfl⟩
/-! NineOpinions$Tape.clear()V -/
noncomputable def zyF49    (s : zy_S) : Option (Int32 × zy_S) :=
some ((0 : Int32), (zy_up s 9 2 (0 : Int32)))
theorem zyC49 {X : zx_X}      {s : zy_S} {r : Int32} {s' : zy_S}  (h : zyF49 s = some (r, s')) : zyR X 1 49 0 [some (.ref (9 + 3))] [] s (zyE none s') := by
  unfold zyF49 at h
  refine zy_0 rfl rfl (show zyR _ _ _ _ [some (.ref (9 + 3))] [.ref (9 + 3)] _ _ from ?_)
  refine zy_3 rfl rfl (show zyR _ _ _ _ [some (.ref (9 + 3))] [.int (0 : Int32), .ref (9 + 3)] _ _ from ?_)
  refine zy_52 (c := 9) rfl rfl rfl (show zyR _ _ _ _ [some (.ref (9 + 3))] [] _ _ from ?_)
  cases h
  exact zy_66 rfl ⟨rfl, rfl⟩
