/-! PART 41.67: methods as functions. Made by wip/v4/dcp.py. -/
/-! NineOpinions$Book.codesFor(LNineOpinions$Shelf;)I -/
noncomputable def zyF118_35b  (k35 : Nat → Int32 → Int32 → zy_S → Option (Int32 × zy_S)) (x0 : Nat) (x1 : Int32) (x2 : Int32) (s : zy_S) : Option (Int32 × zy_S) :=
if (6 : Int32) ≤ x2 then
some (x1, s)
else
(zyF113 x0 x2 s).bind fun p1 =>
(zyF63 p1.1 p1.2).bind fun p2 =>
k35 x0 (x1 * p2.1) (x2 + (1 : Int32)) p2.2
theorem zyC118_35b {X : zx_X}  {k35 : Nat → Int32 → Int32 → zy_S → Option (Int32 × zy_S)}  (hk35 : ∀ (x0 : Nat) (x1 : Int32) (x2 : Int32) (s : zy_S) (r : Int32) (s' : zy_S) (hs_x0 : zy_isSh x0), k35 x0 x1 x2 s = some (r, s') → zyR X 6 118 35 [some (.ref (x0 + 3)), some (.int x1), some (.int x2)] [] s (zyE (some (.int r)) s')) {x0 : Nat} {x1 : Int32} {x2 : Int32} {s : zy_S} {r : Int32} {s' : zy_S} (hs_x0 : zy_isSh x0) (h : zyF118_35b k35 x0 x1 x2 s = some (r, s')) : zyR X 6 118 35 [some (.ref (x0 + 3)), some (.int x1), some (.int x2)] [] s (zyE (some (.int r)) s') := by
  unfold zyF118_35b at h
  refine zy_2 rfl rfl (show zyR _ _ _ _ [some (.ref (x0 + 3)), some (.int x1), some (.int x2)] [.int x2] _ _ from ?_)
  refine zy_3 rfl rfl (show zyR _ _ _ _ [some (.ref (x0 + 3)), some (.int x1), some (.int x2)] [.int (6 : Int32), .int x2] _ _ from ?_)
  refine zy_25_3 rfl (fun b3 => (show zyR _ _ _ _ [some (.ref (x0 + 3)), some (.int x1), some (.int x2)] [] _ _ from ?_)) (fun b3 => (show zyR _ _ _ _ [some (.ref (x0 + 3)), some (.int x1), some (.int x2)] [] _ _ from ?_))
  · replace h := zy_ifp h b3
    refine zy_2 rfl rfl (show zyR _ _ _ _ [some (.ref (x0 + 3)), some (.int x1), some (.int x2)] [.int x1] _ _ from ?_)
    obtain ⟨rfl, rfl⟩ := zy_pi h
    exact zy_4 rfl ⟨rfl, rfl⟩
  · replace h := zy_ifn h b3
    refine zy_2 rfl rfl (show zyR _ _ _ _ [some (.ref (x0 + 3)), some (.int x1), some (.int x2)] [.int x1] _ _ from ?_)
    refine zy_0 rfl rfl (show zyR _ _ _ _ [some (.ref (x0 + 3)), some (.int x1), some (.int x2)] [.ref (x0 + 3), .int x1] _ _ from ?_)
    refine zy_2 rfl rfl (show zyR _ _ _ _ [some (.ref (x0 + 3)), some (.int x1), some (.int x2)] [.int x2, .ref (x0 + 3), .int x1] _ _ from ?_)
    obtain ⟨p1, hp1, h⟩ := zy_bind h
    refine zy_60 (as := [.ref (x0 + 3), .int x2]) (rest := [.int x1]) (L := [some (.ref (x0 + 3)), some (.int x2), none, none]) (d' := 5) rfl rfl (Nat.le_of_ble_eq_true rfl) (Nat.le_of_ble_eq_true rfl) rfl (Nat.le_of_ble_eq_true rfl) rfl rfl (zyC113 hs_x0 hp1) ?_
    show zyR _ _ _ _ [some (.ref (x0 + 3)), some (.int x1), some (.int x2)] [.int p1.1, .int x1] _ _
    obtain ⟨p2, hp2, h⟩ := zy_bind h
    refine zy_60 (as := [.int p1.1]) (rest := [.int x1]) (L := [some (.int p1.1)]) (d' := 1) rfl rfl (Nat.le_of_ble_eq_true rfl) (Nat.le_of_ble_eq_true rfl) rfl (Nat.le_of_ble_eq_true rfl) rfl rfl (zyC63 hp2) ?_
    show zyR _ _ _ _ [some (.ref (x0 + 3)), some (.int x1), some (.int x2)] [.int p2.1, .int x1] _ _
    refine zy_12 rfl (show zyR _ _ _ _ [some (.ref (x0 + 3)), some (.int x1), some (.int x2)] [.int (x1 * p2.1)] _ _ from ?_)
    refine zy_23 rfl rfl (show zyR _ _ _ _ [some (.ref (x0 + 3)), some (.int (x1 * p2.1)), some (.int x2)] [] _ _ from ?_)
    refine zy_22 rfl rfl rfl rfl (show zyR _ _ _ _ [some (.ref (x0 + 3)), some (.int (x1 * p2.1)), some (.int (x2 + (1 : Int32)))] [] _ _ from ?_)
    refine zy_6 rfl (show zyR _ _ _ _ [some (.ref (x0 + 3)), some (.int (x1 * p2.1)), some (.int (x2 + (1 : Int32)))] [] _ _ from ?_)
    exact zy_sub (show zy_le [some (.ref (x0 + 3)), some (.int (x1 * p2.1)), some (.int (x2 + (1 : Int32)))] [some (.ref (x0 + 3)), some (.int (x1 * p2.1)), some (.int (x2 + (1 : Int32)))] from ⟨rfl, ⟨rfl, ⟨rfl, trivial⟩⟩⟩) (hk35 x0 (x1 * p2.1) (x2 + (1 : Int32)) p2.2 _ _ hs_x0 h)
noncomputable def zyF118_35   (n : Nat) : Nat → Int32 → Int32 → zy_S → Option (Int32 × zy_S) := Nat.rec (fun _ _ _ _ => none) (fun _ k35 => zyF118_35b k35) n
theorem zyC118_35 {X : zx_X}     : ∀ (n : Nat) (x0 : Nat) (x1 : Int32) (x2 : Int32) (s : zy_S) (r : Int32) (s' : zy_S) (hs_x0 : zy_isSh x0), zyF118_35 n x0 x1 x2 s = some (r, s') → zyR X 6 118 35 [some (.ref (x0 + 3)), some (.int x1), some (.int x2)] [] s (zyE (some (.int r)) s')
  | 0, _, _, _ => by
    intro s r s' hs_x0 h
    have h : (none : Option (Int32 × zy_S)) = some (r, s') := h
    cases h
  | n + 1, x0, x1, x2 => by
    intro s r s' hs_x0 h
    exact zyC118_35b (k35 := zyF118_35 n) (fun x0 x1 x2 s r s' hs_x0 h => zyC118_35  n x0 x1 x2 s r s' hs_x0 h) hs_x0 h
noncomputable def zyF118_26  (k4 : Nat → Int32 → Int32 → zy_S → Option (Int32 × zy_S)) (x0 : Nat) (x2 : Int32) (y0 : Int32) (s : zy_S) : Option (Int32 × zy_S) :=
k4 x0 y0 (x2 + (1 : Int32)) s
theorem zyC118_26 {X : zx_X}  {k4 : Nat → Int32 → Int32 → zy_S → Option (Int32 × zy_S)}  (hk4 : ∀ (x0 : Nat) (x1 : Int32) (x2 : Int32) (s : zy_S) (r : Int32) (s' : zy_S) (hs_x0 : zy_isSh x0), k4 x0 x1 x2 s = some (r, s') → zyR X 6 118 4 [some (.ref (x0 + 3)), some (.int x1), some (.int x2)] [] s (zyE (some (.int r)) s')) {x0 : Nat} {x2 : Int32} {y0 : Int32} {s : zy_S} {r : Int32} {s' : zy_S} (hs_x0 : zy_isSh x0) (h : zyF118_26 k4 x0 x2 y0 s = some (r, s')) : zyR X 6 118 26 [some (.ref (x0 + 3)), none, some (.int x2)] [.int y0] s (zyE (some (.int r)) s') := by
  unfold zyF118_26 at h
  refine zy_23 rfl rfl (show zyR _ _ _ _ [some (.ref (x0 + 3)), some (.int y0), some (.int x2)] [] _ _ from ?_)
  refine zy_22 rfl rfl rfl rfl (show zyR _ _ _ _ [some (.ref (x0 + 3)), some (.int y0), some (.int (x2 + (1 : Int32)))] [] _ _ from ?_)
  refine zy_6 rfl (show zyR _ _ _ _ [some (.ref (x0 + 3)), some (.int y0), some (.int (x2 + (1 : Int32)))] [] _ _ from ?_)
  exact zy_sub (show zy_le [some (.ref (x0 + 3)), some (.int y0), some (.int (x2 + (1 : Int32)))] [some (.ref (x0 + 3)), some (.int y0), some (.int (x2 + (1 : Int32)))] from ⟨rfl, ⟨rfl, ⟨rfl, trivial⟩⟩⟩) (hk4 x0 y0 (x2 + (1 : Int32)) s _ _ hs_x0 h)
noncomputable def zyF118_4b  (k4 : Nat → Int32 → Int32 → zy_S → Option (Int32 × zy_S)) (x0 : Nat) (x1 : Int32) (x2 : Int32) (s : zy_S) : Option (Int32 × zy_S) :=
(zyF109 x0 s).bind fun p4 =>
if p4.1 ≤ x2 then
zyF118_35 zy_fu x0 x1 (0 : Int32) p4.2
else
(zyF110 x0 x2 p4.2).bind fun p5 =>
if p5.1 ≠ (-1 : Int32) then
zyF118_26 k4 x0 x2 x1 p5.2
else
zyF118_26 k4 x0 x2 (0 : Int32) p5.2
theorem zyC118_4b {X : zx_X}  {k4 : Nat → Int32 → Int32 → zy_S → Option (Int32 × zy_S)}  (hk4 : ∀ (x0 : Nat) (x1 : Int32) (x2 : Int32) (s : zy_S) (r : Int32) (s' : zy_S) (hs_x0 : zy_isSh x0), k4 x0 x1 x2 s = some (r, s') → zyR X 6 118 4 [some (.ref (x0 + 3)), some (.int x1), some (.int x2)] [] s (zyE (some (.int r)) s')) {x0 : Nat} {x1 : Int32} {x2 : Int32} {s : zy_S} {r : Int32} {s' : zy_S} (hs_x0 : zy_isSh x0) (h : zyF118_4b k4 x0 x1 x2 s = some (r, s')) : zyR X 6 118 4 [some (.ref (x0 + 3)), some (.int x1), some (.int x2)] [] s (zyE (some (.int r)) s') := by
  unfold zyF118_4b at h
  refine zy_2 rfl rfl (show zyR _ _ _ _ [some (.ref (x0 + 3)), some (.int x1), some (.int x2)] [.int x2] _ _ from ?_)
  refine zy_0 rfl rfl (show zyR _ _ _ _ [some (.ref (x0 + 3)), some (.int x1), some (.int x2)] [.ref (x0 + 3), .int x2] _ _ from ?_)
  obtain ⟨p4, hp4, h⟩ := zy_bind h
  refine zy_60 (as := [.ref (x0 + 3)]) (rest := [.int x2]) (L := [some (.ref (x0 + 3))]) (d' := 1) rfl rfl (Nat.le_of_ble_eq_true rfl) (Nat.le_of_ble_eq_true rfl) rfl (Nat.le_of_ble_eq_true rfl) rfl rfl (zyC109 hs_x0 hp4) ?_
  show zyR _ _ _ _ [some (.ref (x0 + 3)), some (.int x1), some (.int x2)] [.int p4.1, .int x2] _ _
  refine zy_25_3 rfl (fun b7 => (show zyR _ _ _ _ [some (.ref (x0 + 3)), some (.int x1), some (.int x2)] [] _ _ from ?_)) (fun b7 => (show zyR _ _ _ _ [some (.ref (x0 + 3)), some (.int x1), some (.int x2)] [] _ _ from ?_))
  · replace h := zy_ifp h b7
    refine zy_3 rfl rfl (show zyR _ _ _ _ [some (.ref (x0 + 3)), some (.int x1), some (.int x2)] [.int (0 : Int32)] _ _ from ?_)
    refine zy_23 rfl rfl (show zyR _ _ _ _ [some (.ref (x0 + 3)), some (.int x1), some (.int (0 : Int32))] [] _ _ from ?_)
    exact zy_sub (show zy_le [some (.ref (x0 + 3)), some (.int x1), some (.int (0 : Int32))] [some (.ref (x0 + 3)), some (.int x1), some (.int (0 : Int32))] from ⟨rfl, ⟨rfl, ⟨rfl, trivial⟩⟩⟩) (zyC118_35 zy_fu x0 x1 (0 : Int32) p4.2 _ _ hs_x0 h)
  · replace h := zy_ifn h b7
    refine zy_0 rfl rfl (show zyR _ _ _ _ [some (.ref (x0 + 3)), some (.int x1), some (.int x2)] [.ref (x0 + 3)] _ _ from ?_)
    refine zy_2 rfl rfl (show zyR _ _ _ _ [some (.ref (x0 + 3)), some (.int x1), some (.int x2)] [.int x2, .ref (x0 + 3)] _ _ from ?_)
    obtain ⟨p5, hp5, h⟩ := zy_bind h
    refine zy_60 (as := [.ref (x0 + 3), .int x2]) (rest := []) (L := [some (.ref (x0 + 3)), some (.int x2), none]) (d' := 2) rfl rfl (Nat.le_of_ble_eq_true rfl) (Nat.le_of_ble_eq_true rfl) rfl (Nat.le_of_ble_eq_true rfl) rfl rfl (zyC110 hs_x0 hp5) ?_
    show zyR _ _ _ _ [some (.ref (x0 + 3)), some (.int x1), some (.int x2)] [.int p5.1] _ _
    refine zy_3 rfl rfl (show zyR _ _ _ _ [some (.ref (x0 + 3)), some (.int x1), some (.int x2)] [.int (-1 : Int32), .int p5.1] _ _ from ?_)
    refine zy_25_1 rfl (fun b6 => (show zyR _ _ _ _ [some (.ref (x0 + 3)), some (.int x1), some (.int x2)] [] _ _ from ?_)) (fun b6 => (show zyR _ _ _ _ [some (.ref (x0 + 3)), some (.int x1), some (.int x2)] [] _ _ from ?_))
    · replace h := zy_ifp h b6
      refine zy_2 rfl rfl (show zyR _ _ _ _ [some (.ref (x0 + 3)), some (.int x1), some (.int x2)] [.int x1] _ _ from ?_)
      exact zy_sub (show zy_le [some (.ref (x0 + 3)), none, some (.int x2)] [some (.ref (x0 + 3)), some (.int x1), some (.int x2)] from ⟨rfl, ⟨rfl, trivial⟩⟩) (zyC118_26 hk4 hs_x0 h)
    · replace h := zy_ifn h b6
      refine zy_3 rfl rfl (show zyR _ _ _ _ [some (.ref (x0 + 3)), some (.int x1), some (.int x2)] [.int (0 : Int32)] _ _ from ?_)
      refine zy_6 rfl (show zyR _ _ _ _ [some (.ref (x0 + 3)), some (.int x1), some (.int x2)] [.int (0 : Int32)] _ _ from ?_)
      exact zy_sub (show zy_le [some (.ref (x0 + 3)), none, some (.int x2)] [some (.ref (x0 + 3)), some (.int x1), some (.int x2)] from ⟨rfl, ⟨rfl, trivial⟩⟩) (zyC118_26 hk4 hs_x0 h)
noncomputable def zyF118_4   (n : Nat) : Nat → Int32 → Int32 → zy_S → Option (Int32 × zy_S) := Nat.rec (fun _ _ _ _ => none) (fun _ k4 => zyF118_4b k4) n
theorem zyC118_4 {X : zx_X}     : ∀ (n : Nat) (x0 : Nat) (x1 : Int32) (x2 : Int32) (s : zy_S) (r : Int32) (s' : zy_S) (hs_x0 : zy_isSh x0), zyF118_4 n x0 x1 x2 s = some (r, s') → zyR X 6 118 4 [some (.ref (x0 + 3)), some (.int x1), some (.int x2)] [] s (zyE (some (.int r)) s')
  | 0, _, _, _ => by
    intro s r s' hs_x0 h
    have h : (none : Option (Int32 × zy_S)) = some (r, s') := h
    cases h
  | n + 1, x0, x1, x2 => by
    intro s r s' hs_x0 h
    exact zyC118_4b (k4 := zyF118_4 n) (fun x0 x1 x2 s r s' hs_x0 h => zyC118_4  n x0 x1 x2 s r s' hs_x0 h) hs_x0 h
noncomputable def zyF118   (x0 : Nat) (s : zy_S) : Option (Int32 × zy_S) :=
zyF118_4 zy_fu x0 (1 : Int32) (0 : Int32) s
theorem zyC118 {X : zx_X}     {x0 : Nat} {s : zy_S} {r : Int32} {s' : zy_S} (hs_x0 : zy_isSh x0) (h : zyF118 x0 s = some (r, s')) : zyR X 6 118 0 [some (.ref (x0 + 3)), none, none] [] s (zyE (some (.int r)) s') := by
  unfold zyF118 at h
  refine zy_3 rfl rfl (show zyR _ _ _ _ [some (.ref (x0 + 3)), none, none] [.int (1 : Int32)] _ _ from ?_)
  refine zy_23 rfl rfl (show zyR _ _ _ _ [some (.ref (x0 + 3)), some (.int (1 : Int32)), none] [] _ _ from ?_)
  refine zy_3 rfl rfl (show zyR _ _ _ _ [some (.ref (x0 + 3)), some (.int (1 : Int32)), none] [.int (0 : Int32)] _ _ from ?_)
  refine zy_23 rfl rfl (show zyR _ _ _ _ [some (.ref (x0 + 3)), some (.int (1 : Int32)), some (.int (0 : Int32))] [] _ _ from ?_)
  exact zy_sub (show zy_le [some (.ref (x0 + 3)), some (.int (1 : Int32)), some (.int (0 : Int32))] [some (.ref (x0 + 3)), some (.int (1 : Int32)), some (.int (0 : Int32))] from ⟨rfl, ⟨rfl, ⟨rfl, trivial⟩⟩⟩) (zyC118_4 zy_fu x0 (1 : Int32) (0 : Int32) s _ _ hs_x0 h)
