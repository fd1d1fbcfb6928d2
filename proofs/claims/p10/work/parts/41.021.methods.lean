/-! PART 41.21: methods as functions. Made by wip/v4/dcp.py. -/
/-! NineOpinions.writersOf(LNineOpinions$Shelf;)I -/
noncomputable def zyF117_41  (k4 : Nat → Int32 → Int32 → zy_S → Option (Int32 × zy_S)) (x1 : Nat) (x3 : Int32) (y0 : Int32) (y1 : Int32) (s : zy_S) : Option (Int32 × zy_S) :=
k4 x1 (y1 ||| y0) (x3 + (1 : Int32)) s
theorem zyC117_41 {X : zx_X}  {k4 : Nat → Int32 → Int32 → zy_S → Option (Int32 × zy_S)}  (hk4 : ∀ (x1 : Nat) (x2 : Int32) (x3 : Int32) (s : zy_S) (r : Int32) (s' : zy_S) (hs_x1 : zy_isSh x1), k4 x1 x2 x3 s = some (r, s') → zyR X 5 117 4 [some (.ref (0 + 3)), some (.ref (x1 + 3)), some (.int x2), some (.int x3)] [] s (zyE (some (.int r)) s')) {x1 : Nat} {x3 : Int32} {y0 : Int32} {y1 : Int32} {s : zy_S} {r : Int32} {s' : zy_S} (hs_x1 : zy_isSh x1) (h : zyF117_41 k4 x1 x3 y0 y1 s = some (r, s')) : zyR X 5 117 41 [some (.ref (0 + 3)), some (.ref (x1 + 3)), none, some (.int x3)] [.int y0, .int y1] s (zyE (some (.int r)) s') := by
  unfold zyF117_41 at h
  refine zy_14 rfl (show zyR _ _ _ _ [some (.ref (0 + 3)), some (.ref (x1 + 3)), none, some (.int x3)] [.int (y1 ||| y0)] _ _ from ?_)
  refine zy_23 rfl rfl (show zyR _ _ _ _ [some (.ref (0 + 3)), some (.ref (x1 + 3)), some (.int (y1 ||| y0)), some (.int x3)] [] _ _ from ?_)
  refine zy_22 rfl rfl rfl rfl (show zyR _ _ _ _ [some (.ref (0 + 3)), some (.ref (x1 + 3)), some (.int (y1 ||| y0)), some (.int (x3 + (1 : Int32)))] [] _ _ from ?_)
  refine zy_6 rfl (show zyR _ _ _ _ [some (.ref (0 + 3)), some (.ref (x1 + 3)), some (.int (y1 ||| y0)), some (.int (x3 + (1 : Int32)))] [] _ _ from ?_)
  exact zy_sub (show zy_le [some (.ref (0 + 3)), some (.ref (x1 + 3)), some (.int (y1 ||| y0)), some (.int (x3 + (1 : Int32)))] [some (.ref (0 + 3)), some (.ref (x1 + 3)), some (.int (y1 ||| y0)), some (.int (x3 + (1 : Int32)))] from ⟨rfl, ⟨rfl, ⟨rfl, ⟨rfl, trivial⟩⟩⟩⟩) (hk4 x1 (y1 ||| y0) (x3 + (1 : Int32)) s _ _ hs_x1 h)
noncomputable def zyF117_4b  (k4 : Nat → Int32 → Int32 → zy_S → Option (Int32 × zy_S)) (x1 : Nat) (x2 : Int32) (x3 : Int32) (s : zy_S) : Option (Int32 × zy_S) :=
if (s.1 1 5) ≤ x3 then
some (x2, s)
else
if zy_in x3 8 then
(zyF108 x1 (s.1 3 (x3).toNatClampNeg) s).bind fun p2 =>
if p2.1 ≠ (-2 : Int32) then
zyF117_41 k4 x1 x3 (0 : Int32) x2 p2.2
else
zyF117_41 k4 x1 x3 ((1 : Int32) <<< (x3 &&& 31)) x2 p2.2
else none
theorem zyC117_4b {X : zx_X}  {k4 : Nat → Int32 → Int32 → zy_S → Option (Int32 × zy_S)}  (hk4 : ∀ (x1 : Nat) (x2 : Int32) (x3 : Int32) (s : zy_S) (r : Int32) (s' : zy_S) (hs_x1 : zy_isSh x1), k4 x1 x2 x3 s = some (r, s') → zyR X 5 117 4 [some (.ref (0 + 3)), some (.ref (x1 + 3)), some (.int x2), some (.int x3)] [] s (zyE (some (.int r)) s')) {x1 : Nat} {x2 : Int32} {x3 : Int32} {s : zy_S} {r : Int32} {s' : zy_S} (hs_x1 : zy_isSh x1) (h : zyF117_4b k4 x1 x2 x3 s = some (r, s')) : zyR X 5 117 4 [some (.ref (0 + 3)), some (.ref (x1 + 3)), some (.int x2), some (.int x3)] [] s (zyE (some (.int r)) s') := by
  unfold zyF117_4b at h
  refine zy_2 rfl rfl (show zyR _ _ _ _ [some (.ref (0 + 3)), some (.ref (x1 + 3)), some (.int x2), some (.int x3)] [.int x3] _ _ from ?_)
  refine zy_0 rfl rfl (show zyR _ _ _ _ [some (.ref (0 + 3)), some (.ref (x1 + 3)), some (.int x2), some (.int x3)] [.ref (0 + 3), .int x3] _ _ from ?_)
  refine zy_1r (c := 0) rfl rfl rfl (show zyR _ _ _ _ [some (.ref (0 + 3)), some (.ref (x1 + 3)), some (.int x2), some (.int x3)] [.ref (1 + 3), .int x3] _ _ from ?_)
  refine zy_1 (c := 1) rfl rfl rfl (show zyR _ _ _ _ [some (.ref (0 + 3)), some (.ref (x1 + 3)), some (.int x2), some (.int x3)] [.int (s.1 1 5), .int x3] _ _ from ?_)
  refine zy_25_3 rfl (fun b4 => (show zyR _ _ _ _ [some (.ref (0 + 3)), some (.ref (x1 + 3)), some (.int x2), some (.int x3)] [] _ _ from ?_)) (fun b4 => (show zyR _ _ _ _ [some (.ref (0 + 3)), some (.ref (x1 + 3)), some (.int x2), some (.int x3)] [] _ _ from ?_))
  · replace h := zy_ifp h b4
    refine zy_2 rfl rfl (show zyR _ _ _ _ [some (.ref (0 + 3)), some (.ref (x1 + 3)), some (.int x2), some (.int x3)] [.int x2] _ _ from ?_)
    obtain ⟨rfl, rfl⟩ := zy_pi h
    exact zy_4 rfl ⟨rfl, rfl⟩
  · replace h := zy_ifn h b4
    refine zy_2 rfl rfl (show zyR _ _ _ _ [some (.ref (0 + 3)), some (.ref (x1 + 3)), some (.int x2), some (.int x3)] [.int x2] _ _ from ?_)
    refine zy_0 rfl rfl (show zyR _ _ _ _ [some (.ref (0 + 3)), some (.ref (x1 + 3)), some (.int x2), some (.int x3)] [.ref (x1 + 3), .int x2] _ _ from ?_)
    refine zy_0 rfl rfl (show zyR _ _ _ _ [some (.ref (0 + 3)), some (.ref (x1 + 3)), some (.int x2), some (.int x3)] [.ref (0 + 3), .ref (x1 + 3), .int x2] _ _ from ?_)
    refine zy_1r (c := 0) rfl rfl rfl (show zyR _ _ _ _ [some (.ref (0 + 3)), some (.ref (x1 + 3)), some (.int x2), some (.int x3)] [.ref (1 + 3), .ref (x1 + 3), .int x2] _ _ from ?_)
    refine zy_1r (c := 1) rfl rfl rfl (show zyR _ _ _ _ [some (.ref (0 + 3)), some (.ref (x1 + 3)), some (.int x2), some (.int x3)] [.ref (3 + 3), .ref (x1 + 3), .int x2] _ _ from ?_)
    refine zy_2 rfl rfl (show zyR _ _ _ _ [some (.ref (0 + 3)), some (.ref (x1 + 3)), some (.int x2), some (.int x3)] [.int x3, .ref (3 + 3), .ref (x1 + 3), .int x2] _ _ from ?_)
    obtain ⟨c1, h⟩ := zy_if h
    refine zy_26 (c := 3) rfl rfl c1 (show zyR _ _ _ _ [some (.ref (0 + 3)), some (.ref (x1 + 3)), some (.int x2), some (.int x3)] [.int (s.1 3 (x3).toNatClampNeg), .ref (x1 + 3), .int x2] _ _ from ?_)
    obtain ⟨p2, hp2, h⟩ := zy_bind h
    refine zy_60 (as := [.ref (x1 + 3), .int (s.1 3 (x3).toNatClampNeg)]) (rest := [.int x2]) (L := [some (.ref (x1 + 3)), some (.int (s.1 3 (x3).toNatClampNeg)), none, none]) (d' := 4) rfl rfl (Nat.le_of_ble_eq_true rfl) (Nat.le_of_ble_eq_true rfl) rfl (Nat.le_of_ble_eq_true rfl) rfl rfl (zyC108 hs_x1 hp2) ?_
    show zyR _ _ _ _ [some (.ref (0 + 3)), some (.ref (x1 + 3)), some (.int x2), some (.int x3)] [.int p2.1, .int x2] _ _
    refine zy_3 rfl rfl (show zyR _ _ _ _ [some (.ref (0 + 3)), some (.ref (x1 + 3)), some (.int x2), some (.int x3)] [.int (-2 : Int32), .int p2.1, .int x2] _ _ from ?_)
    refine zy_25_1 rfl (fun b3 => (show zyR _ _ _ _ [some (.ref (0 + 3)), some (.ref (x1 + 3)), some (.int x2), some (.int x3)] [.int x2] _ _ from ?_)) (fun b3 => (show zyR _ _ _ _ [some (.ref (0 + 3)), some (.ref (x1 + 3)), some (.int x2), some (.int x3)] [.int x2] _ _ from ?_))
    · replace h := zy_ifp h b3
      refine zy_3 rfl rfl (show zyR _ _ _ _ [some (.ref (0 + 3)), some (.ref (x1 + 3)), some (.int x2), some (.int x3)] [.int (0 : Int32), .int x2] _ _ from ?_)
      exact zy_sub (show zy_le [some (.ref (0 + 3)), some (.ref (x1 + 3)), none, some (.int x3)] [some (.ref (0 + 3)), some (.ref (x1 + 3)), some (.int x2), some (.int x3)] from ⟨rfl, ⟨rfl, ⟨rfl, trivial⟩⟩⟩) (zyC117_41 hk4 hs_x1 h)
    · replace h := zy_ifn h b3
      refine zy_3 rfl rfl (show zyR _ _ _ _ [some (.ref (0 + 3)), some (.ref (x1 + 3)), some (.int x2), some (.int x3)] [.int (1 : Int32), .int x2] _ _ from ?_)
      refine zy_2 rfl rfl (show zyR _ _ _ _ [some (.ref (0 + 3)), some (.ref (x1 + 3)), some (.int x2), some (.int x3)] [.int x3, .int (1 : Int32), .int x2] _ _ from ?_)
      refine zy_16 rfl (show zyR _ _ _ _ [some (.ref (0 + 3)), some (.ref (x1 + 3)), some (.int x2), some (.int x3)] [.int ((1 : Int32) <<< (x3 &&& 31)), .int x2] _ _ from ?_)
      refine zy_6 rfl (show zyR _ _ _ _ [some (.ref (0 + 3)), some (.ref (x1 + 3)), some (.int x2), some (.int x3)] [.int ((1 : Int32) <<< (x3 &&& 31)), .int x2] _ _ from ?_)
      exact zy_sub (show zy_le [some (.ref (0 + 3)), some (.ref (x1 + 3)), none, some (.int x3)] [some (.ref (0 + 3)), some (.ref (x1 + 3)), some (.int x2), some (.int x3)] from ⟨rfl, ⟨rfl, ⟨rfl, trivial⟩⟩⟩) (zyC117_41 hk4 hs_x1 h)
noncomputable def zyF117_4   (n : Nat) : Nat → Int32 → Int32 → zy_S → Option (Int32 × zy_S) := Nat.rec (fun _ _ _ _ => none) (fun _ k4 => zyF117_4b k4) n
theorem zyC117_4 {X : zx_X}     : ∀ (n : Nat) (x1 : Nat) (x2 : Int32) (x3 : Int32) (s : zy_S) (r : Int32) (s' : zy_S) (hs_x1 : zy_isSh x1), zyF117_4 n x1 x2 x3 s = some (r, s') → zyR X 5 117 4 [some (.ref (0 + 3)), some (.ref (x1 + 3)), some (.int x2), some (.int x3)] [] s (zyE (some (.int r)) s')
  | 0, _, _, _ => by
    intro s r s' hs_x1 h
    have h : (none : Option (Int32 × zy_S)) = some (r, s') := h
    cases h
  | n + 1, x1, x2, x3 => by
    intro s r s' hs_x1 h
    exact zyC117_4b (k4 := zyF117_4 n) (fun x1 x2 x3 s r s' hs_x1 h => zyC117_4  n x1 x2 x3 s r s' hs_x1 h) hs_x1 h
noncomputable def zyF117   (x1 : Nat) (s : zy_S) : Option (Int32 × zy_S) :=
zyF117_4 zy_fu x1 (0 : Int32) (0 : Int32) s
theorem zyC117 {X : zx_X}     {x1 : Nat} {s : zy_S} {r : Int32} {s' : zy_S} (hs_x1 : zy_isSh x1) (h : zyF117 x1 s = some (r, s')) : zyR X 5 117 0 [some (.ref (0 + 3)), some (.ref (x1 + 3)), none, none] [] s (zyE (some (.int r)) s') := by
  unfold zyF117 at h
  refine zy_3 rfl rfl (show zyR _ _ _ _ [some (.ref (0 + 3)), some (.ref (x1 + 3)), none, none] [.int (0 : Int32)] _ _ from ?_)
  refine zy_23 rfl rfl (show zyR _ _ _ _ [some (.ref (0 + 3)), some (.ref (x1 + 3)), some (.int (0 : Int32)), none] [] _ _ from ?_)
  refine zy_3 rfl rfl (show zyR _ _ _ _ [some (.ref (0 + 3)), some (.ref (x1 + 3)), some (.int (0 : Int32)), none] [.int (0 : Int32)] _ _ from ?_)
  refine zy_23 rfl rfl (show zyR _ _ _ _ [some (.ref (0 + 3)), some (.ref (x1 + 3)), some (.int (0 : Int32)), some (.int (0 : Int32))] [] _ _ from ?_)
  exact zy_sub (show zy_le [some (.ref (0 + 3)), some (.ref (x1 + 3)), some (.int (0 : Int32)), some (.int (0 : Int32))] [some (.ref (0 + 3)), some (.ref (x1 + 3)), some (.int (0 : Int32)), some (.int (0 : Int32))] from ⟨rfl, ⟨rfl, ⟨rfl, ⟨rfl, trivial⟩⟩⟩⟩) (zyC117_4 zy_fu x1 (0 : Int32) (0 : Int32) s _ _ hs_x1 h)
/-! NineOpinions$Book.codesFor(LNineOpinions$Shelf;)I -/
noncomputable def zyF118_35b  (k35 : Nat → Int32 → Int32 → zy_S → Option (Int32 × zy_S)) (x0 : Nat) (x1 : Int32) (x2 : Int32) (s : zy_S) : Option (Int32 × zy_S) :=
if (6 : Int32) ≤ x2 then
some (x1, s)
else
(zyF113 x0 x2 s).bind fun p1 =>
(zyF63 p1.1 p1.2).bind fun p2 =>
k35 x0 (x1 * p2.1) (x2 + (1 : Int32)) p2.2
theorem zyC118_35b {X : zx_X}  {k35 : Nat → Int32 → Int32 → zy_S → Option (Int32 × zy_S)}  (hk35 : ∀ (x0 : Nat) (x1 : Int32) (x2 : Int32) (s : zy_S) (r : Int32) (s' : zy_S) (hs_x0 : zy_isSh x0), k35 x0 x1 x2 s = some (r, s') → zyR X 6 118 35 [some (.ref (x0 + 3)), some (.int x1), some (.int x2)] [] s (zyE (some (.int r)) s')) {x0 : Nat} {x1 : Int32} {x2 : Int32} {s : zy_S} {r : Int32} {s' : zy_S} (hs_x0 : zy_isSh x0) (h : zyF118_35b k35 x0 x1 x2 s = some (r, s')) : zyR X 6 118 35 [some (.ref (x0 + 3)), some (.int x1), some (.int x2)] [] s (zyE (some (.int r)) s') := by
  unfold zyF118_35b at h
  refine zy_2 rfl rfl (show zyR _ _ _ _ [some (.ref (x0 + 3)), some (.int x1), some (.int x2)] [.int x2] _ _ from ?_)
  refine zy_3 rfl rfl (show zyR _ _ _ _ [some (.ref (x0 + 3)), some (.int x1), some (.int x2)] [.int (6 : Int32), .int x2] _ _ from ?_)
  refine zy_25_3 rfl (fun b3 => (show zyR _ _ _ _ [some (.ref (x0 + 3)), some (.int x1), some (.int x2)] [] _ _ from ?_)) (fun b3 => (show zyR _ _ _ _ [some (.ref (x0 + 3)), some (.int x1), some (.int x2)] [] _ _ from ?_))
  · replace h := zy_ifp h b3
    refine zy_2 rfl rfl (show zyR _ _ _ _ [some (.ref (x0 + 3)), some (.int x1), some (.int x2)] [.int x1] _ _ from ?_)
    obtain ⟨rfl, rfl⟩ := zy_pi h
    exact zy_4 rfl ⟨rfl, rfl⟩
  · replace h := zy_ifn h b3
    refine zy_2 rfl rfl (show zyR _ _ _ _ [some (.ref (x0 + 3)), some (.int x1), some (.int x2)] [.int x1] _ _ from ?_)
    refine zy_0 rfl rfl (show zyR _ _ _ _ [some (.ref (x0 + 3)), some (.int x1), some (.int x2)] [.ref (x0 + 3), .int x1] _ _ from ?_)
    refine zy_2 rfl rfl (show zyR _ _ _ _ [some (.ref (x0 + 3)), some (.int x1), some (.int x2)] [.int x2, .ref (x0 + 3), .int x1] _ _ from ?_)
    obtain ⟨p1, hp1, h⟩ := zy_bind h
    refine zy_60 (as := [.ref (x0 + 3), .int x2]) (rest := [.int x1]) (L := [some (.ref (x0 + 3)), some (.int x2), none, none]) (d' := 5) rfl rfl (Nat.le_of_ble_eq_true rfl) (Nat.le_of_ble_eq_true rfl) rfl (Nat.le_of_ble_eq_true rfl) rfl rfl (zyC113 hs_x0 hp1) ?_
    show zyR _ _ _ _ [some (.ref (x0 + 3)), some (.int x1), some (.int x2)] [.int p1.1, .int x1] _ _
    obtain ⟨p2, hp2, h⟩ := zy_bind h
    refine zy_60 (as := [.int p1.1]) (rest := [.int x1]) (L := [some (.int p1.1)]) (d' := 1) rfl rfl (Nat.le_of_ble_eq_true rfl) (Nat.le_of_ble_eq_true rfl) rfl (Nat.le_of_ble_eq_true rfl) rfl rfl (zyC63 hp2) ?_
    show zyR _ _ _ _ [some (.ref (x0 + 3)), some (.int x1), some (.int x2)] [.int p2.1, .int x1] _ _
    refine zy_12 rfl (show zyR _ _ _ _ [some (.ref (x0 + 3)), some (.int x1), some (.int x2)] [.int (x1 * p2.1)] _ _ from ?_)
    refine zy_23 rfl rfl (show zyR _ _ _ _ [some (.ref (x0 + 3)), some (.int (x1 * p2.1)), some (.int x2)] [] _ _ from ?_)
    refine zy_22 rfl rfl rfl rfl (show zyR _ _ _ _ [some (.ref (x0 + 3)), some (.int (x1 * p2.1)), some (.int (x2 + (1 : Int32)))] [] _ _ from ?_)
    refine zy_6 rfl (show zyR _ _ _ _ [some (.ref (x0 + 3)), some (.int (x1 * p2.1)), some (.int (x2 + (1 : Int32)))] [] _ _ from ?_)
    exact zy_sub (show zy_le [some (.ref (x0 + 3)), some (.int (x1 * p2.1)), some (.int (x2 + (1 : Int32)))] [some (.ref (x0 + 3)), some (.int (x1 * p2.1)), some (.int (x2 + (1 : Int32)))] from ⟨rfl, ⟨rfl, ⟨rfl, trivial⟩⟩⟩) (hk35 x0 (x1 * p2.1) (x2 + (1 : Int32)) p2.2 _ _ hs_x0 h)
noncomputable def zyF118_35   (n : Nat) : Nat → Int32 → Int32 → zy_S → Option (Int32 × zy_S) := Nat.rec (fun _ _ _ _ => none) (fun _ k35 => zyF118_35b k35) n
theorem zyC118_35 {X : zx_X}     : ∀ (n : Nat) (x0 : Nat) (x1 : Int32) (x2 : Int32) (s : zy_S) (r : Int32) (s' : zy_S) (hs_x0 : zy_isSh x0), zyF118_35 n x0 x1 x2 s = some (r, s') → zyR X 6 118 35 [some (.ref (x0 + 3)), some (.int x1), some (.int x2)] [] s (zyE (some (.int r)) s')
  | 0, _, _, _ => by
    intro s r s' hs_x0 h
    have h : (none : Option (Int32 × zy_S)) = some (r, s') := h
    cases h
  | n + 1, x0, x1, x2 => by
    intro s r s' hs_x0 h
    exact zyC118_35b (k35 := zyF118_35 n) (fun x0 x1 x2 s r s' hs_x0 h => zyC118_35  n x0 x1 x2 s r s' hs_x0 h) hs_x0 h
noncomputable def zyF118_26  (k4 : Nat → Int32 → Int32 → zy_S → Option (Int32 × zy_S)) (x0 : Nat) (x2 : Int32) (y0 : Int32) (s : zy_S) : Option (Int32 × zy_S) :=
k4 x0 y0 (x2 + (1 : Int32)) s
theorem zyC118_26 {X : zx_X}  {k4 : Nat → Int32 → Int32 → zy_S → Option (Int32 × zy_S)}  (hk4 : ∀ (x0 : Nat) (x1 : Int32) (x2 : Int32) (s : zy_S) (r : Int32) (s' : zy_S) (hs_x0 : zy_isSh x0), k4 x0 x1 x2 s = some (r, s') → zyR X 6 118 4 [some (.ref (x0 + 3)), some (.int x1), some (.int x2)] [] s (zyE (some (.int r)) s')) {x0 : Nat} {x2 : Int32} {y0 : Int32} {s : zy_S} {r : Int32} {s' : zy_S} (hs_x0 : zy_isSh x0) (h : zyF118_26 k4 x0 x2 y0 s = some (r, s')) : zyR X 6 118 26 [some (.ref (x0 + 3)), none, some (.int x2)] [.int y0] s (zyE (some (.int r)) s') := by
  unfold zyF118_26 at h
  refine zy_23 rfl rfl (show zyR _ _ _ _ [some (.ref (x0 + 3)), some (.int y0), some (.int x2)] [] _ _ from ?_)
  refine zy_22 rfl rfl rfl rfl (show zyR _ _ _ _ [some (.ref (x0 + 3)), some (.int y0), some (.int (x2 + (1 : Int32)))] [] _ _ from ?_)
  refine zy_6 rfl (show zyR _ _ _ _ [some (.ref (x0 + 3)), some (.int y0), some (.int (x2 + (1 : Int32)))] [] _ _ from ?_)
  exact zy_sub (show zy_le [some (.ref (x0 + 3)), some (.int y0), some (.int (x2 + (1 : Int32)))] [some (.ref (x0 + 3)), some (.int y0), some (.int (x2 + (1 : Int32)))] from ⟨rfl, ⟨rfl, ⟨rfl, trivial⟩⟩⟩) (hk4 x0 y0 (x2 + (1 : Int32)) s _ _ hs_x0 h)
noncomputable def zyF118_4b  (k4 : Nat → Int32 → Int32 → zy_S → Option (Int32 × zy_S)) (x0 : Nat) (x1 : Int32) (x2 : Int32) (s : zy_S) : Option (Int32 × zy_S) :=
(zyF109 x0 s).bind fun p4 =>
if p4.1 ≤ x2 then
zyF118_35 zy_fu x0 x1 (0 : Int32) p4.2
else
(zyF110 x0 x2 p4.2).bind fun p5 =>
if p5.1 ≠ (-1 : Int32) then
zyF118_26 k4 x0 x2 x1 p5.2
else
zyF118_26 k4 x0 x2 (0 : Int32) p5.2
theorem zyC118_4b {X : zx_X}  {k4 : Nat → Int32 → Int32 → zy_S → Option (Int32 × zy_S)}  (hk4 : ∀ (x0 : Nat) (x1 : Int32) (x2 : Int32) (s : zy_S) (r : Int32) (s' : zy_S) (hs_x0 : zy_isSh x0), k4 x0 x1 x2 s = some (r, s') → zyR X 6 118 4 [some (.ref (x0 + 3)), some (.int x1), some (.int x2)] [] s (zyE (some (.int r)) s')) {x0 : Nat} {x1 : Int32} {x2 : Int32} {s : zy_S} {r : Int32} {s' : zy_S} (hs_x0 : zy_isSh x0) (h : zyF118_4b k4 x0 x1 x2 s = some (r, s')) : zyR X 6 118 4 [some (.ref (x0 + 3)), some (.int x1), some (.int x2)] [] s (zyE (some (.int r)) s') := by
  unfold zyF118_4b at h
  refine zy_2 rfl rfl (show zyR _ _ _ _ [some (.ref (x0 + 3)), some (.int x1), some (.int x2)] [.int x2] _ _ from ?_)
  refine zy_0 rfl rfl (show zyR _ _ _ _ [some (.ref (x0 + 3)), some (.int x1), some (.int x2)] [.ref (x0 + 3), .int x2] _ _ from ?_)
  obtain ⟨p4, hp4, h⟩ := zy_bind h
  refine zy_60 (as := [.ref (x0 + 3)]) (rest := [.int x2]) (L := [some (.ref (x0 + 3))]) (d' := 1) rfl rfl (Nat.le_of_ble_eq_true rfl) (Nat.le_of_ble_eq_true rfl) rfl (Nat.le_of_ble_eq_true rfl) rfl rfl (zyC109 hs_x0 hp4) ?_
  show zyR _ _ _ _ [some (.ref (x0 + 3)), some (.int x1), some (.int x2)] [.int p4.1, .int x2] _ _
  refine zy_25_3 rfl (fun b7 => (show zyR _ _ _ _ [some (.ref (x0 + 3)), some (.int x1), some (.int x2)] [] _ _ from ?_)) (fun b7 => (show zyR _ _ _ _ [some (.ref (x0 + 3)), some (.int x1), some (.int x2)] [] _ _ from ?_))
  · replace h := zy_ifp h b7
    refine zy_3 rfl rfl (show zyR _ _ _ _ [some (.ref (x0 + 3)), some (.int x1), some (.int x2)] [.int (0 : Int32)] _ _ from ?_)
    refine zy_23 rfl rfl (show zyR _ _ _ _ [some (.ref (x0 + 3)), some (.int x1), some (.int (0 : Int32))] [] _ _ from ?_)
    exact zy_sub (show zy_le [some (.ref (x0 + 3)), some (.int x1), some (.int (0 : Int32))] [some (.ref (x0 + 3)), some (.int x1), some (.int (0 : Int32))] from ⟨rfl, ⟨rfl, ⟨rfl, trivial⟩⟩⟩) (zyC118_35 zy_fu x0 x1 (0 : Int32) p4.2 _ _ hs_x0 h)
  · replace h := zy_ifn h b7
    refine zy_0 rfl rfl (show zyR _ _ _ _ [some (.ref (x0 + 3)), some (.int x1), some (.int x2)] [.ref (x0 + 3)] _ _ from ?_)
    refine zy_2 rfl rfl (show zyR _ _ _ _ [some (.ref (x0 + 3)), some (.int x1), some (.int x2)] [.int x2, .ref (x0 + 3)] _ _ from ?_)
    obtain ⟨p5, hp5, h⟩ := zy_bind h
    refine zy_60 (as := [.ref (x0 + 3), .int x2]) (rest := []) (L := [some (.ref (x0 + 3)), some (.int x2), none]) (d' := 2) rfl rfl (Nat.le_of_ble_eq_true rfl) (Nat.le_of_ble_eq_true rfl) rfl (Nat.le_of_ble_eq_true rfl) rfl rfl (zyC110 hs_x0 hp5) ?_
    show zyR _ _ _ _ [some (.ref (x0 + 3)), some (.int x1), some (.int x2)] [.int p5.1] _ _
    refine zy_3 rfl rfl (show zyR _ _ _ _ [some (.ref (x0 + 3)), some (.int x1), some (.int x2)] [.int (-1 : Int32), .int p5.1] _ _ from ?_)
    refine zy_25_1 rfl (fun b6 => (show zyR _ _ _ _ [some (.ref (x0 + 3)), some (.int x1), some (.int x2)] [] _ _ from ?_)) (fun b6 => (show zyR _ _ _ _ [some (.ref (x0 + 3)), some (.int x1), some (.int x2)] [] _ _ from ?_))
    · replace h := zy_ifp h b6
      refine zy_2 rfl rfl (show zyR _ _ _ _ [some (.ref (x0 + 3)), some (.int x1), some (.int x2)] [.int x1] _ _ from ?_)
      exact zy_sub (show zy_le [some (.ref (x0 + 3)), none, some (.int x2)] [some (.ref (x0 + 3)), some (.int x1), some (.int x2)] from ⟨rfl, ⟨rfl, trivial⟩⟩) (zyC118_26 hk4 hs_x0 h)
    · replace h := zy_ifn h b6
      refine zy_3 rfl rfl (show zyR _ _ _ _ [some (.ref (x0 + 3)), some (.int x1), some (.int x2)] [.int (0 : Int32)] _ _ from ?_)
      refine zy_6 rfl (show zyR _ _ _ _ [some (.ref (x0 + 3)), some (.int x1), some (.int x2)] [.int (0 : Int32)] _ _ from ?_)
      exact zy_sub (show zy_le [some (.ref (x0 + 3)), none, some (.int x2)] [some (.ref (x0 + 3)), some (.int x1), some (.int x2)] from ⟨rfl, ⟨rfl, trivial⟩⟩) (zyC118_26 hk4 hs_x0 h)
noncomputable def zyF118_4   (n : Nat) : Nat → Int32 → Int32 → zy_S → Option (Int32 × zy_S) := Nat.rec (fun _ _ _ _ => none) (fun _ k4 => zyF118_4b k4) n
theorem zyC118_4 {X : zx_X}     : ∀ (n : Nat) (x0 : Nat) (x1 : Int32) (x2 : Int32) (s : zy_S) (r : Int32) (s' : zy_S) (hs_x0 : zy_isSh x0), zyF118_4 n x0 x1 x2 s = some (r, s') → zyR X 6 118 4 [some (.ref (x0 + 3)), some (.int x1), some (.int x2)] [] s (zyE (some (.int r)) s')
  | 0, _, _, _ => by
    intro s r s' hs_x0 h
    have h : (none : Option (Int32 × zy_S)) = some (r, s') := h
    cases h
  | n + 1, x0, x1, x2 => by
    intro s r s' hs_x0 h
    exact zyC118_4b (k4 := zyF118_4 n) (fun x0 x1 x2 s r s' hs_x0 h => zyC118_4  n x0 x1 x2 s r s' hs_x0 h) hs_x0 h
noncomputable def zyF118   (x0 : Nat) (s : zy_S) : Option (Int32 × zy_S) :=
zyF118_4 zy_fu x0 (1 : Int32) (0 : Int32) s
theorem zyC118 {X : zx_X}     {x0 : Nat} {s : zy_S} {r : Int32} {s' : zy_S} (hs_x0 : zy_isSh x0) (h : zyF118 x0 s = some (r, s')) : zyR X 6 118 0 [some (.ref (x0 + 3)), none, none] [] s (zyE (some (.int r)) s') := by
  unfold zyF118 at h
  refine zy_3 rfl rfl (show zyR _ _ _ _ [some (.ref (x0 + 3)), none, none] [.int (1 : Int32)] _ _ from ?_)
  refine zy_23 rfl rfl (show zyR _ _ _ _ [some (.ref (x0 + 3)), some (.int (1 : Int32)), none] [] _ _ from ?_)
  refine zy_3 rfl rfl (show zyR _ _ _ _ [some (.ref (x0 + 3)), some (.int (1 : Int32)), none] [.int (0 : Int32)] _ _ from ?_)
  refine zy_23 rfl rfl (show zyR _ _ _ _ [some (.ref (x0 + 3)), some (.int (1 : Int32)), some (.int (0 : Int32))] [] _ _ from ?_)
  exact zy_sub (show zy_le [some (.ref (x0 + 3)), some (.int (1 : Int32)), some (.int (0 : Int32))] [some (.ref (x0 + 3)), some (.int (1 : Int32)), some (.int (0 : Int32))] from ⟨rfl, ⟨rfl, ⟨rfl, trivial⟩⟩⟩) (zyC118_4 zy_fu x0 (1 : Int32) (0 : Int32) s _ _ hs_x0 h)
/-! NineOpinions.whose(II)I -/
noncomputable def zyF116   (x1 : Int32) (x2 : Int32) (s : zy_S) : Option (Int32 × zy_S) :=
(zyF18 x1 s).bind fun p1 =>
if p1.1 = 0 then
some ((-1 : Int32), p1.2)
else
(zyF84 x2 p1.2).bind fun p2 =>
if p2.1 ≠ 0 then
if zy_in x1 6 then
if zy_Wb p2.2 then
(zyF107 (zy_sh (x1).toNatClampNeg) (0 : Int32) p2.2).bind fun p5 =>
if p5.1 = 0 then
if x2 ≠ 0 then
if zy_in x1 6 then
if zy_Wb p5.2 then
(zyF118 (zy_sh (x1).toNatClampNeg) p5.2).bind fun p8 =>
some (p8.1, p8.2)
else none
else none
else
if zy_in x1 6 then
if zy_Wb p5.2 then
(zyF117 (zy_sh (x1).toNatClampNeg) p5.2).bind fun p11 =>
some (p11.1, p11.2)
else none
else none
else
some (p5.1, p5.2)
else none
else none
else
some ((-1 : Int32), p2.2)
theorem zyC116 {X : zx_X}     {x1 : Int32} {x2 : Int32} {s : zy_S} {r : Int32} {s' : zy_S}  (h : zyF116 x1 x2 s = some (r, s')) : zyR X 7 116 0 [some (.ref (0 + 3)), some (.int x1), some (.int x2), none] [] s (zyE (some (.int r)) s') := by
  unfold zyF116 at h
  refine zy_2 rfl rfl (show zyR _ _ _ _ [some (.ref (0 + 3)), some (.int x1), some (.int x2), none] [.int x1] _ _ from ?_)
  obtain ⟨p1, hp1, h⟩ := zy_bind h
  refine zy_60 (as := [.int x1]) (rest := []) (L := [some (.int x1)]) (d' := 1) rfl rfl (Nat.le_of_ble_eq_true rfl) (Nat.le_of_ble_eq_true rfl) rfl (Nat.le_of_ble_eq_true rfl) rfl rfl (zyC18 hp1) ?_
  show zyR _ _ _ _ [some (.ref (0 + 3)), some (.int x1), some (.int x2), none] [.int p1.1] _ _
  refine zy_24_0 rfl (fun b15 => (show zyR _ _ _ _ [some (.ref (0 + 3)), some (.int x1), some (.int x2), none] [] _ _ from ?_)) (fun b15 => (show zyR _ _ _ _ [some (.ref (0 + 3)), some (.int x1), some (.int x2), none] [] _ _ from ?_))
  · replace h := zy_ifp h b15
    refine zy_3 rfl rfl (show zyR _ _ _ _ [some (.ref (0 + 3)), some (.int x1), some (.int x2), none] [.int (-1 : Int32)] _ _ from ?_)
    obtain ⟨rfl, rfl⟩ := zy_pi h
    exact zy_4 rfl ⟨rfl, rfl⟩
  · replace h := zy_ifn h b15
    refine zy_2 rfl rfl (show zyR _ _ _ _ [some (.ref (0 + 3)), some (.int x1), some (.int x2), none] [.int x2] _ _ from ?_)
    obtain ⟨p2, hp2, h⟩ := zy_bind h
    refine zy_60 (as := [.int x2]) (rest := []) (L := [some (.int x2)]) (d' := 1) rfl rfl (Nat.le_of_ble_eq_true rfl) (Nat.le_of_ble_eq_true rfl) rfl (Nat.le_of_ble_eq_true rfl) rfl rfl (zyC84 hp2) ?_
    show zyR _ _ _ _ [some (.ref (0 + 3)), some (.int x1), some (.int x2), none] [.int p2.1] _ _
    refine zy_24_1 rfl (fun b14 => (show zyR _ _ _ _ [some (.ref (0 + 3)), some (.int x1), some (.int x2), none] [] _ _ from ?_)) (fun b14 => (show zyR _ _ _ _ [some (.ref (0 + 3)), some (.int x1), some (.int x2), none] [] _ _ from ?_))
    · replace h := zy_ifp h b14
      refine zy_0 rfl rfl (show zyR _ _ _ _ [some (.ref (0 + 3)), some (.int x1), some (.int x2), none] [.ref (0 + 3)] _ _ from ?_)
      refine zy_1r (c := 0) rfl rfl rfl (show zyR _ _ _ _ [some (.ref (0 + 3)), some (.int x1), some (.int x2), none] [.ref (30 + 3)] _ _ from ?_)
      refine zy_2 rfl rfl (show zyR _ _ _ _ [some (.ref (0 + 3)), some (.int x1), some (.int x2), none] [.int x1, .ref (30 + 3)] _ _ from ?_)
      obtain ⟨c3, h⟩ := zy_if h
      obtain ⟨c4, h⟩ := zy_if h
      refine zy_28 rfl (zy_Wb_g c4) c3 (show zyR _ _ _ _ [some (.ref (0 + 3)), some (.int x1), some (.int x2), none] [.ref ((zy_sh (x1).toNatClampNeg) + 3)] _ _ from ?_)
      refine zy_3 rfl rfl (show zyR _ _ _ _ [some (.ref (0 + 3)), some (.int x1), some (.int x2), none] [.int (0 : Int32), .ref ((zy_sh (x1).toNatClampNeg) + 3)] _ _ from ?_)
      obtain ⟨p5, hp5, h⟩ := zy_bind h
      refine zy_5 (c := (zy_sh (x1).toNatClampNeg)) (as := [.int (0 : Int32)]) (rest := []) (L := [some (.ref ((zy_sh (x1).toNatClampNeg) + 3)), some (.int (0 : Int32))]) (d' := 3) rfl rfl (zy_isSh_of (zy_in_lt c3)).1 (Nat.le_of_ble_eq_true rfl) (Nat.le_of_ble_eq_true rfl) rfl (Nat.le_of_ble_eq_true rfl) rfl rfl (zyC107 (zy_isSh_of (zy_in_lt c3)) hp5) ?_
      show zyR _ _ _ _ [some (.ref (0 + 3)), some (.int x1), some (.int x2), none] [.int p5.1] _ _
      refine zy_23 rfl rfl (show zyR _ _ _ _ [some (.ref (0 + 3)), some (.int x1), some (.int x2), some (.int p5.1)] [] _ _ from ?_)
      refine zy_2 rfl rfl (show zyR _ _ _ _ [some (.ref (0 + 3)), some (.int x1), some (.int x2), some (.int p5.1)] [.int p5.1] _ _ from ?_)
      refine zy_24_0 rfl (fun b13 => (show zyR _ _ _ _ [some (.ref (0 + 3)), some (.int x1), some (.int x2), some (.int p5.1)] [] _ _ from ?_)) (fun b13 => (show zyR _ _ _ _ [some (.ref (0 + 3)), some (.int x1), some (.int x2), some (.int p5.1)] [] _ _ from ?_))
      · replace h := zy_ifp h b13
        refine zy_2 rfl rfl (show zyR _ _ _ _ [some (.ref (0 + 3)), some (.int x1), some (.int x2), some (.int p5.1)] [.int x2] _ _ from ?_)
        refine zy_24_1 rfl (fun b12 => (show zyR _ _ _ _ [some (.ref (0 + 3)), some (.int x1), some (.int x2), some (.int p5.1)] [] _ _ from ?_)) (fun b12 => (show zyR _ _ _ _ [some (.ref (0 + 3)), some (.int x1), some (.int x2), some (.int p5.1)] [] _ _ from ?_))
        · replace h := zy_ifp h b12
          refine zy_0 rfl rfl (show zyR _ _ _ _ [some (.ref (0 + 3)), some (.int x1), some (.int x2), some (.int p5.1)] [.ref (0 + 3)] _ _ from ?_)
          refine zy_1r (c := 0) rfl rfl rfl (show zyR _ _ _ _ [some (.ref (0 + 3)), some (.int x1), some (.int x2), some (.int p5.1)] [.ref (30 + 3)] _ _ from ?_)
          refine zy_2 rfl rfl (show zyR _ _ _ _ [some (.ref (0 + 3)), some (.int x1), some (.int x2), some (.int p5.1)] [.int x1, .ref (30 + 3)] _ _ from ?_)
          obtain ⟨c6, h⟩ := zy_if h
          obtain ⟨c7, h⟩ := zy_if h
          refine zy_28 rfl (zy_Wb_g c7) c6 (show zyR _ _ _ _ [some (.ref (0 + 3)), some (.int x1), some (.int x2), some (.int p5.1)] [.ref ((zy_sh (x1).toNatClampNeg) + 3)] _ _ from ?_)
          obtain ⟨p8, hp8, h⟩ := zy_bind h
          refine zy_60 (as := [.ref ((zy_sh (x1).toNatClampNeg) + 3)]) (rest := []) (L := [some (.ref ((zy_sh (x1).toNatClampNeg) + 3)), none, none]) (d' := 6) rfl rfl (Nat.le_of_ble_eq_true rfl) (Nat.le_of_ble_eq_true rfl) rfl (Nat.le_of_ble_eq_true rfl) rfl rfl (zyC118 (zy_isSh_of (zy_in_lt c6)) hp8) ?_
          show zyR _ _ _ _ [some (.ref (0 + 3)), some (.int x1), some (.int x2), some (.int p5.1)] [.int p8.1] _ _
          obtain ⟨rfl, rfl⟩ := zy_pi h
          exact zy_4 rfl ⟨rfl, rfl⟩
        · replace h := zy_ifn h b12
          refine zy_0 rfl rfl (show zyR _ _ _ _ [some (.ref (0 + 3)), some (.int x1), some (.int x2), some (.int p5.1)] [.ref (0 + 3)] _ _ from ?_)
          refine zy_0 rfl rfl (show zyR _ _ _ _ [some (.ref (0 + 3)), some (.int x1), some (.int x2), some (.int p5.1)] [.ref (0 + 3), .ref (0 + 3)] _ _ from ?_)
          refine zy_1r (c := 0) rfl rfl rfl (show zyR _ _ _ _ [some (.ref (0 + 3)), some (.int x1), some (.int x2), some (.int p5.1)] [.ref (30 + 3), .ref (0 + 3)] _ _ from ?_)
          refine zy_2 rfl rfl (show zyR _ _ _ _ [some (.ref (0 + 3)), some (.int x1), some (.int x2), some (.int p5.1)] [.int x1, .ref (30 + 3), .ref (0 + 3)] _ _ from ?_)
          obtain ⟨c9, h⟩ := zy_if h
          obtain ⟨c10, h⟩ := zy_if h
          refine zy_28 rfl (zy_Wb_g c10) c9 (show zyR _ _ _ _ [some (.ref (0 + 3)), some (.int x1), some (.int x2), some (.int p5.1)] [.ref ((zy_sh (x1).toNatClampNeg) + 3), .ref (0 + 3)] _ _ from ?_)
          obtain ⟨p11, hp11, h⟩ := zy_bind h
          refine zy_5 (c := 0) (as := [.ref ((zy_sh (x1).toNatClampNeg) + 3)]) (rest := []) (L := [some (.ref (0 + 3)), some (.ref ((zy_sh (x1).toNatClampNeg) + 3)), none, none]) (d' := 5) rfl rfl rfl (Nat.le_of_ble_eq_true rfl) (Nat.le_of_ble_eq_true rfl) rfl (Nat.le_of_ble_eq_true rfl) rfl rfl (zyC117 (zy_isSh_of (zy_in_lt c9)) hp11) ?_
          show zyR _ _ _ _ [some (.ref (0 + 3)), some (.int x1), some (.int x2), some (.int p5.1)] [.int p11.1] _ _
          refine zy_6 rfl (show zyR _ _ _ _ [some (.ref (0 + 3)), some (.int x1), some (.int x2), some (.int p5.1)] [.int p11.1] _ _ from ?_)
          obtain ⟨rfl, rfl⟩ := zy_pi h
          exact zy_4 rfl ⟨rfl, rfl⟩
      · replace h := zy_ifn h b13
        refine zy_2 rfl rfl (show zyR _ _ _ _ [some (.ref (0 + 3)), some (.int x1), some (.int x2), some (.int p5.1)] [.int p5.1] _ _ from ?_)
        obtain ⟨rfl, rfl⟩ := zy_pi h
        exact zy_4 rfl ⟨rfl, rfl⟩
    · replace h := zy_ifn h b14
      refine zy_3 rfl rfl (show zyR _ _ _ _ [some (.ref (0 + 3)), some (.int x1), some (.int x2), none] [.int (-1 : Int32)] _ _ from ?_)
      obtain ⟨rfl, rfl⟩ := zy_pi h
      exact zy_4 rfl ⟨rfl, rfl⟩
/-! NineOpinionsModel.whose(II)I -/
noncomputable def zyF233_116  (k89 : Int32 → Int32 → Int32 → Int32 → Int32 → zy_S → Option (Int32 × zy_S)) (x1 : Int32) (x2 : Int32) (x3 : Int32) (x5 : Int32) (y0 : Int32) (y1 : Int32) (s : zy_S) : Option (Int32 × zy_S) :=
k89 x1 x2 x3 (y1 + y0) (x5 + (1 : Int32)) s
theorem zyC233_116 {X : zx_X}  {k89 : Int32 → Int32 → Int32 → Int32 → Int32 → zy_S → Option (Int32 × zy_S)}  (hk89 : ∀ (x1 : Int32) (x2 : Int32) (x3 : Int32) (x4 : Int32) (x5 : Int32) (s : zy_S) (r : Int32) (s' : zy_S), k89 x1 x2 x3 x4 x5 s = some (r, s') → zyR X 4 233 89 [some (.ref (43 + 3)), some (.int x1), some (.int x2), some (.int x3), some (.int x4), some (.int x5)] [] s (zyE (some (.int r)) s')) {x1 : Int32} {x2 : Int32} {x3 : Int32} {x5 : Int32} {y0 : Int32} {y1 : Int32} {s : zy_S} {r : Int32} {s' : zy_S}  (h : zyF233_116 k89 x1 x2 x3 x5 y0 y1 s = some (r, s')) : zyR X 4 233 116 [some (.ref (43 + 3)), some (.int x1), some (.int x2), some (.int x3), none, some (.int x5)] [.int y0, .int y1] s (zyE (some (.int r)) s') := by
  unfold zyF233_116 at h
  refine zy_10 rfl (show zyR _ _ _ _ [some (.ref (43 + 3)), some (.int x1), some (.int x2), some (.int x3), none, some (.int x5)] [.int (y1 + y0)] _ _ from ?_)
  refine zy_23 rfl rfl (show zyR _ _ _ _ [some (.ref (43 + 3)), some (.int x1), some (.int x2), some (.int x3), some (.int (y1 + y0)), some (.int x5)] [] _ _ from ?_)
  refine zy_22 rfl rfl rfl rfl (show zyR _ _ _ _ [some (.ref (43 + 3)), some (.int x1), some (.int x2), some (.int x3), some (.int (y1 + y0)), some (.int (x5 + (1 : Int32)))] [] _ _ from ?_)
  refine zy_6 rfl (show zyR _ _ _ _ [some (.ref (43 + 3)), some (.int x1), some (.int x2), some (.int x3), some (.int (y1 + y0)), some (.int (x5 + (1 : Int32)))] [] _ _ from ?_)
  exact zy_sub (show zy_le [some (.ref (43 + 3)), some (.int x1), some (.int x2), some (.int x3), some (.int (y1 + y0)), some (.int (x5 + (1 : Int32)))] [some (.ref (43 + 3)), some (.int x1), some (.int x2), some (.int x3), some (.int (y1 + y0)), some (.int (x5 + (1 : Int32)))] from ⟨rfl, ⟨rfl, ⟨rfl, ⟨rfl, ⟨rfl, ⟨rfl, trivial⟩⟩⟩⟩⟩⟩) (hk89 x1 x2 x3 (y1 + y0) (x5 + (1 : Int32)) s _ _ h)
noncomputable def zyF233_89b  (k89 : Int32 → Int32 → Int32 → Int32 → Int32 → zy_S → Option (Int32 × zy_S)) (x1 : Int32) (x2 : Int32) (x3 : Int32) (x4 : Int32) (x5 : Int32) (s : zy_S) : Option (Int32 × zy_S) :=
if (4096 : Int32) ≤ x5 then
if x2 ≠ 0 then
some (x4, s)
else
some (x3, s)
else
(zyF230 x1 x5 s).bind fun p2 =>
if p2.1 ≠ (-2 : Int32) then
zyF233_116 k89 x1 x2 x3 x5 (0 : Int32) x4 p2.2
else
zyF233_116 k89 x1 x2 x3 x5 (1 : Int32) x4 p2.2
theorem zyC233_89b {X : zx_X}  {k89 : Int32 → Int32 → Int32 → Int32 → Int32 → zy_S → Option (Int32 × zy_S)}  (hk89 : ∀ (x1 : Int32) (x2 : Int32) (x3 : Int32) (x4 : Int32) (x5 : Int32) (s : zy_S) (r : Int32) (s' : zy_S), k89 x1 x2 x3 x4 x5 s = some (r, s') → zyR X 4 233 89 [some (.ref (43 + 3)), some (.int x1), some (.int x2), some (.int x3), some (.int x4), some (.int x5)] [] s (zyE (some (.int r)) s')) {x1 : Int32} {x2 : Int32} {x3 : Int32} {x4 : Int32} {x5 : Int32} {s : zy_S} {r : Int32} {s' : zy_S}  (h : zyF233_89b k89 x1 x2 x3 x4 x5 s = some (r, s')) : zyR X 4 233 89 [some (.ref (43 + 3)), some (.int x1), some (.int x2), some (.int x3), some (.int x4), some (.int x5)] [] s (zyE (some (.int r)) s') := by
  unfold zyF233_89b at h
  refine zy_2 rfl rfl (show zyR _ _ _ _ [some (.ref (43 + 3)), some (.int x1), some (.int x2), some (.int x3), some (.int x4), some (.int x5)] [.int x5] _ _ from ?_)
  refine zy_3 rfl rfl (show zyR _ _ _ _ [some (.ref (43 + 3)), some (.int x1), some (.int x2), some (.int x3), some (.int x4), some (.int x5)] [.int (4096 : Int32), .int x5] _ _ from ?_)
  refine zy_25_3 rfl (fun b4 => (show zyR _ _ _ _ [some (.ref (43 + 3)), some (.int x1), some (.int x2), some (.int x3), some (.int x4), some (.int x5)] [] _ _ from ?_)) (fun b4 => (show zyR _ _ _ _ [some (.ref (43 + 3)), some (.int x1), some (.int x2), some (.int x3), some (.int x4), some (.int x5)] [] _ _ from ?_))
  · replace h := zy_ifp h b4
    refine zy_2 rfl rfl (show zyR _ _ _ _ [some (.ref (43 + 3)), some (.int x1), some (.int x2), some (.int x3), some (.int x4), some (.int x5)] [.int x2] _ _ from ?_)
    refine zy_24_1 rfl (fun b1 => (show zyR _ _ _ _ [some (.ref (43 + 3)), some (.int x1), some (.int x2), some (.int x3), some (.int x4), some (.int x5)] [] _ _ from ?_)) (fun b1 => (show zyR _ _ _ _ [some (.ref (43 + 3)), some (.int x1), some (.int x2), some (.int x3), some (.int x4), some (.int x5)] [] _ _ from ?_))
    · replace h := zy_ifp h b1
      refine zy_2 rfl rfl (show zyR _ _ _ _ [some (.ref (43 + 3)), some (.int x1), some (.int x2), some (.int x3), some (.int x4), some (.int x5)] [.int x4] _ _ from ?_)
      obtain ⟨rfl, rfl⟩ := zy_pi h
      exact zy_4 rfl ⟨rfl, rfl⟩
    · replace h := zy_ifn h b1
      refine zy_2 rfl rfl (show zyR _ _ _ _ [some (.ref (43 + 3)), some (.int x1), some (.int x2), some (.int x3), some (.int x4), some (.int x5)] [.int x3] _ _ from ?_)
      refine zy_6 rfl (show zyR _ _ _ _ [some (.ref (43 + 3)), some (.int x1), some (.int x2), some (.int x3), some (.int x4), some (.int x5)] [.int x3] _ _ from ?_)
      obtain ⟨rfl, rfl⟩ := zy_pi h
      exact zy_4 rfl ⟨rfl, rfl⟩
  · replace h := zy_ifn h b4
    refine zy_2 rfl rfl (show zyR _ _ _ _ [some (.ref (43 + 3)), some (.int x1), some (.int x2), some (.int x3), some (.int x4), some (.int x5)] [.int x4] _ _ from ?_)
    refine zy_0 rfl rfl (show zyR _ _ _ _ [some (.ref (43 + 3)), some (.int x1), some (.int x2), some (.int x3), some (.int x4), some (.int x5)] [.ref (43 + 3), .int x4] _ _ from ?_)
    refine zy_2 rfl rfl (show zyR _ _ _ _ [some (.ref (43 + 3)), some (.int x1), some (.int x2), some (.int x3), some (.int x4), some (.int x5)] [.int x1, .ref (43 + 3), .int x4] _ _ from ?_)
    refine zy_2 rfl rfl (show zyR _ _ _ _ [some (.ref (43 + 3)), some (.int x1), some (.int x2), some (.int x3), some (.int x4), some (.int x5)] [.int x5, .int x1, .ref (43 + 3), .int x4] _ _ from ?_)
    obtain ⟨p2, hp2, h⟩ := zy_bind h
    refine zy_5 (c := 43) (as := [.int x1, .int x5]) (rest := [.int x4]) (L := [some (.ref (43 + 3)), some (.int x1), some (.int x5), none, none, none]) (d' := 3) rfl rfl rfl (Nat.le_of_ble_eq_true rfl) (Nat.le_of_ble_eq_true rfl) rfl (Nat.le_of_ble_eq_true rfl) rfl rfl (zyC230 hp2) ?_
    show zyR _ _ _ _ [some (.ref (43 + 3)), some (.int x1), some (.int x2), some (.int x3), some (.int x4), some (.int x5)] [.int p2.1, .int x4] _ _
    refine zy_3 rfl rfl (show zyR _ _ _ _ [some (.ref (43 + 3)), some (.int x1), some (.int x2), some (.int x3), some (.int x4), some (.int x5)] [.int (-2 : Int32), .int p2.1, .int x4] _ _ from ?_)
    refine zy_25_1 rfl (fun b3 => (show zyR _ _ _ _ [some (.ref (43 + 3)), some (.int x1), some (.int x2), some (.int x3), some (.int x4), some (.int x5)] [.int x4] _ _ from ?_)) (fun b3 => (show zyR _ _ _ _ [some (.ref (43 + 3)), some (.int x1), some (.int x2), some (.int x3), some (.int x4), some (.int x5)] [.int x4] _ _ from ?_))
    · replace h := zy_ifp h b3
      refine zy_3 rfl rfl (show zyR _ _ _ _ [some (.ref (43 + 3)), some (.int x1), some (.int x2), some (.int x3), some (.int x4), some (.int x5)] [.int (0 : Int32), .int x4] _ _ from ?_)
      exact zy_sub (show zy_le [some (.ref (43 + 3)), some (.int x1), some (.int x2), some (.int x3), none, some (.int x5)] [some (.ref (43 + 3)), some (.int x1), some (.int x2), some (.int x3), some (.int x4), some (.int x5)] from ⟨rfl, ⟨rfl, ⟨rfl, ⟨rfl, ⟨rfl, trivial⟩⟩⟩⟩⟩) (zyC233_116 hk89 h)
    · replace h := zy_ifn h b3
      refine zy_3 rfl rfl (show zyR _ _ _ _ [some (.ref (43 + 3)), some (.int x1), some (.int x2), some (.int x3), some (.int x4), some (.int x5)] [.int (1 : Int32), .int x4] _ _ from ?_)
      refine zy_6 rfl (show zyR _ _ _ _ [some (.ref (43 + 3)), some (.int x1), some (.int x2), some (.int x3), some (.int x4), some (.int x5)] [.int (1 : Int32), .int x4] _ _ from ?_)
      exact zy_sub (show zy_le [some (.ref (43 + 3)), some (.int x1), some (.int x2), some (.int x3), none, some (.int x5)] [some (.ref (43 + 3)), some (.int x1), some (.int x2), some (.int x3), some (.int x4), some (.int x5)] from ⟨rfl, ⟨rfl, ⟨rfl, ⟨rfl, ⟨rfl, trivial⟩⟩⟩⟩⟩) (zyC233_116 hk89 h)
noncomputable def zyF233_89   (n : Nat) : Int32 → Int32 → Int32 → Int32 → Int32 → zy_S → Option (Int32 × zy_S) := Nat.rec (fun _ _ _ _ _ _ => none) (fun _ k89 => zyF233_89b k89) n
theorem zyC233_89 {X : zx_X}     : ∀ (n : Nat) (x1 : Int32) (x2 : Int32) (x3 : Int32) (x4 : Int32) (x5 : Int32) (s : zy_S) (r : Int32) (s' : zy_S), zyF233_89 n x1 x2 x3 x4 x5 s = some (r, s') → zyR X 4 233 89 [some (.ref (43 + 3)), some (.int x1), some (.int x2), some (.int x3), some (.int x4), some (.int x5)] [] s (zyE (some (.int r)) s')
  | 0, _, _, _, _, _ => by
    intro s r s'  h
    have h : (none : Option (Int32 × zy_S)) = some (r, s') := h
    cases h
  | n + 1, x1, x2, x3, x4, x5 => by
    intro s r s'  h
    exact zyC233_89b (k89 := zyF233_89 n) (fun x1 x2 x3 x4 x5 s r s'  h => zyC233_89  n x1 x2 x3 x4 x5 s r s'  h) h
noncomputable def zyF233_75  (k40 : Int32 → Int32 → Int32 → Int32 → zy_S → Option (Int32 × zy_S)) (x1 : Int32) (x2 : Int32) (x4 : Int32) (y0 : Int32) (y1 : Int32) (s : zy_S) : Option (Int32 × zy_S) :=
k40 x1 x2 (y1 ||| y0) (x4 + (1 : Int32)) s
theorem zyC233_75 {X : zx_X}  {k40 : Int32 → Int32 → Int32 → Int32 → zy_S → Option (Int32 × zy_S)}  (hk40 : ∀ (x1 : Int32) (x2 : Int32) (x3 : Int32) (x4 : Int32) (s : zy_S) (r : Int32) (s' : zy_S), k40 x1 x2 x3 x4 s = some (r, s') → zyR X 4 233 40 [some (.ref (43 + 3)), some (.int x1), some (.int x2), some (.int x3), some (.int x4), none] [] s (zyE (some (.int r)) s')) {x1 : Int32} {x2 : Int32} {x4 : Int32} {y0 : Int32} {y1 : Int32} {s : zy_S} {r : Int32} {s' : zy_S}  (h : zyF233_75 k40 x1 x2 x4 y0 y1 s = some (r, s')) : zyR X 4 233 75 [some (.ref (43 + 3)), some (.int x1), some (.int x2), none, some (.int x4), none] [.int y0, .int y1] s (zyE (some (.int r)) s') := by
  unfold zyF233_75 at h
  refine zy_14 rfl (show zyR _ _ _ _ [some (.ref (43 + 3)), some (.int x1), some (.int x2), none, some (.int x4), none] [.int (y1 ||| y0)] _ _ from ?_)
  refine zy_23 rfl rfl (show zyR _ _ _ _ [some (.ref (43 + 3)), some (.int x1), some (.int x2), some (.int (y1 ||| y0)), some (.int x4), none] [] _ _ from ?_)
  refine zy_22 rfl rfl rfl rfl (show zyR _ _ _ _ [some (.ref (43 + 3)), some (.int x1), some (.int x2), some (.int (y1 ||| y0)), some (.int (x4 + (1 : Int32))), none] [] _ _ from ?_)
  refine zy_6 rfl (show zyR _ _ _ _ [some (.ref (43 + 3)), some (.int x1), some (.int x2), some (.int (y1 ||| y0)), some (.int (x4 + (1 : Int32))), none] [] _ _ from ?_)
  exact zy_sub (show zy_le [some (.ref (43 + 3)), some (.int x1), some (.int x2), some (.int (y1 ||| y0)), some (.int (x4 + (1 : Int32))), none] [some (.ref (43 + 3)), some (.int x1), some (.int x2), some (.int (y1 ||| y0)), some (.int (x4 + (1 : Int32))), none] from ⟨rfl, ⟨rfl, ⟨rfl, ⟨rfl, ⟨rfl, trivial⟩⟩⟩⟩⟩) (hk40 x1 x2 (y1 ||| y0) (x4 + (1 : Int32)) s _ _ h)
noncomputable def zyF233_40b  (k40 : Int32 → Int32 → Int32 → Int32 → zy_S → Option (Int32 × zy_S)) (x1 : Int32) (x2 : Int32) (x3 : Int32) (x4 : Int32) (s : zy_S) : Option (Int32 × zy_S) :=
if (s.1 43 6) ≤ x4 then
zyF233_89 zy_fu x1 x2 x3 (0 : Int32) (0 : Int32) s
else
if zy_in x4 41 then
(zyF230 x1 (s.1 44 (x4).toNatClampNeg) s).bind fun p6 =>
if p6.1 ≠ (-2 : Int32) then
zyF233_75 k40 x1 x2 x4 (0 : Int32) x3 p6.2
else
zyF233_75 k40 x1 x2 x4 ((1 : Int32) <<< (x4 &&& 31)) x3 p6.2
else none
theorem zyC233_40b {X : zx_X}  {k40 : Int32 → Int32 → Int32 → Int32 → zy_S → Option (Int32 × zy_S)}  (hk40 : ∀ (x1 : Int32) (x2 : Int32) (x3 : Int32) (x4 : Int32) (s : zy_S) (r : Int32) (s' : zy_S), k40 x1 x2 x3 x4 s = some (r, s') → zyR X 4 233 40 [some (.ref (43 + 3)), some (.int x1), some (.int x2), some (.int x3), some (.int x4), none] [] s (zyE (some (.int r)) s')) {x1 : Int32} {x2 : Int32} {x3 : Int32} {x4 : Int32} {s : zy_S} {r : Int32} {s' : zy_S}  (h : zyF233_40b k40 x1 x2 x3 x4 s = some (r, s')) : zyR X 4 233 40 [some (.ref (43 + 3)), some (.int x1), some (.int x2), some (.int x3), some (.int x4), none] [] s (zyE (some (.int r)) s') := by
  unfold zyF233_40b at h
  refine zy_2 rfl rfl (show zyR _ _ _ _ [some (.ref (43 + 3)), some (.int x1), some (.int x2), some (.int x3), some (.int x4), none] [.int x4] _ _ from ?_)
  refine zy_0 rfl rfl (show zyR _ _ _ _ [some (.ref (43 + 3)), some (.int x1), some (.int x2), some (.int x3), some (.int x4), none] [.ref (43 + 3), .int x4] _ _ from ?_)
  refine zy_1 (c := 43) rfl rfl rfl (show zyR _ _ _ _ [some (.ref (43 + 3)), some (.int x1), some (.int x2), some (.int x3), some (.int x4), none] [.int (s.1 43 6), .int x4] _ _ from ?_)
  refine zy_25_3 rfl (fun b8 => (show zyR _ _ _ _ [some (.ref (43 + 3)), some (.int x1), some (.int x2), some (.int x3), some (.int x4), none] [] _ _ from ?_)) (fun b8 => (show zyR _ _ _ _ [some (.ref (43 + 3)), some (.int x1), some (.int x2), some (.int x3), some (.int x4), none] [] _ _ from ?_))
  · replace h := zy_ifp h b8
    refine zy_3 rfl rfl (show zyR _ _ _ _ [some (.ref (43 + 3)), some (.int x1), some (.int x2), some (.int x3), some (.int x4), none] [.int (0 : Int32)] _ _ from ?_)
    refine zy_23 rfl rfl (show zyR _ _ _ _ [some (.ref (43 + 3)), some (.int x1), some (.int x2), some (.int x3), some (.int (0 : Int32)), none] [] _ _ from ?_)
    refine zy_3 rfl rfl (show zyR _ _ _ _ [some (.ref (43 + 3)), some (.int x1), some (.int x2), some (.int x3), some (.int (0 : Int32)), none] [.int (0 : Int32)] _ _ from ?_)
    refine zy_23 rfl rfl (show zyR _ _ _ _ [some (.ref (43 + 3)), some (.int x1), some (.int x2), some (.int x3), some (.int (0 : Int32)), some (.int (0 : Int32))] [] _ _ from ?_)
    exact zy_sub (show zy_le [some (.ref (43 + 3)), some (.int x1), some (.int x2), some (.int x3), some (.int (0 : Int32)), some (.int (0 : Int32))] [some (.ref (43 + 3)), some (.int x1), some (.int x2), some (.int x3), some (.int (0 : Int32)), some (.int (0 : Int32))] from ⟨rfl, ⟨rfl, ⟨rfl, ⟨rfl, ⟨rfl, ⟨rfl, trivial⟩⟩⟩⟩⟩⟩) (zyC233_89 zy_fu x1 x2 x3 (0 : Int32) (0 : Int32) s _ _ h)
  · replace h := zy_ifn h b8
    refine zy_2 rfl rfl (show zyR _ _ _ _ [some (.ref (43 + 3)), some (.int x1), some (.int x2), some (.int x3), some (.int x4), none] [.int x3] _ _ from ?_)
    refine zy_0 rfl rfl (show zyR _ _ _ _ [some (.ref (43 + 3)), some (.int x1), some (.int x2), some (.int x3), some (.int x4), none] [.ref (43 + 3), .int x3] _ _ from ?_)
    refine zy_2 rfl rfl (show zyR _ _ _ _ [some (.ref (43 + 3)), some (.int x1), some (.int x2), some (.int x3), some (.int x4), none] [.int x1, .ref (43 + 3), .int x3] _ _ from ?_)
    refine zy_0 rfl rfl (show zyR _ _ _ _ [some (.ref (43 + 3)), some (.int x1), some (.int x2), some (.int x3), some (.int x4), none] [.ref (43 + 3), .int x1, .ref (43 + 3), .int x3] _ _ from ?_)
    refine zy_1r (c := 43) rfl rfl rfl (show zyR _ _ _ _ [some (.ref (43 + 3)), some (.int x1), some (.int x2), some (.int x3), some (.int x4), none] [.ref (44 + 3), .int x1, .ref (43 + 3), .int x3] _ _ from ?_)
    refine zy_2 rfl rfl (show zyR _ _ _ _ [some (.ref (43 + 3)), some (.int x1), some (.int x2), some (.int x3), some (.int x4), none] [.int x4, .ref (44 + 3), .int x1, .ref (43 + 3), .int x3] _ _ from ?_)
    obtain ⟨c5, h⟩ := zy_if h
    refine zy_26 (c := 44) rfl rfl c5 (show zyR _ _ _ _ [some (.ref (43 + 3)), some (.int x1), some (.int x2), some (.int x3), some (.int x4), none] [.int (s.1 44 (x4).toNatClampNeg), .int x1, .ref (43 + 3), .int x3] _ _ from ?_)
    obtain ⟨p6, hp6, h⟩ := zy_bind h
    refine zy_5 (c := 43) (as := [.int x1, .int (s.1 44 (x4).toNatClampNeg)]) (rest := [.int x3]) (L := [some (.ref (43 + 3)), some (.int x1), some (.int (s.1 44 (x4).toNatClampNeg)), none, none, none]) (d' := 3) rfl rfl rfl (Nat.le_of_ble_eq_true rfl) (Nat.le_of_ble_eq_true rfl) rfl (Nat.le_of_ble_eq_true rfl) rfl rfl (zyC230 hp6) ?_
    show zyR _ _ _ _ [some (.ref (43 + 3)), some (.int x1), some (.int x2), some (.int x3), some (.int x4), none] [.int p6.1, .int x3] _ _
    refine zy_3 rfl rfl (show zyR _ _ _ _ [some (.ref (43 + 3)), some (.int x1), some (.int x2), some (.int x3), some (.int x4), none] [.int (-2 : Int32), .int p6.1, .int x3] _ _ from ?_)
    refine zy_25_1 rfl (fun b7 => (show zyR _ _ _ _ [some (.ref (43 + 3)), some (.int x1), some (.int x2), some (.int x3), some (.int x4), none] [.int x3] _ _ from ?_)) (fun b7 => (show zyR _ _ _ _ [some (.ref (43 + 3)), some (.int x1), some (.int x2), some (.int x3), some (.int x4), none] [.int x3] _ _ from ?_))
    · replace h := zy_ifp h b7
      refine zy_3 rfl rfl (show zyR _ _ _ _ [some (.ref (43 + 3)), some (.int x1), some (.int x2), some (.int x3), some (.int x4), none] [.int (0 : Int32), .int x3] _ _ from ?_)
      exact zy_sub (show zy_le [some (.ref (43 + 3)), some (.int x1), some (.int x2), none, some (.int x4), none] [some (.ref (43 + 3)), some (.int x1), some (.int x2), some (.int x3), some (.int x4), none] from ⟨rfl, ⟨rfl, ⟨rfl, ⟨rfl, trivial⟩⟩⟩⟩) (zyC233_75 hk40 h)
    · replace h := zy_ifn h b7
      refine zy_3 rfl rfl (show zyR _ _ _ _ [some (.ref (43 + 3)), some (.int x1), some (.int x2), some (.int x3), some (.int x4), none] [.int (1 : Int32), .int x3] _ _ from ?_)
      refine zy_2 rfl rfl (show zyR _ _ _ _ [some (.ref (43 + 3)), some (.int x1), some (.int x2), some (.int x3), some (.int x4), none] [.int x4, .int (1 : Int32), .int x3] _ _ from ?_)
      refine zy_16 rfl (show zyR _ _ _ _ [some (.ref (43 + 3)), some (.int x1), some (.int x2), some (.int x3), some (.int x4), none] [.int ((1 : Int32) <<< (x4 &&& 31)), .int x3] _ _ from ?_)
      refine zy_6 rfl (show zyR _ _ _ _ [some (.ref (43 + 3)), some (.int x1), some (.int x2), some (.int x3), some (.int x4), none] [.int ((1 : Int32) <<< (x4 &&& 31)), .int x3] _ _ from ?_)
      exact zy_sub (show zy_le [some (.ref (43 + 3)), some (.int x1), some (.int x2), none, some (.int x4), none] [some (.ref (43 + 3)), some (.int x1), some (.int x2), some (.int x3), some (.int x4), none] from ⟨rfl, ⟨rfl, ⟨rfl, ⟨rfl, trivial⟩⟩⟩⟩) (zyC233_75 hk40 h)
noncomputable def zyF233_40   (n : Nat) : Int32 → Int32 → Int32 → Int32 → zy_S → Option (Int32 × zy_S) := Nat.rec (fun _ _ _ _ _ => none) (fun _ k40 => zyF233_40b k40) n
theorem zyC233_40 {X : zx_X}     : ∀ (n : Nat) (x1 : Int32) (x2 : Int32) (x3 : Int32) (x4 : Int32) (s : zy_S) (r : Int32) (s' : zy_S), zyF233_40 n x1 x2 x3 x4 s = some (r, s') → zyR X 4 233 40 [some (.ref (43 + 3)), some (.int x1), some (.int x2), some (.int x3), some (.int x4), none] [] s (zyE (some (.int r)) s')
  | 0, _, _, _, _ => by
    intro s r s'  h
    have h : (none : Option (Int32 × zy_S)) = some (r, s') := h
    cases h
  | n + 1, x1, x2, x3, x4 => by
    intro s r s'  h
    exact zyC233_40b (k40 := zyF233_40 n) (fun x1 x2 x3 x4 s r s'  h => zyC233_40  n x1 x2 x3 x4 s r s'  h) h
noncomputable def zyF233   (x1 : Int32) (x2 : Int32) (s : zy_S) : Option (Int32 × zy_S) :=
(zyF229 x1 s).bind fun p9 =>
if p9.1 = (-1 : Int32) then
some ((-1 : Int32), p9.2)
else
(zyF179 (x2).toInt64 (0 : Int64) (1 : Int64) p9.2).bind fun p10 =>
if p10.1 ≠ 0 then
(zyF229 x1 p10.2).bind fun p11 =>
if 0 ≤ p11.1 then
zyF233_40 zy_fu x1 x2 (0 : Int32) (0 : Int32) p11.2
else
(zyF229 x1 p11.2).bind fun p12 =>
some (p12.1, p12.2)
else
some ((-1 : Int32), p10.2)
theorem zyC233 {X : zx_X}     {x1 : Int32} {x2 : Int32} {s : zy_S} {r : Int32} {s' : zy_S}  (h : zyF233 x1 x2 s = some (r, s')) : zyR X 4 233 0 [some (.ref (43 + 3)), some (.int x1), some (.int x2), none, none, none] [] s (zyE (some (.int r)) s') := by
  unfold zyF233 at h
  refine zy_0 rfl rfl (show zyR _ _ _ _ [some (.ref (43 + 3)), some (.int x1), some (.int x2), none, none, none] [.ref (43 + 3)] _ _ from ?_)
  refine zy_2 rfl rfl (show zyR _ _ _ _ [some (.ref (43 + 3)), some (.int x1), some (.int x2), none, none, none] [.int x1, .ref (43 + 3)] _ _ from ?_)
  obtain ⟨p9, hp9, h⟩ := zy_bind h
  refine zy_5 (c := 43) (as := [.int x1]) (rest := []) (L := [some (.ref (43 + 3)), some (.int x1)]) (d' := 3) rfl rfl rfl (Nat.le_of_ble_eq_true rfl) (Nat.le_of_ble_eq_true rfl) rfl (Nat.le_of_ble_eq_true rfl) rfl rfl (zyC229 hp9) ?_
  show zyR _ _ _ _ [some (.ref (43 + 3)), some (.int x1), some (.int x2), none, none, none] [.int p9.1] _ _
  refine zy_3 rfl rfl (show zyR _ _ _ _ [some (.ref (43 + 3)), some (.int x1), some (.int x2), none, none, none] [.int (-1 : Int32), .int p9.1] _ _ from ?_)
  refine zy_25_0 rfl (fun b15 => (show zyR _ _ _ _ [some (.ref (43 + 3)), some (.int x1), some (.int x2), none, none, none] [] _ _ from ?_)) (fun b15 => (show zyR _ _ _ _ [some (.ref (43 + 3)), some (.int x1), some (.int x2), none, none, none] [] _ _ from ?_))
  · replace h := zy_ifp h b15
    refine zy_3 rfl rfl (show zyR _ _ _ _ [some (.ref (43 + 3)), some (.int x1), some (.int x2), none, none, none] [.int (-1 : Int32)] _ _ from ?_)
    obtain ⟨rfl, rfl⟩ := zy_pi h
    exact zy_4 rfl ⟨rfl, rfl⟩
  · replace h := zy_ifn h b15
    refine zy_2 rfl rfl (show zyR _ _ _ _ [some (.ref (43 + 3)), some (.int x1), some (.int x2), none, none, none] [.int x2] _ _ from ?_)
    refine zy_40 rfl (show zyR _ _ _ _ [some (.ref (43 + 3)), some (.int x1), some (.int x2), none, none, none] [.long (x2).toInt64] _ _ from ?_)
    refine zy_36 rfl rfl (show zyR _ _ _ _ [some (.ref (43 + 3)), some (.int x1), some (.int x2), none, none, none] [.long (0 : Int64), .long (x2).toInt64] _ _ from ?_)
    refine zy_36 rfl rfl (show zyR _ _ _ _ [some (.ref (43 + 3)), some (.int x1), some (.int x2), none, none, none] [.long (1 : Int64), .long (0 : Int64), .long (x2).toInt64] _ _ from ?_)
    obtain ⟨p10, hp10, h⟩ := zy_bind h
    refine zy_60 (as := [.long (x2).toInt64, .long (0 : Int64), .long (1 : Int64)]) (rest := []) (L := [some (.long (x2).toInt64), none, some (.long (0 : Int64)), none, some (.long (1 : Int64)), none]) (d' := 1) rfl rfl (Nat.le_of_ble_eq_true rfl) (Nat.le_of_ble_eq_true rfl) rfl (Nat.le_of_ble_eq_true rfl) rfl rfl (zyC179 hp10) ?_
    show zyR _ _ _ _ [some (.ref (43 + 3)), some (.int x1), some (.int x2), none, none, none] [.int p10.1] _ _
    refine zy_24_1 rfl (fun b14 => (show zyR _ _ _ _ [some (.ref (43 + 3)), some (.int x1), some (.int x2), none, none, none] [] _ _ from ?_)) (fun b14 => (show zyR _ _ _ _ [some (.ref (43 + 3)), some (.int x1), some (.int x2), none, none, none] [] _ _ from ?_))
    · replace h := zy_ifp h b14
      refine zy_0 rfl rfl (show zyR _ _ _ _ [some (.ref (43 + 3)), some (.int x1), some (.int x2), none, none, none] [.ref (43 + 3)] _ _ from ?_)
      refine zy_2 rfl rfl (show zyR _ _ _ _ [some (.ref (43 + 3)), some (.int x1), some (.int x2), none, none, none] [.int x1, .ref (43 + 3)] _ _ from ?_)
      obtain ⟨p11, hp11, h⟩ := zy_bind h
      refine zy_5 (c := 43) (as := [.int x1]) (rest := []) (L := [some (.ref (43 + 3)), some (.int x1)]) (d' := 3) rfl rfl rfl (Nat.le_of_ble_eq_true rfl) (Nat.le_of_ble_eq_true rfl) rfl (Nat.le_of_ble_eq_true rfl) rfl rfl (zyC229 hp11) ?_
      show zyR _ _ _ _ [some (.ref (43 + 3)), some (.int x1), some (.int x2), none, none, none] [.int p11.1] _ _
      refine zy_24_3 rfl (fun b13 => (show zyR _ _ _ _ [some (.ref (43 + 3)), some (.int x1), some (.int x2), none, none, none] [] _ _ from ?_)) (fun b13 => (show zyR _ _ _ _ [some (.ref (43 + 3)), some (.int x1), some (.int x2), none, none, none] [] _ _ from ?_))
      · replace h := zy_ifp h b13
        refine zy_3 rfl rfl (show zyR _ _ _ _ [some (.ref (43 + 3)), some (.int x1), some (.int x2), none, none, none] [.int (0 : Int32)] _ _ from ?_)
        refine zy_23 rfl rfl (show zyR _ _ _ _ [some (.ref (43 + 3)), some (.int x1), some (.int x2), some (.int (0 : Int32)), none, none] [] _ _ from ?_)
        refine zy_3 rfl rfl (show zyR _ _ _ _ [some (.ref (43 + 3)), some (.int x1), some (.int x2), some (.int (0 : Int32)), none, none] [.int (0 : Int32)] _ _ from ?_)
        refine zy_23 rfl rfl (show zyR _ _ _ _ [some (.ref (43 + 3)), some (.int x1), some (.int x2), some (.int (0 : Int32)), some (.int (0 : Int32)), none] [] _ _ from ?_)
        exact zy_sub (show zy_le [some (.ref (43 + 3)), some (.int x1), some (.int x2), some (.int (0 : Int32)), some (.int (0 : Int32)), none] [some (.ref (43 + 3)), some (.int x1), some (.int x2), some (.int (0 : Int32)), some (.int (0 : Int32)), none] from ⟨rfl, ⟨rfl, ⟨rfl, ⟨rfl, ⟨rfl, trivial⟩⟩⟩⟩⟩) (zyC233_40 zy_fu x1 x2 (0 : Int32) (0 : Int32) p11.2 _ _ h)
      · replace h := zy_ifn h b13
        refine zy_0 rfl rfl (show zyR _ _ _ _ [some (.ref (43 + 3)), some (.int x1), some (.int x2), none, none, none] [.ref (43 + 3)] _ _ from ?_)
        refine zy_2 rfl rfl (show zyR _ _ _ _ [some (.ref (43 + 3)), some (.int x1), some (.int x2), none, none, none] [.int x1, .ref (43 + 3)] _ _ from ?_)
        obtain ⟨p12, hp12, h⟩ := zy_bind h
        refine zy_5 (c := 43) (as := [.int x1]) (rest := []) (L := [some (.ref (43 + 3)), some (.int x1)]) (d' := 3) rfl rfl rfl (Nat.le_of_ble_eq_true rfl) (Nat.le_of_ble_eq_true rfl) rfl (Nat.le_of_ble_eq_true rfl) rfl rfl (zyC229 hp12) ?_
        show zyR _ _ _ _ [some (.ref (43 + 3)), some (.int x1), some (.int x2), none, none, none] [.int p12.1] _ _
        obtain ⟨rfl, rfl⟩ := zy_pi h
        exact zy_4 rfl ⟨rfl, rfl⟩
    · replace h := zy_ifn h b14
      refine zy_3 rfl rfl (show zyR _ _ _ _ [some (.ref (43 + 3)), some (.int x1), some (.int x2), none, none, none] [.int (-1 : Int32)] _ _ from ?_)
      obtain ⟨rfl, rfl⟩ := zy_pi h
      exact zy_4 rfl ⟨rfl, rfl⟩
/-! NineOpinions$Tape.next()I -/
noncomputable def zyF41    (s : zy_S) : Option (Int32 × zy_S) :=
if (s.1 9 2) ≤ (s.1 9 4) then
some ((-1 : Int32), s)
else
if zy_in (s.1 9 4) 120 then
some ((s.1 10 ((s.1 9 4)).toNatClampNeg), s)
else none
theorem zyC41 {X : zx_X}      {s : zy_S} {r : Int32} {s' : zy_S}  (h : zyF41 s = some (r, s')) : zyR X 1 41 0 [some (.ref (9 + 3))] [] s (zyE (some (.int r)) s') := by
  unfold zyF41 at h
  refine zy_0 rfl rfl (show zyR _ _ _ _ [some (.ref (9 + 3))] [.ref (9 + 3)] _ _ from ?_)
  refine zy_1 (c := 9) rfl rfl rfl (show zyR _ _ _ _ [some (.ref (9 + 3))] [.int (s.1 9 4)] _ _ from ?_)
  refine zy_0 rfl rfl (show zyR _ _ _ _ [some (.ref (9 + 3))] [.ref (9 + 3), .int (s.1 9 4)] _ _ from ?_)
  refine zy_1 (c := 9) rfl rfl rfl (show zyR _ _ _ _ [some (.ref (9 + 3))] [.int (s.1 9 2), .int (s.1 9 4)] _ _ from ?_)
  refine zy_25_3 rfl (fun b2 => (show zyR _ _ _ _ [some (.ref (9 + 3))] [] _ _ from ?_)) (fun b2 => (show zyR _ _ _ _ [some (.ref (9 + 3))] [] _ _ from ?_))
  · replace h := zy_ifp h b2
    refine zy_3 rfl rfl (show zyR _ _ _ _ [some (.ref (9 + 3))] [.int (-1 : Int32)] _ _ from ?_)
    obtain ⟨rfl, rfl⟩ := zy_pi h
    exact zy_4 rfl ⟨rfl, rfl⟩
  · replace h := zy_ifn h b2
    refine zy_0 rfl rfl (show zyR _ _ _ _ [some (.ref (9 + 3))] [.ref (9 + 3)] _ _ from ?_)
    refine zy_1r (c := 9) rfl rfl rfl (show zyR _ _ _ _ [some (.ref (9 + 3))] [.ref (10 + 3)] _ _ from ?_)
    refine zy_0 rfl rfl (show zyR _ _ _ _ [some (.ref (9 + 3))] [.ref (9 + 3), .ref (10 + 3)] _ _ from ?_)
    refine zy_1 (c := 9) rfl rfl rfl (show zyR _ _ _ _ [some (.ref (9 + 3))] [.int (s.1 9 4), .ref (10 + 3)] _ _ from ?_)
    obtain ⟨c1, h⟩ := zy_if h
    refine zy_26 (c := 10) rfl rfl c1 (show zyR _ _ _ _ [some (.ref (9 + 3))] [.int (s.1 10 ((s.1 9 4)).toNatClampNeg)] _ _ from ?_)
    refine zy_6 rfl (show zyR _ _ _ _ [some (.ref (9 + 3))] [.int (s.1 10 ((s.1 9 4)).toNatClampNeg)] _ _ from ?_)
    obtain ⟨rfl, rfl⟩ := zy_pi h
    exact zy_4 rfl ⟨rfl, rfl⟩
/-! NineOpinions$Tape.make(I)V -/
noncomputable def zyF44   (x1 : Int32) (s : zy_S) : Option (Int32 × zy_S) :=
if (128 : Int32) ≤ (s.1 9 3) then
some ((0 : Int32), s)
else
if zy_in (s.1 9 3) 128 then
some ((0 : Int32), (zy_up (zy_up s 11 ((s.1 9 3)).toNatClampNeg x1) 9 3 ((s.1 9 3) + (1 : Int32))))
else none
theorem zyC44 {X : zx_X}     {x1 : Int32} {s : zy_S} {r : Int32} {s' : zy_S}  (h : zyF44 x1 s = some (r, s')) : zyR X 1 44 0 [some (.ref (9 + 3)), some (.int x1)] [] s (zyE none s') := by
  unfold zyF44 at h
  refine zy_0 rfl rfl (show zyR _ _ _ _ [some (.ref (9 + 3)), some (.int x1)] [.ref (9 + 3)] _ _ from ?_)
  refine zy_1 (c := 9) rfl rfl rfl (show zyR _ _ _ _ [some (.ref (9 + 3)), some (.int x1)] [.int (s.1 9 3)] _ _ from ?_)
  refine zy_3 rfl rfl (show zyR _ _ _ _ [some (.ref (9 + 3)), some (.int x1)] [.int (128 : Int32), .int (s.1 9 3)] _ _ from ?_)
  refine zy_25_3 rfl (fun b2 => (show zyR _ _ _ _ [some (.ref (9 + 3)), some (.int x1)] [] _ _ from ?_)) (fun b2 => (show zyR _ _ _ _ [some (.ref (9 + 3)), some (.int x1)] [] _ _ from ?_))
  · replace h := zy_ifp h b2
    cases h
    exact zy_66 rfl ⟨rfl, rfl⟩
  · replace h := zy_ifn h b2
    refine zy_0 rfl rfl (show zyR _ _ _ _ [some (.ref (9 + 3)), some (.int x1)] [.ref (9 + 3)] _ _ from ?_)
    refine zy_1r (c := 9) rfl rfl rfl (show zyR _ _ _ _ [some (.ref (9 + 3)), some (.int x1)] [.ref (11 + 3)] _ _ from ?_)
    refine zy_0 rfl rfl (show zyR _ _ _ _ [some (.ref (9 + 3)), some (.int x1)] [.ref (9 + 3), .ref (11 + 3)] _ _ from ?_)
    refine zy_1 (c := 9) rfl rfl rfl (show zyR _ _ _ _ [some (.ref (9 + 3)), some (.int x1)] [.int (s.1 9 3), .ref (11 + 3)] _ _ from ?_)
    refine zy_2 rfl rfl (show zyR _ _ _ _ [some (.ref (9 + 3)), some (.int x1)] [.int x1, .int (s.1 9 3), .ref (11 + 3)] _ _ from ?_)
    obtain ⟨c1, h⟩ := zy_if h
    refine zy_27 (c := 11) rfl rfl c1 (show zyR _ _ _ _ [some (.ref (9 + 3)), some (.int x1)] [] _ _ from ?_)
    refine zy_0 rfl rfl (show zyR _ _ _ _ [some (.ref (9 + 3)), some (.int x1)] [.ref (9 + 3)] _ _ from ?_)
    refine zy_33 rfl rfl (show zyR _ _ _ _ [some (.ref (9 + 3)), some (.int x1)] [.ref (9 + 3), .ref (9 + 3)] _ _ from ?_)
    refine zy_1 (c := 9) rfl rfl rfl (show zyR _ _ _ _ [some (.ref (9 + 3)), some (.int x1)] [.int (s.1 9 3), .ref (9 + 3)] _ _ from ?_)
    refine zy_3 rfl rfl (show zyR _ _ _ _ [some (.ref (9 + 3)), some (.int x1)] [.int (1 : Int32), .int (s.1 9 3), .ref (9 + 3)] _ _ from ?_)
    refine zy_10 rfl (show zyR _ _ _ _ [some (.ref (9 + 3)), some (.int x1)] [.int ((s.1 9 3) + (1 : Int32)), .ref (9 + 3)] _ _ from ?_)
    refine zy_52 (c := 9) rfl rfl rfl (show zyR _ _ _ _ [some (.ref (9 + 3)), some (.int x1)] [] _ _ from ?_)
    cases h
    exact zy_66 rfl ⟨rfl, rfl⟩
