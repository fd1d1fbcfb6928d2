/-! PART 41.49: methods as functions. Made by wip/v4/dcp.py. -/
/-! NineOpinions$Votes.believersOf(I)I -/
noncomputable def zyF95_35  (k4 : Int32 → Int32 → Int32 → zy_S → Option (Int32 × zy_S)) (x1 : Int32) (x3 : Int32) (y0 : Int32) (y1 : Int32) (s : zy_S) : Option (Int32 × zy_S) :=
k4 x1 (y1 ||| y0) (x3 + (1 : Int32)) s
theorem zyC95_35 {X : zx_X}  {k4 : Int32 → Int32 → Int32 → zy_S → Option (Int32 × zy_S)}  (hk4 : ∀ (x1 : Int32) (x2 : Int32) (x3 : Int32) (s : zy_S) (r : Int32) (s' : zy_S), k4 x1 x2 x3 s = some (r, s') → zyR X 3 95 4 [some (.ref (16 + 3)), some (.int x1), some (.int x2), some (.int x3)] [] s (zyE (some (.int r)) s')) {x1 : Int32} {x3 : Int32} {y0 : Int32} {y1 : Int32} {s : zy_S} {r : Int32} {s' : zy_S}  (h : zyF95_35 k4 x1 x3 y0 y1 s = some (r, s')) : zyR X 3 95 35 [some (.ref (16 + 3)), some (.int x1), none, some (.int x3)] [.int y0, .int y1] s (zyE (some (.int r)) s') := by
  unfold zyF95_35 at h
  refine zy_14 rfl (show zyR _ _ _ _ [some (.ref (16 + 3)), some (.int x1), none, some (.int x3)] [.int (y1 ||| y0)] _ _ from ?_)
  refine zy_23 rfl rfl (show zyR _ _ _ _ [some (.ref (16 + 3)), some (.int x1), some (.int (y1 ||| y0)), some (.int x3)] [] _ _ from ?_)
  refine zy_22 rfl rfl rfl rfl (show zyR _ _ _ _ [some (.ref (16 + 3)), some (.int x1), some (.int (y1 ||| y0)), some (.int (x3 + (1 : Int32)))] [] _ _ from ?_)
  refine zy_6 rfl (show zyR _ _ _ _ [some (.ref (16 + 3)), some (.int x1), some (.int (y1 ||| y0)), some (.int (x3 + (1 : Int32)))] [] _ _ from ?_)
  exact zy_sub (show zy_le [some (.ref (16 + 3)), some (.int x1), some (.int (y1 ||| y0)), some (.int (x3 + (1 : Int32)))] [some (.ref (16 + 3)), some (.int x1), some (.int (y1 ||| y0)), some (.int (x3 + (1 : Int32)))] from ⟨rfl, ⟨rfl, ⟨rfl, ⟨rfl, trivial⟩⟩⟩⟩) (hk4 x1 (y1 ||| y0) (x3 + (1 : Int32)) s _ _ h)
noncomputable def zyF95_4b  (k4 : Int32 → Int32 → Int32 → zy_S → Option (Int32 × zy_S)) (x1 : Int32) (x2 : Int32) (x3 : Int32) (s : zy_S) : Option (Int32 × zy_S) :=
if (s.1 1 5) ≤ x3 then
some (x2, s)
else
(zyF96 x3 x1 s).bind fun p1 =>
if p1.1 = 0 then
zyF95_35 k4 x1 x3 (0 : Int32) x2 p1.2
else
zyF95_35 k4 x1 x3 ((1 : Int32) <<< (x3 &&& 31)) x2 p1.2
theorem zyC95_4b {X : zx_X}  {k4 : Int32 → Int32 → Int32 → zy_S → Option (Int32 × zy_S)}  (hk4 : ∀ (x1 : Int32) (x2 : Int32) (x3 : Int32) (s : zy_S) (r : Int32) (s' : zy_S), k4 x1 x2 x3 s = some (r, s') → zyR X 3 95 4 [some (.ref (16 + 3)), some (.int x1), some (.int x2), some (.int x3)] [] s (zyE (some (.int r)) s')) {x1 : Int32} {x2 : Int32} {x3 : Int32} {s : zy_S} {r : Int32} {s' : zy_S}  (h : zyF95_4b k4 x1 x2 x3 s = some (r, s')) : zyR X 3 95 4 [some (.ref (16 + 3)), some (.int x1), some (.int x2), some (.int x3)] [] s (zyE (some (.int r)) s') := by
  unfold zyF95_4b at h
  refine zy_2 rfl rfl (show zyR _ _ _ _ [some (.ref (16 + 3)), some (.int x1), some (.int x2), some (.int x3)] [.int x3] _ _ from ?_)
  refine zy_0 rfl rfl (show zyR _ _ _ _ [some (.ref (16 + 3)), some (.int x1), some (.int x2), some (.int x3)] [.ref (16 + 3), .int x3] _ _ from ?_)
  refine zy_1r (c := 16) rfl rfl rfl (show zyR _ _ _ _ [some (.ref (16 + 3)), some (.int x1), some (.int x2), some (.int x3)] [.ref (1 + 3), .int x3] _ _ from ?_)
  refine zy_1 (c := 1) rfl rfl rfl (show zyR _ _ _ _ [some (.ref (16 + 3)), some (.int x1), some (.int x2), some (.int x3)] [.int (s.1 1 5), .int x3] _ _ from ?_)
  refine zy_25_3 rfl (fun b3 => (show zyR _ _ _ _ [some (.ref (16 + 3)), some (.int x1), some (.int x2), some (.int x3)] [] _ _ from ?_)) (fun b3 => (show zyR _ _ _ _ [some (.ref (16 + 3)), some (.int x1), some (.int x2), some (.int x3)] [] _ _ from ?_))
  · replace h := zy_ifp h b3
    refine zy_2 rfl rfl (show zyR _ _ _ _ [some (.ref (16 + 3)), some (.int x1), some (.int x2), some (.int x3)] [.int x2] _ _ from ?_)
    obtain ⟨rfl, rfl⟩ := zy_pi h
    exact zy_4 rfl ⟨rfl, rfl⟩
  · replace h := zy_ifn h b3
    refine zy_2 rfl rfl (show zyR _ _ _ _ [some (.ref (16 + 3)), some (.int x1), some (.int x2), some (.int x3)] [.int x2] _ _ from ?_)
    refine zy_0 rfl rfl (show zyR _ _ _ _ [some (.ref (16 + 3)), some (.int x1), some (.int x2), some (.int x3)] [.ref (16 + 3), .int x2] _ _ from ?_)
    refine zy_1r (c := 16) rfl rfl rfl (show zyR _ _ _ _ [some (.ref (16 + 3)), some (.int x1), some (.int x2), some (.int x3)] [.ref (1 + 3), .int x2] _ _ from ?_)
    refine zy_2 rfl rfl (show zyR _ _ _ _ [some (.ref (16 + 3)), some (.int x1), some (.int x2), some (.int x3)] [.int x3, .ref (1 + 3), .int x2] _ _ from ?_)
    refine zy_2 rfl rfl (show zyR _ _ _ _ [some (.ref (16 + 3)), some (.int x1), some (.int x2), some (.int x3)] [.int x1, .int x3, .ref (1 + 3), .int x2] _ _ from ?_)
    obtain ⟨p1, hp1, h⟩ := zy_bind h
    refine zy_5 (c := 1) (as := [.int x3, .int x1]) (rest := [.int x2]) (L := [some (.ref (1 + 3)), some (.int x3), some (.int x1)]) (d' := 2) rfl rfl rfl (Nat.le_of_ble_eq_true rfl) (Nat.le_of_ble_eq_true rfl) rfl (Nat.le_of_ble_eq_true rfl) rfl rfl (zyC96 hp1) ?_
    show zyR _ _ _ _ [some (.ref (16 + 3)), some (.int x1), some (.int x2), some (.int x3)] [.int p1.1, .int x2] _ _
    refine zy_24_0 rfl (fun b2 => (show zyR _ _ _ _ [some (.ref (16 + 3)), some (.int x1), some (.int x2), some (.int x3)] [.int x2] _ _ from ?_)) (fun b2 => (show zyR _ _ _ _ [some (.ref (16 + 3)), some (.int x1), some (.int x2), some (.int x3)] [.int x2] _ _ from ?_))
    · replace h := zy_ifp h b2
      refine zy_3 rfl rfl (show zyR _ _ _ _ [some (.ref (16 + 3)), some (.int x1), some (.int x2), some (.int x3)] [.int (0 : Int32), .int x2] _ _ from ?_)
      exact zy_sub (show zy_le [some (.ref (16 + 3)), some (.int x1), none, some (.int x3)] [some (.ref (16 + 3)), some (.int x1), some (.int x2), some (.int x3)] from ⟨rfl, ⟨rfl, ⟨rfl, trivial⟩⟩⟩) (zyC95_35 hk4 h)
    · replace h := zy_ifn h b2
      refine zy_3 rfl rfl (show zyR _ _ _ _ [some (.ref (16 + 3)), some (.int x1), some (.int x2), some (.int x3)] [.int (1 : Int32), .int x2] _ _ from ?_)
      refine zy_2 rfl rfl (show zyR _ _ _ _ [some (.ref (16 + 3)), some (.int x1), some (.int x2), some (.int x3)] [.int x3, .int (1 : Int32), .int x2] _ _ from ?_)
      refine zy_16 rfl (show zyR _ _ _ _ [some (.ref (16 + 3)), some (.int x1), some (.int x2), some (.int x3)] [.int ((1 : Int32) <<< (x3 &&& 31)), .int x2] _ _ from ?_)
      refine zy_6 rfl (show zyR _ _ _ _ [some (.ref (16 + 3)), some (.int x1), some (.int x2), some (.int x3)] [.int ((1 : Int32) <<< (x3 &&& 31)), .int x2] _ _ from ?_)
      exact zy_sub (show zy_le [some (.ref (16 + 3)), some (.int x1), none, some (.int x3)] [some (.ref (16 + 3)), some (.int x1), some (.int x2), some (.int x3)] from ⟨rfl, ⟨rfl, ⟨rfl, trivial⟩⟩⟩) (zyC95_35 hk4 h)
noncomputable def zyF95_4   (n : Nat) : Int32 → Int32 → Int32 → zy_S → Option (Int32 × zy_S) := Nat.rec (fun _ _ _ _ => none) (fun _ k4 => zyF95_4b k4) n
theorem zyC95_4 {X : zx_X}     : ∀ (n : Nat) (x1 : Int32) (x2 : Int32) (x3 : Int32) (s : zy_S) (r : Int32) (s' : zy_S), zyF95_4 n x1 x2 x3 s = some (r, s') → zyR X 3 95 4 [some (.ref (16 + 3)), some (.int x1), some (.int x2), some (.int x3)] [] s (zyE (some (.int r)) s')
  | 0, _, _, _ => by
    intro s r s'  h
    have h : (none : Option (Int32 × zy_S)) = some (r, s') := h
    cases h
  | n + 1, x1, x2, x3 => by
    intro s r s'  h
    exact zyC95_4b (k4 := zyF95_4 n) (fun x1 x2 x3 s r s'  h => zyC95_4  n x1 x2 x3 s r s'  h) h
noncomputable def zyF95   (x1 : Int32) (s : zy_S) : Option (Int32 × zy_S) :=
zyF95_4 zy_fu x1 (0 : Int32) (0 : Int32) s
theorem zyC95 {X : zx_X}     {x1 : Int32} {s : zy_S} {r : Int32} {s' : zy_S}  (h : zyF95 x1 s = some (r, s')) : zyR X 3 95 0 [some (.ref (16 + 3)), some (.int x1), none, none] [] s (zyE (some (.int r)) s') := by
  unfold zyF95 at h
  refine zy_3 rfl rfl (show zyR _ _ _ _ [some (.ref (16 + 3)), some (.int x1), none, none] [.int (0 : Int32)] _ _ from ?_)
  refine zy_23 rfl rfl (show zyR _ _ _ _ [some (.ref (16 + 3)), some (.int x1), some (.int (0 : Int32)), none] [] _ _ from ?_)
  refine zy_3 rfl rfl (show zyR _ _ _ _ [some (.ref (16 + 3)), some (.int x1), some (.int (0 : Int32)), none] [.int (0 : Int32)] _ _ from ?_)
  refine zy_23 rfl rfl (show zyR _ _ _ _ [some (.ref (16 + 3)), some (.int x1), some (.int (0 : Int32)), some (.int (0 : Int32))] [] _ _ from ?_)
  exact zy_sub (show zy_le [some (.ref (16 + 3)), some (.int x1), some (.int (0 : Int32)), some (.int (0 : Int32))] [some (.ref (16 + 3)), some (.int x1), some (.int (0 : Int32)), some (.int (0 : Int32))] from ⟨rfl, ⟨rfl, ⟨rfl, ⟨rfl, trivial⟩⟩⟩⟩) (zyC95_4 zy_fu x1 (0 : Int32) (0 : Int32) s _ _ h)
/-! NineOpinions$Votes.standingOf(I)I -/
noncomputable def zyF98_38  (k4 : Int32 → Int32 → Int32 → zy_S → Option (Int32 × zy_S)) (x1 : Int32) (x3 : Int32) (y0 : Int32) (y1 : Int32) (s : zy_S) : Option (Int32 × zy_S) :=
k4 x1 (y1 + y0) (x3 + (1 : Int32)) s
theorem zyC98_38 {X : zx_X}  {k4 : Int32 → Int32 → Int32 → zy_S → Option (Int32 × zy_S)}  (hk4 : ∀ (x1 : Int32) (x2 : Int32) (x3 : Int32) (s : zy_S) (r : Int32) (s' : zy_S), k4 x1 x2 x3 s = some (r, s') → zyR X 2 98 4 [some (.ref (16 + 3)), some (.int x1), some (.int x2), some (.int x3)] [] s (zyE (some (.int r)) s')) {x1 : Int32} {x3 : Int32} {y0 : Int32} {y1 : Int32} {s : zy_S} {r : Int32} {s' : zy_S}  (h : zyF98_38 k4 x1 x3 y0 y1 s = some (r, s')) : zyR X 2 98 38 [some (.ref (16 + 3)), some (.int x1), none, some (.int x3)] [.int y0, .int y1] s (zyE (some (.int r)) s') := by
  unfold zyF98_38 at h
  refine zy_10 rfl (show zyR _ _ _ _ [some (.ref (16 + 3)), some (.int x1), none, some (.int x3)] [.int (y1 + y0)] _ _ from ?_)
  refine zy_23 rfl rfl (show zyR _ _ _ _ [some (.ref (16 + 3)), some (.int x1), some (.int (y1 + y0)), some (.int x3)] [] _ _ from ?_)
  refine zy_22 rfl rfl rfl rfl (show zyR _ _ _ _ [some (.ref (16 + 3)), some (.int x1), some (.int (y1 + y0)), some (.int (x3 + (1 : Int32)))] [] _ _ from ?_)
  refine zy_6 rfl (show zyR _ _ _ _ [some (.ref (16 + 3)), some (.int x1), some (.int (y1 + y0)), some (.int (x3 + (1 : Int32)))] [] _ _ from ?_)
  exact zy_sub (show zy_le [some (.ref (16 + 3)), some (.int x1), some (.int (y1 + y0)), some (.int (x3 + (1 : Int32)))] [some (.ref (16 + 3)), some (.int x1), some (.int (y1 + y0)), some (.int (x3 + (1 : Int32)))] from ⟨rfl, ⟨rfl, ⟨rfl, ⟨rfl, trivial⟩⟩⟩⟩) (hk4 x1 (y1 + y0) (x3 + (1 : Int32)) s _ _ h)
noncomputable def zyF98_4b  (k4 : Int32 → Int32 → Int32 → zy_S → Option (Int32 × zy_S)) (x1 : Int32) (x2 : Int32) (x3 : Int32) (s : zy_S) : Option (Int32 × zy_S) :=
if (s.1 1 5) ≤ x3 then
some (x2, s)
else
(zyF32 x1 x3 s).bind fun p1 =>
if p1.1 ≠ (1 : Int32) then
zyF98_38 k4 x1 x3 (0 : Int32) x2 p1.2
else
if zy_in x3 8 then
zyF98_38 k4 x1 x3 (p1.2.1 4 (x3).toNatClampNeg) x2 p1.2
else none
theorem zyC98_4b {X : zx_X}  {k4 : Int32 → Int32 → Int32 → zy_S → Option (Int32 × zy_S)}  (hk4 : ∀ (x1 : Int32) (x2 : Int32) (x3 : Int32) (s : zy_S) (r : Int32) (s' : zy_S), k4 x1 x2 x3 s = some (r, s') → zyR X 2 98 4 [some (.ref (16 + 3)), some (.int x1), some (.int x2), some (.int x3)] [] s (zyE (some (.int r)) s')) {x1 : Int32} {x2 : Int32} {x3 : Int32} {s : zy_S} {r : Int32} {s' : zy_S}  (h : zyF98_4b k4 x1 x2 x3 s = some (r, s')) : zyR X 2 98 4 [some (.ref (16 + 3)), some (.int x1), some (.int x2), some (.int x3)] [] s (zyE (some (.int r)) s') := by
  unfold zyF98_4b at h
  refine zy_2 rfl rfl (show zyR _ _ _ _ [some (.ref (16 + 3)), some (.int x1), some (.int x2), some (.int x3)] [.int x3] _ _ from ?_)
  refine zy_0 rfl rfl (show zyR _ _ _ _ [some (.ref (16 + 3)), some (.int x1), some (.int x2), some (.int x3)] [.ref (16 + 3), .int x3] _ _ from ?_)
  refine zy_1r (c := 16) rfl rfl rfl (show zyR _ _ _ _ [some (.ref (16 + 3)), some (.int x1), some (.int x2), some (.int x3)] [.ref (1 + 3), .int x3] _ _ from ?_)
  refine zy_1 (c := 1) rfl rfl rfl (show zyR _ _ _ _ [some (.ref (16 + 3)), some (.int x1), some (.int x2), some (.int x3)] [.int (s.1 1 5), .int x3] _ _ from ?_)
  refine zy_25_3 rfl (fun b4 => (show zyR _ _ _ _ [some (.ref (16 + 3)), some (.int x1), some (.int x2), some (.int x3)] [] _ _ from ?_)) (fun b4 => (show zyR _ _ _ _ [some (.ref (16 + 3)), some (.int x1), some (.int x2), some (.int x3)] [] _ _ from ?_))
  · replace h := zy_ifp h b4
    refine zy_2 rfl rfl (show zyR _ _ _ _ [some (.ref (16 + 3)), some (.int x1), some (.int x2), some (.int x3)] [.int x2] _ _ from ?_)
    obtain ⟨rfl, rfl⟩ := zy_pi h
    exact zy_4 rfl ⟨rfl, rfl⟩
  · replace h := zy_ifn h b4
    refine zy_2 rfl rfl (show zyR _ _ _ _ [some (.ref (16 + 3)), some (.int x1), some (.int x2), some (.int x3)] [.int x2] _ _ from ?_)
    refine zy_2 rfl rfl (show zyR _ _ _ _ [some (.ref (16 + 3)), some (.int x1), some (.int x2), some (.int x3)] [.int x1, .int x2] _ _ from ?_)
    refine zy_2 rfl rfl (show zyR _ _ _ _ [some (.ref (16 + 3)), some (.int x1), some (.int x2), some (.int x3)] [.int x3, .int x1, .int x2] _ _ from ?_)
    obtain ⟨p1, hp1, h⟩ := zy_bind h
    refine zy_61 (as := [.int x1, .int x3]) (rest := [.int x2]) (L := [some (.int x1), some (.int x3)]) (d' := 1) rfl rfl (Nat.le_of_ble_eq_true rfl) (Nat.le_of_ble_eq_true rfl) rfl (Nat.le_of_ble_eq_true rfl) rfl rfl (zyC32 hp1) ?_
    show zyR _ _ _ _ [some (.ref (16 + 3)), some (.int x1), some (.int x2), some (.int x3)] [.int p1.1, .int x2] _ _
    refine zy_3 rfl rfl (show zyR _ _ _ _ [some (.ref (16 + 3)), some (.int x1), some (.int x2), some (.int x3)] [.int (1 : Int32), .int p1.1, .int x2] _ _ from ?_)
    refine zy_25_1 rfl (fun b3 => (show zyR _ _ _ _ [some (.ref (16 + 3)), some (.int x1), some (.int x2), some (.int x3)] [.int x2] _ _ from ?_)) (fun b3 => (show zyR _ _ _ _ [some (.ref (16 + 3)), some (.int x1), some (.int x2), some (.int x3)] [.int x2] _ _ from ?_))
    · replace h := zy_ifp h b3
      refine zy_3 rfl rfl (show zyR _ _ _ _ [some (.ref (16 + 3)), some (.int x1), some (.int x2), some (.int x3)] [.int (0 : Int32), .int x2] _ _ from ?_)
      exact zy_sub (show zy_le [some (.ref (16 + 3)), some (.int x1), none, some (.int x3)] [some (.ref (16 + 3)), some (.int x1), some (.int x2), some (.int x3)] from ⟨rfl, ⟨rfl, ⟨rfl, trivial⟩⟩⟩) (zyC98_38 hk4 h)
    · replace h := zy_ifn h b3
      refine zy_0 rfl rfl (show zyR _ _ _ _ [some (.ref (16 + 3)), some (.int x1), some (.int x2), some (.int x3)] [.ref (16 + 3), .int x2] _ _ from ?_)
      refine zy_1r (c := 16) rfl rfl rfl (show zyR _ _ _ _ [some (.ref (16 + 3)), some (.int x1), some (.int x2), some (.int x3)] [.ref (1 + 3), .int x2] _ _ from ?_)
      refine zy_1r (c := 1) rfl rfl rfl (show zyR _ _ _ _ [some (.ref (16 + 3)), some (.int x1), some (.int x2), some (.int x3)] [.ref (4 + 3), .int x2] _ _ from ?_)
      refine zy_2 rfl rfl (show zyR _ _ _ _ [some (.ref (16 + 3)), some (.int x1), some (.int x2), some (.int x3)] [.int x3, .ref (4 + 3), .int x2] _ _ from ?_)
      obtain ⟨c2, h⟩ := zy_if h
      refine zy_26 (c := 4) rfl rfl c2 (show zyR _ _ _ _ [some (.ref (16 + 3)), some (.int x1), some (.int x2), some (.int x3)] [.int (p1.2.1 4 (x3).toNatClampNeg), .int x2] _ _ from ?_)
      refine zy_6 rfl (show zyR _ _ _ _ [some (.ref (16 + 3)), some (.int x1), some (.int x2), some (.int x3)] [.int (p1.2.1 4 (x3).toNatClampNeg), .int x2] _ _ from ?_)
      exact zy_sub (show zy_le [some (.ref (16 + 3)), some (.int x1), none, some (.int x3)] [some (.ref (16 + 3)), some (.int x1), some (.int x2), some (.int x3)] from ⟨rfl, ⟨rfl, ⟨rfl, trivial⟩⟩⟩) (zyC98_38 hk4 h)
noncomputable def zyF98_4   (n : Nat) : Int32 → Int32 → Int32 → zy_S → Option (Int32 × zy_S) := Nat.rec (fun _ _ _ _ => none) (fun _ k4 => zyF98_4b k4) n
theorem zyC98_4 {X : zx_X}     : ∀ (n : Nat) (x1 : Int32) (x2 : Int32) (x3 : Int32) (s : zy_S) (r : Int32) (s' : zy_S), zyF98_4 n x1 x2 x3 s = some (r, s') → zyR X 2 98 4 [some (.ref (16 + 3)), some (.int x1), some (.int x2), some (.int x3)] [] s (zyE (some (.int r)) s')
  | 0, _, _, _ => by
    intro s r s'  h
    have h : (none : Option (Int32 × zy_S)) = some (r, s') := h
    cases h
  | n + 1, x1, x2, x3 => by
    intro s r s'  h
    exact zyC98_4b (k4 := zyF98_4 n) (fun x1 x2 x3 s r s'  h => zyC98_4  n x1 x2 x3 s r s'  h) h
noncomputable def zyF98   (x1 : Int32) (s : zy_S) : Option (Int32 × zy_S) :=
zyF98_4 zy_fu x1 (0 : Int32) (0 : Int32) s
theorem zyC98 {X : zx_X}     {x1 : Int32} {s : zy_S} {r : Int32} {s' : zy_S}  (h : zyF98 x1 s = some (r, s')) : zyR X 2 98 0 [some (.ref (16 + 3)), some (.int x1), none, none] [] s (zyE (some (.int r)) s') := by
  unfold zyF98 at h
  refine zy_3 rfl rfl (show zyR _ _ _ _ [some (.ref (16 + 3)), some (.int x1), none, none] [.int (0 : Int32)] _ _ from ?_)
  refine zy_23 rfl rfl (show zyR _ _ _ _ [some (.ref (16 + 3)), some (.int x1), some (.int (0 : Int32)), none] [] _ _ from ?_)
  refine zy_3 rfl rfl (show zyR _ _ _ _ [some (.ref (16 + 3)), some (.int x1), some (.int (0 : Int32)), none] [.int (0 : Int32)] _ _ from ?_)
  refine zy_23 rfl rfl (show zyR _ _ _ _ [some (.ref (16 + 3)), some (.int x1), some (.int (0 : Int32)), some (.int (0 : Int32))] [] _ _ from ?_)
  exact zy_sub (show zy_le [some (.ref (16 + 3)), some (.int x1), some (.int (0 : Int32)), some (.int (0 : Int32))] [some (.ref (16 + 3)), some (.int x1), some (.int (0 : Int32)), some (.int (0 : Int32))] from ⟨rfl, ⟨rfl, ⟨rfl, ⟨rfl, trivial⟩⟩⟩⟩) (zyC98_4 zy_fu x1 (0 : Int32) (0 : Int32) s _ _ h)
/-! NineOpinions$Votes.standingFor(II)I -/
noncomputable def zyF128   (x1 : Int32) (x2 : Int32) (s : zy_S) : Option (Int32 × zy_S) :=
(zyF95 (((4 : Int32) * x1) + x2) s).bind fun p1 =>
(zyF98 p1.1 p1.2).bind fun p2 =>
some (p2.1, p2.2)
theorem zyC128 {X : zx_X}     {x1 : Int32} {x2 : Int32} {s : zy_S} {r : Int32} {s' : zy_S}  (h : zyF128 x1 x2 s = some (r, s')) : zyR X 4 128 0 [some (.ref (16 + 3)), some (.int x1), some (.int x2)] [] s (zyE (some (.int r)) s') := by
  unfold zyF128 at h
  refine zy_0 rfl rfl (show zyR _ _ _ _ [some (.ref (16 + 3)), some (.int x1), some (.int x2)] [.ref (16 + 3)] _ _ from ?_)
  refine zy_0 rfl rfl (show zyR _ _ _ _ [some (.ref (16 + 3)), some (.int x1), some (.int x2)] [.ref (16 + 3), .ref (16 + 3)] _ _ from ?_)
  refine zy_3 rfl rfl (show zyR _ _ _ _ [some (.ref (16 + 3)), some (.int x1), some (.int x2)] [.int (4 : Int32), .ref (16 + 3), .ref (16 + 3)] _ _ from ?_)
  refine zy_2 rfl rfl (show zyR _ _ _ _ [some (.ref (16 + 3)), some (.int x1), some (.int x2)] [.int x1, .int (4 : Int32), .ref (16 + 3), .ref (16 + 3)] _ _ from ?_)
  refine zy_12 rfl (show zyR _ _ _ _ [some (.ref (16 + 3)), some (.int x1), some (.int x2)] [.int ((4 : Int32) * x1), .ref (16 + 3), .ref (16 + 3)] _ _ from ?_)
  refine zy_2 rfl rfl (show zyR _ _ _ _ [some (.ref (16 + 3)), some (.int x1), some (.int x2)] [.int x2, .int ((4 : Int32) * x1), .ref (16 + 3), .ref (16 + 3)] _ _ from ?_)
  refine zy_10 rfl (show zyR _ _ _ _ [some (.ref (16 + 3)), some (.int x1), some (.int x2)] [.int (((4 : Int32) * x1) + x2), .ref (16 + 3), .ref (16 + 3)] _ _ from ?_)
  obtain ⟨p1, hp1, h⟩ := zy_bind h
  refine zy_5 (c := 16) (as := [.int (((4 : Int32) * x1) + x2)]) (rest := [.ref (16 + 3)]) (L := [some (.ref (16 + 3)), some (.int (((4 : Int32) * x1) + x2)), none, none]) (d' := 3) rfl rfl rfl (Nat.le_of_ble_eq_true rfl) (Nat.le_of_ble_eq_true rfl) rfl (Nat.le_of_ble_eq_true rfl) rfl rfl (zyC95 hp1) ?_
  show zyR _ _ _ _ [some (.ref (16 + 3)), some (.int x1), some (.int x2)] [.int p1.1, .ref (16 + 3)] _ _
  obtain ⟨p2, hp2, h⟩ := zy_bind h
  refine zy_5 (c := 16) (as := [.int p1.1]) (rest := []) (L := [some (.ref (16 + 3)), some (.int p1.1), none, none]) (d' := 2) rfl rfl rfl (Nat.le_of_ble_eq_true rfl) (Nat.le_of_ble_eq_true rfl) rfl (Nat.le_of_ble_eq_true rfl) rfl rfl (zyC98 hp2) ?_
  show zyR _ _ _ _ [some (.ref (16 + 3)), some (.int x1), some (.int x2)] [.int p2.1] _ _
  obtain ⟨rfl, rfl⟩ := zy_pi h
  exact zy_4 rfl ⟨rfl, rfl⟩
