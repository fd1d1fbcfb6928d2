/-! PART 41.62: methods as functions. Made by wip/v4/dcp.py. -/
/-! NineOpinions$Book.viewsFor(LNineOpinions$Shelf;I)I -/
noncomputable def zyF113_26  (k4 : Nat → Int32 → Int32 → Int32 → zy_S → Option (Int32 × zy_S)) (x0 : Nat) (x1 : Int32) (x3 : Int32) (y0 : Int32) (y1 : Int32) (s : zy_S) : Option (Int32 × zy_S) :=
k4 x0 x1 (y1 ||| y0) (x3 + (1 : Int32)) s
theorem zyC113_26 {X : zx_X}  {k4 : Nat → Int32 → Int32 → Int32 → zy_S → Option (Int32 × zy_S)}  (hk4 : ∀ (x0 : Nat) (x1 : Int32) (x2 : Int32) (x3 : Int32) (s : zy_S) (r : Int32) (s' : zy_S) (hs_x0 : zy_isSh x0), k4 x0 x1 x2 x3 s = some (r, s') → zyR X 5 113 4 [some (.ref (x0 + 3)), some (.int x1), some (.int x2), some (.int x3)] [] s (zyE (some (.int r)) s')) {x0 : Nat} {x1 : Int32} {x3 : Int32} {y0 : Int32} {y1 : Int32} {s : zy_S} {r : Int32} {s' : zy_S} (hs_x0 : zy_isSh x0) (h : zyF113_26 k4 x0 x1 x3 y0 y1 s = some (r, s')) : zyR X 5 113 26 [some (.ref (x0 + 3)), some (.int x1), none, some (.int x3)] [.int y0, .int y1] s (zyE (some (.int r)) s') := by
  unfold zyF113_26 at h
  refine zy_14 rfl (show zyR _ _ _ _ [some (.ref (x0 + 3)), some (.int x1), none, some (.int x3)] [.int (y1 ||| y0)] _ _ from ?_)
  refine zy_23 rfl rfl (show zyR _ _ _ _ [some (.ref (x0 + 3)), some (.int x1), some (.int (y1 ||| y0)), some (.int x3)] [] _ _ from ?_)
  refine zy_22 rfl rfl rfl rfl (show zyR _ _ _ _ [some (.ref (x0 + 3)), some (.int x1), some (.int (y1 ||| y0)), some (.int (x3 + (1 : Int32)))] [] _ _ from ?_)
  refine zy_6 rfl (show zyR _ _ _ _ [some (.ref (x0 + 3)), some (.int x1), some (.int (y1 ||| y0)), some (.int (x3 + (1 : Int32)))] [] _ _ from ?_)
  exact zy_sub (show zy_le [some (.ref (x0 + 3)), some (.int x1), some (.int (y1 ||| y0)), some (.int (x3 + (1 : Int32)))] [some (.ref (x0 + 3)), some (.int x1), some (.int (y1 ||| y0)), some (.int (x3 + (1 : Int32)))] from ⟨rfl, ⟨rfl, ⟨rfl, ⟨rfl, trivial⟩⟩⟩⟩) (hk4 x0 x1 (y1 ||| y0) (x3 + (1 : Int32)) s _ _ hs_x0 h)
noncomputable def zyF113_4b  (k4 : Nat → Int32 → Int32 → Int32 → zy_S → Option (Int32 × zy_S)) (x0 : Nat) (x1 : Int32) (x2 : Int32) (x3 : Int32) (s : zy_S) : Option (Int32 × zy_S) :=
if (4 : Int32) ≤ x3 then
some (x2, s)
else
(zyF114 x0 x1 x3 s).bind fun p1 =>
if p1.1 = 0 then
zyF113_26 k4 x0 x1 x3 (0 : Int32) x2 p1.2
else
zyF113_26 k4 x0 x1 x3 ((1 : Int32) <<< (x3 &&& 31)) x2 p1.2
theorem zyC113_4b {X : zx_X}  {k4 : Nat → Int32 → Int32 → Int32 → zy_S → Option (Int32 × zy_S)}  (hk4 : ∀ (x0 : Nat) (x1 : Int32) (x2 : Int32) (x3 : Int32) (s : zy_S) (r : Int32) (s' : zy_S) (hs_x0 : zy_isSh x0), k4 x0 x1 x2 x3 s = some (r, s') → zyR X 5 113 4 [some (.ref (x0 + 3)), some (.int x1), some (.int x2), some (.int x3)] [] s (zyE (some (.int r)) s')) {x0 : Nat} {x1 : Int32} {x2 : Int32} {x3 : Int32} {s : zy_S} {r : Int32} {s' : zy_S} (hs_x0 : zy_isSh x0) (h : zyF113_4b k4 x0 x1 x2 x3 s = some (r, s')) : zyR X 5 113 4 [some (.ref (x0 + 3)), some (.int x1), some (.int x2), some (.int x3)] [] s (zyE (some (.int r)) s') := by
  unfold zyF113_4b at h
  refine zy_2 rfl rfl (show zyR _ _ _ _ [some (.ref (x0 + 3)), some (.int x1), some (.int x2), some (.int x3)] [.int x3] _ _ from ?_)
  refine zy_3 rfl rfl (show zyR _ _ _ _ [some (.ref (x0 + 3)), some (.int x1), some (.int x2), some (.int x3)] [.int (4 : Int32), .int x3] _ _ from ?_)
  refine zy_25_3 rfl (fun b3 => (show zyR _ _ _ _ [some (.ref (x0 + 3)), some (.int x1), some (.int x2), some (.int x3)] [] _ _ from ?_)) (fun b3 => (show zyR _ _ _ _ [some (.ref (x0 + 3)), some (.int x1), some (.int x2), some (.int x3)] [] _ _ from ?_))
  · replace h := zy_ifp h b3
    refine zy_2 rfl rfl (show zyR _ _ _ _ [some (.ref (x0 + 3)), some (.int x1), some (.int x2), some (.int x3)] [.int x2] _ _ from ?_)
    obtain ⟨rfl, rfl⟩ := zy_pi h
    exact zy_4 rfl ⟨rfl, rfl⟩
  · replace h := zy_ifn h b3
    refine zy_2 rfl rfl (show zyR _ _ _ _ [some (.ref (x0 + 3)), some (.int x1), some (.int x2), some (.int x3)] [.int x2] _ _ from ?_)
    refine zy_0 rfl rfl (show zyR _ _ _ _ [some (.ref (x0 + 3)), some (.int x1), some (.int x2), some (.int x3)] [.ref (x0 + 3), .int x2] _ _ from ?_)
    refine zy_2 rfl rfl (show zyR _ _ _ _ [some (.ref (x0 + 3)), some (.int x1), some (.int x2), some (.int x3)] [.int x1, .ref (x0 + 3), .int x2] _ _ from ?_)
    refine zy_2 rfl rfl (show zyR _ _ _ _ [some (.ref (x0 + 3)), some (.int x1), some (.int x2), some (.int x3)] [.int x3, .int x1, .ref (x0 + 3), .int x2] _ _ from ?_)
    obtain ⟨p1, hp1, h⟩ := zy_bind h
    refine zy_60 (as := [.ref (x0 + 3), .int x1, .int x3]) (rest := [.int x2]) (L := [some (.ref (x0 + 3)), some (.int x1), some (.int x3), none, none, none, none]) (d' := 4) rfl rfl (Nat.le_of_ble_eq_true rfl) (Nat.le_of_ble_eq_true rfl) rfl (Nat.le_of_ble_eq_true rfl) rfl rfl (zyC114 hs_x0 hp1) ?_
    show zyR _ _ _ _ [some (.ref (x0 + 3)), some (.int x1), some (.int x2), some (.int x3)] [.int p1.1, .int x2] _ _
    refine zy_24_0 rfl (fun b2 => (show zyR _ _ _ _ [some (.ref (x0 + 3)), some (.int x1), some (.int x2), some (.int x3)] [.int x2] _ _ from ?_)) (fun b2 => (show zyR _ _ _ _ [some (.ref (x0 + 3)), some (.int x1), some (.int x2), some (.int x3)] [.int x2] _ _ from ?_))
    · replace h := zy_ifp h b2
      refine zy_3 rfl rfl (show zyR _ _ _ _ [some (.ref (x0 + 3)), some (.int x1), some (.int x2), some (.int x3)] [.int (0 : Int32), .int x2] _ _ from ?_)
      exact zy_sub (show zy_le [some (.ref (x0 + 3)), some (.int x1), none, some (.int x3)] [some (.ref (x0 + 3)), some (.int x1), some (.int x2), some (.int x3)] from ⟨rfl, ⟨rfl, ⟨rfl, trivial⟩⟩⟩) (zyC113_26 hk4 hs_x0 h)
    · replace h := zy_ifn h b2
      refine zy_3 rfl rfl (show zyR _ _ _ _ [some (.ref (x0 + 3)), some (.int x1), some (.int x2), some (.int x3)] [.int (1 : Int32), .int x2] _ _ from ?_)
      refine zy_2 rfl rfl (show zyR _ _ _ _ [some (.ref (x0 + 3)), some (.int x1), some (.int x2), some (.int x3)] [.int x3, .int (1 : Int32), .int x2] _ _ from ?_)
      refine zy_16 rfl (show zyR _ _ _ _ [some (.ref (x0 + 3)), some (.int x1), some (.int x2), some (.int x3)] [.int ((1 : Int32) <<< (x3 &&& 31)), .int x2] _ _ from ?_)
      refine zy_6 rfl (show zyR _ _ _ _ [some (.ref (x0 + 3)), some (.int x1), some (.int x2), some (.int x3)] [.int ((1 : Int32) <<< (x3 &&& 31)), .int x2] _ _ from ?_)
      exact zy_sub (show zy_le [some (.ref (x0 + 3)), some (.int x1), none, some (.int x3)] [some (.ref (x0 + 3)), some (.int x1), some (.int x2), some (.int x3)] from ⟨rfl, ⟨rfl, ⟨rfl, trivial⟩⟩⟩) (zyC113_26 hk4 hs_x0 h)
noncomputable def zyF113_4   (n : Nat) : Nat → Int32 → Int32 → Int32 → zy_S → Option (Int32 × zy_S) := Nat.rec (fun _ _ _ _ _ => none) (fun _ k4 => zyF113_4b k4) n
theorem zyC113_4 {X : zx_X}     : ∀ (n : Nat) (x0 : Nat) (x1 : Int32) (x2 : Int32) (x3 : Int32) (s : zy_S) (r : Int32) (s' : zy_S) (hs_x0 : zy_isSh x0), zyF113_4 n x0 x1 x2 x3 s = some (r, s') → zyR X 5 113 4 [some (.ref (x0 + 3)), some (.int x1), some (.int x2), some (.int x3)] [] s (zyE (some (.int r)) s')
  | 0, _, _, _, _ => by
    intro s r s' hs_x0 h
    have h : (none : Option (Int32 × zy_S)) = some (r, s') := h
    cases h
  | n + 1, x0, x1, x2, x3 => by
    intro s r s' hs_x0 h
    exact zyC113_4b (k4 := zyF113_4 n) (fun x0 x1 x2 x3 s r s' hs_x0 h => zyC113_4  n x0 x1 x2 x3 s r s' hs_x0 h) hs_x0 h
noncomputable def zyF113   (x0 : Nat) (x1 : Int32) (s : zy_S) : Option (Int32 × zy_S) :=
zyF113_4 zy_fu x0 x1 (0 : Int32) (0 : Int32) s
theorem zyC113 {X : zx_X}     {x0 : Nat} {x1 : Int32} {s : zy_S} {r : Int32} {s' : zy_S} (hs_x0 : zy_isSh x0) (h : zyF113 x0 x1 s = some (r, s')) : zyR X 5 113 0 [some (.ref (x0 + 3)), some (.int x1), none, none] [] s (zyE (some (.int r)) s') := by
  unfold zyF113 at h
  refine zy_3 rfl rfl (show zyR _ _ _ _ [some (.ref (x0 + 3)), some (.int x1), none, none] [.int (0 : Int32)] _ _ from ?_)
  refine zy_23 rfl rfl (show zyR _ _ _ _ [some (.ref (x0 + 3)), some (.int x1), some (.int (0 : Int32)), none] [] _ _ from ?_)
  refine zy_3 rfl rfl (show zyR _ _ _ _ [some (.ref (x0 + 3)), some (.int x1), some (.int (0 : Int32)), none] [.int (0 : Int32)] _ _ from ?_)
  refine zy_23 rfl rfl (show zyR _ _ _ _ [some (.ref (x0 + 3)), some (.int x1), some (.int (0 : Int32)), some (.int (0 : Int32))] [] _ _ from ?_)
  exact zy_sub (show zy_le [some (.ref (x0 + 3)), some (.int x1), some (.int (0 : Int32)), some (.int (0 : Int32))] [some (.ref (x0 + 3)), some (.int x1), some (.int (0 : Int32)), some (.int (0 : Int32))] from ⟨rfl, ⟨rfl, ⟨rfl, ⟨rfl, trivial⟩⟩⟩⟩) (zyC113_4 zy_fu x0 x1 (0 : Int32) (0 : Int32) s _ _ hs_x0 h)
/-! NineOpinions.lowestViewOrNot(I)I -/
noncomputable def zyF115_2b  (k2 : Int32 → Int32 → zy_S → Option (Int32 × zy_S)) (x0 : Int32) (x1 : Int32) (s : zy_S) : Option (Int32 × zy_S) :=
if (4 : Int32) ≤ x1 then
some ((-2 : Int32), s)
else
(zyF32 x0 x1 s).bind fun p1 =>
if p1.1 ≠ (1 : Int32) then
k2 x0 (x1 + (1 : Int32)) p1.2
else
some (x1, p1.2)
theorem zyC115_2b {X : zx_X}  {k2 : Int32 → Int32 → zy_S → Option (Int32 × zy_S)}  (hk2 : ∀ (x0 : Int32) (x1 : Int32) (s : zy_S) (r : Int32) (s' : zy_S), k2 x0 x1 s = some (r, s') → zyR X 2 115 2 [some (.int x0), some (.int x1)] [] s (zyE (some (.int r)) s')) {x0 : Int32} {x1 : Int32} {s : zy_S} {r : Int32} {s' : zy_S}  (h : zyF115_2b k2 x0 x1 s = some (r, s')) : zyR X 2 115 2 [some (.int x0), some (.int x1)] [] s (zyE (some (.int r)) s') := by
  unfold zyF115_2b at h
  refine zy_2 rfl rfl (show zyR _ _ _ _ [some (.int x0), some (.int x1)] [.int x1] _ _ from ?_)
  refine zy_3 rfl rfl (show zyR _ _ _ _ [some (.int x0), some (.int x1)] [.int (4 : Int32), .int x1] _ _ from ?_)
  refine zy_25_3 rfl (fun b3 => (show zyR _ _ _ _ [some (.int x0), some (.int x1)] [] _ _ from ?_)) (fun b3 => (show zyR _ _ _ _ [some (.int x0), some (.int x1)] [] _ _ from ?_))
  · replace h := zy_ifp h b3
    refine zy_3 rfl rfl (show zyR _ _ _ _ [some (.int x0), some (.int x1)] [.int (-2 : Int32)] _ _ from ?_)
    obtain ⟨rfl, rfl⟩ := zy_pi h
    exact zy_4 rfl ⟨rfl, rfl⟩
  · replace h := zy_ifn h b3
    refine zy_2 rfl rfl (show zyR _ _ _ _ [some (.int x0), some (.int x1)] [.int x0] _ _ from ?_)
    refine zy_2 rfl rfl (show zyR _ _ _ _ [some (.int x0), some (.int x1)] [.int x1, .int x0] _ _ from ?_)
    obtain ⟨p1, hp1, h⟩ := zy_bind h
    refine zy_60 (as := [.int x0, .int x1]) (rest := []) (L := [some (.int x0), some (.int x1)]) (d' := 1) rfl rfl (Nat.le_of_ble_eq_true rfl) (Nat.le_of_ble_eq_true rfl) rfl (Nat.le_of_ble_eq_true rfl) rfl rfl (zyC32 hp1) ?_
    show zyR _ _ _ _ [some (.int x0), some (.int x1)] [.int p1.1] _ _
    refine zy_3 rfl rfl (show zyR _ _ _ _ [some (.int x0), some (.int x1)] [.int (1 : Int32), .int p1.1] _ _ from ?_)
    refine zy_25_1 rfl (fun b2 => (show zyR _ _ _ _ [some (.int x0), some (.int x1)] [] _ _ from ?_)) (fun b2 => (show zyR _ _ _ _ [some (.int x0), some (.int x1)] [] _ _ from ?_))
    · replace h := zy_ifp h b2
      refine zy_22 rfl rfl rfl rfl (show zyR _ _ _ _ [some (.int x0), some (.int (x1 + (1 : Int32)))] [] _ _ from ?_)
      refine zy_6 rfl (show zyR _ _ _ _ [some (.int x0), some (.int (x1 + (1 : Int32)))] [] _ _ from ?_)
      exact zy_sub (show zy_le [some (.int x0), some (.int (x1 + (1 : Int32)))] [some (.int x0), some (.int (x1 + (1 : Int32)))] from ⟨rfl, ⟨rfl, trivial⟩⟩) (hk2 x0 (x1 + (1 : Int32)) p1.2 _ _ h)
    · replace h := zy_ifn h b2
      refine zy_2 rfl rfl (show zyR _ _ _ _ [some (.int x0), some (.int x1)] [.int x1] _ _ from ?_)
      obtain ⟨rfl, rfl⟩ := zy_pi h
      exact zy_4 rfl ⟨rfl, rfl⟩
noncomputable def zyF115_2   (n : Nat) : Int32 → Int32 → zy_S → Option (Int32 × zy_S) := Nat.rec (fun _ _ _ => none) (fun _ k2 => zyF115_2b k2) n
theorem zyC115_2 {X : zx_X}     : ∀ (n : Nat) (x0 : Int32) (x1 : Int32) (s : zy_S) (r : Int32) (s' : zy_S), zyF115_2 n x0 x1 s = some (r, s') → zyR X 2 115 2 [some (.int x0), some (.int x1)] [] s (zyE (some (.int r)) s')
  | 0, _, _ => by
    intro s r s'  h
    have h : (none : Option (Int32 × zy_S)) = some (r, s') := h
    cases h
  | n + 1, x0, x1 => by
    intro s r s'  h
    exact zyC115_2b (k2 := zyF115_2 n) (fun x0 x1 s r s'  h => zyC115_2  n x0 x1 s r s'  h) h
noncomputable def zyF115   (x0 : Int32) (s : zy_S) : Option (Int32 × zy_S) :=
zyF115_2 zy_fu x0 (0 : Int32) s
theorem zyC115 {X : zx_X}     {x0 : Int32} {s : zy_S} {r : Int32} {s' : zy_S}  (h : zyF115 x0 s = some (r, s')) : zyR X 2 115 0 [some (.int x0), none] [] s (zyE (some (.int r)) s') := by
  unfold zyF115 at h
  refine zy_3 rfl rfl (show zyR _ _ _ _ [some (.int x0), none] [.int (0 : Int32)] _ _ from ?_)
  refine zy_23 rfl rfl (show zyR _ _ _ _ [some (.int x0), some (.int (0 : Int32))] [] _ _ from ?_)
  exact zy_sub (show zy_le [some (.int x0), some (.int (0 : Int32))] [some (.int x0), some (.int (0 : Int32))] from ⟨rfl, ⟨rfl, trivial⟩⟩) (zyC115_2 zy_fu x0 (0 : Int32) s _ _ h)
