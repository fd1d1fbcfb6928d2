/-! PART 41.61: methods as functions. Made by wip/v4/dcp.py. -/
/-! NineOpinions$Book.fits(LNineOpinions$Shelf;II)Z -/
noncomputable def zyF114_67  (k5 : Nat → Int32 → Int32 → Int32 → Int32 → zy_S → Option (Int32 × zy_S)) (x0 : Nat) (x1 : Int32) (x2 : Int32) (x4 : Int32) (y0 : Int32) (s : zy_S) : Option (Int32 × zy_S) :=
k5 x0 x1 x2 y0 (x4 + (1 : Int32)) s
theorem zyC114_67 {X : zx_X}  {k5 : Nat → Int32 → Int32 → Int32 → Int32 → zy_S → Option (Int32 × zy_S)}  (hk5 : ∀ (x0 : Nat) (x1 : Int32) (x2 : Int32) (x3 : Int32) (x4 : Int32) (s : zy_S) (r : Int32) (s' : zy_S) (hs_x0 : zy_isSh x0), k5 x0 x1 x2 x3 x4 s = some (r, s') → zyR X 4 114 5 [some (.ref (x0 + 3)), some (.int x1), some (.int x2), some (.int x3), some (.int x4), none, none] [] s (zyE (some (.int r)) s')) {x0 : Nat} {x1 : Int32} {x2 : Int32} {x4 : Int32} {y0 : Int32} {s : zy_S} {r : Int32} {s' : zy_S} (hs_x0 : zy_isSh x0) (h : zyF114_67 k5 x0 x1 x2 x4 y0 s = some (r, s')) : zyR X 4 114 67 [some (.ref (x0 + 3)), some (.int x1), some (.int x2), none, some (.int x4), none, none] [.int y0] s (zyE (some (.int r)) s') := by
  unfold zyF114_67 at h
  refine zy_23 rfl rfl (show zyR _ _ _ _ [some (.ref (x0 + 3)), some (.int x1), some (.int x2), some (.int y0), some (.int x4), none, none] [] _ _ from ?_)
  refine zy_22 rfl rfl rfl rfl (show zyR _ _ _ _ [some (.ref (x0 + 3)), some (.int x1), some (.int x2), some (.int y0), some (.int (x4 + (1 : Int32))), none, none] [] _ _ from ?_)
  refine zy_6 rfl (show zyR _ _ _ _ [some (.ref (x0 + 3)), some (.int x1), some (.int x2), some (.int y0), some (.int (x4 + (1 : Int32))), none, none] [] _ _ from ?_)
  exact zy_sub (show zy_le [some (.ref (x0 + 3)), some (.int x1), some (.int x2), some (.int y0), some (.int (x4 + (1 : Int32))), none, none] [some (.ref (x0 + 3)), some (.int x1), some (.int x2), some (.int y0), some (.int (x4 + (1 : Int32))), none, none] from ⟨rfl, ⟨rfl, ⟨rfl, ⟨rfl, ⟨rfl, trivial⟩⟩⟩⟩⟩) (hk5 x0 x1 x2 y0 (x4 + (1 : Int32)) s _ _ hs_x0 h)
noncomputable def zyF114_66  (k5 : Nat → Int32 → Int32 → Int32 → Int32 → zy_S → Option (Int32 × zy_S)) (x0 : Nat) (x1 : Int32) (x2 : Int32) (x4 : Int32) (s : zy_S) : Option (Int32 × zy_S) :=
zyF114_67 k5 x0 x1 x2 x4 (0 : Int32) s
theorem zyC114_66 {X : zx_X}  {k5 : Nat → Int32 → Int32 → Int32 → Int32 → zy_S → Option (Int32 × zy_S)}  (hk5 : ∀ (x0 : Nat) (x1 : Int32) (x2 : Int32) (x3 : Int32) (x4 : Int32) (s : zy_S) (r : Int32) (s' : zy_S) (hs_x0 : zy_isSh x0), k5 x0 x1 x2 x3 x4 s = some (r, s') → zyR X 4 114 5 [some (.ref (x0 + 3)), some (.int x1), some (.int x2), some (.int x3), some (.int x4), none, none] [] s (zyE (some (.int r)) s')) {x0 : Nat} {x1 : Int32} {x2 : Int32} {x4 : Int32} {s : zy_S} {r : Int32} {s' : zy_S} (hs_x0 : zy_isSh x0) (h : zyF114_66 k5 x0 x1 x2 x4 s = some (r, s')) : zyR X 4 114 66 [some (.ref (x0 + 3)), some (.int x1), some (.int x2), none, some (.int x4), none, none] [] s (zyE (some (.int r)) s') := by
  unfold zyF114_66 at h
  refine zy_3 rfl rfl (show zyR _ _ _ _ [some (.ref (x0 + 3)), some (.int x1), some (.int x2), none, some (.int x4), none, none] [.int (0 : Int32)] _ _ from ?_)
  exact zy_sub (show zy_le [some (.ref (x0 + 3)), some (.int x1), some (.int x2), none, some (.int x4), none, none] [some (.ref (x0 + 3)), some (.int x1), some (.int x2), none, some (.int x4), none, none] from ⟨rfl, ⟨rfl, ⟨rfl, ⟨rfl, trivial⟩⟩⟩⟩) (zyC114_67 hk5 hs_x0 h)
noncomputable def zyF114_62  (k5 : Nat → Int32 → Int32 → Int32 → Int32 → zy_S → Option (Int32 × zy_S)) (x0 : Nat) (x1 : Int32) (x2 : Int32) (x4 : Int32) (s : zy_S) : Option (Int32 × zy_S) :=
zyF114_67 k5 x0 x1 x2 x4 (1 : Int32) s
theorem zyC114_62 {X : zx_X}  {k5 : Nat → Int32 → Int32 → Int32 → Int32 → zy_S → Option (Int32 × zy_S)}  (hk5 : ∀ (x0 : Nat) (x1 : Int32) (x2 : Int32) (x3 : Int32) (x4 : Int32) (s : zy_S) (r : Int32) (s' : zy_S) (hs_x0 : zy_isSh x0), k5 x0 x1 x2 x3 x4 s = some (r, s') → zyR X 4 114 5 [some (.ref (x0 + 3)), some (.int x1), some (.int x2), some (.int x3), some (.int x4), none, none] [] s (zyE (some (.int r)) s')) {x0 : Nat} {x1 : Int32} {x2 : Int32} {x4 : Int32} {s : zy_S} {r : Int32} {s' : zy_S} (hs_x0 : zy_isSh x0) (h : zyF114_62 k5 x0 x1 x2 x4 s = some (r, s')) : zyR X 4 114 62 [some (.ref (x0 + 3)), some (.int x1), some (.int x2), none, some (.int x4), none, none] [] s (zyE (some (.int r)) s') := by
  unfold zyF114_62 at h
  refine zy_3 rfl rfl (show zyR _ _ _ _ [some (.ref (x0 + 3)), some (.int x1), some (.int x2), none, some (.int x4), none, none] [.int (1 : Int32)] _ _ from ?_)
  refine zy_6 rfl (show zyR _ _ _ _ [some (.ref (x0 + 3)), some (.int x1), some (.int x2), none, some (.int x4), none, none] [.int (1 : Int32)] _ _ from ?_)
  exact zy_sub (show zy_le [some (.ref (x0 + 3)), some (.int x1), some (.int x2), none, some (.int x4), none, none] [some (.ref (x0 + 3)), some (.int x1), some (.int x2), none, some (.int x4), none, none] from ⟨rfl, ⟨rfl, ⟨rfl, ⟨rfl, trivial⟩⟩⟩⟩) (zyC114_67 hk5 hs_x0 h)
noncomputable def zyF114_41  (k5 : Nat → Int32 → Int32 → Int32 → Int32 → zy_S → Option (Int32 × zy_S)) (x0 : Nat) (x1 : Int32) (x2 : Int32) (x3 : Int32) (x4 : Int32) (y0 : Int32) (s : zy_S) : Option (Int32 × zy_S) :=
if x3 = 0 then
zyF114_66 k5 x0 x1 x2 x4 s
else
if y0 = 0 then
zyF114_62 k5 x0 x1 x2 x4 s
else
(zyF111 x0 x4 x2 s).bind fun p1 =>
if p1.1 = 0 then
zyF114_66 k5 x0 x1 x2 x4 p1.2
else
zyF114_62 k5 x0 x1 x2 x4 p1.2
theorem zyC114_41 {X : zx_X}  {k5 : Nat → Int32 → Int32 → Int32 → Int32 → zy_S → Option (Int32 × zy_S)}  (hk5 : ∀ (x0 : Nat) (x1 : Int32) (x2 : Int32) (x3 : Int32) (x4 : Int32) (s : zy_S) (r : Int32) (s' : zy_S) (hs_x0 : zy_isSh x0), k5 x0 x1 x2 x3 x4 s = some (r, s') → zyR X 4 114 5 [some (.ref (x0 + 3)), some (.int x1), some (.int x2), some (.int x3), some (.int x4), none, none] [] s (zyE (some (.int r)) s')) {x0 : Nat} {x1 : Int32} {x2 : Int32} {x3 : Int32} {x4 : Int32} {y0 : Int32} {s : zy_S} {r : Int32} {s' : zy_S} (hs_x0 : zy_isSh x0) (h : zyF114_41 k5 x0 x1 x2 x3 x4 y0 s = some (r, s')) : zyR X 4 114 41 [some (.ref (x0 + 3)), some (.int x1), some (.int x2), some (.int x3), some (.int x4), none, none] [.int y0] s (zyE (some (.int r)) s') := by
  unfold zyF114_41 at h
  refine zy_23 rfl rfl (show zyR _ _ _ _ [some (.ref (x0 + 3)), some (.int x1), some (.int x2), some (.int x3), some (.int x4), none, some (.int y0)] [] _ _ from ?_)
  refine zy_2 rfl rfl (show zyR _ _ _ _ [some (.ref (x0 + 3)), some (.int x1), some (.int x2), some (.int x3), some (.int x4), none, some (.int y0)] [.int x3] _ _ from ?_)
  refine zy_24_0 rfl (fun b4 => (show zyR _ _ _ _ [some (.ref (x0 + 3)), some (.int x1), some (.int x2), some (.int x3), some (.int x4), none, some (.int y0)] [] _ _ from ?_)) (fun b4 => (show zyR _ _ _ _ [some (.ref (x0 + 3)), some (.int x1), some (.int x2), some (.int x3), some (.int x4), none, some (.int y0)] [] _ _ from ?_))
  · replace h := zy_ifp h b4
    exact zy_sub (show zy_le [some (.ref (x0 + 3)), some (.int x1), some (.int x2), none, some (.int x4), none, none] [some (.ref (x0 + 3)), some (.int x1), some (.int x2), some (.int x3), some (.int x4), none, some (.int y0)] from ⟨rfl, ⟨rfl, ⟨rfl, ⟨rfl, trivial⟩⟩⟩⟩) (zyC114_66 hk5 hs_x0 h)
  · replace h := zy_ifn h b4
    refine zy_2 rfl rfl (show zyR _ _ _ _ [some (.ref (x0 + 3)), some (.int x1), some (.int x2), some (.int x3), some (.int x4), none, some (.int y0)] [.int y0] _ _ from ?_)
    refine zy_24_0 rfl (fun b3 => (show zyR _ _ _ _ [some (.ref (x0 + 3)), some (.int x1), some (.int x2), some (.int x3), some (.int x4), none, some (.int y0)] [] _ _ from ?_)) (fun b3 => (show zyR _ _ _ _ [some (.ref (x0 + 3)), some (.int x1), some (.int x2), some (.int x3), some (.int x4), none, some (.int y0)] [] _ _ from ?_))
    · replace h := zy_ifp h b3
      exact zy_sub (show zy_le [some (.ref (x0 + 3)), some (.int x1), some (.int x2), none, some (.int x4), none, none] [some (.ref (x0 + 3)), some (.int x1), some (.int x2), some (.int x3), some (.int x4), none, some (.int y0)] from ⟨rfl, ⟨rfl, ⟨rfl, ⟨rfl, trivial⟩⟩⟩⟩) (zyC114_62 hk5 hs_x0 h)
    · replace h := zy_ifn h b3
      refine zy_0 rfl rfl (show zyR _ _ _ _ [some (.ref (x0 + 3)), some (.int x1), some (.int x2), some (.int x3), some (.int x4), none, some (.int y0)] [.ref (x0 + 3)] _ _ from ?_)
      refine zy_2 rfl rfl (show zyR _ _ _ _ [some (.ref (x0 + 3)), some (.int x1), some (.int x2), some (.int x3), some (.int x4), none, some (.int y0)] [.int x4, .ref (x0 + 3)] _ _ from ?_)
      refine zy_2 rfl rfl (show zyR _ _ _ _ [some (.ref (x0 + 3)), some (.int x1), some (.int x2), some (.int x3), some (.int x4), none, some (.int y0)] [.int x2, .int x4, .ref (x0 + 3)] _ _ from ?_)
      obtain ⟨p1, hp1, h⟩ := zy_bind h
      refine zy_60 (as := [.ref (x0 + 3), .int x4, .int x2]) (rest := []) (L := [some (.ref (x0 + 3)), some (.int x4), some (.int x2), none]) (d' := 3) rfl rfl (Nat.le_of_ble_eq_true rfl) (Nat.le_of_ble_eq_true rfl) rfl (Nat.le_of_ble_eq_true rfl) rfl rfl (zyC111 hs_x0 hp1) ?_
      show zyR _ _ _ _ [some (.ref (x0 + 3)), some (.int x1), some (.int x2), some (.int x3), some (.int x4), none, some (.int y0)] [.int p1.1] _ _
      refine zy_24_0 rfl (fun b2 => (show zyR _ _ _ _ [some (.ref (x0 + 3)), some (.int x1), some (.int x2), some (.int x3), some (.int x4), none, some (.int y0)] [] _ _ from ?_)) (fun b2 => (show zyR _ _ _ _ [some (.ref (x0 + 3)), some (.int x1), some (.int x2), some (.int x3), some (.int x4), none, some (.int y0)] [] _ _ from ?_))
      · replace h := zy_ifp h b2
        exact zy_sub (show zy_le [some (.ref (x0 + 3)), some (.int x1), some (.int x2), none, some (.int x4), none, none] [some (.ref (x0 + 3)), some (.int x1), some (.int x2), some (.int x3), some (.int x4), none, some (.int y0)] from ⟨rfl, ⟨rfl, ⟨rfl, ⟨rfl, trivial⟩⟩⟩⟩) (zyC114_66 hk5 hs_x0 h)
      · replace h := zy_ifn h b2
        exact zy_sub (show zy_le [some (.ref (x0 + 3)), some (.int x1), some (.int x2), none, some (.int x4), none, none] [some (.ref (x0 + 3)), some (.int x1), some (.int x2), some (.int x3), some (.int x4), none, some (.int y0)] from ⟨rfl, ⟨rfl, ⟨rfl, ⟨rfl, trivial⟩⟩⟩⟩) (zyC114_62 hk5 hs_x0 h)
noncomputable def zyF114_40  (k5 : Nat → Int32 → Int32 → Int32 → Int32 → zy_S → Option (Int32 × zy_S)) (x0 : Nat) (x1 : Int32) (x2 : Int32) (x3 : Int32) (x4 : Int32) (s : zy_S) : Option (Int32 × zy_S) :=
zyF114_41 k5 x0 x1 x2 x3 x4 (0 : Int32) s
theorem zyC114_40 {X : zx_X}  {k5 : Nat → Int32 → Int32 → Int32 → Int32 → zy_S → Option (Int32 × zy_S)}  (hk5 : ∀ (x0 : Nat) (x1 : Int32) (x2 : Int32) (x3 : Int32) (x4 : Int32) (s : zy_S) (r : Int32) (s' : zy_S) (hs_x0 : zy_isSh x0), k5 x0 x1 x2 x3 x4 s = some (r, s') → zyR X 4 114 5 [some (.ref (x0 + 3)), some (.int x1), some (.int x2), some (.int x3), some (.int x4), none, none] [] s (zyE (some (.int r)) s')) {x0 : Nat} {x1 : Int32} {x2 : Int32} {x3 : Int32} {x4 : Int32} {s : zy_S} {r : Int32} {s' : zy_S} (hs_x0 : zy_isSh x0) (h : zyF114_40 k5 x0 x1 x2 x3 x4 s = some (r, s')) : zyR X 4 114 40 [some (.ref (x0 + 3)), some (.int x1), some (.int x2), some (.int x3), some (.int x4), none, none] [] s (zyE (some (.int r)) s') := by
  unfold zyF114_40 at h
  refine zy_3 rfl rfl (show zyR _ _ _ _ [some (.ref (x0 + 3)), some (.int x1), some (.int x2), some (.int x3), some (.int x4), none, none] [.int (0 : Int32)] _ _ from ?_)
  exact zy_sub (show zy_le [some (.ref (x0 + 3)), some (.int x1), some (.int x2), some (.int x3), some (.int x4), none, none] [some (.ref (x0 + 3)), some (.int x1), some (.int x2), some (.int x3), some (.int x4), none, none] from ⟨rfl, ⟨rfl, ⟨rfl, ⟨rfl, ⟨rfl, trivial⟩⟩⟩⟩⟩) (zyC114_41 hk5 hs_x0 h)
noncomputable def zyF114_5b  (k5 : Nat → Int32 → Int32 → Int32 → Int32 → zy_S → Option (Int32 × zy_S)) (x0 : Nat) (x1 : Int32) (x2 : Int32) (x3 : Int32) (x4 : Int32) (s : zy_S) : Option (Int32 × zy_S) :=
(zyF109 x0 s).bind fun p5 =>
if p5.1 ≤ x4 then
if x3 = 0 ∨ x3 = 1 then
some (x3, p5.2)
else none
else
(zyF110 x0 x4 p5.2).bind fun p7 =>
if p7.1 = (-1 : Int32) then
zyF114_40 k5 x0 x1 x2 x3 x4 p7.2
else
if (p7.1 / (4 : Int32)) ≠ x1 then
zyF114_40 k5 x0 x1 x2 x3 x4 p7.2
else
zyF114_41 k5 x0 x1 x2 x3 x4 (1 : Int32) p7.2
theorem zyC114_5b {X : zx_X}  {k5 : Nat → Int32 → Int32 → Int32 → Int32 → zy_S → Option (Int32 × zy_S)}  (hk5 : ∀ (x0 : Nat) (x1 : Int32) (x2 : Int32) (x3 : Int32) (x4 : Int32) (s : zy_S) (r : Int32) (s' : zy_S) (hs_x0 : zy_isSh x0), k5 x0 x1 x2 x3 x4 s = some (r, s') → zyR X 4 114 5 [some (.ref (x0 + 3)), some (.int x1), some (.int x2), some (.int x3), some (.int x4), none, none] [] s (zyE (some (.int r)) s')) {x0 : Nat} {x1 : Int32} {x2 : Int32} {x3 : Int32} {x4 : Int32} {s : zy_S} {r : Int32} {s' : zy_S} (hs_x0 : zy_isSh x0) (h : zyF114_5b k5 x0 x1 x2 x3 x4 s = some (r, s')) : zyR X 4 114 5 [some (.ref (x0 + 3)), some (.int x1), some (.int x2), some (.int x3), some (.int x4), none, none] [] s (zyE (some (.int r)) s') := by
  unfold zyF114_5b at h
  refine zy_2 rfl rfl (show zyR _ _ _ _ [some (.ref (x0 + 3)), some (.int x1), some (.int x2), some (.int x3), some (.int x4), none, none] [.int x4] _ _ from ?_)
  refine zy_0 rfl rfl (show zyR _ _ _ _ [some (.ref (x0 + 3)), some (.int x1), some (.int x2), some (.int x3), some (.int x4), none, none] [.ref (x0 + 3), .int x4] _ _ from ?_)
  obtain ⟨p5, hp5, h⟩ := zy_bind h
  refine zy_60 (as := [.ref (x0 + 3)]) (rest := [.int x4]) (L := [some (.ref (x0 + 3))]) (d' := 1) rfl rfl (Nat.le_of_ble_eq_true rfl) (Nat.le_of_ble_eq_true rfl) rfl (Nat.le_of_ble_eq_true rfl) rfl rfl (zyC109 hs_x0 hp5) ?_
  show zyR _ _ _ _ [some (.ref (x0 + 3)), some (.int x1), some (.int x2), some (.int x3), some (.int x4), none, none] [.int p5.1, .int x4] _ _
  refine zy_25_3 rfl (fun b10 => (show zyR _ _ _ _ [some (.ref (x0 + 3)), some (.int x1), some (.int x2), some (.int x3), some (.int x4), none, none] [] _ _ from ?_)) (fun b10 => (show zyR _ _ _ _ [some (.ref (x0 + 3)), some (.int x1), some (.int x2), some (.int x3), some (.int x4), none, none] [] _ _ from ?_))
  · replace h := zy_ifp h b10
    refine zy_2 rfl rfl (show zyR _ _ _ _ [some (.ref (x0 + 3)), some (.int x1), some (.int x2), some (.int x3), some (.int x4), none, none] [.int x3] _ _ from ?_)
    obtain ⟨c6, h⟩ := zy_if h
    cases h
    exact zy_4b rfl ⟨rfl, rfl⟩ c6
  · replace h := zy_ifn h b10
    refine zy_0 rfl rfl (show zyR _ _ _ _ [some (.ref (x0 + 3)), some (.int x1), some (.int x2), some (.int x3), some (.int x4), none, none] [.ref (x0 + 3)] _ _ from ?_)
    refine zy_2 rfl rfl (show zyR _ _ _ _ [some (.ref (x0 + 3)), some (.int x1), some (.int x2), some (.int x3), some (.int x4), none, none] [.int x4, .ref (x0 + 3)] _ _ from ?_)
    obtain ⟨p7, hp7, h⟩ := zy_bind h
    refine zy_60 (as := [.ref (x0 + 3), .int x4]) (rest := []) (L := [some (.ref (x0 + 3)), some (.int x4), none]) (d' := 2) rfl rfl (Nat.le_of_ble_eq_true rfl) (Nat.le_of_ble_eq_true rfl) rfl (Nat.le_of_ble_eq_true rfl) rfl rfl (zyC110 hs_x0 hp7) ?_
    show zyR _ _ _ _ [some (.ref (x0 + 3)), some (.int x1), some (.int x2), some (.int x3), some (.int x4), none, none] [.int p7.1] _ _
    refine zy_23 rfl rfl (show zyR _ _ _ _ [some (.ref (x0 + 3)), some (.int x1), some (.int x2), some (.int x3), some (.int x4), some (.int p7.1), none] [] _ _ from ?_)
    refine zy_2 rfl rfl (show zyR _ _ _ _ [some (.ref (x0 + 3)), some (.int x1), some (.int x2), some (.int x3), some (.int x4), some (.int p7.1), none] [.int p7.1] _ _ from ?_)
    refine zy_3 rfl rfl (show zyR _ _ _ _ [some (.ref (x0 + 3)), some (.int x1), some (.int x2), some (.int x3), some (.int x4), some (.int p7.1), none] [.int (-1 : Int32), .int p7.1] _ _ from ?_)
    refine zy_25_0 rfl (fun b9 => (show zyR _ _ _ _ [some (.ref (x0 + 3)), some (.int x1), some (.int x2), some (.int x3), some (.int x4), some (.int p7.1), none] [] _ _ from ?_)) (fun b9 => (show zyR _ _ _ _ [some (.ref (x0 + 3)), some (.int x1), some (.int x2), some (.int x3), some (.int x4), some (.int p7.1), none] [] _ _ from ?_))
    · replace h := zy_ifp h b9
      exact zy_sub (show zy_le [some (.ref (x0 + 3)), some (.int x1), some (.int x2), some (.int x3), some (.int x4), none, none] [some (.ref (x0 + 3)), some (.int x1), some (.int x2), some (.int x3), some (.int x4), some (.int p7.1), none] from ⟨rfl, ⟨rfl, ⟨rfl, ⟨rfl, ⟨rfl, trivial⟩⟩⟩⟩⟩) (zyC114_40 hk5 hs_x0 h)
    · replace h := zy_ifn h b9
      refine zy_2 rfl rfl (show zyR _ _ _ _ [some (.ref (x0 + 3)), some (.int x1), some (.int x2), some (.int x3), some (.int x4), some (.int p7.1), none] [.int p7.1] _ _ from ?_)
      refine zy_3 rfl rfl (show zyR _ _ _ _ [some (.ref (x0 + 3)), some (.int x1), some (.int x2), some (.int x3), some (.int x4), some (.int p7.1), none] [.int (4 : Int32), .int p7.1] _ _ from ?_)
      refine zy_19 rfl (by decide) (show zyR _ _ _ _ [some (.ref (x0 + 3)), some (.int x1), some (.int x2), some (.int x3), some (.int x4), some (.int p7.1), none] [.int (p7.1 / (4 : Int32))] _ _ from ?_)
      refine zy_2 rfl rfl (show zyR _ _ _ _ [some (.ref (x0 + 3)), some (.int x1), some (.int x2), some (.int x3), some (.int x4), some (.int p7.1), none] [.int x1, .int (p7.1 / (4 : Int32))] _ _ from ?_)
      refine zy_25_1 rfl (fun b8 => (show zyR _ _ _ _ [some (.ref (x0 + 3)), some (.int x1), some (.int x2), some (.int x3), some (.int x4), some (.int p7.1), none] [] _ _ from ?_)) (fun b8 => (show zyR _ _ _ _ [some (.ref (x0 + 3)), some (.int x1), some (.int x2), some (.int x3), some (.int x4), some (.int p7.1), none] [] _ _ from ?_))
      · replace h := zy_ifp h b8
        exact zy_sub (show zy_le [some (.ref (x0 + 3)), some (.int x1), some (.int x2), some (.int x3), some (.int x4), none, none] [some (.ref (x0 + 3)), some (.int x1), some (.int x2), some (.int x3), some (.int x4), some (.int p7.1), none] from ⟨rfl, ⟨rfl, ⟨rfl, ⟨rfl, ⟨rfl, trivial⟩⟩⟩⟩⟩) (zyC114_40 hk5 hs_x0 h)
      · replace h := zy_ifn h b8
        refine zy_3 rfl rfl (show zyR _ _ _ _ [some (.ref (x0 + 3)), some (.int x1), some (.int x2), some (.int x3), some (.int x4), some (.int p7.1), none] [.int (1 : Int32)] _ _ from ?_)
        refine zy_6 rfl (show zyR _ _ _ _ [some (.ref (x0 + 3)), some (.int x1), some (.int x2), some (.int x3), some (.int x4), some (.int p7.1), none] [.int (1 : Int32)] _ _ from ?_)
        exact zy_sub (show zy_le [some (.ref (x0 + 3)), some (.int x1), some (.int x2), some (.int x3), some (.int x4), none, none] [some (.ref (x0 + 3)), some (.int x1), some (.int x2), some (.int x3), some (.int x4), some (.int p7.1), none] from ⟨rfl, ⟨rfl, ⟨rfl, ⟨rfl, ⟨rfl, trivial⟩⟩⟩⟩⟩) (zyC114_41 hk5 hs_x0 h)
noncomputable def zyF114_5   (n : Nat) : Nat → Int32 → Int32 → Int32 → Int32 → zy_S → Option (Int32 × zy_S) := Nat.rec (fun _ _ _ _ _ _ => none) (fun _ k5 => zyF114_5b k5) n
theorem zyC114_5 {X : zx_X}     : ∀ (n : Nat) (x0 : Nat) (x1 : Int32) (x2 : Int32) (x3 : Int32) (x4 : Int32) (s : zy_S) (r : Int32) (s' : zy_S) (hs_x0 : zy_isSh x0), zyF114_5 n x0 x1 x2 x3 x4 s = some (r, s') → zyR X 4 114 5 [some (.ref (x0 + 3)), some (.int x1), some (.int x2), some (.int x3), some (.int x4), none, none] [] s (zyE (some (.int r)) s')
  | 0, _, _, _, _, _ => by
    intro s r s' hs_x0 h
    have h : (none : Option (Int32 × zy_S)) = some (r, s') := h
    cases h
  | n + 1, x0, x1, x2, x3, x4 => by
    intro s r s' hs_x0 h
    exact zyC114_5b (k5 := zyF114_5 n) (fun x0 x1 x2 x3 x4 s r s' hs_x0 h => zyC114_5  n x0 x1 x2 x3 x4 s r s' hs_x0 h) hs_x0 h
noncomputable def zyF114   (x0 : Nat) (x1 : Int32) (x2 : Int32) (s : zy_S) : Option (Int32 × zy_S) :=
zyF114_5 zy_fu x0 x1 x2 (1 : Int32) (0 : Int32) s
theorem zyC114 {X : zx_X}     {x0 : Nat} {x1 : Int32} {x2 : Int32} {s : zy_S} {r : Int32} {s' : zy_S} (hs_x0 : zy_isSh x0) (h : zyF114 x0 x1 x2 s = some (r, s')) : zyR X 4 114 0 [some (.ref (x0 + 3)), some (.int x1), some (.int x2), none, none, none, none] [] s (zyE (some (.int r)) s') := by
  unfold zyF114 at h
  refine zy_3 rfl rfl (show zyR _ _ _ _ [some (.ref (x0 + 3)), some (.int x1), some (.int x2), none, none, none, none] [.int (1 : Int32)] _ _ from ?_)
  refine zy_23 rfl rfl (show zyR _ _ _ _ [some (.ref (x0 + 3)), some (.int x1), some (.int x2), some (.int (1 : Int32)), none, none, none] [] _ _ from ?_)
  refine zy_3 rfl rfl (show zyR _ _ _ _ [some (.ref (x0 + 3)), some (.int x1), some (.int x2), some (.int (1 : Int32)), none, none, none] [.int (0 : Int32)] _ _ from ?_)
  refine zy_23 rfl rfl (show zyR _ _ _ _ [some (.ref (x0 + 3)), some (.int x1), some (.int x2), some (.int (1 : Int32)), some (.int (0 : Int32)), none, none] [] _ _ from ?_)
  exact zy_sub (show zy_le [some (.ref (x0 + 3)), some (.int x1), some (.int x2), some (.int (1 : Int32)), some (.int (0 : Int32)), none, none] [some (.ref (x0 + 3)), some (.int x1), some (.int x2), some (.int (1 : Int32)), some (.int (0 : Int32)), none, none] from ⟨rfl, ⟨rfl, ⟨rfl, ⟨rfl, ⟨rfl, trivial⟩⟩⟩⟩⟩) (zyC114_5 zy_fu x0 x1 x2 (1 : Int32) (0 : Int32) s _ _ hs_x0 h)
