/-! PART 41.118: methods as functions. Made by wip/v4/dcp.py. -/
/-! NineOpinions$Thought.leastViews(II)I -/
noncomputable def zyF79_54  (k5 : Int32 → Int32 → Int32 → Int32 → zy_S → Option (Int32 × zy_S)) (x1 : Int32) (x2 : Int32) (x3 : Int32) (x4 : Int32) (s : zy_S) : Option (Int32 × zy_S) :=
k5 x1 x2 x3 (x4 + (1 : Int32)) s
theorem zyC79_54 {X : zx_X}  {k5 : Int32 → Int32 → Int32 → Int32 → zy_S → Option (Int32 × zy_S)}  (hk5 : ∀ (x1 : Int32) (x2 : Int32) (x3 : Int32) (x4 : Int32) (s : zy_S) (r : Int32) (s' : zy_S), k5 x1 x2 x3 x4 s = some (r, s') → zyR X 4 79 5 [some (.ref (12 + 3)), some (.int x1), some (.int x2), some (.int x3), some (.int x4), none] [] s (zyE (some (.int r)) s')) {x1 : Int32} {x2 : Int32} {x3 : Int32} {x4 : Int32} {s : zy_S} {r : Int32} {s' : zy_S}  (h : zyF79_54 k5 x1 x2 x3 x4 s = some (r, s')) : zyR X 4 79 54 [some (.ref (12 + 3)), some (.int x1), some (.int x2), some (.int x3), some (.int x4), none] [] s (zyE (some (.int r)) s') := by
  unfold zyF79_54 at h
  refine zy_22 rfl rfl rfl rfl (show zyR _ _ _ _ [some (.ref (12 + 3)), some (.int x1), some (.int x2), some (.int x3), some (.int (x4 + (1 : Int32))), none] [] _ _ from ?_)
  refine zy_6 rfl (show zyR _ _ _ _ [some (.ref (12 + 3)), some (.int x1), some (.int x2), some (.int x3), some (.int (x4 + (1 : Int32))), none] [] _ _ from ?_)
  exact zy_sub (show zy_le [some (.ref (12 + 3)), some (.int x1), some (.int x2), some (.int x3), some (.int (x4 + (1 : Int32))), none] [some (.ref (12 + 3)), some (.int x1), some (.int x2), some (.int x3), some (.int (x4 + (1 : Int32))), none] from ⟨rfl, ⟨rfl, ⟨rfl, ⟨rfl, ⟨rfl, trivial⟩⟩⟩⟩⟩) (hk5 x1 x2 x3 (x4 + (1 : Int32)) s _ _ h)
noncomputable def zyF79_26  (k5 : Int32 → Int32 → Int32 → Int32 → zy_S → Option (Int32 × zy_S)) (x1 : Int32) (x2 : Int32) (x3 : Int32) (x4 : Int32) (y0 : Int32) (s : zy_S) : Option (Int32 × zy_S) :=
if y0 = 0 then
zyF79_54 k5 x1 x2 x3 x4 s
else
(zyF80 x1 x4 x2 s).bind fun p1 =>
(zyF80 x1 x3 x2 p1.2).bind fun p2 =>
if p2.1 ≤ p1.1 then
zyF79_54 k5 x1 x2 x3 x4 p2.2
else
zyF79_54 k5 x1 x2 x4 x4 p2.2
theorem zyC79_26 {X : zx_X}  {k5 : Int32 → Int32 → Int32 → Int32 → zy_S → Option (Int32 × zy_S)}  (hk5 : ∀ (x1 : Int32) (x2 : Int32) (x3 : Int32) (x4 : Int32) (s : zy_S) (r : Int32) (s' : zy_S), k5 x1 x2 x3 x4 s = some (r, s') → zyR X 4 79 5 [some (.ref (12 + 3)), some (.int x1), some (.int x2), some (.int x3), some (.int x4), none] [] s (zyE (some (.int r)) s')) {x1 : Int32} {x2 : Int32} {x3 : Int32} {x4 : Int32} {y0 : Int32} {s : zy_S} {r : Int32} {s' : zy_S}  (h : zyF79_26 k5 x1 x2 x3 x4 y0 s = some (r, s')) : zyR X 4 79 26 [some (.ref (12 + 3)), some (.int x1), some (.int x2), some (.int x3), some (.int x4), none] [.int y0] s (zyE (some (.int r)) s') := by
  unfold zyF79_26 at h
  refine zy_23 rfl rfl (show zyR _ _ _ _ [some (.ref (12 + 3)), some (.int x1), some (.int x2), some (.int x3), some (.int x4), some (.int y0)] [] _ _ from ?_)
  refine zy_2 rfl rfl (show zyR _ _ _ _ [some (.ref (12 + 3)), some (.int x1), some (.int x2), some (.int x3), some (.int x4), some (.int y0)] [.int y0] _ _ from ?_)
  refine zy_24_0 rfl (fun b4 => (show zyR _ _ _ _ [some (.ref (12 + 3)), some (.int x1), some (.int x2), some (.int x3), some (.int x4), some (.int y0)] [] _ _ from ?_)) (fun b4 => (show zyR _ _ _ _ [some (.ref (12 + 3)), some (.int x1), some (.int x2), some (.int x3), some (.int x4), some (.int y0)] [] _ _ from ?_))
  · replace h := zy_ifp h b4
    exact zy_sub (show zy_le [some (.ref (12 + 3)), some (.int x1), some (.int x2), some (.int x3), some (.int x4), none] [some (.ref (12 + 3)), some (.int x1), some (.int x2), some (.int x3), some (.int x4), some (.int y0)] from ⟨rfl, ⟨rfl, ⟨rfl, ⟨rfl, ⟨rfl, trivial⟩⟩⟩⟩⟩) (zyC79_54 hk5 h)
  · replace h := zy_ifn h b4
    refine zy_0 rfl rfl (show zyR _ _ _ _ [some (.ref (12 + 3)), some (.int x1), some (.int x2), some (.int x3), some (.int x4), some (.int y0)] [.ref (12 + 3)] _ _ from ?_)
    refine zy_2 rfl rfl (show zyR _ _ _ _ [some (.ref (12 + 3)), some (.int x1), some (.int x2), some (.int x3), some (.int x4), some (.int y0)] [.int x1, .ref (12 + 3)] _ _ from ?_)
    refine zy_2 rfl rfl (show zyR _ _ _ _ [some (.ref (12 + 3)), some (.int x1), some (.int x2), some (.int x3), some (.int x4), some (.int y0)] [.int x4, .int x1, .ref (12 + 3)] _ _ from ?_)
    refine zy_2 rfl rfl (show zyR _ _ _ _ [some (.ref (12 + 3)), some (.int x1), some (.int x2), some (.int x3), some (.int x4), some (.int y0)] [.int x2, .int x4, .int x1, .ref (12 + 3)] _ _ from ?_)
    obtain ⟨p1, hp1, h⟩ := zy_bind h
    refine zy_5 (c := 12) (as := [.int x1, .int x4, .int x2]) (rest := []) (L := [some (.ref (12 + 3)), some (.int x1), some (.int x4), some (.int x2), none]) (d' := 3) rfl rfl rfl (Nat.le_of_ble_eq_true rfl) (Nat.le_of_ble_eq_true rfl) rfl (Nat.le_of_ble_eq_true rfl) rfl rfl (zyC80 hp1) ?_
    show zyR _ _ _ _ [some (.ref (12 + 3)), some (.int x1), some (.int x2), some (.int x3), some (.int x4), some (.int y0)] [.int p1.1] _ _
    refine zy_0 rfl rfl (show zyR _ _ _ _ [some (.ref (12 + 3)), some (.int x1), some (.int x2), some (.int x3), some (.int x4), some (.int y0)] [.ref (12 + 3), .int p1.1] _ _ from ?_)
    refine zy_2 rfl rfl (show zyR _ _ _ _ [some (.ref (12 + 3)), some (.int x1), some (.int x2), some (.int x3), some (.int x4), some (.int y0)] [.int x1, .ref (12 + 3), .int p1.1] _ _ from ?_)
    refine zy_2 rfl rfl (show zyR _ _ _ _ [some (.ref (12 + 3)), some (.int x1), some (.int x2), some (.int x3), some (.int x4), some (.int y0)] [.int x3, .int x1, .ref (12 + 3), .int p1.1] _ _ from ?_)
    refine zy_2 rfl rfl (show zyR _ _ _ _ [some (.ref (12 + 3)), some (.int x1), some (.int x2), some (.int x3), some (.int x4), some (.int y0)] [.int x2, .int x3, .int x1, .ref (12 + 3), .int p1.1] _ _ from ?_)
    obtain ⟨p2, hp2, h⟩ := zy_bind h
    refine zy_5 (c := 12) (as := [.int x1, .int x3, .int x2]) (rest := [.int p1.1]) (L := [some (.ref (12 + 3)), some (.int x1), some (.int x3), some (.int x2), none]) (d' := 3) rfl rfl rfl (Nat.le_of_ble_eq_true rfl) (Nat.le_of_ble_eq_true rfl) rfl (Nat.le_of_ble_eq_true rfl) rfl rfl (zyC80 hp2) ?_
    show zyR _ _ _ _ [some (.ref (12 + 3)), some (.int x1), some (.int x2), some (.int x3), some (.int x4), some (.int y0)] [.int p2.1, .int p1.1] _ _
    refine zy_25_3 rfl (fun b3 => (show zyR _ _ _ _ [some (.ref (12 + 3)), some (.int x1), some (.int x2), some (.int x3), some (.int x4), some (.int y0)] [] _ _ from ?_)) (fun b3 => (show zyR _ _ _ _ [some (.ref (12 + 3)), some (.int x1), some (.int x2), some (.int x3), some (.int x4), some (.int y0)] [] _ _ from ?_))
    · replace h := zy_ifp h b3
      exact zy_sub (show zy_le [some (.ref (12 + 3)), some (.int x1), some (.int x2), some (.int x3), some (.int x4), none] [some (.ref (12 + 3)), some (.int x1), some (.int x2), some (.int x3), some (.int x4), some (.int y0)] from ⟨rfl, ⟨rfl, ⟨rfl, ⟨rfl, ⟨rfl, trivial⟩⟩⟩⟩⟩) (zyC79_54 hk5 h)
    · replace h := zy_ifn h b3
      refine zy_2 rfl rfl (show zyR _ _ _ _ [some (.ref (12 + 3)), some (.int x1), some (.int x2), some (.int x3), some (.int x4), some (.int y0)] [.int x4] _ _ from ?_)
      refine zy_23 rfl rfl (show zyR _ _ _ _ [some (.ref (12 + 3)), some (.int x1), some (.int x2), some (.int x4), some (.int x4), some (.int y0)] [] _ _ from ?_)
      exact zy_sub (show zy_le [some (.ref (12 + 3)), some (.int x1), some (.int x2), some (.int x4), some (.int x4), none] [some (.ref (12 + 3)), some (.int x1), some (.int x2), some (.int x4), some (.int x4), some (.int y0)] from ⟨rfl, ⟨rfl, ⟨rfl, ⟨rfl, ⟨rfl, trivial⟩⟩⟩⟩⟩) (zyC79_54 hk5 h)
noncomputable def zyF79_5b  (k5 : Int32 → Int32 → Int32 → Int32 → zy_S → Option (Int32 × zy_S)) (x1 : Int32) (x2 : Int32) (x3 : Int32) (x4 : Int32) (s : zy_S) : Option (Int32 × zy_S) :=
if (16 : Int32) ≤ x4 then
some (x3, s)
else
(zyF63 x4 s).bind fun p5 =>
if x2 < p5.1 then
zyF79_26 k5 x1 x2 x3 x4 (0 : Int32) p5.2
else
zyF79_26 k5 x1 x2 x3 x4 (1 : Int32) p5.2
theorem zyC79_5b {X : zx_X}  {k5 : Int32 → Int32 → Int32 → Int32 → zy_S → Option (Int32 × zy_S)}  (hk5 : ∀ (x1 : Int32) (x2 : Int32) (x3 : Int32) (x4 : Int32) (s : zy_S) (r : Int32) (s' : zy_S), k5 x1 x2 x3 x4 s = some (r, s') → zyR X 4 79 5 [some (.ref (12 + 3)), some (.int x1), some (.int x2), some (.int x3), some (.int x4), none] [] s (zyE (some (.int r)) s')) {x1 : Int32} {x2 : Int32} {x3 : Int32} {x4 : Int32} {s : zy_S} {r : Int32} {s' : zy_S}  (h : zyF79_5b k5 x1 x2 x3 x4 s = some (r, s')) : zyR X 4 79 5 [some (.ref (12 + 3)), some (.int x1), some (.int x2), some (.int x3), some (.int x4), none] [] s (zyE (some (.int r)) s') := by
  unfold zyF79_5b at h
  refine zy_2 rfl rfl (show zyR _ _ _ _ [some (.ref (12 + 3)), some (.int x1), some (.int x2), some (.int x3), some (.int x4), none] [.int x4] _ _ from ?_)
  refine zy_3 rfl rfl (show zyR _ _ _ _ [some (.ref (12 + 3)), some (.int x1), some (.int x2), some (.int x3), some (.int x4), none] [.int (16 : Int32), .int x4] _ _ from ?_)
  refine zy_25_3 rfl (fun b7 => (show zyR _ _ _ _ [some (.ref (12 + 3)), some (.int x1), some (.int x2), some (.int x3), some (.int x4), none] [] _ _ from ?_)) (fun b7 => (show zyR _ _ _ _ [some (.ref (12 + 3)), some (.int x1), some (.int x2), some (.int x3), some (.int x4), none] [] _ _ from ?_))
  · replace h := zy_ifp h b7
    refine zy_2 rfl rfl (show zyR _ _ _ _ [some (.ref (12 + 3)), some (.int x1), some (.int x2), some (.int x3), some (.int x4), none] [.int x3] _ _ from ?_)
    obtain ⟨rfl, rfl⟩ := zy_pi h
    exact zy_4 rfl ⟨rfl, rfl⟩
  · replace h := zy_ifn h b7
    refine zy_2 rfl rfl (show zyR _ _ _ _ [some (.ref (12 + 3)), some (.int x1), some (.int x2), some (.int x3), some (.int x4), none] [.int x4] _ _ from ?_)
    obtain ⟨p5, hp5, h⟩ := zy_bind h
    refine zy_60 (as := [.int x4]) (rest := []) (L := [some (.int x4)]) (d' := 1) rfl rfl (Nat.le_of_ble_eq_true rfl) (Nat.le_of_ble_eq_true rfl) rfl (Nat.le_of_ble_eq_true rfl) rfl rfl (zyC63 hp5) ?_
    show zyR _ _ _ _ [some (.ref (12 + 3)), some (.int x1), some (.int x2), some (.int x3), some (.int x4), none] [.int p5.1] _ _
    refine zy_2 rfl rfl (show zyR _ _ _ _ [some (.ref (12 + 3)), some (.int x1), some (.int x2), some (.int x3), some (.int x4), none] [.int x2, .int p5.1] _ _ from ?_)
    refine zy_25_4 rfl (fun b6 => (show zyR _ _ _ _ [some (.ref (12 + 3)), some (.int x1), some (.int x2), some (.int x3), some (.int x4), none] [] _ _ from ?_)) (fun b6 => (show zyR _ _ _ _ [some (.ref (12 + 3)), some (.int x1), some (.int x2), some (.int x3), some (.int x4), none] [] _ _ from ?_))
    · replace h := zy_ifp h b6
      refine zy_3 rfl rfl (show zyR _ _ _ _ [some (.ref (12 + 3)), some (.int x1), some (.int x2), some (.int x3), some (.int x4), none] [.int (0 : Int32)] _ _ from ?_)
      exact zy_sub (show zy_le [some (.ref (12 + 3)), some (.int x1), some (.int x2), some (.int x3), some (.int x4), none] [some (.ref (12 + 3)), some (.int x1), some (.int x2), some (.int x3), some (.int x4), none] from ⟨rfl, ⟨rfl, ⟨rfl, ⟨rfl, ⟨rfl, trivial⟩⟩⟩⟩⟩) (zyC79_26 hk5 h)
    · replace h := zy_ifn h b6
      refine zy_3 rfl rfl (show zyR _ _ _ _ [some (.ref (12 + 3)), some (.int x1), some (.int x2), some (.int x3), some (.int x4), none] [.int (1 : Int32)] _ _ from ?_)
      refine zy_6 rfl (show zyR _ _ _ _ [some (.ref (12 + 3)), some (.int x1), some (.int x2), some (.int x3), some (.int x4), none] [.int (1 : Int32)] _ _ from ?_)
      exact zy_sub (show zy_le [some (.ref (12 + 3)), some (.int x1), some (.int x2), some (.int x3), some (.int x4), none] [some (.ref (12 + 3)), some (.int x1), some (.int x2), some (.int x3), some (.int x4), none] from ⟨rfl, ⟨rfl, ⟨rfl, ⟨rfl, ⟨rfl, trivial⟩⟩⟩⟩⟩) (zyC79_26 hk5 h)
noncomputable def zyF79_5   (n : Nat) : Int32 → Int32 → Int32 → Int32 → zy_S → Option (Int32 × zy_S) := Nat.rec (fun _ _ _ _ _ => none) (fun _ k5 => zyF79_5b k5) n
theorem zyC79_5 {X : zx_X}     : ∀ (n : Nat) (x1 : Int32) (x2 : Int32) (x3 : Int32) (x4 : Int32) (s : zy_S) (r : Int32) (s' : zy_S), zyF79_5 n x1 x2 x3 x4 s = some (r, s') → zyR X 4 79 5 [some (.ref (12 + 3)), some (.int x1), some (.int x2), some (.int x3), some (.int x4), none] [] s (zyE (some (.int r)) s')
  | 0, _, _, _, _ => by
    intro s r s'  h
    have h : (none : Option (Int32 × zy_S)) = some (r, s') := h
    cases h
  | n + 1, x1, x2, x3, x4 => by
    intro s r s'  h
    exact zyC79_5b (k5 := zyF79_5 n) (fun x1 x2 x3 x4 s r s'  h => zyC79_5  n x1 x2 x3 x4 s r s'  h) h
noncomputable def zyF79   (x1 : Int32) (x2 : Int32) (s : zy_S) : Option (Int32 × zy_S) :=
zyF79_5 zy_fu x1 x2 (0 : Int32) (1 : Int32) s
theorem zyC79 {X : zx_X}     {x1 : Int32} {x2 : Int32} {s : zy_S} {r : Int32} {s' : zy_S}  (h : zyF79 x1 x2 s = some (r, s')) : zyR X 4 79 0 [some (.ref (12 + 3)), some (.int x1), some (.int x2), none, none, none] [] s (zyE (some (.int r)) s') := by
  unfold zyF79 at h
  refine zy_3 rfl rfl (show zyR _ _ _ _ [some (.ref (12 + 3)), some (.int x1), some (.int x2), none, none, none] [.int (0 : Int32)] _ _ from ?_)
  refine zy_23 rfl rfl (show zyR _ _ _ _ [some (.ref (12 + 3)), some (.int x1), some (.int x2), some (.int (0 : Int32)), none, none] [] _ _ from ?_)
  refine zy_3 rfl rfl (show zyR _ _ _ _ [some (.ref (12 + 3)), some (.int x1), some (.int x2), some (.int (0 : Int32)), none, none] [.int (1 : Int32)] _ _ from ?_)
  refine zy_23 rfl rfl (show zyR _ _ _ _ [some (.ref (12 + 3)), some (.int x1), some (.int x2), some (.int (0 : Int32)), some (.int (1 : Int32)), none] [] _ _ from ?_)
  exact zy_sub (show zy_le [some (.ref (12 + 3)), some (.int x1), some (.int x2), some (.int (0 : Int32)), some (.int (1 : Int32)), none] [some (.ref (12 + 3)), some (.int x1), some (.int x2), some (.int (0 : Int32)), some (.int (1 : Int32)), none] from ⟨rfl, ⟨rfl, ⟨rfl, ⟨rfl, ⟨rfl, trivial⟩⟩⟩⟩⟩) (zyC79_5 zy_fu x1 x2 (0 : Int32) (1 : Int32) s _ _ h)
