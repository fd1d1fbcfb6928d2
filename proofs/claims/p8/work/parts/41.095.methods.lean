/-! PART 41.95: methods as functions. Made by wip/v4/dcp.py. -/
/-! NineOpinions$Thought.nearest(II)I -/
noncomputable def zyF61_55  (k4 : Int32 → Int32 → Int32 → Int32 → zy_S → Option (Int32 × zy_S)) (x0 : Int32) (x1 : Int32) (x3 : Int32) (y0 : Int32) (s : zy_S) : Option (Int32 × zy_S) :=
k4 x0 x1 y0 (x3 + (1 : Int32)) s
theorem zyC61_55 {X : zx_X}  {k4 : Int32 → Int32 → Int32 → Int32 → zy_S → Option (Int32 × zy_S)}  (hk4 : ∀ (x0 : Int32) (x1 : Int32) (x2 : Int32) (x3 : Int32) (s : zy_S) (r : Int32) (s' : zy_S), k4 x0 x1 x2 x3 s = some (r, s') → zyR X 2 61 4 [some (.int x0), some (.int x1), some (.int x2), some (.int x3), none] [] s (zyE (some (.int r)) s')) {x0 : Int32} {x1 : Int32} {x3 : Int32} {y0 : Int32} {s : zy_S} {r : Int32} {s' : zy_S}  (h : zyF61_55 k4 x0 x1 x3 y0 s = some (r, s')) : zyR X 2 61 55 [some (.int x0), some (.int x1), none, some (.int x3), none] [.int y0] s (zyE (some (.int r)) s') := by
  unfold zyF61_55 at h
  refine zy_23 rfl rfl (show zyR _ _ _ _ [some (.int x0), some (.int x1), some (.int y0), some (.int x3), none] [] _ _ from ?_)
  refine zy_22 rfl rfl rfl rfl (show zyR _ _ _ _ [some (.int x0), some (.int x1), some (.int y0), some (.int (x3 + (1 : Int32))), none] [] _ _ from ?_)
  refine zy_6 rfl (show zyR _ _ _ _ [some (.int x0), some (.int x1), some (.int y0), some (.int (x3 + (1 : Int32))), none] [] _ _ from ?_)
  exact zy_sub (show zy_le [some (.int x0), some (.int x1), some (.int y0), some (.int (x3 + (1 : Int32))), none] [some (.int x0), some (.int x1), some (.int y0), some (.int (x3 + (1 : Int32))), none] from ⟨rfl, ⟨rfl, ⟨rfl, ⟨rfl, trivial⟩⟩⟩⟩) (hk4 x0 x1 y0 (x3 + (1 : Int32)) s _ _ h)
noncomputable def zyF61_54  (k4 : Int32 → Int32 → Int32 → Int32 → zy_S → Option (Int32 × zy_S)) (x0 : Int32) (x1 : Int32) (x2 : Int32) (x3 : Int32) (s : zy_S) : Option (Int32 × zy_S) :=
zyF61_55 k4 x0 x1 x3 x2 s
theorem zyC61_54 {X : zx_X}  {k4 : Int32 → Int32 → Int32 → Int32 → zy_S → Option (Int32 × zy_S)}  (hk4 : ∀ (x0 : Int32) (x1 : Int32) (x2 : Int32) (x3 : Int32) (s : zy_S) (r : Int32) (s' : zy_S), k4 x0 x1 x2 x3 s = some (r, s') → zyR X 2 61 4 [some (.int x0), some (.int x1), some (.int x2), some (.int x3), none] [] s (zyE (some (.int r)) s')) {x0 : Int32} {x1 : Int32} {x2 : Int32} {x3 : Int32} {s : zy_S} {r : Int32} {s' : zy_S}  (h : zyF61_54 k4 x0 x1 x2 x3 s = some (r, s')) : zyR X 2 61 54 [some (.int x0), some (.int x1), some (.int x2), some (.int x3), none] [] s (zyE (some (.int r)) s') := by
  unfold zyF61_54 at h
  refine zy_2 rfl rfl (show zyR _ _ _ _ [some (.int x0), some (.int x1), some (.int x2), some (.int x3), none] [.int x2] _ _ from ?_)
  exact zy_sub (show zy_le [some (.int x0), some (.int x1), none, some (.int x3), none] [some (.int x0), some (.int x1), some (.int x2), some (.int x3), none] from ⟨rfl, ⟨rfl, ⟨rfl, trivial⟩⟩⟩) (zyC61_55 hk4 h)
noncomputable def zyF61_34  (k4 : Int32 → Int32 → Int32 → Int32 → zy_S → Option (Int32 × zy_S)) (x0 : Int32) (x1 : Int32) (x2 : Int32) (x3 : Int32) (y0 : Int32) (s : zy_S) : Option (Int32 × zy_S) :=
if y0 = 0 then
zyF61_54 k4 x0 x1 x2 x3 s
else
(zyF32 x1 x3 s).bind fun p1 =>
if p1.1 ≠ (1 : Int32) then
zyF61_54 k4 x0 x1 x2 x3 p1.2
else
zyF61_55 k4 x0 x1 x3 x3 p1.2
theorem zyC61_34 {X : zx_X}  {k4 : Int32 → Int32 → Int32 → Int32 → zy_S → Option (Int32 × zy_S)}  (hk4 : ∀ (x0 : Int32) (x1 : Int32) (x2 : Int32) (x3 : Int32) (s : zy_S) (r : Int32) (s' : zy_S), k4 x0 x1 x2 x3 s = some (r, s') → zyR X 2 61 4 [some (.int x0), some (.int x1), some (.int x2), some (.int x3), none] [] s (zyE (some (.int r)) s')) {x0 : Int32} {x1 : Int32} {x2 : Int32} {x3 : Int32} {y0 : Int32} {s : zy_S} {r : Int32} {s' : zy_S}  (h : zyF61_34 k4 x0 x1 x2 x3 y0 s = some (r, s')) : zyR X 2 61 34 [some (.int x0), some (.int x1), some (.int x2), some (.int x3), none] [.int y0] s (zyE (some (.int r)) s') := by
  unfold zyF61_34 at h
  refine zy_23 rfl rfl (show zyR _ _ _ _ [some (.int x0), some (.int x1), some (.int x2), some (.int x3), some (.int y0)] [] _ _ from ?_)
  refine zy_2 rfl rfl (show zyR _ _ _ _ [some (.int x0), some (.int x1), some (.int x2), some (.int x3), some (.int y0)] [.int y0] _ _ from ?_)
  refine zy_24_0 rfl (fun b3 => (show zyR _ _ _ _ [some (.int x0), some (.int x1), some (.int x2), some (.int x3), some (.int y0)] [] _ _ from ?_)) (fun b3 => (show zyR _ _ _ _ [some (.int x0), some (.int x1), some (.int x2), some (.int x3), some (.int y0)] [] _ _ from ?_))
  · replace h := zy_ifp h b3
    exact zy_sub (show zy_le [some (.int x0), some (.int x1), some (.int x2), some (.int x3), none] [some (.int x0), some (.int x1), some (.int x2), some (.int x3), some (.int y0)] from ⟨rfl, ⟨rfl, ⟨rfl, ⟨rfl, trivial⟩⟩⟩⟩) (zyC61_54 hk4 h)
  · replace h := zy_ifn h b3
    refine zy_2 rfl rfl (show zyR _ _ _ _ [some (.int x0), some (.int x1), some (.int x2), some (.int x3), some (.int y0)] [.int x1] _ _ from ?_)
    refine zy_2 rfl rfl (show zyR _ _ _ _ [some (.int x0), some (.int x1), some (.int x2), some (.int x3), some (.int y0)] [.int x3, .int x1] _ _ from ?_)
    obtain ⟨p1, hp1, h⟩ := zy_bind h
    refine zy_61 (as := [.int x1, .int x3]) (rest := []) (L := [some (.int x1), some (.int x3)]) (d' := 1) rfl rfl (Nat.le_of_ble_eq_true rfl) (Nat.le_of_ble_eq_true rfl) rfl (Nat.le_of_ble_eq_true rfl) rfl rfl (zyC32 hp1) ?_
    show zyR _ _ _ _ [some (.int x0), some (.int x1), some (.int x2), some (.int x3), some (.int y0)] [.int p1.1] _ _
    refine zy_3 rfl rfl (show zyR _ _ _ _ [some (.int x0), some (.int x1), some (.int x2), some (.int x3), some (.int y0)] [.int (1 : Int32), .int p1.1] _ _ from ?_)
    refine zy_25_1 rfl (fun b2 => (show zyR _ _ _ _ [some (.int x0), some (.int x1), some (.int x2), some (.int x3), some (.int y0)] [] _ _ from ?_)) (fun b2 => (show zyR _ _ _ _ [some (.int x0), some (.int x1), some (.int x2), some (.int x3), some (.int y0)] [] _ _ from ?_))
    · replace h := zy_ifp h b2
      exact zy_sub (show zy_le [some (.int x0), some (.int x1), some (.int x2), some (.int x3), none] [some (.int x0), some (.int x1), some (.int x2), some (.int x3), some (.int y0)] from ⟨rfl, ⟨rfl, ⟨rfl, ⟨rfl, trivial⟩⟩⟩⟩) (zyC61_54 hk4 h)
    · replace h := zy_ifn h b2
      refine zy_2 rfl rfl (show zyR _ _ _ _ [some (.int x0), some (.int x1), some (.int x2), some (.int x3), some (.int y0)] [.int x3] _ _ from ?_)
      refine zy_6 rfl (show zyR _ _ _ _ [some (.int x0), some (.int x1), some (.int x2), some (.int x3), some (.int y0)] [.int x3] _ _ from ?_)
      exact zy_sub (show zy_le [some (.int x0), some (.int x1), none, some (.int x3), none] [some (.int x0), some (.int x1), some (.int x2), some (.int x3), some (.int y0)] from ⟨rfl, ⟨rfl, ⟨rfl, trivial⟩⟩⟩) (zyC61_55 hk4 h)
noncomputable def zyF61_29  (k4 : Int32 → Int32 → Int32 → Int32 → zy_S → Option (Int32 × zy_S)) (x0 : Int32) (x1 : Int32) (x2 : Int32) (x3 : Int32) (s : zy_S) : Option (Int32 × zy_S) :=
zyF61_34 k4 x0 x1 x2 x3 (1 : Int32) s
theorem zyC61_29 {X : zx_X}  {k4 : Int32 → Int32 → Int32 → Int32 → zy_S → Option (Int32 × zy_S)}  (hk4 : ∀ (x0 : Int32) (x1 : Int32) (x2 : Int32) (x3 : Int32) (s : zy_S) (r : Int32) (s' : zy_S), k4 x0 x1 x2 x3 s = some (r, s') → zyR X 2 61 4 [some (.int x0), some (.int x1), some (.int x2), some (.int x3), none] [] s (zyE (some (.int r)) s')) {x0 : Int32} {x1 : Int32} {x2 : Int32} {x3 : Int32} {s : zy_S} {r : Int32} {s' : zy_S}  (h : zyF61_29 k4 x0 x1 x2 x3 s = some (r, s')) : zyR X 2 61 29 [some (.int x0), some (.int x1), some (.int x2), some (.int x3), none] [] s (zyE (some (.int r)) s') := by
  unfold zyF61_29 at h
  refine zy_3 rfl rfl (show zyR _ _ _ _ [some (.int x0), some (.int x1), some (.int x2), some (.int x3), none] [.int (1 : Int32)] _ _ from ?_)
  refine zy_6 rfl (show zyR _ _ _ _ [some (.int x0), some (.int x1), some (.int x2), some (.int x3), none] [.int (1 : Int32)] _ _ from ?_)
  exact zy_sub (show zy_le [some (.int x0), some (.int x1), some (.int x2), some (.int x3), none] [some (.int x0), some (.int x1), some (.int x2), some (.int x3), none] from ⟨rfl, ⟨rfl, ⟨rfl, ⟨rfl, trivial⟩⟩⟩⟩) (zyC61_34 hk4 h)
noncomputable def zyF61_4b  (k4 : Int32 → Int32 → Int32 → Int32 → zy_S → Option (Int32 × zy_S)) (x0 : Int32) (x1 : Int32) (x2 : Int32) (x3 : Int32) (s : zy_S) : Option (Int32 × zy_S) :=
if (4 : Int32) ≤ x3 then
some (x2, s)
else
if x2 = (-1 : Int32) then
zyF61_29 k4 x0 x1 x2 x3 s
else
(zyF62 (x3 - x0) s).bind fun p4 =>
(zyF62 (x2 - x0) p4.2).bind fun p5 =>
if p5.1 ≤ p4.1 then
zyF61_34 k4 x0 x1 x2 x3 (0 : Int32) p5.2
else
zyF61_29 k4 x0 x1 x2 x3 p5.2
theorem zyC61_4b {X : zx_X}  {k4 : Int32 → Int32 → Int32 → Int32 → zy_S → Option (Int32 × zy_S)}  (hk4 : ∀ (x0 : Int32) (x1 : Int32) (x2 : Int32) (x3 : Int32) (s : zy_S) (r : Int32) (s' : zy_S), k4 x0 x1 x2 x3 s = some (r, s') → zyR X 2 61 4 [some (.int x0), some (.int x1), some (.int x2), some (.int x3), none] [] s (zyE (some (.int r)) s')) {x0 : Int32} {x1 : Int32} {x2 : Int32} {x3 : Int32} {s : zy_S} {r : Int32} {s' : zy_S}  (h : zyF61_4b k4 x0 x1 x2 x3 s = some (r, s')) : zyR X 2 61 4 [some (.int x0), some (.int x1), some (.int x2), some (.int x3), none] [] s (zyE (some (.int r)) s') := by
  unfold zyF61_4b at h
  refine zy_2 rfl rfl (show zyR _ _ _ _ [some (.int x0), some (.int x1), some (.int x2), some (.int x3), none] [.int x3] _ _ from ?_)
  refine zy_3 rfl rfl (show zyR _ _ _ _ [some (.int x0), some (.int x1), some (.int x2), some (.int x3), none] [.int (4 : Int32), .int x3] _ _ from ?_)
  refine zy_25_3 rfl (fun b8 => (show zyR _ _ _ _ [some (.int x0), some (.int x1), some (.int x2), some (.int x3), none] [] _ _ from ?_)) (fun b8 => (show zyR _ _ _ _ [some (.int x0), some (.int x1), some (.int x2), some (.int x3), none] [] _ _ from ?_))
  · replace h := zy_ifp h b8
    refine zy_2 rfl rfl (show zyR _ _ _ _ [some (.int x0), some (.int x1), some (.int x2), some (.int x3), none] [.int x2] _ _ from ?_)
    obtain ⟨rfl, rfl⟩ := zy_pi h
    exact zy_4 rfl ⟨rfl, rfl⟩
  · replace h := zy_ifn h b8
    refine zy_2 rfl rfl (show zyR _ _ _ _ [some (.int x0), some (.int x1), some (.int x2), some (.int x3), none] [.int x2] _ _ from ?_)
    refine zy_3 rfl rfl (show zyR _ _ _ _ [some (.int x0), some (.int x1), some (.int x2), some (.int x3), none] [.int (-1 : Int32), .int x2] _ _ from ?_)
    refine zy_25_0 rfl (fun b7 => (show zyR _ _ _ _ [some (.int x0), some (.int x1), some (.int x2), some (.int x3), none] [] _ _ from ?_)) (fun b7 => (show zyR _ _ _ _ [some (.int x0), some (.int x1), some (.int x2), some (.int x3), none] [] _ _ from ?_))
    · replace h := zy_ifp h b7
      exact zy_sub (show zy_le [some (.int x0), some (.int x1), some (.int x2), some (.int x3), none] [some (.int x0), some (.int x1), some (.int x2), some (.int x3), none] from ⟨rfl, ⟨rfl, ⟨rfl, ⟨rfl, trivial⟩⟩⟩⟩) (zyC61_29 hk4 h)
    · replace h := zy_ifn h b7
      refine zy_2 rfl rfl (show zyR _ _ _ _ [some (.int x0), some (.int x1), some (.int x2), some (.int x3), none] [.int x3] _ _ from ?_)
      refine zy_2 rfl rfl (show zyR _ _ _ _ [some (.int x0), some (.int x1), some (.int x2), some (.int x3), none] [.int x0, .int x3] _ _ from ?_)
      refine zy_11 rfl (show zyR _ _ _ _ [some (.int x0), some (.int x1), some (.int x2), some (.int x3), none] [.int (x3 - x0)] _ _ from ?_)
      obtain ⟨p4, hp4, h⟩ := zy_bind h
      refine zy_60 (as := [.int (x3 - x0)]) (rest := []) (L := [some (.int (x3 - x0))]) (d' := 1) rfl rfl (Nat.le_of_ble_eq_true rfl) (Nat.le_of_ble_eq_true rfl) rfl (Nat.le_of_ble_eq_true rfl) rfl rfl (zyC62 hp4) ?_
      show zyR _ _ _ _ [some (.int x0), some (.int x1), some (.int x2), some (.int x3), none] [.int p4.1] _ _
      refine zy_2 rfl rfl (show zyR _ _ _ _ [some (.int x0), some (.int x1), some (.int x2), some (.int x3), none] [.int x2, .int p4.1] _ _ from ?_)
      refine zy_2 rfl rfl (show zyR _ _ _ _ [some (.int x0), some (.int x1), some (.int x2), some (.int x3), none] [.int x0, .int x2, .int p4.1] _ _ from ?_)
      refine zy_11 rfl (show zyR _ _ _ _ [some (.int x0), some (.int x1), some (.int x2), some (.int x3), none] [.int (x2 - x0), .int p4.1] _ _ from ?_)
      obtain ⟨p5, hp5, h⟩ := zy_bind h
      refine zy_60 (as := [.int (x2 - x0)]) (rest := [.int p4.1]) (L := [some (.int (x2 - x0))]) (d' := 1) rfl rfl (Nat.le_of_ble_eq_true rfl) (Nat.le_of_ble_eq_true rfl) rfl (Nat.le_of_ble_eq_true rfl) rfl rfl (zyC62 hp5) ?_
      show zyR _ _ _ _ [some (.int x0), some (.int x1), some (.int x2), some (.int x3), none] [.int p5.1, .int p4.1] _ _
      refine zy_25_3 rfl (fun b6 => (show zyR _ _ _ _ [some (.int x0), some (.int x1), some (.int x2), some (.int x3), none] [] _ _ from ?_)) (fun b6 => (show zyR _ _ _ _ [some (.int x0), some (.int x1), some (.int x2), some (.int x3), none] [] _ _ from ?_))
      · replace h := zy_ifp h b6
        refine zy_3 rfl rfl (show zyR _ _ _ _ [some (.int x0), some (.int x1), some (.int x2), some (.int x3), none] [.int (0 : Int32)] _ _ from ?_)
        exact zy_sub (show zy_le [some (.int x0), some (.int x1), some (.int x2), some (.int x3), none] [some (.int x0), some (.int x1), some (.int x2), some (.int x3), none] from ⟨rfl, ⟨rfl, ⟨rfl, ⟨rfl, trivial⟩⟩⟩⟩) (zyC61_34 hk4 h)
      · replace h := zy_ifn h b6
        exact zy_sub (show zy_le [some (.int x0), some (.int x1), some (.int x2), some (.int x3), none] [some (.int x0), some (.int x1), some (.int x2), some (.int x3), none] from ⟨rfl, ⟨rfl, ⟨rfl, ⟨rfl, trivial⟩⟩⟩⟩) (zyC61_29 hk4 h)
noncomputable def zyF61_4   (n : Nat) : Int32 → Int32 → Int32 → Int32 → zy_S → Option (Int32 × zy_S) := Nat.rec (fun _ _ _ _ _ => none) (fun _ k4 => zyF61_4b k4) n
theorem zyC61_4 {X : zx_X}     : ∀ (n : Nat) (x0 : Int32) (x1 : Int32) (x2 : Int32) (x3 : Int32) (s : zy_S) (r : Int32) (s' : zy_S), zyF61_4 n x0 x1 x2 x3 s = some (r, s') → zyR X 2 61 4 [some (.int x0), some (.int x1), some (.int x2), some (.int x3), none] [] s (zyE (some (.int r)) s')
  | 0, _, _, _, _ => by
    intro s r s'  h
    have h : (none : Option (Int32 × zy_S)) = some (r, s') := h
    cases h
  | n + 1, x0, x1, x2, x3 => by
    intro s r s'  h
    exact zyC61_4b (k4 := zyF61_4 n) (fun x0 x1 x2 x3 s r s'  h => zyC61_4  n x0 x1 x2 x3 s r s'  h) h
noncomputable def zyF61   (x0 : Int32) (x1 : Int32) (s : zy_S) : Option (Int32 × zy_S) :=
zyF61_4 zy_fu x0 x1 (-1 : Int32) (0 : Int32) s
theorem zyC61 {X : zx_X}     {x0 : Int32} {x1 : Int32} {s : zy_S} {r : Int32} {s' : zy_S}  (h : zyF61 x0 x1 s = some (r, s')) : zyR X 2 61 0 [some (.int x0), some (.int x1), none, none, none] [] s (zyE (some (.int r)) s') := by
  unfold zyF61 at h
  refine zy_3 rfl rfl (show zyR _ _ _ _ [some (.int x0), some (.int x1), none, none, none] [.int (-1 : Int32)] _ _ from ?_)
  refine zy_23 rfl rfl (show zyR _ _ _ _ [some (.int x0), some (.int x1), some (.int (-1 : Int32)), none, none] [] _ _ from ?_)
  refine zy_3 rfl rfl (show zyR _ _ _ _ [some (.int x0), some (.int x1), some (.int (-1 : Int32)), none, none] [.int (0 : Int32)] _ _ from ?_)
  refine zy_23 rfl rfl (show zyR _ _ _ _ [some (.int x0), some (.int x1), some (.int (-1 : Int32)), some (.int (0 : Int32)), none] [] _ _ from ?_)
  exact zy_sub (show zy_le [some (.int x0), some (.int x1), some (.int (-1 : Int32)), some (.int (0 : Int32)), none] [some (.int x0), some (.int x1), some (.int (-1 : Int32)), some (.int (0 : Int32)), none] from ⟨rfl, ⟨rfl, ⟨rfl, ⟨rfl, trivial⟩⟩⟩⟩) (zyC61_4 zy_fu x0 x1 (-1 : Int32) (0 : Int32) s _ _ h)
