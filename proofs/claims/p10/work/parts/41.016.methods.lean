/-! PART 41.16: methods as functions. Made by wip/v4/dcp.py. -/
/-! NineOpinions.split(I)I -/
noncomputable def zyF125   (x1 : Int32) (s : zy_S) : Option (Int32 × zy_S) :=
(zyF84 x1 s).bind fun p1 =>
if p1.1 ≠ 0 then
(zyF126 p1.2).bind fun p2 =>
if x1 ≠ 0 then
(zyF127 p2.1 p2.2).bind fun p3 =>
some (p3.1, p3.2)
else
some (p2.1, p2.2)
else
some ((-1 : Int32), p1.2)
theorem zyC125 {X : zx_X}     {x1 : Int32} {s : zy_S} {r : Int32} {s' : zy_S}  (h : zyF125 x1 s = some (r, s')) : zyR X 7 125 0 [some (.ref (0 + 3)), some (.int x1), none] [] s (zyE (some (.int r)) s') := by
  unfold zyF125 at h
  refine zy_2 rfl rfl (show zyR _ _ _ _ [some (.ref (0 + 3)), some (.int x1), none] [.int x1] _ _ from ?_)
  obtain ⟨p1, hp1, h⟩ := zy_bind h
  refine zy_60 (as := [.int x1]) (rest := []) (L := [some (.int x1)]) (d' := 1) rfl rfl (Nat.le_of_ble_eq_true rfl) (Nat.le_of_ble_eq_true rfl) rfl (Nat.le_of_ble_eq_true rfl) rfl rfl (zyC84 hp1) ?_
  show zyR _ _ _ _ [some (.ref (0 + 3)), some (.int x1), none] [.int p1.1] _ _
  refine zy_24_1 rfl (fun b5 => (show zyR _ _ _ _ [some (.ref (0 + 3)), some (.int x1), none] [] _ _ from ?_)) (fun b5 => (show zyR _ _ _ _ [some (.ref (0 + 3)), some (.int x1), none] [] _ _ from ?_))
  · replace h := zy_ifp h b5
    refine zy_0 rfl rfl (show zyR _ _ _ _ [some (.ref (0 + 3)), some (.int x1), none] [.ref (0 + 3)] _ _ from ?_)
    refine zy_1r (c := 0) rfl rfl rfl (show zyR _ _ _ _ [some (.ref (0 + 3)), some (.int x1), none] [.ref (16 + 3)] _ _ from ?_)
    obtain ⟨p2, hp2, h⟩ := zy_bind h
    refine zy_5 (c := 16) (as := []) (rest := []) (L := [some (.ref (16 + 3)), none, none, none]) (d' := 6) rfl rfl rfl (Nat.le_of_ble_eq_true rfl) (Nat.le_of_ble_eq_true rfl) rfl (Nat.le_of_ble_eq_true rfl) rfl rfl (zyC126 hp2) ?_
    show zyR _ _ _ _ [some (.ref (0 + 3)), some (.int x1), none] [.int p2.1] _ _
    refine zy_23 rfl rfl (show zyR _ _ _ _ [some (.ref (0 + 3)), some (.int x1), some (.int p2.1)] [] _ _ from ?_)
    refine zy_2 rfl rfl (show zyR _ _ _ _ [some (.ref (0 + 3)), some (.int x1), some (.int p2.1)] [.int x1] _ _ from ?_)
    refine zy_24_1 rfl (fun b4 => (show zyR _ _ _ _ [some (.ref (0 + 3)), some (.int x1), some (.int p2.1)] [] _ _ from ?_)) (fun b4 => (show zyR _ _ _ _ [some (.ref (0 + 3)), some (.int x1), some (.int p2.1)] [] _ _ from ?_))
    · replace h := zy_ifp h b4
      refine zy_0 rfl rfl (show zyR _ _ _ _ [some (.ref (0 + 3)), some (.int x1), some (.int p2.1)] [.ref (0 + 3)] _ _ from ?_)
      refine zy_1r (c := 0) rfl rfl rfl (show zyR _ _ _ _ [some (.ref (0 + 3)), some (.int x1), some (.int p2.1)] [.ref (16 + 3)] _ _ from ?_)
      refine zy_2 rfl rfl (show zyR _ _ _ _ [some (.ref (0 + 3)), some (.int x1), some (.int p2.1)] [.int p2.1, .ref (16 + 3)] _ _ from ?_)
      obtain ⟨p3, hp3, h⟩ := zy_bind h
      refine zy_5 (c := 16) (as := [.int p2.1]) (rest := []) (L := [some (.ref (16 + 3)), some (.int p2.1), none, none]) (d' := 5) rfl rfl rfl (Nat.le_of_ble_eq_true rfl) (Nat.le_of_ble_eq_true rfl) rfl (Nat.le_of_ble_eq_true rfl) rfl rfl (zyC127 hp3) ?_
      show zyR _ _ _ _ [some (.ref (0 + 3)), some (.int x1), some (.int p2.1)] [.int p3.1] _ _
      obtain ⟨rfl, rfl⟩ := zy_pi h
      exact zy_4 rfl ⟨rfl, rfl⟩
    · replace h := zy_ifn h b4
      refine zy_2 rfl rfl (show zyR _ _ _ _ [some (.ref (0 + 3)), some (.int x1), some (.int p2.1)] [.int p2.1] _ _ from ?_)
      refine zy_6 rfl (show zyR _ _ _ _ [some (.ref (0 + 3)), some (.int x1), some (.int p2.1)] [.int p2.1] _ _ from ?_)
      obtain ⟨rfl, rfl⟩ := zy_pi h
      exact zy_4 rfl ⟨rfl, rfl⟩
  · replace h := zy_ifn h b5
    refine zy_3 rfl rfl (show zyR _ _ _ _ [some (.ref (0 + 3)), some (.int x1), none] [.int (-1 : Int32)] _ _ from ?_)
    obtain ⟨rfl, rfl⟩ := zy_pi h
    exact zy_4 rfl ⟨rfl, rfl⟩
/-! NineOpinionsModel.standingWith(I)I -/
noncomputable def zyF238_35  (k4 : Int32 → Int32 → Int32 → zy_S → Option (Int32 × zy_S)) (x1 : Int32) (x3 : Int32) (y0 : Int32) (y1 : Int32) (s : zy_S) : Option (Int32 × zy_S) :=
k4 x1 (y1 + y0) (x3 + (1 : Int32)) s
theorem zyC238_35 {X : zx_X}  {k4 : Int32 → Int32 → Int32 → zy_S → Option (Int32 × zy_S)}  (hk4 : ∀ (x1 : Int32) (x2 : Int32) (x3 : Int32) (s : zy_S) (r : Int32) (s' : zy_S), k4 x1 x2 x3 s = some (r, s') → zyR X 4 238 4 [some (.ref (43 + 3)), some (.int x1), some (.int x2), some (.int x3)] [] s (zyE (some (.int r)) s')) {x1 : Int32} {x3 : Int32} {y0 : Int32} {y1 : Int32} {s : zy_S} {r : Int32} {s' : zy_S}  (h : zyF238_35 k4 x1 x3 y0 y1 s = some (r, s')) : zyR X 4 238 35 [some (.ref (43 + 3)), some (.int x1), none, some (.int x3)] [.int y0, .int y1] s (zyE (some (.int r)) s') := by
  unfold zyF238_35 at h
  refine zy_10 rfl (show zyR _ _ _ _ [some (.ref (43 + 3)), some (.int x1), none, some (.int x3)] [.int (y1 + y0)] _ _ from ?_)
  refine zy_23 rfl rfl (show zyR _ _ _ _ [some (.ref (43 + 3)), some (.int x1), some (.int (y1 + y0)), some (.int x3)] [] _ _ from ?_)
  refine zy_22 rfl rfl rfl rfl (show zyR _ _ _ _ [some (.ref (43 + 3)), some (.int x1), some (.int (y1 + y0)), some (.int (x3 + (1 : Int32)))] [] _ _ from ?_)
  refine zy_6 rfl (show zyR _ _ _ _ [some (.ref (43 + 3)), some (.int x1), some (.int (y1 + y0)), some (.int (x3 + (1 : Int32)))] [] _ _ from ?_)
  exact zy_sub (show zy_le [some (.ref (43 + 3)), some (.int x1), some (.int (y1 + y0)), some (.int (x3 + (1 : Int32)))] [some (.ref (43 + 3)), some (.int x1), some (.int (y1 + y0)), some (.int (x3 + (1 : Int32)))] from ⟨rfl, ⟨rfl, ⟨rfl, ⟨rfl, trivial⟩⟩⟩⟩) (hk4 x1 (y1 + y0) (x3 + (1 : Int32)) s _ _ h)
noncomputable def zyF238_4b  (k4 : Int32 → Int32 → Int32 → zy_S → Option (Int32 × zy_S)) (x1 : Int32) (x2 : Int32) (x3 : Int32) (s : zy_S) : Option (Int32 × zy_S) :=
if (s.1 43 6) ≤ x3 then
some (x2, s)
else
(zyF222 x3 x1 s).bind fun p1 =>
if p1.1 = 0 then
zyF238_35 k4 x1 x3 (0 : Int32) x2 p1.2
else
if zy_in ((8 : Int32) + x3) 41 then
zyF238_35 k4 x1 x3 (p1.2.1 44 (((8 : Int32) + x3)).toNatClampNeg) x2 p1.2
else none
theorem zyC238_4b {X : zx_X}  {k4 : Int32 → Int32 → Int32 → zy_S → Option (Int32 × zy_S)}  (hk4 : ∀ (x1 : Int32) (x2 : Int32) (x3 : Int32) (s : zy_S) (r : Int32) (s' : zy_S), k4 x1 x2 x3 s = some (r, s') → zyR X 4 238 4 [some (.ref (43 + 3)), some (.int x1), some (.int x2), some (.int x3)] [] s (zyE (some (.int r)) s')) {x1 : Int32} {x2 : Int32} {x3 : Int32} {s : zy_S} {r : Int32} {s' : zy_S}  (h : zyF238_4b k4 x1 x2 x3 s = some (r, s')) : zyR X 4 238 4 [some (.ref (43 + 3)), some (.int x1), some (.int x2), some (.int x3)] [] s (zyE (some (.int r)) s') := by
  unfold zyF238_4b at h
  refine zy_2 rfl rfl (show zyR _ _ _ _ [some (.ref (43 + 3)), some (.int x1), some (.int x2), some (.int x3)] [.int x3] _ _ from ?_)
  refine zy_0 rfl rfl (show zyR _ _ _ _ [some (.ref (43 + 3)), some (.int x1), some (.int x2), some (.int x3)] [.ref (43 + 3), .int x3] _ _ from ?_)
  refine zy_1 (c := 43) rfl rfl rfl (show zyR _ _ _ _ [some (.ref (43 + 3)), some (.int x1), some (.int x2), some (.int x3)] [.int (s.1 43 6), .int x3] _ _ from ?_)
  refine zy_25_3 rfl (fun b4 => (show zyR _ _ _ _ [some (.ref (43 + 3)), some (.int x1), some (.int x2), some (.int x3)] [] _ _ from ?_)) (fun b4 => (show zyR _ _ _ _ [some (.ref (43 + 3)), some (.int x1), some (.int x2), some (.int x3)] [] _ _ from ?_))
  · replace h := zy_ifp h b4
    refine zy_2 rfl rfl (show zyR _ _ _ _ [some (.ref (43 + 3)), some (.int x1), some (.int x2), some (.int x3)] [.int x2] _ _ from ?_)
    obtain ⟨rfl, rfl⟩ := zy_pi h
    exact zy_4 rfl ⟨rfl, rfl⟩
  · replace h := zy_ifn h b4
    refine zy_2 rfl rfl (show zyR _ _ _ _ [some (.ref (43 + 3)), some (.int x1), some (.int x2), some (.int x3)] [.int x2] _ _ from ?_)
    refine zy_0 rfl rfl (show zyR _ _ _ _ [some (.ref (43 + 3)), some (.int x1), some (.int x2), some (.int x3)] [.ref (43 + 3), .int x2] _ _ from ?_)
    refine zy_2 rfl rfl (show zyR _ _ _ _ [some (.ref (43 + 3)), some (.int x1), some (.int x2), some (.int x3)] [.int x3, .ref (43 + 3), .int x2] _ _ from ?_)
    refine zy_2 rfl rfl (show zyR _ _ _ _ [some (.ref (43 + 3)), some (.int x1), some (.int x2), some (.int x3)] [.int x1, .int x3, .ref (43 + 3), .int x2] _ _ from ?_)
    obtain ⟨p1, hp1, h⟩ := zy_bind h
    refine zy_5 (c := 43) (as := [.int x3, .int x1]) (rest := [.int x2]) (L := [some (.ref (43 + 3)), some (.int x3), some (.int x1)]) (d' := 3) rfl rfl rfl (Nat.le_of_ble_eq_true rfl) (Nat.le_of_ble_eq_true rfl) rfl (Nat.le_of_ble_eq_true rfl) rfl rfl (zyC222 hp1) ?_
    show zyR _ _ _ _ [some (.ref (43 + 3)), some (.int x1), some (.int x2), some (.int x3)] [.int p1.1, .int x2] _ _
    refine zy_24_0 rfl (fun b3 => (show zyR _ _ _ _ [some (.ref (43 + 3)), some (.int x1), some (.int x2), some (.int x3)] [.int x2] _ _ from ?_)) (fun b3 => (show zyR _ _ _ _ [some (.ref (43 + 3)), some (.int x1), some (.int x2), some (.int x3)] [.int x2] _ _ from ?_))
    · replace h := zy_ifp h b3
      refine zy_3 rfl rfl (show zyR _ _ _ _ [some (.ref (43 + 3)), some (.int x1), some (.int x2), some (.int x3)] [.int (0 : Int32), .int x2] _ _ from ?_)
      exact zy_sub (show zy_le [some (.ref (43 + 3)), some (.int x1), none, some (.int x3)] [some (.ref (43 + 3)), some (.int x1), some (.int x2), some (.int x3)] from ⟨rfl, ⟨rfl, ⟨rfl, trivial⟩⟩⟩) (zyC238_35 hk4 h)
    · replace h := zy_ifn h b3
      refine zy_0 rfl rfl (show zyR _ _ _ _ [some (.ref (43 + 3)), some (.int x1), some (.int x2), some (.int x3)] [.ref (43 + 3), .int x2] _ _ from ?_)
      refine zy_1r (c := 43) rfl rfl rfl (show zyR _ _ _ _ [some (.ref (43 + 3)), some (.int x1), some (.int x2), some (.int x3)] [.ref (44 + 3), .int x2] _ _ from ?_)
      refine zy_3 rfl rfl (show zyR _ _ _ _ [some (.ref (43 + 3)), some (.int x1), some (.int x2), some (.int x3)] [.int (8 : Int32), .ref (44 + 3), .int x2] _ _ from ?_)
      refine zy_2 rfl rfl (show zyR _ _ _ _ [some (.ref (43 + 3)), some (.int x1), some (.int x2), some (.int x3)] [.int x3, .int (8 : Int32), .ref (44 + 3), .int x2] _ _ from ?_)
      refine zy_10 rfl (show zyR _ _ _ _ [some (.ref (43 + 3)), some (.int x1), some (.int x2), some (.int x3)] [.int ((8 : Int32) + x3), .ref (44 + 3), .int x2] _ _ from ?_)
      obtain ⟨c2, h⟩ := zy_if h
      refine zy_26 (c := 44) rfl rfl c2 (show zyR _ _ _ _ [some (.ref (43 + 3)), some (.int x1), some (.int x2), some (.int x3)] [.int (p1.2.1 44 (((8 : Int32) + x3)).toNatClampNeg), .int x2] _ _ from ?_)
      refine zy_6 rfl (show zyR _ _ _ _ [some (.ref (43 + 3)), some (.int x1), some (.int x2), some (.int x3)] [.int (p1.2.1 44 (((8 : Int32) + x3)).toNatClampNeg), .int x2] _ _ from ?_)
      exact zy_sub (show zy_le [some (.ref (43 + 3)), some (.int x1), none, some (.int x3)] [some (.ref (43 + 3)), some (.int x1), some (.int x2), some (.int x3)] from ⟨rfl, ⟨rfl, ⟨rfl, trivial⟩⟩⟩) (zyC238_35 hk4 h)
noncomputable def zyF238_4   (n : Nat) : Int32 → Int32 → Int32 → zy_S → Option (Int32 × zy_S) := Nat.rec (fun _ _ _ _ => none) (fun _ k4 => zyF238_4b k4) n
theorem zyC238_4 {X : zx_X}     : ∀ (n : Nat) (x1 : Int32) (x2 : Int32) (x3 : Int32) (s : zy_S) (r : Int32) (s' : zy_S), zyF238_4 n x1 x2 x3 s = some (r, s') → zyR X 4 238 4 [some (.ref (43 + 3)), some (.int x1), some (.int x2), some (.int x3)] [] s (zyE (some (.int r)) s')
  | 0, _, _, _ => by
    intro s r s'  h
    have h : (none : Option (Int32 × zy_S)) = some (r, s') := h
    cases h
  | n + 1, x1, x2, x3 => by
    intro s r s'  h
    exact zyC238_4b (k4 := zyF238_4 n) (fun x1 x2 x3 s r s'  h => zyC238_4  n x1 x2 x3 s r s'  h) h
noncomputable def zyF238   (x1 : Int32) (s : zy_S) : Option (Int32 × zy_S) :=
zyF238_4 zy_fu x1 (0 : Int32) (0 : Int32) s
theorem zyC238 {X : zx_X}     {x1 : Int32} {s : zy_S} {r : Int32} {s' : zy_S}  (h : zyF238 x1 s = some (r, s')) : zyR X 4 238 0 [some (.ref (43 + 3)), some (.int x1), none, none] [] s (zyE (some (.int r)) s') := by
  unfold zyF238 at h
  refine zy_3 rfl rfl (show zyR _ _ _ _ [some (.ref (43 + 3)), some (.int x1), none, none] [.int (0 : Int32)] _ _ from ?_)
  refine zy_23 rfl rfl (show zyR _ _ _ _ [some (.ref (43 + 3)), some (.int x1), some (.int (0 : Int32)), none] [] _ _ from ?_)
  refine zy_3 rfl rfl (show zyR _ _ _ _ [some (.ref (43 + 3)), some (.int x1), some (.int (0 : Int32)), none] [.int (0 : Int32)] _ _ from ?_)
  refine zy_23 rfl rfl (show zyR _ _ _ _ [some (.ref (43 + 3)), some (.int x1), some (.int (0 : Int32)), some (.int (0 : Int32))] [] _ _ from ?_)
  exact zy_sub (show zy_le [some (.ref (43 + 3)), some (.int x1), some (.int (0 : Int32)), some (.int (0 : Int32))] [some (.ref (43 + 3)), some (.int x1), some (.int (0 : Int32)), some (.int (0 : Int32))] from ⟨rfl, ⟨rfl, ⟨rfl, ⟨rfl, trivial⟩⟩⟩⟩) (zyC238_4 zy_fu x1 (0 : Int32) (0 : Int32) s _ _ h)
/-! NineOpinionsModel.split(I)I -/
noncomputable def zyF237_117  (k23 : Int32 → Int32 → Int32 → Int32 → Int32 → zy_S → Option (Int32 × zy_S)) (x1 : Int32) (x2 : Int32) (x3 : Int32) (x4 : Int32) (x5 : Int32) (s : zy_S) : Option (Int32 × zy_S) :=
k23 x1 x2 x3 x4 (x5 + (1 : Int32)) s
theorem zyC237_117 {X : zx_X}  {k23 : Int32 → Int32 → Int32 → Int32 → Int32 → zy_S → Option (Int32 × zy_S)}  (hk23 : ∀ (x1 : Int32) (x2 : Int32) (x3 : Int32) (x4 : Int32) (x5 : Int32) (s : zy_S) (r : Int32) (s' : zy_S), k23 x1 x2 x3 x4 x5 s = some (r, s') → zyR X 5 237 23 [some (.ref (43 + 3)), some (.int x1), some (.int x2), some (.int x3), some (.int x4), some (.int x5), none, none] [] s (zyE (some (.int r)) s')) {x1 : Int32} {x2 : Int32} {x3 : Int32} {x4 : Int32} {x5 : Int32} {s : zy_S} {r : Int32} {s' : zy_S}  (h : zyF237_117 k23 x1 x2 x3 x4 x5 s = some (r, s')) : zyR X 5 237 117 [some (.ref (43 + 3)), some (.int x1), some (.int x2), some (.int x3), some (.int x4), some (.int x5), none, none] [] s (zyE (some (.int r)) s') := by
  unfold zyF237_117 at h
  refine zy_22 rfl rfl rfl rfl (show zyR _ _ _ _ [some (.ref (43 + 3)), some (.int x1), some (.int x2), some (.int x3), some (.int x4), some (.int (x5 + (1 : Int32))), none, none] [] _ _ from ?_)
  refine zy_6 rfl (show zyR _ _ _ _ [some (.ref (43 + 3)), some (.int x1), some (.int x2), some (.int x3), some (.int x4), some (.int (x5 + (1 : Int32))), none, none] [] _ _ from ?_)
  exact zy_sub (show zy_le [some (.ref (43 + 3)), some (.int x1), some (.int x2), some (.int x3), some (.int x4), some (.int (x5 + (1 : Int32))), none, none] [some (.ref (43 + 3)), some (.int x1), some (.int x2), some (.int x3), some (.int x4), some (.int (x5 + (1 : Int32))), none, none] from ⟨rfl, ⟨rfl, ⟨rfl, ⟨rfl, ⟨rfl, ⟨rfl, trivial⟩⟩⟩⟩⟩⟩) (hk23 x1 x2 x3 x4 (x5 + (1 : Int32)) s _ _ h)
noncomputable def zyF237_74  (k23 : Int32 → Int32 → Int32 → Int32 → Int32 → zy_S → Option (Int32 × zy_S)) (k36 : Int32 → Int32 → Int32 → Int32 → Int32 → Int32 → Int32 → zy_S → Option (Int32 × zy_S)) (x1 : Int32) (x2 : Int32) (x3 : Int32) (x4 : Int32) (x5 : Int32) (x7 : Int32) (y0 : Int32) (s : zy_S) : Option (Int32 × zy_S) :=
k36 x1 x2 x3 x4 x5 y0 (x7 + (1 : Int32)) s
theorem zyC237_74 {X : zx_X}  {k23 : Int32 → Int32 → Int32 → Int32 → Int32 → zy_S → Option (Int32 × zy_S)} {k36 : Int32 → Int32 → Int32 → Int32 → Int32 → Int32 → Int32 → zy_S → Option (Int32 × zy_S)}  (hk23 : ∀ (x1 : Int32) (x2 : Int32) (x3 : Int32) (x4 : Int32) (x5 : Int32) (s : zy_S) (r : Int32) (s' : zy_S), k23 x1 x2 x3 x4 x5 s = some (r, s') → zyR X 5 237 23 [some (.ref (43 + 3)), some (.int x1), some (.int x2), some (.int x3), some (.int x4), some (.int x5), none, none] [] s (zyE (some (.int r)) s')) (hk36 : ∀ (x1 : Int32) (x2 : Int32) (x3 : Int32) (x4 : Int32) (x5 : Int32) (x6 : Int32) (x7 : Int32) (s : zy_S) (r : Int32) (s' : zy_S), k36 x1 x2 x3 x4 x5 x6 x7 s = some (r, s') → zyR X 5 237 36 [some (.ref (43 + 3)), some (.int x1), some (.int x2), some (.int x3), some (.int x4), some (.int x5), some (.int x6), some (.int x7)] [] s (zyE (some (.int r)) s')) {x1 : Int32} {x2 : Int32} {x3 : Int32} {x4 : Int32} {x5 : Int32} {x7 : Int32} {y0 : Int32} {s : zy_S} {r : Int32} {s' : zy_S}  (h : zyF237_74 k23 k36 x1 x2 x3 x4 x5 x7 y0 s = some (r, s')) : zyR X 5 237 74 [some (.ref (43 + 3)), some (.int x1), some (.int x2), some (.int x3), some (.int x4), some (.int x5), none, some (.int x7)] [.int y0] s (zyE (some (.int r)) s') := by
  unfold zyF237_74 at h
  refine zy_23 rfl rfl (show zyR _ _ _ _ [some (.ref (43 + 3)), some (.int x1), some (.int x2), some (.int x3), some (.int x4), some (.int x5), some (.int y0), some (.int x7)] [] _ _ from ?_)
  refine zy_22 rfl rfl rfl rfl (show zyR _ _ _ _ [some (.ref (43 + 3)), some (.int x1), some (.int x2), some (.int x3), some (.int x4), some (.int x5), some (.int y0), some (.int (x7 + (1 : Int32)))] [] _ _ from ?_)
  refine zy_6 rfl (show zyR _ _ _ _ [some (.ref (43 + 3)), some (.int x1), some (.int x2), some (.int x3), some (.int x4), some (.int x5), some (.int y0), some (.int (x7 + (1 : Int32)))] [] _ _ from ?_)
  exact zy_sub (show zy_le [some (.ref (43 + 3)), some (.int x1), some (.int x2), some (.int x3), some (.int x4), some (.int x5), some (.int y0), some (.int (x7 + (1 : Int32)))] [some (.ref (43 + 3)), some (.int x1), some (.int x2), some (.int x3), some (.int x4), some (.int x5), some (.int y0), some (.int (x7 + (1 : Int32)))] from ⟨rfl, ⟨rfl, ⟨rfl, ⟨rfl, ⟨rfl, ⟨rfl, ⟨rfl, ⟨rfl, trivial⟩⟩⟩⟩⟩⟩⟩⟩) (hk36 x1 x2 x3 x4 x5 y0 (x7 + (1 : Int32)) s _ _ h)
noncomputable def zyF237_36b  (k23 : Int32 → Int32 → Int32 → Int32 → Int32 → zy_S → Option (Int32 × zy_S)) (k36 : Int32 → Int32 → Int32 → Int32 → Int32 → Int32 → Int32 → zy_S → Option (Int32 × zy_S)) (x1 : Int32) (x2 : Int32) (x3 : Int32) (x4 : Int32) (x5 : Int32) (x6 : Int32) (x7 : Int32) (s : zy_S) : Option (Int32 × zy_S) :=
if (4 : Int32) ≤ x7 then
(zyF238 (((4 : Int32) * x5) + x6) s).bind fun p1 =>
if x4 ≤ p1.1 then
zyF237_117 k23 x1 x2 x3 x4 x5 p1.2
else
(zyF238 (((4 : Int32) * x5) + x6) p1.2).bind fun p2 =>
zyF237_117 k23 x1 x5 x6 p2.1 x5 p2.2
else
(zyF238 (((4 : Int32) * x5) + x7) s).bind fun p4 =>
(zyF238 (((4 : Int32) * x5) + x6) p4.2).bind fun p5 =>
if p4.1 ≤ p5.1 then
zyF237_74 k23 k36 x1 x2 x3 x4 x5 x7 x6 p5.2
else
zyF237_74 k23 k36 x1 x2 x3 x4 x5 x7 x7 p5.2
theorem zyC237_36b {X : zx_X}  {k23 : Int32 → Int32 → Int32 → Int32 → Int32 → zy_S → Option (Int32 × zy_S)} {k36 : Int32 → Int32 → Int32 → Int32 → Int32 → Int32 → Int32 → zy_S → Option (Int32 × zy_S)}  (hk23 : ∀ (x1 : Int32) (x2 : Int32) (x3 : Int32) (x4 : Int32) (x5 : Int32) (s : zy_S) (r : Int32) (s' : zy_S), k23 x1 x2 x3 x4 x5 s = some (r, s') → zyR X 5 237 23 [some (.ref (43 + 3)), some (.int x1), some (.int x2), some (.int x3), some (.int x4), some (.int x5), none, none] [] s (zyE (some (.int r)) s')) (hk36 : ∀ (x1 : Int32) (x2 : Int32) (x3 : Int32) (x4 : Int32) (x5 : Int32) (x6 : Int32) (x7 : Int32) (s : zy_S) (r : Int32) (s' : zy_S), k36 x1 x2 x3 x4 x5 x6 x7 s = some (r, s') → zyR X 5 237 36 [some (.ref (43 + 3)), some (.int x1), some (.int x2), some (.int x3), some (.int x4), some (.int x5), some (.int x6), some (.int x7)] [] s (zyE (some (.int r)) s')) {x1 : Int32} {x2 : Int32} {x3 : Int32} {x4 : Int32} {x5 : Int32} {x6 : Int32} {x7 : Int32} {s : zy_S} {r : Int32} {s' : zy_S}  (h : zyF237_36b k23 k36 x1 x2 x3 x4 x5 x6 x7 s = some (r, s')) : zyR X 5 237 36 [some (.ref (43 + 3)), some (.int x1), some (.int x2), some (.int x3), some (.int x4), some (.int x5), some (.int x6), some (.int x7)] [] s (zyE (some (.int r)) s') := by
  unfold zyF237_36b at h
  refine zy_2 rfl rfl (show zyR _ _ _ _ [some (.ref (43 + 3)), some (.int x1), some (.int x2), some (.int x3), some (.int x4), some (.int x5), some (.int x6), some (.int x7)] [.int x7] _ _ from ?_)
  refine zy_3 rfl rfl (show zyR _ _ _ _ [some (.ref (43 + 3)), some (.int x1), some (.int x2), some (.int x3), some (.int x4), some (.int x5), some (.int x6), some (.int x7)] [.int (4 : Int32), .int x7] _ _ from ?_)
  refine zy_25_3 rfl (fun b7 => (show zyR _ _ _ _ [some (.ref (43 + 3)), some (.int x1), some (.int x2), some (.int x3), some (.int x4), some (.int x5), some (.int x6), some (.int x7)] [] _ _ from ?_)) (fun b7 => (show zyR _ _ _ _ [some (.ref (43 + 3)), some (.int x1), some (.int x2), some (.int x3), some (.int x4), some (.int x5), some (.int x6), some (.int x7)] [] _ _ from ?_))
  · replace h := zy_ifp h b7
    refine zy_0 rfl rfl (show zyR _ _ _ _ [some (.ref (43 + 3)), some (.int x1), some (.int x2), some (.int x3), some (.int x4), some (.int x5), some (.int x6), some (.int x7)] [.ref (43 + 3)] _ _ from ?_)
    refine zy_3 rfl rfl (show zyR _ _ _ _ [some (.ref (43 + 3)), some (.int x1), some (.int x2), some (.int x3), some (.int x4), some (.int x5), some (.int x6), some (.int x7)] [.int (4 : Int32), .ref (43 + 3)] _ _ from ?_)
    refine zy_2 rfl rfl (show zyR _ _ _ _ [some (.ref (43 + 3)), some (.int x1), some (.int x2), some (.int x3), some (.int x4), some (.int x5), some (.int x6), some (.int x7)] [.int x5, .int (4 : Int32), .ref (43 + 3)] _ _ from ?_)
    refine zy_12 rfl (show zyR _ _ _ _ [some (.ref (43 + 3)), some (.int x1), some (.int x2), some (.int x3), some (.int x4), some (.int x5), some (.int x6), some (.int x7)] [.int ((4 : Int32) * x5), .ref (43 + 3)] _ _ from ?_)
    refine zy_2 rfl rfl (show zyR _ _ _ _ [some (.ref (43 + 3)), some (.int x1), some (.int x2), some (.int x3), some (.int x4), some (.int x5), some (.int x6), some (.int x7)] [.int x6, .int ((4 : Int32) * x5), .ref (43 + 3)] _ _ from ?_)
    refine zy_10 rfl (show zyR _ _ _ _ [some (.ref (43 + 3)), some (.int x1), some (.int x2), some (.int x3), some (.int x4), some (.int x5), some (.int x6), some (.int x7)] [.int (((4 : Int32) * x5) + x6), .ref (43 + 3)] _ _ from ?_)
    obtain ⟨p1, hp1, h⟩ := zy_bind h
    refine zy_5 (c := 43) (as := [.int (((4 : Int32) * x5) + x6)]) (rest := []) (L := [some (.ref (43 + 3)), some (.int (((4 : Int32) * x5) + x6)), none, none]) (d' := 4) rfl rfl rfl (Nat.le_of_ble_eq_true rfl) (Nat.le_of_ble_eq_true rfl) rfl (Nat.le_of_ble_eq_true rfl) rfl rfl (zyC238 hp1) ?_
    show zyR _ _ _ _ [some (.ref (43 + 3)), some (.int x1), some (.int x2), some (.int x3), some (.int x4), some (.int x5), some (.int x6), some (.int x7)] [.int p1.1] _ _
    refine zy_2 rfl rfl (show zyR _ _ _ _ [some (.ref (43 + 3)), some (.int x1), some (.int x2), some (.int x3), some (.int x4), some (.int x5), some (.int x6), some (.int x7)] [.int x4, .int p1.1] _ _ from ?_)
    refine zy_25_3 rfl (fun b3 => (show zyR _ _ _ _ [some (.ref (43 + 3)), some (.int x1), some (.int x2), some (.int x3), some (.int x4), some (.int x5), some (.int x6), some (.int x7)] [] _ _ from ?_)) (fun b3 => (show zyR _ _ _ _ [some (.ref (43 + 3)), some (.int x1), some (.int x2), some (.int x3), some (.int x4), some (.int x5), some (.int x6), some (.int x7)] [] _ _ from ?_))
    · replace h := zy_ifp h b3
      exact zy_sub (show zy_le [some (.ref (43 + 3)), some (.int x1), some (.int x2), some (.int x3), some (.int x4), some (.int x5), none, none] [some (.ref (43 + 3)), some (.int x1), some (.int x2), some (.int x3), some (.int x4), some (.int x5), some (.int x6), some (.int x7)] from ⟨rfl, ⟨rfl, ⟨rfl, ⟨rfl, ⟨rfl, ⟨rfl, trivial⟩⟩⟩⟩⟩⟩) (zyC237_117 hk23 h)
    · replace h := zy_ifn h b3
      refine zy_2 rfl rfl (show zyR _ _ _ _ [some (.ref (43 + 3)), some (.int x1), some (.int x2), some (.int x3), some (.int x4), some (.int x5), some (.int x6), some (.int x7)] [.int x5] _ _ from ?_)
      refine zy_23 rfl rfl (show zyR _ _ _ _ [some (.ref (43 + 3)), some (.int x1), some (.int x5), some (.int x3), some (.int x4), some (.int x5), some (.int x6), some (.int x7)] [] _ _ from ?_)
      refine zy_2 rfl rfl (show zyR _ _ _ _ [some (.ref (43 + 3)), some (.int x1), some (.int x5), some (.int x3), some (.int x4), some (.int x5), some (.int x6), some (.int x7)] [.int x6] _ _ from ?_)
      refine zy_23 rfl rfl (show zyR _ _ _ _ [some (.ref (43 + 3)), some (.int x1), some (.int x5), some (.int x6), some (.int x4), some (.int x5), some (.int x6), some (.int x7)] [] _ _ from ?_)
      refine zy_0 rfl rfl (show zyR _ _ _ _ [some (.ref (43 + 3)), some (.int x1), some (.int x5), some (.int x6), some (.int x4), some (.int x5), some (.int x6), some (.int x7)] [.ref (43 + 3)] _ _ from ?_)
      refine zy_3 rfl rfl (show zyR _ _ _ _ [some (.ref (43 + 3)), some (.int x1), some (.int x5), some (.int x6), some (.int x4), some (.int x5), some (.int x6), some (.int x7)] [.int (4 : Int32), .ref (43 + 3)] _ _ from ?_)
      refine zy_2 rfl rfl (show zyR _ _ _ _ [some (.ref (43 + 3)), some (.int x1), some (.int x5), some (.int x6), some (.int x4), some (.int x5), some (.int x6), some (.int x7)] [.int x5, .int (4 : Int32), .ref (43 + 3)] _ _ from ?_)
      refine zy_12 rfl (show zyR _ _ _ _ [some (.ref (43 + 3)), some (.int x1), some (.int x5), some (.int x6), some (.int x4), some (.int x5), some (.int x6), some (.int x7)] [.int ((4 : Int32) * x5), .ref (43 + 3)] _ _ from ?_)
      refine zy_2 rfl rfl (show zyR _ _ _ _ [some (.ref (43 + 3)), some (.int x1), some (.int x5), some (.int x6), some (.int x4), some (.int x5), some (.int x6), some (.int x7)] [.int x6, .int ((4 : Int32) * x5), .ref (43 + 3)] _ _ from ?_)
      refine zy_10 rfl (show zyR _ _ _ _ [some (.ref (43 + 3)), some (.int x1), some (.int x5), some (.int x6), some (.int x4), some (.int x5), some (.int x6), some (.int x7)] [.int (((4 : Int32) * x5) + x6), .ref (43 + 3)] _ _ from ?_)
      obtain ⟨p2, hp2, h⟩ := zy_bind h
      refine zy_5 (c := 43) (as := [.int (((4 : Int32) * x5) + x6)]) (rest := []) (L := [some (.ref (43 + 3)), some (.int (((4 : Int32) * x5) + x6)), none, none]) (d' := 4) rfl rfl rfl (Nat.le_of_ble_eq_true rfl) (Nat.le_of_ble_eq_true rfl) rfl (Nat.le_of_ble_eq_true rfl) rfl rfl (zyC238 hp2) ?_
      show zyR _ _ _ _ [some (.ref (43 + 3)), some (.int x1), some (.int x5), some (.int x6), some (.int x4), some (.int x5), some (.int x6), some (.int x7)] [.int p2.1] _ _
      refine zy_23 rfl rfl (show zyR _ _ _ _ [some (.ref (43 + 3)), some (.int x1), some (.int x5), some (.int x6), some (.int p2.1), some (.int x5), some (.int x6), some (.int x7)] [] _ _ from ?_)
      exact zy_sub (show zy_le [some (.ref (43 + 3)), some (.int x1), some (.int x5), some (.int x6), some (.int p2.1), some (.int x5), none, none] [some (.ref (43 + 3)), some (.int x1), some (.int x5), some (.int x6), some (.int p2.1), some (.int x5), some (.int x6), some (.int x7)] from ⟨rfl, ⟨rfl, ⟨rfl, ⟨rfl, ⟨rfl, ⟨rfl, trivial⟩⟩⟩⟩⟩⟩) (zyC237_117 hk23 h)
  · replace h := zy_ifn h b7
    refine zy_0 rfl rfl (show zyR _ _ _ _ [some (.ref (43 + 3)), some (.int x1), some (.int x2), some (.int x3), some (.int x4), some (.int x5), some (.int x6), some (.int x7)] [.ref (43 + 3)] _ _ from ?_)
    refine zy_3 rfl rfl (show zyR _ _ _ _ [some (.ref (43 + 3)), some (.int x1), some (.int x2), some (.int x3), some (.int x4), some (.int x5), some (.int x6), some (.int x7)] [.int (4 : Int32), .ref (43 + 3)] _ _ from ?_)
    refine zy_2 rfl rfl (show zyR _ _ _ _ [some (.ref (43 + 3)), some (.int x1), some (.int x2), some (.int x3), some (.int x4), some (.int x5), some (.int x6), some (.int x7)] [.int x5, .int (4 : Int32), .ref (43 + 3)] _ _ from ?_)
    refine zy_12 rfl (show zyR _ _ _ _ [some (.ref (43 + 3)), some (.int x1), some (.int x2), some (.int x3), some (.int x4), some (.int x5), some (.int x6), some (.int x7)] [.int ((4 : Int32) * x5), .ref (43 + 3)] _ _ from ?_)
    refine zy_2 rfl rfl (show zyR _ _ _ _ [some (.ref (43 + 3)), some (.int x1), some (.int x2), some (.int x3), some (.int x4), some (.int x5), some (.int x6), some (.int x7)] [.int x7, .int ((4 : Int32) * x5), .ref (43 + 3)] _ _ from ?_)
    refine zy_10 rfl (show zyR _ _ _ _ [some (.ref (43 + 3)), some (.int x1), some (.int x2), some (.int x3), some (.int x4), some (.int x5), some (.int x6), some (.int x7)] [.int (((4 : Int32) * x5) + x7), .ref (43 + 3)] _ _ from ?_)
    obtain ⟨p4, hp4, h⟩ := zy_bind h
    refine zy_5 (c := 43) (as := [.int (((4 : Int32) * x5) + x7)]) (rest := []) (L := [some (.ref (43 + 3)), some (.int (((4 : Int32) * x5) + x7)), none, none]) (d' := 4) rfl rfl rfl (Nat.le_of_ble_eq_true rfl) (Nat.le_of_ble_eq_true rfl) rfl (Nat.le_of_ble_eq_true rfl) rfl rfl (zyC238 hp4) ?_
    show zyR _ _ _ _ [some (.ref (43 + 3)), some (.int x1), some (.int x2), some (.int x3), some (.int x4), some (.int x5), some (.int x6), some (.int x7)] [.int p4.1] _ _
    refine zy_0 rfl rfl (show zyR _ _ _ _ [some (.ref (43 + 3)), some (.int x1), some (.int x2), some (.int x3), some (.int x4), some (.int x5), some (.int x6), some (.int x7)] [.ref (43 + 3), .int p4.1] _ _ from ?_)
    refine zy_3 rfl rfl (show zyR _ _ _ _ [some (.ref (43 + 3)), some (.int x1), some (.int x2), some (.int x3), some (.int x4), some (.int x5), some (.int x6), some (.int x7)] [.int (4 : Int32), .ref (43 + 3), .int p4.1] _ _ from ?_)
    refine zy_2 rfl rfl (show zyR _ _ _ _ [some (.ref (43 + 3)), some (.int x1), some (.int x2), some (.int x3), some (.int x4), some (.int x5), some (.int x6), some (.int x7)] [.int x5, .int (4 : Int32), .ref (43 + 3), .int p4.1] _ _ from ?_)
    refine zy_12 rfl (show zyR _ _ _ _ [some (.ref (43 + 3)), some (.int x1), some (.int x2), some (.int x3), some (.int x4), some (.int x5), some (.int x6), some (.int x7)] [.int ((4 : Int32) * x5), .ref (43 + 3), .int p4.1] _ _ from ?_)
    refine zy_2 rfl rfl (show zyR _ _ _ _ [some (.ref (43 + 3)), some (.int x1), some (.int x2), some (.int x3), some (.int x4), some (.int x5), some (.int x6), some (.int x7)] [.int x6, .int ((4 : Int32) * x5), .ref (43 + 3), .int p4.1] _ _ from ?_)
    refine zy_10 rfl (show zyR _ _ _ _ [some (.ref (43 + 3)), some (.int x1), some (.int x2), some (.int x3), some (.int x4), some (.int x5), some (.int x6), some (.int x7)] [.int (((4 : Int32) * x5) + x6), .ref (43 + 3), .int p4.1] _ _ from ?_)
    obtain ⟨p5, hp5, h⟩ := zy_bind h
    refine zy_5 (c := 43) (as := [.int (((4 : Int32) * x5) + x6)]) (rest := [.int p4.1]) (L := [some (.ref (43 + 3)), some (.int (((4 : Int32) * x5) + x6)), none, none]) (d' := 4) rfl rfl rfl (Nat.le_of_ble_eq_true rfl) (Nat.le_of_ble_eq_true rfl) rfl (Nat.le_of_ble_eq_true rfl) rfl rfl (zyC238 hp5) ?_
    show zyR _ _ _ _ [some (.ref (43 + 3)), some (.int x1), some (.int x2), some (.int x3), some (.int x4), some (.int x5), some (.int x6), some (.int x7)] [.int p5.1, .int p4.1] _ _
    refine zy_25_5 rfl (fun b6 => (show zyR _ _ _ _ [some (.ref (43 + 3)), some (.int x1), some (.int x2), some (.int x3), some (.int x4), some (.int x5), some (.int x6), some (.int x7)] [] _ _ from ?_)) (fun b6 => (show zyR _ _ _ _ [some (.ref (43 + 3)), some (.int x1), some (.int x2), some (.int x3), some (.int x4), some (.int x5), some (.int x6), some (.int x7)] [] _ _ from ?_))
    · replace h := zy_ifp h b6
      refine zy_2 rfl rfl (show zyR _ _ _ _ [some (.ref (43 + 3)), some (.int x1), some (.int x2), some (.int x3), some (.int x4), some (.int x5), some (.int x6), some (.int x7)] [.int x6] _ _ from ?_)
      exact zy_sub (show zy_le [some (.ref (43 + 3)), some (.int x1), some (.int x2), some (.int x3), some (.int x4), some (.int x5), none, some (.int x7)] [some (.ref (43 + 3)), some (.int x1), some (.int x2), some (.int x3), some (.int x4), some (.int x5), some (.int x6), some (.int x7)] from ⟨rfl, ⟨rfl, ⟨rfl, ⟨rfl, ⟨rfl, ⟨rfl, ⟨rfl, trivial⟩⟩⟩⟩⟩⟩⟩) (zyC237_74 hk23 hk36 h)
    · replace h := zy_ifn h b6
      refine zy_2 rfl rfl (show zyR _ _ _ _ [some (.ref (43 + 3)), some (.int x1), some (.int x2), some (.int x3), some (.int x4), some (.int x5), some (.int x6), some (.int x7)] [.int x7] _ _ from ?_)
      refine zy_6 rfl (show zyR _ _ _ _ [some (.ref (43 + 3)), some (.int x1), some (.int x2), some (.int x3), some (.int x4), some (.int x5), some (.int x6), some (.int x7)] [.int x7] _ _ from ?_)
      exact zy_sub (show zy_le [some (.ref (43 + 3)), some (.int x1), some (.int x2), some (.int x3), some (.int x4), some (.int x5), none, some (.int x7)] [some (.ref (43 + 3)), some (.int x1), some (.int x2), some (.int x3), some (.int x4), some (.int x5), some (.int x6), some (.int x7)] from ⟨rfl, ⟨rfl, ⟨rfl, ⟨rfl, ⟨rfl, ⟨rfl, ⟨rfl, trivial⟩⟩⟩⟩⟩⟩⟩) (zyC237_74 hk23 hk36 h)
noncomputable def zyF237_36  (k23 : Int32 → Int32 → Int32 → Int32 → Int32 → zy_S → Option (Int32 × zy_S)) (n : Nat) : Int32 → Int32 → Int32 → Int32 → Int32 → Int32 → Int32 → zy_S → Option (Int32 × zy_S) := Nat.rec (fun _ _ _ _ _ _ _ _ => none) (fun _ k36 => zyF237_36b k23 k36) n
theorem zyC237_36 {X : zx_X}  {k23 : Int32 → Int32 → Int32 → Int32 → Int32 → zy_S → Option (Int32 × zy_S)}  (hk23 : ∀ (x1 : Int32) (x2 : Int32) (x3 : Int32) (x4 : Int32) (x5 : Int32) (s : zy_S) (r : Int32) (s' : zy_S), k23 x1 x2 x3 x4 x5 s = some (r, s') → zyR X 5 237 23 [some (.ref (43 + 3)), some (.int x1), some (.int x2), some (.int x3), some (.int x4), some (.int x5), none, none] [] s (zyE (some (.int r)) s')) : ∀ (n : Nat) (x1 : Int32) (x2 : Int32) (x3 : Int32) (x4 : Int32) (x5 : Int32) (x6 : Int32) (x7 : Int32) (s : zy_S) (r : Int32) (s' : zy_S), zyF237_36 k23 n x1 x2 x3 x4 x5 x6 x7 s = some (r, s') → zyR X 5 237 36 [some (.ref (43 + 3)), some (.int x1), some (.int x2), some (.int x3), some (.int x4), some (.int x5), some (.int x6), some (.int x7)] [] s (zyE (some (.int r)) s')
  | 0, _, _, _, _, _, _, _ => by
    intro s r s'  h
    have h : (none : Option (Int32 × zy_S)) = some (r, s') := h
    cases h
  | n + 1, x1, x2, x3, x4, x5, x6, x7 => by
    intro s r s'  h
    exact zyC237_36b (k36 := zyF237_36 k23 n) hk23 (fun x1 x2 x3 x4 x5 x6 x7 s r s'  h => zyC237_36 hk23 n x1 x2 x3 x4 x5 x6 x7 s r s'  h) h
noncomputable def zyF237_23b  (k23 : Int32 → Int32 → Int32 → Int32 → Int32 → zy_S → Option (Int32 × zy_S)) (x1 : Int32) (x2 : Int32) (x3 : Int32) (x4 : Int32) (x5 : Int32) (s : zy_S) : Option (Int32 × zy_S) :=
if (6 : Int32) ≤ x5 then
if x1 ≠ 0 then
some (x3, s)
else
some (x2, s)
else
zyF237_36 k23 zy_fu x1 x2 x3 x4 x5 (0 : Int32) (1 : Int32) s
theorem zyC237_23b {X : zx_X}  {k23 : Int32 → Int32 → Int32 → Int32 → Int32 → zy_S → Option (Int32 × zy_S)}  (hk23 : ∀ (x1 : Int32) (x2 : Int32) (x3 : Int32) (x4 : Int32) (x5 : Int32) (s : zy_S) (r : Int32) (s' : zy_S), k23 x1 x2 x3 x4 x5 s = some (r, s') → zyR X 5 237 23 [some (.ref (43 + 3)), some (.int x1), some (.int x2), some (.int x3), some (.int x4), some (.int x5), none, none] [] s (zyE (some (.int r)) s')) {x1 : Int32} {x2 : Int32} {x3 : Int32} {x4 : Int32} {x5 : Int32} {s : zy_S} {r : Int32} {s' : zy_S}  (h : zyF237_23b k23 x1 x2 x3 x4 x5 s = some (r, s')) : zyR X 5 237 23 [some (.ref (43 + 3)), some (.int x1), some (.int x2), some (.int x3), some (.int x4), some (.int x5), none, none] [] s (zyE (some (.int r)) s') := by
  unfold zyF237_23b at h
  refine zy_2 rfl rfl (show zyR _ _ _ _ [some (.ref (43 + 3)), some (.int x1), some (.int x2), some (.int x3), some (.int x4), some (.int x5), none, none] [.int x5] _ _ from ?_)
  refine zy_3 rfl rfl (show zyR _ _ _ _ [some (.ref (43 + 3)), some (.int x1), some (.int x2), some (.int x3), some (.int x4), some (.int x5), none, none] [.int (6 : Int32), .int x5] _ _ from ?_)
  refine zy_25_3 rfl (fun b9 => (show zyR _ _ _ _ [some (.ref (43 + 3)), some (.int x1), some (.int x2), some (.int x3), some (.int x4), some (.int x5), none, none] [] _ _ from ?_)) (fun b9 => (show zyR _ _ _ _ [some (.ref (43 + 3)), some (.int x1), some (.int x2), some (.int x3), some (.int x4), some (.int x5), none, none] [] _ _ from ?_))
  · replace h := zy_ifp h b9
    refine zy_2 rfl rfl (show zyR _ _ _ _ [some (.ref (43 + 3)), some (.int x1), some (.int x2), some (.int x3), some (.int x4), some (.int x5), none, none] [.int x1] _ _ from ?_)
    refine zy_24_1 rfl (fun b8 => (show zyR _ _ _ _ [some (.ref (43 + 3)), some (.int x1), some (.int x2), some (.int x3), some (.int x4), some (.int x5), none, none] [] _ _ from ?_)) (fun b8 => (show zyR _ _ _ _ [some (.ref (43 + 3)), some (.int x1), some (.int x2), some (.int x3), some (.int x4), some (.int x5), none, none] [] _ _ from ?_))
    · replace h := zy_ifp h b8
      refine zy_2 rfl rfl (show zyR _ _ _ _ [some (.ref (43 + 3)), some (.int x1), some (.int x2), some (.int x3), some (.int x4), some (.int x5), none, none] [.int x3] _ _ from ?_)
      obtain ⟨rfl, rfl⟩ := zy_pi h
      exact zy_4 rfl ⟨rfl, rfl⟩
    · replace h := zy_ifn h b8
      refine zy_2 rfl rfl (show zyR _ _ _ _ [some (.ref (43 + 3)), some (.int x1), some (.int x2), some (.int x3), some (.int x4), some (.int x5), none, none] [.int x2] _ _ from ?_)
      refine zy_6 rfl (show zyR _ _ _ _ [some (.ref (43 + 3)), some (.int x1), some (.int x2), some (.int x3), some (.int x4), some (.int x5), none, none] [.int x2] _ _ from ?_)
      obtain ⟨rfl, rfl⟩ := zy_pi h
      exact zy_4 rfl ⟨rfl, rfl⟩
  · replace h := zy_ifn h b9
    refine zy_3 rfl rfl (show zyR _ _ _ _ [some (.ref (43 + 3)), some (.int x1), some (.int x2), some (.int x3), some (.int x4), some (.int x5), none, none] [.int (0 : Int32)] _ _ from ?_)
    refine zy_23 rfl rfl (show zyR _ _ _ _ [some (.ref (43 + 3)), some (.int x1), some (.int x2), some (.int x3), some (.int x4), some (.int x5), some (.int (0 : Int32)), none] [] _ _ from ?_)
    refine zy_3 rfl rfl (show zyR _ _ _ _ [some (.ref (43 + 3)), some (.int x1), some (.int x2), some (.int x3), some (.int x4), some (.int x5), some (.int (0 : Int32)), none] [.int (1 : Int32)] _ _ from ?_)
    refine zy_23 rfl rfl (show zyR _ _ _ _ [some (.ref (43 + 3)), some (.int x1), some (.int x2), some (.int x3), some (.int x4), some (.int x5), some (.int (0 : Int32)), some (.int (1 : Int32))] [] _ _ from ?_)
    exact zy_sub (show zy_le [some (.ref (43 + 3)), some (.int x1), some (.int x2), some (.int x3), some (.int x4), some (.int x5), some (.int (0 : Int32)), some (.int (1 : Int32))] [some (.ref (43 + 3)), some (.int x1), some (.int x2), some (.int x3), some (.int x4), some (.int x5), some (.int (0 : Int32)), some (.int (1 : Int32))] from ⟨rfl, ⟨rfl, ⟨rfl, ⟨rfl, ⟨rfl, ⟨rfl, ⟨rfl, ⟨rfl, trivial⟩⟩⟩⟩⟩⟩⟩⟩) (zyC237_36 hk23 zy_fu x1 x2 x3 x4 x5 (0 : Int32) (1 : Int32) s _ _ h)
noncomputable def zyF237_23   (n : Nat) : Int32 → Int32 → Int32 → Int32 → Int32 → zy_S → Option (Int32 × zy_S) := Nat.rec (fun _ _ _ _ _ _ => none) (fun _ k23 => zyF237_23b k23) n
theorem zyC237_23 {X : zx_X}     : ∀ (n : Nat) (x1 : Int32) (x2 : Int32) (x3 : Int32) (x4 : Int32) (x5 : Int32) (s : zy_S) (r : Int32) (s' : zy_S), zyF237_23 n x1 x2 x3 x4 x5 s = some (r, s') → zyR X 5 237 23 [some (.ref (43 + 3)), some (.int x1), some (.int x2), some (.int x3), some (.int x4), some (.int x5), none, none] [] s (zyE (some (.int r)) s')
  | 0, _, _, _, _, _ => by
    intro s r s'  h
    have h : (none : Option (Int32 × zy_S)) = some (r, s') := h
    cases h
  | n + 1, x1, x2, x3, x4, x5 => by
    intro s r s'  h
    exact zyC237_23b (k23 := zyF237_23 n) (fun x1 x2 x3 x4 x5 s r s'  h => zyC237_23  n x1 x2 x3 x4 x5 s r s'  h) h
noncomputable def zyF237   (x1 : Int32) (s : zy_S) : Option (Int32 × zy_S) :=
(zyF179 (x1).toInt64 (0 : Int64) (1 : Int64) s).bind fun p10 =>
if p10.1 ≠ 0 then
zyF237_23 zy_fu x1 (0 : Int32) (0 : Int32) (1000000 : Int32) (0 : Int32) p10.2
else
some ((-1 : Int32), p10.2)
theorem zyC237 {X : zx_X}     {x1 : Int32} {s : zy_S} {r : Int32} {s' : zy_S}  (h : zyF237 x1 s = some (r, s')) : zyR X 5 237 0 [some (.ref (43 + 3)), some (.int x1), none, none, none, none, none, none] [] s (zyE (some (.int r)) s') := by
  unfold zyF237 at h
  refine zy_2 rfl rfl (show zyR _ _ _ _ [some (.ref (43 + 3)), some (.int x1), none, none, none, none, none, none] [.int x1] _ _ from ?_)
  refine zy_40 rfl (show zyR _ _ _ _ [some (.ref (43 + 3)), some (.int x1), none, none, none, none, none, none] [.long (x1).toInt64] _ _ from ?_)
  refine zy_36 rfl rfl (show zyR _ _ _ _ [some (.ref (43 + 3)), some (.int x1), none, none, none, none, none, none] [.long (0 : Int64), .long (x1).toInt64] _ _ from ?_)
  refine zy_36 rfl rfl (show zyR _ _ _ _ [some (.ref (43 + 3)), some (.int x1), none, none, none, none, none, none] [.long (1 : Int64), .long (0 : Int64), .long (x1).toInt64] _ _ from ?_)
  obtain ⟨p10, hp10, h⟩ := zy_bind h
  refine zy_60 (as := [.long (x1).toInt64, .long (0 : Int64), .long (1 : Int64)]) (rest := []) (L := [some (.long (x1).toInt64), none, some (.long (0 : Int64)), none, some (.long (1 : Int64)), none]) (d' := 1) rfl rfl (Nat.le_of_ble_eq_true rfl) (Nat.le_of_ble_eq_true rfl) rfl (Nat.le_of_ble_eq_true rfl) rfl rfl (zyC179 hp10) ?_
  show zyR _ _ _ _ [some (.ref (43 + 3)), some (.int x1), none, none, none, none, none, none] [.int p10.1] _ _
  refine zy_24_1 rfl (fun b11 => (show zyR _ _ _ _ [some (.ref (43 + 3)), some (.int x1), none, none, none, none, none, none] [] _ _ from ?_)) (fun b11 => (show zyR _ _ _ _ [some (.ref (43 + 3)), some (.int x1), none, none, none, none, none, none] [] _ _ from ?_))
  · replace h := zy_ifp h b11
    refine zy_3 rfl rfl (show zyR _ _ _ _ [some (.ref (43 + 3)), some (.int x1), none, none, none, none, none, none] [.int (0 : Int32)] _ _ from ?_)
    refine zy_23 rfl rfl (show zyR _ _ _ _ [some (.ref (43 + 3)), some (.int x1), some (.int (0 : Int32)), none, none, none, none, none] [] _ _ from ?_)
    refine zy_3 rfl rfl (show zyR _ _ _ _ [some (.ref (43 + 3)), some (.int x1), some (.int (0 : Int32)), none, none, none, none, none] [.int (0 : Int32)] _ _ from ?_)
    refine zy_23 rfl rfl (show zyR _ _ _ _ [some (.ref (43 + 3)), some (.int x1), some (.int (0 : Int32)), some (.int (0 : Int32)), none, none, none, none] [] _ _ from ?_)
    refine zy_3c rfl rfl (show zyR _ _ _ _ [some (.ref (43 + 3)), some (.int x1), some (.int (0 : Int32)), some (.int (0 : Int32)), none, none, none, none] [.int (1000000 : Int32)] _ _ from ?_)
    refine zy_23 rfl rfl (show zyR _ _ _ _ [some (.ref (43 + 3)), some (.int x1), some (.int (0 : Int32)), some (.int (0 : Int32)), some (.int (1000000 : Int32)), none, none, none] [] _ _ from ?_)
    refine zy_3 rfl rfl (show zyR _ _ _ _ [some (.ref (43 + 3)), some (.int x1), some (.int (0 : Int32)), some (.int (0 : Int32)), some (.int (1000000 : Int32)), none, none, none] [.int (0 : Int32)] _ _ from ?_)
    refine zy_23 rfl rfl (show zyR _ _ _ _ [some (.ref (43 + 3)), some (.int x1), some (.int (0 : Int32)), some (.int (0 : Int32)), some (.int (1000000 : Int32)), some (.int (0 : Int32)), none, none] [] _ _ from ?_)
    exact zy_sub (show zy_le [some (.ref (43 + 3)), some (.int x1), some (.int (0 : Int32)), some (.int (0 : Int32)), some (.int (1000000 : Int32)), some (.int (0 : Int32)), none, none] [some (.ref (43 + 3)), some (.int x1), some (.int (0 : Int32)), some (.int (0 : Int32)), some (.int (1000000 : Int32)), some (.int (0 : Int32)), none, none] from ⟨rfl, ⟨rfl, ⟨rfl, ⟨rfl, ⟨rfl, ⟨rfl, trivial⟩⟩⟩⟩⟩⟩) (zyC237_23 zy_fu x1 (0 : Int32) (0 : Int32) (1000000 : Int32) (0 : Int32) p10.2 _ _ h)
  · replace h := zy_ifn h b11
    refine zy_3 rfl rfl (show zyR _ _ _ _ [some (.ref (43 + 3)), some (.int x1), none, none, none, none, none, none] [.int (-1 : Int32)] _ _ from ?_)
    obtain ⟨rfl, rfl⟩ := zy_pi h
    exact zy_4 rfl ⟨rfl, rfl⟩
/-! NineOpinions$Town.everybody()I -/
noncomputable def zyF51    (s : zy_S) : Option (Int32 × zy_S) :=
some ((((1 : Int32) <<< ((s.1 1 5) &&& 31)) - (1 : Int32)), s)
theorem zyC51 {X : zx_X}      {s : zy_S} {r : Int32} {s' : zy_S}  (h : zyF51 s = some (r, s')) : zyR X 1 51 0 [some (.ref (1 + 3))] [] s (zyE (some (.int r)) s') := by
  unfold zyF51 at h
  refine zy_3 rfl rfl (show zyR _ _ _ _ [some (.ref (1 + 3))] [.int (1 : Int32)] _ _ from ?_)
  refine zy_0 rfl rfl (show zyR _ _ _ _ [some (.ref (1 + 3))] [.ref (1 + 3), .int (1 : Int32)] _ _ from ?_)
  refine zy_1 (c := 1) rfl rfl rfl (show zyR _ _ _ _ [some (.ref (1 + 3))] [.int (s.1 1 5), .int (1 : Int32)] _ _ from ?_)
  refine zy_16 rfl (show zyR _ _ _ _ [some (.ref (1 + 3))] [.int ((1 : Int32) <<< ((s.1 1 5) &&& 31))] _ _ from ?_)
  refine zy_3 rfl rfl (show zyR _ _ _ _ [some (.ref (1 + 3))] [.int (1 : Int32), .int ((1 : Int32) <<< ((s.1 1 5) &&& 31))] _ _ from ?_)
  refine zy_11 rfl (show zyR _ _ _ _ [some (.ref (1 + 3))] [.int (((1 : Int32) <<< ((s.1 1 5) &&& 31)) - (1 : Int32))] _ _ from ?_)
  obtain ⟨rfl, rfl⟩ := zy_pi h
  exact zy_4 rfl ⟨rfl, rfl⟩
/-! NineOpinions$Votes.haveMoreThanHalf(I)Z -/
noncomputable def zyF97   (x1 : Int32) (s : zy_S) : Option (Int32 × zy_S) :=
(zyF98 x1 s).bind fun p1 =>
(zyF51 p1.2).bind fun p2 =>
(zyF98 p2.1 p2.2).bind fun p3 =>
if ((2 : Int32) * p1.1) ≤ p3.1 then
some ((0 : Int32), p3.2)
else
some ((1 : Int32), p3.2)
theorem zyC97 {X : zx_X}     {x1 : Int32} {s : zy_S} {r : Int32} {s' : zy_S}  (h : zyF97 x1 s = some (r, s')) : zyR X 3 97 0 [some (.ref (16 + 3)), some (.int x1)] [] s (zyE (some (.int r)) s') := by
  unfold zyF97 at h
  refine zy_3 rfl rfl (show zyR _ _ _ _ [some (.ref (16 + 3)), some (.int x1)] [.int (2 : Int32)] _ _ from ?_)
  refine zy_0 rfl rfl (show zyR _ _ _ _ [some (.ref (16 + 3)), some (.int x1)] [.ref (16 + 3), .int (2 : Int32)] _ _ from ?_)
  refine zy_2 rfl rfl (show zyR _ _ _ _ [some (.ref (16 + 3)), some (.int x1)] [.int x1, .ref (16 + 3), .int (2 : Int32)] _ _ from ?_)
  obtain ⟨p1, hp1, h⟩ := zy_bind h
  refine zy_5 (c := 16) (as := [.int x1]) (rest := [.int (2 : Int32)]) (L := [some (.ref (16 + 3)), some (.int x1), none, none]) (d' := 2) rfl rfl rfl (Nat.le_of_ble_eq_true rfl) (Nat.le_of_ble_eq_true rfl) rfl (Nat.le_of_ble_eq_true rfl) rfl rfl (zyC98 hp1) ?_
  show zyR _ _ _ _ [some (.ref (16 + 3)), some (.int x1)] [.int p1.1, .int (2 : Int32)] _ _
  refine zy_12 rfl (show zyR _ _ _ _ [some (.ref (16 + 3)), some (.int x1)] [.int ((2 : Int32) * p1.1)] _ _ from ?_)
  refine zy_0 rfl rfl (show zyR _ _ _ _ [some (.ref (16 + 3)), some (.int x1)] [.ref (16 + 3), .int ((2 : Int32) * p1.1)] _ _ from ?_)
  refine zy_0 rfl rfl (show zyR _ _ _ _ [some (.ref (16 + 3)), some (.int x1)] [.ref (16 + 3), .ref (16 + 3), .int ((2 : Int32) * p1.1)] _ _ from ?_)
  refine zy_1r (c := 16) rfl rfl rfl (show zyR _ _ _ _ [some (.ref (16 + 3)), some (.int x1)] [.ref (1 + 3), .ref (16 + 3), .int ((2 : Int32) * p1.1)] _ _ from ?_)
  obtain ⟨p2, hp2, h⟩ := zy_bind h
  refine zy_5 (c := 1) (as := []) (rest := [.ref (16 + 3), .int ((2 : Int32) * p1.1)]) (L := [some (.ref (1 + 3))]) (d' := 1) rfl rfl rfl (Nat.le_of_ble_eq_true rfl) (Nat.le_of_ble_eq_true rfl) rfl (Nat.le_of_ble_eq_true rfl) rfl rfl (zyC51 hp2) ?_
  show zyR _ _ _ _ [some (.ref (16 + 3)), some (.int x1)] [.int p2.1, .ref (16 + 3), .int ((2 : Int32) * p1.1)] _ _
  obtain ⟨p3, hp3, h⟩ := zy_bind h
  refine zy_5 (c := 16) (as := [.int p2.1]) (rest := [.int ((2 : Int32) * p1.1)]) (L := [some (.ref (16 + 3)), some (.int p2.1), none, none]) (d' := 2) rfl rfl rfl (Nat.le_of_ble_eq_true rfl) (Nat.le_of_ble_eq_true rfl) rfl (Nat.le_of_ble_eq_true rfl) rfl rfl (zyC98 hp3) ?_
  show zyR _ _ _ _ [some (.ref (16 + 3)), some (.int x1)] [.int p3.1, .int ((2 : Int32) * p1.1)] _ _
  refine zy_25_5 rfl (fun b4 => (show zyR _ _ _ _ [some (.ref (16 + 3)), some (.int x1)] [] _ _ from ?_)) (fun b4 => (show zyR _ _ _ _ [some (.ref (16 + 3)), some (.int x1)] [] _ _ from ?_))
  · replace h := zy_ifp h b4
    refine zy_3 rfl rfl (show zyR _ _ _ _ [some (.ref (16 + 3)), some (.int x1)] [.int (0 : Int32)] _ _ from ?_)
    cases h
    exact zy_4b rfl ⟨rfl, rfl⟩ (Or.inl rfl)
  · replace h := zy_ifn h b4
    refine zy_3 rfl rfl (show zyR _ _ _ _ [some (.ref (16 + 3)), some (.int x1)] [.int (1 : Int32)] _ _ from ?_)
    refine zy_6 rfl (show zyR _ _ _ _ [some (.ref (16 + 3)), some (.int x1)] [.int (1 : Int32)] _ _ from ?_)
    cases h
    exact zy_4b rfl ⟨rfl, rfl⟩ (Or.inr rfl)
