/-! more methods as functions. Made by wip/v4/dcp.py. -/
/-! java/lang/Math.abs(I)I -/
noncomputable def zyF62   (x0 : Int32) (s : zy_S) : Option (Int32 × zy_S) :=
if 0 ≤ x0 then
some (x0, s)
else
some ((-x0), s)
theorem zyC62 {X : zx_X}     {x0 : Int32} {s : zy_S} {r : Int32} {s' : zy_S}  (h : zyF62 x0 s = some (r, s')) : zyR X 1 62 0 [some (.int x0)] [] s (zyE (some (.int r)) s') := by
  unfold zyF62 at h
  refine zy_2 rfl rfl (show zyR _ _ _ _ [some (.int x0)] [.int x0] _ _ from ?_)
  refine zy_24_3 rfl (fun b1 => (show zyR _ _ _ _ [some (.int x0)] [] _ _ from ?_)) (fun b1 => (show zyR _ _ _ _ [some (.int x0)] [] _ _ from ?_))
  · replace h := zy_ifp h b1
    refine zy_2 rfl rfl (show zyR _ _ _ _ [some (.int x0)] [.int x0] _ _ from ?_)
    cases h
    exact zy_4 rfl ⟨rfl, rfl⟩
  · replace h := zy_ifn h b1
    refine zy_2 rfl rfl (show zyR _ _ _ _ [some (.int x0)] [.int x0] _ _ from ?_)
    refine zy_21 rfl (show zyR _ _ _ _ [some (.int x0)] [.int (-x0)] _ _ from ?_)
    refine zy_6 rfl (show zyR _ _ _ _ [some (.int x0)] [.int (-x0)] _ _ from ?_)
    cases h
    exact zy_4 rfl ⟨rfl, rfl⟩
/-! NineOpinions$Votes.apartOn(III)I -/
noncomputable def zyF121   (x1 : Int32) (x2 : Int32) (x3 : Int32) (s : zy_S) : Option (Int32 × zy_S) :=
if zy_in x2 8 then
(zyF60 (s.1 3 (x2).toNatClampNeg) x1 s).bind fun p2 =>
if zy_in x3 8 then
(zyF60 (p2.2.1 3 (x3).toNatClampNeg) x1 p2.2).bind fun p4 =>
(zyF62 (p2.1 - p4.1) p4.2).bind fun p5 =>
some (p5.1, p5.2)
else none
else none
theorem zyC121 {X : zx_X}     {x1 : Int32} {x2 : Int32} {x3 : Int32} {s : zy_S} {r : Int32} {s' : zy_S}  (h : zyF121 x1 x2 x3 s = some (r, s')) : zyR X 2 121 0 [some (.ref (16 + 3)), some (.int x1), some (.int x2), some (.int x3)] [] s (zyE (some (.int r)) s') := by
  unfold zyF121 at h
  refine zy_0 rfl rfl (show zyR _ _ _ _ [some (.ref (16 + 3)), some (.int x1), some (.int x2), some (.int x3)] [.ref (16 + 3)] _ _ from ?_)
  refine zy_1r (c := 16) rfl rfl rfl (show zyR _ _ _ _ [some (.ref (16 + 3)), some (.int x1), some (.int x2), some (.int x3)] [.ref (1 + 3)] _ _ from ?_)
  refine zy_1r (c := 1) rfl rfl rfl (show zyR _ _ _ _ [some (.ref (16 + 3)), some (.int x1), some (.int x2), some (.int x3)] [.ref (3 + 3)] _ _ from ?_)
  refine zy_2 rfl rfl (show zyR _ _ _ _ [some (.ref (16 + 3)), some (.int x1), some (.int x2), some (.int x3)] [.int x2, .ref (3 + 3)] _ _ from ?_)
  obtain ⟨c1, h⟩ := zy_if h
  refine zy_26 (c := 3) rfl rfl c1 (show zyR _ _ _ _ [some (.ref (16 + 3)), some (.int x1), some (.int x2), some (.int x3)] [.int (s.1 3 (x2).toNatClampNeg)] _ _ from ?_)
  refine zy_2 rfl rfl (show zyR _ _ _ _ [some (.ref (16 + 3)), some (.int x1), some (.int x2), some (.int x3)] [.int x1, .int (s.1 3 (x2).toNatClampNeg)] _ _ from ?_)
  obtain ⟨p2, hp2, h⟩ := zy_bind h
  refine zy_61 (as := [.int (s.1 3 (x2).toNatClampNeg), .int x1]) (rest := []) (L := [some (.int (s.1 3 (x2).toNatClampNeg)), some (.int x1)]) (d' := 1) rfl rfl (Nat.le_of_ble_eq_true rfl) (Nat.le_of_ble_eq_true rfl) rfl (Nat.le_of_ble_eq_true rfl) rfl rfl (zyC60 hp2) ?_
  show zyR _ _ _ _ [some (.ref (16 + 3)), some (.int x1), some (.int x2), some (.int x3)] [.int p2.1] _ _
  refine zy_0 rfl rfl (show zyR _ _ _ _ [some (.ref (16 + 3)), some (.int x1), some (.int x2), some (.int x3)] [.ref (16 + 3), .int p2.1] _ _ from ?_)
  refine zy_1r (c := 16) rfl rfl rfl (show zyR _ _ _ _ [some (.ref (16 + 3)), some (.int x1), some (.int x2), some (.int x3)] [.ref (1 + 3), .int p2.1] _ _ from ?_)
  refine zy_1r (c := 1) rfl rfl rfl (show zyR _ _ _ _ [some (.ref (16 + 3)), some (.int x1), some (.int x2), some (.int x3)] [.ref (3 + 3), .int p2.1] _ _ from ?_)
  refine zy_2 rfl rfl (show zyR _ _ _ _ [some (.ref (16 + 3)), some (.int x1), some (.int x2), some (.int x3)] [.int x3, .ref (3 + 3), .int p2.1] _ _ from ?_)
  obtain ⟨c3, h⟩ := zy_if h
  refine zy_26 (c := 3) rfl rfl c3 (show zyR _ _ _ _ [some (.ref (16 + 3)), some (.int x1), some (.int x2), some (.int x3)] [.int (p2.2.1 3 (x3).toNatClampNeg), .int p2.1] _ _ from ?_)
  refine zy_2 rfl rfl (show zyR _ _ _ _ [some (.ref (16 + 3)), some (.int x1), some (.int x2), some (.int x3)] [.int x1, .int (p2.2.1 3 (x3).toNatClampNeg), .int p2.1] _ _ from ?_)
  obtain ⟨p4, hp4, h⟩ := zy_bind h
  refine zy_61 (as := [.int (p2.2.1 3 (x3).toNatClampNeg), .int x1]) (rest := [.int p2.1]) (L := [some (.int (p2.2.1 3 (x3).toNatClampNeg)), some (.int x1)]) (d' := 1) rfl rfl (Nat.le_of_ble_eq_true rfl) (Nat.le_of_ble_eq_true rfl) rfl (Nat.le_of_ble_eq_true rfl) rfl rfl (zyC60 hp4) ?_
  show zyR _ _ _ _ [some (.ref (16 + 3)), some (.int x1), some (.int x2), some (.int x3)] [.int p4.1, .int p2.1] _ _
  refine zy_11 rfl (show zyR _ _ _ _ [some (.ref (16 + 3)), some (.int x1), some (.int x2), some (.int x3)] [.int (p2.1 - p4.1)] _ _ from ?_)
  obtain ⟨p5, hp5, h⟩ := zy_bind h
  refine zy_60 (as := [.int (p2.1 - p4.1)]) (rest := []) (L := [some (.int (p2.1 - p4.1))]) (d' := 1) rfl rfl (Nat.le_of_ble_eq_true rfl) (Nat.le_of_ble_eq_true rfl) rfl (Nat.le_of_ble_eq_true rfl) rfl rfl (zyC62 hp5) ?_
  show zyR _ _ _ _ [some (.ref (16 + 3)), some (.int x1), some (.int x2), some (.int x3)] [.int p5.1] _ _
  cases h
  exact zy_4 rfl ⟨rfl, rfl⟩
/-! NineOpinions$Votes.sameViews(II)I -/
noncomputable def zyF120_29  (k5 : Int32 → Int32 → Int32 → Int32 → zy_S → Option (Int32 × zy_S)) (x1 : Int32) (x2 : Int32) (x4 : Int32) (y0 : Int32) (y1 : Int32) (s : zy_S) : Option (Int32 × zy_S) :=
k5 x1 x2 (y1 + y0) (x4 + (1 : Int32)) s
theorem zyC120_29 {X : zx_X}  {k5 : Int32 → Int32 → Int32 → Int32 → zy_S → Option (Int32 × zy_S)}  (hk5 : ∀ (x1 : Int32) (x2 : Int32) (x3 : Int32) (x4 : Int32) (s : zy_S) (r : Int32) (s' : zy_S), k5 x1 x2 x3 x4 s = some (r, s') → zyR X 3 120 5 [some (.ref (16 + 3)), some (.int x1), some (.int x2), some (.int x3), some (.int x4)] [] s (zyE (some (.int r)) s')) {x1 : Int32} {x2 : Int32} {x4 : Int32} {y0 : Int32} {y1 : Int32} {s : zy_S} {r : Int32} {s' : zy_S}  (h : zyF120_29 k5 x1 x2 x4 y0 y1 s = some (r, s')) : zyR X 3 120 29 [some (.ref (16 + 3)), some (.int x1), some (.int x2), none, some (.int x4)] [.int y0, .int y1] s (zyE (some (.int r)) s') := by
  unfold zyF120_29 at h
  refine zy_10 rfl (show zyR _ _ _ _ [some (.ref (16 + 3)), some (.int x1), some (.int x2), none, some (.int x4)] [.int (y1 + y0)] _ _ from ?_)
  refine zy_23 rfl rfl (show zyR _ _ _ _ [some (.ref (16 + 3)), some (.int x1), some (.int x2), some (.int (y1 + y0)), some (.int x4)] [] _ _ from ?_)
  refine zy_22 rfl rfl rfl rfl (show zyR _ _ _ _ [some (.ref (16 + 3)), some (.int x1), some (.int x2), some (.int (y1 + y0)), some (.int (x4 + (1 : Int32)))] [] _ _ from ?_)
  refine zy_6 rfl (show zyR _ _ _ _ [some (.ref (16 + 3)), some (.int x1), some (.int x2), some (.int (y1 + y0)), some (.int (x4 + (1 : Int32)))] [] _ _ from ?_)
  exact zy_sub (show zy_le [some (.ref (16 + 3)), some (.int x1), some (.int x2), some (.int (y1 + y0)), some (.int (x4 + (1 : Int32)))] [some (.ref (16 + 3)), some (.int x1), some (.int x2), some (.int (y1 + y0)), some (.int (x4 + (1 : Int32)))] from ⟨rfl, ⟨rfl, ⟨rfl, ⟨rfl, ⟨rfl, trivial⟩⟩⟩⟩⟩) (hk5 x1 x2 (y1 + y0) (x4 + (1 : Int32)) s _ _ h)
noncomputable def zyF120_5b  (k5 : Int32 → Int32 → Int32 → Int32 → zy_S → Option (Int32 × zy_S)) (x1 : Int32) (x2 : Int32) (x3 : Int32) (x4 : Int32) (s : zy_S) : Option (Int32 × zy_S) :=
if (6 : Int32) ≤ x4 then
some (x3, s)
else
(zyF121 x4 x1 x2 s).bind fun p1 =>
if p1.1 ≠ 0 then
zyF120_29 k5 x1 x2 x4 (0 : Int32) x3 p1.2
else
zyF120_29 k5 x1 x2 x4 (1 : Int32) x3 p1.2
theorem zyC120_5b {X : zx_X}  {k5 : Int32 → Int32 → Int32 → Int32 → zy_S → Option (Int32 × zy_S)}  (hk5 : ∀ (x1 : Int32) (x2 : Int32) (x3 : Int32) (x4 : Int32) (s : zy_S) (r : Int32) (s' : zy_S), k5 x1 x2 x3 x4 s = some (r, s') → zyR X 3 120 5 [some (.ref (16 + 3)), some (.int x1), some (.int x2), some (.int x3), some (.int x4)] [] s (zyE (some (.int r)) s')) {x1 : Int32} {x2 : Int32} {x3 : Int32} {x4 : Int32} {s : zy_S} {r : Int32} {s' : zy_S}  (h : zyF120_5b k5 x1 x2 x3 x4 s = some (r, s')) : zyR X 3 120 5 [some (.ref (16 + 3)), some (.int x1), some (.int x2), some (.int x3), some (.int x4)] [] s (zyE (some (.int r)) s') := by
  unfold zyF120_5b at h
  refine zy_2 rfl rfl (show zyR _ _ _ _ [some (.ref (16 + 3)), some (.int x1), some (.int x2), some (.int x3), some (.int x4)] [.int x4] _ _ from ?_)
  refine zy_3 rfl rfl (show zyR _ _ _ _ [some (.ref (16 + 3)), some (.int x1), some (.int x2), some (.int x3), some (.int x4)] [.int (6 : Int32), .int x4] _ _ from ?_)
  refine zy_25_3 rfl (fun b3 => (show zyR _ _ _ _ [some (.ref (16 + 3)), some (.int x1), some (.int x2), some (.int x3), some (.int x4)] [] _ _ from ?_)) (fun b3 => (show zyR _ _ _ _ [some (.ref (16 + 3)), some (.int x1), some (.int x2), some (.int x3), some (.int x4)] [] _ _ from ?_))
  · replace h := zy_ifp h b3
    refine zy_2 rfl rfl (show zyR _ _ _ _ [some (.ref (16 + 3)), some (.int x1), some (.int x2), some (.int x3), some (.int x4)] [.int x3] _ _ from ?_)
    cases h
    exact zy_4 rfl ⟨rfl, rfl⟩
  · replace h := zy_ifn h b3
    refine zy_2 rfl rfl (show zyR _ _ _ _ [some (.ref (16 + 3)), some (.int x1), some (.int x2), some (.int x3), some (.int x4)] [.int x3] _ _ from ?_)
    refine zy_0 rfl rfl (show zyR _ _ _ _ [some (.ref (16 + 3)), some (.int x1), some (.int x2), some (.int x3), some (.int x4)] [.ref (16 + 3), .int x3] _ _ from ?_)
    refine zy_2 rfl rfl (show zyR _ _ _ _ [some (.ref (16 + 3)), some (.int x1), some (.int x2), some (.int x3), some (.int x4)] [.int x4, .ref (16 + 3), .int x3] _ _ from ?_)
    refine zy_2 rfl rfl (show zyR _ _ _ _ [some (.ref (16 + 3)), some (.int x1), some (.int x2), some (.int x3), some (.int x4)] [.int x1, .int x4, .ref (16 + 3), .int x3] _ _ from ?_)
    refine zy_2 rfl rfl (show zyR _ _ _ _ [some (.ref (16 + 3)), some (.int x1), some (.int x2), some (.int x3), some (.int x4)] [.int x2, .int x1, .int x4, .ref (16 + 3), .int x3] _ _ from ?_)
    obtain ⟨p1, hp1, h⟩ := zy_bind h
    refine zy_5 (c := 16) (as := [.int x4, .int x1, .int x2]) (rest := [.int x3]) (L := [some (.ref (16 + 3)), some (.int x4), some (.int x1), some (.int x2)]) (d' := 2) rfl rfl rfl (Nat.le_of_ble_eq_true rfl) (Nat.le_of_ble_eq_true rfl) rfl (Nat.le_of_ble_eq_true rfl) rfl rfl (zyC121 hp1) ?_
    show zyR _ _ _ _ [some (.ref (16 + 3)), some (.int x1), some (.int x2), some (.int x3), some (.int x4)] [.int p1.1, .int x3] _ _
    refine zy_24_1 rfl (fun b2 => (show zyR _ _ _ _ [some (.ref (16 + 3)), some (.int x1), some (.int x2), some (.int x3), some (.int x4)] [.int x3] _ _ from ?_)) (fun b2 => (show zyR _ _ _ _ [some (.ref (16 + 3)), some (.int x1), some (.int x2), some (.int x3), some (.int x4)] [.int x3] _ _ from ?_))
    · replace h := zy_ifp h b2
      refine zy_3 rfl rfl (show zyR _ _ _ _ [some (.ref (16 + 3)), some (.int x1), some (.int x2), some (.int x3), some (.int x4)] [.int (0 : Int32), .int x3] _ _ from ?_)
      exact zy_sub (show zy_le [some (.ref (16 + 3)), some (.int x1), some (.int x2), none, some (.int x4)] [some (.ref (16 + 3)), some (.int x1), some (.int x2), some (.int x3), some (.int x4)] from ⟨rfl, ⟨rfl, ⟨rfl, ⟨rfl, trivial⟩⟩⟩⟩) (zyC120_29 hk5 h)
    · replace h := zy_ifn h b2
      refine zy_3 rfl rfl (show zyR _ _ _ _ [some (.ref (16 + 3)), some (.int x1), some (.int x2), some (.int x3), some (.int x4)] [.int (1 : Int32), .int x3] _ _ from ?_)
      refine zy_6 rfl (show zyR _ _ _ _ [some (.ref (16 + 3)), some (.int x1), some (.int x2), some (.int x3), some (.int x4)] [.int (1 : Int32), .int x3] _ _ from ?_)
      exact zy_sub (show zy_le [some (.ref (16 + 3)), some (.int x1), some (.int x2), none, some (.int x4)] [some (.ref (16 + 3)), some (.int x1), some (.int x2), some (.int x3), some (.int x4)] from ⟨rfl, ⟨rfl, ⟨rfl, ⟨rfl, trivial⟩⟩⟩⟩) (zyC120_29 hk5 h)
noncomputable def zyF120_5   (n : Nat) : Int32 → Int32 → Int32 → Int32 → zy_S → Option (Int32 × zy_S) := Nat.rec (fun _ _ _ _ _ => none) (fun _ k5 => zyF120_5b k5) n
theorem zyC120_5 {X : zx_X}     : ∀ (n : Nat) (x1 : Int32) (x2 : Int32) (x3 : Int32) (x4 : Int32) (s : zy_S) (r : Int32) (s' : zy_S), zyF120_5 n x1 x2 x3 x4 s = some (r, s') → zyR X 3 120 5 [some (.ref (16 + 3)), some (.int x1), some (.int x2), some (.int x3), some (.int x4)] [] s (zyE (some (.int r)) s')
  | 0, _, _, _, _ => by
    intro s r s'  h
    have h : (none : Option (Int32 × zy_S)) = some (r, s') := h
    cases h
  | n + 1, x1, x2, x3, x4 => by
    intro s r s'  h
    exact zyC120_5b (k5 := zyF120_5 n) (fun x1 x2 x3 x4 s r s'  h => zyC120_5  n x1 x2 x3 x4 s r s'  h) h
noncomputable def zyF120   (x1 : Int32) (x2 : Int32) (s : zy_S) : Option (Int32 × zy_S) :=
zyF120_5 zy_fu x1 x2 (0 : Int32) (0 : Int32) s
theorem zyC120 {X : zx_X}     {x1 : Int32} {x2 : Int32} {s : zy_S} {r : Int32} {s' : zy_S}  (h : zyF120 x1 x2 s = some (r, s')) : zyR X 3 120 0 [some (.ref (16 + 3)), some (.int x1), some (.int x2), none, none] [] s (zyE (some (.int r)) s') := by
  unfold zyF120 at h
  refine zy_3 rfl rfl (show zyR _ _ _ _ [some (.ref (16 + 3)), some (.int x1), some (.int x2), none, none] [.int (0 : Int32)] _ _ from ?_)
  refine zy_23 rfl rfl (show zyR _ _ _ _ [some (.ref (16 + 3)), some (.int x1), some (.int x2), some (.int (0 : Int32)), none] [] _ _ from ?_)
  refine zy_3 rfl rfl (show zyR _ _ _ _ [some (.ref (16 + 3)), some (.int x1), some (.int x2), some (.int (0 : Int32)), none] [.int (0 : Int32)] _ _ from ?_)
  refine zy_23 rfl rfl (show zyR _ _ _ _ [some (.ref (16 + 3)), some (.int x1), some (.int x2), some (.int (0 : Int32)), some (.int (0 : Int32))] [] _ _ from ?_)
  exact zy_sub (show zy_le [some (.ref (16 + 3)), some (.int x1), some (.int x2), some (.int (0 : Int32)), some (.int (0 : Int32))] [some (.ref (16 + 3)), some (.int x1), some (.int x2), some (.int (0 : Int32)), some (.int (0 : Int32))] from ⟨rfl, ⟨rfl, ⟨rfl, ⟨rfl, ⟨rfl, trivial⟩⟩⟩⟩⟩) (zyC120_5 zy_fu x1 x2 (0 : Int32) (0 : Int32) s _ _ h)
/-! NineOpinions$Votes.apart(II)I -/
noncomputable def zyF122_5b  (k5 : Int32 → Int32 → Int32 → Int32 → zy_S → Option (Int32 × zy_S)) (x1 : Int32) (x2 : Int32) (x3 : Int32) (x4 : Int32) (s : zy_S) : Option (Int32 × zy_S) :=
if (6 : Int32) ≤ x4 then
some (x3, s)
else
(zyF121 x4 x1 x2 s).bind fun p1 =>
k5 x1 x2 (x3 + p1.1) (x4 + (1 : Int32)) p1.2
theorem zyC122_5b {X : zx_X}  {k5 : Int32 → Int32 → Int32 → Int32 → zy_S → Option (Int32 × zy_S)}  (hk5 : ∀ (x1 : Int32) (x2 : Int32) (x3 : Int32) (x4 : Int32) (s : zy_S) (r : Int32) (s' : zy_S), k5 x1 x2 x3 x4 s = some (r, s') → zyR X 3 122 5 [some (.ref (16 + 3)), some (.int x1), some (.int x2), some (.int x3), some (.int x4)] [] s (zyE (some (.int r)) s')) {x1 : Int32} {x2 : Int32} {x3 : Int32} {x4 : Int32} {s : zy_S} {r : Int32} {s' : zy_S}  (h : zyF122_5b k5 x1 x2 x3 x4 s = some (r, s')) : zyR X 3 122 5 [some (.ref (16 + 3)), some (.int x1), some (.int x2), some (.int x3), some (.int x4)] [] s (zyE (some (.int r)) s') := by
  unfold zyF122_5b at h
  refine zy_2 rfl rfl (show zyR _ _ _ _ [some (.ref (16 + 3)), some (.int x1), some (.int x2), some (.int x3), some (.int x4)] [.int x4] _ _ from ?_)
  refine zy_3 rfl rfl (show zyR _ _ _ _ [some (.ref (16 + 3)), some (.int x1), some (.int x2), some (.int x3), some (.int x4)] [.int (6 : Int32), .int x4] _ _ from ?_)
  refine zy_25_3 rfl (fun b2 => (show zyR _ _ _ _ [some (.ref (16 + 3)), some (.int x1), some (.int x2), some (.int x3), some (.int x4)] [] _ _ from ?_)) (fun b2 => (show zyR _ _ _ _ [some (.ref (16 + 3)), some (.int x1), some (.int x2), some (.int x3), some (.int x4)] [] _ _ from ?_))
  · replace h := zy_ifp h b2
    refine zy_2 rfl rfl (show zyR _ _ _ _ [some (.ref (16 + 3)), some (.int x1), some (.int x2), some (.int x3), some (.int x4)] [.int x3] _ _ from ?_)
    cases h
    exact zy_4 rfl ⟨rfl, rfl⟩
  · replace h := zy_ifn h b2
    refine zy_2 rfl rfl (show zyR _ _ _ _ [some (.ref (16 + 3)), some (.int x1), some (.int x2), some (.int x3), some (.int x4)] [.int x3] _ _ from ?_)
    refine zy_0 rfl rfl (show zyR _ _ _ _ [some (.ref (16 + 3)), some (.int x1), some (.int x2), some (.int x3), some (.int x4)] [.ref (16 + 3), .int x3] _ _ from ?_)
    refine zy_2 rfl rfl (show zyR _ _ _ _ [some (.ref (16 + 3)), some (.int x1), some (.int x2), some (.int x3), some (.int x4)] [.int x4, .ref (16 + 3), .int x3] _ _ from ?_)
    refine zy_2 rfl rfl (show zyR _ _ _ _ [some (.ref (16 + 3)), some (.int x1), some (.int x2), some (.int x3), some (.int x4)] [.int x1, .int x4, .ref (16 + 3), .int x3] _ _ from ?_)
    refine zy_2 rfl rfl (show zyR _ _ _ _ [some (.ref (16 + 3)), some (.int x1), some (.int x2), some (.int x3), some (.int x4)] [.int x2, .int x1, .int x4, .ref (16 + 3), .int x3] _ _ from ?_)
    obtain ⟨p1, hp1, h⟩ := zy_bind h
    refine zy_5 (c := 16) (as := [.int x4, .int x1, .int x2]) (rest := [.int x3]) (L := [some (.ref (16 + 3)), some (.int x4), some (.int x1), some (.int x2)]) (d' := 2) rfl rfl rfl (Nat.le_of_ble_eq_true rfl) (Nat.le_of_ble_eq_true rfl) rfl (Nat.le_of_ble_eq_true rfl) rfl rfl (zyC121 hp1) ?_
    show zyR _ _ _ _ [some (.ref (16 + 3)), some (.int x1), some (.int x2), some (.int x3), some (.int x4)] [.int p1.1, .int x3] _ _
    refine zy_10 rfl (show zyR _ _ _ _ [some (.ref (16 + 3)), some (.int x1), some (.int x2), some (.int x3), some (.int x4)] [.int (x3 + p1.1)] _ _ from ?_)
    refine zy_23 rfl rfl (show zyR _ _ _ _ [some (.ref (16 + 3)), some (.int x1), some (.int x2), some (.int (x3 + p1.1)), some (.int x4)] [] _ _ from ?_)
    refine zy_22 rfl rfl rfl rfl (show zyR _ _ _ _ [some (.ref (16 + 3)), some (.int x1), some (.int x2), some (.int (x3 + p1.1)), some (.int (x4 + (1 : Int32)))] [] _ _ from ?_)
    refine zy_6 rfl (show zyR _ _ _ _ [some (.ref (16 + 3)), some (.int x1), some (.int x2), some (.int (x3 + p1.1)), some (.int (x4 + (1 : Int32)))] [] _ _ from ?_)
    exact zy_sub (show zy_le [some (.ref (16 + 3)), some (.int x1), some (.int x2), some (.int (x3 + p1.1)), some (.int (x4 + (1 : Int32)))] [some (.ref (16 + 3)), some (.int x1), some (.int x2), some (.int (x3 + p1.1)), some (.int (x4 + (1 : Int32)))] from ⟨rfl, ⟨rfl, ⟨rfl, ⟨rfl, ⟨rfl, trivial⟩⟩⟩⟩⟩) (hk5 x1 x2 (x3 + p1.1) (x4 + (1 : Int32)) p1.2 _ _ h)
noncomputable def zyF122_5   (n : Nat) : Int32 → Int32 → Int32 → Int32 → zy_S → Option (Int32 × zy_S) := Nat.rec (fun _ _ _ _ _ => none) (fun _ k5 => zyF122_5b k5) n
theorem zyC122_5 {X : zx_X}     : ∀ (n : Nat) (x1 : Int32) (x2 : Int32) (x3 : Int32) (x4 : Int32) (s : zy_S) (r : Int32) (s' : zy_S), zyF122_5 n x1 x2 x3 x4 s = some (r, s') → zyR X 3 122 5 [some (.ref (16 + 3)), some (.int x1), some (.int x2), some (.int x3), some (.int x4)] [] s (zyE (some (.int r)) s')
  | 0, _, _, _, _ => by
    intro s r s'  h
    have h : (none : Option (Int32 × zy_S)) = some (r, s') := h
    cases h
  | n + 1, x1, x2, x3, x4 => by
    intro s r s'  h
    exact zyC122_5b (k5 := zyF122_5 n) (fun x1 x2 x3 x4 s r s'  h => zyC122_5  n x1 x2 x3 x4 s r s'  h) h
noncomputable def zyF122   (x1 : Int32) (x2 : Int32) (s : zy_S) : Option (Int32 × zy_S) :=
zyF122_5 zy_fu x1 x2 (0 : Int32) (0 : Int32) s
theorem zyC122 {X : zx_X}     {x1 : Int32} {x2 : Int32} {s : zy_S} {r : Int32} {s' : zy_S}  (h : zyF122 x1 x2 s = some (r, s')) : zyR X 3 122 0 [some (.ref (16 + 3)), some (.int x1), some (.int x2), none, none] [] s (zyE (some (.int r)) s') := by
  unfold zyF122 at h
  refine zy_3 rfl rfl (show zyR _ _ _ _ [some (.ref (16 + 3)), some (.int x1), some (.int x2), none, none] [.int (0 : Int32)] _ _ from ?_)
  refine zy_23 rfl rfl (show zyR _ _ _ _ [some (.ref (16 + 3)), some (.int x1), some (.int x2), some (.int (0 : Int32)), none] [] _ _ from ?_)
  refine zy_3 rfl rfl (show zyR _ _ _ _ [some (.ref (16 + 3)), some (.int x1), some (.int x2), some (.int (0 : Int32)), none] [.int (0 : Int32)] _ _ from ?_)
  refine zy_23 rfl rfl (show zyR _ _ _ _ [some (.ref (16 + 3)), some (.int x1), some (.int x2), some (.int (0 : Int32)), some (.int (0 : Int32))] [] _ _ from ?_)
  exact zy_sub (show zy_le [some (.ref (16 + 3)), some (.int x1), some (.int x2), some (.int (0 : Int32)), some (.int (0 : Int32))] [some (.ref (16 + 3)), some (.int x1), some (.int x2), some (.int (0 : Int32)), some (.int (0 : Int32))] from ⟨rfl, ⟨rfl, ⟨rfl, ⟨rfl, ⟨rfl, trivial⟩⟩⟩⟩⟩) (zyC122_5 zy_fu x1 x2 (0 : Int32) (0 : Int32) s _ _ h)
/-! NineOpinions.agree(II)I -/
noncomputable def zyF119   (x1 : Int32) (x2 : Int32) (s : zy_S) : Option (Int32 × zy_S) :=
if x1 < 0 then
some ((-1 : Int32), s)
else
(zyF84 x2 s).bind fun p1 =>
if p1.1 = 0 then
some ((-1 : Int32), p1.2)
else
(zyF25 (0 : Int32) (x1 / (10 : Int32)) p1.2).bind fun p2 =>
if p2.1 = 0 then
some ((-1 : Int32), p2.2)
else
(zyF25 (0 : Int32) (x1 - x1 / (10 : Int32) * (10 : Int32)) p2.2).bind fun p3 =>
if p3.1 ≠ 0 then
if x2 ≠ 0 then
(zyF122 (x1 / (10 : Int32)) (x1 - x1 / (10 : Int32) * (10 : Int32)) p3.2).bind fun p4 =>
some (p4.1, p4.2)
else
(zyF120 (x1 / (10 : Int32)) (x1 - x1 / (10 : Int32) * (10 : Int32)) p3.2).bind fun p5 =>
some (p5.1, p5.2)
else
some ((-1 : Int32), p3.2)
theorem zyC119 {X : zx_X}     {x1 : Int32} {x2 : Int32} {s : zy_S} {r : Int32} {s' : zy_S}  (h : zyF119 x1 x2 s = some (r, s')) : zyR X 4 119 0 [some (.ref (0 + 3)), some (.int x1), some (.int x2)] [] s (zyE (some (.int r)) s') := by
  unfold zyF119 at h
  refine zy_2 rfl rfl (show zyR _ _ _ _ [some (.ref (0 + 3)), some (.int x1), some (.int x2)] [.int x1] _ _ from ?_)
  refine zy_24_2 rfl (fun b10 => (show zyR _ _ _ _ [some (.ref (0 + 3)), some (.int x1), some (.int x2)] [] _ _ from ?_)) (fun b10 => (show zyR _ _ _ _ [some (.ref (0 + 3)), some (.int x1), some (.int x2)] [] _ _ from ?_))
  · replace h := zy_ifp h b10
    refine zy_3 rfl rfl (show zyR _ _ _ _ [some (.ref (0 + 3)), some (.int x1), some (.int x2)] [.int (-1 : Int32)] _ _ from ?_)
    cases h
    exact zy_4 rfl ⟨rfl, rfl⟩
  · replace h := zy_ifn h b10
    refine zy_2 rfl rfl (show zyR _ _ _ _ [some (.ref (0 + 3)), some (.int x1), some (.int x2)] [.int x2] _ _ from ?_)
    obtain ⟨p1, hp1, h⟩ := zy_bind h
    refine zy_60 (as := [.int x2]) (rest := []) (L := [some (.int x2)]) (d' := 1) rfl rfl (Nat.le_of_ble_eq_true rfl) (Nat.le_of_ble_eq_true rfl) rfl (Nat.le_of_ble_eq_true rfl) rfl rfl (zyC84 hp1) ?_
    show zyR _ _ _ _ [some (.ref (0 + 3)), some (.int x1), some (.int x2)] [.int p1.1] _ _
    refine zy_24_0 rfl (fun b9 => (show zyR _ _ _ _ [some (.ref (0 + 3)), some (.int x1), some (.int x2)] [] _ _ from ?_)) (fun b9 => (show zyR _ _ _ _ [some (.ref (0 + 3)), some (.int x1), some (.int x2)] [] _ _ from ?_))
    · replace h := zy_ifp h b9
      refine zy_3 rfl rfl (show zyR _ _ _ _ [some (.ref (0 + 3)), some (.int x1), some (.int x2)] [.int (-1 : Int32)] _ _ from ?_)
      cases h
      exact zy_4 rfl ⟨rfl, rfl⟩
    · replace h := zy_ifn h b9
      refine zy_0 rfl rfl (show zyR _ _ _ _ [some (.ref (0 + 3)), some (.int x1), some (.int x2)] [.ref (0 + 3)] _ _ from ?_)
      refine zy_1r (c := 0) rfl rfl rfl (show zyR _ _ _ _ [some (.ref (0 + 3)), some (.int x1), some (.int x2)] [.ref (1 + 3)] _ _ from ?_)
      refine zy_3 rfl rfl (show zyR _ _ _ _ [some (.ref (0 + 3)), some (.int x1), some (.int x2)] [.int (0 : Int32), .ref (1 + 3)] _ _ from ?_)
      refine zy_2 rfl rfl (show zyR _ _ _ _ [some (.ref (0 + 3)), some (.int x1), some (.int x2)] [.int x1, .int (0 : Int32), .ref (1 + 3)] _ _ from ?_)
      refine zy_3 rfl rfl (show zyR _ _ _ _ [some (.ref (0 + 3)), some (.int x1), some (.int x2)] [.int (10 : Int32), .int x1, .int (0 : Int32), .ref (1 + 3)] _ _ from ?_)
      refine zy_19 rfl (by decide) (show zyR _ _ _ _ [some (.ref (0 + 3)), some (.int x1), some (.int x2)] [.int (x1 / (10 : Int32)), .int (0 : Int32), .ref (1 + 3)] _ _ from ?_)
      obtain ⟨p2, hp2, h⟩ := zy_bind h
      refine zy_5 (c := 1) (as := [.int (0 : Int32), .int (x1 / (10 : Int32))]) (rest := []) (L := [some (.ref (1 + 3)), some (.int (0 : Int32)), some (.int (x1 / (10 : Int32)))]) (d' := 2) rfl rfl rfl (Nat.le_of_ble_eq_true rfl) (Nat.le_of_ble_eq_true rfl) rfl (Nat.le_of_ble_eq_true rfl) rfl rfl (zyC25 hp2) ?_
      show zyR _ _ _ _ [some (.ref (0 + 3)), some (.int x1), some (.int x2)] [.int p2.1] _ _
      refine zy_24_0 rfl (fun b8 => (show zyR _ _ _ _ [some (.ref (0 + 3)), some (.int x1), some (.int x2)] [] _ _ from ?_)) (fun b8 => (show zyR _ _ _ _ [some (.ref (0 + 3)), some (.int x1), some (.int x2)] [] _ _ from ?_))
      · replace h := zy_ifp h b8
        refine zy_3 rfl rfl (show zyR _ _ _ _ [some (.ref (0 + 3)), some (.int x1), some (.int x2)] [.int (-1 : Int32)] _ _ from ?_)
        cases h
        exact zy_4 rfl ⟨rfl, rfl⟩
      · replace h := zy_ifn h b8
        refine zy_0 rfl rfl (show zyR _ _ _ _ [some (.ref (0 + 3)), some (.int x1), some (.int x2)] [.ref (0 + 3)] _ _ from ?_)
        refine zy_1r (c := 0) rfl rfl rfl (show zyR _ _ _ _ [some (.ref (0 + 3)), some (.int x1), some (.int x2)] [.ref (1 + 3)] _ _ from ?_)
        refine zy_3 rfl rfl (show zyR _ _ _ _ [some (.ref (0 + 3)), some (.int x1), some (.int x2)] [.int (0 : Int32), .ref (1 + 3)] _ _ from ?_)
        refine zy_2 rfl rfl (show zyR _ _ _ _ [some (.ref (0 + 3)), some (.int x1), some (.int x2)] [.int x1, .int (0 : Int32), .ref (1 + 3)] _ _ from ?_)
        refine zy_3 rfl rfl (show zyR _ _ _ _ [some (.ref (0 + 3)), some (.int x1), some (.int x2)] [.int (10 : Int32), .int x1, .int (0 : Int32), .ref (1 + 3)] _ _ from ?_)
        refine zy_20 rfl (by decide) (show zyR _ _ _ _ [some (.ref (0 + 3)), some (.int x1), some (.int x2)] [.int (x1 - x1 / (10 : Int32) * (10 : Int32)), .int (0 : Int32), .ref (1 + 3)] _ _ from ?_)
        obtain ⟨p3, hp3, h⟩ := zy_bind h
        refine zy_5 (c := 1) (as := [.int (0 : Int32), .int (x1 - x1 / (10 : Int32) * (10 : Int32))]) (rest := []) (L := [some (.ref (1 + 3)), some (.int (0 : Int32)), some (.int (x1 - x1 / (10 : Int32) * (10 : Int32)))]) (d' := 2) rfl rfl rfl (Nat.le_of_ble_eq_true rfl) (Nat.le_of_ble_eq_true rfl) rfl (Nat.le_of_ble_eq_true rfl) rfl rfl (zyC25 hp3) ?_
        show zyR _ _ _ _ [some (.ref (0 + 3)), some (.int x1), some (.int x2)] [.int p3.1] _ _
        refine zy_24_1 rfl (fun b7 => (show zyR _ _ _ _ [some (.ref (0 + 3)), some (.int x1), some (.int x2)] [] _ _ from ?_)) (fun b7 => (show zyR _ _ _ _ [some (.ref (0 + 3)), some (.int x1), some (.int x2)] [] _ _ from ?_))
        · replace h := zy_ifp h b7
          refine zy_2 rfl rfl (show zyR _ _ _ _ [some (.ref (0 + 3)), some (.int x1), some (.int x2)] [.int x2] _ _ from ?_)
          refine zy_24_1 rfl (fun b6 => (show zyR _ _ _ _ [some (.ref (0 + 3)), some (.int x1), some (.int x2)] [] _ _ from ?_)) (fun b6 => (show zyR _ _ _ _ [some (.ref (0 + 3)), some (.int x1), some (.int x2)] [] _ _ from ?_))
          · replace h := zy_ifp h b6
            refine zy_0 rfl rfl (show zyR _ _ _ _ [some (.ref (0 + 3)), some (.int x1), some (.int x2)] [.ref (0 + 3)] _ _ from ?_)
            refine zy_1r (c := 0) rfl rfl rfl (show zyR _ _ _ _ [some (.ref (0 + 3)), some (.int x1), some (.int x2)] [.ref (16 + 3)] _ _ from ?_)
            refine zy_2 rfl rfl (show zyR _ _ _ _ [some (.ref (0 + 3)), some (.int x1), some (.int x2)] [.int x1, .ref (16 + 3)] _ _ from ?_)
            refine zy_3 rfl rfl (show zyR _ _ _ _ [some (.ref (0 + 3)), some (.int x1), some (.int x2)] [.int (10 : Int32), .int x1, .ref (16 + 3)] _ _ from ?_)
            refine zy_19 rfl (by decide) (show zyR _ _ _ _ [some (.ref (0 + 3)), some (.int x1), some (.int x2)] [.int (x1 / (10 : Int32)), .ref (16 + 3)] _ _ from ?_)
            refine zy_2 rfl rfl (show zyR _ _ _ _ [some (.ref (0 + 3)), some (.int x1), some (.int x2)] [.int x1, .int (x1 / (10 : Int32)), .ref (16 + 3)] _ _ from ?_)
            refine zy_3 rfl rfl (show zyR _ _ _ _ [some (.ref (0 + 3)), some (.int x1), some (.int x2)] [.int (10 : Int32), .int x1, .int (x1 / (10 : Int32)), .ref (16 + 3)] _ _ from ?_)
            refine zy_20 rfl (by decide) (show zyR _ _ _ _ [some (.ref (0 + 3)), some (.int x1), some (.int x2)] [.int (x1 - x1 / (10 : Int32) * (10 : Int32)), .int (x1 / (10 : Int32)), .ref (16 + 3)] _ _ from ?_)
            obtain ⟨p4, hp4, h⟩ := zy_bind h
            refine zy_5 (c := 16) (as := [.int (x1 / (10 : Int32)), .int (x1 - x1 / (10 : Int32) * (10 : Int32))]) (rest := []) (L := [some (.ref (16 + 3)), some (.int (x1 / (10 : Int32))), some (.int (x1 - x1 / (10 : Int32) * (10 : Int32))), none, none]) (d' := 3) rfl rfl rfl (Nat.le_of_ble_eq_true rfl) (Nat.le_of_ble_eq_true rfl) rfl (Nat.le_of_ble_eq_true rfl) rfl rfl (zyC122 hp4) ?_
            show zyR _ _ _ _ [some (.ref (0 + 3)), some (.int x1), some (.int x2)] [.int p4.1] _ _
            cases h
            exact zy_4 rfl ⟨rfl, rfl⟩
          · replace h := zy_ifn h b6
            refine zy_0 rfl rfl (show zyR _ _ _ _ [some (.ref (0 + 3)), some (.int x1), some (.int x2)] [.ref (0 + 3)] _ _ from ?_)
            refine zy_1r (c := 0) rfl rfl rfl (show zyR _ _ _ _ [some (.ref (0 + 3)), some (.int x1), some (.int x2)] [.ref (16 + 3)] _ _ from ?_)
            refine zy_2 rfl rfl (show zyR _ _ _ _ [some (.ref (0 + 3)), some (.int x1), some (.int x2)] [.int x1, .ref (16 + 3)] _ _ from ?_)
            refine zy_3 rfl rfl (show zyR _ _ _ _ [some (.ref (0 + 3)), some (.int x1), some (.int x2)] [.int (10 : Int32), .int x1, .ref (16 + 3)] _ _ from ?_)
            refine zy_19 rfl (by decide) (show zyR _ _ _ _ [some (.ref (0 + 3)), some (.int x1), some (.int x2)] [.int (x1 / (10 : Int32)), .ref (16 + 3)] _ _ from ?_)
            refine zy_2 rfl rfl (show zyR _ _ _ _ [some (.ref (0 + 3)), some (.int x1), some (.int x2)] [.int x1, .int (x1 / (10 : Int32)), .ref (16 + 3)] _ _ from ?_)
            refine zy_3 rfl rfl (show zyR _ _ _ _ [some (.ref (0 + 3)), some (.int x1), some (.int x2)] [.int (10 : Int32), .int x1, .int (x1 / (10 : Int32)), .ref (16 + 3)] _ _ from ?_)
            refine zy_20 rfl (by decide) (show zyR _ _ _ _ [some (.ref (0 + 3)), some (.int x1), some (.int x2)] [.int (x1 - x1 / (10 : Int32) * (10 : Int32)), .int (x1 / (10 : Int32)), .ref (16 + 3)] _ _ from ?_)
            obtain ⟨p5, hp5, h⟩ := zy_bind h
            refine zy_5 (c := 16) (as := [.int (x1 / (10 : Int32)), .int (x1 - x1 / (10 : Int32) * (10 : Int32))]) (rest := []) (L := [some (.ref (16 + 3)), some (.int (x1 / (10 : Int32))), some (.int (x1 - x1 / (10 : Int32) * (10 : Int32))), none, none]) (d' := 3) rfl rfl rfl (Nat.le_of_ble_eq_true rfl) (Nat.le_of_ble_eq_true rfl) rfl (Nat.le_of_ble_eq_true rfl) rfl rfl (zyC120 hp5) ?_
            show zyR _ _ _ _ [some (.ref (0 + 3)), some (.int x1), some (.int x2)] [.int p5.1] _ _
            refine zy_6 rfl (show zyR _ _ _ _ [some (.ref (0 + 3)), some (.int x1), some (.int x2)] [.int p5.1] _ _ from ?_)
            cases h
            exact zy_4 rfl ⟨rfl, rfl⟩
        · replace h := zy_ifn h b7
          refine zy_3 rfl rfl (show zyR _ _ _ _ [some (.ref (0 + 3)), some (.int x1), some (.int x2)] [.int (-1 : Int32)] _ _ from ?_)
          cases h
          exact zy_4 rfl ⟨rfl, rfl⟩
/-! NineOpinionsModel.farOf(II)I -/
noncomputable def zyF235_43  (k5 : Int32 → Int32 → Int32 → Int32 → zy_S → Option (Int32 × zy_S)) (x1 : Int32) (x2 : Int32) (x4 : Int32) (y0 : Int32) (y1 : Int32) (s : zy_S) : Option (Int32 × zy_S) :=
k5 x1 x2 (y1 + y0) (x4 + (1 : Int32)) s
theorem zyC235_43 {X : zx_X}  {k5 : Int32 → Int32 → Int32 → Int32 → zy_S → Option (Int32 × zy_S)}  (hk5 : ∀ (x1 : Int32) (x2 : Int32) (x3 : Int32) (x4 : Int32) (s : zy_S) (r : Int32) (s' : zy_S), k5 x1 x2 x3 x4 s = some (r, s') → zyR X 3 235 5 [some (.ref (43 + 3)), some (.int x1), some (.int x2), some (.int x3), some (.int x4), none] [] s (zyE (some (.int r)) s')) {x1 : Int32} {x2 : Int32} {x4 : Int32} {y0 : Int32} {y1 : Int32} {s : zy_S} {r : Int32} {s' : zy_S}  (h : zyF235_43 k5 x1 x2 x4 y0 y1 s = some (r, s')) : zyR X 3 235 43 [some (.ref (43 + 3)), some (.int x1), some (.int x2), none, some (.int x4), none] [.int y0, .int y1] s (zyE (some (.int r)) s') := by
  unfold zyF235_43 at h
  refine zy_10 rfl (show zyR _ _ _ _ [some (.ref (43 + 3)), some (.int x1), some (.int x2), none, some (.int x4), none] [.int (y1 + y0)] _ _ from ?_)
  refine zy_23 rfl rfl (show zyR _ _ _ _ [some (.ref (43 + 3)), some (.int x1), some (.int x2), some (.int (y1 + y0)), some (.int x4), none] [] _ _ from ?_)
  refine zy_22 rfl rfl rfl rfl (show zyR _ _ _ _ [some (.ref (43 + 3)), some (.int x1), some (.int x2), some (.int (y1 + y0)), some (.int (x4 + (1 : Int32))), none] [] _ _ from ?_)
  refine zy_6 rfl (show zyR _ _ _ _ [some (.ref (43 + 3)), some (.int x1), some (.int x2), some (.int (y1 + y0)), some (.int (x4 + (1 : Int32))), none] [] _ _ from ?_)
  exact zy_sub (show zy_le [some (.ref (43 + 3)), some (.int x1), some (.int x2), some (.int (y1 + y0)), some (.int (x4 + (1 : Int32))), none] [some (.ref (43 + 3)), some (.int x1), some (.int x2), some (.int (y1 + y0)), some (.int (x4 + (1 : Int32))), none] from ⟨rfl, ⟨rfl, ⟨rfl, ⟨rfl, ⟨rfl, trivial⟩⟩⟩⟩⟩) (hk5 x1 x2 (y1 + y0) (x4 + (1 : Int32)) s _ _ h)
noncomputable def zyF235_5b  (k5 : Int32 → Int32 → Int32 → Int32 → zy_S → Option (Int32 × zy_S)) (x1 : Int32) (x2 : Int32) (x3 : Int32) (x4 : Int32) (s : zy_S) : Option (Int32 × zy_S) :=
if (6 : Int32) ≤ x4 then
some (x3, s)
else
(zyF205 x1 x4 s).bind fun p1 =>
(zyF205 x2 x4 p1.2).bind fun p2 =>
if 0 ≤ (p1.1 - p2.1) then
zyF235_43 k5 x1 x2 x4 (p1.1 - p2.1) x3 p2.2
else
zyF235_43 k5 x1 x2 x4 (-(p1.1 - p2.1)) x3 p2.2
theorem zyC235_5b {X : zx_X}  {k5 : Int32 → Int32 → Int32 → Int32 → zy_S → Option (Int32 × zy_S)}  (hk5 : ∀ (x1 : Int32) (x2 : Int32) (x3 : Int32) (x4 : Int32) (s : zy_S) (r : Int32) (s' : zy_S), k5 x1 x2 x3 x4 s = some (r, s') → zyR X 3 235 5 [some (.ref (43 + 3)), some (.int x1), some (.int x2), some (.int x3), some (.int x4), none] [] s (zyE (some (.int r)) s')) {x1 : Int32} {x2 : Int32} {x3 : Int32} {x4 : Int32} {s : zy_S} {r : Int32} {s' : zy_S}  (h : zyF235_5b k5 x1 x2 x3 x4 s = some (r, s')) : zyR X 3 235 5 [some (.ref (43 + 3)), some (.int x1), some (.int x2), some (.int x3), some (.int x4), none] [] s (zyE (some (.int r)) s') := by
  unfold zyF235_5b at h
  refine zy_2 rfl rfl (show zyR _ _ _ _ [some (.ref (43 + 3)), some (.int x1), some (.int x2), some (.int x3), some (.int x4), none] [.int x4] _ _ from ?_)
  refine zy_3 rfl rfl (show zyR _ _ _ _ [some (.ref (43 + 3)), some (.int x1), some (.int x2), some (.int x3), some (.int x4), none] [.int (6 : Int32), .int x4] _ _ from ?_)
  refine zy_25_3 rfl (fun b4 => (show zyR _ _ _ _ [some (.ref (43 + 3)), some (.int x1), some (.int x2), some (.int x3), some (.int x4), none] [] _ _ from ?_)) (fun b4 => (show zyR _ _ _ _ [some (.ref (43 + 3)), some (.int x1), some (.int x2), some (.int x3), some (.int x4), none] [] _ _ from ?_))
  · replace h := zy_ifp h b4
    refine zy_2 rfl rfl (show zyR _ _ _ _ [some (.ref (43 + 3)), some (.int x1), some (.int x2), some (.int x3), some (.int x4), none] [.int x3] _ _ from ?_)
    cases h
    exact zy_4 rfl ⟨rfl, rfl⟩
  · replace h := zy_ifn h b4
    refine zy_0 rfl rfl (show zyR _ _ _ _ [some (.ref (43 + 3)), some (.int x1), some (.int x2), some (.int x3), some (.int x4), none] [.ref (43 + 3)] _ _ from ?_)
    refine zy_2 rfl rfl (show zyR _ _ _ _ [some (.ref (43 + 3)), some (.int x1), some (.int x2), some (.int x3), some (.int x4), none] [.int x1, .ref (43 + 3)] _ _ from ?_)
    refine zy_2 rfl rfl (show zyR _ _ _ _ [some (.ref (43 + 3)), some (.int x1), some (.int x2), some (.int x3), some (.int x4), none] [.int x4, .int x1, .ref (43 + 3)] _ _ from ?_)
    obtain ⟨p1, hp1, h⟩ := zy_bind h
    refine zy_5 (c := 43) (as := [.int x1, .int x4]) (rest := []) (L := [some (.ref (43 + 3)), some (.int x1), some (.int x4)]) (d' := 2) rfl rfl rfl (Nat.le_of_ble_eq_true rfl) (Nat.le_of_ble_eq_true rfl) rfl (Nat.le_of_ble_eq_true rfl) rfl rfl (zyC205 hp1) ?_
    show zyR _ _ _ _ [some (.ref (43 + 3)), some (.int x1), some (.int x2), some (.int x3), some (.int x4), none] [.int p1.1] _ _
    refine zy_0 rfl rfl (show zyR _ _ _ _ [some (.ref (43 + 3)), some (.int x1), some (.int x2), some (.int x3), some (.int x4), none] [.ref (43 + 3), .int p1.1] _ _ from ?_)
    refine zy_2 rfl rfl (show zyR _ _ _ _ [some (.ref (43 + 3)), some (.int x1), some (.int x2), some (.int x3), some (.int x4), none] [.int x2, .ref (43 + 3), .int p1.1] _ _ from ?_)
    refine zy_2 rfl rfl (show zyR _ _ _ _ [some (.ref (43 + 3)), some (.int x1), some (.int x2), some (.int x3), some (.int x4), none] [.int x4, .int x2, .ref (43 + 3), .int p1.1] _ _ from ?_)
    obtain ⟨p2, hp2, h⟩ := zy_bind h
    refine zy_5 (c := 43) (as := [.int x2, .int x4]) (rest := [.int p1.1]) (L := [some (.ref (43 + 3)), some (.int x2), some (.int x4)]) (d' := 2) rfl rfl rfl (Nat.le_of_ble_eq_true rfl) (Nat.le_of_ble_eq_true rfl) rfl (Nat.le_of_ble_eq_true rfl) rfl rfl (zyC205 hp2) ?_
    show zyR _ _ _ _ [some (.ref (43 + 3)), some (.int x1), some (.int x2), some (.int x3), some (.int x4), none] [.int p2.1, .int p1.1] _ _
    refine zy_11 rfl (show zyR _ _ _ _ [some (.ref (43 + 3)), some (.int x1), some (.int x2), some (.int x3), some (.int x4), none] [.int (p1.1 - p2.1)] _ _ from ?_)
    refine zy_23 rfl rfl (show zyR _ _ _ _ [some (.ref (43 + 3)), some (.int x1), some (.int x2), some (.int x3), some (.int x4), some (.int (p1.1 - p2.1))] [] _ _ from ?_)
    refine zy_2 rfl rfl (show zyR _ _ _ _ [some (.ref (43 + 3)), some (.int x1), some (.int x2), some (.int x3), some (.int x4), some (.int (p1.1 - p2.1))] [.int x3] _ _ from ?_)
    refine zy_2 rfl rfl (show zyR _ _ _ _ [some (.ref (43 + 3)), some (.int x1), some (.int x2), some (.int x3), some (.int x4), some (.int (p1.1 - p2.1))] [.int (p1.1 - p2.1), .int x3] _ _ from ?_)
    refine zy_24_3 rfl (fun b3 => (show zyR _ _ _ _ [some (.ref (43 + 3)), some (.int x1), some (.int x2), some (.int x3), some (.int x4), some (.int (p1.1 - p2.1))] [.int x3] _ _ from ?_)) (fun b3 => (show zyR _ _ _ _ [some (.ref (43 + 3)), some (.int x1), some (.int x2), some (.int x3), some (.int x4), some (.int (p1.1 - p2.1))] [.int x3] _ _ from ?_))
    · replace h := zy_ifp h b3
      refine zy_2 rfl rfl (show zyR _ _ _ _ [some (.ref (43 + 3)), some (.int x1), some (.int x2), some (.int x3), some (.int x4), some (.int (p1.1 - p2.1))] [.int (p1.1 - p2.1), .int x3] _ _ from ?_)
      exact zy_sub (show zy_le [some (.ref (43 + 3)), some (.int x1), some (.int x2), none, some (.int x4), none] [some (.ref (43 + 3)), some (.int x1), some (.int x2), some (.int x3), some (.int x4), some (.int (p1.1 - p2.1))] from ⟨rfl, ⟨rfl, ⟨rfl, ⟨rfl, trivial⟩⟩⟩⟩) (zyC235_43 hk5 h)
    · replace h := zy_ifn h b3
      refine zy_2 rfl rfl (show zyR _ _ _ _ [some (.ref (43 + 3)), some (.int x1), some (.int x2), some (.int x3), some (.int x4), some (.int (p1.1 - p2.1))] [.int (p1.1 - p2.1), .int x3] _ _ from ?_)
      refine zy_21 rfl (show zyR _ _ _ _ [some (.ref (43 + 3)), some (.int x1), some (.int x2), some (.int x3), some (.int x4), some (.int (p1.1 - p2.1))] [.int (-(p1.1 - p2.1)), .int x3] _ _ from ?_)
      refine zy_6 rfl (show zyR _ _ _ _ [some (.ref (43 + 3)), some (.int x1), some (.int x2), some (.int x3), some (.int x4), some (.int (p1.1 - p2.1))] [.int (-(p1.1 - p2.1)), .int x3] _ _ from ?_)
      exact zy_sub (show zy_le [some (.ref (43 + 3)), some (.int x1), some (.int x2), none, some (.int x4), none] [some (.ref (43 + 3)), some (.int x1), some (.int x2), some (.int x3), some (.int x4), some (.int (p1.1 - p2.1))] from ⟨rfl, ⟨rfl, ⟨rfl, ⟨rfl, trivial⟩⟩⟩⟩) (zyC235_43 hk5 h)
noncomputable def zyF235_5   (n : Nat) : Int32 → Int32 → Int32 → Int32 → zy_S → Option (Int32 × zy_S) := Nat.rec (fun _ _ _ _ _ => none) (fun _ k5 => zyF235_5b k5) n
theorem zyC235_5 {X : zx_X}     : ∀ (n : Nat) (x1 : Int32) (x2 : Int32) (x3 : Int32) (x4 : Int32) (s : zy_S) (r : Int32) (s' : zy_S), zyF235_5 n x1 x2 x3 x4 s = some (r, s') → zyR X 3 235 5 [some (.ref (43 + 3)), some (.int x1), some (.int x2), some (.int x3), some (.int x4), none] [] s (zyE (some (.int r)) s')
  | 0, _, _, _, _ => by
    intro s r s'  h
    have h : (none : Option (Int32 × zy_S)) = some (r, s') := h
    cases h
  | n + 1, x1, x2, x3, x4 => by
    intro s r s'  h
    exact zyC235_5b (k5 := zyF235_5 n) (fun x1 x2 x3 x4 s r s'  h => zyC235_5  n x1 x2 x3 x4 s r s'  h) h
noncomputable def zyF235   (x1 : Int32) (x2 : Int32) (s : zy_S) : Option (Int32 × zy_S) :=
zyF235_5 zy_fu x1 x2 (0 : Int32) (0 : Int32) s
theorem zyC235 {X : zx_X}     {x1 : Int32} {x2 : Int32} {s : zy_S} {r : Int32} {s' : zy_S}  (h : zyF235 x1 x2 s = some (r, s')) : zyR X 3 235 0 [some (.ref (43 + 3)), some (.int x1), some (.int x2), none, none, none] [] s (zyE (some (.int r)) s') := by
  unfold zyF235 at h
  refine zy_3 rfl rfl (show zyR _ _ _ _ [some (.ref (43 + 3)), some (.int x1), some (.int x2), none, none, none] [.int (0 : Int32)] _ _ from ?_)
  refine zy_23 rfl rfl (show zyR _ _ _ _ [some (.ref (43 + 3)), some (.int x1), some (.int x2), some (.int (0 : Int32)), none, none] [] _ _ from ?_)
  refine zy_3 rfl rfl (show zyR _ _ _ _ [some (.ref (43 + 3)), some (.int x1), some (.int x2), some (.int (0 : Int32)), none, none] [.int (0 : Int32)] _ _ from ?_)
  refine zy_23 rfl rfl (show zyR _ _ _ _ [some (.ref (43 + 3)), some (.int x1), some (.int x2), some (.int (0 : Int32)), some (.int (0 : Int32)), none] [] _ _ from ?_)
  exact zy_sub (show zy_le [some (.ref (43 + 3)), some (.int x1), some (.int x2), some (.int (0 : Int32)), some (.int (0 : Int32)), none] [some (.ref (43 + 3)), some (.int x1), some (.int x2), some (.int (0 : Int32)), some (.int (0 : Int32)), none] from ⟨rfl, ⟨rfl, ⟨rfl, ⟨rfl, ⟨rfl, trivial⟩⟩⟩⟩⟩) (zyC235_5 zy_fu x1 x2 (0 : Int32) (0 : Int32) s _ _ h)
/-! NineOpinionsModel.agree(II)I -/
noncomputable def zyF234_81  (k45 : Int32 → Int32 → Int32 → Int32 → zy_S → Option (Int32 × zy_S)) (x1 : Int32) (x2 : Int32) (x4 : Int32) (y0 : Int32) (y1 : Int32) (s : zy_S) : Option (Int32 × zy_S) :=
k45 x1 x2 (y1 + y0) (x4 + (1 : Int32)) s
theorem zyC234_81 {X : zx_X}  {k45 : Int32 → Int32 → Int32 → Int32 → zy_S → Option (Int32 × zy_S)}  (hk45 : ∀ (x1 : Int32) (x2 : Int32) (x3 : Int32) (x4 : Int32) (s : zy_S) (r : Int32) (s' : zy_S), k45 x1 x2 x3 x4 s = some (r, s') → zyR X 4 234 45 [some (.ref (43 + 3)), some (.int x1), some (.int x2), some (.int x3), some (.int x4)] [] s (zyE (some (.int r)) s')) {x1 : Int32} {x2 : Int32} {x4 : Int32} {y0 : Int32} {y1 : Int32} {s : zy_S} {r : Int32} {s' : zy_S}  (h : zyF234_81 k45 x1 x2 x4 y0 y1 s = some (r, s')) : zyR X 4 234 81 [some (.ref (43 + 3)), some (.int x1), some (.int x2), none, some (.int x4)] [.int y0, .int y1] s (zyE (some (.int r)) s') := by
  unfold zyF234_81 at h
  refine zy_10 rfl (show zyR _ _ _ _ [some (.ref (43 + 3)), some (.int x1), some (.int x2), none, some (.int x4)] [.int (y1 + y0)] _ _ from ?_)
  refine zy_23 rfl rfl (show zyR _ _ _ _ [some (.ref (43 + 3)), some (.int x1), some (.int x2), some (.int (y1 + y0)), some (.int x4)] [] _ _ from ?_)
  refine zy_22 rfl rfl rfl rfl (show zyR _ _ _ _ [some (.ref (43 + 3)), some (.int x1), some (.int x2), some (.int (y1 + y0)), some (.int (x4 + (1 : Int32)))] [] _ _ from ?_)
  refine zy_6 rfl (show zyR _ _ _ _ [some (.ref (43 + 3)), some (.int x1), some (.int x2), some (.int (y1 + y0)), some (.int (x4 + (1 : Int32)))] [] _ _ from ?_)
  exact zy_sub (show zy_le [some (.ref (43 + 3)), some (.int x1), some (.int x2), some (.int (y1 + y0)), some (.int (x4 + (1 : Int32)))] [some (.ref (43 + 3)), some (.int x1), some (.int x2), some (.int (y1 + y0)), some (.int (x4 + (1 : Int32)))] from ⟨rfl, ⟨rfl, ⟨rfl, ⟨rfl, ⟨rfl, trivial⟩⟩⟩⟩⟩) (hk45 x1 x2 (y1 + y0) (x4 + (1 : Int32)) s _ _ h)
noncomputable def zyF234_45b  (k45 : Int32 → Int32 → Int32 → Int32 → zy_S → Option (Int32 × zy_S)) (x1 : Int32) (x2 : Int32) (x3 : Int32) (x4 : Int32) (s : zy_S) : Option (Int32 × zy_S) :=
if (6 : Int32) ≤ x4 then
if x2 ≠ 0 then
(zyF235 (x1 / (10 : Int32)) (x1 - x1 / (10 : Int32) * (10 : Int32)) s).bind fun p1 =>
some (p1.1, p1.2)
else
some (x3, s)
else
(zyF205 (x1 / (10 : Int32)) x4 s).bind fun p3 =>
(zyF205 (x1 - x1 / (10 : Int32) * (10 : Int32)) x4 p3.2).bind fun p4 =>
if p3.1 ≠ p4.1 then
zyF234_81 k45 x1 x2 x4 (0 : Int32) x3 p4.2
else
zyF234_81 k45 x1 x2 x4 (1 : Int32) x3 p4.2
theorem zyC234_45b {X : zx_X}  {k45 : Int32 → Int32 → Int32 → Int32 → zy_S → Option (Int32 × zy_S)}  (hk45 : ∀ (x1 : Int32) (x2 : Int32) (x3 : Int32) (x4 : Int32) (s : zy_S) (r : Int32) (s' : zy_S), k45 x1 x2 x3 x4 s = some (r, s') → zyR X 4 234 45 [some (.ref (43 + 3)), some (.int x1), some (.int x2), some (.int x3), some (.int x4)] [] s (zyE (some (.int r)) s')) {x1 : Int32} {x2 : Int32} {x3 : Int32} {x4 : Int32} {s : zy_S} {r : Int32} {s' : zy_S}  (h : zyF234_45b k45 x1 x2 x3 x4 s = some (r, s')) : zyR X 4 234 45 [some (.ref (43 + 3)), some (.int x1), some (.int x2), some (.int x3), some (.int x4)] [] s (zyE (some (.int r)) s') := by
  unfold zyF234_45b at h
  refine zy_2 rfl rfl (show zyR _ _ _ _ [some (.ref (43 + 3)), some (.int x1), some (.int x2), some (.int x3), some (.int x4)] [.int x4] _ _ from ?_)
  refine zy_3 rfl rfl (show zyR _ _ _ _ [some (.ref (43 + 3)), some (.int x1), some (.int x2), some (.int x3), some (.int x4)] [.int (6 : Int32), .int x4] _ _ from ?_)
  refine zy_25_3 rfl (fun b6 => (show zyR _ _ _ _ [some (.ref (43 + 3)), some (.int x1), some (.int x2), some (.int x3), some (.int x4)] [] _ _ from ?_)) (fun b6 => (show zyR _ _ _ _ [some (.ref (43 + 3)), some (.int x1), some (.int x2), some (.int x3), some (.int x4)] [] _ _ from ?_))
  · replace h := zy_ifp h b6
    refine zy_2 rfl rfl (show zyR _ _ _ _ [some (.ref (43 + 3)), some (.int x1), some (.int x2), some (.int x3), some (.int x4)] [.int x2] _ _ from ?_)
    refine zy_24_1 rfl (fun b2 => (show zyR _ _ _ _ [some (.ref (43 + 3)), some (.int x1), some (.int x2), some (.int x3), some (.int x4)] [] _ _ from ?_)) (fun b2 => (show zyR _ _ _ _ [some (.ref (43 + 3)), some (.int x1), some (.int x2), some (.int x3), some (.int x4)] [] _ _ from ?_))
    · replace h := zy_ifp h b2
      refine zy_0 rfl rfl (show zyR _ _ _ _ [some (.ref (43 + 3)), some (.int x1), some (.int x2), some (.int x3), some (.int x4)] [.ref (43 + 3)] _ _ from ?_)
      refine zy_2 rfl rfl (show zyR _ _ _ _ [some (.ref (43 + 3)), some (.int x1), some (.int x2), some (.int x3), some (.int x4)] [.int x1, .ref (43 + 3)] _ _ from ?_)
      refine zy_3 rfl rfl (show zyR _ _ _ _ [some (.ref (43 + 3)), some (.int x1), some (.int x2), some (.int x3), some (.int x4)] [.int (10 : Int32), .int x1, .ref (43 + 3)] _ _ from ?_)
      refine zy_19 rfl (by decide) (show zyR _ _ _ _ [some (.ref (43 + 3)), some (.int x1), some (.int x2), some (.int x3), some (.int x4)] [.int (x1 / (10 : Int32)), .ref (43 + 3)] _ _ from ?_)
      refine zy_2 rfl rfl (show zyR _ _ _ _ [some (.ref (43 + 3)), some (.int x1), some (.int x2), some (.int x3), some (.int x4)] [.int x1, .int (x1 / (10 : Int32)), .ref (43 + 3)] _ _ from ?_)
      refine zy_3 rfl rfl (show zyR _ _ _ _ [some (.ref (43 + 3)), some (.int x1), some (.int x2), some (.int x3), some (.int x4)] [.int (10 : Int32), .int x1, .int (x1 / (10 : Int32)), .ref (43 + 3)] _ _ from ?_)
      refine zy_20 rfl (by decide) (show zyR _ _ _ _ [some (.ref (43 + 3)), some (.int x1), some (.int x2), some (.int x3), some (.int x4)] [.int (x1 - x1 / (10 : Int32) * (10 : Int32)), .int (x1 / (10 : Int32)), .ref (43 + 3)] _ _ from ?_)
      obtain ⟨p1, hp1, h⟩ := zy_bind h
      refine zy_5 (c := 43) (as := [.int (x1 / (10 : Int32)), .int (x1 - x1 / (10 : Int32) * (10 : Int32))]) (rest := []) (L := [some (.ref (43 + 3)), some (.int (x1 / (10 : Int32))), some (.int (x1 - x1 / (10 : Int32) * (10 : Int32))), none, none, none]) (d' := 3) rfl rfl rfl (Nat.le_of_ble_eq_true rfl) (Nat.le_of_ble_eq_true rfl) rfl (Nat.le_of_ble_eq_true rfl) rfl rfl (zyC235 hp1) ?_
      show zyR _ _ _ _ [some (.ref (43 + 3)), some (.int x1), some (.int x2), some (.int x3), some (.int x4)] [.int p1.1] _ _
      cases h
      exact zy_4 rfl ⟨rfl, rfl⟩
    · replace h := zy_ifn h b2
      refine zy_2 rfl rfl (show zyR _ _ _ _ [some (.ref (43 + 3)), some (.int x1), some (.int x2), some (.int x3), some (.int x4)] [.int x3] _ _ from ?_)
      refine zy_6 rfl (show zyR _ _ _ _ [some (.ref (43 + 3)), some (.int x1), some (.int x2), some (.int x3), some (.int x4)] [.int x3] _ _ from ?_)
      cases h
      exact zy_4 rfl ⟨rfl, rfl⟩
  · replace h := zy_ifn h b6
    refine zy_2 rfl rfl (show zyR _ _ _ _ [some (.ref (43 + 3)), some (.int x1), some (.int x2), some (.int x3), some (.int x4)] [.int x3] _ _ from ?_)
    refine zy_0 rfl rfl (show zyR _ _ _ _ [some (.ref (43 + 3)), some (.int x1), some (.int x2), some (.int x3), some (.int x4)] [.ref (43 + 3), .int x3] _ _ from ?_)
    refine zy_2 rfl rfl (show zyR _ _ _ _ [some (.ref (43 + 3)), some (.int x1), some (.int x2), some (.int x3), some (.int x4)] [.int x1, .ref (43 + 3), .int x3] _ _ from ?_)
    refine zy_3 rfl rfl (show zyR _ _ _ _ [some (.ref (43 + 3)), some (.int x1), some (.int x2), some (.int x3), some (.int x4)] [.int (10 : Int32), .int x1, .ref (43 + 3), .int x3] _ _ from ?_)
    refine zy_19 rfl (by decide) (show zyR _ _ _ _ [some (.ref (43 + 3)), some (.int x1), some (.int x2), some (.int x3), some (.int x4)] [.int (x1 / (10 : Int32)), .ref (43 + 3), .int x3] _ _ from ?_)
    refine zy_2 rfl rfl (show zyR _ _ _ _ [some (.ref (43 + 3)), some (.int x1), some (.int x2), some (.int x3), some (.int x4)] [.int x4, .int (x1 / (10 : Int32)), .ref (43 + 3), .int x3] _ _ from ?_)
    obtain ⟨p3, hp3, h⟩ := zy_bind h
    refine zy_5 (c := 43) (as := [.int (x1 / (10 : Int32)), .int x4]) (rest := [.int x3]) (L := [some (.ref (43 + 3)), some (.int (x1 / (10 : Int32))), some (.int x4)]) (d' := 2) rfl rfl rfl (Nat.le_of_ble_eq_true rfl) (Nat.le_of_ble_eq_true rfl) rfl (Nat.le_of_ble_eq_true rfl) rfl rfl (zyC205 hp3) ?_
    show zyR _ _ _ _ [some (.ref (43 + 3)), some (.int x1), some (.int x2), some (.int x3), some (.int x4)] [.int p3.1, .int x3] _ _
    refine zy_0 rfl rfl (show zyR _ _ _ _ [some (.ref (43 + 3)), some (.int x1), some (.int x2), some (.int x3), some (.int x4)] [.ref (43 + 3), .int p3.1, .int x3] _ _ from ?_)
    refine zy_2 rfl rfl (show zyR _ _ _ _ [some (.ref (43 + 3)), some (.int x1), some (.int x2), some (.int x3), some (.int x4)] [.int x1, .ref (43 + 3), .int p3.1, .int x3] _ _ from ?_)
    refine zy_3 rfl rfl (show zyR _ _ _ _ [some (.ref (43 + 3)), some (.int x1), some (.int x2), some (.int x3), some (.int x4)] [.int (10 : Int32), .int x1, .ref (43 + 3), .int p3.1, .int x3] _ _ from ?_)
    refine zy_20 rfl (by decide) (show zyR _ _ _ _ [some (.ref (43 + 3)), some (.int x1), some (.int x2), some (.int x3), some (.int x4)] [.int (x1 - x1 / (10 : Int32) * (10 : Int32)), .ref (43 + 3), .int p3.1, .int x3] _ _ from ?_)
    refine zy_2 rfl rfl (show zyR _ _ _ _ [some (.ref (43 + 3)), some (.int x1), some (.int x2), some (.int x3), some (.int x4)] [.int x4, .int (x1 - x1 / (10 : Int32) * (10 : Int32)), .ref (43 + 3), .int p3.1, .int x3] _ _ from ?_)
    obtain ⟨p4, hp4, h⟩ := zy_bind h
    refine zy_5 (c := 43) (as := [.int (x1 - x1 / (10 : Int32) * (10 : Int32)), .int x4]) (rest := [.int p3.1, .int x3]) (L := [some (.ref (43 + 3)), some (.int (x1 - x1 / (10 : Int32) * (10 : Int32))), some (.int x4)]) (d' := 2) rfl rfl rfl (Nat.le_of_ble_eq_true rfl) (Nat.le_of_ble_eq_true rfl) rfl (Nat.le_of_ble_eq_true rfl) rfl rfl (zyC205 hp4) ?_
    show zyR _ _ _ _ [some (.ref (43 + 3)), some (.int x1), some (.int x2), some (.int x3), some (.int x4)] [.int p4.1, .int p3.1, .int x3] _ _
    refine zy_25_1 rfl (fun b5 => (show zyR _ _ _ _ [some (.ref (43 + 3)), some (.int x1), some (.int x2), some (.int x3), some (.int x4)] [.int x3] _ _ from ?_)) (fun b5 => (show zyR _ _ _ _ [some (.ref (43 + 3)), some (.int x1), some (.int x2), some (.int x3), some (.int x4)] [.int x3] _ _ from ?_))
    · replace h := zy_ifp h b5
      refine zy_3 rfl rfl (show zyR _ _ _ _ [some (.ref (43 + 3)), some (.int x1), some (.int x2), some (.int x3), some (.int x4)] [.int (0 : Int32), .int x3] _ _ from ?_)
      exact zy_sub (show zy_le [some (.ref (43 + 3)), some (.int x1), some (.int x2), none, some (.int x4)] [some (.ref (43 + 3)), some (.int x1), some (.int x2), some (.int x3), some (.int x4)] from ⟨rfl, ⟨rfl, ⟨rfl, ⟨rfl, trivial⟩⟩⟩⟩) (zyC234_81 hk45 h)
    · replace h := zy_ifn h b5
      refine zy_3 rfl rfl (show zyR _ _ _ _ [some (.ref (43 + 3)), some (.int x1), some (.int x2), some (.int x3), some (.int x4)] [.int (1 : Int32), .int x3] _ _ from ?_)
      refine zy_6 rfl (show zyR _ _ _ _ [some (.ref (43 + 3)), some (.int x1), some (.int x2), some (.int x3), some (.int x4)] [.int (1 : Int32), .int x3] _ _ from ?_)
      exact zy_sub (show zy_le [some (.ref (43 + 3)), some (.int x1), some (.int x2), none, some (.int x4)] [some (.ref (43 + 3)), some (.int x1), some (.int x2), some (.int x3), some (.int x4)] from ⟨rfl, ⟨rfl, ⟨rfl, ⟨rfl, trivial⟩⟩⟩⟩) (zyC234_81 hk45 h)
noncomputable def zyF234_45   (n : Nat) : Int32 → Int32 → Int32 → Int32 → zy_S → Option (Int32 × zy_S) := Nat.rec (fun _ _ _ _ _ => none) (fun _ k45 => zyF234_45b k45) n
theorem zyC234_45 {X : zx_X}     : ∀ (n : Nat) (x1 : Int32) (x2 : Int32) (x3 : Int32) (x4 : Int32) (s : zy_S) (r : Int32) (s' : zy_S), zyF234_45 n x1 x2 x3 x4 s = some (r, s') → zyR X 4 234 45 [some (.ref (43 + 3)), some (.int x1), some (.int x2), some (.int x3), some (.int x4)] [] s (zyE (some (.int r)) s')
  | 0, _, _, _, _ => by
    intro s r s'  h
    have h : (none : Option (Int32 × zy_S)) = some (r, s') := h
    cases h
  | n + 1, x1, x2, x3, x4 => by
    intro s r s'  h
    exact zyC234_45b (k45 := zyF234_45 n) (fun x1 x2 x3 x4 s r s'  h => zyC234_45  n x1 x2 x3 x4 s r s'  h) h
noncomputable def zyF234   (x1 : Int32) (x2 : Int32) (s : zy_S) : Option (Int32 × zy_S) :=
if x1 < 0 then
some ((-1 : Int32), s)
else
(zyF185 ((x1 / (10 : Int32))).toInt64 s).bind fun p7 =>
if p7.1 = 0 then
some ((-1 : Int32), p7.2)
else
(zyF185 ((x1 - x1 / (10 : Int32) * (10 : Int32))).toInt64 p7.2).bind fun p8 =>
if p8.1 = 0 then
some ((-1 : Int32), p8.2)
else
(zyF179 (x2).toInt64 (0 : Int64) (1 : Int64) p8.2).bind fun p9 =>
if p9.1 ≠ 0 then
zyF234_45 zy_fu x1 x2 (0 : Int32) (0 : Int32) p9.2
else
some ((-1 : Int32), p9.2)
theorem zyC234 {X : zx_X}     {x1 : Int32} {x2 : Int32} {s : zy_S} {r : Int32} {s' : zy_S}  (h : zyF234 x1 x2 s = some (r, s')) : zyR X 4 234 0 [some (.ref (43 + 3)), some (.int x1), some (.int x2), none, none] [] s (zyE (some (.int r)) s') := by
  unfold zyF234 at h
  refine zy_2 rfl rfl (show zyR _ _ _ _ [some (.ref (43 + 3)), some (.int x1), some (.int x2), none, none] [.int x1] _ _ from ?_)
  refine zy_24_2 rfl (fun b13 => (show zyR _ _ _ _ [some (.ref (43 + 3)), some (.int x1), some (.int x2), none, none] [] _ _ from ?_)) (fun b13 => (show zyR _ _ _ _ [some (.ref (43 + 3)), some (.int x1), some (.int x2), none, none] [] _ _ from ?_))
  · replace h := zy_ifp h b13
    refine zy_3 rfl rfl (show zyR _ _ _ _ [some (.ref (43 + 3)), some (.int x1), some (.int x2), none, none] [.int (-1 : Int32)] _ _ from ?_)
    cases h
    exact zy_4 rfl ⟨rfl, rfl⟩
  · replace h := zy_ifn h b13
    refine zy_0 rfl rfl (show zyR _ _ _ _ [some (.ref (43 + 3)), some (.int x1), some (.int x2), none, none] [.ref (43 + 3)] _ _ from ?_)
    refine zy_2 rfl rfl (show zyR _ _ _ _ [some (.ref (43 + 3)), some (.int x1), some (.int x2), none, none] [.int x1, .ref (43 + 3)] _ _ from ?_)
    refine zy_3 rfl rfl (show zyR _ _ _ _ [some (.ref (43 + 3)), some (.int x1), some (.int x2), none, none] [.int (10 : Int32), .int x1, .ref (43 + 3)] _ _ from ?_)
    refine zy_19 rfl (by decide) (show zyR _ _ _ _ [some (.ref (43 + 3)), some (.int x1), some (.int x2), none, none] [.int (x1 / (10 : Int32)), .ref (43 + 3)] _ _ from ?_)
    refine zy_40 rfl (show zyR _ _ _ _ [some (.ref (43 + 3)), some (.int x1), some (.int x2), none, none] [.long ((x1 / (10 : Int32))).toInt64, .ref (43 + 3)] _ _ from ?_)
    obtain ⟨p7, hp7, h⟩ := zy_bind h
    refine zy_5 (c := 43) (as := [.long ((x1 / (10 : Int32))).toInt64]) (rest := []) (L := [some (.ref (43 + 3)), some (.long ((x1 / (10 : Int32))).toInt64), none]) (d' := 2) rfl rfl rfl (Nat.le_of_ble_eq_true rfl) (Nat.le_of_ble_eq_true rfl) rfl (Nat.le_of_ble_eq_true rfl) rfl rfl (zyC185 hp7) ?_
    show zyR _ _ _ _ [some (.ref (43 + 3)), some (.int x1), some (.int x2), none, none] [.int p7.1] _ _
    refine zy_24_0 rfl (fun b12 => (show zyR _ _ _ _ [some (.ref (43 + 3)), some (.int x1), some (.int x2), none, none] [] _ _ from ?_)) (fun b12 => (show zyR _ _ _ _ [some (.ref (43 + 3)), some (.int x1), some (.int x2), none, none] [] _ _ from ?_))
    · replace h := zy_ifp h b12
      refine zy_3 rfl rfl (show zyR _ _ _ _ [some (.ref (43 + 3)), some (.int x1), some (.int x2), none, none] [.int (-1 : Int32)] _ _ from ?_)
      cases h
      exact zy_4 rfl ⟨rfl, rfl⟩
    · replace h := zy_ifn h b12
      refine zy_0 rfl rfl (show zyR _ _ _ _ [some (.ref (43 + 3)), some (.int x1), some (.int x2), none, none] [.ref (43 + 3)] _ _ from ?_)
      refine zy_2 rfl rfl (show zyR _ _ _ _ [some (.ref (43 + 3)), some (.int x1), some (.int x2), none, none] [.int x1, .ref (43 + 3)] _ _ from ?_)
      refine zy_3 rfl rfl (show zyR _ _ _ _ [some (.ref (43 + 3)), some (.int x1), some (.int x2), none, none] [.int (10 : Int32), .int x1, .ref (43 + 3)] _ _ from ?_)
      refine zy_20 rfl (by decide) (show zyR _ _ _ _ [some (.ref (43 + 3)), some (.int x1), some (.int x2), none, none] [.int (x1 - x1 / (10 : Int32) * (10 : Int32)), .ref (43 + 3)] _ _ from ?_)
      refine zy_40 rfl (show zyR _ _ _ _ [some (.ref (43 + 3)), some (.int x1), some (.int x2), none, none] [.long ((x1 - x1 / (10 : Int32) * (10 : Int32))).toInt64, .ref (43 + 3)] _ _ from ?_)
      obtain ⟨p8, hp8, h⟩ := zy_bind h
      refine zy_5 (c := 43) (as := [.long ((x1 - x1 / (10 : Int32) * (10 : Int32))).toInt64]) (rest := []) (L := [some (.ref (43 + 3)), some (.long ((x1 - x1 / (10 : Int32) * (10 : Int32))).toInt64), none]) (d' := 2) rfl rfl rfl (Nat.le_of_ble_eq_true rfl) (Nat.le_of_ble_eq_true rfl) rfl (Nat.le_of_ble_eq_true rfl) rfl rfl (zyC185 hp8) ?_
      show zyR _ _ _ _ [some (.ref (43 + 3)), some (.int x1), some (.int x2), none, none] [.int p8.1] _ _
      refine zy_24_0 rfl (fun b11 => (show zyR _ _ _ _ [some (.ref (43 + 3)), some (.int x1), some (.int x2), none, none] [] _ _ from ?_)) (fun b11 => (show zyR _ _ _ _ [some (.ref (43 + 3)), some (.int x1), some (.int x2), none, none] [] _ _ from ?_))
      · replace h := zy_ifp h b11
        refine zy_3 rfl rfl (show zyR _ _ _ _ [some (.ref (43 + 3)), some (.int x1), some (.int x2), none, none] [.int (-1 : Int32)] _ _ from ?_)
        cases h
        exact zy_4 rfl ⟨rfl, rfl⟩
      · replace h := zy_ifn h b11
        refine zy_2 rfl rfl (show zyR _ _ _ _ [some (.ref (43 + 3)), some (.int x1), some (.int x2), none, none] [.int x2] _ _ from ?_)
        refine zy_40 rfl (show zyR _ _ _ _ [some (.ref (43 + 3)), some (.int x1), some (.int x2), none, none] [.long (x2).toInt64] _ _ from ?_)
        refine zy_36 rfl rfl (show zyR _ _ _ _ [some (.ref (43 + 3)), some (.int x1), some (.int x2), none, none] [.long (0 : Int64), .long (x2).toInt64] _ _ from ?_)
        refine zy_36 rfl rfl (show zyR _ _ _ _ [some (.ref (43 + 3)), some (.int x1), some (.int x2), none, none] [.long (1 : Int64), .long (0 : Int64), .long (x2).toInt64] _ _ from ?_)
        obtain ⟨p9, hp9, h⟩ := zy_bind h
        refine zy_60 (as := [.long (x2).toInt64, .long (0 : Int64), .long (1 : Int64)]) (rest := []) (L := [some (.long (x2).toInt64), none, some (.long (0 : Int64)), none, some (.long (1 : Int64)), none]) (d' := 1) rfl rfl (Nat.le_of_ble_eq_true rfl) (Nat.le_of_ble_eq_true rfl) rfl (Nat.le_of_ble_eq_true rfl) rfl rfl (zyC179 hp9) ?_
        show zyR _ _ _ _ [some (.ref (43 + 3)), some (.int x1), some (.int x2), none, none] [.int p9.1] _ _
        refine zy_24_1 rfl (fun b10 => (show zyR _ _ _ _ [some (.ref (43 + 3)), some (.int x1), some (.int x2), none, none] [] _ _ from ?_)) (fun b10 => (show zyR _ _ _ _ [some (.ref (43 + 3)), some (.int x1), some (.int x2), none, none] [] _ _ from ?_))
        · replace h := zy_ifp h b10
          refine zy_3 rfl rfl (show zyR _ _ _ _ [some (.ref (43 + 3)), some (.int x1), some (.int x2), none, none] [.int (0 : Int32)] _ _ from ?_)
          refine zy_23 rfl rfl (show zyR _ _ _ _ [some (.ref (43 + 3)), some (.int x1), some (.int x2), some (.int (0 : Int32)), none] [] _ _ from ?_)
          refine zy_3 rfl rfl (show zyR _ _ _ _ [some (.ref (43 + 3)), some (.int x1), some (.int x2), some (.int (0 : Int32)), none] [.int (0 : Int32)] _ _ from ?_)
          refine zy_23 rfl rfl (show zyR _ _ _ _ [some (.ref (43 + 3)), some (.int x1), some (.int x2), some (.int (0 : Int32)), some (.int (0 : Int32))] [] _ _ from ?_)
          exact zy_sub (show zy_le [some (.ref (43 + 3)), some (.int x1), some (.int x2), some (.int (0 : Int32)), some (.int (0 : Int32))] [some (.ref (43 + 3)), some (.int x1), some (.int x2), some (.int (0 : Int32)), some (.int (0 : Int32))] from ⟨rfl, ⟨rfl, ⟨rfl, ⟨rfl, ⟨rfl, trivial⟩⟩⟩⟩⟩) (zyC234_45 zy_fu x1 x2 (0 : Int32) (0 : Int32) p9.2 _ _ h)
        · replace h := zy_ifn h b10
          refine zy_3 rfl rfl (show zyR _ _ _ _ [some (.ref (43 + 3)), some (.int x1), some (.int x2), none, none] [.int (-1 : Int32)] _ _ from ?_)
          cases h
          exact zy_4 rfl ⟨rfl, rfl⟩
/-! NineOpinions$Votes.leastFar(I)I -/
noncomputable def zyF124_44  (k5 : Int32 → Int32 → Int32 → zy_S → Option (Int32 × zy_S)) (x1 : Int32) (x2 : Int32) (x3 : Int32) (s : zy_S) : Option (Int32 × zy_S) :=
k5 x1 x2 (x3 + (1 : Int32)) s
theorem zyC124_44 {X : zx_X}  {k5 : Int32 → Int32 → Int32 → zy_S → Option (Int32 × zy_S)}  (hk5 : ∀ (x1 : Int32) (x2 : Int32) (x3 : Int32) (s : zy_S) (r : Int32) (s' : zy_S), k5 x1 x2 x3 s = some (r, s') → zyR X 4 124 5 [some (.ref (16 + 3)), some (.int x1), some (.int x2), some (.int x3)] [] s (zyE (some (.int r)) s')) {x1 : Int32} {x2 : Int32} {x3 : Int32} {s : zy_S} {r : Int32} {s' : zy_S}  (h : zyF124_44 k5 x1 x2 x3 s = some (r, s')) : zyR X 4 124 44 [some (.ref (16 + 3)), some (.int x1), some (.int x2), some (.int x3)] [] s (zyE (some (.int r)) s') := by
  unfold zyF124_44 at h
  refine zy_22 rfl rfl rfl rfl (show zyR _ _ _ _ [some (.ref (16 + 3)), some (.int x1), some (.int x2), some (.int (x3 + (1 : Int32)))] [] _ _ from ?_)
  refine zy_6 rfl (show zyR _ _ _ _ [some (.ref (16 + 3)), some (.int x1), some (.int x2), some (.int (x3 + (1 : Int32)))] [] _ _ from ?_)
  exact zy_sub (show zy_le [some (.ref (16 + 3)), some (.int x1), some (.int x2), some (.int (x3 + (1 : Int32)))] [some (.ref (16 + 3)), some (.int x1), some (.int x2), some (.int (x3 + (1 : Int32)))] from ⟨rfl, ⟨rfl, ⟨rfl, ⟨rfl, trivial⟩⟩⟩⟩) (hk5 x1 x2 (x3 + (1 : Int32)) s _ _ h)
noncomputable def zyF124_42  (k5 : Int32 → Int32 → Int32 → zy_S → Option (Int32 × zy_S)) (x1 : Int32) (x3 : Int32) (s : zy_S) : Option (Int32 × zy_S) :=
zyF124_44 k5 x1 x3 x3 s
theorem zyC124_42 {X : zx_X}  {k5 : Int32 → Int32 → Int32 → zy_S → Option (Int32 × zy_S)}  (hk5 : ∀ (x1 : Int32) (x2 : Int32) (x3 : Int32) (s : zy_S) (r : Int32) (s' : zy_S), k5 x1 x2 x3 s = some (r, s') → zyR X 4 124 5 [some (.ref (16 + 3)), some (.int x1), some (.int x2), some (.int x3)] [] s (zyE (some (.int r)) s')) {x1 : Int32} {x3 : Int32} {s : zy_S} {r : Int32} {s' : zy_S}  (h : zyF124_42 k5 x1 x3 s = some (r, s')) : zyR X 4 124 42 [some (.ref (16 + 3)), some (.int x1), none, some (.int x3)] [] s (zyE (some (.int r)) s') := by
  unfold zyF124_42 at h
  refine zy_2 rfl rfl (show zyR _ _ _ _ [some (.ref (16 + 3)), some (.int x1), none, some (.int x3)] [.int x3] _ _ from ?_)
  refine zy_23 rfl rfl (show zyR _ _ _ _ [some (.ref (16 + 3)), some (.int x1), some (.int x3), some (.int x3)] [] _ _ from ?_)
  exact zy_sub (show zy_le [some (.ref (16 + 3)), some (.int x1), some (.int x3), some (.int x3)] [some (.ref (16 + 3)), some (.int x1), some (.int x3), some (.int x3)] from ⟨rfl, ⟨rfl, ⟨rfl, ⟨rfl, trivial⟩⟩⟩⟩) (zyC124_44 hk5 h)
noncomputable def zyF124_5b  (k5 : Int32 → Int32 → Int32 → zy_S → Option (Int32 × zy_S)) (x1 : Int32) (x2 : Int32) (x3 : Int32) (s : zy_S) : Option (Int32 × zy_S) :=
if (s.1 1 5) ≤ x3 then
some (x2, s)
else
if x3 = x1 then
zyF124_44 k5 x1 x2 x3 s
else
if x2 = (-2 : Int32) then
zyF124_42 k5 x1 x3 s
else
(zyF122 x1 x3 s).bind fun p1 =>
(zyF122 x1 x2 p1.2).bind fun p2 =>
if p2.1 ≤ p1.1 then
zyF124_44 k5 x1 x2 x3 p2.2
else
zyF124_42 k5 x1 x3 p2.2
theorem zyC124_5b {X : zx_X}  {k5 : Int32 → Int32 → Int32 → zy_S → Option (Int32 × zy_S)}  (hk5 : ∀ (x1 : Int32) (x2 : Int32) (x3 : Int32) (s : zy_S) (r : Int32) (s' : zy_S), k5 x1 x2 x3 s = some (r, s') → zyR X 4 124 5 [some (.ref (16 + 3)), some (.int x1), some (.int x2), some (.int x3)] [] s (zyE (some (.int r)) s')) {x1 : Int32} {x2 : Int32} {x3 : Int32} {s : zy_S} {r : Int32} {s' : zy_S}  (h : zyF124_5b k5 x1 x2 x3 s = some (r, s')) : zyR X 4 124 5 [some (.ref (16 + 3)), some (.int x1), some (.int x2), some (.int x3)] [] s (zyE (some (.int r)) s') := by
  unfold zyF124_5b at h
  refine zy_2 rfl rfl (show zyR _ _ _ _ [some (.ref (16 + 3)), some (.int x1), some (.int x2), some (.int x3)] [.int x3] _ _ from ?_)
  refine zy_0 rfl rfl (show zyR _ _ _ _ [some (.ref (16 + 3)), some (.int x1), some (.int x2), some (.int x3)] [.ref (16 + 3), .int x3] _ _ from ?_)
  refine zy_1r (c := 16) rfl rfl rfl (show zyR _ _ _ _ [some (.ref (16 + 3)), some (.int x1), some (.int x2), some (.int x3)] [.ref (1 + 3), .int x3] _ _ from ?_)
  refine zy_1 (c := 1) rfl rfl rfl (show zyR _ _ _ _ [some (.ref (16 + 3)), some (.int x1), some (.int x2), some (.int x3)] [.int (s.1 1 5), .int x3] _ _ from ?_)
  refine zy_25_3 rfl (fun b6 => (show zyR _ _ _ _ [some (.ref (16 + 3)), some (.int x1), some (.int x2), some (.int x3)] [] _ _ from ?_)) (fun b6 => (show zyR _ _ _ _ [some (.ref (16 + 3)), some (.int x1), some (.int x2), some (.int x3)] [] _ _ from ?_))
  · replace h := zy_ifp h b6
    refine zy_2 rfl rfl (show zyR _ _ _ _ [some (.ref (16 + 3)), some (.int x1), some (.int x2), some (.int x3)] [.int x2] _ _ from ?_)
    cases h
    exact zy_4 rfl ⟨rfl, rfl⟩
  · replace h := zy_ifn h b6
    refine zy_2 rfl rfl (show zyR _ _ _ _ [some (.ref (16 + 3)), some (.int x1), some (.int x2), some (.int x3)] [.int x3] _ _ from ?_)
    refine zy_2 rfl rfl (show zyR _ _ _ _ [some (.ref (16 + 3)), some (.int x1), some (.int x2), some (.int x3)] [.int x1, .int x3] _ _ from ?_)
    refine zy_25_0 rfl (fun b5 => (show zyR _ _ _ _ [some (.ref (16 + 3)), some (.int x1), some (.int x2), some (.int x3)] [] _ _ from ?_)) (fun b5 => (show zyR _ _ _ _ [some (.ref (16 + 3)), some (.int x1), some (.int x2), some (.int x3)] [] _ _ from ?_))
    · replace h := zy_ifp h b5
      exact zy_sub (show zy_le [some (.ref (16 + 3)), some (.int x1), some (.int x2), some (.int x3)] [some (.ref (16 + 3)), some (.int x1), some (.int x2), some (.int x3)] from ⟨rfl, ⟨rfl, ⟨rfl, ⟨rfl, trivial⟩⟩⟩⟩) (zyC124_44 hk5 h)
    · replace h := zy_ifn h b5
      refine zy_2 rfl rfl (show zyR _ _ _ _ [some (.ref (16 + 3)), some (.int x1), some (.int x2), some (.int x3)] [.int x2] _ _ from ?_)
      refine zy_3 rfl rfl (show zyR _ _ _ _ [some (.ref (16 + 3)), some (.int x1), some (.int x2), some (.int x3)] [.int (-2 : Int32), .int x2] _ _ from ?_)
      refine zy_25_0 rfl (fun b4 => (show zyR _ _ _ _ [some (.ref (16 + 3)), some (.int x1), some (.int x2), some (.int x3)] [] _ _ from ?_)) (fun b4 => (show zyR _ _ _ _ [some (.ref (16 + 3)), some (.int x1), some (.int x2), some (.int x3)] [] _ _ from ?_))
      · replace h := zy_ifp h b4
        exact zy_sub (show zy_le [some (.ref (16 + 3)), some (.int x1), none, some (.int x3)] [some (.ref (16 + 3)), some (.int x1), some (.int x2), some (.int x3)] from ⟨rfl, ⟨rfl, ⟨rfl, trivial⟩⟩⟩) (zyC124_42 hk5 h)
      · replace h := zy_ifn h b4
        refine zy_0 rfl rfl (show zyR _ _ _ _ [some (.ref (16 + 3)), some (.int x1), some (.int x2), some (.int x3)] [.ref (16 + 3)] _ _ from ?_)
        refine zy_2 rfl rfl (show zyR _ _ _ _ [some (.ref (16 + 3)), some (.int x1), some (.int x2), some (.int x3)] [.int x1, .ref (16 + 3)] _ _ from ?_)
        refine zy_2 rfl rfl (show zyR _ _ _ _ [some (.ref (16 + 3)), some (.int x1), some (.int x2), some (.int x3)] [.int x3, .int x1, .ref (16 + 3)] _ _ from ?_)
        obtain ⟨p1, hp1, h⟩ := zy_bind h
        refine zy_5 (c := 16) (as := [.int x1, .int x3]) (rest := []) (L := [some (.ref (16 + 3)), some (.int x1), some (.int x3), none, none]) (d' := 3) rfl rfl rfl (Nat.le_of_ble_eq_true rfl) (Nat.le_of_ble_eq_true rfl) rfl (Nat.le_of_ble_eq_true rfl) rfl rfl (zyC122 hp1) ?_
        show zyR _ _ _ _ [some (.ref (16 + 3)), some (.int x1), some (.int x2), some (.int x3)] [.int p1.1] _ _
        refine zy_0 rfl rfl (show zyR _ _ _ _ [some (.ref (16 + 3)), some (.int x1), some (.int x2), some (.int x3)] [.ref (16 + 3), .int p1.1] _ _ from ?_)
        refine zy_2 rfl rfl (show zyR _ _ _ _ [some (.ref (16 + 3)), some (.int x1), some (.int x2), some (.int x3)] [.int x1, .ref (16 + 3), .int p1.1] _ _ from ?_)
        refine zy_2 rfl rfl (show zyR _ _ _ _ [some (.ref (16 + 3)), some (.int x1), some (.int x2), some (.int x3)] [.int x2, .int x1, .ref (16 + 3), .int p1.1] _ _ from ?_)
        obtain ⟨p2, hp2, h⟩ := zy_bind h
        refine zy_5 (c := 16) (as := [.int x1, .int x2]) (rest := [.int p1.1]) (L := [some (.ref (16 + 3)), some (.int x1), some (.int x2), none, none]) (d' := 3) rfl rfl rfl (Nat.le_of_ble_eq_true rfl) (Nat.le_of_ble_eq_true rfl) rfl (Nat.le_of_ble_eq_true rfl) rfl rfl (zyC122 hp2) ?_
        show zyR _ _ _ _ [some (.ref (16 + 3)), some (.int x1), some (.int x2), some (.int x3)] [.int p2.1, .int p1.1] _ _
        refine zy_25_3 rfl (fun b3 => (show zyR _ _ _ _ [some (.ref (16 + 3)), some (.int x1), some (.int x2), some (.int x3)] [] _ _ from ?_)) (fun b3 => (show zyR _ _ _ _ [some (.ref (16 + 3)), some (.int x1), some (.int x2), some (.int x3)] [] _ _ from ?_))
        · replace h := zy_ifp h b3
          exact zy_sub (show zy_le [some (.ref (16 + 3)), some (.int x1), some (.int x2), some (.int x3)] [some (.ref (16 + 3)), some (.int x1), some (.int x2), some (.int x3)] from ⟨rfl, ⟨rfl, ⟨rfl, ⟨rfl, trivial⟩⟩⟩⟩) (zyC124_44 hk5 h)
        · replace h := zy_ifn h b3
          exact zy_sub (show zy_le [some (.ref (16 + 3)), some (.int x1), none, some (.int x3)] [some (.ref (16 + 3)), some (.int x1), some (.int x2), some (.int x3)] from ⟨rfl, ⟨rfl, ⟨rfl, trivial⟩⟩⟩) (zyC124_42 hk5 h)
noncomputable def zyF124_5   (n : Nat) : Int32 → Int32 → Int32 → zy_S → Option (Int32 × zy_S) := Nat.rec (fun _ _ _ _ => none) (fun _ k5 => zyF124_5b k5) n
theorem zyC124_5 {X : zx_X}     : ∀ (n : Nat) (x1 : Int32) (x2 : Int32) (x3 : Int32) (s : zy_S) (r : Int32) (s' : zy_S), zyF124_5 n x1 x2 x3 s = some (r, s') → zyR X 4 124 5 [some (.ref (16 + 3)), some (.int x1), some (.int x2), some (.int x3)] [] s (zyE (some (.int r)) s')
  | 0, _, _, _ => by
    intro s r s'  h
    have h : (none : Option (Int32 × zy_S)) = some (r, s') := h
    cases h
  | n + 1, x1, x2, x3 => by
    intro s r s'  h
    exact zyC124_5b (k5 := zyF124_5 n) (fun x1 x2 x3 s r s'  h => zyC124_5  n x1 x2 x3 s r s'  h) h
noncomputable def zyF124   (x1 : Int32) (s : zy_S) : Option (Int32 × zy_S) :=
zyF124_5 zy_fu x1 (-2 : Int32) (0 : Int32) s
theorem zyC124 {X : zx_X}     {x1 : Int32} {s : zy_S} {r : Int32} {s' : zy_S}  (h : zyF124 x1 s = some (r, s')) : zyR X 4 124 0 [some (.ref (16 + 3)), some (.int x1), none, none] [] s (zyE (some (.int r)) s') := by
  unfold zyF124 at h
  refine zy_3 rfl rfl (show zyR _ _ _ _ [some (.ref (16 + 3)), some (.int x1), none, none] [.int (-2 : Int32)] _ _ from ?_)
  refine zy_23 rfl rfl (show zyR _ _ _ _ [some (.ref (16 + 3)), some (.int x1), some (.int (-2 : Int32)), none] [] _ _ from ?_)
  refine zy_3 rfl rfl (show zyR _ _ _ _ [some (.ref (16 + 3)), some (.int x1), some (.int (-2 : Int32)), none] [.int (0 : Int32)] _ _ from ?_)
  refine zy_23 rfl rfl (show zyR _ _ _ _ [some (.ref (16 + 3)), some (.int x1), some (.int (-2 : Int32)), some (.int (0 : Int32))] [] _ _ from ?_)
  exact zy_sub (show zy_le [some (.ref (16 + 3)), some (.int x1), some (.int (-2 : Int32)), some (.int (0 : Int32))] [some (.ref (16 + 3)), some (.int x1), some (.int (-2 : Int32)), some (.int (0 : Int32))] from ⟨rfl, ⟨rfl, ⟨rfl, ⟨rfl, trivial⟩⟩⟩⟩) (zyC124_5 zy_fu x1 (-2 : Int32) (0 : Int32) s _ _ h)
/-! NineOpinions.like(I)I -/
noncomputable def zyF123   (x1 : Int32) (s : zy_S) : Option (Int32 × zy_S) :=
(zyF25 (0 : Int32) x1 s).bind fun p1 =>
if p1.1 = 0 then
some ((-1 : Int32), p1.2)
else
(zyF124 x1 p1.2).bind fun p2 =>
some (p2.1, p2.2)
theorem zyC123 {X : zx_X}     {x1 : Int32} {s : zy_S} {r : Int32} {s' : zy_S}  (h : zyF123 x1 s = some (r, s')) : zyR X 5 123 0 [some (.ref (0 + 3)), some (.int x1)] [] s (zyE (some (.int r)) s') := by
  unfold zyF123 at h
  refine zy_0 rfl rfl (show zyR _ _ _ _ [some (.ref (0 + 3)), some (.int x1)] [.ref (0 + 3)] _ _ from ?_)
  refine zy_1r (c := 0) rfl rfl rfl (show zyR _ _ _ _ [some (.ref (0 + 3)), some (.int x1)] [.ref (1 + 3)] _ _ from ?_)
  refine zy_3 rfl rfl (show zyR _ _ _ _ [some (.ref (0 + 3)), some (.int x1)] [.int (0 : Int32), .ref (1 + 3)] _ _ from ?_)
  refine zy_2 rfl rfl (show zyR _ _ _ _ [some (.ref (0 + 3)), some (.int x1)] [.int x1, .int (0 : Int32), .ref (1 + 3)] _ _ from ?_)
  obtain ⟨p1, hp1, h⟩ := zy_bind h
  refine zy_5 (c := 1) (as := [.int (0 : Int32), .int x1]) (rest := []) (L := [some (.ref (1 + 3)), some (.int (0 : Int32)), some (.int x1)]) (d' := 2) rfl rfl rfl (Nat.le_of_ble_eq_true rfl) (Nat.le_of_ble_eq_true rfl) rfl (Nat.le_of_ble_eq_true rfl) rfl rfl (zyC25 hp1) ?_
  show zyR _ _ _ _ [some (.ref (0 + 3)), some (.int x1)] [.int p1.1] _ _
  refine zy_24_0 rfl (fun b3 => (show zyR _ _ _ _ [some (.ref (0 + 3)), some (.int x1)] [] _ _ from ?_)) (fun b3 => (show zyR _ _ _ _ [some (.ref (0 + 3)), some (.int x1)] [] _ _ from ?_))
  · replace h := zy_ifp h b3
    refine zy_3 rfl rfl (show zyR _ _ _ _ [some (.ref (0 + 3)), some (.int x1)] [.int (-1 : Int32)] _ _ from ?_)
    cases h
    exact zy_4 rfl ⟨rfl, rfl⟩
  · replace h := zy_ifn h b3
    refine zy_0 rfl rfl (show zyR _ _ _ _ [some (.ref (0 + 3)), some (.int x1)] [.ref (0 + 3)] _ _ from ?_)
    refine zy_1r (c := 0) rfl rfl rfl (show zyR _ _ _ _ [some (.ref (0 + 3)), some (.int x1)] [.ref (16 + 3)] _ _ from ?_)
    refine zy_2 rfl rfl (show zyR _ _ _ _ [some (.ref (0 + 3)), some (.int x1)] [.int x1, .ref (16 + 3)] _ _ from ?_)
    obtain ⟨p2, hp2, h⟩ := zy_bind h
    refine zy_5 (c := 16) (as := [.int x1]) (rest := []) (L := [some (.ref (16 + 3)), some (.int x1), none, none]) (d' := 4) rfl rfl rfl (Nat.le_of_ble_eq_true rfl) (Nat.le_of_ble_eq_true rfl) rfl (Nat.le_of_ble_eq_true rfl) rfl rfl (zyC124 hp2) ?_
    show zyR _ _ _ _ [some (.ref (0 + 3)), some (.int x1)] [.int p2.1] _ _
    refine zy_6 rfl (show zyR _ _ _ _ [some (.ref (0 + 3)), some (.int x1)] [.int p2.1] _ _ from ?_)
    cases h
    exact zy_4 rfl ⟨rfl, rfl⟩
/-! NineOpinionsModel.like(I)I -/
noncomputable def zyF236_50  (k16 : Int32 → Int32 → Int32 → zy_S → Option (Int32 × zy_S)) (x1 : Int32) (x2 : Int32) (x3 : Int32) (s : zy_S) : Option (Int32 × zy_S) :=
k16 x1 x2 (x3 + (1 : Int32)) s
theorem zyC236_50 {X : zx_X}  {k16 : Int32 → Int32 → Int32 → zy_S → Option (Int32 × zy_S)}  (hk16 : ∀ (x1 : Int32) (x2 : Int32) (x3 : Int32) (s : zy_S) (r : Int32) (s' : zy_S), k16 x1 x2 x3 s = some (r, s') → zyR X 4 236 16 [some (.ref (43 + 3)), some (.int x1), some (.int x2), some (.int x3)] [] s (zyE (some (.int r)) s')) {x1 : Int32} {x2 : Int32} {x3 : Int32} {s : zy_S} {r : Int32} {s' : zy_S}  (h : zyF236_50 k16 x1 x2 x3 s = some (r, s')) : zyR X 4 236 50 [some (.ref (43 + 3)), some (.int x1), some (.int x2), some (.int x3)] [] s (zyE (some (.int r)) s') := by
  unfold zyF236_50 at h
  refine zy_22 rfl rfl rfl rfl (show zyR _ _ _ _ [some (.ref (43 + 3)), some (.int x1), some (.int x2), some (.int (x3 + (1 : Int32)))] [] _ _ from ?_)
  refine zy_6 rfl (show zyR _ _ _ _ [some (.ref (43 + 3)), some (.int x1), some (.int x2), some (.int (x3 + (1 : Int32)))] [] _ _ from ?_)
  exact zy_sub (show zy_le [some (.ref (43 + 3)), some (.int x1), some (.int x2), some (.int (x3 + (1 : Int32)))] [some (.ref (43 + 3)), some (.int x1), some (.int x2), some (.int (x3 + (1 : Int32)))] from ⟨rfl, ⟨rfl, ⟨rfl, ⟨rfl, trivial⟩⟩⟩⟩) (hk16 x1 x2 (x3 + (1 : Int32)) s _ _ h)
noncomputable def zyF236_48  (k16 : Int32 → Int32 → Int32 → zy_S → Option (Int32 × zy_S)) (x1 : Int32) (x3 : Int32) (s : zy_S) : Option (Int32 × zy_S) :=
zyF236_50 k16 x1 x3 x3 s
theorem zyC236_48 {X : zx_X}  {k16 : Int32 → Int32 → Int32 → zy_S → Option (Int32 × zy_S)}  (hk16 : ∀ (x1 : Int32) (x2 : Int32) (x3 : Int32) (s : zy_S) (r : Int32) (s' : zy_S), k16 x1 x2 x3 s = some (r, s') → zyR X 4 236 16 [some (.ref (43 + 3)), some (.int x1), some (.int x2), some (.int x3)] [] s (zyE (some (.int r)) s')) {x1 : Int32} {x3 : Int32} {s : zy_S} {r : Int32} {s' : zy_S}  (h : zyF236_48 k16 x1 x3 s = some (r, s')) : zyR X 4 236 48 [some (.ref (43 + 3)), some (.int x1), none, some (.int x3)] [] s (zyE (some (.int r)) s') := by
  unfold zyF236_48 at h
  refine zy_2 rfl rfl (show zyR _ _ _ _ [some (.ref (43 + 3)), some (.int x1), none, some (.int x3)] [.int x3] _ _ from ?_)
  refine zy_23 rfl rfl (show zyR _ _ _ _ [some (.ref (43 + 3)), some (.int x1), some (.int x3), some (.int x3)] [] _ _ from ?_)
  exact zy_sub (show zy_le [some (.ref (43 + 3)), some (.int x1), some (.int x3), some (.int x3)] [some (.ref (43 + 3)), some (.int x1), some (.int x3), some (.int x3)] from ⟨rfl, ⟨rfl, ⟨rfl, ⟨rfl, trivial⟩⟩⟩⟩) (zyC236_50 hk16 h)
noncomputable def zyF236_16b  (k16 : Int32 → Int32 → Int32 → zy_S → Option (Int32 × zy_S)) (x1 : Int32) (x2 : Int32) (x3 : Int32) (s : zy_S) : Option (Int32 × zy_S) :=
if (s.1 43 6) ≤ x3 then
some (x2, s)
else
if x3 = x1 then
zyF236_50 k16 x1 x2 x3 s
else
if x2 < 0 then
zyF236_48 k16 x1 x3 s
else
(zyF235 x1 x3 s).bind fun p1 =>
(zyF235 x1 x2 p1.2).bind fun p2 =>
if p2.1 ≤ p1.1 then
zyF236_50 k16 x1 x2 x3 p2.2
else
zyF236_48 k16 x1 x3 p2.2
theorem zyC236_16b {X : zx_X}  {k16 : Int32 → Int32 → Int32 → zy_S → Option (Int32 × zy_S)}  (hk16 : ∀ (x1 : Int32) (x2 : Int32) (x3 : Int32) (s : zy_S) (r : Int32) (s' : zy_S), k16 x1 x2 x3 s = some (r, s') → zyR X 4 236 16 [some (.ref (43 + 3)), some (.int x1), some (.int x2), some (.int x3)] [] s (zyE (some (.int r)) s')) {x1 : Int32} {x2 : Int32} {x3 : Int32} {s : zy_S} {r : Int32} {s' : zy_S}  (h : zyF236_16b k16 x1 x2 x3 s = some (r, s')) : zyR X 4 236 16 [some (.ref (43 + 3)), some (.int x1), some (.int x2), some (.int x3)] [] s (zyE (some (.int r)) s') := by
  unfold zyF236_16b at h
  refine zy_2 rfl rfl (show zyR _ _ _ _ [some (.ref (43 + 3)), some (.int x1), some (.int x2), some (.int x3)] [.int x3] _ _ from ?_)
  refine zy_0 rfl rfl (show zyR _ _ _ _ [some (.ref (43 + 3)), some (.int x1), some (.int x2), some (.int x3)] [.ref (43 + 3), .int x3] _ _ from ?_)
  refine zy_1 (c := 43) rfl rfl rfl (show zyR _ _ _ _ [some (.ref (43 + 3)), some (.int x1), some (.int x2), some (.int x3)] [.int (s.1 43 6), .int x3] _ _ from ?_)
  refine zy_25_3 rfl (fun b6 => (show zyR _ _ _ _ [some (.ref (43 + 3)), some (.int x1), some (.int x2), some (.int x3)] [] _ _ from ?_)) (fun b6 => (show zyR _ _ _ _ [some (.ref (43 + 3)), some (.int x1), some (.int x2), some (.int x3)] [] _ _ from ?_))
  · replace h := zy_ifp h b6
    refine zy_2 rfl rfl (show zyR _ _ _ _ [some (.ref (43 + 3)), some (.int x1), some (.int x2), some (.int x3)] [.int x2] _ _ from ?_)
    cases h
    exact zy_4 rfl ⟨rfl, rfl⟩
  · replace h := zy_ifn h b6
    refine zy_2 rfl rfl (show zyR _ _ _ _ [some (.ref (43 + 3)), some (.int x1), some (.int x2), some (.int x3)] [.int x3] _ _ from ?_)
    refine zy_2 rfl rfl (show zyR _ _ _ _ [some (.ref (43 + 3)), some (.int x1), some (.int x2), some (.int x3)] [.int x1, .int x3] _ _ from ?_)
    refine zy_25_0 rfl (fun b5 => (show zyR _ _ _ _ [some (.ref (43 + 3)), some (.int x1), some (.int x2), some (.int x3)] [] _ _ from ?_)) (fun b5 => (show zyR _ _ _ _ [some (.ref (43 + 3)), some (.int x1), some (.int x2), some (.int x3)] [] _ _ from ?_))
    · replace h := zy_ifp h b5
      exact zy_sub (show zy_le [some (.ref (43 + 3)), some (.int x1), some (.int x2), some (.int x3)] [some (.ref (43 + 3)), some (.int x1), some (.int x2), some (.int x3)] from ⟨rfl, ⟨rfl, ⟨rfl, ⟨rfl, trivial⟩⟩⟩⟩) (zyC236_50 hk16 h)
    · replace h := zy_ifn h b5
      refine zy_2 rfl rfl (show zyR _ _ _ _ [some (.ref (43 + 3)), some (.int x1), some (.int x2), some (.int x3)] [.int x2] _ _ from ?_)
      refine zy_24_2 rfl (fun b4 => (show zyR _ _ _ _ [some (.ref (43 + 3)), some (.int x1), some (.int x2), some (.int x3)] [] _ _ from ?_)) (fun b4 => (show zyR _ _ _ _ [some (.ref (43 + 3)), some (.int x1), some (.int x2), some (.int x3)] [] _ _ from ?_))
      · replace h := zy_ifp h b4
        exact zy_sub (show zy_le [some (.ref (43 + 3)), some (.int x1), none, some (.int x3)] [some (.ref (43 + 3)), some (.int x1), some (.int x2), some (.int x3)] from ⟨rfl, ⟨rfl, ⟨rfl, trivial⟩⟩⟩) (zyC236_48 hk16 h)
      · replace h := zy_ifn h b4
        refine zy_0 rfl rfl (show zyR _ _ _ _ [some (.ref (43 + 3)), some (.int x1), some (.int x2), some (.int x3)] [.ref (43 + 3)] _ _ from ?_)
        refine zy_2 rfl rfl (show zyR _ _ _ _ [some (.ref (43 + 3)), some (.int x1), some (.int x2), some (.int x3)] [.int x1, .ref (43 + 3)] _ _ from ?_)
        refine zy_2 rfl rfl (show zyR _ _ _ _ [some (.ref (43 + 3)), some (.int x1), some (.int x2), some (.int x3)] [.int x3, .int x1, .ref (43 + 3)] _ _ from ?_)
        obtain ⟨p1, hp1, h⟩ := zy_bind h
        refine zy_5 (c := 43) (as := [.int x1, .int x3]) (rest := []) (L := [some (.ref (43 + 3)), some (.int x1), some (.int x3), none, none, none]) (d' := 3) rfl rfl rfl (Nat.le_of_ble_eq_true rfl) (Nat.le_of_ble_eq_true rfl) rfl (Nat.le_of_ble_eq_true rfl) rfl rfl (zyC235 hp1) ?_
        show zyR _ _ _ _ [some (.ref (43 + 3)), some (.int x1), some (.int x2), some (.int x3)] [.int p1.1] _ _
        refine zy_0 rfl rfl (show zyR _ _ _ _ [some (.ref (43 + 3)), some (.int x1), some (.int x2), some (.int x3)] [.ref (43 + 3), .int p1.1] _ _ from ?_)
        refine zy_2 rfl rfl (show zyR _ _ _ _ [some (.ref (43 + 3)), some (.int x1), some (.int x2), some (.int x3)] [.int x1, .ref (43 + 3), .int p1.1] _ _ from ?_)
        refine zy_2 rfl rfl (show zyR _ _ _ _ [some (.ref (43 + 3)), some (.int x1), some (.int x2), some (.int x3)] [.int x2, .int x1, .ref (43 + 3), .int p1.1] _ _ from ?_)
        obtain ⟨p2, hp2, h⟩ := zy_bind h
        refine zy_5 (c := 43) (as := [.int x1, .int x2]) (rest := [.int p1.1]) (L := [some (.ref (43 + 3)), some (.int x1), some (.int x2), none, none, none]) (d' := 3) rfl rfl rfl (Nat.le_of_ble_eq_true rfl) (Nat.le_of_ble_eq_true rfl) rfl (Nat.le_of_ble_eq_true rfl) rfl rfl (zyC235 hp2) ?_
        show zyR _ _ _ _ [some (.ref (43 + 3)), some (.int x1), some (.int x2), some (.int x3)] [.int p2.1, .int p1.1] _ _
        refine zy_25_3 rfl (fun b3 => (show zyR _ _ _ _ [some (.ref (43 + 3)), some (.int x1), some (.int x2), some (.int x3)] [] _ _ from ?_)) (fun b3 => (show zyR _ _ _ _ [some (.ref (43 + 3)), some (.int x1), some (.int x2), some (.int x3)] [] _ _ from ?_))
        · replace h := zy_ifp h b3
          exact zy_sub (show zy_le [some (.ref (43 + 3)), some (.int x1), some (.int x2), some (.int x3)] [some (.ref (43 + 3)), some (.int x1), some (.int x2), some (.int x3)] from ⟨rfl, ⟨rfl, ⟨rfl, ⟨rfl, trivial⟩⟩⟩⟩) (zyC236_50 hk16 h)
        · replace h := zy_ifn h b3
          exact zy_sub (show zy_le [some (.ref (43 + 3)), some (.int x1), none, some (.int x3)] [some (.ref (43 + 3)), some (.int x1), some (.int x2), some (.int x3)] from ⟨rfl, ⟨rfl, ⟨rfl, trivial⟩⟩⟩) (zyC236_48 hk16 h)
noncomputable def zyF236_16   (n : Nat) : Int32 → Int32 → Int32 → zy_S → Option (Int32 × zy_S) := Nat.rec (fun _ _ _ _ => none) (fun _ k16 => zyF236_16b k16) n
theorem zyC236_16 {X : zx_X}     : ∀ (n : Nat) (x1 : Int32) (x2 : Int32) (x3 : Int32) (s : zy_S) (r : Int32) (s' : zy_S), zyF236_16 n x1 x2 x3 s = some (r, s') → zyR X 4 236 16 [some (.ref (43 + 3)), some (.int x1), some (.int x2), some (.int x3)] [] s (zyE (some (.int r)) s')
  | 0, _, _, _ => by
    intro s r s'  h
    have h : (none : Option (Int32 × zy_S)) = some (r, s') := h
    cases h
  | n + 1, x1, x2, x3 => by
    intro s r s'  h
    exact zyC236_16b (k16 := zyF236_16 n) (fun x1 x2 x3 s r s'  h => zyC236_16  n x1 x2 x3 s r s'  h) h
noncomputable def zyF236   (x1 : Int32) (s : zy_S) : Option (Int32 × zy_S) :=
(zyF185 (x1).toInt64 s).bind fun p7 =>
if p7.1 ≠ 0 then
zyF236_16 zy_fu x1 (-2 : Int32) (0 : Int32) p7.2
else
some ((-1 : Int32), p7.2)
theorem zyC236 {X : zx_X}     {x1 : Int32} {s : zy_S} {r : Int32} {s' : zy_S}  (h : zyF236 x1 s = some (r, s')) : zyR X 4 236 0 [some (.ref (43 + 3)), some (.int x1), none, none] [] s (zyE (some (.int r)) s') := by
  unfold zyF236 at h
  refine zy_0 rfl rfl (show zyR _ _ _ _ [some (.ref (43 + 3)), some (.int x1), none, none] [.ref (43 + 3)] _ _ from ?_)
  refine zy_2 rfl rfl (show zyR _ _ _ _ [some (.ref (43 + 3)), some (.int x1), none, none] [.int x1, .ref (43 + 3)] _ _ from ?_)
  refine zy_40 rfl (show zyR _ _ _ _ [some (.ref (43 + 3)), some (.int x1), none, none] [.long (x1).toInt64, .ref (43 + 3)] _ _ from ?_)
  obtain ⟨p7, hp7, h⟩ := zy_bind h
  refine zy_5 (c := 43) (as := [.long (x1).toInt64]) (rest := []) (L := [some (.ref (43 + 3)), some (.long (x1).toInt64), none]) (d' := 2) rfl rfl rfl (Nat.le_of_ble_eq_true rfl) (Nat.le_of_ble_eq_true rfl) rfl (Nat.le_of_ble_eq_true rfl) rfl rfl (zyC185 hp7) ?_
  show zyR _ _ _ _ [some (.ref (43 + 3)), some (.int x1), none, none] [.int p7.1] _ _
  refine zy_24_1 rfl (fun b8 => (show zyR _ _ _ _ [some (.ref (43 + 3)), some (.int x1), none, none] [] _ _ from ?_)) (fun b8 => (show zyR _ _ _ _ [some (.ref (43 + 3)), some (.int x1), none, none] [] _ _ from ?_))
  · replace h := zy_ifp h b8
    refine zy_3 rfl rfl (show zyR _ _ _ _ [some (.ref (43 + 3)), some (.int x1), none, none] [.int (-2 : Int32)] _ _ from ?_)
    refine zy_23 rfl rfl (show zyR _ _ _ _ [some (.ref (43 + 3)), some (.int x1), some (.int (-2 : Int32)), none] [] _ _ from ?_)
    refine zy_3 rfl rfl (show zyR _ _ _ _ [some (.ref (43 + 3)), some (.int x1), some (.int (-2 : Int32)), none] [.int (0 : Int32)] _ _ from ?_)
    refine zy_23 rfl rfl (show zyR _ _ _ _ [some (.ref (43 + 3)), some (.int x1), some (.int (-2 : Int32)), some (.int (0 : Int32))] [] _ _ from ?_)
    exact zy_sub (show zy_le [some (.ref (43 + 3)), some (.int x1), some (.int (-2 : Int32)), some (.int (0 : Int32))] [some (.ref (43 + 3)), some (.int x1), some (.int (-2 : Int32)), some (.int (0 : Int32))] from ⟨rfl, ⟨rfl, ⟨rfl, ⟨rfl, trivial⟩⟩⟩⟩) (zyC236_16 zy_fu x1 (-2 : Int32) (0 : Int32) p7.2 _ _ h)
  · replace h := zy_ifn h b8
    refine zy_3 rfl rfl (show zyR _ _ _ _ [some (.ref (43 + 3)), some (.int x1), none, none] [.int (-1 : Int32)] _ _ from ?_)
    cases h
    exact zy_4 rfl ⟨rfl, rfl⟩
/-! NineOpinions.viewsOn(II)I -/
noncomputable def zyF57   (x0 : Int32) (x1 : Int32) (s : zy_S) : Option (Int32 × zy_S) :=
some (((x0 >>> (((4 : Int32) * x1) &&& 31)) &&& (15 : Int32)), s)
theorem zyC57 {X : zx_X}     {x0 : Int32} {x1 : Int32} {s : zy_S} {r : Int32} {s' : zy_S}  (h : zyF57 x0 x1 s = some (r, s')) : zyR X 1 57 0 [some (.int x0), some (.int x1)] [] s (zyE (some (.int r)) s') := by
  unfold zyF57 at h
  refine zy_2 rfl rfl (show zyR _ _ _ _ [some (.int x0), some (.int x1)] [.int x0] _ _ from ?_)
  refine zy_3 rfl rfl (show zyR _ _ _ _ [some (.int x0), some (.int x1)] [.int (4 : Int32), .int x0] _ _ from ?_)
  refine zy_2 rfl rfl (show zyR _ _ _ _ [some (.int x0), some (.int x1)] [.int x1, .int (4 : Int32), .int x0] _ _ from ?_)
  refine zy_12 rfl (show zyR _ _ _ _ [some (.int x0), some (.int x1)] [.int ((4 : Int32) * x1), .int x0] _ _ from ?_)
  refine zy_17 rfl (show zyR _ _ _ _ [some (.int x0), some (.int x1)] [.int (x0 >>> (((4 : Int32) * x1) &&& 31))] _ _ from ?_)
  refine zy_3 rfl rfl (show zyR _ _ _ _ [some (.int x0), some (.int x1)] [.int (15 : Int32), .int (x0 >>> (((4 : Int32) * x1) &&& 31))] _ _ from ?_)
  refine zy_13 rfl (show zyR _ _ _ _ [some (.int x0), some (.int x1)] [.int ((x0 >>> (((4 : Int32) * x1) &&& 31)) &&& (15 : Int32))] _ _ from ?_)
  cases h
  exact zy_4 rfl ⟨rfl, rfl⟩
/-! NineOpinions.matters(I)I -/
noncomputable def zyF102_102  (k15 : Int32 → Int32 → Int32 → zy_S → Option (Int32 × zy_S)) (x1 : Int32) (x3 : Int32) (y0 : Int32) (y1 : Int32) (s : zy_S) : Option (Int32 × zy_S) :=
k15 x1 (y1 ||| y0) (x3 + (1 : Int32)) s
theorem zyC102_102 {X : zx_X}  {k15 : Int32 → Int32 → Int32 → zy_S → Option (Int32 × zy_S)}  (hk15 : ∀ (x1 : Int32) (x2 : Int32) (x3 : Int32) (s : zy_S) (r : Int32) (s' : zy_S), k15 x1 x2 x3 s = some (r, s') → zyR X 2 102 15 [some (.ref (0 + 3)), some (.int x1), some (.int x2), some (.int x3), none, none] [] s (zyE (some (.int r)) s')) {x1 : Int32} {x3 : Int32} {y0 : Int32} {y1 : Int32} {s : zy_S} {r : Int32} {s' : zy_S}  (h : zyF102_102 k15 x1 x3 y0 y1 s = some (r, s')) : zyR X 2 102 102 [some (.ref (0 + 3)), some (.int x1), none, some (.int x3), none, none] [.int y0, .int y1] s (zyE (some (.int r)) s') := by
  unfold zyF102_102 at h
  refine zy_14 rfl (show zyR _ _ _ _ [some (.ref (0 + 3)), some (.int x1), none, some (.int x3), none, none] [.int (y1 ||| y0)] _ _ from ?_)
  refine zy_23 rfl rfl (show zyR _ _ _ _ [some (.ref (0 + 3)), some (.int x1), some (.int (y1 ||| y0)), some (.int x3), none, none] [] _ _ from ?_)
  refine zy_22 rfl rfl rfl rfl (show zyR _ _ _ _ [some (.ref (0 + 3)), some (.int x1), some (.int (y1 ||| y0)), some (.int (x3 + (1 : Int32))), none, none] [] _ _ from ?_)
  refine zy_6 rfl (show zyR _ _ _ _ [some (.ref (0 + 3)), some (.int x1), some (.int (y1 ||| y0)), some (.int (x3 + (1 : Int32))), none, none] [] _ _ from ?_)
  exact zy_sub (show zy_le [some (.ref (0 + 3)), some (.int x1), some (.int (y1 ||| y0)), some (.int (x3 + (1 : Int32))), none, none] [some (.ref (0 + 3)), some (.int x1), some (.int (y1 ||| y0)), some (.int (x3 + (1 : Int32))), none, none] from ⟨rfl, ⟨rfl, ⟨rfl, ⟨rfl, trivial⟩⟩⟩⟩) (hk15 x1 (y1 ||| y0) (x3 + (1 : Int32)) s _ _ h)
noncomputable def zyF102_87  (k15 : Int32 → Int32 → Int32 → zy_S → Option (Int32 × zy_S)) (x1 : Int32) (x2 : Int32) (x3 : Int32) (y0 : Int32) (s : zy_S) : Option (Int32 × zy_S) :=
if y0 = 0 then
zyF102_102 k15 x1 x3 (0 : Int32) x2 s
else
zyF102_102 k15 x1 x3 ((1 : Int32) <<< (x3 &&& 31)) x2 s
theorem zyC102_87 {X : zx_X}  {k15 : Int32 → Int32 → Int32 → zy_S → Option (Int32 × zy_S)}  (hk15 : ∀ (x1 : Int32) (x2 : Int32) (x3 : Int32) (s : zy_S) (r : Int32) (s' : zy_S), k15 x1 x2 x3 s = some (r, s') → zyR X 2 102 15 [some (.ref (0 + 3)), some (.int x1), some (.int x2), some (.int x3), none, none] [] s (zyE (some (.int r)) s')) {x1 : Int32} {x2 : Int32} {x3 : Int32} {y0 : Int32} {s : zy_S} {r : Int32} {s' : zy_S}  (h : zyF102_87 k15 x1 x2 x3 y0 s = some (r, s')) : zyR X 2 102 87 [some (.ref (0 + 3)), some (.int x1), some (.int x2), some (.int x3), none, none] [.int y0] s (zyE (some (.int r)) s') := by
  unfold zyF102_87 at h
  refine zy_23 rfl rfl (show zyR _ _ _ _ [some (.ref (0 + 3)), some (.int x1), some (.int x2), some (.int x3), none, some (.int y0)] [] _ _ from ?_)
  refine zy_2 rfl rfl (show zyR _ _ _ _ [some (.ref (0 + 3)), some (.int x1), some (.int x2), some (.int x3), none, some (.int y0)] [.int x2] _ _ from ?_)
  refine zy_2 rfl rfl (show zyR _ _ _ _ [some (.ref (0 + 3)), some (.int x1), some (.int x2), some (.int x3), none, some (.int y0)] [.int y0, .int x2] _ _ from ?_)
  refine zy_24_0 rfl (fun b1 => (show zyR _ _ _ _ [some (.ref (0 + 3)), some (.int x1), some (.int x2), some (.int x3), none, some (.int y0)] [.int x2] _ _ from ?_)) (fun b1 => (show zyR _ _ _ _ [some (.ref (0 + 3)), some (.int x1), some (.int x2), some (.int x3), none, some (.int y0)] [.int x2] _ _ from ?_))
  · replace h := zy_ifp h b1
    refine zy_3 rfl rfl (show zyR _ _ _ _ [some (.ref (0 + 3)), some (.int x1), some (.int x2), some (.int x3), none, some (.int y0)] [.int (0 : Int32), .int x2] _ _ from ?_)
    exact zy_sub (show zy_le [some (.ref (0 + 3)), some (.int x1), none, some (.int x3), none, none] [some (.ref (0 + 3)), some (.int x1), some (.int x2), some (.int x3), none, some (.int y0)] from ⟨rfl, ⟨rfl, ⟨rfl, trivial⟩⟩⟩) (zyC102_102 hk15 h)
  · replace h := zy_ifn h b1
    refine zy_3 rfl rfl (show zyR _ _ _ _ [some (.ref (0 + 3)), some (.int x1), some (.int x2), some (.int x3), none, some (.int y0)] [.int (1 : Int32), .int x2] _ _ from ?_)
    refine zy_2 rfl rfl (show zyR _ _ _ _ [some (.ref (0 + 3)), some (.int x1), some (.int x2), some (.int x3), none, some (.int y0)] [.int x3, .int (1 : Int32), .int x2] _ _ from ?_)
    refine zy_16 rfl (show zyR _ _ _ _ [some (.ref (0 + 3)), some (.int x1), some (.int x2), some (.int x3), none, some (.int y0)] [.int ((1 : Int32) <<< (x3 &&& 31)), .int x2] _ _ from ?_)
    refine zy_6 rfl (show zyR _ _ _ _ [some (.ref (0 + 3)), some (.int x1), some (.int x2), some (.int x3), none, some (.int y0)] [.int ((1 : Int32) <<< (x3 &&& 31)), .int x2] _ _ from ?_)
    exact zy_sub (show zy_le [some (.ref (0 + 3)), some (.int x1), none, some (.int x3), none, none] [some (.ref (0 + 3)), some (.int x1), some (.int x2), some (.int x3), none, some (.int y0)] from ⟨rfl, ⟨rfl, ⟨rfl, trivial⟩⟩⟩) (zyC102_102 hk15 h)
noncomputable def zyF102_86  (k15 : Int32 → Int32 → Int32 → zy_S → Option (Int32 × zy_S)) (x1 : Int32) (x2 : Int32) (x3 : Int32) (s : zy_S) : Option (Int32 × zy_S) :=
zyF102_87 k15 x1 x2 x3 (0 : Int32) s
theorem zyC102_86 {X : zx_X}  {k15 : Int32 → Int32 → Int32 → zy_S → Option (Int32 × zy_S)}  (hk15 : ∀ (x1 : Int32) (x2 : Int32) (x3 : Int32) (s : zy_S) (r : Int32) (s' : zy_S), k15 x1 x2 x3 s = some (r, s') → zyR X 2 102 15 [some (.ref (0 + 3)), some (.int x1), some (.int x2), some (.int x3), none, none] [] s (zyE (some (.int r)) s')) {x1 : Int32} {x2 : Int32} {x3 : Int32} {s : zy_S} {r : Int32} {s' : zy_S}  (h : zyF102_86 k15 x1 x2 x3 s = some (r, s')) : zyR X 2 102 86 [some (.ref (0 + 3)), some (.int x1), some (.int x2), some (.int x3), none, none] [] s (zyE (some (.int r)) s') := by
  unfold zyF102_86 at h
  refine zy_3 rfl rfl (show zyR _ _ _ _ [some (.ref (0 + 3)), some (.int x1), some (.int x2), some (.int x3), none, none] [.int (0 : Int32)] _ _ from ?_)
  exact zy_sub (show zy_le [some (.ref (0 + 3)), some (.int x1), some (.int x2), some (.int x3), none, none] [some (.ref (0 + 3)), some (.int x1), some (.int x2), some (.int x3), none, none] from ⟨rfl, ⟨rfl, ⟨rfl, ⟨rfl, trivial⟩⟩⟩⟩) (zyC102_87 hk15 h)
noncomputable def zyF102_82  (k15 : Int32 → Int32 → Int32 → zy_S → Option (Int32 × zy_S)) (x1 : Int32) (x2 : Int32) (x3 : Int32) (s : zy_S) : Option (Int32 × zy_S) :=
zyF102_87 k15 x1 x2 x3 (1 : Int32) s
theorem zyC102_82 {X : zx_X}  {k15 : Int32 → Int32 → Int32 → zy_S → Option (Int32 × zy_S)}  (hk15 : ∀ (x1 : Int32) (x2 : Int32) (x3 : Int32) (s : zy_S) (r : Int32) (s' : zy_S), k15 x1 x2 x3 s = some (r, s') → zyR X 2 102 15 [some (.ref (0 + 3)), some (.int x1), some (.int x2), some (.int x3), none, none] [] s (zyE (some (.int r)) s')) {x1 : Int32} {x2 : Int32} {x3 : Int32} {s : zy_S} {r : Int32} {s' : zy_S}  (h : zyF102_82 k15 x1 x2 x3 s = some (r, s')) : zyR X 2 102 82 [some (.ref (0 + 3)), some (.int x1), some (.int x2), some (.int x3), none, none] [] s (zyE (some (.int r)) s') := by
  unfold zyF102_82 at h
  refine zy_3 rfl rfl (show zyR _ _ _ _ [some (.ref (0 + 3)), some (.int x1), some (.int x2), some (.int x3), none, none] [.int (1 : Int32)] _ _ from ?_)
  refine zy_6 rfl (show zyR _ _ _ _ [some (.ref (0 + 3)), some (.int x1), some (.int x2), some (.int x3), none, none] [.int (1 : Int32)] _ _ from ?_)
  exact zy_sub (show zy_le [some (.ref (0 + 3)), some (.int x1), some (.int x2), some (.int x3), none, none] [some (.ref (0 + 3)), some (.int x1), some (.int x2), some (.int x3), none, none] from ⟨rfl, ⟨rfl, ⟨rfl, ⟨rfl, trivial⟩⟩⟩⟩) (zyC102_87 hk15 h)
noncomputable def zyF102_68  (k15 : Int32 → Int32 → Int32 → zy_S → Option (Int32 × zy_S)) (x1 : Int32) (x2 : Int32) (x3 : Int32) (x4 : Int32) (s : zy_S) : Option (Int32 × zy_S) :=
if x1 ≠ (2 : Int32) then
zyF102_86 k15 x1 x2 x3 s
else
(zyF63 x4 s).bind fun p2 =>
if p2.1 ≠ (1 : Int32) then
zyF102_86 k15 x1 x2 x3 p2.2
else
zyF102_82 k15 x1 x2 x3 p2.2
theorem zyC102_68 {X : zx_X}  {k15 : Int32 → Int32 → Int32 → zy_S → Option (Int32 × zy_S)}  (hk15 : ∀ (x1 : Int32) (x2 : Int32) (x3 : Int32) (s : zy_S) (r : Int32) (s' : zy_S), k15 x1 x2 x3 s = some (r, s') → zyR X 2 102 15 [some (.ref (0 + 3)), some (.int x1), some (.int x2), some (.int x3), none, none] [] s (zyE (some (.int r)) s')) {x1 : Int32} {x2 : Int32} {x3 : Int32} {x4 : Int32} {s : zy_S} {r : Int32} {s' : zy_S}  (h : zyF102_68 k15 x1 x2 x3 x4 s = some (r, s')) : zyR X 2 102 68 [some (.ref (0 + 3)), some (.int x1), some (.int x2), some (.int x3), some (.int x4), none] [] s (zyE (some (.int r)) s') := by
  unfold zyF102_68 at h
  refine zy_2 rfl rfl (show zyR _ _ _ _ [some (.ref (0 + 3)), some (.int x1), some (.int x2), some (.int x3), some (.int x4), none] [.int x1] _ _ from ?_)
  refine zy_3 rfl rfl (show zyR _ _ _ _ [some (.ref (0 + 3)), some (.int x1), some (.int x2), some (.int x3), some (.int x4), none] [.int (2 : Int32), .int x1] _ _ from ?_)
  refine zy_25_1 rfl (fun b4 => (show zyR _ _ _ _ [some (.ref (0 + 3)), some (.int x1), some (.int x2), some (.int x3), some (.int x4), none] [] _ _ from ?_)) (fun b4 => (show zyR _ _ _ _ [some (.ref (0 + 3)), some (.int x1), some (.int x2), some (.int x3), some (.int x4), none] [] _ _ from ?_))
  · replace h := zy_ifp h b4
    exact zy_sub (show zy_le [some (.ref (0 + 3)), some (.int x1), some (.int x2), some (.int x3), none, none] [some (.ref (0 + 3)), some (.int x1), some (.int x2), some (.int x3), some (.int x4), none] from ⟨rfl, ⟨rfl, ⟨rfl, ⟨rfl, trivial⟩⟩⟩⟩) (zyC102_86 hk15 h)
  · replace h := zy_ifn h b4
    refine zy_2 rfl rfl (show zyR _ _ _ _ [some (.ref (0 + 3)), some (.int x1), some (.int x2), some (.int x3), some (.int x4), none] [.int x4] _ _ from ?_)
    obtain ⟨p2, hp2, h⟩ := zy_bind h
    refine zy_60 (as := [.int x4]) (rest := []) (L := [some (.int x4)]) (d' := 1) rfl rfl (Nat.le_of_ble_eq_true rfl) (Nat.le_of_ble_eq_true rfl) rfl (Nat.le_of_ble_eq_true rfl) rfl rfl (zyC63 hp2) ?_
    show zyR _ _ _ _ [some (.ref (0 + 3)), some (.int x1), some (.int x2), some (.int x3), some (.int x4), none] [.int p2.1] _ _
    refine zy_3 rfl rfl (show zyR _ _ _ _ [some (.ref (0 + 3)), some (.int x1), some (.int x2), some (.int x3), some (.int x4), none] [.int (1 : Int32), .int p2.1] _ _ from ?_)
    refine zy_25_1 rfl (fun b3 => (show zyR _ _ _ _ [some (.ref (0 + 3)), some (.int x1), some (.int x2), some (.int x3), some (.int x4), none] [] _ _ from ?_)) (fun b3 => (show zyR _ _ _ _ [some (.ref (0 + 3)), some (.int x1), some (.int x2), some (.int x3), some (.int x4), none] [] _ _ from ?_))
    · replace h := zy_ifp h b3
      exact zy_sub (show zy_le [some (.ref (0 + 3)), some (.int x1), some (.int x2), some (.int x3), none, none] [some (.ref (0 + 3)), some (.int x1), some (.int x2), some (.int x3), some (.int x4), none] from ⟨rfl, ⟨rfl, ⟨rfl, ⟨rfl, trivial⟩⟩⟩⟩) (zyC102_86 hk15 h)
    · replace h := zy_ifn h b3
      exact zy_sub (show zy_le [some (.ref (0 + 3)), some (.int x1), some (.int x2), some (.int x3), none, none] [some (.ref (0 + 3)), some (.int x1), some (.int x2), some (.int x3), some (.int x4), none] from ⟨rfl, ⟨rfl, ⟨rfl, ⟨rfl, trivial⟩⟩⟩⟩) (zyC102_82 hk15 h)
noncomputable def zyF102_43  (k15 : Int32 → Int32 → Int32 → zy_S → Option (Int32 × zy_S)) (x1 : Int32) (x2 : Int32) (x3 : Int32) (x4 : Int32) (s : zy_S) : Option (Int32 × zy_S) :=
if x1 ≠ (1 : Int32) then
zyF102_68 k15 x1 x2 x3 x4 s
else
(zyF32 x4 (0 : Int32) s).bind fun p5 =>
if p5.1 ≠ (1 : Int32) then
zyF102_68 k15 x1 x2 x3 x4 p5.2
else
(zyF32 x4 (3 : Int32) p5.2).bind fun p6 =>
if p6.1 = (1 : Int32) then
zyF102_82 k15 x1 x2 x3 p6.2
else
zyF102_68 k15 x1 x2 x3 x4 p6.2
theorem zyC102_43 {X : zx_X}  {k15 : Int32 → Int32 → Int32 → zy_S → Option (Int32 × zy_S)}  (hk15 : ∀ (x1 : Int32) (x2 : Int32) (x3 : Int32) (s : zy_S) (r : Int32) (s' : zy_S), k15 x1 x2 x3 s = some (r, s') → zyR X 2 102 15 [some (.ref (0 + 3)), some (.int x1), some (.int x2), some (.int x3), none, none] [] s (zyE (some (.int r)) s')) {x1 : Int32} {x2 : Int32} {x3 : Int32} {x4 : Int32} {s : zy_S} {r : Int32} {s' : zy_S}  (h : zyF102_43 k15 x1 x2 x3 x4 s = some (r, s')) : zyR X 2 102 43 [some (.ref (0 + 3)), some (.int x1), some (.int x2), some (.int x3), some (.int x4), none] [] s (zyE (some (.int r)) s') := by
  unfold zyF102_43 at h
  refine zy_2 rfl rfl (show zyR _ _ _ _ [some (.ref (0 + 3)), some (.int x1), some (.int x2), some (.int x3), some (.int x4), none] [.int x1] _ _ from ?_)
  refine zy_3 rfl rfl (show zyR _ _ _ _ [some (.ref (0 + 3)), some (.int x1), some (.int x2), some (.int x3), some (.int x4), none] [.int (1 : Int32), .int x1] _ _ from ?_)
  refine zy_25_1 rfl (fun b9 => (show zyR _ _ _ _ [some (.ref (0 + 3)), some (.int x1), some (.int x2), some (.int x3), some (.int x4), none] [] _ _ from ?_)) (fun b9 => (show zyR _ _ _ _ [some (.ref (0 + 3)), some (.int x1), some (.int x2), some (.int x3), some (.int x4), none] [] _ _ from ?_))
  · replace h := zy_ifp h b9
    exact zy_sub (show zy_le [some (.ref (0 + 3)), some (.int x1), some (.int x2), some (.int x3), some (.int x4), none] [some (.ref (0 + 3)), some (.int x1), some (.int x2), some (.int x3), some (.int x4), none] from ⟨rfl, ⟨rfl, ⟨rfl, ⟨rfl, ⟨rfl, trivial⟩⟩⟩⟩⟩) (zyC102_68 hk15 h)
  · replace h := zy_ifn h b9
    refine zy_2 rfl rfl (show zyR _ _ _ _ [some (.ref (0 + 3)), some (.int x1), some (.int x2), some (.int x3), some (.int x4), none] [.int x4] _ _ from ?_)
    refine zy_3 rfl rfl (show zyR _ _ _ _ [some (.ref (0 + 3)), some (.int x1), some (.int x2), some (.int x3), some (.int x4), none] [.int (0 : Int32), .int x4] _ _ from ?_)
    obtain ⟨p5, hp5, h⟩ := zy_bind h
    refine zy_60 (as := [.int x4, .int (0 : Int32)]) (rest := []) (L := [some (.int x4), some (.int (0 : Int32))]) (d' := 1) rfl rfl (Nat.le_of_ble_eq_true rfl) (Nat.le_of_ble_eq_true rfl) rfl (Nat.le_of_ble_eq_true rfl) rfl rfl (zyC32 hp5) ?_
    show zyR _ _ _ _ [some (.ref (0 + 3)), some (.int x1), some (.int x2), some (.int x3), some (.int x4), none] [.int p5.1] _ _
    refine zy_3 rfl rfl (show zyR _ _ _ _ [some (.ref (0 + 3)), some (.int x1), some (.int x2), some (.int x3), some (.int x4), none] [.int (1 : Int32), .int p5.1] _ _ from ?_)
    refine zy_25_1 rfl (fun b8 => (show zyR _ _ _ _ [some (.ref (0 + 3)), some (.int x1), some (.int x2), some (.int x3), some (.int x4), none] [] _ _ from ?_)) (fun b8 => (show zyR _ _ _ _ [some (.ref (0 + 3)), some (.int x1), some (.int x2), some (.int x3), some (.int x4), none] [] _ _ from ?_))
    · replace h := zy_ifp h b8
      exact zy_sub (show zy_le [some (.ref (0 + 3)), some (.int x1), some (.int x2), some (.int x3), some (.int x4), none] [some (.ref (0 + 3)), some (.int x1), some (.int x2), some (.int x3), some (.int x4), none] from ⟨rfl, ⟨rfl, ⟨rfl, ⟨rfl, ⟨rfl, trivial⟩⟩⟩⟩⟩) (zyC102_68 hk15 h)
    · replace h := zy_ifn h b8
      refine zy_2 rfl rfl (show zyR _ _ _ _ [some (.ref (0 + 3)), some (.int x1), some (.int x2), some (.int x3), some (.int x4), none] [.int x4] _ _ from ?_)
      refine zy_3 rfl rfl (show zyR _ _ _ _ [some (.ref (0 + 3)), some (.int x1), some (.int x2), some (.int x3), some (.int x4), none] [.int (3 : Int32), .int x4] _ _ from ?_)
      obtain ⟨p6, hp6, h⟩ := zy_bind h
      refine zy_60 (as := [.int x4, .int (3 : Int32)]) (rest := []) (L := [some (.int x4), some (.int (3 : Int32))]) (d' := 1) rfl rfl (Nat.le_of_ble_eq_true rfl) (Nat.le_of_ble_eq_true rfl) rfl (Nat.le_of_ble_eq_true rfl) rfl rfl (zyC32 hp6) ?_
      show zyR _ _ _ _ [some (.ref (0 + 3)), some (.int x1), some (.int x2), some (.int x3), some (.int x4), none] [.int p6.1] _ _
      refine zy_3 rfl rfl (show zyR _ _ _ _ [some (.ref (0 + 3)), some (.int x1), some (.int x2), some (.int x3), some (.int x4), none] [.int (1 : Int32), .int p6.1] _ _ from ?_)
      refine zy_25_0 rfl (fun b7 => (show zyR _ _ _ _ [some (.ref (0 + 3)), some (.int x1), some (.int x2), some (.int x3), some (.int x4), none] [] _ _ from ?_)) (fun b7 => (show zyR _ _ _ _ [some (.ref (0 + 3)), some (.int x1), some (.int x2), some (.int x3), some (.int x4), none] [] _ _ from ?_))
      · replace h := zy_ifp h b7
        exact zy_sub (show zy_le [some (.ref (0 + 3)), some (.int x1), some (.int x2), some (.int x3), none, none] [some (.ref (0 + 3)), some (.int x1), some (.int x2), some (.int x3), some (.int x4), none] from ⟨rfl, ⟨rfl, ⟨rfl, ⟨rfl, trivial⟩⟩⟩⟩) (zyC102_82 hk15 h)
      · replace h := zy_ifn h b7
        exact zy_sub (show zy_le [some (.ref (0 + 3)), some (.int x1), some (.int x2), some (.int x3), some (.int x4), none] [some (.ref (0 + 3)), some (.int x1), some (.int x2), some (.int x3), some (.int x4), none] from ⟨rfl, ⟨rfl, ⟨rfl, ⟨rfl, ⟨rfl, trivial⟩⟩⟩⟩⟩) (zyC102_68 hk15 h)
noncomputable def zyF102_15b  (k15 : Int32 → Int32 → Int32 → zy_S → Option (Int32 × zy_S)) (x1 : Int32) (x2 : Int32) (x3 : Int32) (s : zy_S) : Option (Int32 × zy_S) :=
if (6 : Int32) ≤ x3 then
some (x2, s)
else
(zyF57 (s.1 1 3) x3 s).bind fun p10 =>
if x1 ≠ 0 then
zyF102_43 k15 x1 x2 x3 p10.1 p10.2
else
if p10.1 = 0 then
zyF102_82 k15 x1 x2 x3 p10.2
else
zyF102_43 k15 x1 x2 x3 p10.1 p10.2
theorem zyC102_15b {X : zx_X}  {k15 : Int32 → Int32 → Int32 → zy_S → Option (Int32 × zy_S)}  (hk15 : ∀ (x1 : Int32) (x2 : Int32) (x3 : Int32) (s : zy_S) (r : Int32) (s' : zy_S), k15 x1 x2 x3 s = some (r, s') → zyR X 2 102 15 [some (.ref (0 + 3)), some (.int x1), some (.int x2), some (.int x3), none, none] [] s (zyE (some (.int r)) s')) {x1 : Int32} {x2 : Int32} {x3 : Int32} {s : zy_S} {r : Int32} {s' : zy_S}  (h : zyF102_15b k15 x1 x2 x3 s = some (r, s')) : zyR X 2 102 15 [some (.ref (0 + 3)), some (.int x1), some (.int x2), some (.int x3), none, none] [] s (zyE (some (.int r)) s') := by
  unfold zyF102_15b at h
  refine zy_2 rfl rfl (show zyR _ _ _ _ [some (.ref (0 + 3)), some (.int x1), some (.int x2), some (.int x3), none, none] [.int x3] _ _ from ?_)
  refine zy_3 rfl rfl (show zyR _ _ _ _ [some (.ref (0 + 3)), some (.int x1), some (.int x2), some (.int x3), none, none] [.int (6 : Int32), .int x3] _ _ from ?_)
  refine zy_25_3 rfl (fun b13 => (show zyR _ _ _ _ [some (.ref (0 + 3)), some (.int x1), some (.int x2), some (.int x3), none, none] [] _ _ from ?_)) (fun b13 => (show zyR _ _ _ _ [some (.ref (0 + 3)), some (.int x1), some (.int x2), some (.int x3), none, none] [] _ _ from ?_))
  · replace h := zy_ifp h b13
    refine zy_2 rfl rfl (show zyR _ _ _ _ [some (.ref (0 + 3)), some (.int x1), some (.int x2), some (.int x3), none, none] [.int x2] _ _ from ?_)
    cases h
    exact zy_4 rfl ⟨rfl, rfl⟩
  · replace h := zy_ifn h b13
    refine zy_0 rfl rfl (show zyR _ _ _ _ [some (.ref (0 + 3)), some (.int x1), some (.int x2), some (.int x3), none, none] [.ref (0 + 3)] _ _ from ?_)
    refine zy_1r (c := 0) rfl rfl rfl (show zyR _ _ _ _ [some (.ref (0 + 3)), some (.int x1), some (.int x2), some (.int x3), none, none] [.ref (1 + 3)] _ _ from ?_)
    refine zy_1 (c := 1) rfl rfl rfl (show zyR _ _ _ _ [some (.ref (0 + 3)), some (.int x1), some (.int x2), some (.int x3), none, none] [.int (s.1 1 3)] _ _ from ?_)
    refine zy_2 rfl rfl (show zyR _ _ _ _ [some (.ref (0 + 3)), some (.int x1), some (.int x2), some (.int x3), none, none] [.int x3, .int (s.1 1 3)] _ _ from ?_)
    obtain ⟨p10, hp10, h⟩ := zy_bind h
    refine zy_60 (as := [.int (s.1 1 3), .int x3]) (rest := []) (L := [some (.int (s.1 1 3)), some (.int x3)]) (d' := 1) rfl rfl (Nat.le_of_ble_eq_true rfl) (Nat.le_of_ble_eq_true rfl) rfl (Nat.le_of_ble_eq_true rfl) rfl rfl (zyC57 hp10) ?_
    show zyR _ _ _ _ [some (.ref (0 + 3)), some (.int x1), some (.int x2), some (.int x3), none, none] [.int p10.1] _ _
    refine zy_23 rfl rfl (show zyR _ _ _ _ [some (.ref (0 + 3)), some (.int x1), some (.int x2), some (.int x3), some (.int p10.1), none] [] _ _ from ?_)
    refine zy_2 rfl rfl (show zyR _ _ _ _ [some (.ref (0 + 3)), some (.int x1), some (.int x2), some (.int x3), some (.int p10.1), none] [.int x1] _ _ from ?_)
    refine zy_24_1 rfl (fun b12 => (show zyR _ _ _ _ [some (.ref (0 + 3)), some (.int x1), some (.int x2), some (.int x3), some (.int p10.1), none] [] _ _ from ?_)) (fun b12 => (show zyR _ _ _ _ [some (.ref (0 + 3)), some (.int x1), some (.int x2), some (.int x3), some (.int p10.1), none] [] _ _ from ?_))
    · replace h := zy_ifp h b12
      exact zy_sub (show zy_le [some (.ref (0 + 3)), some (.int x1), some (.int x2), some (.int x3), some (.int p10.1), none] [some (.ref (0 + 3)), some (.int x1), some (.int x2), some (.int x3), some (.int p10.1), none] from ⟨rfl, ⟨rfl, ⟨rfl, ⟨rfl, ⟨rfl, trivial⟩⟩⟩⟩⟩) (zyC102_43 hk15 h)
    · replace h := zy_ifn h b12
      refine zy_2 rfl rfl (show zyR _ _ _ _ [some (.ref (0 + 3)), some (.int x1), some (.int x2), some (.int x3), some (.int p10.1), none] [.int p10.1] _ _ from ?_)
      refine zy_24_0 rfl (fun b11 => (show zyR _ _ _ _ [some (.ref (0 + 3)), some (.int x1), some (.int x2), some (.int x3), some (.int p10.1), none] [] _ _ from ?_)) (fun b11 => (show zyR _ _ _ _ [some (.ref (0 + 3)), some (.int x1), some (.int x2), some (.int x3), some (.int p10.1), none] [] _ _ from ?_))
      · replace h := zy_ifp h b11
        exact zy_sub (show zy_le [some (.ref (0 + 3)), some (.int x1), some (.int x2), some (.int x3), none, none] [some (.ref (0 + 3)), some (.int x1), some (.int x2), some (.int x3), some (.int p10.1), none] from ⟨rfl, ⟨rfl, ⟨rfl, ⟨rfl, trivial⟩⟩⟩⟩) (zyC102_82 hk15 h)
      · replace h := zy_ifn h b11
        exact zy_sub (show zy_le [some (.ref (0 + 3)), some (.int x1), some (.int x2), some (.int x3), some (.int p10.1), none] [some (.ref (0 + 3)), some (.int x1), some (.int x2), some (.int x3), some (.int p10.1), none] from ⟨rfl, ⟨rfl, ⟨rfl, ⟨rfl, ⟨rfl, trivial⟩⟩⟩⟩⟩) (zyC102_43 hk15 h)
noncomputable def zyF102_15   (n : Nat) : Int32 → Int32 → Int32 → zy_S → Option (Int32 × zy_S) := Nat.rec (fun _ _ _ _ => none) (fun _ k15 => zyF102_15b k15) n
theorem zyC102_15 {X : zx_X}     : ∀ (n : Nat) (x1 : Int32) (x2 : Int32) (x3 : Int32) (s : zy_S) (r : Int32) (s' : zy_S), zyF102_15 n x1 x2 x3 s = some (r, s') → zyR X 2 102 15 [some (.ref (0 + 3)), some (.int x1), some (.int x2), some (.int x3), none, none] [] s (zyE (some (.int r)) s')
  | 0, _, _, _ => by
    intro s r s'  h
    have h : (none : Option (Int32 × zy_S)) = some (r, s') := h
    cases h
  | n + 1, x1, x2, x3 => by
    intro s r s'  h
    exact zyC102_15b (k15 := zyF102_15 n) (fun x1 x2 x3 s r s'  h => zyC102_15  n x1 x2 x3 s r s'  h) h
noncomputable def zyF102   (x1 : Int32) (s : zy_S) : Option (Int32 × zy_S) :=
if x1 < 0 then
some ((-1 : Int32), s)
else
if x1 ≤ (2 : Int32) then
zyF102_15 zy_fu x1 (0 : Int32) (0 : Int32) s
else
some ((-1 : Int32), s)
theorem zyC102 {X : zx_X}     {x1 : Int32} {s : zy_S} {r : Int32} {s' : zy_S}  (h : zyF102 x1 s = some (r, s')) : zyR X 2 102 0 [some (.ref (0 + 3)), some (.int x1), none, none, none, none] [] s (zyE (some (.int r)) s') := by
  unfold zyF102 at h
  refine zy_2 rfl rfl (show zyR _ _ _ _ [some (.ref (0 + 3)), some (.int x1), none, none, none, none] [.int x1] _ _ from ?_)
  refine zy_24_2 rfl (fun b15 => (show zyR _ _ _ _ [some (.ref (0 + 3)), some (.int x1), none, none, none, none] [] _ _ from ?_)) (fun b15 => (show zyR _ _ _ _ [some (.ref (0 + 3)), some (.int x1), none, none, none, none] [] _ _ from ?_))
  · replace h := zy_ifp h b15
    refine zy_3 rfl rfl (show zyR _ _ _ _ [some (.ref (0 + 3)), some (.int x1), none, none, none, none] [.int (-1 : Int32)] _ _ from ?_)
    cases h
    exact zy_4 rfl ⟨rfl, rfl⟩
  · replace h := zy_ifn h b15
    refine zy_2 rfl rfl (show zyR _ _ _ _ [some (.ref (0 + 3)), some (.int x1), none, none, none, none] [.int x1] _ _ from ?_)
    refine zy_3 rfl rfl (show zyR _ _ _ _ [some (.ref (0 + 3)), some (.int x1), none, none, none, none] [.int (2 : Int32), .int x1] _ _ from ?_)
    refine zy_25_5 rfl (fun b14 => (show zyR _ _ _ _ [some (.ref (0 + 3)), some (.int x1), none, none, none, none] [] _ _ from ?_)) (fun b14 => (show zyR _ _ _ _ [some (.ref (0 + 3)), some (.int x1), none, none, none, none] [] _ _ from ?_))
    · replace h := zy_ifp h b14
      refine zy_3 rfl rfl (show zyR _ _ _ _ [some (.ref (0 + 3)), some (.int x1), none, none, none, none] [.int (0 : Int32)] _ _ from ?_)
      refine zy_23 rfl rfl (show zyR _ _ _ _ [some (.ref (0 + 3)), some (.int x1), some (.int (0 : Int32)), none, none, none] [] _ _ from ?_)
      refine zy_3 rfl rfl (show zyR _ _ _ _ [some (.ref (0 + 3)), some (.int x1), some (.int (0 : Int32)), none, none, none] [.int (0 : Int32)] _ _ from ?_)
      refine zy_23 rfl rfl (show zyR _ _ _ _ [some (.ref (0 + 3)), some (.int x1), some (.int (0 : Int32)), some (.int (0 : Int32)), none, none] [] _ _ from ?_)
      exact zy_sub (show zy_le [some (.ref (0 + 3)), some (.int x1), some (.int (0 : Int32)), some (.int (0 : Int32)), none, none] [some (.ref (0 + 3)), some (.int x1), some (.int (0 : Int32)), some (.int (0 : Int32)), none, none] from ⟨rfl, ⟨rfl, ⟨rfl, ⟨rfl, trivial⟩⟩⟩⟩) (zyC102_15 zy_fu x1 (0 : Int32) (0 : Int32) s _ _ h)
    · replace h := zy_ifn h b14
      refine zy_3 rfl rfl (show zyR _ _ _ _ [some (.ref (0 + 3)), some (.int x1), none, none, none, none] [.int (-1 : Int32)] _ _ from ?_)
      cases h
      exact zy_4 rfl ⟨rfl, rfl⟩
/-! NineOpinionsModel.matters(I)I -/
noncomputable def zyF225_106  (k18 : Int32 → Int32 → Int32 → zy_S → Option (Int32 × zy_S)) (x1 : Int32) (x3 : Int32) (y0 : Int32) (y1 : Int32) (s : zy_S) : Option (Int32 × zy_S) :=
k18 x1 (y1 ||| y0) (x3 + (1 : Int32)) s
theorem zyC225_106 {X : zx_X}  {k18 : Int32 → Int32 → Int32 → zy_S → Option (Int32 × zy_S)}  (hk18 : ∀ (x1 : Int32) (x2 : Int32) (x3 : Int32) (s : zy_S) (r : Int32) (s' : zy_S), k18 x1 x2 x3 s = some (r, s') → zyR X 2 225 18 [some (.ref (43 + 3)), some (.int x1), some (.int x2), some (.int x3), none, none] [] s (zyE (some (.int r)) s')) {x1 : Int32} {x3 : Int32} {y0 : Int32} {y1 : Int32} {s : zy_S} {r : Int32} {s' : zy_S}  (h : zyF225_106 k18 x1 x3 y0 y1 s = some (r, s')) : zyR X 2 225 106 [some (.ref (43 + 3)), some (.int x1), none, some (.int x3), none, none] [.int y0, .int y1] s (zyE (some (.int r)) s') := by
  unfold zyF225_106 at h
  refine zy_14 rfl (show zyR _ _ _ _ [some (.ref (43 + 3)), some (.int x1), none, some (.int x3), none, none] [.int (y1 ||| y0)] _ _ from ?_)
  refine zy_23 rfl rfl (show zyR _ _ _ _ [some (.ref (43 + 3)), some (.int x1), some (.int (y1 ||| y0)), some (.int x3), none, none] [] _ _ from ?_)
  refine zy_22 rfl rfl rfl rfl (show zyR _ _ _ _ [some (.ref (43 + 3)), some (.int x1), some (.int (y1 ||| y0)), some (.int (x3 + (1 : Int32))), none, none] [] _ _ from ?_)
  refine zy_6 rfl (show zyR _ _ _ _ [some (.ref (43 + 3)), some (.int x1), some (.int (y1 ||| y0)), some (.int (x3 + (1 : Int32))), none, none] [] _ _ from ?_)
  exact zy_sub (show zy_le [some (.ref (43 + 3)), some (.int x1), some (.int (y1 ||| y0)), some (.int (x3 + (1 : Int32))), none, none] [some (.ref (43 + 3)), some (.int x1), some (.int (y1 ||| y0)), some (.int (x3 + (1 : Int32))), none, none] from ⟨rfl, ⟨rfl, ⟨rfl, ⟨rfl, trivial⟩⟩⟩⟩) (hk18 x1 (y1 ||| y0) (x3 + (1 : Int32)) s _ _ h)
noncomputable def zyF225_91  (k18 : Int32 → Int32 → Int32 → zy_S → Option (Int32 × zy_S)) (x1 : Int32) (x2 : Int32) (x3 : Int32) (y0 : Int32) (s : zy_S) : Option (Int32 × zy_S) :=
if y0 = 0 then
zyF225_106 k18 x1 x3 (0 : Int32) x2 s
else
zyF225_106 k18 x1 x3 ((1 : Int32) <<< (x3 &&& 31)) x2 s
theorem zyC225_91 {X : zx_X}  {k18 : Int32 → Int32 → Int32 → zy_S → Option (Int32 × zy_S)}  (hk18 : ∀ (x1 : Int32) (x2 : Int32) (x3 : Int32) (s : zy_S) (r : Int32) (s' : zy_S), k18 x1 x2 x3 s = some (r, s') → zyR X 2 225 18 [some (.ref (43 + 3)), some (.int x1), some (.int x2), some (.int x3), none, none] [] s (zyE (some (.int r)) s')) {x1 : Int32} {x2 : Int32} {x3 : Int32} {y0 : Int32} {s : zy_S} {r : Int32} {s' : zy_S}  (h : zyF225_91 k18 x1 x2 x3 y0 s = some (r, s')) : zyR X 2 225 91 [some (.ref (43 + 3)), some (.int x1), some (.int x2), some (.int x3), none, none] [.int y0] s (zyE (some (.int r)) s') := by
  unfold zyF225_91 at h
  refine zy_23 rfl rfl (show zyR _ _ _ _ [some (.ref (43 + 3)), some (.int x1), some (.int x2), some (.int x3), none, some (.int y0)] [] _ _ from ?_)
  refine zy_2 rfl rfl (show zyR _ _ _ _ [some (.ref (43 + 3)), some (.int x1), some (.int x2), some (.int x3), none, some (.int y0)] [.int x2] _ _ from ?_)
  refine zy_2 rfl rfl (show zyR _ _ _ _ [some (.ref (43 + 3)), some (.int x1), some (.int x2), some (.int x3), none, some (.int y0)] [.int y0, .int x2] _ _ from ?_)
  refine zy_24_0 rfl (fun b1 => (show zyR _ _ _ _ [some (.ref (43 + 3)), some (.int x1), some (.int x2), some (.int x3), none, some (.int y0)] [.int x2] _ _ from ?_)) (fun b1 => (show zyR _ _ _ _ [some (.ref (43 + 3)), some (.int x1), some (.int x2), some (.int x3), none, some (.int y0)] [.int x2] _ _ from ?_))
  · replace h := zy_ifp h b1
    refine zy_3 rfl rfl (show zyR _ _ _ _ [some (.ref (43 + 3)), some (.int x1), some (.int x2), some (.int x3), none, some (.int y0)] [.int (0 : Int32), .int x2] _ _ from ?_)
    exact zy_sub (show zy_le [some (.ref (43 + 3)), some (.int x1), none, some (.int x3), none, none] [some (.ref (43 + 3)), some (.int x1), some (.int x2), some (.int x3), none, some (.int y0)] from ⟨rfl, ⟨rfl, ⟨rfl, trivial⟩⟩⟩) (zyC225_106 hk18 h)
  · replace h := zy_ifn h b1
    refine zy_3 rfl rfl (show zyR _ _ _ _ [some (.ref (43 + 3)), some (.int x1), some (.int x2), some (.int x3), none, some (.int y0)] [.int (1 : Int32), .int x2] _ _ from ?_)
    refine zy_2 rfl rfl (show zyR _ _ _ _ [some (.ref (43 + 3)), some (.int x1), some (.int x2), some (.int x3), none, some (.int y0)] [.int x3, .int (1 : Int32), .int x2] _ _ from ?_)
    refine zy_16 rfl (show zyR _ _ _ _ [some (.ref (43 + 3)), some (.int x1), some (.int x2), some (.int x3), none, some (.int y0)] [.int ((1 : Int32) <<< (x3 &&& 31)), .int x2] _ _ from ?_)
    refine zy_6 rfl (show zyR _ _ _ _ [some (.ref (43 + 3)), some (.int x1), some (.int x2), some (.int x3), none, some (.int y0)] [.int ((1 : Int32) <<< (x3 &&& 31)), .int x2] _ _ from ?_)
    exact zy_sub (show zy_le [some (.ref (43 + 3)), some (.int x1), none, some (.int x3), none, none] [some (.ref (43 + 3)), some (.int x1), some (.int x2), some (.int x3), none, some (.int y0)] from ⟨rfl, ⟨rfl, ⟨rfl, trivial⟩⟩⟩) (zyC225_106 hk18 h)
noncomputable def zyF225_18b  (k18 : Int32 → Int32 → Int32 → zy_S → Option (Int32 × zy_S)) (x1 : Int32) (x2 : Int32) (x3 : Int32) (s : zy_S) : Option (Int32 × zy_S) :=
if (6 : Int32) ≤ x3 then
some (x2, s)
else
if x1 ≠ 0 then
if x1 ≠ (1 : Int32) then
(zyF209 (((s.1 43 7) >>> (((4 : Int32) * x3) &&& 31)) &&& (15 : Int32)) s).bind fun p2 =>
if p2.1 ≠ (1 : Int32) then
zyF225_91 k18 x1 x2 x3 (0 : Int32) p2.2
else
zyF225_91 k18 x1 x2 x3 (1 : Int32) p2.2
else
if ((((s.1 43 7) >>> (((4 : Int32) * x3) &&& 31)) &&& (15 : Int32)) &&& (9 : Int32)) ≠ (9 : Int32) then
zyF225_91 k18 x1 x2 x3 (0 : Int32) s
else
zyF225_91 k18 x1 x2 x3 (1 : Int32) s
else
if (((s.1 43 7) >>> (((4 : Int32) * x3) &&& 31)) &&& (15 : Int32)) ≠ 0 then
zyF225_91 k18 x1 x2 x3 (0 : Int32) s
else
zyF225_91 k18 x1 x2 x3 (1 : Int32) s
theorem zyC225_18b {X : zx_X}  {k18 : Int32 → Int32 → Int32 → zy_S → Option (Int32 × zy_S)}  (hk18 : ∀ (x1 : Int32) (x2 : Int32) (x3 : Int32) (s : zy_S) (r : Int32) (s' : zy_S), k18 x1 x2 x3 s = some (r, s') → zyR X 2 225 18 [some (.ref (43 + 3)), some (.int x1), some (.int x2), some (.int x3), none, none] [] s (zyE (some (.int r)) s')) {x1 : Int32} {x2 : Int32} {x3 : Int32} {s : zy_S} {r : Int32} {s' : zy_S}  (h : zyF225_18b k18 x1 x2 x3 s = some (r, s')) : zyR X 2 225 18 [some (.ref (43 + 3)), some (.int x1), some (.int x2), some (.int x3), none, none] [] s (zyE (some (.int r)) s') := by
  unfold zyF225_18b at h
  refine zy_2 rfl rfl (show zyR _ _ _ _ [some (.ref (43 + 3)), some (.int x1), some (.int x2), some (.int x3), none, none] [.int x3] _ _ from ?_)
  refine zy_3 rfl rfl (show zyR _ _ _ _ [some (.ref (43 + 3)), some (.int x1), some (.int x2), some (.int x3), none, none] [.int (6 : Int32), .int x3] _ _ from ?_)
  refine zy_25_3 rfl (fun b8 => (show zyR _ _ _ _ [some (.ref (43 + 3)), some (.int x1), some (.int x2), some (.int x3), none, none] [] _ _ from ?_)) (fun b8 => (show zyR _ _ _ _ [some (.ref (43 + 3)), some (.int x1), some (.int x2), some (.int x3), none, none] [] _ _ from ?_))
  · replace h := zy_ifp h b8
    refine zy_2 rfl rfl (show zyR _ _ _ _ [some (.ref (43 + 3)), some (.int x1), some (.int x2), some (.int x3), none, none] [.int x2] _ _ from ?_)
    cases h
    exact zy_4 rfl ⟨rfl, rfl⟩
  · replace h := zy_ifn h b8
    refine zy_0 rfl rfl (show zyR _ _ _ _ [some (.ref (43 + 3)), some (.int x1), some (.int x2), some (.int x3), none, none] [.ref (43 + 3)] _ _ from ?_)
    refine zy_1 (c := 43) rfl rfl rfl (show zyR _ _ _ _ [some (.ref (43 + 3)), some (.int x1), some (.int x2), some (.int x3), none, none] [.int (s.1 43 7)] _ _ from ?_)
    refine zy_3 rfl rfl (show zyR _ _ _ _ [some (.ref (43 + 3)), some (.int x1), some (.int x2), some (.int x3), none, none] [.int (4 : Int32), .int (s.1 43 7)] _ _ from ?_)
    refine zy_2 rfl rfl (show zyR _ _ _ _ [some (.ref (43 + 3)), some (.int x1), some (.int x2), some (.int x3), none, none] [.int x3, .int (4 : Int32), .int (s.1 43 7)] _ _ from ?_)
    refine zy_12 rfl (show zyR _ _ _ _ [some (.ref (43 + 3)), some (.int x1), some (.int x2), some (.int x3), none, none] [.int ((4 : Int32) * x3), .int (s.1 43 7)] _ _ from ?_)
    refine zy_17 rfl (show zyR _ _ _ _ [some (.ref (43 + 3)), some (.int x1), some (.int x2), some (.int x3), none, none] [.int ((s.1 43 7) >>> (((4 : Int32) * x3) &&& 31))] _ _ from ?_)
    refine zy_3 rfl rfl (show zyR _ _ _ _ [some (.ref (43 + 3)), some (.int x1), some (.int x2), some (.int x3), none, none] [.int (15 : Int32), .int ((s.1 43 7) >>> (((4 : Int32) * x3) &&& 31))] _ _ from ?_)
    refine zy_13 rfl (show zyR _ _ _ _ [some (.ref (43 + 3)), some (.int x1), some (.int x2), some (.int x3), none, none] [.int (((s.1 43 7) >>> (((4 : Int32) * x3) &&& 31)) &&& (15 : Int32))] _ _ from ?_)
    refine zy_23 rfl rfl (show zyR _ _ _ _ [some (.ref (43 + 3)), some (.int x1), some (.int x2), some (.int x3), some (.int (((s.1 43 7) >>> (((4 : Int32) * x3) &&& 31)) &&& (15 : Int32))), none] [] _ _ from ?_)
    refine zy_2 rfl rfl (show zyR _ _ _ _ [some (.ref (43 + 3)), some (.int x1), some (.int x2), some (.int x3), some (.int (((s.1 43 7) >>> (((4 : Int32) * x3) &&& 31)) &&& (15 : Int32))), none] [.int x1] _ _ from ?_)
    refine zy_24_1 rfl (fun b7 => (show zyR _ _ _ _ [some (.ref (43 + 3)), some (.int x1), some (.int x2), some (.int x3), some (.int (((s.1 43 7) >>> (((4 : Int32) * x3) &&& 31)) &&& (15 : Int32))), none] [] _ _ from ?_)) (fun b7 => (show zyR _ _ _ _ [some (.ref (43 + 3)), some (.int x1), some (.int x2), some (.int x3), some (.int (((s.1 43 7) >>> (((4 : Int32) * x3) &&& 31)) &&& (15 : Int32))), none] [] _ _ from ?_))
    · replace h := zy_ifp h b7
      refine zy_2 rfl rfl (show zyR _ _ _ _ [some (.ref (43 + 3)), some (.int x1), some (.int x2), some (.int x3), some (.int (((s.1 43 7) >>> (((4 : Int32) * x3) &&& 31)) &&& (15 : Int32))), none] [.int x1] _ _ from ?_)
      refine zy_3 rfl rfl (show zyR _ _ _ _ [some (.ref (43 + 3)), some (.int x1), some (.int x2), some (.int x3), some (.int (((s.1 43 7) >>> (((4 : Int32) * x3) &&& 31)) &&& (15 : Int32))), none] [.int (1 : Int32), .int x1] _ _ from ?_)
      refine zy_25_1 rfl (fun b5 => (show zyR _ _ _ _ [some (.ref (43 + 3)), some (.int x1), some (.int x2), some (.int x3), some (.int (((s.1 43 7) >>> (((4 : Int32) * x3) &&& 31)) &&& (15 : Int32))), none] [] _ _ from ?_)) (fun b5 => (show zyR _ _ _ _ [some (.ref (43 + 3)), some (.int x1), some (.int x2), some (.int x3), some (.int (((s.1 43 7) >>> (((4 : Int32) * x3) &&& 31)) &&& (15 : Int32))), none] [] _ _ from ?_))
      · replace h := zy_ifp h b5
        refine zy_2 rfl rfl (show zyR _ _ _ _ [some (.ref (43 + 3)), some (.int x1), some (.int x2), some (.int x3), some (.int (((s.1 43 7) >>> (((4 : Int32) * x3) &&& 31)) &&& (15 : Int32))), none] [.int (((s.1 43 7) >>> (((4 : Int32) * x3) &&& 31)) &&& (15 : Int32))] _ _ from ?_)
        obtain ⟨p2, hp2, h⟩ := zy_bind h
        refine zy_60 (as := [.int (((s.1 43 7) >>> (((4 : Int32) * x3) &&& 31)) &&& (15 : Int32))]) (rest := []) (L := [some (.int (((s.1 43 7) >>> (((4 : Int32) * x3) &&& 31)) &&& (15 : Int32))), none, none]) (d' := 1) rfl rfl (Nat.le_of_ble_eq_true rfl) (Nat.le_of_ble_eq_true rfl) rfl (Nat.le_of_ble_eq_true rfl) rfl rfl (zyC209 hp2) ?_
        show zyR _ _ _ _ [some (.ref (43 + 3)), some (.int x1), some (.int x2), some (.int x3), some (.int (((s.1 43 7) >>> (((4 : Int32) * x3) &&& 31)) &&& (15 : Int32))), none] [.int p2.1] _ _
        refine zy_3 rfl rfl (show zyR _ _ _ _ [some (.ref (43 + 3)), some (.int x1), some (.int x2), some (.int x3), some (.int (((s.1 43 7) >>> (((4 : Int32) * x3) &&& 31)) &&& (15 : Int32))), none] [.int (1 : Int32), .int p2.1] _ _ from ?_)
        refine zy_25_1 rfl (fun b3 => (show zyR _ _ _ _ [some (.ref (43 + 3)), some (.int x1), some (.int x2), some (.int x3), some (.int (((s.1 43 7) >>> (((4 : Int32) * x3) &&& 31)) &&& (15 : Int32))), none] [] _ _ from ?_)) (fun b3 => (show zyR _ _ _ _ [some (.ref (43 + 3)), some (.int x1), some (.int x2), some (.int x3), some (.int (((s.1 43 7) >>> (((4 : Int32) * x3) &&& 31)) &&& (15 : Int32))), none] [] _ _ from ?_))
        · replace h := zy_ifp h b3
          refine zy_3 rfl rfl (show zyR _ _ _ _ [some (.ref (43 + 3)), some (.int x1), some (.int x2), some (.int x3), some (.int (((s.1 43 7) >>> (((4 : Int32) * x3) &&& 31)) &&& (15 : Int32))), none] [.int (0 : Int32)] _ _ from ?_)
          exact zy_sub (show zy_le [some (.ref (43 + 3)), some (.int x1), some (.int x2), some (.int x3), none, none] [some (.ref (43 + 3)), some (.int x1), some (.int x2), some (.int x3), some (.int (((s.1 43 7) >>> (((4 : Int32) * x3) &&& 31)) &&& (15 : Int32))), none] from ⟨rfl, ⟨rfl, ⟨rfl, ⟨rfl, trivial⟩⟩⟩⟩) (zyC225_91 hk18 h)
        · replace h := zy_ifn h b3
          refine zy_3 rfl rfl (show zyR _ _ _ _ [some (.ref (43 + 3)), some (.int x1), some (.int x2), some (.int x3), some (.int (((s.1 43 7) >>> (((4 : Int32) * x3) &&& 31)) &&& (15 : Int32))), none] [.int (1 : Int32)] _ _ from ?_)
          refine zy_6 rfl (show zyR _ _ _ _ [some (.ref (43 + 3)), some (.int x1), some (.int x2), some (.int x3), some (.int (((s.1 43 7) >>> (((4 : Int32) * x3) &&& 31)) &&& (15 : Int32))), none] [.int (1 : Int32)] _ _ from ?_)
          exact zy_sub (show zy_le [some (.ref (43 + 3)), some (.int x1), some (.int x2), some (.int x3), none, none] [some (.ref (43 + 3)), some (.int x1), some (.int x2), some (.int x3), some (.int (((s.1 43 7) >>> (((4 : Int32) * x3) &&& 31)) &&& (15 : Int32))), none] from ⟨rfl, ⟨rfl, ⟨rfl, ⟨rfl, trivial⟩⟩⟩⟩) (zyC225_91 hk18 h)
      · replace h := zy_ifn h b5
        refine zy_2 rfl rfl (show zyR _ _ _ _ [some (.ref (43 + 3)), some (.int x1), some (.int x2), some (.int x3), some (.int (((s.1 43 7) >>> (((4 : Int32) * x3) &&& 31)) &&& (15 : Int32))), none] [.int (((s.1 43 7) >>> (((4 : Int32) * x3) &&& 31)) &&& (15 : Int32))] _ _ from ?_)
        refine zy_3 rfl rfl (show zyR _ _ _ _ [some (.ref (43 + 3)), some (.int x1), some (.int x2), some (.int x3), some (.int (((s.1 43 7) >>> (((4 : Int32) * x3) &&& 31)) &&& (15 : Int32))), none] [.int (9 : Int32), .int (((s.1 43 7) >>> (((4 : Int32) * x3) &&& 31)) &&& (15 : Int32))] _ _ from ?_)
        refine zy_13 rfl (show zyR _ _ _ _ [some (.ref (43 + 3)), some (.int x1), some (.int x2), some (.int x3), some (.int (((s.1 43 7) >>> (((4 : Int32) * x3) &&& 31)) &&& (15 : Int32))), none] [.int ((((s.1 43 7) >>> (((4 : Int32) * x3) &&& 31)) &&& (15 : Int32)) &&& (9 : Int32))] _ _ from ?_)
        refine zy_3 rfl rfl (show zyR _ _ _ _ [some (.ref (43 + 3)), some (.int x1), some (.int x2), some (.int x3), some (.int (((s.1 43 7) >>> (((4 : Int32) * x3) &&& 31)) &&& (15 : Int32))), none] [.int (9 : Int32), .int ((((s.1 43 7) >>> (((4 : Int32) * x3) &&& 31)) &&& (15 : Int32)) &&& (9 : Int32))] _ _ from ?_)
        refine zy_25_1 rfl (fun b4 => (show zyR _ _ _ _ [some (.ref (43 + 3)), some (.int x1), some (.int x2), some (.int x3), some (.int (((s.1 43 7) >>> (((4 : Int32) * x3) &&& 31)) &&& (15 : Int32))), none] [] _ _ from ?_)) (fun b4 => (show zyR _ _ _ _ [some (.ref (43 + 3)), some (.int x1), some (.int x2), some (.int x3), some (.int (((s.1 43 7) >>> (((4 : Int32) * x3) &&& 31)) &&& (15 : Int32))), none] [] _ _ from ?_))
        · replace h := zy_ifp h b4
          refine zy_3 rfl rfl (show zyR _ _ _ _ [some (.ref (43 + 3)), some (.int x1), some (.int x2), some (.int x3), some (.int (((s.1 43 7) >>> (((4 : Int32) * x3) &&& 31)) &&& (15 : Int32))), none] [.int (0 : Int32)] _ _ from ?_)
          refine zy_6 rfl (show zyR _ _ _ _ [some (.ref (43 + 3)), some (.int x1), some (.int x2), some (.int x3), some (.int (((s.1 43 7) >>> (((4 : Int32) * x3) &&& 31)) &&& (15 : Int32))), none] [.int (0 : Int32)] _ _ from ?_)
          exact zy_sub (show zy_le [some (.ref (43 + 3)), some (.int x1), some (.int x2), some (.int x3), none, none] [some (.ref (43 + 3)), some (.int x1), some (.int x2), some (.int x3), some (.int (((s.1 43 7) >>> (((4 : Int32) * x3) &&& 31)) &&& (15 : Int32))), none] from ⟨rfl, ⟨rfl, ⟨rfl, ⟨rfl, trivial⟩⟩⟩⟩) (zyC225_91 hk18 h)
        · replace h := zy_ifn h b4
          refine zy_3 rfl rfl (show zyR _ _ _ _ [some (.ref (43 + 3)), some (.int x1), some (.int x2), some (.int x3), some (.int (((s.1 43 7) >>> (((4 : Int32) * x3) &&& 31)) &&& (15 : Int32))), none] [.int (1 : Int32)] _ _ from ?_)
          refine zy_6 rfl (show zyR _ _ _ _ [some (.ref (43 + 3)), some (.int x1), some (.int x2), some (.int x3), some (.int (((s.1 43 7) >>> (((4 : Int32) * x3) &&& 31)) &&& (15 : Int32))), none] [.int (1 : Int32)] _ _ from ?_)
          exact zy_sub (show zy_le [some (.ref (43 + 3)), some (.int x1), some (.int x2), some (.int x3), none, none] [some (.ref (43 + 3)), some (.int x1), some (.int x2), some (.int x3), some (.int (((s.1 43 7) >>> (((4 : Int32) * x3) &&& 31)) &&& (15 : Int32))), none] from ⟨rfl, ⟨rfl, ⟨rfl, ⟨rfl, trivial⟩⟩⟩⟩) (zyC225_91 hk18 h)
    · replace h := zy_ifn h b7
      refine zy_2 rfl rfl (show zyR _ _ _ _ [some (.ref (43 + 3)), some (.int x1), some (.int x2), some (.int x3), some (.int (((s.1 43 7) >>> (((4 : Int32) * x3) &&& 31)) &&& (15 : Int32))), none] [.int (((s.1 43 7) >>> (((4 : Int32) * x3) &&& 31)) &&& (15 : Int32))] _ _ from ?_)
      refine zy_24_1 rfl (fun b6 => (show zyR _ _ _ _ [some (.ref (43 + 3)), some (.int x1), some (.int x2), some (.int x3), some (.int (((s.1 43 7) >>> (((4 : Int32) * x3) &&& 31)) &&& (15 : Int32))), none] [] _ _ from ?_)) (fun b6 => (show zyR _ _ _ _ [some (.ref (43 + 3)), some (.int x1), some (.int x2), some (.int x3), some (.int (((s.1 43 7) >>> (((4 : Int32) * x3) &&& 31)) &&& (15 : Int32))), none] [] _ _ from ?_))
      · replace h := zy_ifp h b6
        refine zy_3 rfl rfl (show zyR _ _ _ _ [some (.ref (43 + 3)), some (.int x1), some (.int x2), some (.int x3), some (.int (((s.1 43 7) >>> (((4 : Int32) * x3) &&& 31)) &&& (15 : Int32))), none] [.int (0 : Int32)] _ _ from ?_)
        refine zy_6 rfl (show zyR _ _ _ _ [some (.ref (43 + 3)), some (.int x1), some (.int x2), some (.int x3), some (.int (((s.1 43 7) >>> (((4 : Int32) * x3) &&& 31)) &&& (15 : Int32))), none] [.int (0 : Int32)] _ _ from ?_)
        exact zy_sub (show zy_le [some (.ref (43 + 3)), some (.int x1), some (.int x2), some (.int x3), none, none] [some (.ref (43 + 3)), some (.int x1), some (.int x2), some (.int x3), some (.int (((s.1 43 7) >>> (((4 : Int32) * x3) &&& 31)) &&& (15 : Int32))), none] from ⟨rfl, ⟨rfl, ⟨rfl, ⟨rfl, trivial⟩⟩⟩⟩) (zyC225_91 hk18 h)
      · replace h := zy_ifn h b6
        refine zy_3 rfl rfl (show zyR _ _ _ _ [some (.ref (43 + 3)), some (.int x1), some (.int x2), some (.int x3), some (.int (((s.1 43 7) >>> (((4 : Int32) * x3) &&& 31)) &&& (15 : Int32))), none] [.int (1 : Int32)] _ _ from ?_)
        refine zy_6 rfl (show zyR _ _ _ _ [some (.ref (43 + 3)), some (.int x1), some (.int x2), some (.int x3), some (.int (((s.1 43 7) >>> (((4 : Int32) * x3) &&& 31)) &&& (15 : Int32))), none] [.int (1 : Int32)] _ _ from ?_)
        exact zy_sub (show zy_le [some (.ref (43 + 3)), some (.int x1), some (.int x2), some (.int x3), none, none] [some (.ref (43 + 3)), some (.int x1), some (.int x2), some (.int x3), some (.int (((s.1 43 7) >>> (((4 : Int32) * x3) &&& 31)) &&& (15 : Int32))), none] from ⟨rfl, ⟨rfl, ⟨rfl, ⟨rfl, trivial⟩⟩⟩⟩) (zyC225_91 hk18 h)
noncomputable def zyF225_18   (n : Nat) : Int32 → Int32 → Int32 → zy_S → Option (Int32 × zy_S) := Nat.rec (fun _ _ _ _ => none) (fun _ k18 => zyF225_18b k18) n
theorem zyC225_18 {X : zx_X}     : ∀ (n : Nat) (x1 : Int32) (x2 : Int32) (x3 : Int32) (s : zy_S) (r : Int32) (s' : zy_S), zyF225_18 n x1 x2 x3 s = some (r, s') → zyR X 2 225 18 [some (.ref (43 + 3)), some (.int x1), some (.int x2), some (.int x3), none, none] [] s (zyE (some (.int r)) s')
  | 0, _, _, _ => by
    intro s r s'  h
    have h : (none : Option (Int32 × zy_S)) = some (r, s') := h
    cases h
  | n + 1, x1, x2, x3 => by
    intro s r s'  h
    exact zyC225_18b (k18 := zyF225_18 n) (fun x1 x2 x3 s r s'  h => zyC225_18  n x1 x2 x3 s r s'  h) h
noncomputable def zyF225   (x1 : Int32) (s : zy_S) : Option (Int32 × zy_S) :=
(zyF179 (x1).toInt64 (0 : Int64) (2 : Int64) s).bind fun p9 =>
if p9.1 ≠ 0 then
zyF225_18 zy_fu x1 (0 : Int32) (0 : Int32) p9.2
else
some ((-1 : Int32), p9.2)
theorem zyC225 {X : zx_X}     {x1 : Int32} {s : zy_S} {r : Int32} {s' : zy_S}  (h : zyF225 x1 s = some (r, s')) : zyR X 2 225 0 [some (.ref (43 + 3)), some (.int x1), none, none, none, none] [] s (zyE (some (.int r)) s') := by
  unfold zyF225 at h
  refine zy_2 rfl rfl (show zyR _ _ _ _ [some (.ref (43 + 3)), some (.int x1), none, none, none, none] [.int x1] _ _ from ?_)
  refine zy_40 rfl (show zyR _ _ _ _ [some (.ref (43 + 3)), some (.int x1), none, none, none, none] [.long (x1).toInt64] _ _ from ?_)
  refine zy_36 rfl rfl (show zyR _ _ _ _ [some (.ref (43 + 3)), some (.int x1), none, none, none, none] [.long (0 : Int64), .long (x1).toInt64] _ _ from ?_)
  refine zy_36c rfl rfl (show zyR _ _ _ _ [some (.ref (43 + 3)), some (.int x1), none, none, none, none] [.long (2 : Int64), .long (0 : Int64), .long (x1).toInt64] _ _ from ?_)
  obtain ⟨p9, hp9, h⟩ := zy_bind h
  refine zy_60 (as := [.long (x1).toInt64, .long (0 : Int64), .long (2 : Int64)]) (rest := []) (L := [some (.long (x1).toInt64), none, some (.long (0 : Int64)), none, some (.long (2 : Int64)), none]) (d' := 1) rfl rfl (Nat.le_of_ble_eq_true rfl) (Nat.le_of_ble_eq_true rfl) rfl (Nat.le_of_ble_eq_true rfl) rfl rfl (zyC179 hp9) ?_
  show zyR _ _ _ _ [some (.ref (43 + 3)), some (.int x1), none, none, none, none] [.int p9.1] _ _
  refine zy_24_1 rfl (fun b10 => (show zyR _ _ _ _ [some (.ref (43 + 3)), some (.int x1), none, none, none, none] [] _ _ from ?_)) (fun b10 => (show zyR _ _ _ _ [some (.ref (43 + 3)), some (.int x1), none, none, none, none] [] _ _ from ?_))
  · replace h := zy_ifp h b10
    refine zy_3 rfl rfl (show zyR _ _ _ _ [some (.ref (43 + 3)), some (.int x1), none, none, none, none] [.int (0 : Int32)] _ _ from ?_)
    refine zy_23 rfl rfl (show zyR _ _ _ _ [some (.ref (43 + 3)), some (.int x1), some (.int (0 : Int32)), none, none, none] [] _ _ from ?_)
    refine zy_3 rfl rfl (show zyR _ _ _ _ [some (.ref (43 + 3)), some (.int x1), some (.int (0 : Int32)), none, none, none] [.int (0 : Int32)] _ _ from ?_)
    refine zy_23 rfl rfl (show zyR _ _ _ _ [some (.ref (43 + 3)), some (.int x1), some (.int (0 : Int32)), some (.int (0 : Int32)), none, none] [] _ _ from ?_)
    exact zy_sub (show zy_le [some (.ref (43 + 3)), some (.int x1), some (.int (0 : Int32)), some (.int (0 : Int32)), none, none] [some (.ref (43 + 3)), some (.int x1), some (.int (0 : Int32)), some (.int (0 : Int32)), none, none] from ⟨rfl, ⟨rfl, ⟨rfl, ⟨rfl, trivial⟩⟩⟩⟩) (zyC225_18 zy_fu x1 (0 : Int32) (0 : Int32) p9.2 _ _ h)
  · replace h := zy_ifn h b10
    refine zy_3 rfl rfl (show zyR _ _ _ _ [some (.ref (43 + 3)), some (.int x1), none, none, none, none] [.int (-1 : Int32)] _ _ from ?_)
    cases h
    exact zy_4 rfl ⟨rfl, rfl⟩
/-! NineOpinions$Votes.believersOf(I)I -/
noncomputable def zyF95_35  (k4 : Int32 → Int32 → Int32 → zy_S → Option (Int32 × zy_S)) (x1 : Int32) (x3 : Int32) (y0 : Int32) (y1 : Int32) (s : zy_S) : Option (Int32 × zy_S) :=
k4 x1 (y1 ||| y0) (x3 + (1 : Int32)) s
theorem zyC95_35 {X : zx_X}  {k4 : Int32 → Int32 → Int32 → zy_S → Option (Int32 × zy_S)}  (hk4 : ∀ (x1 : Int32) (x2 : Int32) (x3 : Int32) (s : zy_S) (r : Int32) (s' : zy_S), k4 x1 x2 x3 s = some (r, s') → zyR X 3 95 4 [some (.ref (16 + 3)), some (.int x1), some (.int x2), some (.int x3)] [] s (zyE (some (.int r)) s')) {x1 : Int32} {x3 : Int32} {y0 : Int32} {y1 : Int32} {s : zy_S} {r : Int32} {s' : zy_S}  (h : zyF95_35 k4 x1 x3 y0 y1 s = some (r, s')) : zyR X 3 95 35 [some (.ref (16 + 3)), some (.int x1), none, some (.int x3)] [.int y0, .int y1] s (zyE (some (.int r)) s') := by
  unfold zyF95_35 at h
  refine zy_14 rfl (show zyR _ _ _ _ [some (.ref (16 + 3)), some (.int x1), none, some (.int x3)] [.int (y1 ||| y0)] _ _ from ?_)
  refine zy_23 rfl rfl (show zyR _ _ _ _ [some (.ref (16 + 3)), some (.int x1), some (.int (y1 ||| y0)), some (.int x3)] [] _ _ from ?_)
  refine zy_22 rfl rfl rfl rfl (show zyR _ _ _ _ [some (.ref (16 + 3)), some (.int x1), some (.int (y1 ||| y0)), some (.int (x3 + (1 : Int32)))] [] _ _ from ?_)
  refine zy_6 rfl (show zyR _ _ _ _ [some (.ref (16 + 3)), some (.int x1), some (.int (y1 ||| y0)), some (.int (x3 + (1 : Int32)))] [] _ _ from ?_)
  exact zy_sub (show zy_le [some (.ref (16 + 3)), some (.int x1), some (.int (y1 ||| y0)), some (.int (x3 + (1 : Int32)))] [some (.ref (16 + 3)), some (.int x1), some (.int (y1 ||| y0)), some (.int (x3 + (1 : Int32)))] from ⟨rfl, ⟨rfl, ⟨rfl, ⟨rfl, trivial⟩⟩⟩⟩) (hk4 x1 (y1 ||| y0) (x3 + (1 : Int32)) s _ _ h)
noncomputable def zyF95_4b  (k4 : Int32 → Int32 → Int32 → zy_S → Option (Int32 × zy_S)) (x1 : Int32) (x2 : Int32) (x3 : Int32) (s : zy_S) : Option (Int32 × zy_S) :=
if (s.1 1 5) ≤ x3 then
some (x2, s)
else
(zyF96 x3 x1 s).bind fun p1 =>
if p1.1 = 0 then
zyF95_35 k4 x1 x3 (0 : Int32) x2 p1.2
else
zyF95_35 k4 x1 x3 ((1 : Int32) <<< (x3 &&& 31)) x2 p1.2
theorem zyC95_4b {X : zx_X}  {k4 : Int32 → Int32 → Int32 → zy_S → Option (Int32 × zy_S)}  (hk4 : ∀ (x1 : Int32) (x2 : Int32) (x3 : Int32) (s : zy_S) (r : Int32) (s' : zy_S), k4 x1 x2 x3 s = some (r, s') → zyR X 3 95 4 [some (.ref (16 + 3)), some (.int x1), some (.int x2), some (.int x3)] [] s (zyE (some (.int r)) s')) {x1 : Int32} {x2 : Int32} {x3 : Int32} {s : zy_S} {r : Int32} {s' : zy_S}  (h : zyF95_4b k4 x1 x2 x3 s = some (r, s')) : zyR X 3 95 4 [some (.ref (16 + 3)), some (.int x1), some (.int x2), some (.int x3)] [] s (zyE (some (.int r)) s') := by
  unfold zyF95_4b at h
  refine zy_2 rfl rfl (show zyR _ _ _ _ [some (.ref (16 + 3)), some (.int x1), some (.int x2), some (.int x3)] [.int x3] _ _ from ?_)
  refine zy_0 rfl rfl (show zyR _ _ _ _ [some (.ref (16 + 3)), some (.int x1), some (.int x2), some (.int x3)] [.ref (16 + 3), .int x3] _ _ from ?_)
  refine zy_1r (c := 16) rfl rfl rfl (show zyR _ _ _ _ [some (.ref (16 + 3)), some (.int x1), some (.int x2), some (.int x3)] [.ref (1 + 3), .int x3] _ _ from ?_)
  refine zy_1 (c := 1) rfl rfl rfl (show zyR _ _ _ _ [some (.ref (16 + 3)), some (.int x1), some (.int x2), some (.int x3)] [.int (s.1 1 5), .int x3] _ _ from ?_)
  refine zy_25_3 rfl (fun b3 => (show zyR _ _ _ _ [some (.ref (16 + 3)), some (.int x1), some (.int x2), some (.int x3)] [] _ _ from ?_)) (fun b3 => (show zyR _ _ _ _ [some (.ref (16 + 3)), some (.int x1), some (.int x2), some (.int x3)] [] _ _ from ?_))
  · replace h := zy_ifp h b3
    refine zy_2 rfl rfl (show zyR _ _ _ _ [some (.ref (16 + 3)), some (.int x1), some (.int x2), some (.int x3)] [.int x2] _ _ from ?_)
    cases h
    exact zy_4 rfl ⟨rfl, rfl⟩
  · replace h := zy_ifn h b3
    refine zy_2 rfl rfl (show zyR _ _ _ _ [some (.ref (16 + 3)), some (.int x1), some (.int x2), some (.int x3)] [.int x2] _ _ from ?_)
    refine zy_0 rfl rfl (show zyR _ _ _ _ [some (.ref (16 + 3)), some (.int x1), some (.int x2), some (.int x3)] [.ref (16 + 3), .int x2] _ _ from ?_)
    refine zy_1r (c := 16) rfl rfl rfl (show zyR _ _ _ _ [some (.ref (16 + 3)), some (.int x1), some (.int x2), some (.int x3)] [.ref (1 + 3), .int x2] _ _ from ?_)
    refine zy_2 rfl rfl (show zyR _ _ _ _ [some (.ref (16 + 3)), some (.int x1), some (.int x2), some (.int x3)] [.int x3, .ref (1 + 3), .int x2] _ _ from ?_)
    refine zy_2 rfl rfl (show zyR _ _ _ _ [some (.ref (16 + 3)), some (.int x1), some (.int x2), some (.int x3)] [.int x1, .int x3, .ref (1 + 3), .int x2] _ _ from ?_)
    obtain ⟨p1, hp1, h⟩ := zy_bind h
    refine zy_5 (c := 1) (as := [.int x3, .int x1]) (rest := [.int x2]) (L := [some (.ref (1 + 3)), some (.int x3), some (.int x1)]) (d' := 2) rfl rfl rfl (Nat.le_of_ble_eq_true rfl) (Nat.le_of_ble_eq_true rfl) rfl (Nat.le_of_ble_eq_true rfl) rfl rfl (zyC96 hp1) ?_
    show zyR _ _ _ _ [some (.ref (16 + 3)), some (.int x1), some (.int x2), some (.int x3)] [.int p1.1, .int x2] _ _
    refine zy_24_0 rfl (fun b2 => (show zyR _ _ _ _ [some (.ref (16 + 3)), some (.int x1), some (.int x2), some (.int x3)] [.int x2] _ _ from ?_)) (fun b2 => (show zyR _ _ _ _ [some (.ref (16 + 3)), some (.int x1), some (.int x2), some (.int x3)] [.int x2] _ _ from ?_))
    · replace h := zy_ifp h b2
      refine zy_3 rfl rfl (show zyR _ _ _ _ [some (.ref (16 + 3)), some (.int x1), some (.int x2), some (.int x3)] [.int (0 : Int32), .int x2] _ _ from ?_)
      exact zy_sub (show zy_le [some (.ref (16 + 3)), some (.int x1), none, some (.int x3)] [some (.ref (16 + 3)), some (.int x1), some (.int x2), some (.int x3)] from ⟨rfl, ⟨rfl, ⟨rfl, trivial⟩⟩⟩) (zyC95_35 hk4 h)
    · replace h := zy_ifn h b2
      refine zy_3 rfl rfl (show zyR _ _ _ _ [some (.ref (16 + 3)), some (.int x1), some (.int x2), some (.int x3)] [.int (1 : Int32), .int x2] _ _ from ?_)
      refine zy_2 rfl rfl (show zyR _ _ _ _ [some (.ref (16 + 3)), some (.int x1), some (.int x2), some (.int x3)] [.int x3, .int (1 : Int32), .int x2] _ _ from ?_)
      refine zy_16 rfl (show zyR _ _ _ _ [some (.ref (16 + 3)), some (.int x1), some (.int x2), some (.int x3)] [.int ((1 : Int32) <<< (x3 &&& 31)), .int x2] _ _ from ?_)
      refine zy_6 rfl (show zyR _ _ _ _ [some (.ref (16 + 3)), some (.int x1), some (.int x2), some (.int x3)] [.int ((1 : Int32) <<< (x3 &&& 31)), .int x2] _ _ from ?_)
      exact zy_sub (show zy_le [some (.ref (16 + 3)), some (.int x1), none, some (.int x3)] [some (.ref (16 + 3)), some (.int x1), some (.int x2), some (.int x3)] from ⟨rfl, ⟨rfl, ⟨rfl, trivial⟩⟩⟩) (zyC95_35 hk4 h)
noncomputable def zyF95_4   (n : Nat) : Int32 → Int32 → Int32 → zy_S → Option (Int32 × zy_S) := Nat.rec (fun _ _ _ _ => none) (fun _ k4 => zyF95_4b k4) n
theorem zyC95_4 {X : zx_X}     : ∀ (n : Nat) (x1 : Int32) (x2 : Int32) (x3 : Int32) (s : zy_S) (r : Int32) (s' : zy_S), zyF95_4 n x1 x2 x3 s = some (r, s') → zyR X 3 95 4 [some (.ref (16 + 3)), some (.int x1), some (.int x2), some (.int x3)] [] s (zyE (some (.int r)) s')
  | 0, _, _, _ => by
    intro s r s'  h
    have h : (none : Option (Int32 × zy_S)) = some (r, s') := h
    cases h
  | n + 1, x1, x2, x3 => by
    intro s r s'  h
    exact zyC95_4b (k4 := zyF95_4 n) (fun x1 x2 x3 s r s'  h => zyC95_4  n x1 x2 x3 s r s'  h) h
noncomputable def zyF95   (x1 : Int32) (s : zy_S) : Option (Int32 × zy_S) :=
zyF95_4 zy_fu x1 (0 : Int32) (0 : Int32) s
theorem zyC95 {X : zx_X}     {x1 : Int32} {s : zy_S} {r : Int32} {s' : zy_S}  (h : zyF95 x1 s = some (r, s')) : zyR X 3 95 0 [some (.ref (16 + 3)), some (.int x1), none, none] [] s (zyE (some (.int r)) s') := by
  unfold zyF95 at h
  refine zy_3 rfl rfl (show zyR _ _ _ _ [some (.ref (16 + 3)), some (.int x1), none, none] [.int (0 : Int32)] _ _ from ?_)
  refine zy_23 rfl rfl (show zyR _ _ _ _ [some (.ref (16 + 3)), some (.int x1), some (.int (0 : Int32)), none] [] _ _ from ?_)
  refine zy_3 rfl rfl (show zyR _ _ _ _ [some (.ref (16 + 3)), some (.int x1), some (.int (0 : Int32)), none] [.int (0 : Int32)] _ _ from ?_)
  refine zy_23 rfl rfl (show zyR _ _ _ _ [some (.ref (16 + 3)), some (.int x1), some (.int (0 : Int32)), some (.int (0 : Int32))] [] _ _ from ?_)
  exact zy_sub (show zy_le [some (.ref (16 + 3)), some (.int x1), some (.int (0 : Int32)), some (.int (0 : Int32))] [some (.ref (16 + 3)), some (.int x1), some (.int (0 : Int32)), some (.int (0 : Int32))] from ⟨rfl, ⟨rfl, ⟨rfl, ⟨rfl, trivial⟩⟩⟩⟩) (zyC95_4 zy_fu x1 (0 : Int32) (0 : Int32) s _ _ h)
/-! NineOpinions$Votes.standingOf(I)I -/
noncomputable def zyF98_38  (k4 : Int32 → Int32 → Int32 → zy_S → Option (Int32 × zy_S)) (x1 : Int32) (x3 : Int32) (y0 : Int32) (y1 : Int32) (s : zy_S) : Option (Int32 × zy_S) :=
k4 x1 (y1 + y0) (x3 + (1 : Int32)) s
theorem zyC98_38 {X : zx_X}  {k4 : Int32 → Int32 → Int32 → zy_S → Option (Int32 × zy_S)}  (hk4 : ∀ (x1 : Int32) (x2 : Int32) (x3 : Int32) (s : zy_S) (r : Int32) (s' : zy_S), k4 x1 x2 x3 s = some (r, s') → zyR X 2 98 4 [some (.ref (16 + 3)), some (.int x1), some (.int x2), some (.int x3)] [] s (zyE (some (.int r)) s')) {x1 : Int32} {x3 : Int32} {y0 : Int32} {y1 : Int32} {s : zy_S} {r : Int32} {s' : zy_S}  (h : zyF98_38 k4 x1 x3 y0 y1 s = some (r, s')) : zyR X 2 98 38 [some (.ref (16 + 3)), some (.int x1), none, some (.int x3)] [.int y0, .int y1] s (zyE (some (.int r)) s') := by
  unfold zyF98_38 at h
  refine zy_10 rfl (show zyR _ _ _ _ [some (.ref (16 + 3)), some (.int x1), none, some (.int x3)] [.int (y1 + y0)] _ _ from ?_)
  refine zy_23 rfl rfl (show zyR _ _ _ _ [some (.ref (16 + 3)), some (.int x1), some (.int (y1 + y0)), some (.int x3)] [] _ _ from ?_)
  refine zy_22 rfl rfl rfl rfl (show zyR _ _ _ _ [some (.ref (16 + 3)), some (.int x1), some (.int (y1 + y0)), some (.int (x3 + (1 : Int32)))] [] _ _ from ?_)
  refine zy_6 rfl (show zyR _ _ _ _ [some (.ref (16 + 3)), some (.int x1), some (.int (y1 + y0)), some (.int (x3 + (1 : Int32)))] [] _ _ from ?_)
  exact zy_sub (show zy_le [some (.ref (16 + 3)), some (.int x1), some (.int (y1 + y0)), some (.int (x3 + (1 : Int32)))] [some (.ref (16 + 3)), some (.int x1), some (.int (y1 + y0)), some (.int (x3 + (1 : Int32)))] from ⟨rfl, ⟨rfl, ⟨rfl, ⟨rfl, trivial⟩⟩⟩⟩) (hk4 x1 (y1 + y0) (x3 + (1 : Int32)) s _ _ h)
noncomputable def zyF98_4b  (k4 : Int32 → Int32 → Int32 → zy_S → Option (Int32 × zy_S)) (x1 : Int32) (x2 : Int32) (x3 : Int32) (s : zy_S) : Option (Int32 × zy_S) :=
if (s.1 1 5) ≤ x3 then
some (x2, s)
else
(zyF32 x1 x3 s).bind fun p1 =>
if p1.1 ≠ (1 : Int32) then
zyF98_38 k4 x1 x3 (0 : Int32) x2 p1.2
else
if zy_in x3 8 then
zyF98_38 k4 x1 x3 (p1.2.1 4 (x3).toNatClampNeg) x2 p1.2
else none
theorem zyC98_4b {X : zx_X}  {k4 : Int32 → Int32 → Int32 → zy_S → Option (Int32 × zy_S)}  (hk4 : ∀ (x1 : Int32) (x2 : Int32) (x3 : Int32) (s : zy_S) (r : Int32) (s' : zy_S), k4 x1 x2 x3 s = some (r, s') → zyR X 2 98 4 [some (.ref (16 + 3)), some (.int x1), some (.int x2), some (.int x3)] [] s (zyE (some (.int r)) s')) {x1 : Int32} {x2 : Int32} {x3 : Int32} {s : zy_S} {r : Int32} {s' : zy_S}  (h : zyF98_4b k4 x1 x2 x3 s = some (r, s')) : zyR X 2 98 4 [some (.ref (16 + 3)), some (.int x1), some (.int x2), some (.int x3)] [] s (zyE (some (.int r)) s') := by
  unfold zyF98_4b at h
  refine zy_2 rfl rfl (show zyR _ _ _ _ [some (.ref (16 + 3)), some (.int x1), some (.int x2), some (.int x3)] [.int x3] _ _ from ?_)
  refine zy_0 rfl rfl (show zyR _ _ _ _ [some (.ref (16 + 3)), some (.int x1), some (.int x2), some (.int x3)] [.ref (16 + 3), .int x3] _ _ from ?_)
  refine zy_1r (c := 16) rfl rfl rfl (show zyR _ _ _ _ [some (.ref (16 + 3)), some (.int x1), some (.int x2), some (.int x3)] [.ref (1 + 3), .int x3] _ _ from ?_)
  refine zy_1 (c := 1) rfl rfl rfl (show zyR _ _ _ _ [some (.ref (16 + 3)), some (.int x1), some (.int x2), some (.int x3)] [.int (s.1 1 5), .int x3] _ _ from ?_)
  refine zy_25_3 rfl (fun b4 => (show zyR _ _ _ _ [some (.ref (16 + 3)), some (.int x1), some (.int x2), some (.int x3)] [] _ _ from ?_)) (fun b4 => (show zyR _ _ _ _ [some (.ref (16 + 3)), some (.int x1), some (.int x2), some (.int x3)] [] _ _ from ?_))
  · replace h := zy_ifp h b4
    refine zy_2 rfl rfl (show zyR _ _ _ _ [some (.ref (16 + 3)), some (.int x1), some (.int x2), some (.int x3)] [.int x2] _ _ from ?_)
    cases h
    exact zy_4 rfl ⟨rfl, rfl⟩
  · replace h := zy_ifn h b4
    refine zy_2 rfl rfl (show zyR _ _ _ _ [some (.ref (16 + 3)), some (.int x1), some (.int x2), some (.int x3)] [.int x2] _ _ from ?_)
    refine zy_2 rfl rfl (show zyR _ _ _ _ [some (.ref (16 + 3)), some (.int x1), some (.int x2), some (.int x3)] [.int x1, .int x2] _ _ from ?_)
    refine zy_2 rfl rfl (show zyR _ _ _ _ [some (.ref (16 + 3)), some (.int x1), some (.int x2), some (.int x3)] [.int x3, .int x1, .int x2] _ _ from ?_)
    obtain ⟨p1, hp1, h⟩ := zy_bind h
    refine zy_61 (as := [.int x1, .int x3]) (rest := [.int x2]) (L := [some (.int x1), some (.int x3)]) (d' := 1) rfl rfl (Nat.le_of_ble_eq_true rfl) (Nat.le_of_ble_eq_true rfl) rfl (Nat.le_of_ble_eq_true rfl) rfl rfl (zyC32 hp1) ?_
    show zyR _ _ _ _ [some (.ref (16 + 3)), some (.int x1), some (.int x2), some (.int x3)] [.int p1.1, .int x2] _ _
    refine zy_3 rfl rfl (show zyR _ _ _ _ [some (.ref (16 + 3)), some (.int x1), some (.int x2), some (.int x3)] [.int (1 : Int32), .int p1.1, .int x2] _ _ from ?_)
    refine zy_25_1 rfl (fun b3 => (show zyR _ _ _ _ [some (.ref (16 + 3)), some (.int x1), some (.int x2), some (.int x3)] [.int x2] _ _ from ?_)) (fun b3 => (show zyR _ _ _ _ [some (.ref (16 + 3)), some (.int x1), some (.int x2), some (.int x3)] [.int x2] _ _ from ?_))
    · replace h := zy_ifp h b3
      refine zy_3 rfl rfl (show zyR _ _ _ _ [some (.ref (16 + 3)), some (.int x1), some (.int x2), some (.int x3)] [.int (0 : Int32), .int x2] _ _ from ?_)
      exact zy_sub (show zy_le [some (.ref (16 + 3)), some (.int x1), none, some (.int x3)] [some (.ref (16 + 3)), some (.int x1), some (.int x2), some (.int x3)] from ⟨rfl, ⟨rfl, ⟨rfl, trivial⟩⟩⟩) (zyC98_38 hk4 h)
    · replace h := zy_ifn h b3
      refine zy_0 rfl rfl (show zyR _ _ _ _ [some (.ref (16 + 3)), some (.int x1), some (.int x2), some (.int x3)] [.ref (16 + 3), .int x2] _ _ from ?_)
      refine zy_1r (c := 16) rfl rfl rfl (show zyR _ _ _ _ [some (.ref (16 + 3)), some (.int x1), some (.int x2), some (.int x3)] [.ref (1 + 3), .int x2] _ _ from ?_)
      refine zy_1r (c := 1) rfl rfl rfl (show zyR _ _ _ _ [some (.ref (16 + 3)), some (.int x1), some (.int x2), some (.int x3)] [.ref (4 + 3), .int x2] _ _ from ?_)
      refine zy_2 rfl rfl (show zyR _ _ _ _ [some (.ref (16 + 3)), some (.int x1), some (.int x2), some (.int x3)] [.int x3, .ref (4 + 3), .int x2] _ _ from ?_)
      obtain ⟨c2, h⟩ := zy_if h
      refine zy_26 (c := 4) rfl rfl c2 (show zyR _ _ _ _ [some (.ref (16 + 3)), some (.int x1), some (.int x2), some (.int x3)] [.int (p1.2.1 4 (x3).toNatClampNeg), .int x2] _ _ from ?_)
      refine zy_6 rfl (show zyR _ _ _ _ [some (.ref (16 + 3)), some (.int x1), some (.int x2), some (.int x3)] [.int (p1.2.1 4 (x3).toNatClampNeg), .int x2] _ _ from ?_)
      exact zy_sub (show zy_le [some (.ref (16 + 3)), some (.int x1), none, some (.int x3)] [some (.ref (16 + 3)), some (.int x1), some (.int x2), some (.int x3)] from ⟨rfl, ⟨rfl, ⟨rfl, trivial⟩⟩⟩) (zyC98_38 hk4 h)
noncomputable def zyF98_4   (n : Nat) : Int32 → Int32 → Int32 → zy_S → Option (Int32 × zy_S) := Nat.rec (fun _ _ _ _ => none) (fun _ k4 => zyF98_4b k4) n
theorem zyC98_4 {X : zx_X}     : ∀ (n : Nat) (x1 : Int32) (x2 : Int32) (x3 : Int32) (s : zy_S) (r : Int32) (s' : zy_S), zyF98_4 n x1 x2 x3 s = some (r, s') → zyR X 2 98 4 [some (.ref (16 + 3)), some (.int x1), some (.int x2), some (.int x3)] [] s (zyE (some (.int r)) s')
  | 0, _, _, _ => by
    intro s r s'  h
    have h : (none : Option (Int32 × zy_S)) = some (r, s') := h
    cases h
  | n + 1, x1, x2, x3 => by
    intro s r s'  h
    exact zyC98_4b (k4 := zyF98_4 n) (fun x1 x2 x3 s r s'  h => zyC98_4  n x1 x2 x3 s r s'  h) h
noncomputable def zyF98   (x1 : Int32) (s : zy_S) : Option (Int32 × zy_S) :=
zyF98_4 zy_fu x1 (0 : Int32) (0 : Int32) s
theorem zyC98 {X : zx_X}     {x1 : Int32} {s : zy_S} {r : Int32} {s' : zy_S}  (h : zyF98 x1 s = some (r, s')) : zyR X 2 98 0 [some (.ref (16 + 3)), some (.int x1), none, none] [] s (zyE (some (.int r)) s') := by
  unfold zyF98 at h
  refine zy_3 rfl rfl (show zyR _ _ _ _ [some (.ref (16 + 3)), some (.int x1), none, none] [.int (0 : Int32)] _ _ from ?_)
  refine zy_23 rfl rfl (show zyR _ _ _ _ [some (.ref (16 + 3)), some (.int x1), some (.int (0 : Int32)), none] [] _ _ from ?_)
  refine zy_3 rfl rfl (show zyR _ _ _ _ [some (.ref (16 + 3)), some (.int x1), some (.int (0 : Int32)), none] [.int (0 : Int32)] _ _ from ?_)
  refine zy_23 rfl rfl (show zyR _ _ _ _ [some (.ref (16 + 3)), some (.int x1), some (.int (0 : Int32)), some (.int (0 : Int32))] [] _ _ from ?_)
  exact zy_sub (show zy_le [some (.ref (16 + 3)), some (.int x1), some (.int (0 : Int32)), some (.int (0 : Int32))] [some (.ref (16 + 3)), some (.int x1), some (.int (0 : Int32)), some (.int (0 : Int32))] from ⟨rfl, ⟨rfl, ⟨rfl, ⟨rfl, trivial⟩⟩⟩⟩) (zyC98_4 zy_fu x1 (0 : Int32) (0 : Int32) s _ _ h)
/-! NineOpinions$Votes.standingFor(II)I -/
noncomputable def zyF128   (x1 : Int32) (x2 : Int32) (s : zy_S) : Option (Int32 × zy_S) :=
(zyF95 (((4 : Int32) * x1) + x2) s).bind fun p1 =>
(zyF98 p1.1 p1.2).bind fun p2 =>
some (p2.1, p2.2)
theorem zyC128 {X : zx_X}     {x1 : Int32} {x2 : Int32} {s : zy_S} {r : Int32} {s' : zy_S}  (h : zyF128 x1 x2 s = some (r, s')) : zyR X 4 128 0 [some (.ref (16 + 3)), some (.int x1), some (.int x2)] [] s (zyE (some (.int r)) s') := by
  unfold zyF128 at h
  refine zy_0 rfl rfl (show zyR _ _ _ _ [some (.ref (16 + 3)), some (.int x1), some (.int x2)] [.ref (16 + 3)] _ _ from ?_)
  refine zy_0 rfl rfl (show zyR _ _ _ _ [some (.ref (16 + 3)), some (.int x1), some (.int x2)] [.ref (16 + 3), .ref (16 + 3)] _ _ from ?_)
  refine zy_3 rfl rfl (show zyR _ _ _ _ [some (.ref (16 + 3)), some (.int x1), some (.int x2)] [.int (4 : Int32), .ref (16 + 3), .ref (16 + 3)] _ _ from ?_)
  refine zy_2 rfl rfl (show zyR _ _ _ _ [some (.ref (16 + 3)), some (.int x1), some (.int x2)] [.int x1, .int (4 : Int32), .ref (16 + 3), .ref (16 + 3)] _ _ from ?_)
  refine zy_12 rfl (show zyR _ _ _ _ [some (.ref (16 + 3)), some (.int x1), some (.int x2)] [.int ((4 : Int32) * x1), .ref (16 + 3), .ref (16 + 3)] _ _ from ?_)
  refine zy_2 rfl rfl (show zyR _ _ _ _ [some (.ref (16 + 3)), some (.int x1), some (.int x2)] [.int x2, .int ((4 : Int32) * x1), .ref (16 + 3), .ref (16 + 3)] _ _ from ?_)
  refine zy_10 rfl (show zyR _ _ _ _ [some (.ref (16 + 3)), some (.int x1), some (.int x2)] [.int (((4 : Int32) * x1) + x2), .ref (16 + 3), .ref (16 + 3)] _ _ from ?_)
  obtain ⟨p1, hp1, h⟩ := zy_bind h
  refine zy_5 (c := 16) (as := [.int (((4 : Int32) * x1) + x2)]) (rest := [.ref (16 + 3)]) (L := [some (.ref (16 + 3)), some (.int (((4 : Int32) * x1) + x2)), none, none]) (d' := 3) rfl rfl rfl (Nat.le_of_ble_eq_true rfl) (Nat.le_of_ble_eq_true rfl) rfl (Nat.le_of_ble_eq_true rfl) rfl rfl (zyC95 hp1) ?_
  show zyR _ _ _ _ [some (.ref (16 + 3)), some (.int x1), some (.int x2)] [.int p1.1, .ref (16 + 3)] _ _
  obtain ⟨p2, hp2, h⟩ := zy_bind h
  refine zy_5 (c := 16) (as := [.int p1.1]) (rest := []) (L := [some (.ref (16 + 3)), some (.int p1.1), none, none]) (d' := 2) rfl rfl rfl (Nat.le_of_ble_eq_true rfl) (Nat.le_of_ble_eq_true rfl) rfl (Nat.le_of_ble_eq_true rfl) rfl rfl (zyC98 hp2) ?_
  show zyR _ _ _ _ [some (.ref (16 + 3)), some (.int x1), some (.int x2)] [.int p2.1] _ _
  cases h
  exact zy_4 rfl ⟨rfl, rfl⟩
/-! NineOpinions$Votes.commonest(I)I -/
noncomputable def zyF127_29  (k4 : Int32 → Int32 → Int32 → zy_S → Option (Int32 × zy_S)) (x1 : Int32) (x3 : Int32) (y0 : Int32) (s : zy_S) : Option (Int32 × zy_S) :=
k4 x1 y0 (x3 + (1 : Int32)) s
theorem zyC127_29 {X : zx_X}  {k4 : Int32 → Int32 → Int32 → zy_S → Option (Int32 × zy_S)}  (hk4 : ∀ (x1 : Int32) (x2 : Int32) (x3 : Int32) (s : zy_S) (r : Int32) (s' : zy_S), k4 x1 x2 x3 s = some (r, s') → zyR X 5 127 4 [some (.ref (16 + 3)), some (.int x1), some (.int x2), some (.int x3)] [] s (zyE (some (.int r)) s')) {x1 : Int32} {x3 : Int32} {y0 : Int32} {s : zy_S} {r : Int32} {s' : zy_S}  (h : zyF127_29 k4 x1 x3 y0 s = some (r, s')) : zyR X 5 127 29 [some (.ref (16 + 3)), some (.int x1), none, some (.int x3)] [.int y0] s (zyE (some (.int r)) s') := by
  unfold zyF127_29 at h
  refine zy_23 rfl rfl (show zyR _ _ _ _ [some (.ref (16 + 3)), some (.int x1), some (.int y0), some (.int x3)] [] _ _ from ?_)
  refine zy_22 rfl rfl rfl rfl (show zyR _ _ _ _ [some (.ref (16 + 3)), some (.int x1), some (.int y0), some (.int (x3 + (1 : Int32)))] [] _ _ from ?_)
  refine zy_6 rfl (show zyR _ _ _ _ [some (.ref (16 + 3)), some (.int x1), some (.int y0), some (.int (x3 + (1 : Int32)))] [] _ _ from ?_)
  exact zy_sub (show zy_le [some (.ref (16 + 3)), some (.int x1), some (.int y0), some (.int (x3 + (1 : Int32)))] [some (.ref (16 + 3)), some (.int x1), some (.int y0), some (.int (x3 + (1 : Int32)))] from ⟨rfl, ⟨rfl, ⟨rfl, ⟨rfl, trivial⟩⟩⟩⟩) (hk4 x1 y0 (x3 + (1 : Int32)) s _ _ h)
noncomputable def zyF127_4b  (k4 : Int32 → Int32 → Int32 → zy_S → Option (Int32 × zy_S)) (x1 : Int32) (x2 : Int32) (x3 : Int32) (s : zy_S) : Option (Int32 × zy_S) :=
if (4 : Int32) ≤ x3 then
some (x2, s)
else
(zyF128 x1 x3 s).bind fun p1 =>
(zyF128 x1 x2 p1.2).bind fun p2 =>
if p1.1 ≤ p2.1 then
zyF127_29 k4 x1 x3 x2 p2.2
else
zyF127_29 k4 x1 x3 x3 p2.2
theorem zyC127_4b {X : zx_X}  {k4 : Int32 → Int32 → Int32 → zy_S → Option (Int32 × zy_S)}  (hk4 : ∀ (x1 : Int32) (x2 : Int32) (x3 : Int32) (s : zy_S) (r : Int32) (s' : zy_S), k4 x1 x2 x3 s = some (r, s') → zyR X 5 127 4 [some (.ref (16 + 3)), some (.int x1), some (.int x2), some (.int x3)] [] s (zyE (some (.int r)) s')) {x1 : Int32} {x2 : Int32} {x3 : Int32} {s : zy_S} {r : Int32} {s' : zy_S}  (h : zyF127_4b k4 x1 x2 x3 s = some (r, s')) : zyR X 5 127 4 [some (.ref (16 + 3)), some (.int x1), some (.int x2), some (.int x3)] [] s (zyE (some (.int r)) s') := by
  unfold zyF127_4b at h
  refine zy_2 rfl rfl (show zyR _ _ _ _ [some (.ref (16 + 3)), some (.int x1), some (.int x2), some (.int x3)] [.int x3] _ _ from ?_)
  refine zy_3 rfl rfl (show zyR _ _ _ _ [some (.ref (16 + 3)), some (.int x1), some (.int x2), some (.int x3)] [.int (4 : Int32), .int x3] _ _ from ?_)
  refine zy_25_3 rfl (fun b4 => (show zyR _ _ _ _ [some (.ref (16 + 3)), some (.int x1), some (.int x2), some (.int x3)] [] _ _ from ?_)) (fun b4 => (show zyR _ _ _ _ [some (.ref (16 + 3)), some (.int x1), some (.int x2), some (.int x3)] [] _ _ from ?_))
  · replace h := zy_ifp h b4
    refine zy_2 rfl rfl (show zyR _ _ _ _ [some (.ref (16 + 3)), some (.int x1), some (.int x2), some (.int x3)] [.int x2] _ _ from ?_)
    cases h
    exact zy_4 rfl ⟨rfl, rfl⟩
  · replace h := zy_ifn h b4
    refine zy_0 rfl rfl (show zyR _ _ _ _ [some (.ref (16 + 3)), some (.int x1), some (.int x2), some (.int x3)] [.ref (16 + 3)] _ _ from ?_)
    refine zy_2 rfl rfl (show zyR _ _ _ _ [some (.ref (16 + 3)), some (.int x1), some (.int x2), some (.int x3)] [.int x1, .ref (16 + 3)] _ _ from ?_)
    refine zy_2 rfl rfl (show zyR _ _ _ _ [some (.ref (16 + 3)), some (.int x1), some (.int x2), some (.int x3)] [.int x3, .int x1, .ref (16 + 3)] _ _ from ?_)
    obtain ⟨p1, hp1, h⟩ := zy_bind h
    refine zy_5 (c := 16) (as := [.int x1, .int x3]) (rest := []) (L := [some (.ref (16 + 3)), some (.int x1), some (.int x3)]) (d' := 4) rfl rfl rfl (Nat.le_of_ble_eq_true rfl) (Nat.le_of_ble_eq_true rfl) rfl (Nat.le_of_ble_eq_true rfl) rfl rfl (zyC128 hp1) ?_
    show zyR _ _ _ _ [some (.ref (16 + 3)), some (.int x1), some (.int x2), some (.int x3)] [.int p1.1] _ _
    refine zy_0 rfl rfl (show zyR _ _ _ _ [some (.ref (16 + 3)), some (.int x1), some (.int x2), some (.int x3)] [.ref (16 + 3), .int p1.1] _ _ from ?_)
    refine zy_2 rfl rfl (show zyR _ _ _ _ [some (.ref (16 + 3)), some (.int x1), some (.int x2), some (.int x3)] [.int x1, .ref (16 + 3), .int p1.1] _ _ from ?_)
    refine zy_2 rfl rfl (show zyR _ _ _ _ [some (.ref (16 + 3)), some (.int x1), some (.int x2), some (.int x3)] [.int x2, .int x1, .ref (16 + 3), .int p1.1] _ _ from ?_)
    obtain ⟨p2, hp2, h⟩ := zy_bind h
    refine zy_5 (c := 16) (as := [.int x1, .int x2]) (rest := [.int p1.1]) (L := [some (.ref (16 + 3)), some (.int x1), some (.int x2)]) (d' := 4) rfl rfl rfl (Nat.le_of_ble_eq_true rfl) (Nat.le_of_ble_eq_true rfl) rfl (Nat.le_of_ble_eq_true rfl) rfl rfl (zyC128 hp2) ?_
    show zyR _ _ _ _ [some (.ref (16 + 3)), some (.int x1), some (.int x2), some (.int x3)] [.int p2.1, .int p1.1] _ _
    refine zy_25_5 rfl (fun b3 => (show zyR _ _ _ _ [some (.ref (16 + 3)), some (.int x1), some (.int x2), some (.int x3)] [] _ _ from ?_)) (fun b3 => (show zyR _ _ _ _ [some (.ref (16 + 3)), some (.int x1), some (.int x2), some (.int x3)] [] _ _ from ?_))
    · replace h := zy_ifp h b3
      refine zy_2 rfl rfl (show zyR _ _ _ _ [some (.ref (16 + 3)), some (.int x1), some (.int x2), some (.int x3)] [.int x2] _ _ from ?_)
      exact zy_sub (show zy_le [some (.ref (16 + 3)), some (.int x1), none, some (.int x3)] [some (.ref (16 + 3)), some (.int x1), some (.int x2), some (.int x3)] from ⟨rfl, ⟨rfl, ⟨rfl, trivial⟩⟩⟩) (zyC127_29 hk4 h)
    · replace h := zy_ifn h b3
      refine zy_2 rfl rfl (show zyR _ _ _ _ [some (.ref (16 + 3)), some (.int x1), some (.int x2), some (.int x3)] [.int x3] _ _ from ?_)
      refine zy_6 rfl (show zyR _ _ _ _ [some (.ref (16 + 3)), some (.int x1), some (.int x2), some (.int x3)] [.int x3] _ _ from ?_)
      exact zy_sub (show zy_le [some (.ref (16 + 3)), some (.int x1), none, some (.int x3)] [some (.ref (16 + 3)), some (.int x1), some (.int x2), some (.int x3)] from ⟨rfl, ⟨rfl, ⟨rfl, trivial⟩⟩⟩) (zyC127_29 hk4 h)
noncomputable def zyF127_4   (n : Nat) : Int32 → Int32 → Int32 → zy_S → Option (Int32 × zy_S) := Nat.rec (fun _ _ _ _ => none) (fun _ k4 => zyF127_4b k4) n
theorem zyC127_4 {X : zx_X}     : ∀ (n : Nat) (x1 : Int32) (x2 : Int32) (x3 : Int32) (s : zy_S) (r : Int32) (s' : zy_S), zyF127_4 n x1 x2 x3 s = some (r, s') → zyR X 5 127 4 [some (.ref (16 + 3)), some (.int x1), some (.int x2), some (.int x3)] [] s (zyE (some (.int r)) s')
  | 0, _, _, _ => by
    intro s r s'  h
    have h : (none : Option (Int32 × zy_S)) = some (r, s') := h
    cases h
  | n + 1, x1, x2, x3 => by
    intro s r s'  h
    exact zyC127_4b (k4 := zyF127_4 n) (fun x1 x2 x3 s r s'  h => zyC127_4  n x1 x2 x3 s r s'  h) h
noncomputable def zyF127   (x1 : Int32) (s : zy_S) : Option (Int32 × zy_S) :=
zyF127_4 zy_fu x1 (0 : Int32) (1 : Int32) s
theorem zyC127 {X : zx_X}     {x1 : Int32} {s : zy_S} {r : Int32} {s' : zy_S}  (h : zyF127 x1 s = some (r, s')) : zyR X 5 127 0 [some (.ref (16 + 3)), some (.int x1), none, none] [] s (zyE (some (.int r)) s') := by
  unfold zyF127 at h
  refine zy_3 rfl rfl (show zyR _ _ _ _ [some (.ref (16 + 3)), some (.int x1), none, none] [.int (0 : Int32)] _ _ from ?_)
  refine zy_23 rfl rfl (show zyR _ _ _ _ [some (.ref (16 + 3)), some (.int x1), some (.int (0 : Int32)), none] [] _ _ from ?_)
  refine zy_3 rfl rfl (show zyR _ _ _ _ [some (.ref (16 + 3)), some (.int x1), some (.int (0 : Int32)), none] [.int (1 : Int32)] _ _ from ?_)
  refine zy_23 rfl rfl (show zyR _ _ _ _ [some (.ref (16 + 3)), some (.int x1), some (.int (0 : Int32)), some (.int (1 : Int32))] [] _ _ from ?_)
  exact zy_sub (show zy_le [some (.ref (16 + 3)), some (.int x1), some (.int (0 : Int32)), some (.int (1 : Int32))] [some (.ref (16 + 3)), some (.int x1), some (.int (0 : Int32)), some (.int (1 : Int32))] from ⟨rfl, ⟨rfl, ⟨rfl, ⟨rfl, trivial⟩⟩⟩⟩) (zyC127_4 zy_fu x1 (0 : Int32) (1 : Int32) s _ _ h)
/-! NineOpinions$Votes.mostUnlike()I -/
noncomputable def zyF126_40  (k4 : Int32 → Int32 → zy_S → Option (Int32 × zy_S)) (x2 : Int32) (y0 : Int32) (s : zy_S) : Option (Int32 × zy_S) :=
k4 y0 (x2 + (1 : Int32)) s
theorem zyC126_40 {X : zx_X}  {k4 : Int32 → Int32 → zy_S → Option (Int32 × zy_S)}  (hk4 : ∀ (x1 : Int32) (x2 : Int32) (s : zy_S) (r : Int32) (s' : zy_S), k4 x1 x2 s = some (r, s') → zyR X 6 126 4 [some (.ref (16 + 3)), some (.int x1), some (.int x2), none] [] s (zyE (some (.int r)) s')) {x2 : Int32} {y0 : Int32} {s : zy_S} {r : Int32} {s' : zy_S}  (h : zyF126_40 k4 x2 y0 s = some (r, s')) : zyR X 6 126 40 [some (.ref (16 + 3)), none, some (.int x2), none] [.int y0] s (zyE (some (.int r)) s') := by
  unfold zyF126_40 at h
  refine zy_23 rfl rfl (show zyR _ _ _ _ [some (.ref (16 + 3)), some (.int y0), some (.int x2), none] [] _ _ from ?_)
  refine zy_22 rfl rfl rfl rfl (show zyR _ _ _ _ [some (.ref (16 + 3)), some (.int y0), some (.int (x2 + (1 : Int32))), none] [] _ _ from ?_)
  refine zy_6 rfl (show zyR _ _ _ _ [some (.ref (16 + 3)), some (.int y0), some (.int (x2 + (1 : Int32))), none] [] _ _ from ?_)
  exact zy_sub (show zy_le [some (.ref (16 + 3)), some (.int y0), some (.int (x2 + (1 : Int32))), none] [some (.ref (16 + 3)), some (.int y0), some (.int (x2 + (1 : Int32))), none] from ⟨rfl, ⟨rfl, ⟨rfl, trivial⟩⟩⟩) (hk4 y0 (x2 + (1 : Int32)) s _ _ h)
noncomputable def zyF126_4b  (k4 : Int32 → Int32 → zy_S → Option (Int32 × zy_S)) (x1 : Int32) (x2 : Int32) (s : zy_S) : Option (Int32 × zy_S) :=
if (6 : Int32) ≤ x2 then
some (x1, s)
else
(zyF127 x2 s).bind fun p1 =>
(zyF128 x2 p1.1 p1.2).bind fun p2 =>
(zyF127 x1 p2.2).bind fun p3 =>
(zyF128 x1 p3.1 p3.2).bind fun p4 =>
if p4.1 ≤ p2.1 then
zyF126_40 k4 x2 x1 p4.2
else
zyF126_40 k4 x2 x2 p4.2
theorem zyC126_4b {X : zx_X}  {k4 : Int32 → Int32 → zy_S → Option (Int32 × zy_S)}  (hk4 : ∀ (x1 : Int32) (x2 : Int32) (s : zy_S) (r : Int32) (s' : zy_S), k4 x1 x2 s = some (r, s') → zyR X 6 126 4 [some (.ref (16 + 3)), some (.int x1), some (.int x2), none] [] s (zyE (some (.int r)) s')) {x1 : Int32} {x2 : Int32} {s : zy_S} {r : Int32} {s' : zy_S}  (h : zyF126_4b k4 x1 x2 s = some (r, s')) : zyR X 6 126 4 [some (.ref (16 + 3)), some (.int x1), some (.int x2), none] [] s (zyE (some (.int r)) s') := by
  unfold zyF126_4b at h
  refine zy_2 rfl rfl (show zyR _ _ _ _ [some (.ref (16 + 3)), some (.int x1), some (.int x2), none] [.int x2] _ _ from ?_)
  refine zy_3 rfl rfl (show zyR _ _ _ _ [some (.ref (16 + 3)), some (.int x1), some (.int x2), none] [.int (6 : Int32), .int x2] _ _ from ?_)
  refine zy_25_3 rfl (fun b6 => (show zyR _ _ _ _ [some (.ref (16 + 3)), some (.int x1), some (.int x2), none] [] _ _ from ?_)) (fun b6 => (show zyR _ _ _ _ [some (.ref (16 + 3)), some (.int x1), some (.int x2), none] [] _ _ from ?_))
  · replace h := zy_ifp h b6
    refine zy_2 rfl rfl (show zyR _ _ _ _ [some (.ref (16 + 3)), some (.int x1), some (.int x2), none] [.int x1] _ _ from ?_)
    cases h
    exact zy_4 rfl ⟨rfl, rfl⟩
  · replace h := zy_ifn h b6
    refine zy_0 rfl rfl (show zyR _ _ _ _ [some (.ref (16 + 3)), some (.int x1), some (.int x2), none] [.ref (16 + 3)] _ _ from ?_)
    refine zy_2 rfl rfl (show zyR _ _ _ _ [some (.ref (16 + 3)), some (.int x1), some (.int x2), none] [.int x2, .ref (16 + 3)] _ _ from ?_)
    refine zy_0 rfl rfl (show zyR _ _ _ _ [some (.ref (16 + 3)), some (.int x1), some (.int x2), none] [.ref (16 + 3), .int x2, .ref (16 + 3)] _ _ from ?_)
    refine zy_2 rfl rfl (show zyR _ _ _ _ [some (.ref (16 + 3)), some (.int x1), some (.int x2), none] [.int x2, .ref (16 + 3), .int x2, .ref (16 + 3)] _ _ from ?_)
    obtain ⟨p1, hp1, h⟩ := zy_bind h
    refine zy_5 (c := 16) (as := [.int x2]) (rest := [.int x2, .ref (16 + 3)]) (L := [some (.ref (16 + 3)), some (.int x2), none, none]) (d' := 5) rfl rfl rfl (Nat.le_of_ble_eq_true rfl) (Nat.le_of_ble_eq_true rfl) rfl (Nat.le_of_ble_eq_true rfl) rfl rfl (zyC127 hp1) ?_
    show zyR _ _ _ _ [some (.ref (16 + 3)), some (.int x1), some (.int x2), none] [.int p1.1, .int x2, .ref (16 + 3)] _ _
    obtain ⟨p2, hp2, h⟩ := zy_bind h
    refine zy_5 (c := 16) (as := [.int x2, .int p1.1]) (rest := []) (L := [some (.ref (16 + 3)), some (.int x2), some (.int p1.1)]) (d' := 4) rfl rfl rfl (Nat.le_of_ble_eq_true rfl) (Nat.le_of_ble_eq_true rfl) rfl (Nat.le_of_ble_eq_true rfl) rfl rfl (zyC128 hp2) ?_
    show zyR _ _ _ _ [some (.ref (16 + 3)), some (.int x1), some (.int x2), none] [.int p2.1] _ _
    refine zy_23 rfl rfl (show zyR _ _ _ _ [some (.ref (16 + 3)), some (.int x1), some (.int x2), some (.int p2.1)] [] _ _ from ?_)
    refine zy_2 rfl rfl (show zyR _ _ _ _ [some (.ref (16 + 3)), some (.int x1), some (.int x2), some (.int p2.1)] [.int p2.1] _ _ from ?_)
    refine zy_0 rfl rfl (show zyR _ _ _ _ [some (.ref (16 + 3)), some (.int x1), some (.int x2), some (.int p2.1)] [.ref (16 + 3), .int p2.1] _ _ from ?_)
    refine zy_2 rfl rfl (show zyR _ _ _ _ [some (.ref (16 + 3)), some (.int x1), some (.int x2), some (.int p2.1)] [.int x1, .ref (16 + 3), .int p2.1] _ _ from ?_)
    refine zy_0 rfl rfl (show zyR _ _ _ _ [some (.ref (16 + 3)), some (.int x1), some (.int x2), some (.int p2.1)] [.ref (16 + 3), .int x1, .ref (16 + 3), .int p2.1] _ _ from ?_)
    refine zy_2 rfl rfl (show zyR _ _ _ _ [some (.ref (16 + 3)), some (.int x1), some (.int x2), some (.int p2.1)] [.int x1, .ref (16 + 3), .int x1, .ref (16 + 3), .int p2.1] _ _ from ?_)
    obtain ⟨p3, hp3, h⟩ := zy_bind h
    refine zy_5 (c := 16) (as := [.int x1]) (rest := [.int x1, .ref (16 + 3), .int p2.1]) (L := [some (.ref (16 + 3)), some (.int x1), none, none]) (d' := 5) rfl rfl rfl (Nat.le_of_ble_eq_true rfl) (Nat.le_of_ble_eq_true rfl) rfl (Nat.le_of_ble_eq_true rfl) rfl rfl (zyC127 hp3) ?_
    show zyR _ _ _ _ [some (.ref (16 + 3)), some (.int x1), some (.int x2), some (.int p2.1)] [.int p3.1, .int x1, .ref (16 + 3), .int p2.1] _ _
    obtain ⟨p4, hp4, h⟩ := zy_bind h
    refine zy_5 (c := 16) (as := [.int x1, .int p3.1]) (rest := [.int p2.1]) (L := [some (.ref (16 + 3)), some (.int x1), some (.int p3.1)]) (d' := 4) rfl rfl rfl (Nat.le_of_ble_eq_true rfl) (Nat.le_of_ble_eq_true rfl) rfl (Nat.le_of_ble_eq_true rfl) rfl rfl (zyC128 hp4) ?_
    show zyR _ _ _ _ [some (.ref (16 + 3)), some (.int x1), some (.int x2), some (.int p2.1)] [.int p4.1, .int p2.1] _ _
    refine zy_25_3 rfl (fun b5 => (show zyR _ _ _ _ [some (.ref (16 + 3)), some (.int x1), some (.int x2), some (.int p2.1)] [] _ _ from ?_)) (fun b5 => (show zyR _ _ _ _ [some (.ref (16 + 3)), some (.int x1), some (.int x2), some (.int p2.1)] [] _ _ from ?_))
    · replace h := zy_ifp h b5
      refine zy_2 rfl rfl (show zyR _ _ _ _ [some (.ref (16 + 3)), some (.int x1), some (.int x2), some (.int p2.1)] [.int x1] _ _ from ?_)
      exact zy_sub (show zy_le [some (.ref (16 + 3)), none, some (.int x2), none] [some (.ref (16 + 3)), some (.int x1), some (.int x2), some (.int p2.1)] from ⟨rfl, ⟨rfl, trivial⟩⟩) (zyC126_40 hk4 h)
    · replace h := zy_ifn h b5
      refine zy_2 rfl rfl (show zyR _ _ _ _ [some (.ref (16 + 3)), some (.int x1), some (.int x2), some (.int p2.1)] [.int x2] _ _ from ?_)
      refine zy_6 rfl (show zyR _ _ _ _ [some (.ref (16 + 3)), some (.int x1), some (.int x2), some (.int p2.1)] [.int x2] _ _ from ?_)
      exact zy_sub (show zy_le [some (.ref (16 + 3)), none, some (.int x2), none] [some (.ref (16 + 3)), some (.int x1), some (.int x2), some (.int p2.1)] from ⟨rfl, ⟨rfl, trivial⟩⟩) (zyC126_40 hk4 h)
noncomputable def zyF126_4   (n : Nat) : Int32 → Int32 → zy_S → Option (Int32 × zy_S) := Nat.rec (fun _ _ _ => none) (fun _ k4 => zyF126_4b k4) n
theorem zyC126_4 {X : zx_X}     : ∀ (n : Nat) (x1 : Int32) (x2 : Int32) (s : zy_S) (r : Int32) (s' : zy_S), zyF126_4 n x1 x2 s = some (r, s') → zyR X 6 126 4 [some (.ref (16 + 3)), some (.int x1), some (.int x2), none] [] s (zyE (some (.int r)) s')
  | 0, _, _ => by
    intro s r s'  h
    have h : (none : Option (Int32 × zy_S)) = some (r, s') := h
    cases h
  | n + 1, x1, x2 => by
    intro s r s'  h
    exact zyC126_4b (k4 := zyF126_4 n) (fun x1 x2 s r s'  h => zyC126_4  n x1 x2 s r s'  h) h
noncomputable def zyF126    (s : zy_S) : Option (Int32 × zy_S) :=
zyF126_4 zy_fu (0 : Int32) (1 : Int32) s
theorem zyC126 {X : zx_X}      {s : zy_S} {r : Int32} {s' : zy_S}  (h : zyF126 s = some (r, s')) : zyR X 6 126 0 [some (.ref (16 + 3)), none, none, none] [] s (zyE (some (.int r)) s') := by
  unfold zyF126 at h
  refine zy_3 rfl rfl (show zyR _ _ _ _ [some (.ref (16 + 3)), none, none, none] [.int (0 : Int32)] _ _ from ?_)
  refine zy_23 rfl rfl (show zyR _ _ _ _ [some (.ref (16 + 3)), some (.int (0 : Int32)), none, none] [] _ _ from ?_)
  refine zy_3 rfl rfl (show zyR _ _ _ _ [some (.ref (16 + 3)), some (.int (0 : Int32)), none, none] [.int (1 : Int32)] _ _ from ?_)
  refine zy_23 rfl rfl (show zyR _ _ _ _ [some (.ref (16 + 3)), some (.int (0 : Int32)), some (.int (1 : Int32)), none] [] _ _ from ?_)
  exact zy_sub (show zy_le [some (.ref (16 + 3)), some (.int (0 : Int32)), some (.int (1 : Int32)), none] [some (.ref (16 + 3)), some (.int (0 : Int32)), some (.int (1 : Int32)), none] from ⟨rfl, ⟨rfl, ⟨rfl, trivial⟩⟩⟩) (zyC126_4 zy_fu (0 : Int32) (1 : Int32) s _ _ h)
/-! NineOpinions.split(I)I -/
noncomputable def zyF125   (x1 : Int32) (s : zy_S) : Option (Int32 × zy_S) :=
(zyF84 x1 s).bind fun p1 =>
if p1.1 ≠ 0 then
(zyF126 p1.2).bind fun p2 =>
if x1 ≠ 0 then
(zyF127 p2.1 p2.2).bind fun p3 =>
some (p3.1, p3.2)
else
some (p2.1, p2.2)
else
some ((-1 : Int32), p1.2)
theorem zyC125 {X : zx_X}     {x1 : Int32} {s : zy_S} {r : Int32} {s' : zy_S}  (h : zyF125 x1 s = some (r, s')) : zyR X 7 125 0 [some (.ref (0 + 3)), some (.int x1), none] [] s (zyE (some (.int r)) s') := by
  unfold zyF125 at h
  refine zy_2 rfl rfl (show zyR _ _ _ _ [some (.ref (0 + 3)), some (.int x1), none] [.int x1] _ _ from ?_)
  obtain ⟨p1, hp1, h⟩ := zy_bind h
  refine zy_60 (as := [.int x1]) (rest := []) (L := [some (.int x1)]) (d' := 1) rfl rfl (Nat.le_of_ble_eq_true rfl) (Nat.le_of_ble_eq_true rfl) rfl (Nat.le_of_ble_eq_true rfl) rfl rfl (zyC84 hp1) ?_
  show zyR _ _ _ _ [some (.ref (0 + 3)), some (.int x1), none] [.int p1.1] _ _
  refine zy_24_1 rfl (fun b5 => (show zyR _ _ _ _ [some (.ref (0 + 3)), some (.int x1), none] [] _ _ from ?_)) (fun b5 => (show zyR _ _ _ _ [some (.ref (0 + 3)), some (.int x1), none] [] _ _ from ?_))
  · replace h := zy_ifp h b5
    refine zy_0 rfl rfl (show zyR _ _ _ _ [some (.ref (0 + 3)), some (.int x1), none] [.ref (0 + 3)] _ _ from ?_)
    refine zy_1r (c := 0) rfl rfl rfl (show zyR _ _ _ _ [some (.ref (0 + 3)), some (.int x1), none] [.ref (16 + 3)] _ _ from ?_)
    obtain ⟨p2, hp2, h⟩ := zy_bind h
    refine zy_5 (c := 16) (as := []) (rest := []) (L := [some (.ref (16 + 3)), none, none, none]) (d' := 6) rfl rfl rfl (Nat.le_of_ble_eq_true rfl) (Nat.le_of_ble_eq_true rfl) rfl (Nat.le_of_ble_eq_true rfl) rfl rfl (zyC126 hp2) ?_
    show zyR _ _ _ _ [some (.ref (0 + 3)), some (.int x1), none] [.int p2.1] _ _
    refine zy_23 rfl rfl (show zyR _ _ _ _ [some (.ref (0 + 3)), some (.int x1), some (.int p2.1)] [] _ _ from ?_)
    refine zy_2 rfl rfl (show zyR _ _ _ _ [some (.ref (0 + 3)), some (.int x1), some (.int p2.1)] [.int x1] _ _ from ?_)
    refine zy_24_1 rfl (fun b4 => (show zyR _ _ _ _ [some (.ref (0 + 3)), some (.int x1), some (.int p2.1)] [] _ _ from ?_)) (fun b4 => (show zyR _ _ _ _ [some (.ref (0 + 3)), some (.int x1), some (.int p2.1)] [] _ _ from ?_))
    · replace h := zy_ifp h b4
      refine zy_0 rfl rfl (show zyR _ _ _ _ [some (.ref (0 + 3)), some (.int x1), some (.int p2.1)] [.ref (0 + 3)] _ _ from ?_)
      refine zy_1r (c := 0) rfl rfl rfl (show zyR _ _ _ _ [some (.ref (0 + 3)), some (.int x1), some (.int p2.1)] [.ref (16 + 3)] _ _ from ?_)
      refine zy_2 rfl rfl (show zyR _ _ _ _ [some (.ref (0 + 3)), some (.int x1), some (.int p2.1)] [.int p2.1, .ref (16 + 3)] _ _ from ?_)
      obtain ⟨p3, hp3, h⟩ := zy_bind h
      refine zy_5 (c := 16) (as := [.int p2.1]) (rest := []) (L := [some (.ref (16 + 3)), some (.int p2.1), none, none]) (d' := 5) rfl rfl rfl (Nat.le_of_ble_eq_true rfl) (Nat.le_of_ble_eq_true rfl) rfl (Nat.le_of_ble_eq_true rfl) rfl rfl (zyC127 hp3) ?_
      show zyR _ _ _ _ [some (.ref (0 + 3)), some (.int x1), some (.int p2.1)] [.int p3.1] _ _
      cases h
      exact zy_4 rfl ⟨rfl, rfl⟩
    · replace h := zy_ifn h b4
      refine zy_2 rfl rfl (show zyR _ _ _ _ [some (.ref (0 + 3)), some (.int x1), some (.int p2.1)] [.int p2.1] _ _ from ?_)
      refine zy_6 rfl (show zyR _ _ _ _ [some (.ref (0 + 3)), some (.int x1), some (.int p2.1)] [.int p2.1] _ _ from ?_)
      cases h
      exact zy_4 rfl ⟨rfl, rfl⟩
  · replace h := zy_ifn h b5
    refine zy_3 rfl rfl (show zyR _ _ _ _ [some (.ref (0 + 3)), some (.int x1), none] [.int (-1 : Int32)] _ _ from ?_)
    cases h
    exact zy_4 rfl ⟨rfl, rfl⟩
/-! NineOpinionsModel.standingWith(I)I -/
noncomputable def zyF238_35  (k4 : Int32 → Int32 → Int32 → zy_S → Option (Int32 × zy_S)) (x1 : Int32) (x3 : Int32) (y0 : Int32) (y1 : Int32) (s : zy_S) : Option (Int32 × zy_S) :=
k4 x1 (y1 + y0) (x3 + (1 : Int32)) s
theorem zyC238_35 {X : zx_X}  {k4 : Int32 → Int32 → Int32 → zy_S → Option (Int32 × zy_S)}  (hk4 : ∀ (x1 : Int32) (x2 : Int32) (x3 : Int32) (s : zy_S) (r : Int32) (s' : zy_S), k4 x1 x2 x3 s = some (r, s') → zyR X 4 238 4 [some (.ref (43 + 3)), some (.int x1), some (.int x2), some (.int x3)] [] s (zyE (some (.int r)) s')) {x1 : Int32} {x3 : Int32} {y0 : Int32} {y1 : Int32} {s : zy_S} {r : Int32} {s' : zy_S}  (h : zyF238_35 k4 x1 x3 y0 y1 s = some (r, s')) : zyR X 4 238 35 [some (.ref (43 + 3)), some (.int x1), none, some (.int x3)] [.int y0, .int y1] s (zyE (some (.int r)) s') := by
  unfold zyF238_35 at h
  refine zy_10 rfl (show zyR _ _ _ _ [some (.ref (43 + 3)), some (.int x1), none, some (.int x3)] [.int (y1 + y0)] _ _ from ?_)
  refine zy_23 rfl rfl (show zyR _ _ _ _ [some (.ref (43 + 3)), some (.int x1), some (.int (y1 + y0)), some (.int x3)] [] _ _ from ?_)
  refine zy_22 rfl rfl rfl rfl (show zyR _ _ _ _ [some (.ref (43 + 3)), some (.int x1), some (.int (y1 + y0)), some (.int (x3 + (1 : Int32)))] [] _ _ from ?_)
  refine zy_6 rfl (show zyR _ _ _ _ [some (.ref (43 + 3)), some (.int x1), some (.int (y1 + y0)), some (.int (x3 + (1 : Int32)))] [] _ _ from ?_)
  exact zy_sub (show zy_le [some (.ref (43 + 3)), some (.int x1), some (.int (y1 + y0)), some (.int (x3 + (1 : Int32)))] [some (.ref (43 + 3)), some (.int x1), some (.int (y1 + y0)), some (.int (x3 + (1 : Int32)))] from ⟨rfl, ⟨rfl, ⟨rfl, ⟨rfl, trivial⟩⟩⟩⟩) (hk4 x1 (y1 + y0) (x3 + (1 : Int32)) s _ _ h)
noncomputable def zyF238_4b  (k4 : Int32 → Int32 → Int32 → zy_S → Option (Int32 × zy_S)) (x1 : Int32) (x2 : Int32) (x3 : Int32) (s : zy_S) : Option (Int32 × zy_S) :=
if (s.1 43 6) ≤ x3 then
some (x2, s)
else
(zyF222 x3 x1 s).bind fun p1 =>
if p1.1 = 0 then
zyF238_35 k4 x1 x3 (0 : Int32) x2 p1.2
else
if zy_in ((8 : Int32) + x3) 41 then
zyF238_35 k4 x1 x3 (p1.2.1 44 (((8 : Int32) + x3)).toNatClampNeg) x2 p1.2
else none
theorem zyC238_4b {X : zx_X}  {k4 : Int32 → Int32 → Int32 → zy_S → Option (Int32 × zy_S)}  (hk4 : ∀ (x1 : Int32) (x2 : Int32) (x3 : Int32) (s : zy_S) (r : Int32) (s' : zy_S), k4 x1 x2 x3 s = some (r, s') → zyR X 4 238 4 [some (.ref (43 + 3)), some (.int x1), some (.int x2), some (.int x3)] [] s (zyE (some (.int r)) s')) {x1 : Int32} {x2 : Int32} {x3 : Int32} {s : zy_S} {r : Int32} {s' : zy_S}  (h : zyF238_4b k4 x1 x2 x3 s = some (r, s')) : zyR X 4 238 4 [some (.ref (43 + 3)), some (.int x1), some (.int x2), some (.int x3)] [] s (zyE (some (.int r)) s') := by
  unfold zyF238_4b at h
  refine zy_2 rfl rfl (show zyR _ _ _ _ [some (.ref (43 + 3)), some (.int x1), some (.int x2), some (.int x3)] [.int x3] _ _ from ?_)
  refine zy_0 rfl rfl (show zyR _ _ _ _ [some (.ref (43 + 3)), some (.int x1), some (.int x2), some (.int x3)] [.ref (43 + 3), .int x3] _ _ from ?_)
  refine zy_1 (c := 43) rfl rfl rfl (show zyR _ _ _ _ [some (.ref (43 + 3)), some (.int x1), some (.int x2), some (.int x3)] [.int (s.1 43 6), .int x3] _ _ from ?_)
  refine zy_25_3 rfl (fun b4 => (show zyR _ _ _ _ [some (.ref (43 + 3)), some (.int x1), some (.int x2), some (.int x3)] [] _ _ from ?_)) (fun b4 => (show zyR _ _ _ _ [some (.ref (43 + 3)), some (.int x1), some (.int x2), some (.int x3)] [] _ _ from ?_))
  · replace h := zy_ifp h b4
    refine zy_2 rfl rfl (show zyR _ _ _ _ [some (.ref (43 + 3)), some (.int x1), some (.int x2), some (.int x3)] [.int x2] _ _ from ?_)
    cases h
    exact zy_4 rfl ⟨rfl, rfl⟩
  · replace h := zy_ifn h b4
    refine zy_2 rfl rfl (show zyR _ _ _ _ [some (.ref (43 + 3)), some (.int x1), some (.int x2), some (.int x3)] [.int x2] _ _ from ?_)
    refine zy_0 rfl rfl (show zyR _ _ _ _ [some (.ref (43 + 3)), some (.int x1), some (.int x2), some (.int x3)] [.ref (43 + 3), .int x2] _ _ from ?_)
    refine zy_2 rfl rfl (show zyR _ _ _ _ [some (.ref (43 + 3)), some (.int x1), some (.int x2), some (.int x3)] [.int x3, .ref (43 + 3), .int x2] _ _ from ?_)
    refine zy_2 rfl rfl (show zyR _ _ _ _ [some (.ref (43 + 3)), some (.int x1), some (.int x2), some (.int x3)] [.int x1, .int x3, .ref (43 + 3), .int x2] _ _ from ?_)
    obtain ⟨p1, hp1, h⟩ := zy_bind h
    refine zy_5 (c := 43) (as := [.int x3, .int x1]) (rest := [.int x2]) (L := [some (.ref (43 + 3)), some (.int x3), some (.int x1)]) (d' := 3) rfl rfl rfl (Nat.le_of_ble_eq_true rfl) (Nat.le_of_ble_eq_true rfl) rfl (Nat.le_of_ble_eq_true rfl) rfl rfl (zyC222 hp1) ?_
    show zyR _ _ _ _ [some (.ref (43 + 3)), some (.int x1), some (.int x2), some (.int x3)] [.int p1.1, .int x2] _ _
    refine zy_24_0 rfl (fun b3 => (show zyR _ _ _ _ [some (.ref (43 + 3)), some (.int x1), some (.int x2), some (.int x3)] [.int x2] _ _ from ?_)) (fun b3 => (show zyR _ _ _ _ [some (.ref (43 + 3)), some (.int x1), some (.int x2), some (.int x3)] [.int x2] _ _ from ?_))
    · replace h := zy_ifp h b3
      refine zy_3 rfl rfl (show zyR _ _ _ _ [some (.ref (43 + 3)), some (.int x1), some (.int x2), some (.int x3)] [.int (0 : Int32), .int x2] _ _ from ?_)
      exact zy_sub (show zy_le [some (.ref (43 + 3)), some (.int x1), none, some (.int x3)] [some (.ref (43 + 3)), some (.int x1), some (.int x2), some (.int x3)] from ⟨rfl, ⟨rfl, ⟨rfl, trivial⟩⟩⟩) (zyC238_35 hk4 h)
    · replace h := zy_ifn h b3
      refine zy_0 rfl rfl (show zyR _ _ _ _ [some (.ref (43 + 3)), some (.int x1), some (.int x2), some (.int x3)] [.ref (43 + 3), .int x2] _ _ from ?_)
      refine zy_1r (c := 43) rfl rfl rfl (show zyR _ _ _ _ [some (.ref (43 + 3)), some (.int x1), some (.int x2), some (.int x3)] [.ref (44 + 3), .int x2] _ _ from ?_)
      refine zy_3 rfl rfl (show zyR _ _ _ _ [some (.ref (43 + 3)), some (.int x1), some (.int x2), some (.int x3)] [.int (8 : Int32), .ref (44 + 3), .int x2] _ _ from ?_)
      refine zy_2 rfl rfl (show zyR _ _ _ _ [some (.ref (43 + 3)), some (.int x1), some (.int x2), some (.int x3)] [.int x3, .int (8 : Int32), .ref (44 + 3), .int x2] _ _ from ?_)
      refine zy_10 rfl (show zyR _ _ _ _ [some (.ref (43 + 3)), some (.int x1), some (.int x2), some (.int x3)] [.int ((8 : Int32) + x3), .ref (44 + 3), .int x2] _ _ from ?_)
      obtain ⟨c2, h⟩ := zy_if h
      refine zy_26 (c := 44) rfl rfl c2 (show zyR _ _ _ _ [some (.ref (43 + 3)), some (.int x1), some (.int x2), some (.int x3)] [.int (p1.2.1 44 (((8 : Int32) + x3)).toNatClampNeg), .int x2] _ _ from ?_)
      refine zy_6 rfl (show zyR _ _ _ _ [some (.ref (43 + 3)), some (.int x1), some (.int x2), some (.int x3)] [.int (p1.2.1 44 (((8 : Int32) + x3)).toNatClampNeg), .int x2] _ _ from ?_)
      exact zy_sub (show zy_le [some (.ref (43 + 3)), some (.int x1), none, some (.int x3)] [some (.ref (43 + 3)), some (.int x1), some (.int x2), some (.int x3)] from ⟨rfl, ⟨rfl, ⟨rfl, trivial⟩⟩⟩) (zyC238_35 hk4 h)
noncomputable def zyF238_4   (n : Nat) : Int32 → Int32 → Int32 → zy_S → Option (Int32 × zy_S) := Nat.rec (fun _ _ _ _ => none) (fun _ k4 => zyF238_4b k4) n
theorem zyC238_4 {X : zx_X}     : ∀ (n : Nat) (x1 : Int32) (x2 : Int32) (x3 : Int32) (s : zy_S) (r : Int32) (s' : zy_S), zyF238_4 n x1 x2 x3 s = some (r, s') → zyR X 4 238 4 [some (.ref (43 + 3)), some (.int x1), some (.int x2), some (.int x3)] [] s (zyE (some (.int r)) s')
  | 0, _, _, _ => by
    intro s r s'  h
    have h : (none : Option (Int32 × zy_S)) = some (r, s') := h
    cases h
  | n + 1, x1, x2, x3 => by
    intro s r s'  h
    exact zyC238_4b (k4 := zyF238_4 n) (fun x1 x2 x3 s r s'  h => zyC238_4  n x1 x2 x3 s r s'  h) h
noncomputable def zyF238   (x1 : Int32) (s : zy_S) : Option (Int32 × zy_S) :=
zyF238_4 zy_fu x1 (0 : Int32) (0 : Int32) s
theorem zyC238 {X : zx_X}     {x1 : Int32} {s : zy_S} {r : Int32} {s' : zy_S}  (h : zyF238 x1 s = some (r, s')) : zyR X 4 238 0 [some (.ref (43 + 3)), some (.int x1), none, none] [] s (zyE (some (.int r)) s') := by
  unfold zyF238 at h
  refine zy_3 rfl rfl (show zyR _ _ _ _ [some (.ref (43 + 3)), some (.int x1), none, none] [.int (0 : Int32)] _ _ from ?_)
  refine zy_23 rfl rfl (show zyR _ _ _ _ [some (.ref (43 + 3)), some (.int x1), some (.int (0 : Int32)), none] [] _ _ from ?_)
  refine zy_3 rfl rfl (show zyR _ _ _ _ [some (.ref (43 + 3)), some (.int x1), some (.int (0 : Int32)), none] [.int (0 : Int32)] _ _ from ?_)
  refine zy_23 rfl rfl (show zyR _ _ _ _ [some (.ref (43 + 3)), some (.int x1), some (.int (0 : Int32)), some (.int (0 : Int32))] [] _ _ from ?_)
  exact zy_sub (show zy_le [some (.ref (43 + 3)), some (.int x1), some (.int (0 : Int32)), some (.int (0 : Int32))] [some (.ref (43 + 3)), some (.int x1), some (.int (0 : Int32)), some (.int (0 : Int32))] from ⟨rfl, ⟨rfl, ⟨rfl, ⟨rfl, trivial⟩⟩⟩⟩) (zyC238_4 zy_fu x1 (0 : Int32) (0 : Int32) s _ _ h)
/-! NineOpinionsModel.split(I)I -/
noncomputable def zyF237_117  (k23 : Int32 → Int32 → Int32 → Int32 → Int32 → zy_S → Option (Int32 × zy_S)) (x1 : Int32) (x2 : Int32) (x3 : Int32) (x4 : Int32) (x5 : Int32) (s : zy_S) : Option (Int32 × zy_S) :=
k23 x1 x2 x3 x4 (x5 + (1 : Int32)) s
theorem zyC237_117 {X : zx_X}  {k23 : Int32 → Int32 → Int32 → Int32 → Int32 → zy_S → Option (Int32 × zy_S)}  (hk23 : ∀ (x1 : Int32) (x2 : Int32) (x3 : Int32) (x4 : Int32) (x5 : Int32) (s : zy_S) (r : Int32) (s' : zy_S), k23 x1 x2 x3 x4 x5 s = some (r, s') → zyR X 5 237 23 [some (.ref (43 + 3)), some (.int x1), some (.int x2), some (.int x3), some (.int x4), some (.int x5), none, none] [] s (zyE (some (.int r)) s')) {x1 : Int32} {x2 : Int32} {x3 : Int32} {x4 : Int32} {x5 : Int32} {s : zy_S} {r : Int32} {s' : zy_S}  (h : zyF237_117 k23 x1 x2 x3 x4 x5 s = some (r, s')) : zyR X 5 237 117 [some (.ref (43 + 3)), some (.int x1), some (.int x2), some (.int x3), some (.int x4), some (.int x5), none, none] [] s (zyE (some (.int r)) s') := by
  unfold zyF237_117 at h
  refine zy_22 rfl rfl rfl rfl (show zyR _ _ _ _ [some (.ref (43 + 3)), some (.int x1), some (.int x2), some (.int x3), some (.int x4), some (.int (x5 + (1 : Int32))), none, none] [] _ _ from ?_)
  refine zy_6 rfl (show zyR _ _ _ _ [some (.ref (43 + 3)), some (.int x1), some (.int x2), some (.int x3), some (.int x4), some (.int (x5 + (1 : Int32))), none, none] [] _ _ from ?_)
  exact zy_sub (show zy_le [some (.ref (43 + 3)), some (.int x1), some (.int x2), some (.int x3), some (.int x4), some (.int (x5 + (1 : Int32))), none, none] [some (.ref (43 + 3)), some (.int x1), some (.int x2), some (.int x3), some (.int x4), some (.int (x5 + (1 : Int32))), none, none] from ⟨rfl, ⟨rfl, ⟨rfl, ⟨rfl, ⟨rfl, ⟨rfl, trivial⟩⟩⟩⟩⟩⟩) (hk23 x1 x2 x3 x4 (x5 + (1 : Int32)) s _ _ h)
noncomputable def zyF237_74  (k23 : Int32 → Int32 → Int32 → Int32 → Int32 → zy_S → Option (Int32 × zy_S)) (k36 : Int32 → Int32 → Int32 → Int32 → Int32 → Int32 → Int32 → zy_S → Option (Int32 × zy_S)) (x1 : Int32) (x2 : Int32) (x3 : Int32) (x4 : Int32) (x5 : Int32) (x7 : Int32) (y0 : Int32) (s : zy_S) : Option (Int32 × zy_S) :=
k36 x1 x2 x3 x4 x5 y0 (x7 + (1 : Int32)) s
theorem zyC237_74 {X : zx_X}  {k23 : Int32 → Int32 → Int32 → Int32 → Int32 → zy_S → Option (Int32 × zy_S)} {k36 : Int32 → Int32 → Int32 → Int32 → Int32 → Int32 → Int32 → zy_S → Option (Int32 × zy_S)}  (hk23 : ∀ (x1 : Int32) (x2 : Int32) (x3 : Int32) (x4 : Int32) (x5 : Int32) (s : zy_S) (r : Int32) (s' : zy_S), k23 x1 x2 x3 x4 x5 s = some (r, s') → zyR X 5 237 23 [some (.ref (43 + 3)), some (.int x1), some (.int x2), some (.int x3), some (.int x4), some (.int x5), none, none] [] s (zyE (some (.int r)) s')) (hk36 : ∀ (x1 : Int32) (x2 : Int32) (x3 : Int32) (x4 : Int32) (x5 : Int32) (x6 : Int32) (x7 : Int32) (s : zy_S) (r : Int32) (s' : zy_S), k36 x1 x2 x3 x4 x5 x6 x7 s = some (r, s') → zyR X 5 237 36 [some (.ref (43 + 3)), some (.int x1), some (.int x2), some (.int x3), some (.int x4), some (.int x5), some (.int x6), some (.int x7)] [] s (zyE (some (.int r)) s')) {x1 : Int32} {x2 : Int32} {x3 : Int32} {x4 : Int32} {x5 : Int32} {x7 : Int32} {y0 : Int32} {s : zy_S} {r : Int32} {s' : zy_S}  (h : zyF237_74 k23 k36 x1 x2 x3 x4 x5 x7 y0 s = some (r, s')) : zyR X 5 237 74 [some (.ref (43 + 3)), some (.int x1), some (.int x2), some (.int x3), some (.int x4), some (.int x5), none, some (.int x7)] [.int y0] s (zyE (some (.int r)) s') := by
  unfold zyF237_74 at h
  refine zy_23 rfl rfl (show zyR _ _ _ _ [some (.ref (43 + 3)), some (.int x1), some (.int x2), some (.int x3), some (.int x4), some (.int x5), some (.int y0), some (.int x7)] [] _ _ from ?_)
  refine zy_22 rfl rfl rfl rfl (show zyR _ _ _ _ [some (.ref (43 + 3)), some (.int x1), some (.int x2), some (.int x3), some (.int x4), some (.int x5), some (.int y0), some (.int (x7 + (1 : Int32)))] [] _ _ from ?_)
  refine zy_6 rfl (show zyR _ _ _ _ [some (.ref (43 + 3)), some (.int x1), some (.int x2), some (.int x3), some (.int x4), some (.int x5), some (.int y0), some (.int (x7 + (1 : Int32)))] [] _ _ from ?_)
  exact zy_sub (show zy_le [some (.ref (43 + 3)), some (.int x1), some (.int x2), some (.int x3), some (.int x4), some (.int x5), some (.int y0), some (.int (x7 + (1 : Int32)))] [some (.ref (43 + 3)), some (.int x1), some (.int x2), some (.int x3), some (.int x4), some (.int x5), some (.int y0), some (.int (x7 + (1 : Int32)))] from ⟨rfl, ⟨rfl, ⟨rfl, ⟨rfl, ⟨rfl, ⟨rfl, ⟨rfl, ⟨rfl, trivial⟩⟩⟩⟩⟩⟩⟩⟩) (hk36 x1 x2 x3 x4 x5 y0 (x7 + (1 : Int32)) s _ _ h)
noncomputable def zyF237_36b  (k23 : Int32 → Int32 → Int32 → Int32 → Int32 → zy_S → Option (Int32 × zy_S)) (k36 : Int32 → Int32 → Int32 → Int32 → Int32 → Int32 → Int32 → zy_S → Option (Int32 × zy_S)) (x1 : Int32) (x2 : Int32) (x3 : Int32) (x4 : Int32) (x5 : Int32) (x6 : Int32) (x7 : Int32) (s : zy_S) : Option (Int32 × zy_S) :=
if (4 : Int32) ≤ x7 then
(zyF238 (((4 : Int32) * x5) + x6) s).bind fun p1 =>
if x4 ≤ p1.1 then
zyF237_117 k23 x1 x2 x3 x4 x5 p1.2
else
(zyF238 (((4 : Int32) * x5) + x6) p1.2).bind fun p2 =>
zyF237_117 k23 x1 x5 x6 p2.1 x5 p2.2
else
(zyF238 (((4 : Int32) * x5) + x7) s).bind fun p4 =>
(zyF238 (((4 : Int32) * x5) + x6) p4.2).bind fun p5 =>
if p4.1 ≤ p5.1 then
zyF237_74 k23 k36 x1 x2 x3 x4 x5 x7 x6 p5.2
else
zyF237_74 k23 k36 x1 x2 x3 x4 x5 x7 x7 p5.2
theorem zyC237_36b {X : zx_X}  {k23 : Int32 → Int32 → Int32 → Int32 → Int32 → zy_S → Option (Int32 × zy_S)} {k36 : Int32 → Int32 → Int32 → Int32 → Int32 → Int32 → Int32 → zy_S → Option (Int32 × zy_S)}  (hk23 : ∀ (x1 : Int32) (x2 : Int32) (x3 : Int32) (x4 : Int32) (x5 : Int32) (s : zy_S) (r : Int32) (s' : zy_S), k23 x1 x2 x3 x4 x5 s = some (r, s') → zyR X 5 237 23 [some (.ref (43 + 3)), some (.int x1), some (.int x2), some (.int x3), some (.int x4), some (.int x5), none, none] [] s (zyE (some (.int r)) s')) (hk36 : ∀ (x1 : Int32) (x2 : Int32) (x3 : Int32) (x4 : Int32) (x5 : Int32) (x6 : Int32) (x7 : Int32) (s : zy_S) (r : Int32) (s' : zy_S), k36 x1 x2 x3 x4 x5 x6 x7 s = some (r, s') → zyR X 5 237 36 [some (.ref (43 + 3)), some (.int x1), some (.int x2), some (.int x3), some (.int x4), some (.int x5), some (.int x6), some (.int x7)] [] s (zyE (some (.int r)) s')) {x1 : Int32} {x2 : Int32} {x3 : Int32} {x4 : Int32} {x5 : Int32} {x6 : Int32} {x7 : Int32} {s : zy_S} {r : Int32} {s' : zy_S}  (h : zyF237_36b k23 k36 x1 x2 x3 x4 x5 x6 x7 s = some (r, s')) : zyR X 5 237 36 [some (.ref (43 + 3)), some (.int x1), some (.int x2), some (.int x3), some (.int x4), some (.int x5), some (.int x6), some (.int x7)] [] s (zyE (some (.int r)) s') := by
  unfold zyF237_36b at h
  refine zy_2 rfl rfl (show zyR _ _ _ _ [some (.ref (43 + 3)), some (.int x1), some (.int x2), some (.int x3), some (.int x4), some (.int x5), some (.int x6), some (.int x7)] [.int x7] _ _ from ?_)
  refine zy_3 rfl rfl (show zyR _ _ _ _ [some (.ref (43 + 3)), some (.int x1), some (.int x2), some (.int x3), some (.int x4), some (.int x5), some (.int x6), some (.int x7)] [.int (4 : Int32), .int x7] _ _ from ?_)
  refine zy_25_3 rfl (fun b7 => (show zyR _ _ _ _ [some (.ref (43 + 3)), some (.int x1), some (.int x2), some (.int x3), some (.int x4), some (.int x5), some (.int x6), some (.int x7)] [] _ _ from ?_)) (fun b7 => (show zyR _ _ _ _ [some (.ref (43 + 3)), some (.int x1), some (.int x2), some (.int x3), some (.int x4), some (.int x5), some (.int x6), some (.int x7)] [] _ _ from ?_))
  · replace h := zy_ifp h b7
    refine zy_0 rfl rfl (show zyR _ _ _ _ [some (.ref (43 + 3)), some (.int x1), some (.int x2), some (.int x3), some (.int x4), some (.int x5), some (.int x6), some (.int x7)] [.ref (43 + 3)] _ _ from ?_)
    refine zy_3 rfl rfl (show zyR _ _ _ _ [some (.ref (43 + 3)), some (.int x1), some (.int x2), some (.int x3), some (.int x4), some (.int x5), some (.int x6), some (.int x7)] [.int (4 : Int32), .ref (43 + 3)] _ _ from ?_)
    refine zy_2 rfl rfl (show zyR _ _ _ _ [some (.ref (43 + 3)), some (.int x1), some (.int x2), some (.int x3), some (.int x4), some (.int x5), some (.int x6), some (.int x7)] [.int x5, .int (4 : Int32), .ref (43 + 3)] _ _ from ?_)
    refine zy_12 rfl (show zyR _ _ _ _ [some (.ref (43 + 3)), some (.int x1), some (.int x2), some (.int x3), some (.int x4), some (.int x5), some (.int x6), some (.int x7)] [.int ((4 : Int32) * x5), .ref (43 + 3)] _ _ from ?_)
    refine zy_2 rfl rfl (show zyR _ _ _ _ [some (.ref (43 + 3)), some (.int x1), some (.int x2), some (.int x3), some (.int x4), some (.int x5), some (.int x6), some (.int x7)] [.int x6, .int ((4 : Int32) * x5), .ref (43 + 3)] _ _ from ?_)
    refine zy_10 rfl (show zyR _ _ _ _ [some (.ref (43 + 3)), some (.int x1), some (.int x2), some (.int x3), some (.int x4), some (.int x5), some (.int x6), some (.int x7)] [.int (((4 : Int32) * x5) + x6), .ref (43 + 3)] _ _ from ?_)
    obtain ⟨p1, hp1, h⟩ := zy_bind h
    refine zy_5 (c := 43) (as := [.int (((4 : Int32) * x5) + x6)]) (rest := []) (L := [some (.ref (43 + 3)), some (.int (((4 : Int32) * x5) + x6)), none, none]) (d' := 4) rfl rfl rfl (Nat.le_of_ble_eq_true rfl) (Nat.le_of_ble_eq_true rfl) rfl (Nat.le_of_ble_eq_true rfl) rfl rfl (zyC238 hp1) ?_
    show zyR _ _ _ _ [some (.ref (43 + 3)), some (.int x1), some (.int x2), some (.int x3), some (.int x4), some (.int x5), some (.int x6), some (.int x7)] [.int p1.1] _ _
    refine zy_2 rfl rfl (show zyR _ _ _ _ [some (.ref (43 + 3)), some (.int x1), some (.int x2), some (.int x3), some (.int x4), some (.int x5), some (.int x6), some (.int x7)] [.int x4, .int p1.1] _ _ from ?_)
    refine zy_25_3 rfl (fun b3 => (show zyR _ _ _ _ [some (.ref (43 + 3)), some (.int x1), some (.int x2), some (.int x3), some (.int x4), some (.int x5), some (.int x6), some (.int x7)] [] _ _ from ?_)) (fun b3 => (show zyR _ _ _ _ [some (.ref (43 + 3)), some (.int x1), some (.int x2), some (.int x3), some (.int x4), some (.int x5), some (.int x6), some (.int x7)] [] _ _ from ?_))
    · replace h := zy_ifp h b3
      exact zy_sub (show zy_le [some (.ref (43 + 3)), some (.int x1), some (.int x2), some (.int x3), some (.int x4), some (.int x5), none, none] [some (.ref (43 + 3)), some (.int x1), some (.int x2), some (.int x3), some (.int x4), some (.int x5), some (.int x6), some (.int x7)] from ⟨rfl, ⟨rfl, ⟨rfl, ⟨rfl, ⟨rfl, ⟨rfl, trivial⟩⟩⟩⟩⟩⟩) (zyC237_117 hk23 h)
    · replace h := zy_ifn h b3
      refine zy_2 rfl rfl (show zyR _ _ _ _ [some (.ref (43 + 3)), some (.int x1), some (.int x2), some (.int x3), some (.int x4), some (.int x5), some (.int x6), some (.int x7)] [.int x5] _ _ from ?_)
      refine zy_23 rfl rfl (show zyR _ _ _ _ [some (.ref (43 + 3)), some (.int x1), some (.int x5), some (.int x3), some (.int x4), some (.int x5), some (.int x6), some (.int x7)] [] _ _ from ?_)
      refine zy_2 rfl rfl (show zyR _ _ _ _ [some (.ref (43 + 3)), some (.int x1), some (.int x5), some (.int x3), some (.int x4), some (.int x5), some (.int x6), some (.int x7)] [.int x6] _ _ from ?_)
      refine zy_23 rfl rfl (show zyR _ _ _ _ [some (.ref (43 + 3)), some (.int x1), some (.int x5), some (.int x6), some (.int x4), some (.int x5), some (.int x6), some (.int x7)] [] _ _ from ?_)
      refine zy_0 rfl rfl (show zyR _ _ _ _ [some (.ref (43 + 3)), some (.int x1), some (.int x5), some (.int x6), some (.int x4), some (.int x5), some (.int x6), some (.int x7)] [.ref (43 + 3)] _ _ from ?_)
      refine zy_3 rfl rfl (show zyR _ _ _ _ [some (.ref (43 + 3)), some (.int x1), some (.int x5), some (.int x6), some (.int x4), some (.int x5), some (.int x6), some (.int x7)] [.int (4 : Int32), .ref (43 + 3)] _ _ from ?_)
      refine zy_2 rfl rfl (show zyR _ _ _ _ [some (.ref (43 + 3)), some (.int x1), some (.int x5), some (.int x6), some (.int x4), some (.int x5), some (.int x6), some (.int x7)] [.int x5, .int (4 : Int32), .ref (43 + 3)] _ _ from ?_)
      refine zy_12 rfl (show zyR _ _ _ _ [some (.ref (43 + 3)), some (.int x1), some (.int x5), some (.int x6), some (.int x4), some (.int x5), some (.int x6), some (.int x7)] [.int ((4 : Int32) * x5), .ref (43 + 3)] _ _ from ?_)
      refine zy_2 rfl rfl (show zyR _ _ _ _ [some (.ref (43 + 3)), some (.int x1), some (.int x5), some (.int x6), some (.int x4), some (.int x5), some (.int x6), some (.int x7)] [.int x6, .int ((4 : Int32) * x5), .ref (43 + 3)] _ _ from ?_)
      refine zy_10 rfl (show zyR _ _ _ _ [some (.ref (43 + 3)), some (.int x1), some (.int x5), some (.int x6), some (.int x4), some (.int x5), some (.int x6), some (.int x7)] [.int (((4 : Int32) * x5) + x6), .ref (43 + 3)] _ _ from ?_)
      obtain ⟨p2, hp2, h⟩ := zy_bind h
      refine zy_5 (c := 43) (as := [.int (((4 : Int32) * x5) + x6)]) (rest := []) (L := [some (.ref (43 + 3)), some (.int (((4 : Int32) * x5) + x6)), none, none]) (d' := 4) rfl rfl rfl (Nat.le_of_ble_eq_true rfl) (Nat.le_of_ble_eq_true rfl) rfl (Nat.le_of_ble_eq_true rfl) rfl rfl (zyC238 hp2) ?_
      show zyR _ _ _ _ [some (.ref (43 + 3)), some (.int x1), some (.int x5), some (.int x6), some (.int x4), some (.int x5), some (.int x6), some (.int x7)] [.int p2.1] _ _
      refine zy_23 rfl rfl (show zyR _ _ _ _ [some (.ref (43 + 3)), some (.int x1), some (.int x5), some (.int x6), some (.int p2.1), some (.int x5), some (.int x6), some (.int x7)] [] _ _ from ?_)
      exact zy_sub (show zy_le [some (.ref (43 + 3)), some (.int x1), some (.int x5), some (.int x6), some (.int p2.1), some (.int x5), none, none] [some (.ref (43 + 3)), some (.int x1), some (.int x5), some (.int x6), some (.int p2.1), some (.int x5), some (.int x6), some (.int x7)] from ⟨rfl, ⟨rfl, ⟨rfl, ⟨rfl, ⟨rfl, ⟨rfl, trivial⟩⟩⟩⟩⟩⟩) (zyC237_117 hk23 h)
  · replace h := zy_ifn h b7
    refine zy_0 rfl rfl (show zyR _ _ _ _ [some (.ref (43 + 3)), some (.int x1), some (.int x2), some (.int x3), some (.int x4), some (.int x5), some (.int x6), some (.int x7)] [.ref (43 + 3)] _ _ from ?_)
    refine zy_3 rfl rfl (show zyR _ _ _ _ [some (.ref (43 + 3)), some (.int x1), some (.int x2), some (.int x3), some (.int x4), some (.int x5), some (.int x6), some (.int x7)] [.int (4 : Int32), .ref (43 + 3)] _ _ from ?_)
    refine zy_2 rfl rfl (show zyR _ _ _ _ [some (.ref (43 + 3)), some (.int x1), some (.int x2), some (.int x3), some (.int x4), some (.int x5), some (.int x6), some (.int x7)] [.int x5, .int (4 : Int32), .ref (43 + 3)] _ _ from ?_)
    refine zy_12 rfl (show zyR _ _ _ _ [some (.ref (43 + 3)), some (.int x1), some (.int x2), some (.int x3), some (.int x4), some (.int x5), some (.int x6), some (.int x7)] [.int ((4 : Int32) * x5), .ref (43 + 3)] _ _ from ?_)
    refine zy_2 rfl rfl (show zyR _ _ _ _ [some (.ref (43 + 3)), some (.int x1), some (.int x2), some (.int x3), some (.int x4), some (.int x5), some (.int x6), some (.int x7)] [.int x7, .int ((4 : Int32) * x5), .ref (43 + 3)] _ _ from ?_)
    refine zy_10 rfl (show zyR _ _ _ _ [some (.ref (43 + 3)), some (.int x1), some (.int x2), some (.int x3), some (.int x4), some (.int x5), some (.int x6), some (.int x7)] [.int (((4 : Int32) * x5) + x7), .ref (43 + 3)] _ _ from ?_)
    obtain ⟨p4, hp4, h⟩ := zy_bind h
    refine zy_5 (c := 43) (as := [.int (((4 : Int32) * x5) + x7)]) (rest := []) (L := [some (.ref (43 + 3)), some (.int (((4 : Int32) * x5) + x7)), none, none]) (d' := 4) rfl rfl rfl (Nat.le_of_ble_eq_true rfl) (Nat.le_of_ble_eq_true rfl) rfl (Nat.le_of_ble_eq_true rfl) rfl rfl (zyC238 hp4) ?_
    show zyR _ _ _ _ [some (.ref (43 + 3)), some (.int x1), some (.int x2), some (.int x3), some (.int x4), some (.int x5), some (.int x6), some (.int x7)] [.int p4.1] _ _
    refine zy_0 rfl rfl (show zyR _ _ _ _ [some (.ref (43 + 3)), some (.int x1), some (.int x2), some (.int x3), some (.int x4), some (.int x5), some (.int x6), some (.int x7)] [.ref (43 + 3), .int p4.1] _ _ from ?_)
    refine zy_3 rfl rfl (show zyR _ _ _ _ [some (.ref (43 + 3)), some (.int x1), some (.int x2), some (.int x3), some (.int x4), some (.int x5), some (.int x6), some (.int x7)] [.int (4 : Int32), .ref (43 + 3), .int p4.1] _ _ from ?_)
    refine zy_2 rfl rfl (show zyR _ _ _ _ [some (.ref (43 + 3)), some (.int x1), some (.int x2), some (.int x3), some (.int x4), some (.int x5), some (.int x6), some (.int x7)] [.int x5, .int (4 : Int32), .ref (43 + 3), .int p4.1] _ _ from ?_)
    refine zy_12 rfl (show zyR _ _ _ _ [some (.ref (43 + 3)), some (.int x1), some (.int x2), some (.int x3), some (.int x4), some (.int x5), some (.int x6), some (.int x7)] [.int ((4 : Int32) * x5), .ref (43 + 3), .int p4.1] _ _ from ?_)
    refine zy_2 rfl rfl (show zyR _ _ _ _ [some (.ref (43 + 3)), some (.int x1), some (.int x2), some (.int x3), some (.int x4), some (.int x5), some (.int x6), some (.int x7)] [.int x6, .int ((4 : Int32) * x5), .ref (43 + 3), .int p4.1] _ _ from ?_)
    refine zy_10 rfl (show zyR _ _ _ _ [some (.ref (43 + 3)), some (.int x1), some (.int x2), some (.int x3), some (.int x4), some (.int x5), some (.int x6), some (.int x7)] [.int (((4 : Int32) * x5) + x6), .ref (43 + 3), .int p4.1] _ _ from ?_)
    obtain ⟨p5, hp5, h⟩ := zy_bind h
    refine zy_5 (c := 43) (as := [.int (((4 : Int32) * x5) + x6)]) (rest := [.int p4.1]) (L := [some (.ref (43 + 3)), some (.int (((4 : Int32) * x5) + x6)), none, none]) (d' := 4) rfl rfl rfl (Nat.le_of_ble_eq_true rfl) (Nat.le_of_ble_eq_true rfl) rfl (Nat.le_of_ble_eq_true rfl) rfl rfl (zyC238 hp5) ?_
    show zyR _ _ _ _ [some (.ref (43 + 3)), some (.int x1), some (.int x2), some (.int x3), some (.int x4), some (.int x5), some (.int x6), some (.int x7)] [.int p5.1, .int p4.1] _ _
    refine zy_25_5 rfl (fun b6 => (show zyR _ _ _ _ [some (.ref (43 + 3)), some (.int x1), some (.int x2), some (.int x3), some (.int x4), some (.int x5), some (.int x6), some (.int x7)] [] _ _ from ?_)) (fun b6 => (show zyR _ _ _ _ [some (.ref (43 + 3)), some (.int x1), some (.int x2), some (.int x3), some (.int x4), some (.int x5), some (.int x6), some (.int x7)] [] _ _ from ?_))
    · replace h := zy_ifp h b6
      refine zy_2 rfl rfl (show zyR _ _ _ _ [some (.ref (43 + 3)), some (.int x1), some (.int x2), some (.int x3), some (.int x4), some (.int x5), some (.int x6), some (.int x7)] [.int x6] _ _ from ?_)
      exact zy_sub (show zy_le [some (.ref (43 + 3)), some (.int x1), some (.int x2), some (.int x3), some (.int x4), some (.int x5), none, some (.int x7)] [some (.ref (43 + 3)), some (.int x1), some (.int x2), some (.int x3), some (.int x4), some (.int x5), some (.int x6), some (.int x7)] from ⟨rfl, ⟨rfl, ⟨rfl, ⟨rfl, ⟨rfl, ⟨rfl, ⟨rfl, trivial⟩⟩⟩⟩⟩⟩⟩) (zyC237_74 hk23 hk36 h)
    · replace h := zy_ifn h b6
      refine zy_2 rfl rfl (show zyR _ _ _ _ [some (.ref (43 + 3)), some (.int x1), some (.int x2), some (.int x3), some (.int x4), some (.int x5), some (.int x6), some (.int x7)] [.int x7] _ _ from ?_)
      refine zy_6 rfl (show zyR _ _ _ _ [some (.ref (43 + 3)), some (.int x1), some (.int x2), some (.int x3), some (.int x4), some (.int x5), some (.int x6), some (.int x7)] [.int x7] _ _ from ?_)
      exact zy_sub (show zy_le [some (.ref (43 + 3)), some (.int x1), some (.int x2), some (.int x3), some (.int x4), some (.int x5), none, some (.int x7)] [some (.ref (43 + 3)), some (.int x1), some (.int x2), some (.int x3), some (.int x4), some (.int x5), some (.int x6), some (.int x7)] from ⟨rfl, ⟨rfl, ⟨rfl, ⟨rfl, ⟨rfl, ⟨rfl, ⟨rfl, trivial⟩⟩⟩⟩⟩⟩⟩) (zyC237_74 hk23 hk36 h)
noncomputable def zyF237_36  (k23 : Int32 → Int32 → Int32 → Int32 → Int32 → zy_S → Option (Int32 × zy_S)) (n : Nat) : Int32 → Int32 → Int32 → Int32 → Int32 → Int32 → Int32 → zy_S → Option (Int32 × zy_S) := Nat.rec (fun _ _ _ _ _ _ _ _ => none) (fun _ k36 => zyF237_36b k23 k36) n
theorem zyC237_36 {X : zx_X}  {k23 : Int32 → Int32 → Int32 → Int32 → Int32 → zy_S → Option (Int32 × zy_S)}  (hk23 : ∀ (x1 : Int32) (x2 : Int32) (x3 : Int32) (x4 : Int32) (x5 : Int32) (s : zy_S) (r : Int32) (s' : zy_S), k23 x1 x2 x3 x4 x5 s = some (r, s') → zyR X 5 237 23 [some (.ref (43 + 3)), some (.int x1), some (.int x2), some (.int x3), some (.int x4), some (.int x5), none, none] [] s (zyE (some (.int r)) s')) : ∀ (n : Nat) (x1 : Int32) (x2 : Int32) (x3 : Int32) (x4 : Int32) (x5 : Int32) (x6 : Int32) (x7 : Int32) (s : zy_S) (r : Int32) (s' : zy_S), zyF237_36 k23 n x1 x2 x3 x4 x5 x6 x7 s = some (r, s') → zyR X 5 237 36 [some (.ref (43 + 3)), some (.int x1), some (.int x2), some (.int x3), some (.int x4), some (.int x5), some (.int x6), some (.int x7)] [] s (zyE (some (.int r)) s')
  | 0, _, _, _, _, _, _, _ => by
    intro s r s'  h
    have h : (none : Option (Int32 × zy_S)) = some (r, s') := h
    cases h
  | n + 1, x1, x2, x3, x4, x5, x6, x7 => by
    intro s r s'  h
    exact zyC237_36b (k36 := zyF237_36 k23 n) hk23 (fun x1 x2 x3 x4 x5 x6 x7 s r s'  h => zyC237_36 hk23 n x1 x2 x3 x4 x5 x6 x7 s r s'  h) h
noncomputable def zyF237_23b  (k23 : Int32 → Int32 → Int32 → Int32 → Int32 → zy_S → Option (Int32 × zy_S)) (x1 : Int32) (x2 : Int32) (x3 : Int32) (x4 : Int32) (x5 : Int32) (s : zy_S) : Option (Int32 × zy_S) :=
if (6 : Int32) ≤ x5 then
if x1 ≠ 0 then
some (x3, s)
else
some (x2, s)
else
zyF237_36 k23 zy_fu x1 x2 x3 x4 x5 (0 : Int32) (1 : Int32) s
theorem zyC237_23b {X : zx_X}  {k23 : Int32 → Int32 → Int32 → Int32 → Int32 → zy_S → Option (Int32 × zy_S)}  (hk23 : ∀ (x1 : Int32) (x2 : Int32) (x3 : Int32) (x4 : Int32) (x5 : Int32) (s : zy_S) (r : Int32) (s' : zy_S), k23 x1 x2 x3 x4 x5 s = some (r, s') → zyR X 5 237 23 [some (.ref (43 + 3)), some (.int x1), some (.int x2), some (.int x3), some (.int x4), some (.int x5), none, none] [] s (zyE (some (.int r)) s')) {x1 : Int32} {x2 : Int32} {x3 : Int32} {x4 : Int32} {x5 : Int32} {s : zy_S} {r : Int32} {s' : zy_S}  (h : zyF237_23b k23 x1 x2 x3 x4 x5 s = some (r, s')) : zyR X 5 237 23 [some (.ref (43 + 3)), some (.int x1), some (.int x2), some (.int x3), some (.int x4), some (.int x5), none, none] [] s (zyE (some (.int r)) s') := by
  unfold zyF237_23b at h
  refine zy_2 rfl rfl (show zyR _ _ _ _ [some (.ref (43 + 3)), some (.int x1), some (.int x2), some (.int x3), some (.int x4), some (.int x5), none, none] [.int x5] _ _ from ?_)
  refine zy_3 rfl rfl (show zyR _ _ _ _ [some (.ref (43 + 3)), some (.int x1), some (.int x2), some (.int x3), some (.int x4), some (.int x5), none, none] [.int (6 : Int32), .int x5] _ _ from ?_)
  refine zy_25_3 rfl (fun b9 => (show zyR _ _ _ _ [some (.ref (43 + 3)), some (.int x1), some (.int x2), some (.int x3), some (.int x4), some (.int x5), none, none] [] _ _ from ?_)) (fun b9 => (show zyR _ _ _ _ [some (.ref (43 + 3)), some (.int x1), some (.int x2), some (.int x3), some (.int x4), some (.int x5), none, none] [] _ _ from ?_))
  · replace h := zy_ifp h b9
    refine zy_2 rfl rfl (show zyR _ _ _ _ [some (.ref (43 + 3)), some (.int x1), some (.int x2), some (.int x3), some (.int x4), some (.int x5), none, none] [.int x1] _ _ from ?_)
    refine zy_24_1 rfl (fun b8 => (show zyR _ _ _ _ [some (.ref (43 + 3)), some (.int x1), some (.int x2), some (.int x3), some (.int x4), some (.int x5), none, none] [] _ _ from ?_)) (fun b8 => (show zyR _ _ _ _ [some (.ref (43 + 3)), some (.int x1), some (.int x2), some (.int x3), some (.int x4), some (.int x5), none, none] [] _ _ from ?_))
    · replace h := zy_ifp h b8
      refine zy_2 rfl rfl (show zyR _ _ _ _ [some (.ref (43 + 3)), some (.int x1), some (.int x2), some (.int x3), some (.int x4), some (.int x5), none, none] [.int x3] _ _ from ?_)
      cases h
      exact zy_4 rfl ⟨rfl, rfl⟩
    · replace h := zy_ifn h b8
      refine zy_2 rfl rfl (show zyR _ _ _ _ [some (.ref (43 + 3)), some (.int x1), some (.int x2), some (.int x3), some (.int x4), some (.int x5), none, none] [.int x2] _ _ from ?_)
      refine zy_6 rfl (show zyR _ _ _ _ [some (.ref (43 + 3)), some (.int x1), some (.int x2), some (.int x3), some (.int x4), some (.int x5), none, none] [.int x2] _ _ from ?_)
      cases h
      exact zy_4 rfl ⟨rfl, rfl⟩
  · replace h := zy_ifn h b9
    refine zy_3 rfl rfl (show zyR _ _ _ _ [some (.ref (43 + 3)), some (.int x1), some (.int x2), some (.int x3), some (.int x4), some (.int x5), none, none] [.int (0 : Int32)] _ _ from ?_)
    refine zy_23 rfl rfl (show zyR _ _ _ _ [some (.ref (43 + 3)), some (.int x1), some (.int x2), some (.int x3), some (.int x4), some (.int x5), some (.int (0 : Int32)), none] [] _ _ from ?_)
    refine zy_3 rfl rfl (show zyR _ _ _ _ [some (.ref (43 + 3)), some (.int x1), some (.int x2), some (.int x3), some (.int x4), some (.int x5), some (.int (0 : Int32)), none] [.int (1 : Int32)] _ _ from ?_)
    refine zy_23 rfl rfl (show zyR _ _ _ _ [some (.ref (43 + 3)), some (.int x1), some (.int x2), some (.int x3), some (.int x4), some (.int x5), some (.int (0 : Int32)), some (.int (1 : Int32))] [] _ _ from ?_)
    exact zy_sub (show zy_le [some (.ref (43 + 3)), some (.int x1), some (.int x2), some (.int x3), some (.int x4), some (.int x5), some (.int (0 : Int32)), some (.int (1 : Int32))] [some (.ref (43 + 3)), some (.int x1), some (.int x2), some (.int x3), some (.int x4), some (.int x5), some (.int (0 : Int32)), some (.int (1 : Int32))] from ⟨rfl, ⟨rfl, ⟨rfl, ⟨rfl, ⟨rfl, ⟨rfl, ⟨rfl, ⟨rfl, trivial⟩⟩⟩⟩⟩⟩⟩⟩) (zyC237_36 hk23 zy_fu x1 x2 x3 x4 x5 (0 : Int32) (1 : Int32) s _ _ h)
noncomputable def zyF237_23   (n : Nat) : Int32 → Int32 → Int32 → Int32 → Int32 → zy_S → Option (Int32 × zy_S) := Nat.rec (fun _ _ _ _ _ _ => none) (fun _ k23 => zyF237_23b k23) n
theorem zyC237_23 {X : zx_X}     : ∀ (n : Nat) (x1 : Int32) (x2 : Int32) (x3 : Int32) (x4 : Int32) (x5 : Int32) (s : zy_S) (r : Int32) (s' : zy_S), zyF237_23 n x1 x2 x3 x4 x5 s = some (r, s') → zyR X 5 237 23 [some (.ref (43 + 3)), some (.int x1), some (.int x2), some (.int x3), some (.int x4), some (.int x5), none, none] [] s (zyE (some (.int r)) s')
  | 0, _, _, _, _, _ => by
    intro s r s'  h
    have h : (none : Option (Int32 × zy_S)) = some (r, s') := h
    cases h
  | n + 1, x1, x2, x3, x4, x5 => by
    intro s r s'  h
    exact zyC237_23b (k23 := zyF237_23 n) (fun x1 x2 x3 x4 x5 s r s'  h => zyC237_23  n x1 x2 x3 x4 x5 s r s'  h) h
noncomputable def zyF237   (x1 : Int32) (s : zy_S) : Option (Int32 × zy_S) :=
(zyF179 (x1).toInt64 (0 : Int64) (1 : Int64) s).bind fun p10 =>
if p10.1 ≠ 0 then
zyF237_23 zy_fu x1 (0 : Int32) (0 : Int32) (1000000 : Int32) (0 : Int32) p10.2
else
some ((-1 : Int32), p10.2)
theorem zyC237 {X : zx_X}     {x1 : Int32} {s : zy_S} {r : Int32} {s' : zy_S}  (h : zyF237 x1 s = some (r, s')) : zyR X 5 237 0 [some (.ref (43 + 3)), some (.int x1), none, none, none, none, none, none] [] s (zyE (some (.int r)) s') := by
  unfold zyF237 at h
  refine zy_2 rfl rfl (show zyR _ _ _ _ [some (.ref (43 + 3)), some (.int x1), none, none, none, none, none, none] [.int x1] _ _ from ?_)
  refine zy_40 rfl (show zyR _ _ _ _ [some (.ref (43 + 3)), some (.int x1), none, none, none, none, none, none] [.long (x1).toInt64] _ _ from ?_)
  refine zy_36 rfl rfl (show zyR _ _ _ _ [some (.ref (43 + 3)), some (.int x1), none, none, none, none, none, none] [.long (0 : Int64), .long (x1).toInt64] _ _ from ?_)
  refine zy_36 rfl rfl (show zyR _ _ _ _ [some (.ref (43 + 3)), some (.int x1), none, none, none, none, none, none] [.long (1 : Int64), .long (0 : Int64), .long (x1).toInt64] _ _ from ?_)
  obtain ⟨p10, hp10, h⟩ := zy_bind h
  refine zy_60 (as := [.long (x1).toInt64, .long (0 : Int64), .long (1 : Int64)]) (rest := []) (L := [some (.long (x1).toInt64), none, some (.long (0 : Int64)), none, some (.long (1 : Int64)), none]) (d' := 1) rfl rfl (Nat.le_of_ble_eq_true rfl) (Nat.le_of_ble_eq_true rfl) rfl (Nat.le_of_ble_eq_true rfl) rfl rfl (zyC179 hp10) ?_
  show zyR _ _ _ _ [some (.ref (43 + 3)), some (.int x1), none, none, none, none, none, none] [.int p10.1] _ _
  refine zy_24_1 rfl (fun b11 => (show zyR _ _ _ _ [some (.ref (43 + 3)), some (.int x1), none, none, none, none, none, none] [] _ _ from ?_)) (fun b11 => (show zyR _ _ _ _ [some (.ref (43 + 3)), some (.int x1), none, none, none, none, none, none] [] _ _ from ?_))
  · replace h := zy_ifp h b11
    refine zy_3 rfl rfl (show zyR _ _ _ _ [some (.ref (43 + 3)), some (.int x1), none, none, none, none, none, none] [.int (0 : Int32)] _ _ from ?_)
    refine zy_23 rfl rfl (show zyR _ _ _ _ [some (.ref (43 + 3)), some (.int x1), some (.int (0 : Int32)), none, none, none, none, none] [] _ _ from ?_)
    refine zy_3 rfl rfl (show zyR _ _ _ _ [some (.ref (43 + 3)), some (.int x1), some (.int (0 : Int32)), none, none, none, none, none] [.int (0 : Int32)] _ _ from ?_)
    refine zy_23 rfl rfl (show zyR _ _ _ _ [some (.ref (43 + 3)), some (.int x1), some (.int (0 : Int32)), some (.int (0 : Int32)), none, none, none, none] [] _ _ from ?_)
    refine zy_3c rfl rfl (show zyR _ _ _ _ [some (.ref (43 + 3)), some (.int x1), some (.int (0 : Int32)), some (.int (0 : Int32)), none, none, none, none] [.int (1000000 : Int32)] _ _ from ?_)
    refine zy_23 rfl rfl (show zyR _ _ _ _ [some (.ref (43 + 3)), some (.int x1), some (.int (0 : Int32)), some (.int (0 : Int32)), some (.int (1000000 : Int32)), none, none, none] [] _ _ from ?_)
    refine zy_3 rfl rfl (show zyR _ _ _ _ [some (.ref (43 + 3)), some (.int x1), some (.int (0 : Int32)), some (.int (0 : Int32)), some (.int (1000000 : Int32)), none, none, none] [.int (0 : Int32)] _ _ from ?_)
    refine zy_23 rfl rfl (show zyR _ _ _ _ [some (.ref (43 + 3)), some (.int x1), some (.int (0 : Int32)), some (.int (0 : Int32)), some (.int (1000000 : Int32)), some (.int (0 : Int32)), none, none] [] _ _ from ?_)
    exact zy_sub (show zy_le [some (.ref (43 + 3)), some (.int x1), some (.int (0 : Int32)), some (.int (0 : Int32)), some (.int (1000000 : Int32)), some (.int (0 : Int32)), none, none] [some (.ref (43 + 3)), some (.int x1), some (.int (0 : Int32)), some (.int (0 : Int32)), some (.int (1000000 : Int32)), some (.int (0 : Int32)), none, none] from ⟨rfl, ⟨rfl, ⟨rfl, ⟨rfl, ⟨rfl, ⟨rfl, trivial⟩⟩⟩⟩⟩⟩) (zyC237_23 zy_fu x1 (0 : Int32) (0 : Int32) (1000000 : Int32) (0 : Int32) p10.2 _ _ h)
  · replace h := zy_ifn h b11
    refine zy_3 rfl rfl (show zyR _ _ _ _ [some (.ref (43 + 3)), some (.int x1), none, none, none, none, none, none] [.int (-1 : Int32)] _ _ from ?_)
    cases h
    exact zy_4 rfl ⟨rfl, rfl⟩
/-! NineOpinions$Town.everybody()I -/
noncomputable def zyF51    (s : zy_S) : Option (Int32 × zy_S) :=
some ((((1 : Int32) <<< ((s.1 1 5) &&& 31)) - (1 : Int32)), s)
theorem zyC51 {X : zx_X}      {s : zy_S} {r : Int32} {s' : zy_S}  (h : zyF51 s = some (r, s')) : zyR X 1 51 0 [some (.ref (1 + 3))] [] s (zyE (some (.int r)) s') := by
  unfold zyF51 at h
  refine zy_3 rfl rfl (show zyR _ _ _ _ [some (.ref (1 + 3))] [.int (1 : Int32)] _ _ from ?_)
  refine zy_0 rfl rfl (show zyR _ _ _ _ [some (.ref (1 + 3))] [.ref (1 + 3), .int (1 : Int32)] _ _ from ?_)
  refine zy_1 (c := 1) rfl rfl rfl (show zyR _ _ _ _ [some (.ref (1 + 3))] [.int (s.1 1 5), .int (1 : Int32)] _ _ from ?_)
  refine zy_16 rfl (show zyR _ _ _ _ [some (.ref (1 + 3))] [.int ((1 : Int32) <<< ((s.1 1 5) &&& 31))] _ _ from ?_)
  refine zy_3 rfl rfl (show zyR _ _ _ _ [some (.ref (1 + 3))] [.int (1 : Int32), .int ((1 : Int32) <<< ((s.1 1 5) &&& 31))] _ _ from ?_)
  refine zy_11 rfl (show zyR _ _ _ _ [some (.ref (1 + 3))] [.int (((1 : Int32) <<< ((s.1 1 5) &&& 31)) - (1 : Int32))] _ _ from ?_)
  cases h
  exact zy_4 rfl ⟨rfl, rfl⟩
/-! NineOpinions$Votes.haveMoreThanHalf(I)Z -/
noncomputable def zyF97   (x1 : Int32) (s : zy_S) : Option (Int32 × zy_S) :=
(zyF98 x1 s).bind fun p1 =>
(zyF51 p1.2).bind fun p2 =>
(zyF98 p2.1 p2.2).bind fun p3 =>
if ((2 : Int32) * p1.1) ≤ p3.1 then
some ((0 : Int32), p3.2)
else
some ((1 : Int32), p3.2)
theorem zyC97 {X : zx_X}     {x1 : Int32} {s : zy_S} {r : Int32} {s' : zy_S}  (h : zyF97 x1 s = some (r, s')) : zyR X 3 97 0 [some (.ref (16 + 3)), some (.int x1)] [] s (zyE (some (.int r)) s') := by
  unfold zyF97 at h
  refine zy_3 rfl rfl (show zyR _ _ _ _ [some (.ref (16 + 3)), some (.int x1)] [.int (2 : Int32)] _ _ from ?_)
  refine zy_0 rfl rfl (show zyR _ _ _ _ [some (.ref (16 + 3)), some (.int x1)] [.ref (16 + 3), .int (2 : Int32)] _ _ from ?_)
  refine zy_2 rfl rfl (show zyR _ _ _ _ [some (.ref (16 + 3)), some (.int x1)] [.int x1, .ref (16 + 3), .int (2 : Int32)] _ _ from ?_)
  obtain ⟨p1, hp1, h⟩ := zy_bind h
  refine zy_5 (c := 16) (as := [.int x1]) (rest := [.int (2 : Int32)]) (L := [some (.ref (16 + 3)), some (.int x1), none, none]) (d' := 2) rfl rfl rfl (Nat.le_of_ble_eq_true rfl) (Nat.le_of_ble_eq_true rfl) rfl (Nat.le_of_ble_eq_true rfl) rfl rfl (zyC98 hp1) ?_
  show zyR _ _ _ _ [some (.ref (16 + 3)), some (.int x1)] [.int p1.1, .int (2 : Int32)] _ _
  refine zy_12 rfl (show zyR _ _ _ _ [some (.ref (16 + 3)), some (.int x1)] [.int ((2 : Int32) * p1.1)] _ _ from ?_)
  refine zy_0 rfl rfl (show zyR _ _ _ _ [some (.ref (16 + 3)), some (.int x1)] [.ref (16 + 3), .int ((2 : Int32) * p1.1)] _ _ from ?_)
  refine zy_0 rfl rfl (show zyR _ _ _ _ [some (.ref (16 + 3)), some (.int x1)] [.ref (16 + 3), .ref (16 + 3), .int ((2 : Int32) * p1.1)] _ _ from ?_)
  refine zy_1r (c := 16) rfl rfl rfl (show zyR _ _ _ _ [some (.ref (16 + 3)), some (.int x1)] [.ref (1 + 3), .ref (16 + 3), .int ((2 : Int32) * p1.1)] _ _ from ?_)
  obtain ⟨p2, hp2, h⟩ := zy_bind h
  refine zy_5 (c := 1) (as := []) (rest := [.ref (16 + 3), .int ((2 : Int32) * p1.1)]) (L := [some (.ref (1 + 3))]) (d' := 1) rfl rfl rfl (Nat.le_of_ble_eq_true rfl) (Nat.le_of_ble_eq_true rfl) rfl (Nat.le_of_ble_eq_true rfl) rfl rfl (zyC51 hp2) ?_
  show zyR _ _ _ _ [some (.ref (16 + 3)), some (.int x1)] [.int p2.1, .ref (16 + 3), .int ((2 : Int32) * p1.1)] _ _
  obtain ⟨p3, hp3, h⟩ := zy_bind h
  refine zy_5 (c := 16) (as := [.int p2.1]) (rest := [.int ((2 : Int32) * p1.1)]) (L := [some (.ref (16 + 3)), some (.int p2.1), none, none]) (d' := 2) rfl rfl rfl (Nat.le_of_ble_eq_true rfl) (Nat.le_of_ble_eq_true rfl) rfl (Nat.le_of_ble_eq_true rfl) rfl rfl (zyC98 hp3) ?_
  show zyR _ _ _ _ [some (.ref (16 + 3)), some (.int x1)] [.int p3.1, .int ((2 : Int32) * p1.1)] _ _
  refine zy_25_5 rfl (fun b4 => (show zyR _ _ _ _ [some (.ref (16 + 3)), some (.int x1)] [] _ _ from ?_)) (fun b4 => (show zyR _ _ _ _ [some (.ref (16 + 3)), some (.int x1)] [] _ _ from ?_))
  · replace h := zy_ifp h b4
    refine zy_3 rfl rfl (show zyR _ _ _ _ [some (.ref (16 + 3)), some (.int x1)] [.int (0 : Int32)] _ _ from ?_)
    cases h
    exact zy_4b rfl ⟨rfl, rfl⟩ (Or.inl rfl)
  · replace h := zy_ifn h b4
    refine zy_3 rfl rfl (show zyR _ _ _ _ [some (.ref (16 + 3)), some (.int x1)] [.int (1 : Int32)] _ _ from ?_)
    refine zy_6 rfl (show zyR _ _ _ _ [some (.ref (16 + 3)), some (.int x1)] [.int (1 : Int32)] _ _ from ?_)
    cases h
    exact zy_4b rfl ⟨rfl, rfl⟩ (Or.inr rfl)
/-! NineOpinions$Votes.strikable()I -/
noncomputable def zyF94_61  (k4 : Int32 → Int32 → zy_S → Option (Int32 × zy_S)) (x2 : Int32) (y0 : Int32) (y1 : Int32) (s : zy_S) : Option (Int32 × zy_S) :=
k4 (y1 ||| y0) (x2 + (1 : Int32)) s
theorem zyC94_61 {X : zx_X}  {k4 : Int32 → Int32 → zy_S → Option (Int32 × zy_S)}  (hk4 : ∀ (x1 : Int32) (x2 : Int32) (s : zy_S) (r : Int32) (s' : zy_S), k4 x1 x2 s = some (r, s') → zyR X 4 94 4 [some (.ref (16 + 3)), some (.int x1), some (.int x2), none] [] s (zyE (some (.int r)) s')) {x2 : Int32} {y0 : Int32} {y1 : Int32} {s : zy_S} {r : Int32} {s' : zy_S}  (h : zyF94_61 k4 x2 y0 y1 s = some (r, s')) : zyR X 4 94 61 [some (.ref (16 + 3)), none, some (.int x2), none] [.int y0, .int y1] s (zyE (some (.int r)) s') := by
  unfold zyF94_61 at h
  refine zy_14 rfl (show zyR _ _ _ _ [some (.ref (16 + 3)), none, some (.int x2), none] [.int (y1 ||| y0)] _ _ from ?_)
  refine zy_23 rfl rfl (show zyR _ _ _ _ [some (.ref (16 + 3)), some (.int (y1 ||| y0)), some (.int x2), none] [] _ _ from ?_)
  refine zy_22 rfl rfl rfl rfl (show zyR _ _ _ _ [some (.ref (16 + 3)), some (.int (y1 ||| y0)), some (.int (x2 + (1 : Int32))), none] [] _ _ from ?_)
  refine zy_6 rfl (show zyR _ _ _ _ [some (.ref (16 + 3)), some (.int (y1 ||| y0)), some (.int (x2 + (1 : Int32))), none] [] _ _ from ?_)
  exact zy_sub (show zy_le [some (.ref (16 + 3)), some (.int (y1 ||| y0)), some (.int (x2 + (1 : Int32))), none] [some (.ref (16 + 3)), some (.int (y1 ||| y0)), some (.int (x2 + (1 : Int32))), none] from ⟨rfl, ⟨rfl, ⟨rfl, trivial⟩⟩⟩) (hk4 (y1 ||| y0) (x2 + (1 : Int32)) s _ _ h)
noncomputable def zyF94_48  (k4 : Int32 → Int32 → zy_S → Option (Int32 × zy_S)) (x1 : Int32) (x2 : Int32) (y0 : Int32) (s : zy_S) : Option (Int32 × zy_S) :=
if y0 = 0 then
zyF94_61 k4 x2 (0 : Int32) x1 s
else
zyF94_61 k4 x2 ((1 : Int32) <<< (x2 &&& 31)) x1 s
theorem zyC94_48 {X : zx_X}  {k4 : Int32 → Int32 → zy_S → Option (Int32 × zy_S)}  (hk4 : ∀ (x1 : Int32) (x2 : Int32) (s : zy_S) (r : Int32) (s' : zy_S), k4 x1 x2 s = some (r, s') → zyR X 4 94 4 [some (.ref (16 + 3)), some (.int x1), some (.int x2), none] [] s (zyE (some (.int r)) s')) {x1 : Int32} {x2 : Int32} {y0 : Int32} {s : zy_S} {r : Int32} {s' : zy_S}  (h : zyF94_48 k4 x1 x2 y0 s = some (r, s')) : zyR X 4 94 48 [some (.ref (16 + 3)), some (.int x1), some (.int x2), none] [.int y0] s (zyE (some (.int r)) s') := by
  unfold zyF94_48 at h
  refine zy_23 rfl rfl (show zyR _ _ _ _ [some (.ref (16 + 3)), some (.int x1), some (.int x2), some (.int y0)] [] _ _ from ?_)
  refine zy_2 rfl rfl (show zyR _ _ _ _ [some (.ref (16 + 3)), some (.int x1), some (.int x2), some (.int y0)] [.int x1] _ _ from ?_)
  refine zy_2 rfl rfl (show zyR _ _ _ _ [some (.ref (16 + 3)), some (.int x1), some (.int x2), some (.int y0)] [.int y0, .int x1] _ _ from ?_)
  refine zy_24_0 rfl (fun b1 => (show zyR _ _ _ _ [some (.ref (16 + 3)), some (.int x1), some (.int x2), some (.int y0)] [.int x1] _ _ from ?_)) (fun b1 => (show zyR _ _ _ _ [some (.ref (16 + 3)), some (.int x1), some (.int x2), some (.int y0)] [.int x1] _ _ from ?_))
  · replace h := zy_ifp h b1
    refine zy_3 rfl rfl (show zyR _ _ _ _ [some (.ref (16 + 3)), some (.int x1), some (.int x2), some (.int y0)] [.int (0 : Int32), .int x1] _ _ from ?_)
    exact zy_sub (show zy_le [some (.ref (16 + 3)), none, some (.int x2), none] [some (.ref (16 + 3)), some (.int x1), some (.int x2), some (.int y0)] from ⟨rfl, ⟨rfl, trivial⟩⟩) (zyC94_61 hk4 h)
  · replace h := zy_ifn h b1
    refine zy_3 rfl rfl (show zyR _ _ _ _ [some (.ref (16 + 3)), some (.int x1), some (.int x2), some (.int y0)] [.int (1 : Int32), .int x1] _ _ from ?_)
    refine zy_2 rfl rfl (show zyR _ _ _ _ [some (.ref (16 + 3)), some (.int x1), some (.int x2), some (.int y0)] [.int x2, .int (1 : Int32), .int x1] _ _ from ?_)
    refine zy_16 rfl (show zyR _ _ _ _ [some (.ref (16 + 3)), some (.int x1), some (.int x2), some (.int y0)] [.int ((1 : Int32) <<< (x2 &&& 31)), .int x1] _ _ from ?_)
    refine zy_6 rfl (show zyR _ _ _ _ [some (.ref (16 + 3)), some (.int x1), some (.int x2), some (.int y0)] [.int ((1 : Int32) <<< (x2 &&& 31)), .int x1] _ _ from ?_)
    exact zy_sub (show zy_le [some (.ref (16 + 3)), none, some (.int x2), none] [some (.ref (16 + 3)), some (.int x1), some (.int x2), some (.int y0)] from ⟨rfl, ⟨rfl, trivial⟩⟩) (zyC94_61 hk4 h)
noncomputable def zyF94_47  (k4 : Int32 → Int32 → zy_S → Option (Int32 × zy_S)) (x1 : Int32) (x2 : Int32) (s : zy_S) : Option (Int32 × zy_S) :=
zyF94_48 k4 x1 x2 (0 : Int32) s
theorem zyC94_47 {X : zx_X}  {k4 : Int32 → Int32 → zy_S → Option (Int32 × zy_S)}  (hk4 : ∀ (x1 : Int32) (x2 : Int32) (s : zy_S) (r : Int32) (s' : zy_S), k4 x1 x2 s = some (r, s') → zyR X 4 94 4 [some (.ref (16 + 3)), some (.int x1), some (.int x2), none] [] s (zyE (some (.int r)) s')) {x1 : Int32} {x2 : Int32} {s : zy_S} {r : Int32} {s' : zy_S}  (h : zyF94_47 k4 x1 x2 s = some (r, s')) : zyR X 4 94 47 [some (.ref (16 + 3)), some (.int x1), some (.int x2), none] [] s (zyE (some (.int r)) s') := by
  unfold zyF94_47 at h
  refine zy_3 rfl rfl (show zyR _ _ _ _ [some (.ref (16 + 3)), some (.int x1), some (.int x2), none] [.int (0 : Int32)] _ _ from ?_)
  exact zy_sub (show zy_le [some (.ref (16 + 3)), some (.int x1), some (.int x2), none] [some (.ref (16 + 3)), some (.int x1), some (.int x2), none] from ⟨rfl, ⟨rfl, ⟨rfl, trivial⟩⟩⟩) (zyC94_48 hk4 h)
noncomputable def zyF94_4b  (k4 : Int32 → Int32 → zy_S → Option (Int32 × zy_S)) (x1 : Int32) (x2 : Int32) (s : zy_S) : Option (Int32 × zy_S) :=
if (24 : Int32) ≤ x2 then
some (x1, s)
else
(zyF86 x2 s).bind fun p2 =>
if p2.1 = 0 then
zyF94_47 k4 x1 x2 p2.2
else
(zyF51 p2.2).bind fun p3 =>
(zyF95 x2 p3.2).bind fun p4 =>
(zyF97 (p3.1 &&& (p4.1 ^^^ (-1 : Int32))) p4.2).bind fun p5 =>
if p5.1 = 0 then
zyF94_47 k4 x1 x2 p5.2
else
zyF94_48 k4 x1 x2 (1 : Int32) p5.2
theorem zyC94_4b {X : zx_X}  {k4 : Int32 → Int32 → zy_S → Option (Int32 × zy_S)}  (hk4 : ∀ (x1 : Int32) (x2 : Int32) (s : zy_S) (r : Int32) (s' : zy_S), k4 x1 x2 s = some (r, s') → zyR X 4 94 4 [some (.ref (16 + 3)), some (.int x1), some (.int x2), none] [] s (zyE (some (.int r)) s')) {x1 : Int32} {x2 : Int32} {s : zy_S} {r : Int32} {s' : zy_S}  (h : zyF94_4b k4 x1 x2 s = some (r, s')) : zyR X 4 94 4 [some (.ref (16 + 3)), some (.int x1), some (.int x2), none] [] s (zyE (some (.int r)) s') := by
  unfold zyF94_4b at h
  refine zy_2 rfl rfl (show zyR _ _ _ _ [some (.ref (16 + 3)), some (.int x1), some (.int x2), none] [.int x2] _ _ from ?_)
  refine zy_3 rfl rfl (show zyR _ _ _ _ [some (.ref (16 + 3)), some (.int x1), some (.int x2), none] [.int (24 : Int32), .int x2] _ _ from ?_)
  refine zy_25_3 rfl (fun b8 => (show zyR _ _ _ _ [some (.ref (16 + 3)), some (.int x1), some (.int x2), none] [] _ _ from ?_)) (fun b8 => (show zyR _ _ _ _ [some (.ref (16 + 3)), some (.int x1), some (.int x2), none] [] _ _ from ?_))
  · replace h := zy_ifp h b8
    refine zy_2 rfl rfl (show zyR _ _ _ _ [some (.ref (16 + 3)), some (.int x1), some (.int x2), none] [.int x1] _ _ from ?_)
    cases h
    exact zy_4 rfl ⟨rfl, rfl⟩
  · replace h := zy_ifn h b8
    refine zy_0 rfl rfl (show zyR _ _ _ _ [some (.ref (16 + 3)), some (.int x1), some (.int x2), none] [.ref (16 + 3)] _ _ from ?_)
    refine zy_1r (c := 16) rfl rfl rfl (show zyR _ _ _ _ [some (.ref (16 + 3)), some (.int x1), some (.int x2), none] [.ref (1 + 3)] _ _ from ?_)
    refine zy_2 rfl rfl (show zyR _ _ _ _ [some (.ref (16 + 3)), some (.int x1), some (.int x2), none] [.int x2, .ref (1 + 3)] _ _ from ?_)
    obtain ⟨p2, hp2, h⟩ := zy_bind h
    refine zy_5 (c := 1) (as := [.int x2]) (rest := []) (L := [some (.ref (1 + 3)), some (.int x2)]) (d' := 2) rfl rfl rfl (Nat.le_of_ble_eq_true rfl) (Nat.le_of_ble_eq_true rfl) rfl (Nat.le_of_ble_eq_true rfl) rfl rfl (zyC86 hp2) ?_
    show zyR _ _ _ _ [some (.ref (16 + 3)), some (.int x1), some (.int x2), none] [.int p2.1] _ _
    refine zy_24_0 rfl (fun b7 => (show zyR _ _ _ _ [some (.ref (16 + 3)), some (.int x1), some (.int x2), none] [] _ _ from ?_)) (fun b7 => (show zyR _ _ _ _ [some (.ref (16 + 3)), some (.int x1), some (.int x2), none] [] _ _ from ?_))
    · replace h := zy_ifp h b7
      exact zy_sub (show zy_le [some (.ref (16 + 3)), some (.int x1), some (.int x2), none] [some (.ref (16 + 3)), some (.int x1), some (.int x2), none] from ⟨rfl, ⟨rfl, ⟨rfl, trivial⟩⟩⟩) (zyC94_47 hk4 h)
    · replace h := zy_ifn h b7
      refine zy_0 rfl rfl (show zyR _ _ _ _ [some (.ref (16 + 3)), some (.int x1), some (.int x2), none] [.ref (16 + 3)] _ _ from ?_)
      refine zy_0 rfl rfl (show zyR _ _ _ _ [some (.ref (16 + 3)), some (.int x1), some (.int x2), none] [.ref (16 + 3), .ref (16 + 3)] _ _ from ?_)
      refine zy_1r (c := 16) rfl rfl rfl (show zyR _ _ _ _ [some (.ref (16 + 3)), some (.int x1), some (.int x2), none] [.ref (1 + 3), .ref (16 + 3)] _ _ from ?_)
      obtain ⟨p3, hp3, h⟩ := zy_bind h
      refine zy_5 (c := 1) (as := []) (rest := [.ref (16 + 3)]) (L := [some (.ref (1 + 3))]) (d' := 1) rfl rfl rfl (Nat.le_of_ble_eq_true rfl) (Nat.le_of_ble_eq_true rfl) rfl (Nat.le_of_ble_eq_true rfl) rfl rfl (zyC51 hp3) ?_
      show zyR _ _ _ _ [some (.ref (16 + 3)), some (.int x1), some (.int x2), none] [.int p3.1, .ref (16 + 3)] _ _
      refine zy_0 rfl rfl (show zyR _ _ _ _ [some (.ref (16 + 3)), some (.int x1), some (.int x2), none] [.ref (16 + 3), .int p3.1, .ref (16 + 3)] _ _ from ?_)
      refine zy_2 rfl rfl (show zyR _ _ _ _ [some (.ref (16 + 3)), some (.int x1), some (.int x2), none] [.int x2, .ref (16 + 3), .int p3.1, .ref (16 + 3)] _ _ from ?_)
      obtain ⟨p4, hp4, h⟩ := zy_bind h
      refine zy_5 (c := 16) (as := [.int x2]) (rest := [.int p3.1, .ref (16 + 3)]) (L := [some (.ref (16 + 3)), some (.int x2), none, none]) (d' := 3) rfl rfl rfl (Nat.le_of_ble_eq_true rfl) (Nat.le_of_ble_eq_true rfl) rfl (Nat.le_of_ble_eq_true rfl) rfl rfl (zyC95 hp4) ?_
      show zyR _ _ _ _ [some (.ref (16 + 3)), some (.int x1), some (.int x2), none] [.int p4.1, .int p3.1, .ref (16 + 3)] _ _
      refine zy_3 rfl rfl (show zyR _ _ _ _ [some (.ref (16 + 3)), some (.int x1), some (.int x2), none] [.int (-1 : Int32), .int p4.1, .int p3.1, .ref (16 + 3)] _ _ from ?_)
      refine zy_15 rfl (show zyR _ _ _ _ [some (.ref (16 + 3)), some (.int x1), some (.int x2), none] [.int (p4.1 ^^^ (-1 : Int32)), .int p3.1, .ref (16 + 3)] _ _ from ?_)
      refine zy_13 rfl (show zyR _ _ _ _ [some (.ref (16 + 3)), some (.int x1), some (.int x2), none] [.int (p3.1 &&& (p4.1 ^^^ (-1 : Int32))), .ref (16 + 3)] _ _ from ?_)
      obtain ⟨p5, hp5, h⟩ := zy_bind h
      refine zy_5 (c := 16) (as := [.int (p3.1 &&& (p4.1 ^^^ (-1 : Int32)))]) (rest := []) (L := [some (.ref (16 + 3)), some (.int (p3.1 &&& (p4.1 ^^^ (-1 : Int32))))]) (d' := 3) rfl rfl rfl (Nat.le_of_ble_eq_true rfl) (Nat.le_of_ble_eq_true rfl) rfl (Nat.le_of_ble_eq_true rfl) rfl rfl (zyC97 hp5) ?_
      show zyR _ _ _ _ [some (.ref (16 + 3)), some (.int x1), some (.int x2), none] [.int p5.1] _ _
      refine zy_24_0 rfl (fun b6 => (show zyR _ _ _ _ [some (.ref (16 + 3)), some (.int x1), some (.int x2), none] [] _ _ from ?_)) (fun b6 => (show zyR _ _ _ _ [some (.ref (16 + 3)), some (.int x1), some (.int x2), none] [] _ _ from ?_))
      · replace h := zy_ifp h b6
        exact zy_sub (show zy_le [some (.ref (16 + 3)), some (.int x1), some (.int x2), none] [some (.ref (16 + 3)), some (.int x1), some (.int x2), none] from ⟨rfl, ⟨rfl, ⟨rfl, trivial⟩⟩⟩) (zyC94_47 hk4 h)
      · replace h := zy_ifn h b6
        refine zy_3 rfl rfl (show zyR _ _ _ _ [some (.ref (16 + 3)), some (.int x1), some (.int x2), none] [.int (1 : Int32)] _ _ from ?_)
        refine zy_6 rfl (show zyR _ _ _ _ [some (.ref (16 + 3)), some (.int x1), some (.int x2), none] [.int (1 : Int32)] _ _ from ?_)
        exact zy_sub (show zy_le [some (.ref (16 + 3)), some (.int x1), some (.int x2), none] [some (.ref (16 + 3)), some (.int x1), some (.int x2), none] from ⟨rfl, ⟨rfl, ⟨rfl, trivial⟩⟩⟩) (zyC94_48 hk4 h)
noncomputable def zyF94_4   (n : Nat) : Int32 → Int32 → zy_S → Option (Int32 × zy_S) := Nat.rec (fun _ _ _ => none) (fun _ k4 => zyF94_4b k4) n
theorem zyC94_4 {X : zx_X}     : ∀ (n : Nat) (x1 : Int32) (x2 : Int32) (s : zy_S) (r : Int32) (s' : zy_S), zyF94_4 n x1 x2 s = some (r, s') → zyR X 4 94 4 [some (.ref (16 + 3)), some (.int x1), some (.int x2), none] [] s (zyE (some (.int r)) s')
  | 0, _, _ => by
    intro s r s'  h
    have h : (none : Option (Int32 × zy_S)) = some (r, s') := h
    cases h
  | n + 1, x1, x2 => by
    intro s r s'  h
    exact zyC94_4b (k4 := zyF94_4 n) (fun x1 x2 s r s'  h => zyC94_4  n x1 x2 s r s'  h) h
noncomputable def zyF94    (s : zy_S) : Option (Int32 × zy_S) :=
zyF94_4 zy_fu (0 : Int32) (0 : Int32) s
theorem zyC94 {X : zx_X}      {s : zy_S} {r : Int32} {s' : zy_S}  (h : zyF94 s = some (r, s')) : zyR X 4 94 0 [some (.ref (16 + 3)), none, none, none] [] s (zyE (some (.int r)) s') := by
  unfold zyF94 at h
  refine zy_3 rfl rfl (show zyR _ _ _ _ [some (.ref (16 + 3)), none, none, none] [.int (0 : Int32)] _ _ from ?_)
  refine zy_23 rfl rfl (show zyR _ _ _ _ [some (.ref (16 + 3)), some (.int (0 : Int32)), none, none] [] _ _ from ?_)
  refine zy_3 rfl rfl (show zyR _ _ _ _ [some (.ref (16 + 3)), some (.int (0 : Int32)), none, none] [.int (0 : Int32)] _ _ from ?_)
  refine zy_23 rfl rfl (show zyR _ _ _ _ [some (.ref (16 + 3)), some (.int (0 : Int32)), some (.int (0 : Int32)), none] [] _ _ from ?_)
  exact zy_sub (show zy_le [some (.ref (16 + 3)), some (.int (0 : Int32)), some (.int (0 : Int32)), none] [some (.ref (16 + 3)), some (.int (0 : Int32)), some (.int (0 : Int32)), none] from ⟨rfl, ⟨rfl, ⟨rfl, trivial⟩⟩⟩) (zyC94_4 zy_fu (0 : Int32) (0 : Int32) s _ _ h)
/-! NineOpinions$Votes.believed()I -/
noncomputable def zyF99_17b  (k4 : Int32 → Int32 → zy_S → Option (Int32 × zy_S)) (k17 : Int32 → Int32 → Int32 → zy_S → Option (Int32 × zy_S)) (x1 : Int32) (x2 : Int32) (x3 : Int32) (s : zy_S) : Option (Int32 × zy_S) :=
if (6 : Int32) ≤ x3 then
k4 x1 (x2 + (1 : Int32)) s
else
if zy_in x2 8 then
(zyF60 (s.1 3 (x2).toNatClampNeg) x3 s).bind fun p2 =>
k17 (x1 ||| ((1 : Int32) <<< ((((4 : Int32) * x3) + p2.1) &&& 31))) x2 (x3 + (1 : Int32)) p2.2
else none
theorem zyC99_17b {X : zx_X}  {k4 : Int32 → Int32 → zy_S → Option (Int32 × zy_S)} {k17 : Int32 → Int32 → Int32 → zy_S → Option (Int32 × zy_S)}  (hk4 : ∀ (x1 : Int32) (x2 : Int32) (s : zy_S) (r : Int32) (s' : zy_S), k4 x1 x2 s = some (r, s') → zyR X 2 99 4 [some (.ref (16 + 3)), some (.int x1), some (.int x2), none] [] s (zyE (some (.int r)) s')) (hk17 : ∀ (x1 : Int32) (x2 : Int32) (x3 : Int32) (s : zy_S) (r : Int32) (s' : zy_S), k17 x1 x2 x3 s = some (r, s') → zyR X 2 99 17 [some (.ref (16 + 3)), some (.int x1), some (.int x2), some (.int x3)] [] s (zyE (some (.int r)) s')) {x1 : Int32} {x2 : Int32} {x3 : Int32} {s : zy_S} {r : Int32} {s' : zy_S}  (h : zyF99_17b k4 k17 x1 x2 x3 s = some (r, s')) : zyR X 2 99 17 [some (.ref (16 + 3)), some (.int x1), some (.int x2), some (.int x3)] [] s (zyE (some (.int r)) s') := by
  unfold zyF99_17b at h
  refine zy_2 rfl rfl (show zyR _ _ _ _ [some (.ref (16 + 3)), some (.int x1), some (.int x2), some (.int x3)] [.int x3] _ _ from ?_)
  refine zy_3 rfl rfl (show zyR _ _ _ _ [some (.ref (16 + 3)), some (.int x1), some (.int x2), some (.int x3)] [.int (6 : Int32), .int x3] _ _ from ?_)
  refine zy_25_3 rfl (fun b3 => (show zyR _ _ _ _ [some (.ref (16 + 3)), some (.int x1), some (.int x2), some (.int x3)] [] _ _ from ?_)) (fun b3 => (show zyR _ _ _ _ [some (.ref (16 + 3)), some (.int x1), some (.int x2), some (.int x3)] [] _ _ from ?_))
  · replace h := zy_ifp h b3
    refine zy_22 rfl rfl rfl rfl (show zyR _ _ _ _ [some (.ref (16 + 3)), some (.int x1), some (.int (x2 + (1 : Int32))), some (.int x3)] [] _ _ from ?_)
    refine zy_6 rfl (show zyR _ _ _ _ [some (.ref (16 + 3)), some (.int x1), some (.int (x2 + (1 : Int32))), some (.int x3)] [] _ _ from ?_)
    exact zy_sub (show zy_le [some (.ref (16 + 3)), some (.int x1), some (.int (x2 + (1 : Int32))), none] [some (.ref (16 + 3)), some (.int x1), some (.int (x2 + (1 : Int32))), some (.int x3)] from ⟨rfl, ⟨rfl, ⟨rfl, trivial⟩⟩⟩) (hk4 x1 (x2 + (1 : Int32)) s _ _ h)
  · replace h := zy_ifn h b3
    refine zy_2 rfl rfl (show zyR _ _ _ _ [some (.ref (16 + 3)), some (.int x1), some (.int x2), some (.int x3)] [.int x1] _ _ from ?_)
    refine zy_3 rfl rfl (show zyR _ _ _ _ [some (.ref (16 + 3)), some (.int x1), some (.int x2), some (.int x3)] [.int (1 : Int32), .int x1] _ _ from ?_)
    refine zy_3 rfl rfl (show zyR _ _ _ _ [some (.ref (16 + 3)), some (.int x1), some (.int x2), some (.int x3)] [.int (4 : Int32), .int (1 : Int32), .int x1] _ _ from ?_)
    refine zy_2 rfl rfl (show zyR _ _ _ _ [some (.ref (16 + 3)), some (.int x1), some (.int x2), some (.int x3)] [.int x3, .int (4 : Int32), .int (1 : Int32), .int x1] _ _ from ?_)
    refine zy_12 rfl (show zyR _ _ _ _ [some (.ref (16 + 3)), some (.int x1), some (.int x2), some (.int x3)] [.int ((4 : Int32) * x3), .int (1 : Int32), .int x1] _ _ from ?_)
    refine zy_0 rfl rfl (show zyR _ _ _ _ [some (.ref (16 + 3)), some (.int x1), some (.int x2), some (.int x3)] [.ref (16 + 3), .int ((4 : Int32) * x3), .int (1 : Int32), .int x1] _ _ from ?_)
    refine zy_1r (c := 16) rfl rfl rfl (show zyR _ _ _ _ [some (.ref (16 + 3)), some (.int x1), some (.int x2), some (.int x3)] [.ref (1 + 3), .int ((4 : Int32) * x3), .int (1 : Int32), .int x1] _ _ from ?_)
    refine zy_1r (c := 1) rfl rfl rfl (show zyR _ _ _ _ [some (.ref (16 + 3)), some (.int x1), some (.int x2), some (.int x3)] [.ref (3 + 3), .int ((4 : Int32) * x3), .int (1 : Int32), .int x1] _ _ from ?_)
    refine zy_2 rfl rfl (show zyR _ _ _ _ [some (.ref (16 + 3)), some (.int x1), some (.int x2), some (.int x3)] [.int x2, .ref (3 + 3), .int ((4 : Int32) * x3), .int (1 : Int32), .int x1] _ _ from ?_)
    obtain ⟨c1, h⟩ := zy_if h
    refine zy_26 (c := 3) rfl rfl c1 (show zyR _ _ _ _ [some (.ref (16 + 3)), some (.int x1), some (.int x2), some (.int x3)] [.int (s.1 3 (x2).toNatClampNeg), .int ((4 : Int32) * x3), .int (1 : Int32), .int x1] _ _ from ?_)
    refine zy_2 rfl rfl (show zyR _ _ _ _ [some (.ref (16 + 3)), some (.int x1), some (.int x2), some (.int x3)] [.int x3, .int (s.1 3 (x2).toNatClampNeg), .int ((4 : Int32) * x3), .int (1 : Int32), .int x1] _ _ from ?_)
    obtain ⟨p2, hp2, h⟩ := zy_bind h
    refine zy_61 (as := [.int (s.1 3 (x2).toNatClampNeg), .int x3]) (rest := [.int ((4 : Int32) * x3), .int (1 : Int32), .int x1]) (L := [some (.int (s.1 3 (x2).toNatClampNeg)), some (.int x3)]) (d' := 1) rfl rfl (Nat.le_of_ble_eq_true rfl) (Nat.le_of_ble_eq_true rfl) rfl (Nat.le_of_ble_eq_true rfl) rfl rfl (zyC60 hp2) ?_
    show zyR _ _ _ _ [some (.ref (16 + 3)), some (.int x1), some (.int x2), some (.int x3)] [.int p2.1, .int ((4 : Int32) * x3), .int (1 : Int32), .int x1] _ _
    refine zy_10 rfl (show zyR _ _ _ _ [some (.ref (16 + 3)), some (.int x1), some (.int x2), some (.int x3)] [.int (((4 : Int32) * x3) + p2.1), .int (1 : Int32), .int x1] _ _ from ?_)
    refine zy_16 rfl (show zyR _ _ _ _ [some (.ref (16 + 3)), some (.int x1), some (.int x2), some (.int x3)] [.int ((1 : Int32) <<< ((((4 : Int32) * x3) + p2.1) &&& 31)), .int x1] _ _ from ?_)
    refine zy_14 rfl (show zyR _ _ _ _ [some (.ref (16 + 3)), some (.int x1), some (.int x2), some (.int x3)] [.int (x1 ||| ((1 : Int32) <<< ((((4 : Int32) * x3) + p2.1) &&& 31)))] _ _ from ?_)
    refine zy_23 rfl rfl (show zyR _ _ _ _ [some (.ref (16 + 3)), some (.int (x1 ||| ((1 : Int32) <<< ((((4 : Int32) * x3) + p2.1) &&& 31)))), some (.int x2), some (.int x3)] [] _ _ from ?_)
    refine zy_22 rfl rfl rfl rfl (show zyR _ _ _ _ [some (.ref (16 + 3)), some (.int (x1 ||| ((1 : Int32) <<< ((((4 : Int32) * x3) + p2.1) &&& 31)))), some (.int x2), some (.int (x3 + (1 : Int32)))] [] _ _ from ?_)
    refine zy_6 rfl (show zyR _ _ _ _ [some (.ref (16 + 3)), some (.int (x1 ||| ((1 : Int32) <<< ((((4 : Int32) * x3) + p2.1) &&& 31)))), some (.int x2), some (.int (x3 + (1 : Int32)))] [] _ _ from ?_)
    exact zy_sub (show zy_le [some (.ref (16 + 3)), some (.int (x1 ||| ((1 : Int32) <<< ((((4 : Int32) * x3) + p2.1) &&& 31)))), some (.int x2), some (.int (x3 + (1 : Int32)))] [some (.ref (16 + 3)), some (.int (x1 ||| ((1 : Int32) <<< ((((4 : Int32) * x3) + p2.1) &&& 31)))), some (.int x2), some (.int (x3 + (1 : Int32)))] from ⟨rfl, ⟨rfl, ⟨rfl, ⟨rfl, trivial⟩⟩⟩⟩) (hk17 (x1 ||| ((1 : Int32) <<< ((((4 : Int32) * x3) + p2.1) &&& 31))) x2 (x3 + (1 : Int32)) p2.2 _ _ h)
noncomputable def zyF99_17  (k4 : Int32 → Int32 → zy_S → Option (Int32 × zy_S)) (n : Nat) : Int32 → Int32 → Int32 → zy_S → Option (Int32 × zy_S) := Nat.rec (fun _ _ _ _ => none) (fun _ k17 => zyF99_17b k4 k17) n
theorem zyC99_17 {X : zx_X}  {k4 : Int32 → Int32 → zy_S → Option (Int32 × zy_S)}  (hk4 : ∀ (x1 : Int32) (x2 : Int32) (s : zy_S) (r : Int32) (s' : zy_S), k4 x1 x2 s = some (r, s') → zyR X 2 99 4 [some (.ref (16 + 3)), some (.int x1), some (.int x2), none] [] s (zyE (some (.int r)) s')) : ∀ (n : Nat) (x1 : Int32) (x2 : Int32) (x3 : Int32) (s : zy_S) (r : Int32) (s' : zy_S), zyF99_17 k4 n x1 x2 x3 s = some (r, s') → zyR X 2 99 17 [some (.ref (16 + 3)), some (.int x1), some (.int x2), some (.int x3)] [] s (zyE (some (.int r)) s')
  | 0, _, _, _ => by
    intro s r s'  h
    have h : (none : Option (Int32 × zy_S)) = some (r, s') := h
    cases h
  | n + 1, x1, x2, x3 => by
    intro s r s'  h
    exact zyC99_17b (k17 := zyF99_17 k4 n) hk4 (fun x1 x2 x3 s r s'  h => zyC99_17 hk4 n x1 x2 x3 s r s'  h) h
noncomputable def zyF99_4b  (k4 : Int32 → Int32 → zy_S → Option (Int32 × zy_S)) (x1 : Int32) (x2 : Int32) (s : zy_S) : Option (Int32 × zy_S) :=
if (s.1 1 5) ≤ x2 then
some (x1, s)
else
zyF99_17 k4 zy_fu x1 x2 (0 : Int32) s
theorem zyC99_4b {X : zx_X}  {k4 : Int32 → Int32 → zy_S → Option (Int32 × zy_S)}  (hk4 : ∀ (x1 : Int32) (x2 : Int32) (s : zy_S) (r : Int32) (s' : zy_S), k4 x1 x2 s = some (r, s') → zyR X 2 99 4 [some (.ref (16 + 3)), some (.int x1), some (.int x2), none] [] s (zyE (some (.int r)) s')) {x1 : Int32} {x2 : Int32} {s : zy_S} {r : Int32} {s' : zy_S}  (h : zyF99_4b k4 x1 x2 s = some (r, s')) : zyR X 2 99 4 [some (.ref (16 + 3)), some (.int x1), some (.int x2), none] [] s (zyE (some (.int r)) s') := by
  unfold zyF99_4b at h
  refine zy_2 rfl rfl (show zyR _ _ _ _ [some (.ref (16 + 3)), some (.int x1), some (.int x2), none] [.int x2] _ _ from ?_)
  refine zy_0 rfl rfl (show zyR _ _ _ _ [some (.ref (16 + 3)), some (.int x1), some (.int x2), none] [.ref (16 + 3), .int x2] _ _ from ?_)
  refine zy_1r (c := 16) rfl rfl rfl (show zyR _ _ _ _ [some (.ref (16 + 3)), some (.int x1), some (.int x2), none] [.ref (1 + 3), .int x2] _ _ from ?_)
  refine zy_1 (c := 1) rfl rfl rfl (show zyR _ _ _ _ [some (.ref (16 + 3)), some (.int x1), some (.int x2), none] [.int (s.1 1 5), .int x2] _ _ from ?_)
  refine zy_25_3 rfl (fun b4 => (show zyR _ _ _ _ [some (.ref (16 + 3)), some (.int x1), some (.int x2), none] [] _ _ from ?_)) (fun b4 => (show zyR _ _ _ _ [some (.ref (16 + 3)), some (.int x1), some (.int x2), none] [] _ _ from ?_))
  · replace h := zy_ifp h b4
    refine zy_2 rfl rfl (show zyR _ _ _ _ [some (.ref (16 + 3)), some (.int x1), some (.int x2), none] [.int x1] _ _ from ?_)
    cases h
    exact zy_4 rfl ⟨rfl, rfl⟩
  · replace h := zy_ifn h b4
    refine zy_3 rfl rfl (show zyR _ _ _ _ [some (.ref (16 + 3)), some (.int x1), some (.int x2), none] [.int (0 : Int32)] _ _ from ?_)
    refine zy_23 rfl rfl (show zyR _ _ _ _ [some (.ref (16 + 3)), some (.int x1), some (.int x2), some (.int (0 : Int32))] [] _ _ from ?_)
    exact zy_sub (show zy_le [some (.ref (16 + 3)), some (.int x1), some (.int x2), some (.int (0 : Int32))] [some (.ref (16 + 3)), some (.int x1), some (.int x2), some (.int (0 : Int32))] from ⟨rfl, ⟨rfl, ⟨rfl, ⟨rfl, trivial⟩⟩⟩⟩) (zyC99_17 hk4 zy_fu x1 x2 (0 : Int32) s _ _ h)
noncomputable def zyF99_4   (n : Nat) : Int32 → Int32 → zy_S → Option (Int32 × zy_S) := Nat.rec (fun _ _ _ => none) (fun _ k4 => zyF99_4b k4) n
theorem zyC99_4 {X : zx_X}     : ∀ (n : Nat) (x1 : Int32) (x2 : Int32) (s : zy_S) (r : Int32) (s' : zy_S), zyF99_4 n x1 x2 s = some (r, s') → zyR X 2 99 4 [some (.ref (16 + 3)), some (.int x1), some (.int x2), none] [] s (zyE (some (.int r)) s')
  | 0, _, _ => by
    intro s r s'  h
    have h : (none : Option (Int32 × zy_S)) = some (r, s') := h
    cases h
  | n + 1, x1, x2 => by
    intro s r s'  h
    exact zyC99_4b (k4 := zyF99_4 n) (fun x1 x2 s r s'  h => zyC99_4  n x1 x2 s r s'  h) h
noncomputable def zyF99    (s : zy_S) : Option (Int32 × zy_S) :=
zyF99_4 zy_fu (0 : Int32) (0 : Int32) s
theorem zyC99 {X : zx_X}      {s : zy_S} {r : Int32} {s' : zy_S}  (h : zyF99 s = some (r, s')) : zyR X 2 99 0 [some (.ref (16 + 3)), none, none, none] [] s (zyE (some (.int r)) s') := by
  unfold zyF99 at h
  refine zy_3 rfl rfl (show zyR _ _ _ _ [some (.ref (16 + 3)), none, none, none] [.int (0 : Int32)] _ _ from ?_)
  refine zy_23 rfl rfl (show zyR _ _ _ _ [some (.ref (16 + 3)), some (.int (0 : Int32)), none, none] [] _ _ from ?_)
  refine zy_3 rfl rfl (show zyR _ _ _ _ [some (.ref (16 + 3)), some (.int (0 : Int32)), none, none] [.int (0 : Int32)] _ _ from ?_)
  refine zy_23 rfl rfl (show zyR _ _ _ _ [some (.ref (16 + 3)), some (.int (0 : Int32)), some (.int (0 : Int32)), none] [] _ _ from ?_)
  exact zy_sub (show zy_le [some (.ref (16 + 3)), some (.int (0 : Int32)), some (.int (0 : Int32)), none] [some (.ref (16 + 3)), some (.int (0 : Int32)), some (.int (0 : Int32)), none] from ⟨rfl, ⟨rfl, ⟨rfl, trivial⟩⟩⟩) (zyC99_4 zy_fu (0 : Int32) (0 : Int32) s _ _ h)
/-! NineOpinions.lines(I)I -/
noncomputable def zyF93   (x1 : Int32) (s : zy_S) : Option (Int32 × zy_S) :=
if x1 = (0 : Int32) then
(zyF94 s).bind fun p1 =>
some (p1.1, p1.2)
else
if x1 = (1 : Int32) then
(zyF99 s).bind fun p3 =>
some (((s.1 1 3) &&& (p3.1 ^^^ (-1 : Int32))), p3.2)
else
if x1 = (2 : Int32) then
(zyF99 s).bind fun p5 =>
some ((p5.1 &&& ((p5.2.1 1 3) ^^^ (-1 : Int32))), p5.2)
else
some ((-1 : Int32), s)
theorem zyC93 {X : zx_X}     {x1 : Int32} {s : zy_S} {r : Int32} {s' : zy_S}  (h : zyF93 x1 s = some (r, s')) : zyR X 5 93 0 [some (.ref (0 + 3)), some (.int x1)] [] s (zyE (some (.int r)) s') := by
  unfold zyF93 at h
  refine zy_2 rfl rfl (show zyR _ _ _ _ [some (.ref (0 + 3)), some (.int x1)] [.int x1] _ _ from ?_)
  refine zy_50 rfl (by decide) ?_
  refine zy_swp (fun b2 => (show zyR _ _ _ _ [some (.ref (0 + 3)), some (.int x1)] [] _ _ from ?_)) (fun b2 => ?_)
  · replace h := zy_ifp h b2
    refine zy_0 rfl rfl (show zyR _ _ _ _ [some (.ref (0 + 3)), some (.int x1)] [.ref (0 + 3)] _ _ from ?_)
    refine zy_1r (c := 0) rfl rfl rfl (show zyR _ _ _ _ [some (.ref (0 + 3)), some (.int x1)] [.ref (16 + 3)] _ _ from ?_)
    obtain ⟨p1, hp1, h⟩ := zy_bind h
    refine zy_5 (c := 16) (as := []) (rest := []) (L := [some (.ref (16 + 3)), none, none, none]) (d' := 4) rfl rfl rfl (Nat.le_of_ble_eq_true rfl) (Nat.le_of_ble_eq_true rfl) rfl (Nat.le_of_ble_eq_true rfl) rfl rfl (zyC94 hp1) ?_
    show zyR _ _ _ _ [some (.ref (0 + 3)), some (.int x1)] [.int p1.1] _ _
    cases h
    exact zy_4 rfl ⟨rfl, rfl⟩
  replace h := zy_ifn h b2
  refine zy_swp (fun b4 => (show zyR _ _ _ _ [some (.ref (0 + 3)), some (.int x1)] [] _ _ from ?_)) (fun b4 => ?_)
  · replace h := zy_ifp h b4
    refine zy_0 rfl rfl (show zyR _ _ _ _ [some (.ref (0 + 3)), some (.int x1)] [.ref (0 + 3)] _ _ from ?_)
    refine zy_1r (c := 0) rfl rfl rfl (show zyR _ _ _ _ [some (.ref (0 + 3)), some (.int x1)] [.ref (1 + 3)] _ _ from ?_)
    refine zy_1 (c := 1) rfl rfl rfl (show zyR _ _ _ _ [some (.ref (0 + 3)), some (.int x1)] [.int (s.1 1 3)] _ _ from ?_)
    refine zy_0 rfl rfl (show zyR _ _ _ _ [some (.ref (0 + 3)), some (.int x1)] [.ref (0 + 3), .int (s.1 1 3)] _ _ from ?_)
    refine zy_1r (c := 0) rfl rfl rfl (show zyR _ _ _ _ [some (.ref (0 + 3)), some (.int x1)] [.ref (16 + 3), .int (s.1 1 3)] _ _ from ?_)
    obtain ⟨p3, hp3, h⟩ := zy_bind h
    refine zy_5 (c := 16) (as := []) (rest := [.int (s.1 1 3)]) (L := [some (.ref (16 + 3)), none, none, none]) (d' := 2) rfl rfl rfl (Nat.le_of_ble_eq_true rfl) (Nat.le_of_ble_eq_true rfl) rfl (Nat.le_of_ble_eq_true rfl) rfl rfl (zyC99 hp3) ?_
    show zyR _ _ _ _ [some (.ref (0 + 3)), some (.int x1)] [.int p3.1, .int (s.1 1 3)] _ _
    refine zy_3 rfl rfl (show zyR _ _ _ _ [some (.ref (0 + 3)), some (.int x1)] [.int (-1 : Int32), .int p3.1, .int (s.1 1 3)] _ _ from ?_)
    refine zy_15 rfl (show zyR _ _ _ _ [some (.ref (0 + 3)), some (.int x1)] [.int (p3.1 ^^^ (-1 : Int32)), .int (s.1 1 3)] _ _ from ?_)
    refine zy_13 rfl (show zyR _ _ _ _ [some (.ref (0 + 3)), some (.int x1)] [.int ((s.1 1 3) &&& (p3.1 ^^^ (-1 : Int32)))] _ _ from ?_)
    cases h
    exact zy_4 rfl ⟨rfl, rfl⟩
  replace h := zy_ifn h b4
  refine zy_swp (fun b6 => (show zyR _ _ _ _ [some (.ref (0 + 3)), some (.int x1)] [] _ _ from ?_)) (fun b6 => ?_)
  · replace h := zy_ifp h b6
    refine zy_0 rfl rfl (show zyR _ _ _ _ [some (.ref (0 + 3)), some (.int x1)] [.ref (0 + 3)] _ _ from ?_)
    refine zy_1r (c := 0) rfl rfl rfl (show zyR _ _ _ _ [some (.ref (0 + 3)), some (.int x1)] [.ref (16 + 3)] _ _ from ?_)
    obtain ⟨p5, hp5, h⟩ := zy_bind h
    refine zy_5 (c := 16) (as := []) (rest := []) (L := [some (.ref (16 + 3)), none, none, none]) (d' := 2) rfl rfl rfl (Nat.le_of_ble_eq_true rfl) (Nat.le_of_ble_eq_true rfl) rfl (Nat.le_of_ble_eq_true rfl) rfl rfl (zyC99 hp5) ?_
    show zyR _ _ _ _ [some (.ref (0 + 3)), some (.int x1)] [.int p5.1] _ _
    refine zy_0 rfl rfl (show zyR _ _ _ _ [some (.ref (0 + 3)), some (.int x1)] [.ref (0 + 3), .int p5.1] _ _ from ?_)
    refine zy_1r (c := 0) rfl rfl rfl (show zyR _ _ _ _ [some (.ref (0 + 3)), some (.int x1)] [.ref (1 + 3), .int p5.1] _ _ from ?_)
    refine zy_1 (c := 1) rfl rfl rfl (show zyR _ _ _ _ [some (.ref (0 + 3)), some (.int x1)] [.int (p5.2.1 1 3), .int p5.1] _ _ from ?_)
    refine zy_3 rfl rfl (show zyR _ _ _ _ [some (.ref (0 + 3)), some (.int x1)] [.int (-1 : Int32), .int (p5.2.1 1 3), .int p5.1] _ _ from ?_)
    refine zy_15 rfl (show zyR _ _ _ _ [some (.ref (0 + 3)), some (.int x1)] [.int ((p5.2.1 1 3) ^^^ (-1 : Int32)), .int p5.1] _ _ from ?_)
    refine zy_13 rfl (show zyR _ _ _ _ [some (.ref (0 + 3)), some (.int x1)] [.int (p5.1 &&& ((p5.2.1 1 3) ^^^ (-1 : Int32)))] _ _ from ?_)
    cases h
    exact zy_4 rfl ⟨rfl, rfl⟩
  replace h := zy_ifn h b6
  show zyR _ _ _ _ [some (.ref (0 + 3)), some (.int x1)] [] _ _
  refine zy_3 rfl rfl (show zyR _ _ _ _ [some (.ref (0 + 3)), some (.int x1)] [.int (-1 : Int32)] _ _ from ?_)
  cases h
  exact zy_4 rfl ⟨rfl, rfl⟩
/-! NineOpinionsModel.mayStrike(II)Z -/
noncomputable def zyF221_66  (k8 : Int32 → Int32 → Int32 → Int32 → Int32 → zy_S → Option (Int32 × zy_S)) (x1 : Int32) (x2 : Int32) (x4 : Int32) (x5 : Int32) (y0 : Int32) (y1 : Int32) (s : zy_S) : Option (Int32 × zy_S) :=
k8 x1 x2 (y1 + y0) x4 (x5 + (1 : Int32)) s
theorem zyC221_66 {X : zx_X}  {k8 : Int32 → Int32 → Int32 → Int32 → Int32 → zy_S → Option (Int32 × zy_S)}  (hk8 : ∀ (x1 : Int32) (x2 : Int32) (x3 : Int32) (x4 : Int32) (x5 : Int32) (s : zy_S) (r : Int32) (s' : zy_S), k8 x1 x2 x3 x4 x5 s = some (r, s') → zyR X 4 221 8 [some (.ref (43 + 3)), some (.int x1), some (.int x2), some (.int x3), some (.int x4), some (.int x5)] [] s (zyE (some (.int r)) s')) {x1 : Int32} {x2 : Int32} {x4 : Int32} {x5 : Int32} {y0 : Int32} {y1 : Int32} {s : zy_S} {r : Int32} {s' : zy_S}  (h : zyF221_66 k8 x1 x2 x4 x5 y0 y1 s = some (r, s')) : zyR X 4 221 66 [some (.ref (43 + 3)), some (.int x1), some (.int x2), none, some (.int x4), some (.int x5)] [.int y0, .int y1] s (zyE (some (.int r)) s') := by
  unfold zyF221_66 at h
  refine zy_10 rfl (show zyR _ _ _ _ [some (.ref (43 + 3)), some (.int x1), some (.int x2), none, some (.int x4), some (.int x5)] [.int (y1 + y0)] _ _ from ?_)
  refine zy_23 rfl rfl (show zyR _ _ _ _ [some (.ref (43 + 3)), some (.int x1), some (.int x2), some (.int (y1 + y0)), some (.int x4), some (.int x5)] [] _ _ from ?_)
  refine zy_22 rfl rfl rfl rfl (show zyR _ _ _ _ [some (.ref (43 + 3)), some (.int x1), some (.int x2), some (.int (y1 + y0)), some (.int x4), some (.int (x5 + (1 : Int32)))] [] _ _ from ?_)
  refine zy_6 rfl (show zyR _ _ _ _ [some (.ref (43 + 3)), some (.int x1), some (.int x2), some (.int (y1 + y0)), some (.int x4), some (.int (x5 + (1 : Int32)))] [] _ _ from ?_)
  exact zy_sub (show zy_le [some (.ref (43 + 3)), some (.int x1), some (.int x2), some (.int (y1 + y0)), some (.int x4), some (.int (x5 + (1 : Int32)))] [some (.ref (43 + 3)), some (.int x1), some (.int x2), some (.int (y1 + y0)), some (.int x4), some (.int (x5 + (1 : Int32)))] from ⟨rfl, ⟨rfl, ⟨rfl, ⟨rfl, ⟨rfl, ⟨rfl, trivial⟩⟩⟩⟩⟩⟩) (hk8 x1 x2 (y1 + y0) x4 (x5 + (1 : Int32)) s _ _ h)
noncomputable def zyF221_52  (k8 : Int32 → Int32 → Int32 → Int32 → Int32 → zy_S → Option (Int32 × zy_S)) (x1 : Int32) (x2 : Int32) (x4 : Int32) (x5 : Int32) (y0 : Int32) (s : zy_S) : Option (Int32 × zy_S) :=
if zy_in ((8 : Int32) + x5) 41 then
zyF221_66 k8 x1 x2 x4 x5 (s.1 44 (((8 : Int32) + x5)).toNatClampNeg) y0 s
else none
theorem zyC221_52 {X : zx_X}  {k8 : Int32 → Int32 → Int32 → Int32 → Int32 → zy_S → Option (Int32 × zy_S)}  (hk8 : ∀ (x1 : Int32) (x2 : Int32) (x3 : Int32) (x4 : Int32) (x5 : Int32) (s : zy_S) (r : Int32) (s' : zy_S), k8 x1 x2 x3 x4 x5 s = some (r, s') → zyR X 4 221 8 [some (.ref (43 + 3)), some (.int x1), some (.int x2), some (.int x3), some (.int x4), some (.int x5)] [] s (zyE (some (.int r)) s')) {x1 : Int32} {x2 : Int32} {x4 : Int32} {x5 : Int32} {y0 : Int32} {s : zy_S} {r : Int32} {s' : zy_S}  (h : zyF221_52 k8 x1 x2 x4 x5 y0 s = some (r, s')) : zyR X 4 221 52 [some (.ref (43 + 3)), some (.int x1), some (.int x2), none, some (.int x4), some (.int x5)] [.int y0] s (zyE (some (.int r)) s') := by
  unfold zyF221_52 at h
  refine zy_0 rfl rfl (show zyR _ _ _ _ [some (.ref (43 + 3)), some (.int x1), some (.int x2), none, some (.int x4), some (.int x5)] [.ref (43 + 3), .int y0] _ _ from ?_)
  refine zy_1r (c := 43) rfl rfl rfl (show zyR _ _ _ _ [some (.ref (43 + 3)), some (.int x1), some (.int x2), none, some (.int x4), some (.int x5)] [.ref (44 + 3), .int y0] _ _ from ?_)
  refine zy_3 rfl rfl (show zyR _ _ _ _ [some (.ref (43 + 3)), some (.int x1), some (.int x2), none, some (.int x4), some (.int x5)] [.int (8 : Int32), .ref (44 + 3), .int y0] _ _ from ?_)
  refine zy_2 rfl rfl (show zyR _ _ _ _ [some (.ref (43 + 3)), some (.int x1), some (.int x2), none, some (.int x4), some (.int x5)] [.int x5, .int (8 : Int32), .ref (44 + 3), .int y0] _ _ from ?_)
  refine zy_10 rfl (show zyR _ _ _ _ [some (.ref (43 + 3)), some (.int x1), some (.int x2), none, some (.int x4), some (.int x5)] [.int ((8 : Int32) + x5), .ref (44 + 3), .int y0] _ _ from ?_)
  obtain ⟨c1, h⟩ := zy_if h
  refine zy_26 (c := 44) rfl rfl c1 (show zyR _ _ _ _ [some (.ref (43 + 3)), some (.int x1), some (.int x2), none, some (.int x4), some (.int x5)] [.int (s.1 44 (((8 : Int32) + x5)).toNatClampNeg), .int y0] _ _ from ?_)
  refine zy_6 rfl (show zyR _ _ _ _ [some (.ref (43 + 3)), some (.int x1), some (.int x2), none, some (.int x4), some (.int x5)] [.int (s.1 44 (((8 : Int32) + x5)).toNatClampNeg), .int y0] _ _ from ?_)
  exact zy_sub (show zy_le [some (.ref (43 + 3)), some (.int x1), some (.int x2), none, some (.int x4), some (.int x5)] [some (.ref (43 + 3)), some (.int x1), some (.int x2), none, some (.int x4), some (.int x5)] from ⟨rfl, ⟨rfl, ⟨rfl, ⟨rfl, ⟨rfl, trivial⟩⟩⟩⟩⟩) (zyC221_66 hk8 h)
noncomputable def zyF221_8b  (k8 : Int32 → Int32 → Int32 → Int32 → Int32 → zy_S → Option (Int32 × zy_S)) (x1 : Int32) (x2 : Int32) (x3 : Int32) (x4 : Int32) (x5 : Int32) (s : zy_S) : Option (Int32 × zy_S) :=
if (s.1 43 6) ≤ x5 then
if ((2 : Int32) * x3) ≤ x4 then
some ((0 : Int32), s)
else
some ((1 : Int32), s)
else
if zy_in ((8 : Int32) + x5) 41 then
(zyF222 x5 x1 s).bind fun p4 =>
if p4.1 = 0 then
zyF221_52 k8 x1 x2 (x4 + (s.1 44 (((8 : Int32) + x5)).toNatClampNeg)) x5 x3 p4.2
else
(zyF208 x2 x5 p4.2).bind fun p5 =>
if p5.1 = 0 then
zyF221_66 k8 x1 x2 (x4 + (s.1 44 (((8 : Int32) + x5)).toNatClampNeg)) x5 (0 : Int32) x3 p5.2
else
zyF221_52 k8 x1 x2 (x4 + (s.1 44 (((8 : Int32) + x5)).toNatClampNeg)) x5 x3 p5.2
else none
theorem zyC221_8b {X : zx_X}  {k8 : Int32 → Int32 → Int32 → Int32 → Int32 → zy_S → Option (Int32 × zy_S)}  (hk8 : ∀ (x1 : Int32) (x2 : Int32) (x3 : Int32) (x4 : Int32) (x5 : Int32) (s : zy_S) (r : Int32) (s' : zy_S), k8 x1 x2 x3 x4 x5 s = some (r, s') → zyR X 4 221 8 [some (.ref (43 + 3)), some (.int x1), some (.int x2), some (.int x3), some (.int x4), some (.int x5)] [] s (zyE (some (.int r)) s')) {x1 : Int32} {x2 : Int32} {x3 : Int32} {x4 : Int32} {x5 : Int32} {s : zy_S} {r : Int32} {s' : zy_S}  (h : zyF221_8b k8 x1 x2 x3 x4 x5 s = some (r, s')) : zyR X 4 221 8 [some (.ref (43 + 3)), some (.int x1), some (.int x2), some (.int x3), some (.int x4), some (.int x5)] [] s (zyE (some (.int r)) s') := by
  unfold zyF221_8b at h
  refine zy_2 rfl rfl (show zyR _ _ _ _ [some (.ref (43 + 3)), some (.int x1), some (.int x2), some (.int x3), some (.int x4), some (.int x5)] [.int x5] _ _ from ?_)
  refine zy_0 rfl rfl (show zyR _ _ _ _ [some (.ref (43 + 3)), some (.int x1), some (.int x2), some (.int x3), some (.int x4), some (.int x5)] [.ref (43 + 3), .int x5] _ _ from ?_)
  refine zy_1 (c := 43) rfl rfl rfl (show zyR _ _ _ _ [some (.ref (43 + 3)), some (.int x1), some (.int x2), some (.int x3), some (.int x4), some (.int x5)] [.int (s.1 43 6), .int x5] _ _ from ?_)
  refine zy_25_3 rfl (fun b8 => (show zyR _ _ _ _ [some (.ref (43 + 3)), some (.int x1), some (.int x2), some (.int x3), some (.int x4), some (.int x5)] [] _ _ from ?_)) (fun b8 => (show zyR _ _ _ _ [some (.ref (43 + 3)), some (.int x1), some (.int x2), some (.int x3), some (.int x4), some (.int x5)] [] _ _ from ?_))
  · replace h := zy_ifp h b8
    refine zy_3 rfl rfl (show zyR _ _ _ _ [some (.ref (43 + 3)), some (.int x1), some (.int x2), some (.int x3), some (.int x4), some (.int x5)] [.int (2 : Int32)] _ _ from ?_)
    refine zy_2 rfl rfl (show zyR _ _ _ _ [some (.ref (43 + 3)), some (.int x1), some (.int x2), some (.int x3), some (.int x4), some (.int x5)] [.int x3, .int (2 : Int32)] _ _ from ?_)
    refine zy_12 rfl (show zyR _ _ _ _ [some (.ref (43 + 3)), some (.int x1), some (.int x2), some (.int x3), some (.int x4), some (.int x5)] [.int ((2 : Int32) * x3)] _ _ from ?_)
    refine zy_2 rfl rfl (show zyR _ _ _ _ [some (.ref (43 + 3)), some (.int x1), some (.int x2), some (.int x3), some (.int x4), some (.int x5)] [.int x4, .int ((2 : Int32) * x3)] _ _ from ?_)
    refine zy_25_5 rfl (fun b2 => (show zyR _ _ _ _ [some (.ref (43 + 3)), some (.int x1), some (.int x2), some (.int x3), some (.int x4), some (.int x5)] [] _ _ from ?_)) (fun b2 => (show zyR _ _ _ _ [some (.ref (43 + 3)), some (.int x1), some (.int x2), some (.int x3), some (.int x4), some (.int x5)] [] _ _ from ?_))
    · replace h := zy_ifp h b2
      refine zy_3 rfl rfl (show zyR _ _ _ _ [some (.ref (43 + 3)), some (.int x1), some (.int x2), some (.int x3), some (.int x4), some (.int x5)] [.int (0 : Int32)] _ _ from ?_)
      cases h
      exact zy_4b rfl ⟨rfl, rfl⟩ (Or.inl rfl)
    · replace h := zy_ifn h b2
      refine zy_3 rfl rfl (show zyR _ _ _ _ [some (.ref (43 + 3)), some (.int x1), some (.int x2), some (.int x3), some (.int x4), some (.int x5)] [.int (1 : Int32)] _ _ from ?_)
      refine zy_6 rfl (show zyR _ _ _ _ [some (.ref (43 + 3)), some (.int x1), some (.int x2), some (.int x3), some (.int x4), some (.int x5)] [.int (1 : Int32)] _ _ from ?_)
      cases h
      exact zy_4b rfl ⟨rfl, rfl⟩ (Or.inr rfl)
  · replace h := zy_ifn h b8
    refine zy_2 rfl rfl (show zyR _ _ _ _ [some (.ref (43 + 3)), some (.int x1), some (.int x2), some (.int x3), some (.int x4), some (.int x5)] [.int x4] _ _ from ?_)
    refine zy_0 rfl rfl (show zyR _ _ _ _ [some (.ref (43 + 3)), some (.int x1), some (.int x2), some (.int x3), some (.int x4), some (.int x5)] [.ref (43 + 3), .int x4] _ _ from ?_)
    refine zy_1r (c := 43) rfl rfl rfl (show zyR _ _ _ _ [some (.ref (43 + 3)), some (.int x1), some (.int x2), some (.int x3), some (.int x4), some (.int x5)] [.ref (44 + 3), .int x4] _ _ from ?_)
    refine zy_3 rfl rfl (show zyR _ _ _ _ [some (.ref (43 + 3)), some (.int x1), some (.int x2), some (.int x3), some (.int x4), some (.int x5)] [.int (8 : Int32), .ref (44 + 3), .int x4] _ _ from ?_)
    refine zy_2 rfl rfl (show zyR _ _ _ _ [some (.ref (43 + 3)), some (.int x1), some (.int x2), some (.int x3), some (.int x4), some (.int x5)] [.int x5, .int (8 : Int32), .ref (44 + 3), .int x4] _ _ from ?_)
    refine zy_10 rfl (show zyR _ _ _ _ [some (.ref (43 + 3)), some (.int x1), some (.int x2), some (.int x3), some (.int x4), some (.int x5)] [.int ((8 : Int32) + x5), .ref (44 + 3), .int x4] _ _ from ?_)
    obtain ⟨c3, h⟩ := zy_if h
    refine zy_26 (c := 44) rfl rfl c3 (show zyR _ _ _ _ [some (.ref (43 + 3)), some (.int x1), some (.int x2), some (.int x3), some (.int x4), some (.int x5)] [.int (s.1 44 (((8 : Int32) + x5)).toNatClampNeg), .int x4] _ _ from ?_)
    refine zy_10 rfl (show zyR _ _ _ _ [some (.ref (43 + 3)), some (.int x1), some (.int x2), some (.int x3), some (.int x4), some (.int x5)] [.int (x4 + (s.1 44 (((8 : Int32) + x5)).toNatClampNeg))] _ _ from ?_)
    refine zy_23 rfl rfl (show zyR _ _ _ _ [some (.ref (43 + 3)), some (.int x1), some (.int x2), some (.int x3), some (.int (x4 + (s.1 44 (((8 : Int32) + x5)).toNatClampNeg))), some (.int x5)] [] _ _ from ?_)
    refine zy_2 rfl rfl (show zyR _ _ _ _ [some (.ref (43 + 3)), some (.int x1), some (.int x2), some (.int x3), some (.int (x4 + (s.1 44 (((8 : Int32) + x5)).toNatClampNeg))), some (.int x5)] [.int x3] _ _ from ?_)
    refine zy_0 rfl rfl (show zyR _ _ _ _ [some (.ref (43 + 3)), some (.int x1), some (.int x2), some (.int x3), some (.int (x4 + (s.1 44 (((8 : Int32) + x5)).toNatClampNeg))), some (.int x5)] [.ref (43 + 3), .int x3] _ _ from ?_)
    refine zy_2 rfl rfl (show zyR _ _ _ _ [some (.ref (43 + 3)), some (.int x1), some (.int x2), some (.int x3), some (.int (x4 + (s.1 44 (((8 : Int32) + x5)).toNatClampNeg))), some (.int x5)] [.int x5, .ref (43 + 3), .int x3] _ _ from ?_)
    refine zy_2 rfl rfl (show zyR _ _ _ _ [some (.ref (43 + 3)), some (.int x1), some (.int x2), some (.int x3), some (.int (x4 + (s.1 44 (((8 : Int32) + x5)).toNatClampNeg))), some (.int x5)] [.int x1, .int x5, .ref (43 + 3), .int x3] _ _ from ?_)
    obtain ⟨p4, hp4, h⟩ := zy_bind h
    refine zy_5 (c := 43) (as := [.int x5, .int x1]) (rest := [.int x3]) (L := [some (.ref (43 + 3)), some (.int x5), some (.int x1)]) (d' := 3) rfl rfl rfl (Nat.le_of_ble_eq_true rfl) (Nat.le_of_ble_eq_true rfl) rfl (Nat.le_of_ble_eq_true rfl) rfl rfl (zyC222 hp4) ?_
    show zyR _ _ _ _ [some (.ref (43 + 3)), some (.int x1), some (.int x2), some (.int x3), some (.int (x4 + (s.1 44 (((8 : Int32) + x5)).toNatClampNeg))), some (.int x5)] [.int p4.1, .int x3] _ _
    refine zy_24_0 rfl (fun b7 => (show zyR _ _ _ _ [some (.ref (43 + 3)), some (.int x1), some (.int x2), some (.int x3), some (.int (x4 + (s.1 44 (((8 : Int32) + x5)).toNatClampNeg))), some (.int x5)] [.int x3] _ _ from ?_)) (fun b7 => (show zyR _ _ _ _ [some (.ref (43 + 3)), some (.int x1), some (.int x2), some (.int x3), some (.int (x4 + (s.1 44 (((8 : Int32) + x5)).toNatClampNeg))), some (.int x5)] [.int x3] _ _ from ?_))
    · replace h := zy_ifp h b7
      exact zy_sub (show zy_le [some (.ref (43 + 3)), some (.int x1), some (.int x2), none, some (.int (x4 + (s.1 44 (((8 : Int32) + x5)).toNatClampNeg))), some (.int x5)] [some (.ref (43 + 3)), some (.int x1), some (.int x2), some (.int x3), some (.int (x4 + (s.1 44 (((8 : Int32) + x5)).toNatClampNeg))), some (.int x5)] from ⟨rfl, ⟨rfl, ⟨rfl, ⟨rfl, ⟨rfl, trivial⟩⟩⟩⟩⟩) (zyC221_52 hk8 h)
    · replace h := zy_ifn h b7
      refine zy_2 rfl rfl (show zyR _ _ _ _ [some (.ref (43 + 3)), some (.int x1), some (.int x2), some (.int x3), some (.int (x4 + (s.1 44 (((8 : Int32) + x5)).toNatClampNeg))), some (.int x5)] [.int x2, .int x3] _ _ from ?_)
      refine zy_2 rfl rfl (show zyR _ _ _ _ [some (.ref (43 + 3)), some (.int x1), some (.int x2), some (.int x3), some (.int (x4 + (s.1 44 (((8 : Int32) + x5)).toNatClampNeg))), some (.int x5)] [.int x5, .int x2, .int x3] _ _ from ?_)
      obtain ⟨p5, hp5, h⟩ := zy_bind h
      refine zy_60 (as := [.int x2, .int x5]) (rest := [.int x3]) (L := [some (.int x2), some (.int x5)]) (d' := 1) rfl rfl (Nat.le_of_ble_eq_true rfl) (Nat.le_of_ble_eq_true rfl) rfl (Nat.le_of_ble_eq_true rfl) rfl rfl (zyC208 hp5) ?_
      show zyR _ _ _ _ [some (.ref (43 + 3)), some (.int x1), some (.int x2), some (.int x3), some (.int (x4 + (s.1 44 (((8 : Int32) + x5)).toNatClampNeg))), some (.int x5)] [.int p5.1, .int x3] _ _
      refine zy_24_0 rfl (fun b6 => (show zyR _ _ _ _ [some (.ref (43 + 3)), some (.int x1), some (.int x2), some (.int x3), some (.int (x4 + (s.1 44 (((8 : Int32) + x5)).toNatClampNeg))), some (.int x5)] [.int x3] _ _ from ?_)) (fun b6 => (show zyR _ _ _ _ [some (.ref (43 + 3)), some (.int x1), some (.int x2), some (.int x3), some (.int (x4 + (s.1 44 (((8 : Int32) + x5)).toNatClampNeg))), some (.int x5)] [.int x3] _ _ from ?_))
      · replace h := zy_ifp h b6
        refine zy_3 rfl rfl (show zyR _ _ _ _ [some (.ref (43 + 3)), some (.int x1), some (.int x2), some (.int x3), some (.int (x4 + (s.1 44 (((8 : Int32) + x5)).toNatClampNeg))), some (.int x5)] [.int (0 : Int32), .int x3] _ _ from ?_)
        exact zy_sub (show zy_le [some (.ref (43 + 3)), some (.int x1), some (.int x2), none, some (.int (x4 + (s.1 44 (((8 : Int32) + x5)).toNatClampNeg))), some (.int x5)] [some (.ref (43 + 3)), some (.int x1), some (.int x2), some (.int x3), some (.int (x4 + (s.1 44 (((8 : Int32) + x5)).toNatClampNeg))), some (.int x5)] from ⟨rfl, ⟨rfl, ⟨rfl, ⟨rfl, ⟨rfl, trivial⟩⟩⟩⟩⟩) (zyC221_66 hk8 h)
      · replace h := zy_ifn h b6
        exact zy_sub (show zy_le [some (.ref (43 + 3)), some (.int x1), some (.int x2), none, some (.int (x4 + (s.1 44 (((8 : Int32) + x5)).toNatClampNeg))), some (.int x5)] [some (.ref (43 + 3)), some (.int x1), some (.int x2), some (.int x3), some (.int (x4 + (s.1 44 (((8 : Int32) + x5)).toNatClampNeg))), some (.int x5)] from ⟨rfl, ⟨rfl, ⟨rfl, ⟨rfl, ⟨rfl, trivial⟩⟩⟩⟩⟩) (zyC221_52 hk8 h)
noncomputable def zyF221_8   (n : Nat) : Int32 → Int32 → Int32 → Int32 → Int32 → zy_S → Option (Int32 × zy_S) := Nat.rec (fun _ _ _ _ _ _ => none) (fun _ k8 => zyF221_8b k8) n
theorem zyC221_8 {X : zx_X}     : ∀ (n : Nat) (x1 : Int32) (x2 : Int32) (x3 : Int32) (x4 : Int32) (x5 : Int32) (s : zy_S) (r : Int32) (s' : zy_S), zyF221_8 n x1 x2 x3 x4 x5 s = some (r, s') → zyR X 4 221 8 [some (.ref (43 + 3)), some (.int x1), some (.int x2), some (.int x3), some (.int x4), some (.int x5)] [] s (zyE (some (.int r)) s')
  | 0, _, _, _, _, _ => by
    intro s r s'  h
    have h : (none : Option (Int32 × zy_S)) = some (r, s') := h
    cases h
  | n + 1, x1, x2, x3, x4, x5 => by
    intro s r s'  h
    exact zyC221_8b (k8 := zyF221_8 n) (fun x1 x2 x3 x4 x5 s r s'  h => zyC221_8  n x1 x2 x3 x4 x5 s r s'  h) h
noncomputable def zyF221   (x1 : Int32) (x2 : Int32) (s : zy_S) : Option (Int32 × zy_S) :=
zyF221_8 zy_fu x1 x2 (0 : Int32) (0 : Int32) (0 : Int32) s
theorem zyC221 {X : zx_X}     {x1 : Int32} {x2 : Int32} {s : zy_S} {r : Int32} {s' : zy_S}  (h : zyF221 x1 x2 s = some (r, s')) : zyR X 4 221 0 [some (.ref (43 + 3)), some (.int x1), some (.int x2), none, none, none] [] s (zyE (some (.int r)) s') := by
  unfold zyF221 at h
  refine zy_3 rfl rfl (show zyR _ _ _ _ [some (.ref (43 + 3)), some (.int x1), some (.int x2), none, none, none] [.int (0 : Int32)] _ _ from ?_)
  refine zy_23 rfl rfl (show zyR _ _ _ _ [some (.ref (43 + 3)), some (.int x1), some (.int x2), some (.int (0 : Int32)), none, none] [] _ _ from ?_)
  refine zy_3 rfl rfl (show zyR _ _ _ _ [some (.ref (43 + 3)), some (.int x1), some (.int x2), some (.int (0 : Int32)), none, none] [.int (0 : Int32)] _ _ from ?_)
  refine zy_23 rfl rfl (show zyR _ _ _ _ [some (.ref (43 + 3)), some (.int x1), some (.int x2), some (.int (0 : Int32)), some (.int (0 : Int32)), none] [] _ _ from ?_)
  refine zy_3 rfl rfl (show zyR _ _ _ _ [some (.ref (43 + 3)), some (.int x1), some (.int x2), some (.int (0 : Int32)), some (.int (0 : Int32)), none] [.int (0 : Int32)] _ _ from ?_)
  refine zy_23 rfl rfl (show zyR _ _ _ _ [some (.ref (43 + 3)), some (.int x1), some (.int x2), some (.int (0 : Int32)), some (.int (0 : Int32)), some (.int (0 : Int32))] [] _ _ from ?_)
  exact zy_sub (show zy_le [some (.ref (43 + 3)), some (.int x1), some (.int x2), some (.int (0 : Int32)), some (.int (0 : Int32)), some (.int (0 : Int32))] [some (.ref (43 + 3)), some (.int x1), some (.int x2), some (.int (0 : Int32)), some (.int (0 : Int32)), some (.int (0 : Int32))] from ⟨rfl, ⟨rfl, ⟨rfl, ⟨rfl, ⟨rfl, ⟨rfl, trivial⟩⟩⟩⟩⟩⟩) (zyC221_8 zy_fu x1 x2 (0 : Int32) (0 : Int32) (0 : Int32) s _ _ h)
/-! NineOpinionsModel.believers(I)I -/
noncomputable def zyF223_29  (k4 : Int32 → Int32 → Int32 → zy_S → Option (Int32 × zy_S)) (x1 : Int32) (x3 : Int32) (y0 : Int32) (y1 : Int32) (s : zy_S) : Option (Int32 × zy_S) :=
k4 x1 (y1 ||| y0) (x3 + (1 : Int32)) s
theorem zyC223_29 {X : zx_X}  {k4 : Int32 → Int32 → Int32 → zy_S → Option (Int32 × zy_S)}  (hk4 : ∀ (x1 : Int32) (x2 : Int32) (x3 : Int32) (s : zy_S) (r : Int32) (s' : zy_S), k4 x1 x2 x3 s = some (r, s') → zyR X 4 223 4 [some (.ref (43 + 3)), some (.int x1), some (.int x2), some (.int x3)] [] s (zyE (some (.int r)) s')) {x1 : Int32} {x3 : Int32} {y0 : Int32} {y1 : Int32} {s : zy_S} {r : Int32} {s' : zy_S}  (h : zyF223_29 k4 x1 x3 y0 y1 s = some (r, s')) : zyR X 4 223 29 [some (.ref (43 + 3)), some (.int x1), none, some (.int x3)] [.int y0, .int y1] s (zyE (some (.int r)) s') := by
  unfold zyF223_29 at h
  refine zy_14 rfl (show zyR _ _ _ _ [some (.ref (43 + 3)), some (.int x1), none, some (.int x3)] [.int (y1 ||| y0)] _ _ from ?_)
  refine zy_23 rfl rfl (show zyR _ _ _ _ [some (.ref (43 + 3)), some (.int x1), some (.int (y1 ||| y0)), some (.int x3)] [] _ _ from ?_)
  refine zy_22 rfl rfl rfl rfl (show zyR _ _ _ _ [some (.ref (43 + 3)), some (.int x1), some (.int (y1 ||| y0)), some (.int (x3 + (1 : Int32)))] [] _ _ from ?_)
  refine zy_6 rfl (show zyR _ _ _ _ [some (.ref (43 + 3)), some (.int x1), some (.int (y1 ||| y0)), some (.int (x3 + (1 : Int32)))] [] _ _ from ?_)
  exact zy_sub (show zy_le [some (.ref (43 + 3)), some (.int x1), some (.int (y1 ||| y0)), some (.int (x3 + (1 : Int32)))] [some (.ref (43 + 3)), some (.int x1), some (.int (y1 ||| y0)), some (.int (x3 + (1 : Int32)))] from ⟨rfl, ⟨rfl, ⟨rfl, ⟨rfl, trivial⟩⟩⟩⟩) (hk4 x1 (y1 ||| y0) (x3 + (1 : Int32)) s _ _ h)
noncomputable def zyF223_4b  (k4 : Int32 → Int32 → Int32 → zy_S → Option (Int32 × zy_S)) (x1 : Int32) (x2 : Int32) (x3 : Int32) (s : zy_S) : Option (Int32 × zy_S) :=
if (s.1 43 6) ≤ x3 then
some (x2, s)
else
(zyF222 x3 x1 s).bind fun p1 =>
if p1.1 = 0 then
zyF223_29 k4 x1 x3 (0 : Int32) x2 p1.2
else
zyF223_29 k4 x1 x3 ((1 : Int32) <<< (x3 &&& 31)) x2 p1.2
theorem zyC223_4b {X : zx_X}  {k4 : Int32 → Int32 → Int32 → zy_S → Option (Int32 × zy_S)}  (hk4 : ∀ (x1 : Int32) (x2 : Int32) (x3 : Int32) (s : zy_S) (r : Int32) (s' : zy_S), k4 x1 x2 x3 s = some (r, s') → zyR X 4 223 4 [some (.ref (43 + 3)), some (.int x1), some (.int x2), some (.int x3)] [] s (zyE (some (.int r)) s')) {x1 : Int32} {x2 : Int32} {x3 : Int32} {s : zy_S} {r : Int32} {s' : zy_S}  (h : zyF223_4b k4 x1 x2 x3 s = some (r, s')) : zyR X 4 223 4 [some (.ref (43 + 3)), some (.int x1), some (.int x2), some (.int x3)] [] s (zyE (some (.int r)) s') := by
  unfold zyF223_4b at h
  refine zy_2 rfl rfl (show zyR _ _ _ _ [some (.ref (43 + 3)), some (.int x1), some (.int x2), some (.int x3)] [.int x3] _ _ from ?_)
  refine zy_0 rfl rfl (show zyR _ _ _ _ [some (.ref (43 + 3)), some (.int x1), some (.int x2), some (.int x3)] [.ref (43 + 3), .int x3] _ _ from ?_)
  refine zy_1 (c := 43) rfl rfl rfl (show zyR _ _ _ _ [some (.ref (43 + 3)), some (.int x1), some (.int x2), some (.int x3)] [.int (s.1 43 6), .int x3] _ _ from ?_)
  refine zy_25_3 rfl (fun b3 => (show zyR _ _ _ _ [some (.ref (43 + 3)), some (.int x1), some (.int x2), some (.int x3)] [] _ _ from ?_)) (fun b3 => (show zyR _ _ _ _ [some (.ref (43 + 3)), some (.int x1), some (.int x2), some (.int x3)] [] _ _ from ?_))
  · replace h := zy_ifp h b3
    refine zy_2 rfl rfl (show zyR _ _ _ _ [some (.ref (43 + 3)), some (.int x1), some (.int x2), some (.int x3)] [.int x2] _ _ from ?_)
    cases h
    exact zy_4 rfl ⟨rfl, rfl⟩
  · replace h := zy_ifn h b3
    refine zy_2 rfl rfl (show zyR _ _ _ _ [some (.ref (43 + 3)), some (.int x1), some (.int x2), some (.int x3)] [.int x2] _ _ from ?_)
    refine zy_0 rfl rfl (show zyR _ _ _ _ [some (.ref (43 + 3)), some (.int x1), some (.int x2), some (.int x3)] [.ref (43 + 3), .int x2] _ _ from ?_)
    refine zy_2 rfl rfl (show zyR _ _ _ _ [some (.ref (43 + 3)), some (.int x1), some (.int x2), some (.int x3)] [.int x3, .ref (43 + 3), .int x2] _ _ from ?_)
    refine zy_2 rfl rfl (show zyR _ _ _ _ [some (.ref (43 + 3)), some (.int x1), some (.int x2), some (.int x3)] [.int x1, .int x3, .ref (43 + 3), .int x2] _ _ from ?_)
    obtain ⟨p1, hp1, h⟩ := zy_bind h
    refine zy_5 (c := 43) (as := [.int x3, .int x1]) (rest := [.int x2]) (L := [some (.ref (43 + 3)), some (.int x3), some (.int x1)]) (d' := 3) rfl rfl rfl (Nat.le_of_ble_eq_true rfl) (Nat.le_of_ble_eq_true rfl) rfl (Nat.le_of_ble_eq_true rfl) rfl rfl (zyC222 hp1) ?_
    show zyR _ _ _ _ [some (.ref (43 + 3)), some (.int x1), some (.int x2), some (.int x3)] [.int p1.1, .int x2] _ _
    refine zy_24_0 rfl (fun b2 => (show zyR _ _ _ _ [some (.ref (43 + 3)), some (.int x1), some (.int x2), some (.int x3)] [.int x2] _ _ from ?_)) (fun b2 => (show zyR _ _ _ _ [some (.ref (43 + 3)), some (.int x1), some (.int x2), some (.int x3)] [.int x2] _ _ from ?_))
    · replace h := zy_ifp h b2
      refine zy_3 rfl rfl (show zyR _ _ _ _ [some (.ref (43 + 3)), some (.int x1), some (.int x2), some (.int x3)] [.int (0 : Int32), .int x2] _ _ from ?_)
      exact zy_sub (show zy_le [some (.ref (43 + 3)), some (.int x1), none, some (.int x3)] [some (.ref (43 + 3)), some (.int x1), some (.int x2), some (.int x3)] from ⟨rfl, ⟨rfl, ⟨rfl, trivial⟩⟩⟩) (zyC223_29 hk4 h)
    · replace h := zy_ifn h b2
      refine zy_3 rfl rfl (show zyR _ _ _ _ [some (.ref (43 + 3)), some (.int x1), some (.int x2), some (.int x3)] [.int (1 : Int32), .int x2] _ _ from ?_)
      refine zy_2 rfl rfl (show zyR _ _ _ _ [some (.ref (43 + 3)), some (.int x1), some (.int x2), some (.int x3)] [.int x3, .int (1 : Int32), .int x2] _ _ from ?_)
      refine zy_16 rfl (show zyR _ _ _ _ [some (.ref (43 + 3)), some (.int x1), some (.int x2), some (.int x3)] [.int ((1 : Int32) <<< (x3 &&& 31)), .int x2] _ _ from ?_)
      refine zy_6 rfl (show zyR _ _ _ _ [some (.ref (43 + 3)), some (.int x1), some (.int x2), some (.int x3)] [.int ((1 : Int32) <<< (x3 &&& 31)), .int x2] _ _ from ?_)
      exact zy_sub (show zy_le [some (.ref (43 + 3)), some (.int x1), none, some (.int x3)] [some (.ref (43 + 3)), some (.int x1), some (.int x2), some (.int x3)] from ⟨rfl, ⟨rfl, ⟨rfl, trivial⟩⟩⟩) (zyC223_29 hk4 h)
noncomputable def zyF223_4   (n : Nat) : Int32 → Int32 → Int32 → zy_S → Option (Int32 × zy_S) := Nat.rec (fun _ _ _ _ => none) (fun _ k4 => zyF223_4b k4) n
theorem zyC223_4 {X : zx_X}     : ∀ (n : Nat) (x1 : Int32) (x2 : Int32) (x3 : Int32) (s : zy_S) (r : Int32) (s' : zy_S), zyF223_4 n x1 x2 x3 s = some (r, s') → zyR X 4 223 4 [some (.ref (43 + 3)), some (.int x1), some (.int x2), some (.int x3)] [] s (zyE (some (.int r)) s')
  | 0, _, _, _ => by
    intro s r s'  h
    have h : (none : Option (Int32 × zy_S)) = some (r, s') := h
    cases h
  | n + 1, x1, x2, x3 => by
    intro s r s'  h
    exact zyC223_4b (k4 := zyF223_4 n) (fun x1 x2 x3 s r s'  h => zyC223_4  n x1 x2 x3 s r s'  h) h
noncomputable def zyF223   (x1 : Int32) (s : zy_S) : Option (Int32 × zy_S) :=
zyF223_4 zy_fu x1 (0 : Int32) (0 : Int32) s
theorem zyC223 {X : zx_X}     {x1 : Int32} {s : zy_S} {r : Int32} {s' : zy_S}  (h : zyF223 x1 s = some (r, s')) : zyR X 4 223 0 [some (.ref (43 + 3)), some (.int x1), none, none] [] s (zyE (some (.int r)) s') := by
  unfold zyF223 at h
  refine zy_3 rfl rfl (show zyR _ _ _ _ [some (.ref (43 + 3)), some (.int x1), none, none] [.int (0 : Int32)] _ _ from ?_)
  refine zy_23 rfl rfl (show zyR _ _ _ _ [some (.ref (43 + 3)), some (.int x1), some (.int (0 : Int32)), none] [] _ _ from ?_)
  refine zy_3 rfl rfl (show zyR _ _ _ _ [some (.ref (43 + 3)), some (.int x1), some (.int (0 : Int32)), none] [.int (0 : Int32)] _ _ from ?_)
  refine zy_23 rfl rfl (show zyR _ _ _ _ [some (.ref (43 + 3)), some (.int x1), some (.int (0 : Int32)), some (.int (0 : Int32))] [] _ _ from ?_)
  exact zy_sub (show zy_le [some (.ref (43 + 3)), some (.int x1), some (.int (0 : Int32)), some (.int (0 : Int32))] [some (.ref (43 + 3)), some (.int x1), some (.int (0 : Int32)), some (.int (0 : Int32))] from ⟨rfl, ⟨rfl, ⟨rfl, ⟨rfl, trivial⟩⟩⟩⟩) (zyC223_4 zy_fu x1 (0 : Int32) (0 : Int32) s _ _ h)
/-! NineOpinionsModel.lines(I)I -/
noncomputable def zyF220_127  (k18 : Int32 → Int32 → Int32 → zy_S → Option (Int32 × zy_S)) (x1 : Int32) (x3 : Int32) (y0 : Int32) (y1 : Int32) (s : zy_S) : Option (Int32 × zy_S) :=
k18 x1 (y1 ||| y0) (x3 + (1 : Int32)) s
theorem zyC220_127 {X : zx_X}  {k18 : Int32 → Int32 → Int32 → zy_S → Option (Int32 × zy_S)}  (hk18 : ∀ (x1 : Int32) (x2 : Int32) (x3 : Int32) (s : zy_S) (r : Int32) (s' : zy_S), k18 x1 x2 x3 s = some (r, s') → zyR X 5 220 18 [some (.ref (43 + 3)), some (.int x1), some (.int x2), some (.int x3), none] [] s (zyE (some (.int r)) s')) {x1 : Int32} {x3 : Int32} {y0 : Int32} {y1 : Int32} {s : zy_S} {r : Int32} {s' : zy_S}  (h : zyF220_127 k18 x1 x3 y0 y1 s = some (r, s')) : zyR X 5 220 127 [some (.ref (43 + 3)), some (.int x1), none, some (.int x3), none] [.int y0, .int y1] s (zyE (some (.int r)) s') := by
  unfold zyF220_127 at h
  refine zy_14 rfl (show zyR _ _ _ _ [some (.ref (43 + 3)), some (.int x1), none, some (.int x3), none] [.int (y1 ||| y0)] _ _ from ?_)
  refine zy_23 rfl rfl (show zyR _ _ _ _ [some (.ref (43 + 3)), some (.int x1), some (.int (y1 ||| y0)), some (.int x3), none] [] _ _ from ?_)
  refine zy_22 rfl rfl rfl rfl (show zyR _ _ _ _ [some (.ref (43 + 3)), some (.int x1), some (.int (y1 ||| y0)), some (.int (x3 + (1 : Int32))), none] [] _ _ from ?_)
  refine zy_6 rfl (show zyR _ _ _ _ [some (.ref (43 + 3)), some (.int x1), some (.int (y1 ||| y0)), some (.int (x3 + (1 : Int32))), none] [] _ _ from ?_)
  exact zy_sub (show zy_le [some (.ref (43 + 3)), some (.int x1), some (.int (y1 ||| y0)), some (.int (x3 + (1 : Int32))), none] [some (.ref (43 + 3)), some (.int x1), some (.int (y1 ||| y0)), some (.int (x3 + (1 : Int32))), none] from ⟨rfl, ⟨rfl, ⟨rfl, ⟨rfl, trivial⟩⟩⟩⟩) (hk18 x1 (y1 ||| y0) (x3 + (1 : Int32)) s _ _ h)
noncomputable def zyF220_112  (k18 : Int32 → Int32 → Int32 → zy_S → Option (Int32 × zy_S)) (x1 : Int32) (x2 : Int32) (x3 : Int32) (y0 : Int32) (s : zy_S) : Option (Int32 × zy_S) :=
if y0 = 0 then
zyF220_127 k18 x1 x3 (0 : Int32) x2 s
else
zyF220_127 k18 x1 x3 ((1 : Int32) <<< (x3 &&& 31)) x2 s
theorem zyC220_112 {X : zx_X}  {k18 : Int32 → Int32 → Int32 → zy_S → Option (Int32 × zy_S)}  (hk18 : ∀ (x1 : Int32) (x2 : Int32) (x3 : Int32) (s : zy_S) (r : Int32) (s' : zy_S), k18 x1 x2 x3 s = some (r, s') → zyR X 5 220 18 [some (.ref (43 + 3)), some (.int x1), some (.int x2), some (.int x3), none] [] s (zyE (some (.int r)) s')) {x1 : Int32} {x2 : Int32} {x3 : Int32} {y0 : Int32} {s : zy_S} {r : Int32} {s' : zy_S}  (h : zyF220_112 k18 x1 x2 x3 y0 s = some (r, s')) : zyR X 5 220 112 [some (.ref (43 + 3)), some (.int x1), some (.int x2), some (.int x3), none] [.int y0] s (zyE (some (.int r)) s') := by
  unfold zyF220_112 at h
  refine zy_23 rfl rfl (show zyR _ _ _ _ [some (.ref (43 + 3)), some (.int x1), some (.int x2), some (.int x3), some (.int y0)] [] _ _ from ?_)
  refine zy_2 rfl rfl (show zyR _ _ _ _ [some (.ref (43 + 3)), some (.int x1), some (.int x2), some (.int x3), some (.int y0)] [.int x2] _ _ from ?_)
  refine zy_2 rfl rfl (show zyR _ _ _ _ [some (.ref (43 + 3)), some (.int x1), some (.int x2), some (.int x3), some (.int y0)] [.int y0, .int x2] _ _ from ?_)
  refine zy_24_0 rfl (fun b1 => (show zyR _ _ _ _ [some (.ref (43 + 3)), some (.int x1), some (.int x2), some (.int x3), some (.int y0)] [.int x2] _ _ from ?_)) (fun b1 => (show zyR _ _ _ _ [some (.ref (43 + 3)), some (.int x1), some (.int x2), some (.int x3), some (.int y0)] [.int x2] _ _ from ?_))
  · replace h := zy_ifp h b1
    refine zy_3 rfl rfl (show zyR _ _ _ _ [some (.ref (43 + 3)), some (.int x1), some (.int x2), some (.int x3), some (.int y0)] [.int (0 : Int32), .int x2] _ _ from ?_)
    exact zy_sub (show zy_le [some (.ref (43 + 3)), some (.int x1), none, some (.int x3), none] [some (.ref (43 + 3)), some (.int x1), some (.int x2), some (.int x3), some (.int y0)] from ⟨rfl, ⟨rfl, ⟨rfl, trivial⟩⟩⟩) (zyC220_127 hk18 h)
  · replace h := zy_ifn h b1
    refine zy_3 rfl rfl (show zyR _ _ _ _ [some (.ref (43 + 3)), some (.int x1), some (.int x2), some (.int x3), some (.int y0)] [.int (1 : Int32), .int x2] _ _ from ?_)
    refine zy_2 rfl rfl (show zyR _ _ _ _ [some (.ref (43 + 3)), some (.int x1), some (.int x2), some (.int x3), some (.int y0)] [.int x3, .int (1 : Int32), .int x2] _ _ from ?_)
    refine zy_16 rfl (show zyR _ _ _ _ [some (.ref (43 + 3)), some (.int x1), some (.int x2), some (.int x3), some (.int y0)] [.int ((1 : Int32) <<< (x3 &&& 31)), .int x2] _ _ from ?_)
    refine zy_6 rfl (show zyR _ _ _ _ [some (.ref (43 + 3)), some (.int x1), some (.int x2), some (.int x3), some (.int y0)] [.int ((1 : Int32) <<< (x3 &&& 31)), .int x2] _ _ from ?_)
    exact zy_sub (show zy_le [some (.ref (43 + 3)), some (.int x1), none, some (.int x3), none] [some (.ref (43 + 3)), some (.int x1), some (.int x2), some (.int x3), some (.int y0)] from ⟨rfl, ⟨rfl, ⟨rfl, trivial⟩⟩⟩) (zyC220_127 hk18 h)
noncomputable def zyF220_111  (k18 : Int32 → Int32 → Int32 → zy_S → Option (Int32 × zy_S)) (x1 : Int32) (x2 : Int32) (x3 : Int32) (s : zy_S) : Option (Int32 × zy_S) :=
zyF220_112 k18 x1 x2 x3 (0 : Int32) s
theorem zyC220_111 {X : zx_X}  {k18 : Int32 → Int32 → Int32 → zy_S → Option (Int32 × zy_S)}  (hk18 : ∀ (x1 : Int32) (x2 : Int32) (x3 : Int32) (s : zy_S) (r : Int32) (s' : zy_S), k18 x1 x2 x3 s = some (r, s') → zyR X 5 220 18 [some (.ref (43 + 3)), some (.int x1), some (.int x2), some (.int x3), none] [] s (zyE (some (.int r)) s')) {x1 : Int32} {x2 : Int32} {x3 : Int32} {s : zy_S} {r : Int32} {s' : zy_S}  (h : zyF220_111 k18 x1 x2 x3 s = some (r, s')) : zyR X 5 220 111 [some (.ref (43 + 3)), some (.int x1), some (.int x2), some (.int x3), none] [] s (zyE (some (.int r)) s') := by
  unfold zyF220_111 at h
  refine zy_3 rfl rfl (show zyR _ _ _ _ [some (.ref (43 + 3)), some (.int x1), some (.int x2), some (.int x3), none] [.int (0 : Int32)] _ _ from ?_)
  exact zy_sub (show zy_le [some (.ref (43 + 3)), some (.int x1), some (.int x2), some (.int x3), none] [some (.ref (43 + 3)), some (.int x1), some (.int x2), some (.int x3), none] from ⟨rfl, ⟨rfl, ⟨rfl, ⟨rfl, trivial⟩⟩⟩⟩) (zyC220_112 hk18 h)
noncomputable def zyF220_84  (k18 : Int32 → Int32 → Int32 → zy_S → Option (Int32 × zy_S)) (x1 : Int32) (x2 : Int32) (x3 : Int32) (s : zy_S) : Option (Int32 × zy_S) :=
zyF220_112 k18 x1 x2 x3 (0 : Int32) s
theorem zyC220_84 {X : zx_X}  {k18 : Int32 → Int32 → Int32 → zy_S → Option (Int32 × zy_S)}  (hk18 : ∀ (x1 : Int32) (x2 : Int32) (x3 : Int32) (s : zy_S) (r : Int32) (s' : zy_S), k18 x1 x2 x3 s = some (r, s') → zyR X 5 220 18 [some (.ref (43 + 3)), some (.int x1), some (.int x2), some (.int x3), none] [] s (zyE (some (.int r)) s')) {x1 : Int32} {x2 : Int32} {x3 : Int32} {s : zy_S} {r : Int32} {s' : zy_S}  (h : zyF220_84 k18 x1 x2 x3 s = some (r, s')) : zyR X 5 220 84 [some (.ref (43 + 3)), some (.int x1), some (.int x2), some (.int x3), none] [] s (zyE (some (.int r)) s') := by
  unfold zyF220_84 at h
  refine zy_3 rfl rfl (show zyR _ _ _ _ [some (.ref (43 + 3)), some (.int x1), some (.int x2), some (.int x3), none] [.int (0 : Int32)] _ _ from ?_)
  refine zy_6 rfl (show zyR _ _ _ _ [some (.ref (43 + 3)), some (.int x1), some (.int x2), some (.int x3), none] [.int (0 : Int32)] _ _ from ?_)
  exact zy_sub (show zy_le [some (.ref (43 + 3)), some (.int x1), some (.int x2), some (.int x3), none] [some (.ref (43 + 3)), some (.int x1), some (.int x2), some (.int x3), none] from ⟨rfl, ⟨rfl, ⟨rfl, ⟨rfl, trivial⟩⟩⟩⟩) (zyC220_112 hk18 h)
noncomputable def zyF220_52  (k18 : Int32 → Int32 → Int32 → zy_S → Option (Int32 × zy_S)) (x1 : Int32) (x2 : Int32) (x3 : Int32) (s : zy_S) : Option (Int32 × zy_S) :=
zyF220_112 k18 x1 x2 x3 (0 : Int32) s
theorem zyC220_52 {X : zx_X}  {k18 : Int32 → Int32 → Int32 → zy_S → Option (Int32 × zy_S)}  (hk18 : ∀ (x1 : Int32) (x2 : Int32) (x3 : Int32) (s : zy_S) (r : Int32) (s' : zy_S), k18 x1 x2 x3 s = some (r, s') → zyR X 5 220 18 [some (.ref (43 + 3)), some (.int x1), some (.int x2), some (.int x3), none] [] s (zyE (some (.int r)) s')) {x1 : Int32} {x2 : Int32} {x3 : Int32} {s : zy_S} {r : Int32} {s' : zy_S}  (h : zyF220_52 k18 x1 x2 x3 s = some (r, s')) : zyR X 5 220 52 [some (.ref (43 + 3)), some (.int x1), some (.int x2), some (.int x3), none] [] s (zyE (some (.int r)) s') := by
  unfold zyF220_52 at h
  refine zy_3 rfl rfl (show zyR _ _ _ _ [some (.ref (43 + 3)), some (.int x1), some (.int x2), some (.int x3), none] [.int (0 : Int32)] _ _ from ?_)
  refine zy_6 rfl (show zyR _ _ _ _ [some (.ref (43 + 3)), some (.int x1), some (.int x2), some (.int x3), none] [.int (0 : Int32)] _ _ from ?_)
  exact zy_sub (show zy_le [some (.ref (43 + 3)), some (.int x1), some (.int x2), some (.int x3), none] [some (.ref (43 + 3)), some (.int x1), some (.int x2), some (.int x3), none] from ⟨rfl, ⟨rfl, ⟨rfl, ⟨rfl, trivial⟩⟩⟩⟩) (zyC220_112 hk18 h)
noncomputable def zyF220_18b  (k18 : Int32 → Int32 → Int32 → zy_S → Option (Int32 × zy_S)) (x1 : Int32) (x2 : Int32) (x3 : Int32) (s : zy_S) : Option (Int32 × zy_S) :=
if (24 : Int32) ≤ x3 then
some (x2, s)
else
if x1 ≠ 0 then
if x1 ≠ (1 : Int32) then
(zyF208 (s.1 43 7) x3 s).bind fun p2 =>
if p2.1 ≠ 0 then
zyF220_111 k18 x1 x2 x3 p2.2
else
(zyF223 x3 p2.2).bind fun p3 =>
if p3.1 = 0 then
zyF220_111 k18 x1 x2 x3 p3.2
else
zyF220_112 k18 x1 x2 x3 (1 : Int32) p3.2
else
(zyF208 (s.1 43 7) x3 s).bind fun p6 =>
if p6.1 = 0 then
zyF220_84 k18 x1 x2 x3 p6.2
else
(zyF223 x3 p6.2).bind fun p7 =>
if p7.1 ≠ 0 then
zyF220_84 k18 x1 x2 x3 p7.2
else
zyF220_112 k18 x1 x2 x3 (1 : Int32) p7.2
else
(zyF208 (s.1 43 7) x3 s).bind fun p11 =>
if p11.1 = 0 then
zyF220_52 k18 x1 x2 x3 p11.2
else
(zyF221 x3 (0 : Int32) p11.2).bind fun p12 =>
if p12.1 = 0 then
zyF220_52 k18 x1 x2 x3 p12.2
else
zyF220_112 k18 x1 x2 x3 (1 : Int32) p12.2
theorem zyC220_18b {X : zx_X}  {k18 : Int32 → Int32 → Int32 → zy_S → Option (Int32 × zy_S)}  (hk18 : ∀ (x1 : Int32) (x2 : Int32) (x3 : Int32) (s : zy_S) (r : Int32) (s' : zy_S), k18 x1 x2 x3 s = some (r, s') → zyR X 5 220 18 [some (.ref (43 + 3)), some (.int x1), some (.int x2), some (.int x3), none] [] s (zyE (some (.int r)) s')) {x1 : Int32} {x2 : Int32} {x3 : Int32} {s : zy_S} {r : Int32} {s' : zy_S}  (h : zyF220_18b k18 x1 x2 x3 s = some (r, s')) : zyR X 5 220 18 [some (.ref (43 + 3)), some (.int x1), some (.int x2), some (.int x3), none] [] s (zyE (some (.int r)) s') := by
  unfold zyF220_18b at h
  refine zy_2 rfl rfl (show zyR _ _ _ _ [some (.ref (43 + 3)), some (.int x1), some (.int x2), some (.int x3), none] [.int x3] _ _ from ?_)
  refine zy_3 rfl rfl (show zyR _ _ _ _ [some (.ref (43 + 3)), some (.int x1), some (.int x2), some (.int x3), none] [.int (24 : Int32), .int x3] _ _ from ?_)
  refine zy_25_3 rfl (fun b16 => (show zyR _ _ _ _ [some (.ref (43 + 3)), some (.int x1), some (.int x2), some (.int x3), none] [] _ _ from ?_)) (fun b16 => (show zyR _ _ _ _ [some (.ref (43 + 3)), some (.int x1), some (.int x2), some (.int x3), none] [] _ _ from ?_))
  · replace h := zy_ifp h b16
    refine zy_2 rfl rfl (show zyR _ _ _ _ [some (.ref (43 + 3)), some (.int x1), some (.int x2), some (.int x3), none] [.int x2] _ _ from ?_)
    cases h
    exact zy_4 rfl ⟨rfl, rfl⟩
  · replace h := zy_ifn h b16
    refine zy_2 rfl rfl (show zyR _ _ _ _ [some (.ref (43 + 3)), some (.int x1), some (.int x2), some (.int x3), none] [.int x1] _ _ from ?_)
    refine zy_24_1 rfl (fun b15 => (show zyR _ _ _ _ [some (.ref (43 + 3)), some (.int x1), some (.int x2), some (.int x3), none] [] _ _ from ?_)) (fun b15 => (show zyR _ _ _ _ [some (.ref (43 + 3)), some (.int x1), some (.int x2), some (.int x3), none] [] _ _ from ?_))
    · replace h := zy_ifp h b15
      refine zy_2 rfl rfl (show zyR _ _ _ _ [some (.ref (43 + 3)), some (.int x1), some (.int x2), some (.int x3), none] [.int x1] _ _ from ?_)
      refine zy_3 rfl rfl (show zyR _ _ _ _ [some (.ref (43 + 3)), some (.int x1), some (.int x2), some (.int x3), none] [.int (1 : Int32), .int x1] _ _ from ?_)
      refine zy_25_1 rfl (fun b10 => (show zyR _ _ _ _ [some (.ref (43 + 3)), some (.int x1), some (.int x2), some (.int x3), none] [] _ _ from ?_)) (fun b10 => (show zyR _ _ _ _ [some (.ref (43 + 3)), some (.int x1), some (.int x2), some (.int x3), none] [] _ _ from ?_))
      · replace h := zy_ifp h b10
        refine zy_0 rfl rfl (show zyR _ _ _ _ [some (.ref (43 + 3)), some (.int x1), some (.int x2), some (.int x3), none] [.ref (43 + 3)] _ _ from ?_)
        refine zy_1 (c := 43) rfl rfl rfl (show zyR _ _ _ _ [some (.ref (43 + 3)), some (.int x1), some (.int x2), some (.int x3), none] [.int (s.1 43 7)] _ _ from ?_)
        refine zy_2 rfl rfl (show zyR _ _ _ _ [some (.ref (43 + 3)), some (.int x1), some (.int x2), some (.int x3), none] [.int x3, .int (s.1 43 7)] _ _ from ?_)
        obtain ⟨p2, hp2, h⟩ := zy_bind h
        refine zy_60 (as := [.int (s.1 43 7), .int x3]) (rest := []) (L := [some (.int (s.1 43 7)), some (.int x3)]) (d' := 1) rfl rfl (Nat.le_of_ble_eq_true rfl) (Nat.le_of_ble_eq_true rfl) rfl (Nat.le_of_ble_eq_true rfl) rfl rfl (zyC208 hp2) ?_
        show zyR _ _ _ _ [some (.ref (43 + 3)), some (.int x1), some (.int x2), some (.int x3), none] [.int p2.1] _ _
        refine zy_24_1 rfl (fun b5 => (show zyR _ _ _ _ [some (.ref (43 + 3)), some (.int x1), some (.int x2), some (.int x3), none] [] _ _ from ?_)) (fun b5 => (show zyR _ _ _ _ [some (.ref (43 + 3)), some (.int x1), some (.int x2), some (.int x3), none] [] _ _ from ?_))
        · replace h := zy_ifp h b5
          exact zy_sub (show zy_le [some (.ref (43 + 3)), some (.int x1), some (.int x2), some (.int x3), none] [some (.ref (43 + 3)), some (.int x1), some (.int x2), some (.int x3), none] from ⟨rfl, ⟨rfl, ⟨rfl, ⟨rfl, trivial⟩⟩⟩⟩) (zyC220_111 hk18 h)
        · replace h := zy_ifn h b5
          refine zy_0 rfl rfl (show zyR _ _ _ _ [some (.ref (43 + 3)), some (.int x1), some (.int x2), some (.int x3), none] [.ref (43 + 3)] _ _ from ?_)
          refine zy_2 rfl rfl (show zyR _ _ _ _ [some (.ref (43 + 3)), some (.int x1), some (.int x2), some (.int x3), none] [.int x3, .ref (43 + 3)] _ _ from ?_)
          obtain ⟨p3, hp3, h⟩ := zy_bind h
          refine zy_5 (c := 43) (as := [.int x3]) (rest := []) (L := [some (.ref (43 + 3)), some (.int x3), none, none]) (d' := 4) rfl rfl rfl (Nat.le_of_ble_eq_true rfl) (Nat.le_of_ble_eq_true rfl) rfl (Nat.le_of_ble_eq_true rfl) rfl rfl (zyC223 hp3) ?_
          show zyR _ _ _ _ [some (.ref (43 + 3)), some (.int x1), some (.int x2), some (.int x3), none] [.int p3.1] _ _
          refine zy_24_0 rfl (fun b4 => (show zyR _ _ _ _ [some (.ref (43 + 3)), some (.int x1), some (.int x2), some (.int x3), none] [] _ _ from ?_)) (fun b4 => (show zyR _ _ _ _ [some (.ref (43 + 3)), some (.int x1), some (.int x2), some (.int x3), none] [] _ _ from ?_))
          · replace h := zy_ifp h b4
            exact zy_sub (show zy_le [some (.ref (43 + 3)), some (.int x1), some (.int x2), some (.int x3), none] [some (.ref (43 + 3)), some (.int x1), some (.int x2), some (.int x3), none] from ⟨rfl, ⟨rfl, ⟨rfl, ⟨rfl, trivial⟩⟩⟩⟩) (zyC220_111 hk18 h)
          · replace h := zy_ifn h b4
            refine zy_3 rfl rfl (show zyR _ _ _ _ [some (.ref (43 + 3)), some (.int x1), some (.int x2), some (.int x3), none] [.int (1 : Int32)] _ _ from ?_)
            refine zy_6 rfl (show zyR _ _ _ _ [some (.ref (43 + 3)), some (.int x1), some (.int x2), some (.int x3), none] [.int (1 : Int32)] _ _ from ?_)
            exact zy_sub (show zy_le [some (.ref (43 + 3)), some (.int x1), some (.int x2), some (.int x3), none] [some (.ref (43 + 3)), some (.int x1), some (.int x2), some (.int x3), none] from ⟨rfl, ⟨rfl, ⟨rfl, ⟨rfl, trivial⟩⟩⟩⟩) (zyC220_112 hk18 h)
      · replace h := zy_ifn h b10
        refine zy_0 rfl rfl (show zyR _ _ _ _ [some (.ref (43 + 3)), some (.int x1), some (.int x2), some (.int x3), none] [.ref (43 + 3)] _ _ from ?_)
        refine zy_1 (c := 43) rfl rfl rfl (show zyR _ _ _ _ [some (.ref (43 + 3)), some (.int x1), some (.int x2), some (.int x3), none] [.int (s.1 43 7)] _ _ from ?_)
        refine zy_2 rfl rfl (show zyR _ _ _ _ [some (.ref (43 + 3)), some (.int x1), some (.int x2), some (.int x3), none] [.int x3, .int (s.1 43 7)] _ _ from ?_)
        obtain ⟨p6, hp6, h⟩ := zy_bind h
        refine zy_60 (as := [.int (s.1 43 7), .int x3]) (rest := []) (L := [some (.int (s.1 43 7)), some (.int x3)]) (d' := 1) rfl rfl (Nat.le_of_ble_eq_true rfl) (Nat.le_of_ble_eq_true rfl) rfl (Nat.le_of_ble_eq_true rfl) rfl rfl (zyC208 hp6) ?_
        show zyR _ _ _ _ [some (.ref (43 + 3)), some (.int x1), some (.int x2), some (.int x3), none] [.int p6.1] _ _
        refine zy_24_0 rfl (fun b9 => (show zyR _ _ _ _ [some (.ref (43 + 3)), some (.int x1), some (.int x2), some (.int x3), none] [] _ _ from ?_)) (fun b9 => (show zyR _ _ _ _ [some (.ref (43 + 3)), some (.int x1), some (.int x2), some (.int x3), none] [] _ _ from ?_))
        · replace h := zy_ifp h b9
          exact zy_sub (show zy_le [some (.ref (43 + 3)), some (.int x1), some (.int x2), some (.int x3), none] [some (.ref (43 + 3)), some (.int x1), some (.int x2), some (.int x3), none] from ⟨rfl, ⟨rfl, ⟨rfl, ⟨rfl, trivial⟩⟩⟩⟩) (zyC220_84 hk18 h)
        · replace h := zy_ifn h b9
          refine zy_0 rfl rfl (show zyR _ _ _ _ [some (.ref (43 + 3)), some (.int x1), some (.int x2), some (.int x3), none] [.ref (43 + 3)] _ _ from ?_)
          refine zy_2 rfl rfl (show zyR _ _ _ _ [some (.ref (43 + 3)), some (.int x1), some (.int x2), some (.int x3), none] [.int x3, .ref (43 + 3)] _ _ from ?_)
          obtain ⟨p7, hp7, h⟩ := zy_bind h
          refine zy_5 (c := 43) (as := [.int x3]) (rest := []) (L := [some (.ref (43 + 3)), some (.int x3), none, none]) (d' := 4) rfl rfl rfl (Nat.le_of_ble_eq_true rfl) (Nat.le_of_ble_eq_true rfl) rfl (Nat.le_of_ble_eq_true rfl) rfl rfl (zyC223 hp7) ?_
          show zyR _ _ _ _ [some (.ref (43 + 3)), some (.int x1), some (.int x2), some (.int x3), none] [.int p7.1] _ _
          refine zy_24_1 rfl (fun b8 => (show zyR _ _ _ _ [some (.ref (43 + 3)), some (.int x1), some (.int x2), some (.int x3), none] [] _ _ from ?_)) (fun b8 => (show zyR _ _ _ _ [some (.ref (43 + 3)), some (.int x1), some (.int x2), some (.int x3), none] [] _ _ from ?_))
          · replace h := zy_ifp h b8
            exact zy_sub (show zy_le [some (.ref (43 + 3)), some (.int x1), some (.int x2), some (.int x3), none] [some (.ref (43 + 3)), some (.int x1), some (.int x2), some (.int x3), none] from ⟨rfl, ⟨rfl, ⟨rfl, ⟨rfl, trivial⟩⟩⟩⟩) (zyC220_84 hk18 h)
          · replace h := zy_ifn h b8
            refine zy_3 rfl rfl (show zyR _ _ _ _ [some (.ref (43 + 3)), some (.int x1), some (.int x2), some (.int x3), none] [.int (1 : Int32)] _ _ from ?_)
            refine zy_6 rfl (show zyR _ _ _ _ [some (.ref (43 + 3)), some (.int x1), some (.int x2), some (.int x3), none] [.int (1 : Int32)] _ _ from ?_)
            exact zy_sub (show zy_le [some (.ref (43 + 3)), some (.int x1), some (.int x2), some (.int x3), none] [some (.ref (43 + 3)), some (.int x1), some (.int x2), some (.int x3), none] from ⟨rfl, ⟨rfl, ⟨rfl, ⟨rfl, trivial⟩⟩⟩⟩) (zyC220_112 hk18 h)
    · replace h := zy_ifn h b15
      refine zy_0 rfl rfl (show zyR _ _ _ _ [some (.ref (43 + 3)), some (.int x1), some (.int x2), some (.int x3), none] [.ref (43 + 3)] _ _ from ?_)
      refine zy_1 (c := 43) rfl rfl rfl (show zyR _ _ _ _ [some (.ref (43 + 3)), some (.int x1), some (.int x2), some (.int x3), none] [.int (s.1 43 7)] _ _ from ?_)
      refine zy_2 rfl rfl (show zyR _ _ _ _ [some (.ref (43 + 3)), some (.int x1), some (.int x2), some (.int x3), none] [.int x3, .int (s.1 43 7)] _ _ from ?_)
      obtain ⟨p11, hp11, h⟩ := zy_bind h
      refine zy_60 (as := [.int (s.1 43 7), .int x3]) (rest := []) (L := [some (.int (s.1 43 7)), some (.int x3)]) (d' := 1) rfl rfl (Nat.le_of_ble_eq_true rfl) (Nat.le_of_ble_eq_true rfl) rfl (Nat.le_of_ble_eq_true rfl) rfl rfl (zyC208 hp11) ?_
      show zyR _ _ _ _ [some (.ref (43 + 3)), some (.int x1), some (.int x2), some (.int x3), none] [.int p11.1] _ _
      refine zy_24_0 rfl (fun b14 => (show zyR _ _ _ _ [some (.ref (43 + 3)), some (.int x1), some (.int x2), some (.int x3), none] [] _ _ from ?_)) (fun b14 => (show zyR _ _ _ _ [some (.ref (43 + 3)), some (.int x1), some (.int x2), some (.int x3), none] [] _ _ from ?_))
      · replace h := zy_ifp h b14
        exact zy_sub (show zy_le [some (.ref (43 + 3)), some (.int x1), some (.int x2), some (.int x3), none] [some (.ref (43 + 3)), some (.int x1), some (.int x2), some (.int x3), none] from ⟨rfl, ⟨rfl, ⟨rfl, ⟨rfl, trivial⟩⟩⟩⟩) (zyC220_52 hk18 h)
      · replace h := zy_ifn h b14
        refine zy_0 rfl rfl (show zyR _ _ _ _ [some (.ref (43 + 3)), some (.int x1), some (.int x2), some (.int x3), none] [.ref (43 + 3)] _ _ from ?_)
        refine zy_2 rfl rfl (show zyR _ _ _ _ [some (.ref (43 + 3)), some (.int x1), some (.int x2), some (.int x3), none] [.int x3, .ref (43 + 3)] _ _ from ?_)
        refine zy_3 rfl rfl (show zyR _ _ _ _ [some (.ref (43 + 3)), some (.int x1), some (.int x2), some (.int x3), none] [.int (0 : Int32), .int x3, .ref (43 + 3)] _ _ from ?_)
        obtain ⟨p12, hp12, h⟩ := zy_bind h
        refine zy_5 (c := 43) (as := [.int x3, .int (0 : Int32)]) (rest := []) (L := [some (.ref (43 + 3)), some (.int x3), some (.int (0 : Int32)), none, none, none]) (d' := 4) rfl rfl rfl (Nat.le_of_ble_eq_true rfl) (Nat.le_of_ble_eq_true rfl) rfl (Nat.le_of_ble_eq_true rfl) rfl rfl (zyC221 hp12) ?_
        show zyR _ _ _ _ [some (.ref (43 + 3)), some (.int x1), some (.int x2), some (.int x3), none] [.int p12.1] _ _
        refine zy_24_0 rfl (fun b13 => (show zyR _ _ _ _ [some (.ref (43 + 3)), some (.int x1), some (.int x2), some (.int x3), none] [] _ _ from ?_)) (fun b13 => (show zyR _ _ _ _ [some (.ref (43 + 3)), some (.int x1), some (.int x2), some (.int x3), none] [] _ _ from ?_))
        · replace h := zy_ifp h b13
          exact zy_sub (show zy_le [some (.ref (43 + 3)), some (.int x1), some (.int x2), some (.int x3), none] [some (.ref (43 + 3)), some (.int x1), some (.int x2), some (.int x3), none] from ⟨rfl, ⟨rfl, ⟨rfl, ⟨rfl, trivial⟩⟩⟩⟩) (zyC220_52 hk18 h)
        · replace h := zy_ifn h b13
          refine zy_3 rfl rfl (show zyR _ _ _ _ [some (.ref (43 + 3)), some (.int x1), some (.int x2), some (.int x3), none] [.int (1 : Int32)] _ _ from ?_)
          refine zy_6 rfl (show zyR _ _ _ _ [some (.ref (43 + 3)), some (.int x1), some (.int x2), some (.int x3), none] [.int (1 : Int32)] _ _ from ?_)
          exact zy_sub (show zy_le [some (.ref (43 + 3)), some (.int x1), some (.int x2), some (.int x3), none] [some (.ref (43 + 3)), some (.int x1), some (.int x2), some (.int x3), none] from ⟨rfl, ⟨rfl, ⟨rfl, ⟨rfl, trivial⟩⟩⟩⟩) (zyC220_112 hk18 h)
noncomputable def zyF220_18   (n : Nat) : Int32 → Int32 → Int32 → zy_S → Option (Int32 × zy_S) := Nat.rec (fun _ _ _ _ => none) (fun _ k18 => zyF220_18b k18) n
theorem zyC220_18 {X : zx_X}     : ∀ (n : Nat) (x1 : Int32) (x2 : Int32) (x3 : Int32) (s : zy_S) (r : Int32) (s' : zy_S), zyF220_18 n x1 x2 x3 s = some (r, s') → zyR X 5 220 18 [some (.ref (43 + 3)), some (.int x1), some (.int x2), some (.int x3), none] [] s (zyE (some (.int r)) s')
  | 0, _, _, _ => by
    intro s r s'  h
    have h : (none : Option (Int32 × zy_S)) = some (r, s') := h
    cases h
  | n + 1, x1, x2, x3 => by
    intro s r s'  h
    exact zyC220_18b (k18 := zyF220_18 n) (fun x1 x2 x3 s r s'  h => zyC220_18  n x1 x2 x3 s r s'  h) h
noncomputable def zyF220   (x1 : Int32) (s : zy_S) : Option (Int32 × zy_S) :=
(zyF179 (x1).toInt64 (0 : Int64) (2 : Int64) s).bind fun p17 =>
if p17.1 ≠ 0 then
zyF220_18 zy_fu x1 (0 : Int32) (0 : Int32) p17.2
else
some ((-1 : Int32), p17.2)
theorem zyC220 {X : zx_X}     {x1 : Int32} {s : zy_S} {r : Int32} {s' : zy_S}  (h : zyF220 x1 s = some (r, s')) : zyR X 5 220 0 [some (.ref (43 + 3)), some (.int x1), none, none, none] [] s (zyE (some (.int r)) s') := by
  unfold zyF220 at h
  refine zy_2 rfl rfl (show zyR _ _ _ _ [some (.ref (43 + 3)), some (.int x1), none, none, none] [.int x1] _ _ from ?_)
  refine zy_40 rfl (show zyR _ _ _ _ [some (.ref (43 + 3)), some (.int x1), none, none, none] [.long (x1).toInt64] _ _ from ?_)
  refine zy_36 rfl rfl (show zyR _ _ _ _ [some (.ref (43 + 3)), some (.int x1), none, none, none] [.long (0 : Int64), .long (x1).toInt64] _ _ from ?_)
  refine zy_36c rfl rfl (show zyR _ _ _ _ [some (.ref (43 + 3)), some (.int x1), none, none, none] [.long (2 : Int64), .long (0 : Int64), .long (x1).toInt64] _ _ from ?_)
  obtain ⟨p17, hp17, h⟩ := zy_bind h
  refine zy_60 (as := [.long (x1).toInt64, .long (0 : Int64), .long (2 : Int64)]) (rest := []) (L := [some (.long (x1).toInt64), none, some (.long (0 : Int64)), none, some (.long (2 : Int64)), none]) (d' := 1) rfl rfl (Nat.le_of_ble_eq_true rfl) (Nat.le_of_ble_eq_true rfl) rfl (Nat.le_of_ble_eq_true rfl) rfl rfl (zyC179 hp17) ?_
  show zyR _ _ _ _ [some (.ref (43 + 3)), some (.int x1), none, none, none] [.int p17.1] _ _
  refine zy_24_1 rfl (fun b18 => (show zyR _ _ _ _ [some (.ref (43 + 3)), some (.int x1), none, none, none] [] _ _ from ?_)) (fun b18 => (show zyR _ _ _ _ [some (.ref (43 + 3)), some (.int x1), none, none, none] [] _ _ from ?_))
  · replace h := zy_ifp h b18
    refine zy_3 rfl rfl (show zyR _ _ _ _ [some (.ref (43 + 3)), some (.int x1), none, none, none] [.int (0 : Int32)] _ _ from ?_)
    refine zy_23 rfl rfl (show zyR _ _ _ _ [some (.ref (43 + 3)), some (.int x1), some (.int (0 : Int32)), none, none] [] _ _ from ?_)
    refine zy_3 rfl rfl (show zyR _ _ _ _ [some (.ref (43 + 3)), some (.int x1), some (.int (0 : Int32)), none, none] [.int (0 : Int32)] _ _ from ?_)
    refine zy_23 rfl rfl (show zyR _ _ _ _ [some (.ref (43 + 3)), some (.int x1), some (.int (0 : Int32)), some (.int (0 : Int32)), none] [] _ _ from ?_)
    exact zy_sub (show zy_le [some (.ref (43 + 3)), some (.int x1), some (.int (0 : Int32)), some (.int (0 : Int32)), none] [some (.ref (43 + 3)), some (.int x1), some (.int (0 : Int32)), some (.int (0 : Int32)), none] from ⟨rfl, ⟨rfl, ⟨rfl, ⟨rfl, trivial⟩⟩⟩⟩) (zyC220_18 zy_fu x1 (0 : Int32) (0 : Int32) p17.2 _ _ h)
  · replace h := zy_ifn h b18
    refine zy_3 rfl rfl (show zyR _ _ _ _ [some (.ref (43 + 3)), some (.int x1), none, none, none] [.int (-1 : Int32)] _ _ from ?_)
    cases h
    exact zy_4 rfl ⟨rfl, rfl⟩
/-! NineOpinions$Votes.fewestToWin(I)I -/
noncomputable def zyF101_85  (k24 : Int32 → Int32 → Int32 → Int32 → zy_S → Option (Int32 × zy_S)) (x2 : Int32) (x3 : Int32) (x4 : Int32) (x5 : Int32) (s : zy_S) : Option (Int32 × zy_S) :=
k24 x2 x3 x4 (x5 + (1 : Int32)) s
theorem zyC101_85 {X : zx_X}  {k24 : Int32 → Int32 → Int32 → Int32 → zy_S → Option (Int32 × zy_S)}  (hk24 : ∀ (x2 : Int32) (x3 : Int32) (x4 : Int32) (x5 : Int32) (s : zy_S) (r : Int32) (s' : zy_S), k24 x2 x3 x4 x5 s = some (r, s') → zyR X 4 101 24 [some (.ref (16 + 3)), none, some (.int x2), some (.int x3), some (.int x4), some (.int x5), none] [] s (zyE (some (.int r)) s')) {x2 : Int32} {x3 : Int32} {x4 : Int32} {x5 : Int32} {s : zy_S} {r : Int32} {s' : zy_S}  (h : zyF101_85 k24 x2 x3 x4 x5 s = some (r, s')) : zyR X 4 101 85 [some (.ref (16 + 3)), none, some (.int x2), some (.int x3), some (.int x4), some (.int x5), none] [] s (zyE (some (.int r)) s') := by
  unfold zyF101_85 at h
  refine zy_22 rfl rfl rfl rfl (show zyR _ _ _ _ [some (.ref (16 + 3)), none, some (.int x2), some (.int x3), some (.int x4), some (.int (x5 + (1 : Int32))), none] [] _ _ from ?_)
  refine zy_6 rfl (show zyR _ _ _ _ [some (.ref (16 + 3)), none, some (.int x2), some (.int x3), some (.int x4), some (.int (x5 + (1 : Int32))), none] [] _ _ from ?_)
  exact zy_sub (show zy_le [some (.ref (16 + 3)), none, some (.int x2), some (.int x3), some (.int x4), some (.int (x5 + (1 : Int32))), none] [some (.ref (16 + 3)), none, some (.int x2), some (.int x3), some (.int x4), some (.int (x5 + (1 : Int32))), none] from ⟨rfl, ⟨rfl, ⟨rfl, ⟨rfl, ⟨rfl, trivial⟩⟩⟩⟩⟩) (hk24 x2 x3 x4 (x5 + (1 : Int32)) s _ _ h)
noncomputable def zyF101_54  (k24 : Int32 → Int32 → Int32 → Int32 → zy_S → Option (Int32 × zy_S)) (x2 : Int32) (x3 : Int32) (x4 : Int32) (x5 : Int32) (y0 : Int32) (s : zy_S) : Option (Int32 × zy_S) :=
if y0 = 0 then
zyF101_85 k24 x2 x3 x4 x5 s
else
if (x5 &&& (x2 ^^^ (-1 : Int32))) ≠ 0 then
zyF101_85 k24 x2 x3 x4 x5 s
else
(zyF97 (x3 ||| x5) s).bind fun p1 =>
if p1.1 = 0 then
zyF101_85 k24 x2 x3 x4 x5 p1.2
else
zyF101_85 k24 x2 x3 x5 x5 p1.2
theorem zyC101_54 {X : zx_X}  {k24 : Int32 → Int32 → Int32 → Int32 → zy_S → Option (Int32 × zy_S)}  (hk24 : ∀ (x2 : Int32) (x3 : Int32) (x4 : Int32) (x5 : Int32) (s : zy_S) (r : Int32) (s' : zy_S), k24 x2 x3 x4 x5 s = some (r, s') → zyR X 4 101 24 [some (.ref (16 + 3)), none, some (.int x2), some (.int x3), some (.int x4), some (.int x5), none] [] s (zyE (some (.int r)) s')) {x2 : Int32} {x3 : Int32} {x4 : Int32} {x5 : Int32} {y0 : Int32} {s : zy_S} {r : Int32} {s' : zy_S}  (h : zyF101_54 k24 x2 x3 x4 x5 y0 s = some (r, s')) : zyR X 4 101 54 [some (.ref (16 + 3)), none, some (.int x2), some (.int x3), some (.int x4), some (.int x5), none] [.int y0] s (zyE (some (.int r)) s') := by
  unfold zyF101_54 at h
  refine zy_23 rfl rfl (show zyR _ _ _ _ [some (.ref (16 + 3)), none, some (.int x2), some (.int x3), some (.int x4), some (.int x5), some (.int y0)] [] _ _ from ?_)
  refine zy_2 rfl rfl (show zyR _ _ _ _ [some (.ref (16 + 3)), none, some (.int x2), some (.int x3), some (.int x4), some (.int x5), some (.int y0)] [.int y0] _ _ from ?_)
  refine zy_24_0 rfl (fun b4 => (show zyR _ _ _ _ [some (.ref (16 + 3)), none, some (.int x2), some (.int x3), some (.int x4), some (.int x5), some (.int y0)] [] _ _ from ?_)) (fun b4 => (show zyR _ _ _ _ [some (.ref (16 + 3)), none, some (.int x2), some (.int x3), some (.int x4), some (.int x5), some (.int y0)] [] _ _ from ?_))
  · replace h := zy_ifp h b4
    exact zy_sub (show zy_le [some (.ref (16 + 3)), none, some (.int x2), some (.int x3), some (.int x4), some (.int x5), none] [some (.ref (16 + 3)), none, some (.int x2), some (.int x3), some (.int x4), some (.int x5), some (.int y0)] from ⟨rfl, ⟨rfl, ⟨rfl, ⟨rfl, ⟨rfl, trivial⟩⟩⟩⟩⟩) (zyC101_85 hk24 h)
  · replace h := zy_ifn h b4
    refine zy_2 rfl rfl (show zyR _ _ _ _ [some (.ref (16 + 3)), none, some (.int x2), some (.int x3), some (.int x4), some (.int x5), some (.int y0)] [.int x5] _ _ from ?_)
    refine zy_2 rfl rfl (show zyR _ _ _ _ [some (.ref (16 + 3)), none, some (.int x2), some (.int x3), some (.int x4), some (.int x5), some (.int y0)] [.int x2, .int x5] _ _ from ?_)
    refine zy_3 rfl rfl (show zyR _ _ _ _ [some (.ref (16 + 3)), none, some (.int x2), some (.int x3), some (.int x4), some (.int x5), some (.int y0)] [.int (-1 : Int32), .int x2, .int x5] _ _ from ?_)
    refine zy_15 rfl (show zyR _ _ _ _ [some (.ref (16 + 3)), none, some (.int x2), some (.int x3), some (.int x4), some (.int x5), some (.int y0)] [.int (x2 ^^^ (-1 : Int32)), .int x5] _ _ from ?_)
    refine zy_13 rfl (show zyR _ _ _ _ [some (.ref (16 + 3)), none, some (.int x2), some (.int x3), some (.int x4), some (.int x5), some (.int y0)] [.int (x5 &&& (x2 ^^^ (-1 : Int32)))] _ _ from ?_)
    refine zy_24_1 rfl (fun b3 => (show zyR _ _ _ _ [some (.ref (16 + 3)), none, some (.int x2), some (.int x3), some (.int x4), some (.int x5), some (.int y0)] [] _ _ from ?_)) (fun b3 => (show zyR _ _ _ _ [some (.ref (16 + 3)), none, some (.int x2), some (.int x3), some (.int x4), some (.int x5), some (.int y0)] [] _ _ from ?_))
    · replace h := zy_ifp h b3
      exact zy_sub (show zy_le [some (.ref (16 + 3)), none, some (.int x2), some (.int x3), some (.int x4), some (.int x5), none] [some (.ref (16 + 3)), none, some (.int x2), some (.int x3), some (.int x4), some (.int x5), some (.int y0)] from ⟨rfl, ⟨rfl, ⟨rfl, ⟨rfl, ⟨rfl, trivial⟩⟩⟩⟩⟩) (zyC101_85 hk24 h)
    · replace h := zy_ifn h b3
      refine zy_0 rfl rfl (show zyR _ _ _ _ [some (.ref (16 + 3)), none, some (.int x2), some (.int x3), some (.int x4), some (.int x5), some (.int y0)] [.ref (16 + 3)] _ _ from ?_)
      refine zy_2 rfl rfl (show zyR _ _ _ _ [some (.ref (16 + 3)), none, some (.int x2), some (.int x3), some (.int x4), some (.int x5), some (.int y0)] [.int x3, .ref (16 + 3)] _ _ from ?_)
      refine zy_2 rfl rfl (show zyR _ _ _ _ [some (.ref (16 + 3)), none, some (.int x2), some (.int x3), some (.int x4), some (.int x5), some (.int y0)] [.int x5, .int x3, .ref (16 + 3)] _ _ from ?_)
      refine zy_14 rfl (show zyR _ _ _ _ [some (.ref (16 + 3)), none, some (.int x2), some (.int x3), some (.int x4), some (.int x5), some (.int y0)] [.int (x3 ||| x5), .ref (16 + 3)] _ _ from ?_)
      obtain ⟨p1, hp1, h⟩ := zy_bind h
      refine zy_5 (c := 16) (as := [.int (x3 ||| x5)]) (rest := []) (L := [some (.ref (16 + 3)), some (.int (x3 ||| x5))]) (d' := 3) rfl rfl rfl (Nat.le_of_ble_eq_true rfl) (Nat.le_of_ble_eq_true rfl) rfl (Nat.le_of_ble_eq_true rfl) rfl rfl (zyC97 hp1) ?_
      show zyR _ _ _ _ [some (.ref (16 + 3)), none, some (.int x2), some (.int x3), some (.int x4), some (.int x5), some (.int y0)] [.int p1.1] _ _
      refine zy_24_0 rfl (fun b2 => (show zyR _ _ _ _ [some (.ref (16 + 3)), none, some (.int x2), some (.int x3), some (.int x4), some (.int x5), some (.int y0)] [] _ _ from ?_)) (fun b2 => (show zyR _ _ _ _ [some (.ref (16 + 3)), none, some (.int x2), some (.int x3), some (.int x4), some (.int x5), some (.int y0)] [] _ _ from ?_))
      · replace h := zy_ifp h b2
        exact zy_sub (show zy_le [some (.ref (16 + 3)), none, some (.int x2), some (.int x3), some (.int x4), some (.int x5), none] [some (.ref (16 + 3)), none, some (.int x2), some (.int x3), some (.int x4), some (.int x5), some (.int y0)] from ⟨rfl, ⟨rfl, ⟨rfl, ⟨rfl, ⟨rfl, trivial⟩⟩⟩⟩⟩) (zyC101_85 hk24 h)
      · replace h := zy_ifn h b2
        refine zy_2 rfl rfl (show zyR _ _ _ _ [some (.ref (16 + 3)), none, some (.int x2), some (.int x3), some (.int x4), some (.int x5), some (.int y0)] [.int x5] _ _ from ?_)
        refine zy_23 rfl rfl (show zyR _ _ _ _ [some (.ref (16 + 3)), none, some (.int x2), some (.int x3), some (.int x5), some (.int x5), some (.int y0)] [] _ _ from ?_)
        exact zy_sub (show zy_le [some (.ref (16 + 3)), none, some (.int x2), some (.int x3), some (.int x5), some (.int x5), none] [some (.ref (16 + 3)), none, some (.int x2), some (.int x3), some (.int x5), some (.int x5), some (.int y0)] from ⟨rfl, ⟨rfl, ⟨rfl, ⟨rfl, ⟨rfl, trivial⟩⟩⟩⟩⟩) (zyC101_85 hk24 h)
noncomputable def zyF101_49  (k24 : Int32 → Int32 → Int32 → Int32 → zy_S → Option (Int32 × zy_S)) (x2 : Int32) (x3 : Int32) (x4 : Int32) (x5 : Int32) (s : zy_S) : Option (Int32 × zy_S) :=
zyF101_54 k24 x2 x3 x4 x5 (1 : Int32) s
theorem zyC101_49 {X : zx_X}  {k24 : Int32 → Int32 → Int32 → Int32 → zy_S → Option (Int32 × zy_S)}  (hk24 : ∀ (x2 : Int32) (x3 : Int32) (x4 : Int32) (x5 : Int32) (s : zy_S) (r : Int32) (s' : zy_S), k24 x2 x3 x4 x5 s = some (r, s') → zyR X 4 101 24 [some (.ref (16 + 3)), none, some (.int x2), some (.int x3), some (.int x4), some (.int x5), none] [] s (zyE (some (.int r)) s')) {x2 : Int32} {x3 : Int32} {x4 : Int32} {x5 : Int32} {s : zy_S} {r : Int32} {s' : zy_S}  (h : zyF101_49 k24 x2 x3 x4 x5 s = some (r, s')) : zyR X 4 101 49 [some (.ref (16 + 3)), none, some (.int x2), some (.int x3), some (.int x4), some (.int x5), none] [] s (zyE (some (.int r)) s') := by
  unfold zyF101_49 at h
  refine zy_3 rfl rfl (show zyR _ _ _ _ [some (.ref (16 + 3)), none, some (.int x2), some (.int x3), some (.int x4), some (.int x5), none] [.int (1 : Int32)] _ _ from ?_)
  refine zy_6 rfl (show zyR _ _ _ _ [some (.ref (16 + 3)), none, some (.int x2), some (.int x3), some (.int x4), some (.int x5), none] [.int (1 : Int32)] _ _ from ?_)
  exact zy_sub (show zy_le [some (.ref (16 + 3)), none, some (.int x2), some (.int x3), some (.int x4), some (.int x5), none] [some (.ref (16 + 3)), none, some (.int x2), some (.int x3), some (.int x4), some (.int x5), none] from ⟨rfl, ⟨rfl, ⟨rfl, ⟨rfl, ⟨rfl, trivial⟩⟩⟩⟩⟩) (zyC101_54 hk24 h)
noncomputable def zyF101_24b  (k24 : Int32 → Int32 → Int32 → Int32 → zy_S → Option (Int32 × zy_S)) (x2 : Int32) (x3 : Int32) (x4 : Int32) (x5 : Int32) (s : zy_S) : Option (Int32 × zy_S) :=
if x2 < x5 then
some (x4, s)
else
if x4 = (-1 : Int32) then
zyF101_49 k24 x2 x3 x4 x5 s
else
(zyF63 x5 s).bind fun p5 =>
(zyF63 x4 p5.2).bind fun p6 =>
if p6.1 ≤ p5.1 then
zyF101_54 k24 x2 x3 x4 x5 (0 : Int32) p6.2
else
zyF101_49 k24 x2 x3 x4 x5 p6.2
theorem zyC101_24b {X : zx_X}  {k24 : Int32 → Int32 → Int32 → Int32 → zy_S → Option (Int32 × zy_S)}  (hk24 : ∀ (x2 : Int32) (x3 : Int32) (x4 : Int32) (x5 : Int32) (s : zy_S) (r : Int32) (s' : zy_S), k24 x2 x3 x4 x5 s = some (r, s') → zyR X 4 101 24 [some (.ref (16 + 3)), none, some (.int x2), some (.int x3), some (.int x4), some (.int x5), none] [] s (zyE (some (.int r)) s')) {x2 : Int32} {x3 : Int32} {x4 : Int32} {x5 : Int32} {s : zy_S} {r : Int32} {s' : zy_S}  (h : zyF101_24b k24 x2 x3 x4 x5 s = some (r, s')) : zyR X 4 101 24 [some (.ref (16 + 3)), none, some (.int x2), some (.int x3), some (.int x4), some (.int x5), none] [] s (zyE (some (.int r)) s') := by
  unfold zyF101_24b at h
  refine zy_2 rfl rfl (show zyR _ _ _ _ [some (.ref (16 + 3)), none, some (.int x2), some (.int x3), some (.int x4), some (.int x5), none] [.int x5] _ _ from ?_)
  refine zy_2 rfl rfl (show zyR _ _ _ _ [some (.ref (16 + 3)), none, some (.int x2), some (.int x3), some (.int x4), some (.int x5), none] [.int x2, .int x5] _ _ from ?_)
  refine zy_25_4 rfl (fun b9 => (show zyR _ _ _ _ [some (.ref (16 + 3)), none, some (.int x2), some (.int x3), some (.int x4), some (.int x5), none] [] _ _ from ?_)) (fun b9 => (show zyR _ _ _ _ [some (.ref (16 + 3)), none, some (.int x2), some (.int x3), some (.int x4), some (.int x5), none] [] _ _ from ?_))
  · replace h := zy_ifp h b9
    refine zy_2 rfl rfl (show zyR _ _ _ _ [some (.ref (16 + 3)), none, some (.int x2), some (.int x3), some (.int x4), some (.int x5), none] [.int x4] _ _ from ?_)
    cases h
    exact zy_4 rfl ⟨rfl, rfl⟩
  · replace h := zy_ifn h b9
    refine zy_2 rfl rfl (show zyR _ _ _ _ [some (.ref (16 + 3)), none, some (.int x2), some (.int x3), some (.int x4), some (.int x5), none] [.int x4] _ _ from ?_)
    refine zy_3 rfl rfl (show zyR _ _ _ _ [some (.ref (16 + 3)), none, some (.int x2), some (.int x3), some (.int x4), some (.int x5), none] [.int (-1 : Int32), .int x4] _ _ from ?_)
    refine zy_25_0 rfl (fun b8 => (show zyR _ _ _ _ [some (.ref (16 + 3)), none, some (.int x2), some (.int x3), some (.int x4), some (.int x5), none] [] _ _ from ?_)) (fun b8 => (show zyR _ _ _ _ [some (.ref (16 + 3)), none, some (.int x2), some (.int x3), some (.int x4), some (.int x5), none] [] _ _ from ?_))
    · replace h := zy_ifp h b8
      exact zy_sub (show zy_le [some (.ref (16 + 3)), none, some (.int x2), some (.int x3), some (.int x4), some (.int x5), none] [some (.ref (16 + 3)), none, some (.int x2), some (.int x3), some (.int x4), some (.int x5), none] from ⟨rfl, ⟨rfl, ⟨rfl, ⟨rfl, ⟨rfl, trivial⟩⟩⟩⟩⟩) (zyC101_49 hk24 h)
    · replace h := zy_ifn h b8
      refine zy_2 rfl rfl (show zyR _ _ _ _ [some (.ref (16 + 3)), none, some (.int x2), some (.int x3), some (.int x4), some (.int x5), none] [.int x5] _ _ from ?_)
      obtain ⟨p5, hp5, h⟩ := zy_bind h
      refine zy_60 (as := [.int x5]) (rest := []) (L := [some (.int x5)]) (d' := 1) rfl rfl (Nat.le_of_ble_eq_true rfl) (Nat.le_of_ble_eq_true rfl) rfl (Nat.le_of_ble_eq_true rfl) rfl rfl (zyC63 hp5) ?_
      show zyR _ _ _ _ [some (.ref (16 + 3)), none, some (.int x2), some (.int x3), some (.int x4), some (.int x5), none] [.int p5.1] _ _
      refine zy_2 rfl rfl (show zyR _ _ _ _ [some (.ref (16 + 3)), none, some (.int x2), some (.int x3), some (.int x4), some (.int x5), none] [.int x4, .int p5.1] _ _ from ?_)
      obtain ⟨p6, hp6, h⟩ := zy_bind h
      refine zy_60 (as := [.int x4]) (rest := [.int p5.1]) (L := [some (.int x4)]) (d' := 1) rfl rfl (Nat.le_of_ble_eq_true rfl) (Nat.le_of_ble_eq_true rfl) rfl (Nat.le_of_ble_eq_true rfl) rfl rfl (zyC63 hp6) ?_
      show zyR _ _ _ _ [some (.ref (16 + 3)), none, some (.int x2), some (.int x3), some (.int x4), some (.int x5), none] [.int p6.1, .int p5.1] _ _
      refine zy_25_3 rfl (fun b7 => (show zyR _ _ _ _ [some (.ref (16 + 3)), none, some (.int x2), some (.int x3), some (.int x4), some (.int x5), none] [] _ _ from ?_)) (fun b7 => (show zyR _ _ _ _ [some (.ref (16 + 3)), none, some (.int x2), some (.int x3), some (.int x4), some (.int x5), none] [] _ _ from ?_))
      · replace h := zy_ifp h b7
        refine zy_3 rfl rfl (show zyR _ _ _ _ [some (.ref (16 + 3)), none, some (.int x2), some (.int x3), some (.int x4), some (.int x5), none] [.int (0 : Int32)] _ _ from ?_)
        exact zy_sub (show zy_le [some (.ref (16 + 3)), none, some (.int x2), some (.int x3), some (.int x4), some (.int x5), none] [some (.ref (16 + 3)), none, some (.int x2), some (.int x3), some (.int x4), some (.int x5), none] from ⟨rfl, ⟨rfl, ⟨rfl, ⟨rfl, ⟨rfl, trivial⟩⟩⟩⟩⟩) (zyC101_54 hk24 h)
      · replace h := zy_ifn h b7
        exact zy_sub (show zy_le [some (.ref (16 + 3)), none, some (.int x2), some (.int x3), some (.int x4), some (.int x5), none] [some (.ref (16 + 3)), none, some (.int x2), some (.int x3), some (.int x4), some (.int x5), none] from ⟨rfl, ⟨rfl, ⟨rfl, ⟨rfl, ⟨rfl, trivial⟩⟩⟩⟩⟩) (zyC101_49 hk24 h)
noncomputable def zyF101_24   (n : Nat) : Int32 → Int32 → Int32 → Int32 → zy_S → Option (Int32 × zy_S) := Nat.rec (fun _ _ _ _ _ => none) (fun _ k24 => zyF101_24b k24) n
theorem zyC101_24 {X : zx_X}     : ∀ (n : Nat) (x2 : Int32) (x3 : Int32) (x4 : Int32) (x5 : Int32) (s : zy_S) (r : Int32) (s' : zy_S), zyF101_24 n x2 x3 x4 x5 s = some (r, s') → zyR X 4 101 24 [some (.ref (16 + 3)), none, some (.int x2), some (.int x3), some (.int x4), some (.int x5), none] [] s (zyE (some (.int r)) s')
  | 0, _, _, _, _ => by
    intro s r s'  h
    have h : (none : Option (Int32 × zy_S)) = some (r, s') := h
    cases h
  | n + 1, x2, x3, x4, x5 => by
    intro s r s'  h
    exact zyC101_24b (k24 := zyF101_24 n) (fun x2 x3 x4 x5 s r s'  h => zyC101_24  n x2 x3 x4 x5 s r s'  h) h
noncomputable def zyF101   (x1 : Int32) (s : zy_S) : Option (Int32 × zy_S) :=
(zyF95 x1 s).bind fun p10 =>
(zyF51 p10.2).bind fun p11 =>
zyF101_24 zy_fu p10.1 (p11.1 &&& (p10.1 ^^^ (-1 : Int32))) (-1 : Int32) (0 : Int32) p11.2
theorem zyC101 {X : zx_X}     {x1 : Int32} {s : zy_S} {r : Int32} {s' : zy_S}  (h : zyF101 x1 s = some (r, s')) : zyR X 4 101 0 [some (.ref (16 + 3)), some (.int x1), none, none, none, none, none] [] s (zyE (some (.int r)) s') := by
  unfold zyF101 at h
  refine zy_0 rfl rfl (show zyR _ _ _ _ [some (.ref (16 + 3)), some (.int x1), none, none, none, none, none] [.ref (16 + 3)] _ _ from ?_)
  refine zy_2 rfl rfl (show zyR _ _ _ _ [some (.ref (16 + 3)), some (.int x1), none, none, none, none, none] [.int x1, .ref (16 + 3)] _ _ from ?_)
  obtain ⟨p10, hp10, h⟩ := zy_bind h
  refine zy_5 (c := 16) (as := [.int x1]) (rest := []) (L := [some (.ref (16 + 3)), some (.int x1), none, none]) (d' := 3) rfl rfl rfl (Nat.le_of_ble_eq_true rfl) (Nat.le_of_ble_eq_true rfl) rfl (Nat.le_of_ble_eq_true rfl) rfl rfl (zyC95 hp10) ?_
  show zyR _ _ _ _ [some (.ref (16 + 3)), some (.int x1), none, none, none, none, none] [.int p10.1] _ _
  refine zy_23 rfl rfl (show zyR _ _ _ _ [some (.ref (16 + 3)), some (.int x1), some (.int p10.1), none, none, none, none] [] _ _ from ?_)
  refine zy_0 rfl rfl (show zyR _ _ _ _ [some (.ref (16 + 3)), some (.int x1), some (.int p10.1), none, none, none, none] [.ref (16 + 3)] _ _ from ?_)
  refine zy_1r (c := 16) rfl rfl rfl (show zyR _ _ _ _ [some (.ref (16 + 3)), some (.int x1), some (.int p10.1), none, none, none, none] [.ref (1 + 3)] _ _ from ?_)
  obtain ⟨p11, hp11, h⟩ := zy_bind h
  refine zy_5 (c := 1) (as := []) (rest := []) (L := [some (.ref (1 + 3))]) (d' := 1) rfl rfl rfl (Nat.le_of_ble_eq_true rfl) (Nat.le_of_ble_eq_true rfl) rfl (Nat.le_of_ble_eq_true rfl) rfl rfl (zyC51 hp11) ?_
  show zyR _ _ _ _ [some (.ref (16 + 3)), some (.int x1), some (.int p10.1), none, none, none, none] [.int p11.1] _ _
  refine zy_2 rfl rfl (show zyR _ _ _ _ [some (.ref (16 + 3)), some (.int x1), some (.int p10.1), none, none, none, none] [.int p10.1, .int p11.1] _ _ from ?_)
  refine zy_3 rfl rfl (show zyR _ _ _ _ [some (.ref (16 + 3)), some (.int x1), some (.int p10.1), none, none, none, none] [.int (-1 : Int32), .int p10.1, .int p11.1] _ _ from ?_)
  refine zy_15 rfl (show zyR _ _ _ _ [some (.ref (16 + 3)), some (.int x1), some (.int p10.1), none, none, none, none] [.int (p10.1 ^^^ (-1 : Int32)), .int p11.1] _ _ from ?_)
  refine zy_13 rfl (show zyR _ _ _ _ [some (.ref (16 + 3)), some (.int x1), some (.int p10.1), none, none, none, none] [.int (p11.1 &&& (p10.1 ^^^ (-1 : Int32)))] _ _ from ?_)
  refine zy_23 rfl rfl (show zyR _ _ _ _ [some (.ref (16 + 3)), some (.int x1), some (.int p10.1), some (.int (p11.1 &&& (p10.1 ^^^ (-1 : Int32)))), none, none, none] [] _ _ from ?_)
  refine zy_3 rfl rfl (show zyR _ _ _ _ [some (.ref (16 + 3)), some (.int x1), some (.int p10.1), some (.int (p11.1 &&& (p10.1 ^^^ (-1 : Int32)))), none, none, none] [.int (-1 : Int32)] _ _ from ?_)
  refine zy_23 rfl rfl (show zyR _ _ _ _ [some (.ref (16 + 3)), some (.int x1), some (.int p10.1), some (.int (p11.1 &&& (p10.1 ^^^ (-1 : Int32)))), some (.int (-1 : Int32)), none, none] [] _ _ from ?_)
  refine zy_3 rfl rfl (show zyR _ _ _ _ [some (.ref (16 + 3)), some (.int x1), some (.int p10.1), some (.int (p11.1 &&& (p10.1 ^^^ (-1 : Int32)))), some (.int (-1 : Int32)), none, none] [.int (0 : Int32)] _ _ from ?_)
  refine zy_23 rfl rfl (show zyR _ _ _ _ [some (.ref (16 + 3)), some (.int x1), some (.int p10.1), some (.int (p11.1 &&& (p10.1 ^^^ (-1 : Int32)))), some (.int (-1 : Int32)), some (.int (0 : Int32)), none] [] _ _ from ?_)
  exact zy_sub (show zy_le [some (.ref (16 + 3)), none, some (.int p10.1), some (.int (p11.1 &&& (p10.1 ^^^ (-1 : Int32)))), some (.int (-1 : Int32)), some (.int (0 : Int32)), none] [some (.ref (16 + 3)), some (.int x1), some (.int p10.1), some (.int (p11.1 &&& (p10.1 ^^^ (-1 : Int32)))), some (.int (-1 : Int32)), some (.int (0 : Int32)), none] from ⟨rfl, ⟨rfl, ⟨rfl, ⟨rfl, ⟨rfl, trivial⟩⟩⟩⟩⟩) (zyC101_24 zy_fu p10.1 (p11.1 &&& (p10.1 ^^^ (-1 : Int32))) (-1 : Int32) (0 : Int32) p11.2 _ _ h)
/-! NineOpinions.win(II)I -/
noncomputable def zyF100   (x1 : Int32) (x2 : Int32) (s : zy_S) : Option (Int32 × zy_S) :=
(zyF26 x1 s).bind fun p1 =>
if p1.1 = 0 then
some ((-1 : Int32), p1.2)
else
(zyF84 x2 p1.2).bind fun p2 =>
if p2.1 ≠ 0 then
(zyF101 x1 p2.2).bind fun p3 =>
if p3.1 ≠ (-1 : Int32) then
if x2 ≠ 0 then
some (p3.1, p3.2)
else
(zyF63 p3.1 p3.2).bind fun p4 =>
some (p4.1, p4.2)
else
some ((-2 : Int32), p3.2)
else
some ((-1 : Int32), p2.2)
theorem zyC100 {X : zx_X}     {x1 : Int32} {x2 : Int32} {s : zy_S} {r : Int32} {s' : zy_S}  (h : zyF100 x1 x2 s = some (r, s')) : zyR X 5 100 0 [some (.ref (0 + 3)), some (.int x1), some (.int x2), none] [] s (zyE (some (.int r)) s') := by
  unfold zyF100 at h
  refine zy_2 rfl rfl (show zyR _ _ _ _ [some (.ref (0 + 3)), some (.int x1), some (.int x2), none] [.int x1] _ _ from ?_)
  obtain ⟨p1, hp1, h⟩ := zy_bind h
  refine zy_60 (as := [.int x1]) (rest := []) (L := [some (.int x1)]) (d' := 1) rfl rfl (Nat.le_of_ble_eq_true rfl) (Nat.le_of_ble_eq_true rfl) rfl (Nat.le_of_ble_eq_true rfl) rfl rfl (zyC26 hp1) ?_
  show zyR _ _ _ _ [some (.ref (0 + 3)), some (.int x1), some (.int x2), none] [.int p1.1] _ _
  refine zy_24_0 rfl (fun b8 => (show zyR _ _ _ _ [some (.ref (0 + 3)), some (.int x1), some (.int x2), none] [] _ _ from ?_)) (fun b8 => (show zyR _ _ _ _ [some (.ref (0 + 3)), some (.int x1), some (.int x2), none] [] _ _ from ?_))
  · replace h := zy_ifp h b8
    refine zy_3 rfl rfl (show zyR _ _ _ _ [some (.ref (0 + 3)), some (.int x1), some (.int x2), none] [.int (-1 : Int32)] _ _ from ?_)
    cases h
    exact zy_4 rfl ⟨rfl, rfl⟩
  · replace h := zy_ifn h b8
    refine zy_2 rfl rfl (show zyR _ _ _ _ [some (.ref (0 + 3)), some (.int x1), some (.int x2), none] [.int x2] _ _ from ?_)
    obtain ⟨p2, hp2, h⟩ := zy_bind h
    refine zy_60 (as := [.int x2]) (rest := []) (L := [some (.int x2)]) (d' := 1) rfl rfl (Nat.le_of_ble_eq_true rfl) (Nat.le_of_ble_eq_true rfl) rfl (Nat.le_of_ble_eq_true rfl) rfl rfl (zyC84 hp2) ?_
    show zyR _ _ _ _ [some (.ref (0 + 3)), some (.int x1), some (.int x2), none] [.int p2.1] _ _
    refine zy_24_1 rfl (fun b7 => (show zyR _ _ _ _ [some (.ref (0 + 3)), some (.int x1), some (.int x2), none] [] _ _ from ?_)) (fun b7 => (show zyR _ _ _ _ [some (.ref (0 + 3)), some (.int x1), some (.int x2), none] [] _ _ from ?_))
    · replace h := zy_ifp h b7
      refine zy_0 rfl rfl (show zyR _ _ _ _ [some (.ref (0 + 3)), some (.int x1), some (.int x2), none] [.ref (0 + 3)] _ _ from ?_)
      refine zy_1r (c := 0) rfl rfl rfl (show zyR _ _ _ _ [some (.ref (0 + 3)), some (.int x1), some (.int x2), none] [.ref (16 + 3)] _ _ from ?_)
      refine zy_2 rfl rfl (show zyR _ _ _ _ [some (.ref (0 + 3)), some (.int x1), some (.int x2), none] [.int x1, .ref (16 + 3)] _ _ from ?_)
      obtain ⟨p3, hp3, h⟩ := zy_bind h
      refine zy_5 (c := 16) (as := [.int x1]) (rest := []) (L := [some (.ref (16 + 3)), some (.int x1), none, none, none, none, none]) (d' := 4) rfl rfl rfl (Nat.le_of_ble_eq_true rfl) (Nat.le_of_ble_eq_true rfl) rfl (Nat.le_of_ble_eq_true rfl) rfl rfl (zyC101 hp3) ?_
      show zyR _ _ _ _ [some (.ref (0 + 3)), some (.int x1), some (.int x2), none] [.int p3.1] _ _
      refine zy_23 rfl rfl (show zyR _ _ _ _ [some (.ref (0 + 3)), some (.int x1), some (.int x2), some (.int p3.1)] [] _ _ from ?_)
      refine zy_2 rfl rfl (show zyR _ _ _ _ [some (.ref (0 + 3)), some (.int x1), some (.int x2), some (.int p3.1)] [.int p3.1] _ _ from ?_)
      refine zy_3 rfl rfl (show zyR _ _ _ _ [some (.ref (0 + 3)), some (.int x1), some (.int x2), some (.int p3.1)] [.int (-1 : Int32), .int p3.1] _ _ from ?_)
      refine zy_25_1 rfl (fun b6 => (show zyR _ _ _ _ [some (.ref (0 + 3)), some (.int x1), some (.int x2), some (.int p3.1)] [] _ _ from ?_)) (fun b6 => (show zyR _ _ _ _ [some (.ref (0 + 3)), some (.int x1), some (.int x2), some (.int p3.1)] [] _ _ from ?_))
      · replace h := zy_ifp h b6
        refine zy_2 rfl rfl (show zyR _ _ _ _ [some (.ref (0 + 3)), some (.int x1), some (.int x2), some (.int p3.1)] [.int x2] _ _ from ?_)
        refine zy_24_1 rfl (fun b5 => (show zyR _ _ _ _ [some (.ref (0 + 3)), some (.int x1), some (.int x2), some (.int p3.1)] [] _ _ from ?_)) (fun b5 => (show zyR _ _ _ _ [some (.ref (0 + 3)), some (.int x1), some (.int x2), some (.int p3.1)] [] _ _ from ?_))
        · replace h := zy_ifp h b5
          refine zy_2 rfl rfl (show zyR _ _ _ _ [some (.ref (0 + 3)), some (.int x1), some (.int x2), some (.int p3.1)] [.int p3.1] _ _ from ?_)
          cases h
          exact zy_4 rfl ⟨rfl, rfl⟩
        · replace h := zy_ifn h b5
          refine zy_2 rfl rfl (show zyR _ _ _ _ [some (.ref (0 + 3)), some (.int x1), some (.int x2), some (.int p3.1)] [.int p3.1] _ _ from ?_)
          obtain ⟨p4, hp4, h⟩ := zy_bind h
          refine zy_60 (as := [.int p3.1]) (rest := []) (L := [some (.int p3.1)]) (d' := 1) rfl rfl (Nat.le_of_ble_eq_true rfl) (Nat.le_of_ble_eq_true rfl) rfl (Nat.le_of_ble_eq_true rfl) rfl rfl (zyC63 hp4) ?_
          show zyR _ _ _ _ [some (.ref (0 + 3)), some (.int x1), some (.int x2), some (.int p3.1)] [.int p4.1] _ _
          refine zy_6 rfl (show zyR _ _ _ _ [some (.ref (0 + 3)), some (.int x1), some (.int x2), some (.int p3.1)] [.int p4.1] _ _ from ?_)
          cases h
          exact zy_4 rfl ⟨rfl, rfl⟩
      · replace h := zy_ifn h b6
        refine zy_3 rfl rfl (show zyR _ _ _ _ [some (.ref (0 + 3)), some (.int x1), some (.int x2), some (.int p3.1)] [.int (-2 : Int32)] _ _ from ?_)
        cases h
        exact zy_4 rfl ⟨rfl, rfl⟩
    · replace h := zy_ifn h b7
      refine zy_3 rfl rfl (show zyR _ _ _ _ [some (.ref (0 + 3)), some (.int x1), some (.int x2), none] [.int (-1 : Int32)] _ _ from ?_)
      cases h
      exact zy_4 rfl ⟨rfl, rfl⟩
/-! NineOpinionsModel.win(II)I -/
noncomputable def zyF224_79  (k26 : Int32 → Int32 → Int32 → Int32 → zy_S → Option (Int32 × zy_S)) (x1 : Int32) (x2 : Int32) (x3 : Int32) (x4 : Int32) (s : zy_S) : Option (Int32 × zy_S) :=
k26 x1 x2 x3 (x4 + (1 : Int32)) s
theorem zyC224_79 {X : zx_X}  {k26 : Int32 → Int32 → Int32 → Int32 → zy_S → Option (Int32 × zy_S)}  (hk26 : ∀ (x1 : Int32) (x2 : Int32) (x3 : Int32) (x4 : Int32) (s : zy_S) (r : Int32) (s' : zy_S), k26 x1 x2 x3 x4 s = some (r, s') → zyR X 5 224 26 [some (.ref (43 + 3)), some (.int x1), some (.int x2), some (.int x3), some (.int x4)] [] s (zyE (some (.int r)) s')) {x1 : Int32} {x2 : Int32} {x3 : Int32} {x4 : Int32} {s : zy_S} {r : Int32} {s' : zy_S}  (h : zyF224_79 k26 x1 x2 x3 x4 s = some (r, s')) : zyR X 5 224 79 [some (.ref (43 + 3)), some (.int x1), some (.int x2), some (.int x3), some (.int x4)] [] s (zyE (some (.int r)) s') := by
  unfold zyF224_79 at h
  refine zy_22 rfl rfl rfl rfl (show zyR _ _ _ _ [some (.ref (43 + 3)), some (.int x1), some (.int x2), some (.int x3), some (.int (x4 + (1 : Int32)))] [] _ _ from ?_)
  refine zy_6 rfl (show zyR _ _ _ _ [some (.ref (43 + 3)), some (.int x1), some (.int x2), some (.int x3), some (.int (x4 + (1 : Int32)))] [] _ _ from ?_)
  exact zy_sub (show zy_le [some (.ref (43 + 3)), some (.int x1), some (.int x2), some (.int x3), some (.int (x4 + (1 : Int32)))] [some (.ref (43 + 3)), some (.int x1), some (.int x2), some (.int x3), some (.int (x4 + (1 : Int32)))] from ⟨rfl, ⟨rfl, ⟨rfl, ⟨rfl, ⟨rfl, trivial⟩⟩⟩⟩⟩) (hk26 x1 x2 x3 (x4 + (1 : Int32)) s _ _ h)
noncomputable def zyF224_66  (k26 : Int32 → Int32 → Int32 → Int32 → zy_S → Option (Int32 × zy_S)) (x1 : Int32) (x2 : Int32) (x3 : Int32) (x4 : Int32) (s : zy_S) : Option (Int32 × zy_S) :=
(zyF221 x1 x4 s).bind fun p1 =>
if p1.1 = 0 then
zyF224_79 k26 x1 x2 x3 x4 p1.2
else
zyF224_79 k26 x1 x2 x4 x4 p1.2
theorem zyC224_66 {X : zx_X}  {k26 : Int32 → Int32 → Int32 → Int32 → zy_S → Option (Int32 × zy_S)}  (hk26 : ∀ (x1 : Int32) (x2 : Int32) (x3 : Int32) (x4 : Int32) (s : zy_S) (r : Int32) (s' : zy_S), k26 x1 x2 x3 x4 s = some (r, s') → zyR X 5 224 26 [some (.ref (43 + 3)), some (.int x1), some (.int x2), some (.int x3), some (.int x4)] [] s (zyE (some (.int r)) s')) {x1 : Int32} {x2 : Int32} {x3 : Int32} {x4 : Int32} {s : zy_S} {r : Int32} {s' : zy_S}  (h : zyF224_66 k26 x1 x2 x3 x4 s = some (r, s')) : zyR X 5 224 66 [some (.ref (43 + 3)), some (.int x1), some (.int x2), some (.int x3), some (.int x4)] [] s (zyE (some (.int r)) s') := by
  unfold zyF224_66 at h
  refine zy_0 rfl rfl (show zyR _ _ _ _ [some (.ref (43 + 3)), some (.int x1), some (.int x2), some (.int x3), some (.int x4)] [.ref (43 + 3)] _ _ from ?_)
  refine zy_2 rfl rfl (show zyR _ _ _ _ [some (.ref (43 + 3)), some (.int x1), some (.int x2), some (.int x3), some (.int x4)] [.int x1, .ref (43 + 3)] _ _ from ?_)
  refine zy_2 rfl rfl (show zyR _ _ _ _ [some (.ref (43 + 3)), some (.int x1), some (.int x2), some (.int x3), some (.int x4)] [.int x4, .int x1, .ref (43 + 3)] _ _ from ?_)
  obtain ⟨p1, hp1, h⟩ := zy_bind h
  refine zy_5 (c := 43) (as := [.int x1, .int x4]) (rest := []) (L := [some (.ref (43 + 3)), some (.int x1), some (.int x4), none, none, none]) (d' := 4) rfl rfl rfl (Nat.le_of_ble_eq_true rfl) (Nat.le_of_ble_eq_true rfl) rfl (Nat.le_of_ble_eq_true rfl) rfl rfl (zyC221 hp1) ?_
  show zyR _ _ _ _ [some (.ref (43 + 3)), some (.int x1), some (.int x2), some (.int x3), some (.int x4)] [.int p1.1] _ _
  refine zy_24_0 rfl (fun b2 => (show zyR _ _ _ _ [some (.ref (43 + 3)), some (.int x1), some (.int x2), some (.int x3), some (.int x4)] [] _ _ from ?_)) (fun b2 => (show zyR _ _ _ _ [some (.ref (43 + 3)), some (.int x1), some (.int x2), some (.int x3), some (.int x4)] [] _ _ from ?_))
  · replace h := zy_ifp h b2
    exact zy_sub (show zy_le [some (.ref (43 + 3)), some (.int x1), some (.int x2), some (.int x3), some (.int x4)] [some (.ref (43 + 3)), some (.int x1), some (.int x2), some (.int x3), some (.int x4)] from ⟨rfl, ⟨rfl, ⟨rfl, ⟨rfl, ⟨rfl, trivial⟩⟩⟩⟩⟩) (zyC224_79 hk26 h)
  · replace h := zy_ifn h b2
    refine zy_2 rfl rfl (show zyR _ _ _ _ [some (.ref (43 + 3)), some (.int x1), some (.int x2), some (.int x3), some (.int x4)] [.int x4] _ _ from ?_)
    refine zy_23 rfl rfl (show zyR _ _ _ _ [some (.ref (43 + 3)), some (.int x1), some (.int x2), some (.int x4), some (.int x4)] [] _ _ from ?_)
    exact zy_sub (show zy_le [some (.ref (43 + 3)), some (.int x1), some (.int x2), some (.int x4), some (.int x4)] [some (.ref (43 + 3)), some (.int x1), some (.int x2), some (.int x4), some (.int x4)] from ⟨rfl, ⟨rfl, ⟨rfl, ⟨rfl, ⟨rfl, trivial⟩⟩⟩⟩⟩) (zyC224_79 hk26 h)
noncomputable def zyF224_26b  (k26 : Int32 → Int32 → Int32 → Int32 → zy_S → Option (Int32 × zy_S)) (x1 : Int32) (x2 : Int32) (x3 : Int32) (x4 : Int32) (s : zy_S) : Option (Int32 × zy_S) :=
if ((1 : Int32) <<< ((s.1 43 6) &&& 31)) ≤ x4 then
if x3 < 0 then
some (x3, s)
else
if x2 ≠ (1 : Int32) then
(zyF209 x3 s).bind fun p3 =>
some (p3.1, p3.2)
else
some (x3, s)
else
(zyF223 x1 s).bind fun p6 =>
if (x4 &&& (p6.1 ^^^ (-1 : Int32))) ≠ 0 then
zyF224_79 k26 x1 x2 x3 x4 p6.2
else
if x3 < 0 then
zyF224_66 k26 x1 x2 x3 x4 p6.2
else
(zyF209 x4 p6.2).bind fun p7 =>
(zyF209 x3 p7.2).bind fun p8 =>
if p8.1 ≤ p7.1 then
zyF224_79 k26 x1 x2 x3 x4 p8.2
else
zyF224_66 k26 x1 x2 x3 x4 p8.2
theorem zyC224_26b {X : zx_X}  {k26 : Int32 → Int32 → Int32 → Int32 → zy_S → Option (Int32 × zy_S)}  (hk26 : ∀ (x1 : Int32) (x2 : Int32) (x3 : Int32) (x4 : Int32) (s : zy_S) (r : Int32) (s' : zy_S), k26 x1 x2 x3 x4 s = some (r, s') → zyR X 5 224 26 [some (.ref (43 + 3)), some (.int x1), some (.int x2), some (.int x3), some (.int x4)] [] s (zyE (some (.int r)) s')) {x1 : Int32} {x2 : Int32} {x3 : Int32} {x4 : Int32} {s : zy_S} {r : Int32} {s' : zy_S}  (h : zyF224_26b k26 x1 x2 x3 x4 s = some (r, s')) : zyR X 5 224 26 [some (.ref (43 + 3)), some (.int x1), some (.int x2), some (.int x3), some (.int x4)] [] s (zyE (some (.int r)) s') := by
  unfold zyF224_26b at h
  refine zy_2 rfl rfl (show zyR _ _ _ _ [some (.ref (43 + 3)), some (.int x1), some (.int x2), some (.int x3), some (.int x4)] [.int x4] _ _ from ?_)
  refine zy_3 rfl rfl (show zyR _ _ _ _ [some (.ref (43 + 3)), some (.int x1), some (.int x2), some (.int x3), some (.int x4)] [.int (1 : Int32), .int x4] _ _ from ?_)
  refine zy_0 rfl rfl (show zyR _ _ _ _ [some (.ref (43 + 3)), some (.int x1), some (.int x2), some (.int x3), some (.int x4)] [.ref (43 + 3), .int (1 : Int32), .int x4] _ _ from ?_)
  refine zy_1 (c := 43) rfl rfl rfl (show zyR _ _ _ _ [some (.ref (43 + 3)), some (.int x1), some (.int x2), some (.int x3), some (.int x4)] [.int (s.1 43 6), .int (1 : Int32), .int x4] _ _ from ?_)
  refine zy_16 rfl (show zyR _ _ _ _ [some (.ref (43 + 3)), some (.int x1), some (.int x2), some (.int x3), some (.int x4)] [.int ((1 : Int32) <<< ((s.1 43 6) &&& 31)), .int x4] _ _ from ?_)
  refine zy_25_3 rfl (fun b12 => (show zyR _ _ _ _ [some (.ref (43 + 3)), some (.int x1), some (.int x2), some (.int x3), some (.int x4)] [] _ _ from ?_)) (fun b12 => (show zyR _ _ _ _ [some (.ref (43 + 3)), some (.int x1), some (.int x2), some (.int x3), some (.int x4)] [] _ _ from ?_))
  · replace h := zy_ifp h b12
    refine zy_2 rfl rfl (show zyR _ _ _ _ [some (.ref (43 + 3)), some (.int x1), some (.int x2), some (.int x3), some (.int x4)] [.int x3] _ _ from ?_)
    refine zy_24_2 rfl (fun b5 => (show zyR _ _ _ _ [some (.ref (43 + 3)), some (.int x1), some (.int x2), some (.int x3), some (.int x4)] [] _ _ from ?_)) (fun b5 => (show zyR _ _ _ _ [some (.ref (43 + 3)), some (.int x1), some (.int x2), some (.int x3), some (.int x4)] [] _ _ from ?_))
    · replace h := zy_ifp h b5
      refine zy_2 rfl rfl (show zyR _ _ _ _ [some (.ref (43 + 3)), some (.int x1), some (.int x2), some (.int x3), some (.int x4)] [.int x3] _ _ from ?_)
      refine zy_6 rfl (show zyR _ _ _ _ [some (.ref (43 + 3)), some (.int x1), some (.int x2), some (.int x3), some (.int x4)] [.int x3] _ _ from ?_)
      cases h
      exact zy_4 rfl ⟨rfl, rfl⟩
    · replace h := zy_ifn h b5
      refine zy_2 rfl rfl (show zyR _ _ _ _ [some (.ref (43 + 3)), some (.int x1), some (.int x2), some (.int x3), some (.int x4)] [.int x2] _ _ from ?_)
      refine zy_3 rfl rfl (show zyR _ _ _ _ [some (.ref (43 + 3)), some (.int x1), some (.int x2), some (.int x3), some (.int x4)] [.int (1 : Int32), .int x2] _ _ from ?_)
      refine zy_25_1 rfl (fun b4 => (show zyR _ _ _ _ [some (.ref (43 + 3)), some (.int x1), some (.int x2), some (.int x3), some (.int x4)] [] _ _ from ?_)) (fun b4 => (show zyR _ _ _ _ [some (.ref (43 + 3)), some (.int x1), some (.int x2), some (.int x3), some (.int x4)] [] _ _ from ?_))
      · replace h := zy_ifp h b4
        refine zy_2 rfl rfl (show zyR _ _ _ _ [some (.ref (43 + 3)), some (.int x1), some (.int x2), some (.int x3), some (.int x4)] [.int x3] _ _ from ?_)
        obtain ⟨p3, hp3, h⟩ := zy_bind h
        refine zy_60 (as := [.int x3]) (rest := []) (L := [some (.int x3), none, none]) (d' := 1) rfl rfl (Nat.le_of_ble_eq_true rfl) (Nat.le_of_ble_eq_true rfl) rfl (Nat.le_of_ble_eq_true rfl) rfl rfl (zyC209 hp3) ?_
        show zyR _ _ _ _ [some (.ref (43 + 3)), some (.int x1), some (.int x2), some (.int x3), some (.int x4)] [.int p3.1] _ _
        cases h
        exact zy_4 rfl ⟨rfl, rfl⟩
      · replace h := zy_ifn h b4
        refine zy_2 rfl rfl (show zyR _ _ _ _ [some (.ref (43 + 3)), some (.int x1), some (.int x2), some (.int x3), some (.int x4)] [.int x3] _ _ from ?_)
        refine zy_6 rfl (show zyR _ _ _ _ [some (.ref (43 + 3)), some (.int x1), some (.int x2), some (.int x3), some (.int x4)] [.int x3] _ _ from ?_)
        cases h
        exact zy_4 rfl ⟨rfl, rfl⟩
  · replace h := zy_ifn h b12
    refine zy_2 rfl rfl (show zyR _ _ _ _ [some (.ref (43 + 3)), some (.int x1), some (.int x2), some (.int x3), some (.int x4)] [.int x4] _ _ from ?_)
    refine zy_0 rfl rfl (show zyR _ _ _ _ [some (.ref (43 + 3)), some (.int x1), some (.int x2), some (.int x3), some (.int x4)] [.ref (43 + 3), .int x4] _ _ from ?_)
    refine zy_2 rfl rfl (show zyR _ _ _ _ [some (.ref (43 + 3)), some (.int x1), some (.int x2), some (.int x3), some (.int x4)] [.int x1, .ref (43 + 3), .int x4] _ _ from ?_)
    obtain ⟨p6, hp6, h⟩ := zy_bind h
    refine zy_5 (c := 43) (as := [.int x1]) (rest := [.int x4]) (L := [some (.ref (43 + 3)), some (.int x1), none, none]) (d' := 4) rfl rfl rfl (Nat.le_of_ble_eq_true rfl) (Nat.le_of_ble_eq_true rfl) rfl (Nat.le_of_ble_eq_true rfl) rfl rfl (zyC223 hp6) ?_
    show zyR _ _ _ _ [some (.ref (43 + 3)), some (.int x1), some (.int x2), some (.int x3), some (.int x4)] [.int p6.1, .int x4] _ _
    refine zy_3 rfl rfl (show zyR _ _ _ _ [some (.ref (43 + 3)), some (.int x1), some (.int x2), some (.int x3), some (.int x4)] [.int (-1 : Int32), .int p6.1, .int x4] _ _ from ?_)
    refine zy_15 rfl (show zyR _ _ _ _ [some (.ref (43 + 3)), some (.int x1), some (.int x2), some (.int x3), some (.int x4)] [.int (p6.1 ^^^ (-1 : Int32)), .int x4] _ _ from ?_)
    refine zy_13 rfl (show zyR _ _ _ _ [some (.ref (43 + 3)), some (.int x1), some (.int x2), some (.int x3), some (.int x4)] [.int (x4 &&& (p6.1 ^^^ (-1 : Int32)))] _ _ from ?_)
    refine zy_24_1 rfl (fun b11 => (show zyR _ _ _ _ [some (.ref (43 + 3)), some (.int x1), some (.int x2), some (.int x3), some (.int x4)] [] _ _ from ?_)) (fun b11 => (show zyR _ _ _ _ [some (.ref (43 + 3)), some (.int x1), some (.int x2), some (.int x3), some (.int x4)] [] _ _ from ?_))
    · replace h := zy_ifp h b11
      exact zy_sub (show zy_le [some (.ref (43 + 3)), some (.int x1), some (.int x2), some (.int x3), some (.int x4)] [some (.ref (43 + 3)), some (.int x1), some (.int x2), some (.int x3), some (.int x4)] from ⟨rfl, ⟨rfl, ⟨rfl, ⟨rfl, ⟨rfl, trivial⟩⟩⟩⟩⟩) (zyC224_79 hk26 h)
    · replace h := zy_ifn h b11
      refine zy_2 rfl rfl (show zyR _ _ _ _ [some (.ref (43 + 3)), some (.int x1), some (.int x2), some (.int x3), some (.int x4)] [.int x3] _ _ from ?_)
      refine zy_24_2 rfl (fun b10 => (show zyR _ _ _ _ [some (.ref (43 + 3)), some (.int x1), some (.int x2), some (.int x3), some (.int x4)] [] _ _ from ?_)) (fun b10 => (show zyR _ _ _ _ [some (.ref (43 + 3)), some (.int x1), some (.int x2), some (.int x3), some (.int x4)] [] _ _ from ?_))
      · replace h := zy_ifp h b10
        exact zy_sub (show zy_le [some (.ref (43 + 3)), some (.int x1), some (.int x2), some (.int x3), some (.int x4)] [some (.ref (43 + 3)), some (.int x1), some (.int x2), some (.int x3), some (.int x4)] from ⟨rfl, ⟨rfl, ⟨rfl, ⟨rfl, ⟨rfl, trivial⟩⟩⟩⟩⟩) (zyC224_66 hk26 h)
      · replace h := zy_ifn h b10
        refine zy_2 rfl rfl (show zyR _ _ _ _ [some (.ref (43 + 3)), some (.int x1), some (.int x2), some (.int x3), some (.int x4)] [.int x4] _ _ from ?_)
        obtain ⟨p7, hp7, h⟩ := zy_bind h
        refine zy_60 (as := [.int x4]) (rest := []) (L := [some (.int x4), none, none]) (d' := 1) rfl rfl (Nat.le_of_ble_eq_true rfl) (Nat.le_of_ble_eq_true rfl) rfl (Nat.le_of_ble_eq_true rfl) rfl rfl (zyC209 hp7) ?_
        show zyR _ _ _ _ [some (.ref (43 + 3)), some (.int x1), some (.int x2), some (.int x3), some (.int x4)] [.int p7.1] _ _
        refine zy_2 rfl rfl (show zyR _ _ _ _ [some (.ref (43 + 3)), some (.int x1), some (.int x2), some (.int x3), some (.int x4)] [.int x3, .int p7.1] _ _ from ?_)
        obtain ⟨p8, hp8, h⟩ := zy_bind h
        refine zy_60 (as := [.int x3]) (rest := [.int p7.1]) (L := [some (.int x3), none, none]) (d' := 1) rfl rfl (Nat.le_of_ble_eq_true rfl) (Nat.le_of_ble_eq_true rfl) rfl (Nat.le_of_ble_eq_true rfl) rfl rfl (zyC209 hp8) ?_
        show zyR _ _ _ _ [some (.ref (43 + 3)), some (.int x1), some (.int x2), some (.int x3), some (.int x4)] [.int p8.1, .int p7.1] _ _
        refine zy_25_3 rfl (fun b9 => (show zyR _ _ _ _ [some (.ref (43 + 3)), some (.int x1), some (.int x2), some (.int x3), some (.int x4)] [] _ _ from ?_)) (fun b9 => (show zyR _ _ _ _ [some (.ref (43 + 3)), some (.int x1), some (.int x2), some (.int x3), some (.int x4)] [] _ _ from ?_))
        · replace h := zy_ifp h b9
          exact zy_sub (show zy_le [some (.ref (43 + 3)), some (.int x1), some (.int x2), some (.int x3), some (.int x4)] [some (.ref (43 + 3)), some (.int x1), some (.int x2), some (.int x3), some (.int x4)] from ⟨rfl, ⟨rfl, ⟨rfl, ⟨rfl, ⟨rfl, trivial⟩⟩⟩⟩⟩) (zyC224_79 hk26 h)
        · replace h := zy_ifn h b9
          exact zy_sub (show zy_le [some (.ref (43 + 3)), some (.int x1), some (.int x2), some (.int x3), some (.int x4)] [some (.ref (43 + 3)), some (.int x1), some (.int x2), some (.int x3), some (.int x4)] from ⟨rfl, ⟨rfl, ⟨rfl, ⟨rfl, ⟨rfl, trivial⟩⟩⟩⟩⟩) (zyC224_66 hk26 h)
noncomputable def zyF224_26   (n : Nat) : Int32 → Int32 → Int32 → Int32 → zy_S → Option (Int32 × zy_S) := Nat.rec (fun _ _ _ _ _ => none) (fun _ k26 => zyF224_26b k26) n
theorem zyC224_26 {X : zx_X}     : ∀ (n : Nat) (x1 : Int32) (x2 : Int32) (x3 : Int32) (x4 : Int32) (s : zy_S) (r : Int32) (s' : zy_S), zyF224_26 n x1 x2 x3 x4 s = some (r, s') → zyR X 5 224 26 [some (.ref (43 + 3)), some (.int x1), some (.int x2), some (.int x3), some (.int x4)] [] s (zyE (some (.int r)) s')
  | 0, _, _, _, _ => by
    intro s r s'  h
    have h : (none : Option (Int32 × zy_S)) = some (r, s') := h
    cases h
  | n + 1, x1, x2, x3, x4 => by
    intro s r s'  h
    exact zyC224_26b (k26 := zyF224_26 n) (fun x1 x2 x3 x4 s r s'  h => zyC224_26  n x1 x2 x3 x4 s r s'  h) h
noncomputable def zyF224   (x1 : Int32) (x2 : Int32) (s : zy_S) : Option (Int32 × zy_S) :=
(zyF186 (x1).toInt64 s).bind fun p13 =>
if p13.1 = 0 then
some ((-1 : Int32), p13.2)
else
(zyF179 (x2).toInt64 (0 : Int64) (1 : Int64) p13.2).bind fun p14 =>
if p14.1 ≠ 0 then
zyF224_26 zy_fu x1 x2 (-2 : Int32) (0 : Int32) p14.2
else
some ((-1 : Int32), p14.2)
theorem zyC224 {X : zx_X}     {x1 : Int32} {x2 : Int32} {s : zy_S} {r : Int32} {s' : zy_S}  (h : zyF224 x1 x2 s = some (r, s')) : zyR X 5 224 0 [some (.ref (43 + 3)), some (.int x1), some (.int x2), none, none] [] s (zyE (some (.int r)) s') := by
  unfold zyF224 at h
  refine zy_2 rfl rfl (show zyR _ _ _ _ [some (.ref (43 + 3)), some (.int x1), some (.int x2), none, none] [.int x1] _ _ from ?_)
  refine zy_40 rfl (show zyR _ _ _ _ [some (.ref (43 + 3)), some (.int x1), some (.int x2), none, none] [.long (x1).toInt64] _ _ from ?_)
  obtain ⟨p13, hp13, h⟩ := zy_bind h
  refine zy_60 (as := [.long (x1).toInt64]) (rest := []) (L := [some (.long (x1).toInt64), none]) (d' := 2) rfl rfl (Nat.le_of_ble_eq_true rfl) (Nat.le_of_ble_eq_true rfl) rfl (Nat.le_of_ble_eq_true rfl) rfl rfl (zyC186 hp13) ?_
  show zyR _ _ _ _ [some (.ref (43 + 3)), some (.int x1), some (.int x2), none, none] [.int p13.1] _ _
  refine zy_24_0 rfl (fun b16 => (show zyR _ _ _ _ [some (.ref (43 + 3)), some (.int x1), some (.int x2), none, none] [] _ _ from ?_)) (fun b16 => (show zyR _ _ _ _ [some (.ref (43 + 3)), some (.int x1), some (.int x2), none, none] [] _ _ from ?_))
  · replace h := zy_ifp h b16
    refine zy_3 rfl rfl (show zyR _ _ _ _ [some (.ref (43 + 3)), some (.int x1), some (.int x2), none, none] [.int (-1 : Int32)] _ _ from ?_)
    cases h
    exact zy_4 rfl ⟨rfl, rfl⟩
  · replace h := zy_ifn h b16
    refine zy_2 rfl rfl (show zyR _ _ _ _ [some (.ref (43 + 3)), some (.int x1), some (.int x2), none, none] [.int x2] _ _ from ?_)
    refine zy_40 rfl (show zyR _ _ _ _ [some (.ref (43 + 3)), some (.int x1), some (.int x2), none, none] [.long (x2).toInt64] _ _ from ?_)
    refine zy_36 rfl rfl (show zyR _ _ _ _ [some (.ref (43 + 3)), some (.int x1), some (.int x2), none, none] [.long (0 : Int64), .long (x2).toInt64] _ _ from ?_)
    refine zy_36 rfl rfl (show zyR _ _ _ _ [some (.ref (43 + 3)), some (.int x1), some (.int x2), none, none] [.long (1 : Int64), .long (0 : Int64), .long (x2).toInt64] _ _ from ?_)
    obtain ⟨p14, hp14, h⟩ := zy_bind h
    refine zy_60 (as := [.long (x2).toInt64, .long (0 : Int64), .long (1 : Int64)]) (rest := []) (L := [some (.long (x2).toInt64), none, some (.long (0 : Int64)), none, some (.long (1 : Int64)), none]) (d' := 1) rfl rfl (Nat.le_of_ble_eq_true rfl) (Nat.le_of_ble_eq_true rfl) rfl (Nat.le_of_ble_eq_true rfl) rfl rfl (zyC179 hp14) ?_
    show zyR _ _ _ _ [some (.ref (43 + 3)), some (.int x1), some (.int x2), none, none] [.int p14.1] _ _
    refine zy_24_1 rfl (fun b15 => (show zyR _ _ _ _ [some (.ref (43 + 3)), some (.int x1), some (.int x2), none, none] [] _ _ from ?_)) (fun b15 => (show zyR _ _ _ _ [some (.ref (43 + 3)), some (.int x1), some (.int x2), none, none] [] _ _ from ?_))
    · replace h := zy_ifp h b15
      refine zy_3 rfl rfl (show zyR _ _ _ _ [some (.ref (43 + 3)), some (.int x1), some (.int x2), none, none] [.int (-2 : Int32)] _ _ from ?_)
      refine zy_23 rfl rfl (show zyR _ _ _ _ [some (.ref (43 + 3)), some (.int x1), some (.int x2), some (.int (-2 : Int32)), none] [] _ _ from ?_)
      refine zy_3 rfl rfl (show zyR _ _ _ _ [some (.ref (43 + 3)), some (.int x1), some (.int x2), some (.int (-2 : Int32)), none] [.int (0 : Int32)] _ _ from ?_)
      refine zy_23 rfl rfl (show zyR _ _ _ _ [some (.ref (43 + 3)), some (.int x1), some (.int x2), some (.int (-2 : Int32)), some (.int (0 : Int32))] [] _ _ from ?_)
      exact zy_sub (show zy_le [some (.ref (43 + 3)), some (.int x1), some (.int x2), some (.int (-2 : Int32)), some (.int (0 : Int32))] [some (.ref (43 + 3)), some (.int x1), some (.int x2), some (.int (-2 : Int32)), some (.int (0 : Int32))] from ⟨rfl, ⟨rfl, ⟨rfl, ⟨rfl, ⟨rfl, trivial⟩⟩⟩⟩⟩) (zyC224_26 zy_fu x1 x2 (-2 : Int32) (0 : Int32) p14.2 _ _ h)
    · replace h := zy_ifn h b15
      refine zy_3 rfl rfl (show zyR _ _ _ _ [some (.ref (43 + 3)), some (.int x1), some (.int x2), none, none] [.int (-1 : Int32)] _ _ from ?_)
      cases h
      exact zy_4 rfl ⟨rfl, rfl⟩
/-! NineOpinions.writersOf(LNineOpinions$Shelf;)I -/
noncomputable def zyF117_41  (k4 : Nat → Int32 → Int32 → zy_S → Option (Int32 × zy_S)) (x1 : Nat) (x3 : Int32) (y0 : Int32) (y1 : Int32) (s : zy_S) : Option (Int32 × zy_S) :=
k4 x1 (y1 ||| y0) (x3 + (1 : Int32)) s
theorem zyC117_41 {X : zx_X}  {k4 : Nat → Int32 → Int32 → zy_S → Option (Int32 × zy_S)}  (hk4 : ∀ (x1 : Nat) (x2 : Int32) (x3 : Int32) (s : zy_S) (r : Int32) (s' : zy_S) (hs_x1 : zy_isSh x1), k4 x1 x2 x3 s = some (r, s') → zyR X 5 117 4 [some (.ref (0 + 3)), some (.ref (x1 + 3)), some (.int x2), some (.int x3)] [] s (zyE (some (.int r)) s')) {x1 : Nat} {x3 : Int32} {y0 : Int32} {y1 : Int32} {s : zy_S} {r : Int32} {s' : zy_S} (hs_x1 : zy_isSh x1) (h : zyF117_41 k4 x1 x3 y0 y1 s = some (r, s')) : zyR X 5 117 41 [some (.ref (0 + 3)), some (.ref (x1 + 3)), none, some (.int x3)] [.int y0, .int y1] s (zyE (some (.int r)) s') := by
  unfold zyF117_41 at h
  refine zy_14 rfl (show zyR _ _ _ _ [some (.ref (0 + 3)), some (.ref (x1 + 3)), none, some (.int x3)] [.int (y1 ||| y0)] _ _ from ?_)
  refine zy_23 rfl rfl (show zyR _ _ _ _ [some (.ref (0 + 3)), some (.ref (x1 + 3)), some (.int (y1 ||| y0)), some (.int x3)] [] _ _ from ?_)
  refine zy_22 rfl rfl rfl rfl (show zyR _ _ _ _ [some (.ref (0 + 3)), some (.ref (x1 + 3)), some (.int (y1 ||| y0)), some (.int (x3 + (1 : Int32)))] [] _ _ from ?_)
  refine zy_6 rfl (show zyR _ _ _ _ [some (.ref (0 + 3)), some (.ref (x1 + 3)), some (.int (y1 ||| y0)), some (.int (x3 + (1 : Int32)))] [] _ _ from ?_)
  exact zy_sub (show zy_le [some (.ref (0 + 3)), some (.ref (x1 + 3)), some (.int (y1 ||| y0)), some (.int (x3 + (1 : Int32)))] [some (.ref (0 + 3)), some (.ref (x1 + 3)), some (.int (y1 ||| y0)), some (.int (x3 + (1 : Int32)))] from ⟨rfl, ⟨rfl, ⟨rfl, ⟨rfl, trivial⟩⟩⟩⟩) (hk4 x1 (y1 ||| y0) (x3 + (1 : Int32)) s _ _ hs_x1 h)
noncomputable def zyF117_4b  (k4 : Nat → Int32 → Int32 → zy_S → Option (Int32 × zy_S)) (x1 : Nat) (x2 : Int32) (x3 : Int32) (s : zy_S) : Option (Int32 × zy_S) :=
if (s.1 1 5) ≤ x3 then
some (x2, s)
else
if zy_in x3 8 then
(zyF108 x1 (s.1 3 (x3).toNatClampNeg) s).bind fun p2 =>
if p2.1 ≠ (-2 : Int32) then
zyF117_41 k4 x1 x3 (0 : Int32) x2 p2.2
else
zyF117_41 k4 x1 x3 ((1 : Int32) <<< (x3 &&& 31)) x2 p2.2
else none
theorem zyC117_4b {X : zx_X}  {k4 : Nat → Int32 → Int32 → zy_S → Option (Int32 × zy_S)}  (hk4 : ∀ (x1 : Nat) (x2 : Int32) (x3 : Int32) (s : zy_S) (r : Int32) (s' : zy_S) (hs_x1 : zy_isSh x1), k4 x1 x2 x3 s = some (r, s') → zyR X 5 117 4 [some (.ref (0 + 3)), some (.ref (x1 + 3)), some (.int x2), some (.int x3)] [] s (zyE (some (.int r)) s')) {x1 : Nat} {x2 : Int32} {x3 : Int32} {s : zy_S} {r : Int32} {s' : zy_S} (hs_x1 : zy_isSh x1) (h : zyF117_4b k4 x1 x2 x3 s = some (r, s')) : zyR X 5 117 4 [some (.ref (0 + 3)), some (.ref (x1 + 3)), some (.int x2), some (.int x3)] [] s (zyE (some (.int r)) s') := by
  unfold zyF117_4b at h
  refine zy_2 rfl rfl (show zyR _ _ _ _ [some (.ref (0 + 3)), some (.ref (x1 + 3)), some (.int x2), some (.int x3)] [.int x3] _ _ from ?_)
  refine zy_0 rfl rfl (show zyR _ _ _ _ [some (.ref (0 + 3)), some (.ref (x1 + 3)), some (.int x2), some (.int x3)] [.ref (0 + 3), .int x3] _ _ from ?_)
  refine zy_1r (c := 0) rfl rfl rfl (show zyR _ _ _ _ [some (.ref (0 + 3)), some (.ref (x1 + 3)), some (.int x2), some (.int x3)] [.ref (1 + 3), .int x3] _ _ from ?_)
  refine zy_1 (c := 1) rfl rfl rfl (show zyR _ _ _ _ [some (.ref (0 + 3)), some (.ref (x1 + 3)), some (.int x2), some (.int x3)] [.int (s.1 1 5), .int x3] _ _ from ?_)
  refine zy_25_3 rfl (fun b4 => (show zyR _ _ _ _ [some (.ref (0 + 3)), some (.ref (x1 + 3)), some (.int x2), some (.int x3)] [] _ _ from ?_)) (fun b4 => (show zyR _ _ _ _ [some (.ref (0 + 3)), some (.ref (x1 + 3)), some (.int x2), some (.int x3)] [] _ _ from ?_))
  · replace h := zy_ifp h b4
    refine zy_2 rfl rfl (show zyR _ _ _ _ [some (.ref (0 + 3)), some (.ref (x1 + 3)), some (.int x2), some (.int x3)] [.int x2] _ _ from ?_)
    cases h
    exact zy_4 rfl ⟨rfl, rfl⟩
  · replace h := zy_ifn h b4
    refine zy_2 rfl rfl (show zyR _ _ _ _ [some (.ref (0 + 3)), some (.ref (x1 + 3)), some (.int x2), some (.int x3)] [.int x2] _ _ from ?_)
    refine zy_0 rfl rfl (show zyR _ _ _ _ [some (.ref (0 + 3)), some (.ref (x1 + 3)), some (.int x2), some (.int x3)] [.ref (x1 + 3), .int x2] _ _ from ?_)
    refine zy_0 rfl rfl (show zyR _ _ _ _ [some (.ref (0 + 3)), some (.ref (x1 + 3)), some (.int x2), some (.int x3)] [.ref (0 + 3), .ref (x1 + 3), .int x2] _ _ from ?_)
    refine zy_1r (c := 0) rfl rfl rfl (show zyR _ _ _ _ [some (.ref (0 + 3)), some (.ref (x1 + 3)), some (.int x2), some (.int x3)] [.ref (1 + 3), .ref (x1 + 3), .int x2] _ _ from ?_)
    refine zy_1r (c := 1) rfl rfl rfl (show zyR _ _ _ _ [some (.ref (0 + 3)), some (.ref (x1 + 3)), some (.int x2), some (.int x3)] [.ref (3 + 3), .ref (x1 + 3), .int x2] _ _ from ?_)
    refine zy_2 rfl rfl (show zyR _ _ _ _ [some (.ref (0 + 3)), some (.ref (x1 + 3)), some (.int x2), some (.int x3)] [.int x3, .ref (3 + 3), .ref (x1 + 3), .int x2] _ _ from ?_)
    obtain ⟨c1, h⟩ := zy_if h
    refine zy_26 (c := 3) rfl rfl c1 (show zyR _ _ _ _ [some (.ref (0 + 3)), some (.ref (x1 + 3)), some (.int x2), some (.int x3)] [.int (s.1 3 (x3).toNatClampNeg), .ref (x1 + 3), .int x2] _ _ from ?_)
    obtain ⟨p2, hp2, h⟩ := zy_bind h
    refine zy_60 (as := [.ref (x1 + 3), .int (s.1 3 (x3).toNatClampNeg)]) (rest := [.int x2]) (L := [some (.ref (x1 + 3)), some (.int (s.1 3 (x3).toNatClampNeg)), none, none]) (d' := 4) rfl rfl (Nat.le_of_ble_eq_true rfl) (Nat.le_of_ble_eq_true rfl) rfl (Nat.le_of_ble_eq_true rfl) rfl rfl (zyC108 hs_x1 hp2) ?_
    show zyR _ _ _ _ [some (.ref (0 + 3)), some (.ref (x1 + 3)), some (.int x2), some (.int x3)] [.int p2.1, .int x2] _ _
    refine zy_3 rfl rfl (show zyR _ _ _ _ [some (.ref (0 + 3)), some (.ref (x1 + 3)), some (.int x2), some (.int x3)] [.int (-2 : Int32), .int p2.1, .int x2] _ _ from ?_)
    refine zy_25_1 rfl (fun b3 => (show zyR _ _ _ _ [some (.ref (0 + 3)), some (.ref (x1 + 3)), some (.int x2), some (.int x3)] [.int x2] _ _ from ?_)) (fun b3 => (show zyR _ _ _ _ [some (.ref (0 + 3)), some (.ref (x1 + 3)), some (.int x2), some (.int x3)] [.int x2] _ _ from ?_))
    · replace h := zy_ifp h b3
      refine zy_3 rfl rfl (show zyR _ _ _ _ [some (.ref (0 + 3)), some (.ref (x1 + 3)), some (.int x2), some (.int x3)] [.int (0 : Int32), .int x2] _ _ from ?_)
      exact zy_sub (show zy_le [some (.ref (0 + 3)), some (.ref (x1 + 3)), none, some (.int x3)] [some (.ref (0 + 3)), some (.ref (x1 + 3)), some (.int x2), some (.int x3)] from ⟨rfl, ⟨rfl, ⟨rfl, trivial⟩⟩⟩) (zyC117_41 hk4 hs_x1 h)
    · replace h := zy_ifn h b3
      refine zy_3 rfl rfl (show zyR _ _ _ _ [some (.ref (0 + 3)), some (.ref (x1 + 3)), some (.int x2), some (.int x3)] [.int (1 : Int32), .int x2] _ _ from ?_)
      refine zy_2 rfl rfl (show zyR _ _ _ _ [some (.ref (0 + 3)), some (.ref (x1 + 3)), some (.int x2), some (.int x3)] [.int x3, .int (1 : Int32), .int x2] _ _ from ?_)
      refine zy_16 rfl (show zyR _ _ _ _ [some (.ref (0 + 3)), some (.ref (x1 + 3)), some (.int x2), some (.int x3)] [.int ((1 : Int32) <<< (x3 &&& 31)), .int x2] _ _ from ?_)
      refine zy_6 rfl (show zyR _ _ _ _ [some (.ref (0 + 3)), some (.ref (x1 + 3)), some (.int x2), some (.int x3)] [.int ((1 : Int32) <<< (x3 &&& 31)), .int x2] _ _ from ?_)
      exact zy_sub (show zy_le [some (.ref (0 + 3)), some (.ref (x1 + 3)), none, some (.int x3)] [some (.ref (0 + 3)), some (.ref (x1 + 3)), some (.int x2), some (.int x3)] from ⟨rfl, ⟨rfl, ⟨rfl, trivial⟩⟩⟩) (zyC117_41 hk4 hs_x1 h)
noncomputable def zyF117_4   (n : Nat) : Nat → Int32 → Int32 → zy_S → Option (Int32 × zy_S) := Nat.rec (fun _ _ _ _ => none) (fun _ k4 => zyF117_4b k4) n
theorem zyC117_4 {X : zx_X}     : ∀ (n : Nat) (x1 : Nat) (x2 : Int32) (x3 : Int32) (s : zy_S) (r : Int32) (s' : zy_S) (hs_x1 : zy_isSh x1), zyF117_4 n x1 x2 x3 s = some (r, s') → zyR X 5 117 4 [some (.ref (0 + 3)), some (.ref (x1 + 3)), some (.int x2), some (.int x3)] [] s (zyE (some (.int r)) s')
  | 0, _, _, _ => by
    intro s r s' hs_x1 h
    have h : (none : Option (Int32 × zy_S)) = some (r, s') := h
    cases h
  | n + 1, x1, x2, x3 => by
    intro s r s' hs_x1 h
    exact zyC117_4b (k4 := zyF117_4 n) (fun x1 x2 x3 s r s' hs_x1 h => zyC117_4  n x1 x2 x3 s r s' hs_x1 h) hs_x1 h
noncomputable def zyF117   (x1 : Nat) (s : zy_S) : Option (Int32 × zy_S) :=
zyF117_4 zy_fu x1 (0 : Int32) (0 : Int32) s
theorem zyC117 {X : zx_X}     {x1 : Nat} {s : zy_S} {r : Int32} {s' : zy_S} (hs_x1 : zy_isSh x1) (h : zyF117 x1 s = some (r, s')) : zyR X 5 117 0 [some (.ref (0 + 3)), some (.ref (x1 + 3)), none, none] [] s (zyE (some (.int r)) s') := by
  unfold zyF117 at h
  refine zy_3 rfl rfl (show zyR _ _ _ _ [some (.ref (0 + 3)), some (.ref (x1 + 3)), none, none] [.int (0 : Int32)] _ _ from ?_)
  refine zy_23 rfl rfl (show zyR _ _ _ _ [some (.ref (0 + 3)), some (.ref (x1 + 3)), some (.int (0 : Int32)), none] [] _ _ from ?_)
  refine zy_3 rfl rfl (show zyR _ _ _ _ [some (.ref (0 + 3)), some (.ref (x1 + 3)), some (.int (0 : Int32)), none] [.int (0 : Int32)] _ _ from ?_)
  refine zy_23 rfl rfl (show zyR _ _ _ _ [some (.ref (0 + 3)), some (.ref (x1 + 3)), some (.int (0 : Int32)), some (.int (0 : Int32))] [] _ _ from ?_)
  exact zy_sub (show zy_le [some (.ref (0 + 3)), some (.ref (x1 + 3)), some (.int (0 : Int32)), some (.int (0 : Int32))] [some (.ref (0 + 3)), some (.ref (x1 + 3)), some (.int (0 : Int32)), some (.int (0 : Int32))] from ⟨rfl, ⟨rfl, ⟨rfl, ⟨rfl, trivial⟩⟩⟩⟩) (zyC117_4 zy_fu x1 (0 : Int32) (0 : Int32) s _ _ hs_x1 h)
/-! NineOpinions$Book.codesFor(LNineOpinions$Shelf;)I -/
noncomputable def zyF118_35b  (k35 : Nat → Int32 → Int32 → zy_S → Option (Int32 × zy_S)) (x0 : Nat) (x1 : Int32) (x2 : Int32) (s : zy_S) : Option (Int32 × zy_S) :=
if (6 : Int32) ≤ x2 then
some (x1, s)
else
(zyF113 x0 x2 s).bind fun p1 =>
(zyF63 p1.1 p1.2).bind fun p2 =>
k35 x0 (x1 * p2.1) (x2 + (1 : Int32)) p2.2
theorem zyC118_35b {X : zx_X}  {k35 : Nat → Int32 → Int32 → zy_S → Option (Int32 × zy_S)}  (hk35 : ∀ (x0 : Nat) (x1 : Int32) (x2 : Int32) (s : zy_S) (r : Int32) (s' : zy_S) (hs_x0 : zy_isSh x0), k35 x0 x1 x2 s = some (r, s') → zyR X 6 118 35 [some (.ref (x0 + 3)), some (.int x1), some (.int x2)] [] s (zyE (some (.int r)) s')) {x0 : Nat} {x1 : Int32} {x2 : Int32} {s : zy_S} {r : Int32} {s' : zy_S} (hs_x0 : zy_isSh x0) (h : zyF118_35b k35 x0 x1 x2 s = some (r, s')) : zyR X 6 118 35 [some (.ref (x0 + 3)), some (.int x1), some (.int x2)] [] s (zyE (some (.int r)) s') := by
  unfold zyF118_35b at h
  refine zy_2 rfl rfl (show zyR _ _ _ _ [some (.ref (x0 + 3)), some (.int x1), some (.int x2)] [.int x2] _ _ from ?_)
  refine zy_3 rfl rfl (show zyR _ _ _ _ [some (.ref (x0 + 3)), some (.int x1), some (.int x2)] [.int (6 : Int32), .int x2] _ _ from ?_)
  refine zy_25_3 rfl (fun b3 => (show zyR _ _ _ _ [some (.ref (x0 + 3)), some (.int x1), some (.int x2)] [] _ _ from ?_)) (fun b3 => (show zyR _ _ _ _ [some (.ref (x0 + 3)), some (.int x1), some (.int x2)] [] _ _ from ?_))
  · replace h := zy_ifp h b3
    refine zy_2 rfl rfl (show zyR _ _ _ _ [some (.ref (x0 + 3)), some (.int x1), some (.int x2)] [.int x1] _ _ from ?_)
    cases h
    exact zy_4 rfl ⟨rfl, rfl⟩
  · replace h := zy_ifn h b3
    refine zy_2 rfl rfl (show zyR _ _ _ _ [some (.ref (x0 + 3)), some (.int x1), some (.int x2)] [.int x1] _ _ from ?_)
    refine zy_0 rfl rfl (show zyR _ _ _ _ [some (.ref (x0 + 3)), some (.int x1), some (.int x2)] [.ref (x0 + 3), .int x1] _ _ from ?_)
    refine zy_2 rfl rfl (show zyR _ _ _ _ [some (.ref (x0 + 3)), some (.int x1), some (.int x2)] [.int x2, .ref (x0 + 3), .int x1] _ _ from ?_)
    obtain ⟨p1, hp1, h⟩ := zy_bind h
    refine zy_60 (as := [.ref (x0 + 3), .int x2]) (rest := [.int x1]) (L := [some (.ref (x0 + 3)), some (.int x2), none, none]) (d' := 5) rfl rfl (Nat.le_of_ble_eq_true rfl) (Nat.le_of_ble_eq_true rfl) rfl (Nat.le_of_ble_eq_true rfl) rfl rfl (zyC113 hs_x0 hp1) ?_
    show zyR _ _ _ _ [some (.ref (x0 + 3)), some (.int x1), some (.int x2)] [.int p1.1, .int x1] _ _
    obtain ⟨p2, hp2, h⟩ := zy_bind h
    refine zy_60 (as := [.int p1.1]) (rest := [.int x1]) (L := [some (.int p1.1)]) (d' := 1) rfl rfl (Nat.le_of_ble_eq_true rfl) (Nat.le_of_ble_eq_true rfl) rfl (Nat.le_of_ble_eq_true rfl) rfl rfl (zyC63 hp2) ?_
    show zyR _ _ _ _ [some (.ref (x0 + 3)), some (.int x1), some (.int x2)] [.int p2.1, .int x1] _ _
    refine zy_12 rfl (show zyR _ _ _ _ [some (.ref (x0 + 3)), some (.int x1), some (.int x2)] [.int (x1 * p2.1)] _ _ from ?_)
    refine zy_23 rfl rfl (show zyR _ _ _ _ [some (.ref (x0 + 3)), some (.int (x1 * p2.1)), some (.int x2)] [] _ _ from ?_)
    refine zy_22 rfl rfl rfl rfl (show zyR _ _ _ _ [some (.ref (x0 + 3)), some (.int (x1 * p2.1)), some (.int (x2 + (1 : Int32)))] [] _ _ from ?_)
    refine zy_6 rfl (show zyR _ _ _ _ [some (.ref (x0 + 3)), some (.int (x1 * p2.1)), some (.int (x2 + (1 : Int32)))] [] _ _ from ?_)
    exact zy_sub (show zy_le [some (.ref (x0 + 3)), some (.int (x1 * p2.1)), some (.int (x2 + (1 : Int32)))] [some (.ref (x0 + 3)), some (.int (x1 * p2.1)), some (.int (x2 + (1 : Int32)))] from ⟨rfl, ⟨rfl, ⟨rfl, trivial⟩⟩⟩) (hk35 x0 (x1 * p2.1) (x2 + (1 : Int32)) p2.2 _ _ hs_x0 h)
noncomputable def zyF118_35   (n : Nat) : Nat → Int32 → Int32 → zy_S → Option (Int32 × zy_S) := Nat.rec (fun _ _ _ _ => none) (fun _ k35 => zyF118_35b k35) n
theorem zyC118_35 {X : zx_X}     : ∀ (n : Nat) (x0 : Nat) (x1 : Int32) (x2 : Int32) (s : zy_S) (r : Int32) (s' : zy_S) (hs_x0 : zy_isSh x0), zyF118_35 n x0 x1 x2 s = some (r, s') → zyR X 6 118 35 [some (.ref (x0 + 3)), some (.int x1), some (.int x2)] [] s (zyE (some (.int r)) s')
  | 0, _, _, _ => by
    intro s r s' hs_x0 h
    have h : (none : Option (Int32 × zy_S)) = some (r, s') := h
    cases h
  | n + 1, x0, x1, x2 => by
    intro s r s' hs_x0 h
    exact zyC118_35b (k35 := zyF118_35 n) (fun x0 x1 x2 s r s' hs_x0 h => zyC118_35  n x0 x1 x2 s r s' hs_x0 h) hs_x0 h
noncomputable def zyF118_26  (k4 : Nat → Int32 → Int32 → zy_S → Option (Int32 × zy_S)) (x0 : Nat) (x2 : Int32) (y0 : Int32) (s : zy_S) : Option (Int32 × zy_S) :=
k4 x0 y0 (x2 + (1 : Int32)) s
theorem zyC118_26 {X : zx_X}  {k4 : Nat → Int32 → Int32 → zy_S → Option (Int32 × zy_S)}  (hk4 : ∀ (x0 : Nat) (x1 : Int32) (x2 : Int32) (s : zy_S) (r : Int32) (s' : zy_S) (hs_x0 : zy_isSh x0), k4 x0 x1 x2 s = some (r, s') → zyR X 6 118 4 [some (.ref (x0 + 3)), some (.int x1), some (.int x2)] [] s (zyE (some (.int r)) s')) {x0 : Nat} {x2 : Int32} {y0 : Int32} {s : zy_S} {r : Int32} {s' : zy_S} (hs_x0 : zy_isSh x0) (h : zyF118_26 k4 x0 x2 y0 s = some (r, s')) : zyR X 6 118 26 [some (.ref (x0 + 3)), none, some (.int x2)] [.int y0] s (zyE (some (.int r)) s') := by
  unfold zyF118_26 at h
  refine zy_23 rfl rfl (show zyR _ _ _ _ [some (.ref (x0 + 3)), some (.int y0), some (.int x2)] [] _ _ from ?_)
  refine zy_22 rfl rfl rfl rfl (show zyR _ _ _ _ [some (.ref (x0 + 3)), some (.int y0), some (.int (x2 + (1 : Int32)))] [] _ _ from ?_)
  refine zy_6 rfl (show zyR _ _ _ _ [some (.ref (x0 + 3)), some (.int y0), some (.int (x2 + (1 : Int32)))] [] _ _ from ?_)
  exact zy_sub (show zy_le [some (.ref (x0 + 3)), some (.int y0), some (.int (x2 + (1 : Int32)))] [some (.ref (x0 + 3)), some (.int y0), some (.int (x2 + (1 : Int32)))] from ⟨rfl, ⟨rfl, ⟨rfl, trivial⟩⟩⟩) (hk4 x0 y0 (x2 + (1 : Int32)) s _ _ hs_x0 h)
noncomputable def zyF118_4b  (k4 : Nat → Int32 → Int32 → zy_S → Option (Int32 × zy_S)) (x0 : Nat) (x1 : Int32) (x2 : Int32) (s : zy_S) : Option (Int32 × zy_S) :=
(zyF109 x0 s).bind fun p4 =>
if p4.1 ≤ x2 then
zyF118_35 zy_fu x0 x1 (0 : Int32) p4.2
else
(zyF110 x0 x2 p4.2).bind fun p5 =>
if p5.1 ≠ (-1 : Int32) then
zyF118_26 k4 x0 x2 x1 p5.2
else
zyF118_26 k4 x0 x2 (0 : Int32) p5.2
theorem zyC118_4b {X : zx_X}  {k4 : Nat → Int32 → Int32 → zy_S → Option (Int32 × zy_S)}  (hk4 : ∀ (x0 : Nat) (x1 : Int32) (x2 : Int32) (s : zy_S) (r : Int32) (s' : zy_S) (hs_x0 : zy_isSh x0), k4 x0 x1 x2 s = some (r, s') → zyR X 6 118 4 [some (.ref (x0 + 3)), some (.int x1), some (.int x2)] [] s (zyE (some (.int r)) s')) {x0 : Nat} {x1 : Int32} {x2 : Int32} {s : zy_S} {r : Int32} {s' : zy_S} (hs_x0 : zy_isSh x0) (h : zyF118_4b k4 x0 x1 x2 s = some (r, s')) : zyR X 6 118 4 [some (.ref (x0 + 3)), some (.int x1), some (.int x2)] [] s (zyE (some (.int r)) s') := by
  unfold zyF118_4b at h
  refine zy_2 rfl rfl (show zyR _ _ _ _ [some (.ref (x0 + 3)), some (.int x1), some (.int x2)] [.int x2] _ _ from ?_)
  refine zy_0 rfl rfl (show zyR _ _ _ _ [some (.ref (x0 + 3)), some (.int x1), some (.int x2)] [.ref (x0 + 3), .int x2] _ _ from ?_)
  obtain ⟨p4, hp4, h⟩ := zy_bind h
  refine zy_60 (as := [.ref (x0 + 3)]) (rest := [.int x2]) (L := [some (.ref (x0 + 3))]) (d' := 1) rfl rfl (Nat.le_of_ble_eq_true rfl) (Nat.le_of_ble_eq_true rfl) rfl (Nat.le_of_ble_eq_true rfl) rfl rfl (zyC109 hs_x0 hp4) ?_
  show zyR _ _ _ _ [some (.ref (x0 + 3)), some (.int x1), some (.int x2)] [.int p4.1, .int x2] _ _
  refine zy_25_3 rfl (fun b7 => (show zyR _ _ _ _ [some (.ref (x0 + 3)), some (.int x1), some (.int x2)] [] _ _ from ?_)) (fun b7 => (show zyR _ _ _ _ [some (.ref (x0 + 3)), some (.int x1), some (.int x2)] [] _ _ from ?_))
  · replace h := zy_ifp h b7
    refine zy_3 rfl rfl (show zyR _ _ _ _ [some (.ref (x0 + 3)), some (.int x1), some (.int x2)] [.int (0 : Int32)] _ _ from ?_)
    refine zy_23 rfl rfl (show zyR _ _ _ _ [some (.ref (x0 + 3)), some (.int x1), some (.int (0 : Int32))] [] _ _ from ?_)
    exact zy_sub (show zy_le [some (.ref (x0 + 3)), some (.int x1), some (.int (0 : Int32))] [some (.ref (x0 + 3)), some (.int x1), some (.int (0 : Int32))] from ⟨rfl, ⟨rfl, ⟨rfl, trivial⟩⟩⟩) (zyC118_35 zy_fu x0 x1 (0 : Int32) p4.2 _ _ hs_x0 h)
  · replace h := zy_ifn h b7
    refine zy_0 rfl rfl (show zyR _ _ _ _ [some (.ref (x0 + 3)), some (.int x1), some (.int x2)] [.ref (x0 + 3)] _ _ from ?_)
    refine zy_2 rfl rfl (show zyR _ _ _ _ [some (.ref (x0 + 3)), some (.int x1), some (.int x2)] [.int x2, .ref (x0 + 3)] _ _ from ?_)
    obtain ⟨p5, hp5, h⟩ := zy_bind h
    refine zy_60 (as := [.ref (x0 + 3), .int x2]) (rest := []) (L := [some (.ref (x0 + 3)), some (.int x2), none]) (d' := 2) rfl rfl (Nat.le_of_ble_eq_true rfl) (Nat.le_of_ble_eq_true rfl) rfl (Nat.le_of_ble_eq_true rfl) rfl rfl (zyC110 hs_x0 hp5) ?_
    show zyR _ _ _ _ [some (.ref (x0 + 3)), some (.int x1), some (.int x2)] [.int p5.1] _ _
    refine zy_3 rfl rfl (show zyR _ _ _ _ [some (.ref (x0 + 3)), some (.int x1), some (.int x2)] [.int (-1 : Int32), .int p5.1] _ _ from ?_)
    refine zy_25_1 rfl (fun b6 => (show zyR _ _ _ _ [some (.ref (x0 + 3)), some (.int x1), some (.int x2)] [] _ _ from ?_)) (fun b6 => (show zyR _ _ _ _ [some (.ref (x0 + 3)), some (.int x1), some (.int x2)] [] _ _ from ?_))
    · replace h := zy_ifp h b6
      refine zy_2 rfl rfl (show zyR _ _ _ _ [some (.ref (x0 + 3)), some (.int x1), some (.int x2)] [.int x1] _ _ from ?_)
      exact zy_sub (show zy_le [some (.ref (x0 + 3)), none, some (.int x2)] [some (.ref (x0 + 3)), some (.int x1), some (.int x2)] from ⟨rfl, ⟨rfl, trivial⟩⟩) (zyC118_26 hk4 hs_x0 h)
    · replace h := zy_ifn h b6
      refine zy_3 rfl rfl (show zyR _ _ _ _ [some (.ref (x0 + 3)), some (.int x1), some (.int x2)] [.int (0 : Int32)] _ _ from ?_)
      refine zy_6 rfl (show zyR _ _ _ _ [some (.ref (x0 + 3)), some (.int x1), some (.int x2)] [.int (0 : Int32)] _ _ from ?_)
      exact zy_sub (show zy_le [some (.ref (x0 + 3)), none, some (.int x2)] [some (.ref (x0 + 3)), some (.int x1), some (.int x2)] from ⟨rfl, ⟨rfl, trivial⟩⟩) (zyC118_26 hk4 hs_x0 h)
noncomputable def zyF118_4   (n : Nat) : Nat → Int32 → Int32 → zy_S → Option (Int32 × zy_S) := Nat.rec (fun _ _ _ _ => none) (fun _ k4 => zyF118_4b k4) n
theorem zyC118_4 {X : zx_X}     : ∀ (n : Nat) (x0 : Nat) (x1 : Int32) (x2 : Int32) (s : zy_S) (r : Int32) (s' : zy_S) (hs_x0 : zy_isSh x0), zyF118_4 n x0 x1 x2 s = some (r, s') → zyR X 6 118 4 [some (.ref (x0 + 3)), some (.int x1), some (.int x2)] [] s (zyE (some (.int r)) s')
  | 0, _, _, _ => by
    intro s r s' hs_x0 h
    have h : (none : Option (Int32 × zy_S)) = some (r, s') := h
    cases h
  | n + 1, x0, x1, x2 => by
    intro s r s' hs_x0 h
    exact zyC118_4b (k4 := zyF118_4 n) (fun x0 x1 x2 s r s' hs_x0 h => zyC118_4  n x0 x1 x2 s r s' hs_x0 h) hs_x0 h
noncomputable def zyF118   (x0 : Nat) (s : zy_S) : Option (Int32 × zy_S) :=
zyF118_4 zy_fu x0 (1 : Int32) (0 : Int32) s
theorem zyC118 {X : zx_X}     {x0 : Nat} {s : zy_S} {r : Int32} {s' : zy_S} (hs_x0 : zy_isSh x0) (h : zyF118 x0 s = some (r, s')) : zyR X 6 118 0 [some (.ref (x0 + 3)), none, none] [] s (zyE (some (.int r)) s') := by
  unfold zyF118 at h
  refine zy_3 rfl rfl (show zyR _ _ _ _ [some (.ref (x0 + 3)), none, none] [.int (1 : Int32)] _ _ from ?_)
  refine zy_23 rfl rfl (show zyR _ _ _ _ [some (.ref (x0 + 3)), some (.int (1 : Int32)), none] [] _ _ from ?_)
  refine zy_3 rfl rfl (show zyR _ _ _ _ [some (.ref (x0 + 3)), some (.int (1 : Int32)), none] [.int (0 : Int32)] _ _ from ?_)
  refine zy_23 rfl rfl (show zyR _ _ _ _ [some (.ref (x0 + 3)), some (.int (1 : Int32)), some (.int (0 : Int32))] [] _ _ from ?_)
  exact zy_sub (show zy_le [some (.ref (x0 + 3)), some (.int (1 : Int32)), some (.int (0 : Int32))] [some (.ref (x0 + 3)), some (.int (1 : Int32)), some (.int (0 : Int32))] from ⟨rfl, ⟨rfl, ⟨rfl, trivial⟩⟩⟩) (zyC118_4 zy_fu x0 (1 : Int32) (0 : Int32) s _ _ hs_x0 h)
/-! NineOpinions.whose(II)I -/
noncomputable def zyF116   (x1 : Int32) (x2 : Int32) (s : zy_S) : Option (Int32 × zy_S) :=
(zyF18 x1 s).bind fun p1 =>
if p1.1 = 0 then
some ((-1 : Int32), p1.2)
else
(zyF84 x2 p1.2).bind fun p2 =>
if p2.1 ≠ 0 then
if zy_in x1 6 then
if zy_Wb p2.2 then
(zyF107 (zy_sh (x1).toNatClampNeg) (0 : Int32) p2.2).bind fun p5 =>
if p5.1 = 0 then
if x2 ≠ 0 then
if zy_in x1 6 then
if zy_Wb p5.2 then
(zyF118 (zy_sh (x1).toNatClampNeg) p5.2).bind fun p8 =>
some (p8.1, p8.2)
else none
else none
else
if zy_in x1 6 then
if zy_Wb p5.2 then
(zyF117 (zy_sh (x1).toNatClampNeg) p5.2).bind fun p11 =>
some (p11.1, p11.2)
else none
else none
else
some (p5.1, p5.2)
else none
else none
else
some ((-1 : Int32), p2.2)
theorem zyC116 {X : zx_X}     {x1 : Int32} {x2 : Int32} {s : zy_S} {r : Int32} {s' : zy_S}  (h : zyF116 x1 x2 s = some (r, s')) : zyR X 7 116 0 [some (.ref (0 + 3)), some (.int x1), some (.int x2), none] [] s (zyE (some (.int r)) s') := by
  unfold zyF116 at h
  refine zy_2 rfl rfl (show zyR _ _ _ _ [some (.ref (0 + 3)), some (.int x1), some (.int x2), none] [.int x1] _ _ from ?_)
  obtain ⟨p1, hp1, h⟩ := zy_bind h
  refine zy_60 (as := [.int x1]) (rest := []) (L := [some (.int x1)]) (d' := 1) rfl rfl (Nat.le_of_ble_eq_true rfl) (Nat.le_of_ble_eq_true rfl) rfl (Nat.le_of_ble_eq_true rfl) rfl rfl (zyC18 hp1) ?_
  show zyR _ _ _ _ [some (.ref (0 + 3)), some (.int x1), some (.int x2), none] [.int p1.1] _ _
  refine zy_24_0 rfl (fun b15 => (show zyR _ _ _ _ [some (.ref (0 + 3)), some (.int x1), some (.int x2), none] [] _ _ from ?_)) (fun b15 => (show zyR _ _ _ _ [some (.ref (0 + 3)), some (.int x1), some (.int x2), none] [] _ _ from ?_))
  · replace h := zy_ifp h b15
    refine zy_3 rfl rfl (show zyR _ _ _ _ [some (.ref (0 + 3)), some (.int x1), some (.int x2), none] [.int (-1 : Int32)] _ _ from ?_)
    cases h
    exact zy_4 rfl ⟨rfl, rfl⟩
  · replace h := zy_ifn h b15
    refine zy_2 rfl rfl (show zyR _ _ _ _ [some (.ref (0 + 3)), some (.int x1), some (.int x2), none] [.int x2] _ _ from ?_)
    obtain ⟨p2, hp2, h⟩ := zy_bind h
    refine zy_60 (as := [.int x2]) (rest := []) (L := [some (.int x2)]) (d' := 1) rfl rfl (Nat.le_of_ble_eq_true rfl) (Nat.le_of_ble_eq_true rfl) rfl (Nat.le_of_ble_eq_true rfl) rfl rfl (zyC84 hp2) ?_
    show zyR _ _ _ _ [some (.ref (0 + 3)), some (.int x1), some (.int x2), none] [.int p2.1] _ _
    refine zy_24_1 rfl (fun b14 => (show zyR _ _ _ _ [some (.ref (0 + 3)), some (.int x1), some (.int x2), none] [] _ _ from ?_)) (fun b14 => (show zyR _ _ _ _ [some (.ref (0 + 3)), some (.int x1), some (.int x2), none] [] _ _ from ?_))
    · replace h := zy_ifp h b14
      refine zy_0 rfl rfl (show zyR _ _ _ _ [some (.ref (0 + 3)), some (.int x1), some (.int x2), none] [.ref (0 + 3)] _ _ from ?_)
      refine zy_1r (c := 0) rfl rfl rfl (show zyR _ _ _ _ [some (.ref (0 + 3)), some (.int x1), some (.int x2), none] [.ref (30 + 3)] _ _ from ?_)
      refine zy_2 rfl rfl (show zyR _ _ _ _ [some (.ref (0 + 3)), some (.int x1), some (.int x2), none] [.int x1, .ref (30 + 3)] _ _ from ?_)
      obtain ⟨c3, h⟩ := zy_if h
      obtain ⟨c4, h⟩ := zy_if h
      refine zy_28 rfl (zy_Wb_g c4) c3 (show zyR _ _ _ _ [some (.ref (0 + 3)), some (.int x1), some (.int x2), none] [.ref ((zy_sh (x1).toNatClampNeg) + 3)] _ _ from ?_)
      refine zy_3 rfl rfl (show zyR _ _ _ _ [some (.ref (0 + 3)), some (.int x1), some (.int x2), none] [.int (0 : Int32), .ref ((zy_sh (x1).toNatClampNeg) + 3)] _ _ from ?_)
      obtain ⟨p5, hp5, h⟩ := zy_bind h
      refine zy_5 (c := (zy_sh (x1).toNatClampNeg)) (as := [.int (0 : Int32)]) (rest := []) (L := [some (.ref ((zy_sh (x1).toNatClampNeg) + 3)), some (.int (0 : Int32))]) (d' := 3) rfl rfl (zy_isSh_of (zy_in_lt c3)).1 (Nat.le_of_ble_eq_true rfl) (Nat.le_of_ble_eq_true rfl) rfl (Nat.le_of_ble_eq_true rfl) rfl rfl (zyC107 (zy_isSh_of (zy_in_lt c3)) hp5) ?_
      show zyR _ _ _ _ [some (.ref (0 + 3)), some (.int x1), some (.int x2), none] [.int p5.1] _ _
      refine zy_23 rfl rfl (show zyR _ _ _ _ [some (.ref (0 + 3)), some (.int x1), some (.int x2), some (.int p5.1)] [] _ _ from ?_)
      refine zy_2 rfl rfl (show zyR _ _ _ _ [some (.ref (0 + 3)), some (.int x1), some (.int x2), some (.int p5.1)] [.int p5.1] _ _ from ?_)
      refine zy_24_0 rfl (fun b13 => (show zyR _ _ _ _ [some (.ref (0 + 3)), some (.int x1), some (.int x2), some (.int p5.1)] [] _ _ from ?_)) (fun b13 => (show zyR _ _ _ _ [some (.ref (0 + 3)), some (.int x1), some (.int x2), some (.int p5.1)] [] _ _ from ?_))
      · replace h := zy_ifp h b13
        refine zy_2 rfl rfl (show zyR _ _ _ _ [some (.ref (0 + 3)), some (.int x1), some (.int x2), some (.int p5.1)] [.int x2] _ _ from ?_)
        refine zy_24_1 rfl (fun b12 => (show zyR _ _ _ _ [some (.ref (0 + 3)), some (.int x1), some (.int x2), some (.int p5.1)] [] _ _ from ?_)) (fun b12 => (show zyR _ _ _ _ [some (.ref (0 + 3)), some (.int x1), some (.int x2), some (.int p5.1)] [] _ _ from ?_))
        · replace h := zy_ifp h b12
          refine zy_0 rfl rfl (show zyR _ _ _ _ [some (.ref (0 + 3)), some (.int x1), some (.int x2), some (.int p5.1)] [.ref (0 + 3)] _ _ from ?_)
          refine zy_1r (c := 0) rfl rfl rfl (show zyR _ _ _ _ [some (.ref (0 + 3)), some (.int x1), some (.int x2), some (.int p5.1)] [.ref (30 + 3)] _ _ from ?_)
          refine zy_2 rfl rfl (show zyR _ _ _ _ [some (.ref (0 + 3)), some (.int x1), some (.int x2), some (.int p5.1)] [.int x1, .ref (30 + 3)] _ _ from ?_)
          obtain ⟨c6, h⟩ := zy_if h
          obtain ⟨c7, h⟩ := zy_if h
          refine zy_28 rfl (zy_Wb_g c7) c6 (show zyR _ _ _ _ [some (.ref (0 + 3)), some (.int x1), some (.int x2), some (.int p5.1)] [.ref ((zy_sh (x1).toNatClampNeg) + 3)] _ _ from ?_)
          obtain ⟨p8, hp8, h⟩ := zy_bind h
          refine zy_60 (as := [.ref ((zy_sh (x1).toNatClampNeg) + 3)]) (rest := []) (L := [some (.ref ((zy_sh (x1).toNatClampNeg) + 3)), none, none]) (d' := 6) rfl rfl (Nat.le_of_ble_eq_true rfl) (Nat.le_of_ble_eq_true rfl) rfl (Nat.le_of_ble_eq_true rfl) rfl rfl (zyC118 (zy_isSh_of (zy_in_lt c6)) hp8) ?_
          show zyR _ _ _ _ [some (.ref (0 + 3)), some (.int x1), some (.int x2), some (.int p5.1)] [.int p8.1] _ _
          cases h
          exact zy_4 rfl ⟨rfl, rfl⟩
        · replace h := zy_ifn h b12
          refine zy_0 rfl rfl (show zyR _ _ _ _ [some (.ref (0 + 3)), some (.int x1), some (.int x2), some (.int p5.1)] [.ref (0 + 3)] _ _ from ?_)
          refine zy_0 rfl rfl (show zyR _ _ _ _ [some (.ref (0 + 3)), some (.int x1), some (.int x2), some (.int p5.1)] [.ref (0 + 3), .ref (0 + 3)] _ _ from ?_)
          refine zy_1r (c := 0) rfl rfl rfl (show zyR _ _ _ _ [some (.ref (0 + 3)), some (.int x1), some (.int x2), some (.int p5.1)] [.ref (30 + 3), .ref (0 + 3)] _ _ from ?_)
          refine zy_2 rfl rfl (show zyR _ _ _ _ [some (.ref (0 + 3)), some (.int x1), some (.int x2), some (.int p5.1)] [.int x1, .ref (30 + 3), .ref (0 + 3)] _ _ from ?_)
          obtain ⟨c9, h⟩ := zy_if h
          obtain ⟨c10, h⟩ := zy_if h
          refine zy_28 rfl (zy_Wb_g c10) c9 (show zyR _ _ _ _ [some (.ref (0 + 3)), some (.int x1), some (.int x2), some (.int p5.1)] [.ref ((zy_sh (x1).toNatClampNeg) + 3), .ref (0 + 3)] _ _ from ?_)
          obtain ⟨p11, hp11, h⟩ := zy_bind h
          refine zy_5 (c := 0) (as := [.ref ((zy_sh (x1).toNatClampNeg) + 3)]) (rest := []) (L := [some (.ref (0 + 3)), some (.ref ((zy_sh (x1).toNatClampNeg) + 3)), none, none]) (d' := 5) rfl rfl rfl (Nat.le_of_ble_eq_true rfl) (Nat.le_of_ble_eq_true rfl) rfl (Nat.le_of_ble_eq_true rfl) rfl rfl (zyC117 (zy_isSh_of (zy_in_lt c9)) hp11) ?_
          show zyR _ _ _ _ [some (.ref (0 + 3)), some (.int x1), some (.int x2), some (.int p5.1)] [.int p11.1] _ _
          refine zy_6 rfl (show zyR _ _ _ _ [some (.ref (0 + 3)), some (.int x1), some (.int x2), some (.int p5.1)] [.int p11.1] _ _ from ?_)
          cases h
          exact zy_4 rfl ⟨rfl, rfl⟩
      · replace h := zy_ifn h b13
        refine zy_2 rfl rfl (show zyR _ _ _ _ [some (.ref (0 + 3)), some (.int x1), some (.int x2), some (.int p5.1)] [.int p5.1] _ _ from ?_)
        cases h
        exact zy_4 rfl ⟨rfl, rfl⟩
    · replace h := zy_ifn h b14
      refine zy_3 rfl rfl (show zyR _ _ _ _ [some (.ref (0 + 3)), some (.int x1), some (.int x2), none] [.int (-1 : Int32)] _ _ from ?_)
      cases h
      exact zy_4 rfl ⟨rfl, rfl⟩
/-! NineOpinionsModel.whose(II)I -/
noncomputable def zyF233_116  (k89 : Int32 → Int32 → Int32 → Int32 → Int32 → zy_S → Option (Int32 × zy_S)) (x1 : Int32) (x2 : Int32) (x3 : Int32) (x5 : Int32) (y0 : Int32) (y1 : Int32) (s : zy_S) : Option (Int32 × zy_S) :=
k89 x1 x2 x3 (y1 + y0) (x5 + (1 : Int32)) s
theorem zyC233_116 {X : zx_X}  {k89 : Int32 → Int32 → Int32 → Int32 → Int32 → zy_S → Option (Int32 × zy_S)}  (hk89 : ∀ (x1 : Int32) (x2 : Int32) (x3 : Int32) (x4 : Int32) (x5 : Int32) (s : zy_S) (r : Int32) (s' : zy_S), k89 x1 x2 x3 x4 x5 s = some (r, s') → zyR X 4 233 89 [some (.ref (43 + 3)), some (.int x1), some (.int x2), some (.int x3), some (.int x4), some (.int x5)] [] s (zyE (some (.int r)) s')) {x1 : Int32} {x2 : Int32} {x3 : Int32} {x5 : Int32} {y0 : Int32} {y1 : Int32} {s : zy_S} {r : Int32} {s' : zy_S}  (h : zyF233_116 k89 x1 x2 x3 x5 y0 y1 s = some (r, s')) : zyR X 4 233 116 [some (.ref (43 + 3)), some (.int x1), some (.int x2), some (.int x3), none, some (.int x5)] [.int y0, .int y1] s (zyE (some (.int r)) s') := by
  unfold zyF233_116 at h
  refine zy_10 rfl (show zyR _ _ _ _ [some (.ref (43 + 3)), some (.int x1), some (.int x2), some (.int x3), none, some (.int x5)] [.int (y1 + y0)] _ _ from ?_)
  refine zy_23 rfl rfl (show zyR _ _ _ _ [some (.ref (43 + 3)), some (.int x1), some (.int x2), some (.int x3), some (.int (y1 + y0)), some (.int x5)] [] _ _ from ?_)
  refine zy_22 rfl rfl rfl rfl (show zyR _ _ _ _ [some (.ref (43 + 3)), some (.int x1), some (.int x2), some (.int x3), some (.int (y1 + y0)), some (.int (x5 + (1 : Int32)))] [] _ _ from ?_)
  refine zy_6 rfl (show zyR _ _ _ _ [some (.ref (43 + 3)), some (.int x1), some (.int x2), some (.int x3), some (.int (y1 + y0)), some (.int (x5 + (1 : Int32)))] [] _ _ from ?_)
  exact zy_sub (show zy_le [some (.ref (43 + 3)), some (.int x1), some (.int x2), some (.int x3), some (.int (y1 + y0)), some (.int (x5 + (1 : Int32)))] [some (.ref (43 + 3)), some (.int x1), some (.int x2), some (.int x3), some (.int (y1 + y0)), some (.int (x5 + (1 : Int32)))] from ⟨rfl, ⟨rfl, ⟨rfl, ⟨rfl, ⟨rfl, ⟨rfl, trivial⟩⟩⟩⟩⟩⟩) (hk89 x1 x2 x3 (y1 + y0) (x5 + (1 : Int32)) s _ _ h)
noncomputable def zyF233_89b  (k89 : Int32 → Int32 → Int32 → Int32 → Int32 → zy_S → Option (Int32 × zy_S)) (x1 : Int32) (x2 : Int32) (x3 : Int32) (x4 : Int32) (x5 : Int32) (s : zy_S) : Option (Int32 × zy_S) :=
if (4096 : Int32) ≤ x5 then
if x2 ≠ 0 then
some (x4, s)
else
some (x3, s)
else
(zyF230 x1 x5 s).bind fun p2 =>
if p2.1 ≠ (-2 : Int32) then
zyF233_116 k89 x1 x2 x3 x5 (0 : Int32) x4 p2.2
else
zyF233_116 k89 x1 x2 x3 x5 (1 : Int32) x4 p2.2
theorem zyC233_89b {X : zx_X}  {k89 : Int32 → Int32 → Int32 → Int32 → Int32 → zy_S → Option (Int32 × zy_S)}  (hk89 : ∀ (x1 : Int32) (x2 : Int32) (x3 : Int32) (x4 : Int32) (x5 : Int32) (s : zy_S) (r : Int32) (s' : zy_S), k89 x1 x2 x3 x4 x5 s = some (r, s') → zyR X 4 233 89 [some (.ref (43 + 3)), some (.int x1), some (.int x2), some (.int x3), some (.int x4), some (.int x5)] [] s (zyE (some (.int r)) s')) {x1 : Int32} {x2 : Int32} {x3 : Int32} {x4 : Int32} {x5 : Int32} {s : zy_S} {r : Int32} {s' : zy_S}  (h : zyF233_89b k89 x1 x2 x3 x4 x5 s = some (r, s')) : zyR X 4 233 89 [some (.ref (43 + 3)), some (.int x1), some (.int x2), some (.int x3), some (.int x4), some (.int x5)] [] s (zyE (some (.int r)) s') := by
  unfold zyF233_89b at h
  refine zy_2 rfl rfl (show zyR _ _ _ _ [some (.ref (43 + 3)), some (.int x1), some (.int x2), some (.int x3), some (.int x4), some (.int x5)] [.int x5] _ _ from ?_)
  refine zy_3 rfl rfl (show zyR _ _ _ _ [some (.ref (43 + 3)), some (.int x1), some (.int x2), some (.int x3), some (.int x4), some (.int x5)] [.int (4096 : Int32), .int x5] _ _ from ?_)
  refine zy_25_3 rfl (fun b4 => (show zyR _ _ _ _ [some (.ref (43 + 3)), some (.int x1), some (.int x2), some (.int x3), some (.int x4), some (.int x5)] [] _ _ from ?_)) (fun b4 => (show zyR _ _ _ _ [some (.ref (43 + 3)), some (.int x1), some (.int x2), some (.int x3), some (.int x4), some (.int x5)] [] _ _ from ?_))
  · replace h := zy_ifp h b4
    refine zy_2 rfl rfl (show zyR _ _ _ _ [some (.ref (43 + 3)), some (.int x1), some (.int x2), some (.int x3), some (.int x4), some (.int x5)] [.int x2] _ _ from ?_)
    refine zy_24_1 rfl (fun b1 => (show zyR _ _ _ _ [some (.ref (43 + 3)), some (.int x1), some (.int x2), some (.int x3), some (.int x4), some (.int x5)] [] _ _ from ?_)) (fun b1 => (show zyR _ _ _ _ [some (.ref (43 + 3)), some (.int x1), some (.int x2), some (.int x3), some (.int x4), some (.int x5)] [] _ _ from ?_))
    · replace h := zy_ifp h b1
      refine zy_2 rfl rfl (show zyR _ _ _ _ [some (.ref (43 + 3)), some (.int x1), some (.int x2), some (.int x3), some (.int x4), some (.int x5)] [.int x4] _ _ from ?_)
      cases h
      exact zy_4 rfl ⟨rfl, rfl⟩
    · replace h := zy_ifn h b1
      refine zy_2 rfl rfl (show zyR _ _ _ _ [some (.ref (43 + 3)), some (.int x1), some (.int x2), some (.int x3), some (.int x4), some (.int x5)] [.int x3] _ _ from ?_)
      refine zy_6 rfl (show zyR _ _ _ _ [some (.ref (43 + 3)), some (.int x1), some (.int x2), some (.int x3), some (.int x4), some (.int x5)] [.int x3] _ _ from ?_)
      cases h
      exact zy_4 rfl ⟨rfl, rfl⟩
  · replace h := zy_ifn h b4
    refine zy_2 rfl rfl (show zyR _ _ _ _ [some (.ref (43 + 3)), some (.int x1), some (.int x2), some (.int x3), some (.int x4), some (.int x5)] [.int x4] _ _ from ?_)
    refine zy_0 rfl rfl (show zyR _ _ _ _ [some (.ref (43 + 3)), some (.int x1), some (.int x2), some (.int x3), some (.int x4), some (.int x5)] [.ref (43 + 3), .int x4] _ _ from ?_)
    refine zy_2 rfl rfl (show zyR _ _ _ _ [some (.ref (43 + 3)), some (.int x1), some (.int x2), some (.int x3), some (.int x4), some (.int x5)] [.int x1, .ref (43 + 3), .int x4] _ _ from ?_)
    refine zy_2 rfl rfl (show zyR _ _ _ _ [some (.ref (43 + 3)), some (.int x1), some (.int x2), some (.int x3), some (.int x4), some (.int x5)] [.int x5, .int x1, .ref (43 + 3), .int x4] _ _ from ?_)
    obtain ⟨p2, hp2, h⟩ := zy_bind h
    refine zy_5 (c := 43) (as := [.int x1, .int x5]) (rest := [.int x4]) (L := [some (.ref (43 + 3)), some (.int x1), some (.int x5), none, none, none]) (d' := 3) rfl rfl rfl (Nat.le_of_ble_eq_true rfl) (Nat.le_of_ble_eq_true rfl) rfl (Nat.le_of_ble_eq_true rfl) rfl rfl (zyC230 hp2) ?_
    show zyR _ _ _ _ [some (.ref (43 + 3)), some (.int x1), some (.int x2), some (.int x3), some (.int x4), some (.int x5)] [.int p2.1, .int x4] _ _
    refine zy_3 rfl rfl (show zyR _ _ _ _ [some (.ref (43 + 3)), some (.int x1), some (.int x2), some (.int x3), some (.int x4), some (.int x5)] [.int (-2 : Int32), .int p2.1, .int x4] _ _ from ?_)
    refine zy_25_1 rfl (fun b3 => (show zyR _ _ _ _ [some (.ref (43 + 3)), some (.int x1), some (.int x2), some (.int x3), some (.int x4), some (.int x5)] [.int x4] _ _ from ?_)) (fun b3 => (show zyR _ _ _ _ [some (.ref (43 + 3)), some (.int x1), some (.int x2), some (.int x3), some (.int x4), some (.int x5)] [.int x4] _ _ from ?_))
    · replace h := zy_ifp h b3
      refine zy_3 rfl rfl (show zyR _ _ _ _ [some (.ref (43 + 3)), some (.int x1), some (.int x2), some (.int x3), some (.int x4), some (.int x5)] [.int (0 : Int32), .int x4] _ _ from ?_)
      exact zy_sub (show zy_le [some (.ref (43 + 3)), some (.int x1), some (.int x2), some (.int x3), none, some (.int x5)] [some (.ref (43 + 3)), some (.int x1), some (.int x2), some (.int x3), some (.int x4), some (.int x5)] from ⟨rfl, ⟨rfl, ⟨rfl, ⟨rfl, ⟨rfl, trivial⟩⟩⟩⟩⟩) (zyC233_116 hk89 h)
    · replace h := zy_ifn h b3
      refine zy_3 rfl rfl (show zyR _ _ _ _ [some (.ref (43 + 3)), some (.int x1), some (.int x2), some (.int x3), some (.int x4), some (.int x5)] [.int (1 : Int32), .int x4] _ _ from ?_)
      refine zy_6 rfl (show zyR _ _ _ _ [some (.ref (43 + 3)), some (.int x1), some (.int x2), some (.int x3), some (.int x4), some (.int x5)] [.int (1 : Int32), .int x4] _ _ from ?_)
      exact zy_sub (show zy_le [some (.ref (43 + 3)), some (.int x1), some (.int x2), some (.int x3), none, some (.int x5)] [some (.ref (43 + 3)), some (.int x1), some (.int x2), some (.int x3), some (.int x4), some (.int x5)] from ⟨rfl, ⟨rfl, ⟨rfl, ⟨rfl, ⟨rfl, trivial⟩⟩⟩⟩⟩) (zyC233_116 hk89 h)
noncomputable def zyF233_89   (n : Nat) : Int32 → Int32 → Int32 → Int32 → Int32 → zy_S → Option (Int32 × zy_S) := Nat.rec (fun _ _ _ _ _ _ => none) (fun _ k89 => zyF233_89b k89) n
theorem zyC233_89 {X : zx_X}     : ∀ (n : Nat) (x1 : Int32) (x2 : Int32) (x3 : Int32) (x4 : Int32) (x5 : Int32) (s : zy_S) (r : Int32) (s' : zy_S), zyF233_89 n x1 x2 x3 x4 x5 s = some (r, s') → zyR X 4 233 89 [some (.ref (43 + 3)), some (.int x1), some (.int x2), some (.int x3), some (.int x4), some (.int x5)] [] s (zyE (some (.int r)) s')
  | 0, _, _, _, _, _ => by
    intro s r s'  h
    have h : (none : Option (Int32 × zy_S)) = some (r, s') := h
    cases h
  | n + 1, x1, x2, x3, x4, x5 => by
    intro s r s'  h
    exact zyC233_89b (k89 := zyF233_89 n) (fun x1 x2 x3 x4 x5 s r s'  h => zyC233_89  n x1 x2 x3 x4 x5 s r s'  h) h
noncomputable def zyF233_75  (k40 : Int32 → Int32 → Int32 → Int32 → zy_S → Option (Int32 × zy_S)) (x1 : Int32) (x2 : Int32) (x4 : Int32) (y0 : Int32) (y1 : Int32) (s : zy_S) : Option (Int32 × zy_S) :=
k40 x1 x2 (y1 ||| y0) (x4 + (1 : Int32)) s
theorem zyC233_75 {X : zx_X}  {k40 : Int32 → Int32 → Int32 → Int32 → zy_S → Option (Int32 × zy_S)}  (hk40 : ∀ (x1 : Int32) (x2 : Int32) (x3 : Int32) (x4 : Int32) (s : zy_S) (r : Int32) (s' : zy_S), k40 x1 x2 x3 x4 s = some (r, s') → zyR X 4 233 40 [some (.ref (43 + 3)), some (.int x1), some (.int x2), some (.int x3), some (.int x4), none] [] s (zyE (some (.int r)) s')) {x1 : Int32} {x2 : Int32} {x4 : Int32} {y0 : Int32} {y1 : Int32} {s : zy_S} {r : Int32} {s' : zy_S}  (h : zyF233_75 k40 x1 x2 x4 y0 y1 s = some (r, s')) : zyR X 4 233 75 [some (.ref (43 + 3)), some (.int x1), some (.int x2), none, some (.int x4), none] [.int y0, .int y1] s (zyE (some (.int r)) s') := by
  unfold zyF233_75 at h
  refine zy_14 rfl (show zyR _ _ _ _ [some (.ref (43 + 3)), some (.int x1), some (.int x2), none, some (.int x4), none] [.int (y1 ||| y0)] _ _ from ?_)
  refine zy_23 rfl rfl (show zyR _ _ _ _ [some (.ref (43 + 3)), some (.int x1), some (.int x2), some (.int (y1 ||| y0)), some (.int x4), none] [] _ _ from ?_)
  refine zy_22 rfl rfl rfl rfl (show zyR _ _ _ _ [some (.ref (43 + 3)), some (.int x1), some (.int x2), some (.int (y1 ||| y0)), some (.int (x4 + (1 : Int32))), none] [] _ _ from ?_)
  refine zy_6 rfl (show zyR _ _ _ _ [some (.ref (43 + 3)), some (.int x1), some (.int x2), some (.int (y1 ||| y0)), some (.int (x4 + (1 : Int32))), none] [] _ _ from ?_)
  exact zy_sub (show zy_le [some (.ref (43 + 3)), some (.int x1), some (.int x2), some (.int (y1 ||| y0)), some (.int (x4 + (1 : Int32))), none] [some (.ref (43 + 3)), some (.int x1), some (.int x2), some (.int (y1 ||| y0)), some (.int (x4 + (1 : Int32))), none] from ⟨rfl, ⟨rfl, ⟨rfl, ⟨rfl, ⟨rfl, trivial⟩⟩⟩⟩⟩) (hk40 x1 x2 (y1 ||| y0) (x4 + (1 : Int32)) s _ _ h)
noncomputable def zyF233_40b  (k40 : Int32 → Int32 → Int32 → Int32 → zy_S → Option (Int32 × zy_S)) (x1 : Int32) (x2 : Int32) (x3 : Int32) (x4 : Int32) (s : zy_S) : Option (Int32 × zy_S) :=
if (s.1 43 6) ≤ x4 then
zyF233_89 zy_fu x1 x2 x3 (0 : Int32) (0 : Int32) s
else
if zy_in x4 41 then
(zyF230 x1 (s.1 44 (x4).toNatClampNeg) s).bind fun p6 =>
if p6.1 ≠ (-2 : Int32) then
zyF233_75 k40 x1 x2 x4 (0 : Int32) x3 p6.2
else
zyF233_75 k40 x1 x2 x4 ((1 : Int32) <<< (x4 &&& 31)) x3 p6.2
else none
theorem zyC233_40b {X : zx_X}  {k40 : Int32 → Int32 → Int32 → Int32 → zy_S → Option (Int32 × zy_S)}  (hk40 : ∀ (x1 : Int32) (x2 : Int32) (x3 : Int32) (x4 : Int32) (s : zy_S) (r : Int32) (s' : zy_S), k40 x1 x2 x3 x4 s = some (r, s') → zyR X 4 233 40 [some (.ref (43 + 3)), some (.int x1), some (.int x2), some (.int x3), some (.int x4), none] [] s (zyE (some (.int r)) s')) {x1 : Int32} {x2 : Int32} {x3 : Int32} {x4 : Int32} {s : zy_S} {r : Int32} {s' : zy_S}  (h : zyF233_40b k40 x1 x2 x3 x4 s = some (r, s')) : zyR X 4 233 40 [some (.ref (43 + 3)), some (.int x1), some (.int x2), some (.int x3), some (.int x4), none] [] s (zyE (some (.int r)) s') := by
  unfold zyF233_40b at h
  refine zy_2 rfl rfl (show zyR _ _ _ _ [some (.ref (43 + 3)), some (.int x1), some (.int x2), some (.int x3), some (.int x4), none] [.int x4] _ _ from ?_)
  refine zy_0 rfl rfl (show zyR _ _ _ _ [some (.ref (43 + 3)), some (.int x1), some (.int x2), some (.int x3), some (.int x4), none] [.ref (43 + 3), .int x4] _ _ from ?_)
  refine zy_1 (c := 43) rfl rfl rfl (show zyR _ _ _ _ [some (.ref (43 + 3)), some (.int x1), some (.int x2), some (.int x3), some (.int x4), none] [.int (s.1 43 6), .int x4] _ _ from ?_)
  refine zy_25_3 rfl (fun b8 => (show zyR _ _ _ _ [some (.ref (43 + 3)), some (.int x1), some (.int x2), some (.int x3), some (.int x4), none] [] _ _ from ?_)) (fun b8 => (show zyR _ _ _ _ [some (.ref (43 + 3)), some (.int x1), some (.int x2), some (.int x3), some (.int x4), none] [] _ _ from ?_))
  · replace h := zy_ifp h b8
    refine zy_3 rfl rfl (show zyR _ _ _ _ [some (.ref (43 + 3)), some (.int x1), some (.int x2), some (.int x3), some (.int x4), none] [.int (0 : Int32)] _ _ from ?_)
    refine zy_23 rfl rfl (show zyR _ _ _ _ [some (.ref (43 + 3)), some (.int x1), some (.int x2), some (.int x3), some (.int (0 : Int32)), none] [] _ _ from ?_)
    refine zy_3 rfl rfl (show zyR _ _ _ _ [some (.ref (43 + 3)), some (.int x1), some (.int x2), some (.int x3), some (.int (0 : Int32)), none] [.int (0 : Int32)] _ _ from ?_)
    refine zy_23 rfl rfl (show zyR _ _ _ _ [some (.ref (43 + 3)), some (.int x1), some (.int x2), some (.int x3), some (.int (0 : Int32)), some (.int (0 : Int32))] [] _ _ from ?_)
    exact zy_sub (show zy_le [some (.ref (43 + 3)), some (.int x1), some (.int x2), some (.int x3), some (.int (0 : Int32)), some (.int (0 : Int32))] [some (.ref (43 + 3)), some (.int x1), some (.int x2), some (.int x3), some (.int (0 : Int32)), some (.int (0 : Int32))] from ⟨rfl, ⟨rfl, ⟨rfl, ⟨rfl, ⟨rfl, ⟨rfl, trivial⟩⟩⟩⟩⟩⟩) (zyC233_89 zy_fu x1 x2 x3 (0 : Int32) (0 : Int32) s _ _ h)
  · replace h := zy_ifn h b8
    refine zy_2 rfl rfl (show zyR _ _ _ _ [some (.ref (43 + 3)), some (.int x1), some (.int x2), some (.int x3), some (.int x4), none] [.int x3] _ _ from ?_)
    refine zy_0 rfl rfl (show zyR _ _ _ _ [some (.ref (43 + 3)), some (.int x1), some (.int x2), some (.int x3), some (.int x4), none] [.ref (43 + 3), .int x3] _ _ from ?_)
    refine zy_2 rfl rfl (show zyR _ _ _ _ [some (.ref (43 + 3)), some (.int x1), some (.int x2), some (.int x3), some (.int x4), none] [.int x1, .ref (43 + 3), .int x3] _ _ from ?_)
    refine zy_0 rfl rfl (show zyR _ _ _ _ [some (.ref (43 + 3)), some (.int x1), some (.int x2), some (.int x3), some (.int x4), none] [.ref (43 + 3), .int x1, .ref (43 + 3), .int x3] _ _ from ?_)
    refine zy_1r (c := 43) rfl rfl rfl (show zyR _ _ _ _ [some (.ref (43 + 3)), some (.int x1), some (.int x2), some (.int x3), some (.int x4), none] [.ref (44 + 3), .int x1, .ref (43 + 3), .int x3] _ _ from ?_)
    refine zy_2 rfl rfl (show zyR _ _ _ _ [some (.ref (43 + 3)), some (.int x1), some (.int x2), some (.int x3), some (.int x4), none] [.int x4, .ref (44 + 3), .int x1, .ref (43 + 3), .int x3] _ _ from ?_)
    obtain ⟨c5, h⟩ := zy_if h
    refine zy_26 (c := 44) rfl rfl c5 (show zyR _ _ _ _ [some (.ref (43 + 3)), some (.int x1), some (.int x2), some (.int x3), some (.int x4), none] [.int (s.1 44 (x4).toNatClampNeg), .int x1, .ref (43 + 3), .int x3] _ _ from ?_)
    obtain ⟨p6, hp6, h⟩ := zy_bind h
    refine zy_5 (c := 43) (as := [.int x1, .int (s.1 44 (x4).toNatClampNeg)]) (rest := [.int x3]) (L := [some (.ref (43 + 3)), some (.int x1), some (.int (s.1 44 (x4).toNatClampNeg)), none, none, none]) (d' := 3) rfl rfl rfl (Nat.le_of_ble_eq_true rfl) (Nat.le_of_ble_eq_true rfl) rfl (Nat.le_of_ble_eq_true rfl) rfl rfl (zyC230 hp6) ?_
    show zyR _ _ _ _ [some (.ref (43 + 3)), some (.int x1), some (.int x2), some (.int x3), some (.int x4), none] [.int p6.1, .int x3] _ _
    refine zy_3 rfl rfl (show zyR _ _ _ _ [some (.ref (43 + 3)), some (.int x1), some (.int x2), some (.int x3), some (.int x4), none] [.int (-2 : Int32), .int p6.1, .int x3] _ _ from ?_)
    refine zy_25_1 rfl (fun b7 => (show zyR _ _ _ _ [some (.ref (43 + 3)), some (.int x1), some (.int x2), some (.int x3), some (.int x4), none] [.int x3] _ _ from ?_)) (fun b7 => (show zyR _ _ _ _ [some (.ref (43 + 3)), some (.int x1), some (.int x2), some (.int x3), some (.int x4), none] [.int x3] _ _ from ?_))
    · replace h := zy_ifp h b7
      refine zy_3 rfl rfl (show zyR _ _ _ _ [some (.ref (43 + 3)), some (.int x1), some (.int x2), some (.int x3), some (.int x4), none] [.int (0 : Int32), .int x3] _ _ from ?_)
      exact zy_sub (show zy_le [some (.ref (43 + 3)), some (.int x1), some (.int x2), none, some (.int x4), none] [some (.ref (43 + 3)), some (.int x1), some (.int x2), some (.int x3), some (.int x4), none] from ⟨rfl, ⟨rfl, ⟨rfl, ⟨rfl, trivial⟩⟩⟩⟩) (zyC233_75 hk40 h)
    · replace h := zy_ifn h b7
      refine zy_3 rfl rfl (show zyR _ _ _ _ [some (.ref (43 + 3)), some (.int x1), some (.int x2), some (.int x3), some (.int x4), none] [.int (1 : Int32), .int x3] _ _ from ?_)
      refine zy_2 rfl rfl (show zyR _ _ _ _ [some (.ref (43 + 3)), some (.int x1), some (.int x2), some (.int x3), some (.int x4), none] [.int x4, .int (1 : Int32), .int x3] _ _ from ?_)
      refine zy_16 rfl (show zyR _ _ _ _ [some (.ref (43 + 3)), some (.int x1), some (.int x2), some (.int x3), some (.int x4), none] [.int ((1 : Int32) <<< (x4 &&& 31)), .int x3] _ _ from ?_)
      refine zy_6 rfl (show zyR _ _ _ _ [some (.ref (43 + 3)), some (.int x1), some (.int x2), some (.int x3), some (.int x4), none] [.int ((1 : Int32) <<< (x4 &&& 31)), .int x3] _ _ from ?_)
      exact zy_sub (show zy_le [some (.ref (43 + 3)), some (.int x1), some (.int x2), none, some (.int x4), none] [some (.ref (43 + 3)), some (.int x1), some (.int x2), some (.int x3), some (.int x4), none] from ⟨rfl, ⟨rfl, ⟨rfl, ⟨rfl, trivial⟩⟩⟩⟩) (zyC233_75 hk40 h)
noncomputable def zyF233_40   (n : Nat) : Int32 → Int32 → Int32 → Int32 → zy_S → Option (Int32 × zy_S) := Nat.rec (fun _ _ _ _ _ => none) (fun _ k40 => zyF233_40b k40) n
theorem zyC233_40 {X : zx_X}     : ∀ (n : Nat) (x1 : Int32) (x2 : Int32) (x3 : Int32) (x4 : Int32) (s : zy_S) (r : Int32) (s' : zy_S), zyF233_40 n x1 x2 x3 x4 s = some (r, s') → zyR X 4 233 40 [some (.ref (43 + 3)), some (.int x1), some (.int x2), some (.int x3), some (.int x4), none] [] s (zyE (some (.int r)) s')
  | 0, _, _, _, _ => by
    intro s r s'  h
    have h : (none : Option (Int32 × zy_S)) = some (r, s') := h
    cases h
  | n + 1, x1, x2, x3, x4 => by
    intro s r s'  h
    exact zyC233_40b (k40 := zyF233_40 n) (fun x1 x2 x3 x4 s r s'  h => zyC233_40  n x1 x2 x3 x4 s r s'  h) h
noncomputable def zyF233   (x1 : Int32) (x2 : Int32) (s : zy_S) : Option (Int32 × zy_S) :=
(zyF229 x1 s).bind fun p9 =>
if p9.1 = (-1 : Int32) then
some ((-1 : Int32), p9.2)
else
(zyF179 (x2).toInt64 (0 : Int64) (1 : Int64) p9.2).bind fun p10 =>
if p10.1 ≠ 0 then
(zyF229 x1 p10.2).bind fun p11 =>
if 0 ≤ p11.1 then
zyF233_40 zy_fu x1 x2 (0 : Int32) (0 : Int32) p11.2
else
(zyF229 x1 p11.2).bind fun p12 =>
some (p12.1, p12.2)
else
some ((-1 : Int32), p10.2)
theorem zyC233 {X : zx_X}     {x1 : Int32} {x2 : Int32} {s : zy_S} {r : Int32} {s' : zy_S}  (h : zyF233 x1 x2 s = some (r, s')) : zyR X 4 233 0 [some (.ref (43 + 3)), some (.int x1), some (.int x2), none, none, none] [] s (zyE (some (.int r)) s') := by
  unfold zyF233 at h
  refine zy_0 rfl rfl (show zyR _ _ _ _ [some (.ref (43 + 3)), some (.int x1), some (.int x2), none, none, none] [.ref (43 + 3)] _ _ from ?_)
  refine zy_2 rfl rfl (show zyR _ _ _ _ [some (.ref (43 + 3)), some (.int x1), some (.int x2), none, none, none] [.int x1, .ref (43 + 3)] _ _ from ?_)
  obtain ⟨p9, hp9, h⟩ := zy_bind h
  refine zy_5 (c := 43) (as := [.int x1]) (rest := []) (L := [some (.ref (43 + 3)), some (.int x1)]) (d' := 3) rfl rfl rfl (Nat.le_of_ble_eq_true rfl) (Nat.le_of_ble_eq_true rfl) rfl (Nat.le_of_ble_eq_true rfl) rfl rfl (zyC229 hp9) ?_
  show zyR _ _ _ _ [some (.ref (43 + 3)), some (.int x1), some (.int x2), none, none, none] [.int p9.1] _ _
  refine zy_3 rfl rfl (show zyR _ _ _ _ [some (.ref (43 + 3)), some (.int x1), some (.int x2), none, none, none] [.int (-1 : Int32), .int p9.1] _ _ from ?_)
  refine zy_25_0 rfl (fun b15 => (show zyR _ _ _ _ [some (.ref (43 + 3)), some (.int x1), some (.int x2), none, none, none] [] _ _ from ?_)) (fun b15 => (show zyR _ _ _ _ [some (.ref (43 + 3)), some (.int x1), some (.int x2), none, none, none] [] _ _ from ?_))
  · replace h := zy_ifp h b15
    refine zy_3 rfl rfl (show zyR _ _ _ _ [some (.ref (43 + 3)), some (.int x1), some (.int x2), none, none, none] [.int (-1 : Int32)] _ _ from ?_)
    cases h
    exact zy_4 rfl ⟨rfl, rfl⟩
  · replace h := zy_ifn h b15
    refine zy_2 rfl rfl (show zyR _ _ _ _ [some (.ref (43 + 3)), some (.int x1), some (.int x2), none, none, none] [.int x2] _ _ from ?_)
    refine zy_40 rfl (show zyR _ _ _ _ [some (.ref (43 + 3)), some (.int x1), some (.int x2), none, none, none] [.long (x2).toInt64] _ _ from ?_)
    refine zy_36 rfl rfl (show zyR _ _ _ _ [some (.ref (43 + 3)), some (.int x1), some (.int x2), none, none, none] [.long (0 : Int64), .long (x2).toInt64] _ _ from ?_)
    refine zy_36 rfl rfl (show zyR _ _ _ _ [some (.ref (43 + 3)), some (.int x1), some (.int x2), none, none, none] [.long (1 : Int64), .long (0 : Int64), .long (x2).toInt64] _ _ from ?_)
    obtain ⟨p10, hp10, h⟩ := zy_bind h
    refine zy_60 (as := [.long (x2).toInt64, .long (0 : Int64), .long (1 : Int64)]) (rest := []) (L := [some (.long (x2).toInt64), none, some (.long (0 : Int64)), none, some (.long (1 : Int64)), none]) (d' := 1) rfl rfl (Nat.le_of_ble_eq_true rfl) (Nat.le_of_ble_eq_true rfl) rfl (Nat.le_of_ble_eq_true rfl) rfl rfl (zyC179 hp10) ?_
    show zyR _ _ _ _ [some (.ref (43 + 3)), some (.int x1), some (.int x2), none, none, none] [.int p10.1] _ _
    refine zy_24_1 rfl (fun b14 => (show zyR _ _ _ _ [some (.ref (43 + 3)), some (.int x1), some (.int x2), none, none, none] [] _ _ from ?_)) (fun b14 => (show zyR _ _ _ _ [some (.ref (43 + 3)), some (.int x1), some (.int x2), none, none, none] [] _ _ from ?_))
    · replace h := zy_ifp h b14
      refine zy_0 rfl rfl (show zyR _ _ _ _ [some (.ref (43 + 3)), some (.int x1), some (.int x2), none, none, none] [.ref (43 + 3)] _ _ from ?_)
      refine zy_2 rfl rfl (show zyR _ _ _ _ [some (.ref (43 + 3)), some (.int x1), some (.int x2), none, none, none] [.int x1, .ref (43 + 3)] _ _ from ?_)
      obtain ⟨p11, hp11, h⟩ := zy_bind h
      refine zy_5 (c := 43) (as := [.int x1]) (rest := []) (L := [some (.ref (43 + 3)), some (.int x1)]) (d' := 3) rfl rfl rfl (Nat.le_of_ble_eq_true rfl) (Nat.le_of_ble_eq_true rfl) rfl (Nat.le_of_ble_eq_true rfl) rfl rfl (zyC229 hp11) ?_
      show zyR _ _ _ _ [some (.ref (43 + 3)), some (.int x1), some (.int x2), none, none, none] [.int p11.1] _ _
      refine zy_24_3 rfl (fun b13 => (show zyR _ _ _ _ [some (.ref (43 + 3)), some (.int x1), some (.int x2), none, none, none] [] _ _ from ?_)) (fun b13 => (show zyR _ _ _ _ [some (.ref (43 + 3)), some (.int x1), some (.int x2), none, none, none] [] _ _ from ?_))
      · replace h := zy_ifp h b13
        refine zy_3 rfl rfl (show zyR _ _ _ _ [some (.ref (43 + 3)), some (.int x1), some (.int x2), none, none, none] [.int (0 : Int32)] _ _ from ?_)
        refine zy_23 rfl rfl (show zyR _ _ _ _ [some (.ref (43 + 3)), some (.int x1), some (.int x2), some (.int (0 : Int32)), none, none] [] _ _ from ?_)
        refine zy_3 rfl rfl (show zyR _ _ _ _ [some (.ref (43 + 3)), some (.int x1), some (.int x2), some (.int (0 : Int32)), none, none] [.int (0 : Int32)] _ _ from ?_)
        refine zy_23 rfl rfl (show zyR _ _ _ _ [some (.ref (43 + 3)), some (.int x1), some (.int x2), some (.int (0 : Int32)), some (.int (0 : Int32)), none] [] _ _ from ?_)
        exact zy_sub (show zy_le [some (.ref (43 + 3)), some (.int x1), some (.int x2), some (.int (0 : Int32)), some (.int (0 : Int32)), none] [some (.ref (43 + 3)), some (.int x1), some (.int x2), some (.int (0 : Int32)), some (.int (0 : Int32)), none] from ⟨rfl, ⟨rfl, ⟨rfl, ⟨rfl, ⟨rfl, trivial⟩⟩⟩⟩⟩) (zyC233_40 zy_fu x1 x2 (0 : Int32) (0 : Int32) p11.2 _ _ h)
      · replace h := zy_ifn h b13
        refine zy_0 rfl rfl (show zyR _ _ _ _ [some (.ref (43 + 3)), some (.int x1), some (.int x2), none, none, none] [.ref (43 + 3)] _ _ from ?_)
        refine zy_2 rfl rfl (show zyR _ _ _ _ [some (.ref (43 + 3)), some (.int x1), some (.int x2), none, none, none] [.int x1, .ref (43 + 3)] _ _ from ?_)
        obtain ⟨p12, hp12, h⟩ := zy_bind h
        refine zy_5 (c := 43) (as := [.int x1]) (rest := []) (L := [some (.ref (43 + 3)), some (.int x1)]) (d' := 3) rfl rfl rfl (Nat.le_of_ble_eq_true rfl) (Nat.le_of_ble_eq_true rfl) rfl (Nat.le_of_ble_eq_true rfl) rfl rfl (zyC229 hp12) ?_
        show zyR _ _ _ _ [some (.ref (43 + 3)), some (.int x1), some (.int x2), none, none, none] [.int p12.1] _ _
        cases h
        exact zy_4 rfl ⟨rfl, rfl⟩
    · replace h := zy_ifn h b14
      refine zy_3 rfl rfl (show zyR _ _ _ _ [some (.ref (43 + 3)), some (.int x1), some (.int x2), none, none, none] [.int (-1 : Int32)] _ _ from ?_)
      cases h
      exact zy_4 rfl ⟨rfl, rfl⟩

