/-! PART 41.50: methods as functions. Made by wip/v4/dcp.py. -/
/-! NineOpinions$Votes.commonest(I)I -/
noncomputable def zyF127_29  (k4 : Int32 → Int32 → Int32 → zy_S → Option (Int32 × zy_S)) (x1 : Int32) (x3 : Int32) (y0 : Int32) (s : zy_S) : Option (Int32 × zy_S) :=
k4 x1 y0 (x3 + (1 : Int32)) s
theorem zyC127_29 {X : zx_X}  {k4 : Int32 → Int32 → Int32 → zy_S → Option (Int32 × zy_S)}  (hk4 : ∀ (x1 : Int32) (x2 : Int32) (x3 : Int32) (s : zy_S) (r : Int32) (s' : zy_S), k4 x1 x2 x3 s = some (r, s') → zyR X 5 127 4 [some (.ref (16 + 3)), some (.int x1), some (.int x2), some (.int x3)] [] s (zyE (some (.int r)) s')) {x1 : Int32} {x3 : Int32} {y0 : Int32} {s : zy_S} {r : Int32} {s' : zy_S}  (h : zyF127_29 k4 x1 x3 y0 s = some (r, s')) : zyR X 5 127 29 [some (.ref (16 + 3)), some (.int x1), none, some (.int x3)] [.int y0] s (zyE (some (.int r)) s') := by
  unfold zyF127_29 at h
  refine zy_23 rfl rfl (show zyR _ _ _ _ [some (.ref (16 + 3)), some (.int x1), some (.int y0), some (.int x3)] [] _ _ from ?_)
  refine zy_22 rfl rfl rfl rfl (show zyR _ _ _ _ [some (.ref (16 + 3)), some (.int x1), some (.int y0), some (.int (x3 + (1 : Int32)))] [] _ _ from ?_)
  refine zy_6 rfl (show zyR _ _ _ _ [some (.ref (16 + 3)), some (.int x1), some (.int y0), some (.int (x3 + (1 : Int32)))] [] _ _ from ?_)
  exact zy_sub (show zy_le [some (.ref (16 + 3)), some (.int x1), some (.int y0), some (.int (x3 + (1 : Int32)))] [some (.ref (16 + 3)), some (.int x1), some (.int y0), some (.int (x3 + (1 : Int32)))] from ⟨rfl, ⟨rfl, ⟨rfl, ⟨rfl, trivial⟩⟩⟩⟩) (hk4 x1 y0 (x3 + (1 : Int32)) s _ _ h)
noncomputable def zyF127_4b  (k4 : Int32 → Int32 → Int32 → zy_S → Option (Int32 × zy_S)) (x1 : Int32) (x2 : Int32) (x3 : Int32) (s : zy_S) : Option (Int32 × zy_S) :=
if (4 : Int32) ≤ x3 then
some (x2, s)
else
(zyF128 x1 x3 s).bind fun p1 =>
(zyF128 x1 x2 p1.2).bind fun p2 =>
if p1.1 ≤ p2.1 then
zyF127_29 k4 x1 x3 x2 p2.2
else
zyF127_29 k4 x1 x3 x3 p2.2
theorem zyC127_4b {X : zx_X}  {k4 : Int32 → Int32 → Int32 → zy_S → Option (Int32 × zy_S)}  (hk4 : ∀ (x1 : Int32) (x2 : Int32) (x3 : Int32) (s : zy_S) (r : Int32) (s' : zy_S), k4 x1 x2 x3 s = some (r, s') → zyR X 5 127 4 [some (.ref (16 + 3)), some (.int x1), some (.int x2), some (.int x3)] [] s (zyE (some (.int r)) s')) {x1 : Int32} {x2 : Int32} {x3 : Int32} {s : zy_S} {r : Int32} {s' : zy_S}  (h : zyF127_4b k4 x1 x2 x3 s = some (r, s')) : zyR X 5 127 4 [some (.ref (16 + 3)), some (.int x1), some (.int x2), some (.int x3)] [] s (zyE (some (.int r)) s') := by
  unfold zyF127_4b at h
  refine zy_2 rfl rfl (show zyR _ _ _ _ [some (.ref (16 + 3)), some (.int x1), some (.int x2), some (.int x3)] [.int x3] _ _ from ?_)
  refine zy_3 rfl rfl (show zyR _ _ _ _ [some (.ref (16 + 3)), some (.int x1), some (.int x2), some (.int x3)] [.int (4 : Int32), .int x3] _ _ from ?_)
  refine zy_25_3 rfl (fun b4 => (show zyR _ _ _ _ [some (.ref (16 + 3)), some (.int x1), some (.int x2), some (.int x3)] [] _ _ from ?_)) (fun b4 => (show zyR _ _ _ _ [some (.ref (16 + 3)), some (.int x1), some (.int x2), some (.int x3)] [] _ _ from ?_))
  · replace h := zy_ifp h b4
    refine zy_2 rfl rfl (show zyR _ _ _ _ [some (.ref (16 + 3)), some (.int x1), some (.int x2), some (.int x3)] [.int x2] _ _ from ?_)
    obtain ⟨rfl, rfl⟩ := zy_pi h
    exact zy_4 rfl ⟨rfl, rfl⟩
  · replace h := zy_ifn h b4
    refine zy_0 rfl rfl (show zyR _ _ _ _ [some (.ref (16 + 3)), some (.int x1), some (.int x2), some (.int x3)] [.ref (16 + 3)] _ _ from ?_)
    refine zy_2 rfl rfl (show zyR _ _ _ _ [some (.ref (16 + 3)), some (.int x1), some (.int x2), some (.int x3)] [.int x1, .ref (16 + 3)] _ _ from ?_)
    refine zy_2 rfl rfl (show zyR _ _ _ _ [some (.ref (16 + 3)), some (.int x1), some (.int x2), some (.int x3)] [.int x3, .int x1, .ref (16 + 3)] _ _ from ?_)
    obtain ⟨p1, hp1, h⟩ := zy_bind h
    refine zy_5 (c := 16) (as := [.int x1, .int x3]) (rest := []) (L := [some (.ref (16 + 3)), some (.int x1), some (.int x3)]) (d' := 4) rfl rfl rfl (Nat.le_of_ble_eq_true rfl) (Nat.le_of_ble_eq_true rfl) rfl (Nat.le_of_ble_eq_true rfl) rfl rfl (zyC128 hp1) ?_
    show zyR _ _ _ _ [some (.ref (16 + 3)), some (.int x1), some (.int x2), some (.int x3)] [.int p1.1] _ _
    refine zy_0 rfl rfl (show zyR _ _ _ _ [some (.ref (16 + 3)), some (.int x1), some (.int x2), some (.int x3)] [.ref (16 + 3), .int p1.1] _ _ from ?_)
    refine zy_2 rfl rfl (show zyR _ _ _ _ [some (.ref (16 + 3)), some (.int x1), some (.int x2), some (.int x3)] [.int x1, .ref (16 + 3), .int p1.1] _ _ from ?_)
    refine zy_2 rfl rfl (show zyR _ _ _ _ [some (.ref (16 + 3)), some (.int x1), some (.int x2), some (.int x3)] [.int x2, .int x1, .ref (16 + 3), .int p1.1] _ _ from ?_)
    obtain ⟨p2, hp2, h⟩ := zy_bind h
    refine zy_5 (c := 16) (as := [.int x1, .int x2]) (rest := [.int p1.1]) (L := [some (.ref (16 + 3)), some (.int x1), some (.int x2)]) (d' := 4) rfl rfl rfl (Nat.le_of_ble_eq_true rfl) (Nat.le_of_ble_eq_true rfl) rfl (Nat.le_of_ble_eq_true rfl) rfl rfl (zyC128 hp2) ?_
    show zyR _ _ _ _ [some (.ref (16 + 3)), some (.int x1), some (.int x2), some (.int x3)] [.int p2.1, .int p1.1] _ _
    refine zy_25_5 rfl (fun b3 => (show zyR _ _ _ _ [some (.ref (16 + 3)), some (.int x1), some (.int x2), some (.int x3)] [] _ _ from ?_)) (fun b3 => (show zyR _ _ _ _ [some (.ref (16 + 3)), some (.int x1), some (.int x2), some (.int x3)] [] _ _ from ?_))
    · replace h := zy_ifp h b3
      refine zy_2 rfl rfl (show zyR _ _ _ _ [some (.ref (16 + 3)), some (.int x1), some (.int x2), some (.int x3)] [.int x2] _ _ from ?_)
      exact zy_sub (show zy_le [some (.ref (16 + 3)), some (.int x1), none, some (.int x3)] [some (.ref (16 + 3)), some (.int x1), some (.int x2), some (.int x3)] from ⟨rfl, ⟨rfl, ⟨rfl, trivial⟩⟩⟩) (zyC127_29 hk4 h)
    · replace h := zy_ifn h b3
      refine zy_2 rfl rfl (show zyR _ _ _ _ [some (.ref (16 + 3)), some (.int x1), some (.int x2), some (.int x3)] [.int x3] _ _ from ?_)
      refine zy_6 rfl (show zyR _ _ _ _ [some (.ref (16 + 3)), some (.int x1), some (.int x2), some (.int x3)] [.int x3] _ _ from ?_)
      exact zy_sub (show zy_le [some (.ref (16 + 3)), some (.int x1), none, some (.int x3)] [some (.ref (16 + 3)), some (.int x1), some (.int x2), some (.int x3)] from ⟨rfl, ⟨rfl, ⟨rfl, trivial⟩⟩⟩) (zyC127_29 hk4 h)
noncomputable def zyF127_4   (n : Nat) : Int32 → Int32 → Int32 → zy_S → Option (Int32 × zy_S) := Nat.rec (fun _ _ _ _ => none) (fun _ k4 => zyF127_4b k4) n
theorem zyC127_4 {X : zx_X}     : ∀ (n : Nat) (x1 : Int32) (x2 : Int32) (x3 : Int32) (s : zy_S) (r : Int32) (s' : zy_S), zyF127_4 n x1 x2 x3 s = some (r, s') → zyR X 5 127 4 [some (.ref (16 + 3)), some (.int x1), some (.int x2), some (.int x3)] [] s (zyE (some (.int r)) s')
  | 0, _, _, _ => by
    intro s r s'  h
    have h : (none : Option (Int32 × zy_S)) = some (r, s') := h
    cases h
  | n + 1, x1, x2, x3 => by
    intro s r s'  h
    exact zyC127_4b (k4 := zyF127_4 n) (fun x1 x2 x3 s r s'  h => zyC127_4  n x1 x2 x3 s r s'  h) h
noncomputable def zyF127   (x1 : Int32) (s : zy_S) : Option (Int32 × zy_S) :=
zyF127_4 zy_fu x1 (0 : Int32) (1 : Int32) s
theorem zyC127 {X : zx_X}     {x1 : Int32} {s : zy_S} {r : Int32} {s' : zy_S}  (h : zyF127 x1 s = some (r, s')) : zyR X 5 127 0 [some (.ref (16 + 3)), some (.int x1), none, none] [] s (zyE (some (.int r)) s') := by
  unfold zyF127 at h
  refine zy_3 rfl rfl (show zyR _ _ _ _ [some (.ref (16 + 3)), some (.int x1), none, none] [.int (0 : Int32)] _ _ from ?_)
  refine zy_23 rfl rfl (show zyR _ _ _ _ [some (.ref (16 + 3)), some (.int x1), some (.int (0 : Int32)), none] [] _ _ from ?_)
  refine zy_3 rfl rfl (show zyR _ _ _ _ [some (.ref (16 + 3)), some (.int x1), some (.int (0 : Int32)), none] [.int (1 : Int32)] _ _ from ?_)
  refine zy_23 rfl rfl (show zyR _ _ _ _ [some (.ref (16 + 3)), some (.int x1), some (.int (0 : Int32)), some (.int (1 : Int32))] [] _ _ from ?_)
  exact zy_sub (show zy_le [some (.ref (16 + 3)), some (.int x1), some (.int (0 : Int32)), some (.int (1 : Int32))] [some (.ref (16 + 3)), some (.int x1), some (.int (0 : Int32)), some (.int (1 : Int32))] from ⟨rfl, ⟨rfl, ⟨rfl, ⟨rfl, trivial⟩⟩⟩⟩) (zyC127_4 zy_fu x1 (0 : Int32) (1 : Int32) s _ _ h)
/-! NineOpinions$Votes.mostUnlike()I -/
noncomputable def zyF126_40  (k4 : Int32 → Int32 → zy_S → Option (Int32 × zy_S)) (x2 : Int32) (y0 : Int32) (s : zy_S) : Option (Int32 × zy_S) :=
k4 y0 (x2 + (1 : Int32)) s
theorem zyC126_40 {X : zx_X}  {k4 : Int32 → Int32 → zy_S → Option (Int32 × zy_S)}  (hk4 : ∀ (x1 : Int32) (x2 : Int32) (s : zy_S) (r : Int32) (s' : zy_S), k4 x1 x2 s = some (r, s') → zyR X 6 126 4 [some (.ref (16 + 3)), some (.int x1), some (.int x2), none] [] s (zyE (some (.int r)) s')) {x2 : Int32} {y0 : Int32} {s : zy_S} {r : Int32} {s' : zy_S}  (h : zyF126_40 k4 x2 y0 s = some (r, s')) : zyR X 6 126 40 [some (.ref (16 + 3)), none, some (.int x2), none] [.int y0] s (zyE (some (.int r)) s') := by
  unfold zyF126_40 at h
  refine zy_23 rfl rfl (show zyR _ _ _ _ [some (.ref (16 + 3)), some (.int y0), some (.int x2), none] [] _ _ from ?_)
  refine zy_22 rfl rfl rfl rfl (show zyR _ _ _ _ [some (.ref (16 + 3)), some (.int y0), some (.int (x2 + (1 : Int32))), none] [] _ _ from ?_)
  refine zy_6 rfl (show zyR _ _ _ _ [some (.ref (16 + 3)), some (.int y0), some (.int (x2 + (1 : Int32))), none] [] _ _ from ?_)
  exact zy_sub (show zy_le [some (.ref (16 + 3)), some (.int y0), some (.int (x2 + (1 : Int32))), none] [some (.ref (16 + 3)), some (.int y0), some (.int (x2 + (1 : Int32))), none] from ⟨rfl, ⟨rfl, ⟨rfl, trivial⟩⟩⟩) (hk4 y0 (x2 + (1 : Int32)) s _ _ h)
noncomputable def zyF126_4b  (k4 : Int32 → Int32 → zy_S → Option (Int32 × zy_S)) (x1 : Int32) (x2 : Int32) (s : zy_S) : Option (Int32 × zy_S) :=
if (6 : Int32) ≤ x2 then
some (x1, s)
else
(zyF127 x2 s).bind fun p1 =>
(zyF128 x2 p1.1 p1.2).bind fun p2 =>
(zyF127 x1 p2.2).bind fun p3 =>
(zyF128 x1 p3.1 p3.2).bind fun p4 =>
if p4.1 ≤ p2.1 then
zyF126_40 k4 x2 x1 p4.2
else
zyF126_40 k4 x2 x2 p4.2
theorem zyC126_4b {X : zx_X}  {k4 : Int32 → Int32 → zy_S → Option (Int32 × zy_S)}  (hk4 : ∀ (x1 : Int32) (x2 : Int32) (s : zy_S) (r : Int32) (s' : zy_S), k4 x1 x2 s = some (r, s') → zyR X 6 126 4 [some (.ref (16 + 3)), some (.int x1), some (.int x2), none] [] s (zyE (some (.int r)) s')) {x1 : Int32} {x2 : Int32} {s : zy_S} {r : Int32} {s' : zy_S}  (h : zyF126_4b k4 x1 x2 s = some (r, s')) : zyR X 6 126 4 [some (.ref (16 + 3)), some (.int x1), some (.int x2), none] [] s (zyE (some (.int r)) s') := by
  unfold zyF126_4b at h
  refine zy_2 rfl rfl (show zyR _ _ _ _ [some (.ref (16 + 3)), some (.int x1), some (.int x2), none] [.int x2] _ _ from ?_)
  refine zy_3 rfl rfl (show zyR _ _ _ _ [some (.ref (16 + 3)), some (.int x1), some (.int x2), none] [.int (6 : Int32), .int x2] _ _ from ?_)
  refine zy_25_3 rfl (fun b6 => (show zyR _ _ _ _ [some (.ref (16 + 3)), some (.int x1), some (.int x2), none] [] _ _ from ?_)) (fun b6 => (show zyR _ _ _ _ [some (.ref (16 + 3)), some (.int x1), some (.int x2), none] [] _ _ from ?_))
  · replace h := zy_ifp h b6
    refine zy_2 rfl rfl (show zyR _ _ _ _ [some (.ref (16 + 3)), some (.int x1), some (.int x2), none] [.int x1] _ _ from ?_)
    obtain ⟨rfl, rfl⟩ := zy_pi h
    exact zy_4 rfl ⟨rfl, rfl⟩
  · replace h := zy_ifn h b6
    refine zy_0 rfl rfl (show zyR _ _ _ _ [some (.ref (16 + 3)), some (.int x1), some (.int x2), none] [.ref (16 + 3)] _ _ from ?_)
    refine zy_2 rfl rfl (show zyR _ _ _ _ [some (.ref (16 + 3)), some (.int x1), some (.int x2), none] [.int x2, .ref (16 + 3)] _ _ from ?_)
    refine zy_0 rfl rfl (show zyR _ _ _ _ [some (.ref (16 + 3)), some (.int x1), some (.int x2), none] [.ref (16 + 3), .int x2, .ref (16 + 3)] _ _ from ?_)
    refine zy_2 rfl rfl (show zyR _ _ _ _ [some (.ref (16 + 3)), some (.int x1), some (.int x2), none] [.int x2, .ref (16 + 3), .int x2, .ref (16 + 3)] _ _ from ?_)
    obtain ⟨p1, hp1, h⟩ := zy_bind h
    refine zy_5 (c := 16) (as := [.int x2]) (rest := [.int x2, .ref (16 + 3)]) (L := [some (.ref (16 + 3)), some (.int x2), none, none]) (d' := 5) rfl rfl rfl (Nat.le_of_ble_eq_true rfl) (Nat.le_of_ble_eq_true rfl) rfl (Nat.le_of_ble_eq_true rfl) rfl rfl (zyC127 hp1) ?_
    show zyR _ _ _ _ [some (.ref (16 + 3)), some (.int x1), some (.int x2), none] [.int p1.1, .int x2, .ref (16 + 3)] _ _
    obtain ⟨p2, hp2, h⟩ := zy_bind h
    refine zy_5 (c := 16) (as := [.int x2, .int p1.1]) (rest := []) (L := [some (.ref (16 + 3)), some (.int x2), some (.int p1.1)]) (d' := 4) rfl rfl rfl (Nat.le_of_ble_eq_true rfl) (Nat.le_of_ble_eq_true rfl) rfl (Nat.le_of_ble_eq_true rfl) rfl rfl (zyC128 hp2) ?_
    show zyR _ _ _ _ [some (.ref (16 + 3)), some (.int x1), some (.int x2), none] [.int p2.1] _ _
    refine zy_23 rfl rfl (show zyR _ _ _ _ [some (.ref (16 + 3)), some (.int x1), some (.int x2), some (.int p2.1)] [] _ _ from ?_)
    refine zy_2 rfl rfl (show zyR _ _ _ _ [some (.ref (16 + 3)), some (.int x1), some (.int x2), some (.int p2.1)] [.int p2.1] _ _ from ?_)
    refine zy_0 rfl rfl (show zyR _ _ _ _ [some (.ref (16 + 3)), some (.int x1), some (.int x2), some (.int p2.1)] [.ref (16 + 3), .int p2.1] _ _ from ?_)
    refine zy_2 rfl rfl (show zyR _ _ _ _ [some (.ref (16 + 3)), some (.int x1), some (.int x2), some (.int p2.1)] [.int x1, .ref (16 + 3), .int p2.1] _ _ from ?_)
    refine zy_0 rfl rfl (show zyR _ _ _ _ [some (.ref (16 + 3)), some (.int x1), some (.int x2), some (.int p2.1)] [.ref (16 + 3), .int x1, .ref (16 + 3), .int p2.1] _ _ from ?_)
    refine zy_2 rfl rfl (show zyR _ _ _ _ [some (.ref (16 + 3)), some (.int x1), some (.int x2), some (.int p2.1)] [.int x1, .ref (16 + 3), .int x1, .ref (16 + 3), .int p2.1] _ _ from ?_)
    obtain ⟨p3, hp3, h⟩ := zy_bind h
    refine zy_5 (c := 16) (as := [.int x1]) (rest := [.int x1, .ref (16 + 3), .int p2.1]) (L := [some (.ref (16 + 3)), some (.int x1), none, none]) (d' := 5) rfl rfl rfl (Nat.le_of_ble_eq_true rfl) (Nat.le_of_ble_eq_true rfl) rfl (Nat.le_of_ble_eq_true rfl) rfl rfl (zyC127 hp3) ?_
    show zyR _ _ _ _ [some (.ref (16 + 3)), some (.int x1), some (.int x2), some (.int p2.1)] [.int p3.1, .int x1, .ref (16 + 3), .int p2.1] _ _
    obtain ⟨p4, hp4, h⟩ := zy_bind h
    refine zy_5 (c := 16) (as := [.int x1, .int p3.1]) (rest := [.int p2.1]) (L := [some (.ref (16 + 3)), some (.int x1), some (.int p3.1)]) (d' := 4) rfl rfl rfl (Nat.le_of_ble_eq_true rfl) (Nat.le_of_ble_eq_true rfl) rfl (Nat.le_of_ble_eq_true rfl) rfl rfl (zyC128 hp4) ?_
    show zyR _ _ _ _ [some (.ref (16 + 3)), some (.int x1), some (.int x2), some (.int p2.1)] [.int p4.1, .int p2.1] _ _
    refine zy_25_3 rfl (fun b5 => (show zyR _ _ _ _ [some (.ref (16 + 3)), some (.int x1), some (.int x2), some (.int p2.1)] [] _ _ from ?_)) (fun b5 => (show zyR _ _ _ _ [some (.ref (16 + 3)), some (.int x1), some (.int x2), some (.int p2.1)] [] _ _ from ?_))
    · replace h := zy_ifp h b5
      refine zy_2 rfl rfl (show zyR _ _ _ _ [some (.ref (16 + 3)), some (.int x1), some (.int x2), some (.int p2.1)] [.int x1] _ _ from ?_)
      exact zy_sub (show zy_le [some (.ref (16 + 3)), none, some (.int x2), none] [some (.ref (16 + 3)), some (.int x1), some (.int x2), some (.int p2.1)] from ⟨rfl, ⟨rfl, trivial⟩⟩) (zyC126_40 hk4 h)
    · replace h := zy_ifn h b5
      refine zy_2 rfl rfl (show zyR _ _ _ _ [some (.ref (16 + 3)), some (.int x1), some (.int x2), some (.int p2.1)] [.int x2] _ _ from ?_)
      refine zy_6 rfl (show zyR _ _ _ _ [some (.ref (16 + 3)), some (.int x1), some (.int x2), some (.int p2.1)] [.int x2] _ _ from ?_)
      exact zy_sub (show zy_le [some (.ref (16 + 3)), none, some (.int x2), none] [some (.ref (16 + 3)), some (.int x1), some (.int x2), some (.int p2.1)] from ⟨rfl, ⟨rfl, trivial⟩⟩) (zyC126_40 hk4 h)
noncomputable def zyF126_4   (n : Nat) : Int32 → Int32 → zy_S → Option (Int32 × zy_S) := Nat.rec (fun _ _ _ => none) (fun _ k4 => zyF126_4b k4) n
theorem zyC126_4 {X : zx_X}     : ∀ (n : Nat) (x1 : Int32) (x2 : Int32) (s : zy_S) (r : Int32) (s' : zy_S), zyF126_4 n x1 x2 s = some (r, s') → zyR X 6 126 4 [some (.ref (16 + 3)), some (.int x1), some (.int x2), none] [] s (zyE (some (.int r)) s')
  | 0, _, _ => by
    intro s r s'  h
    have h : (none : Option (Int32 × zy_S)) = some (r, s') := h
    cases h
  | n + 1, x1, x2 => by
    intro s r s'  h
    exact zyC126_4b (k4 := zyF126_4 n) (fun x1 x2 s r s'  h => zyC126_4  n x1 x2 s r s'  h) h
noncomputable def zyF126    (s : zy_S) : Option (Int32 × zy_S) :=
zyF126_4 zy_fu (0 : Int32) (1 : Int32) s
theorem zyC126 {X : zx_X}      {s : zy_S} {r : Int32} {s' : zy_S}  (h : zyF126 s = some (r, s')) : zyR X 6 126 0 [some (.ref (16 + 3)), none, none, none] [] s (zyE (some (.int r)) s') := by
  unfold zyF126 at h
  refine zy_3 rfl rfl (show zyR _ _ _ _ [some (.ref (16 + 3)), none, none, none] [.int (0 : Int32)] _ _ from ?_)
  refine zy_23 rfl rfl (show zyR _ _ _ _ [some (.ref (16 + 3)), some (.int (0 : Int32)), none, none] [] _ _ from ?_)
  refine zy_3 rfl rfl (show zyR _ _ _ _ [some (.ref (16 + 3)), some (.int (0 : Int32)), none, none] [.int (1 : Int32)] _ _ from ?_)
  refine zy_23 rfl rfl (show zyR _ _ _ _ [some (.ref (16 + 3)), some (.int (0 : Int32)), some (.int (1 : Int32)), none] [] _ _ from ?_)
  exact zy_sub (show zy_le [some (.ref (16 + 3)), some (.int (0 : Int32)), some (.int (1 : Int32)), none] [some (.ref (16 + 3)), some (.int (0 : Int32)), some (.int (1 : Int32)), none] from ⟨rfl, ⟨rfl, ⟨rfl, trivial⟩⟩⟩) (zyC126_4 zy_fu (0 : Int32) (1 : Int32) s _ _ h)
