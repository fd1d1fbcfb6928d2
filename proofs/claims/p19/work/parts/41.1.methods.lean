/-! PARTS 41.017.methods to 41.033.methods -/
section
/-! PART 41.17: methods as functions. Made by wip/v4/dcp.py. -/
/-! NineOpinions$Votes.strikable()I -/
noncomputable def zyF94_61  (k4 : Int32 → Int32 → zy_S → Option (Int32 × zy_S)) (x2 : Int32) (y0 : Int32) (y1 : Int32) (s : zy_S) : Option (Int32 × zy_S) :=
k4 (y1 ||| y0) (x2 + (1 : Int32)) s
theorem zyC94_61 {X : zx_X}  {k4 : Int32 → Int32 → zy_S → Option (Int32 × zy_S)}  (hk4 : ∀ (x1 : Int32) (x2 : Int32) (s : zy_S) (r : Int32) (s' : zy_S), k4 x1 x2 s = some (r, s') → zyR X 4 94 4 [some (.ref (16 + 3)), some (.int x1), some (.int x2), none] [] s (zyE (some (.int r)) s')) {x2 : Int32} {y0 : Int32} {y1 : Int32} {s : zy_S} {r : Int32} {s' : zy_S}  (h : zyF94_61 k4 x2 y0 y1 s = some (r, s')) : zyR X 4 94 61 [some (.ref (16 + 3)), none, some (.int x2), none] [.int y0, .int y1] s (zyE (some (.int r)) s') := by
  unfold zyF94_61 at h
  refine zy_14 rfl (show zyR _ _ _ _ [some (.ref (16 + 3)), none, some (.int x2), none] [.int (y1 ||| y0)] _ _ from ?_)
  refine zy_23 rfl rfl (show zyR _ _ _ _ [some (.ref (16 + 3)), some (.int (y1 ||| y0)), some (.int x2), none] [] _ _ from ?_)
  refine zy_22 rfl rfl rfl rfl (show zyR _ _ _ _ [some (.ref (16 + 3)), some (.int (y1 ||| y0)), some (.int (x2 + (1 : Int32))), none] [] _ _ from ?_)
  refine zy_6 rfl (show zyR _ _ _ _ [some (.ref (16 + 3)), some (.int (y1 ||| y0)), some (.int (x2 + (1 : Int32))), none] [] _ _ from ?_)
  exact zy_sub (show zy_le [some (.ref (16 + 3)), some (.int (y1 ||| y0)), some (.int (x2 + (1 : Int32))), none] [some (.ref (16 + 3)), some (.int (y1 ||| y0)), some (.int (x2 + (1 : Int32))), none] from ⟨rfl, ⟨rfl, ⟨rfl, trivial⟩⟩⟩) (hk4 (y1 ||| y0) (x2 + (1 : Int32)) s _ _ h)
noncomputable def zyF94_48  (k4 : Int32 → Int32 → zy_S → Option (Int32 × zy_S)) (x1 : Int32) (x2 : Int32) (y0 : Int32) (s : zy_S) : Option (Int32 × zy_S) :=
if y0 = 0 then
zyF94_61 k4 x2 (0 : Int32) x1 s
else
zyF94_61 k4 x2 ((1 : Int32) <<< (x2 &&& 31)) x1 s
theorem zyC94_48 {X : zx_X}  {k4 : Int32 → Int32 → zy_S → Option (Int32 × zy_S)}  (hk4 : ∀ (x1 : Int32) (x2 : Int32) (s : zy_S) (r : Int32) (s' : zy_S), k4 x1 x2 s = some (r, s') → zyR X 4 94 4 [some (.ref (16 + 3)), some (.int x1), some (.int x2), none] [] s (zyE (some (.int r)) s')) {x1 : Int32} {x2 : Int32} {y0 : Int32} {s : zy_S} {r : Int32} {s' : zy_S}  (h : zyF94_48 k4 x1 x2 y0 s = some (r, s')) : zyR X 4 94 48 [some (.ref (16 + 3)), some (.int x1), some (.int x2), none] [.int y0] s (zyE (some (.int r)) s') := by
  unfold zyF94_48 at h
  refine zy_23 rfl rfl (show zyR _ _ _ _ [some (.ref (16 + 3)), some (.int x1), some (.int x2), some (.int y0)] [] _ _ from ?_)
  refine zy_2 rfl rfl (show zyR _ _ _ _ [some (.ref (16 + 3)), some (.int x1), some (.int x2), some (.int y0)] [.int x1] _ _ from ?_)
  refine zy_2 rfl rfl (show zyR _ _ _ _ [some (.ref (16 + 3)), some (.int x1), some (.int x2), some (.int y0)] [.int y0, .int x1] _ _ from ?_)
  refine zy_24_0 rfl (fun b1 => (show zyR _ _ _ _ [some (.ref (16 + 3)), some (.int x1), some (.int x2), some (.int y0)] [.int x1] _ _ from ?_)) (fun b1 => (show zyR _ _ _ _ [some (.ref (16 + 3)), some (.int x1), some (.int x2), some (.int y0)] [.int x1] _ _ from ?_))
  · replace h := zy_ifp h b1
    refine zy_3 rfl rfl (show zyR _ _ _ _ [some (.ref (16 + 3)), some (.int x1), some (.int x2), some (.int y0)] [.int (0 : Int32), .int x1] _ _ from ?_)
    exact zy_sub (show zy_le [some (.ref (16 + 3)), none, some (.int x2), none] [some (.ref (16 + 3)), some (.int x1), some (.int x2), some (.int y0)] from ⟨rfl, ⟨rfl, trivial⟩⟩) (zyC94_61 hk4 h)
  · replace h := zy_ifn h b1
    refine zy_3 rfl rfl (show zyR _ _ _ _ [some (.ref (16 + 3)), some (.int x1), some (.int x2), some (.int y0)] [.int (1 : Int32), .int x1] _ _ from ?_)
    refine zy_2 rfl rfl (show zyR _ _ _ _ [some (.ref (16 + 3)), some (.int x1), some (.int x2), some (.int y0)] [.int x2, .int (1 : Int32), .int x1] _ _ from ?_)
    refine zy_16 rfl (show zyR _ _ _ _ [some (.ref (16 + 3)), some (.int x1), some (.int x2), some (.int y0)] [.int ((1 : Int32) <<< (x2 &&& 31)), .int x1] _ _ from ?_)
    refine zy_6 rfl (show zyR _ _ _ _ [some (.ref (16 + 3)), some (.int x1), some (.int x2), some (.int y0)] [.int ((1 : Int32) <<< (x2 &&& 31)), .int x1] _ _ from ?_)
    exact zy_sub (show zy_le [some (.ref (16 + 3)), none, some (.int x2), none] [some (.ref (16 + 3)), some (.int x1), some (.int x2), some (.int y0)] from ⟨rfl, ⟨rfl, trivial⟩⟩) (zyC94_61 hk4 h)
noncomputable def zyF94_47  (k4 : Int32 → Int32 → zy_S → Option (Int32 × zy_S)) (x1 : Int32) (x2 : Int32) (s : zy_S) : Option (Int32 × zy_S) :=
zyF94_48 k4 x1 x2 (0 : Int32) s
theorem zyC94_47 {X : zx_X}  {k4 : Int32 → Int32 → zy_S → Option (Int32 × zy_S)}  (hk4 : ∀ (x1 : Int32) (x2 : Int32) (s : zy_S) (r : Int32) (s' : zy_S), k4 x1 x2 s = some (r, s') → zyR X 4 94 4 [some (.ref (16 + 3)), some (.int x1), some (.int x2), none] [] s (zyE (some (.int r)) s')) {x1 : Int32} {x2 : Int32} {s : zy_S} {r : Int32} {s' : zy_S}  (h : zyF94_47 k4 x1 x2 s = some (r, s')) : zyR X 4 94 47 [some (.ref (16 + 3)), some (.int x1), some (.int x2), none] [] s (zyE (some (.int r)) s') := by
  unfold zyF94_47 at h
  refine zy_3 rfl rfl (show zyR _ _ _ _ [some (.ref (16 + 3)), some (.int x1), some (.int x2), none] [.int (0 : Int32)] _ _ from ?_)
  exact zy_sub (show zy_le [some (.ref (16 + 3)), some (.int x1), some (.int x2), none] [some (.ref (16 + 3)), some (.int x1), some (.int x2), none] from ⟨rfl, ⟨rfl, ⟨rfl, trivial⟩⟩⟩) (zyC94_48 hk4 h)
noncomputable def zyF94_4b  (k4 : Int32 → Int32 → zy_S → Option (Int32 × zy_S)) (x1 : Int32) (x2 : Int32) (s : zy_S) : Option (Int32 × zy_S) :=
if (24 : Int32) ≤ x2 then
some (x1, s)
else
(zyF86 x2 s).bind fun p2 =>
if p2.1 = 0 then
zyF94_47 k4 x1 x2 p2.2
else
(zyF51 p2.2).bind fun p3 =>
(zyF95 x2 p3.2).bind fun p4 =>
(zyF97 (p3.1 &&& (p4.1 ^^^ (-1 : Int32))) p4.2).bind fun p5 =>
if p5.1 = 0 then
zyF94_47 k4 x1 x2 p5.2
else
zyF94_48 k4 x1 x2 (1 : Int32) p5.2
theorem zyC94_4b {X : zx_X}  {k4 : Int32 → Int32 → zy_S → Option (Int32 × zy_S)}  (hk4 : ∀ (x1 : Int32) (x2 : Int32) (s : zy_S) (r : Int32) (s' : zy_S), k4 x1 x2 s = some (r, s') → zyR X 4 94 4 [some (.ref (16 + 3)), some (.int x1), some (.int x2), none] [] s (zyE (some (.int r)) s')) {x1 : Int32} {x2 : Int32} {s : zy_S} {r : Int32} {s' : zy_S}  (h : zyF94_4b k4 x1 x2 s = some (r, s')) : zyR X 4 94 4 [some (.ref (16 + 3)), some (.int x1), some (.int x2), none] [] s (zyE (some (.int r)) s') := by
  unfold zyF94_4b at h
  refine zy_2 rfl rfl (show zyR _ _ _ _ [some (.ref (16 + 3)), some (.int x1), some (.int x2), none] [.int x2] _ _ from ?_)
  refine zy_3 rfl rfl (show zyR _ _ _ _ [some (.ref (16 + 3)), some (.int x1), some (.int x2), none] [.int (24 : Int32), .int x2] _ _ from ?_)
  refine zy_25_3 rfl (fun b8 => (show zyR _ _ _ _ [some (.ref (16 + 3)), some (.int x1), some (.int x2), none] [] _ _ from ?_)) (fun b8 => (show zyR _ _ _ _ [some (.ref (16 + 3)), some (.int x1), some (.int x2), none] [] _ _ from ?_))
  · replace h := zy_ifp h b8
    refine zy_2 rfl rfl (show zyR _ _ _ _ [some (.ref (16 + 3)), some (.int x1), some (.int x2), none] [.int x1] _ _ from ?_)
    obtain ⟨rfl, rfl⟩ := zy_pi h
    exact zy_4 rfl ⟨rfl, rfl⟩
  · replace h := zy_ifn h b8
    refine zy_0 rfl rfl (show zyR _ _ _ _ [some (.ref (16 + 3)), some (.int x1), some (.int x2), none] [.ref (16 + 3)] _ _ from ?_)
    refine zy_1r (c := 16) rfl rfl rfl (show zyR _ _ _ _ [some (.ref (16 + 3)), some (.int x1), some (.int x2), none] [.ref (1 + 3)] _ _ from ?_)
    refine zy_2 rfl rfl (show zyR _ _ _ _ [some (.ref (16 + 3)), some (.int x1), some (.int x2), none] [.int x2, .ref (1 + 3)] _ _ from ?_)
    obtain ⟨p2, hp2, h⟩ := zy_bind h
    refine zy_5 (c := 1) (as := [.int x2]) (rest := []) (L := [some (.ref (1 + 3)), some (.int x2)]) (d' := 2) rfl rfl rfl (Nat.le_of_ble_eq_true rfl) (Nat.le_of_ble_eq_true rfl) rfl (Nat.le_of_ble_eq_true rfl) rfl rfl (zyC86 hp2) ?_
    show zyR _ _ _ _ [some (.ref (16 + 3)), some (.int x1), some (.int x2), none] [.int p2.1] _ _
    refine zy_24_0 rfl (fun b7 => (show zyR _ _ _ _ [some (.ref (16 + 3)), some (.int x1), some (.int x2), none] [] _ _ from ?_)) (fun b7 => (show zyR _ _ _ _ [some (.ref (16 + 3)), some (.int x1), some (.int x2), none] [] _ _ from ?_))
    · replace h := zy_ifp h b7
      exact zy_sub (show zy_le [some (.ref (16 + 3)), some (.int x1), some (.int x2), none] [some (.ref (16 + 3)), some (.int x1), some (.int x2), none] from ⟨rfl, ⟨rfl, ⟨rfl, trivial⟩⟩⟩) (zyC94_47 hk4 h)
    · replace h := zy_ifn h b7
      refine zy_0 rfl rfl (show zyR _ _ _ _ [some (.ref (16 + 3)), some (.int x1), some (.int x2), none] [.ref (16 + 3)] _ _ from ?_)
      refine zy_0 rfl rfl (show zyR _ _ _ _ [some (.ref (16 + 3)), some (.int x1), some (.int x2), none] [.ref (16 + 3), .ref (16 + 3)] _ _ from ?_)
      refine zy_1r (c := 16) rfl rfl rfl (show zyR _ _ _ _ [some (.ref (16 + 3)), some (.int x1), some (.int x2), none] [.ref (1 + 3), .ref (16 + 3)] _ _ from ?_)
      obtain ⟨p3, hp3, h⟩ := zy_bind h
      refine zy_5 (c := 1) (as := []) (rest := [.ref (16 + 3)]) (L := [some (.ref (1 + 3))]) (d' := 1) rfl rfl rfl (Nat.le_of_ble_eq_true rfl) (Nat.le_of_ble_eq_true rfl) rfl (Nat.le_of_ble_eq_true rfl) rfl rfl (zyC51 hp3) ?_
      show zyR _ _ _ _ [some (.ref (16 + 3)), some (.int x1), some (.int x2), none] [.int p3.1, .ref (16 + 3)] _ _
      refine zy_0 rfl rfl (show zyR _ _ _ _ [some (.ref (16 + 3)), some (.int x1), some (.int x2), none] [.ref (16 + 3), .int p3.1, .ref (16 + 3)] _ _ from ?_)
      refine zy_2 rfl rfl (show zyR _ _ _ _ [some (.ref (16 + 3)), some (.int x1), some (.int x2), none] [.int x2, .ref (16 + 3), .int p3.1, .ref (16 + 3)] _ _ from ?_)
      obtain ⟨p4, hp4, h⟩ := zy_bind h
      refine zy_5 (c := 16) (as := [.int x2]) (rest := [.int p3.1, .ref (16 + 3)]) (L := [some (.ref (16 + 3)), some (.int x2), none, none]) (d' := 3) rfl rfl rfl (Nat.le_of_ble_eq_true rfl) (Nat.le_of_ble_eq_true rfl) rfl (Nat.le_of_ble_eq_true rfl) rfl rfl (zyC95 hp4) ?_
      show zyR _ _ _ _ [some (.ref (16 + 3)), some (.int x1), some (.int x2), none] [.int p4.1, .int p3.1, .ref (16 + 3)] _ _
      refine zy_3 rfl rfl (show zyR _ _ _ _ [some (.ref (16 + 3)), some (.int x1), some (.int x2), none] [.int (-1 : Int32), .int p4.1, .int p3.1, .ref (16 + 3)] _ _ from ?_)
      refine zy_15 rfl (show zyR _ _ _ _ [some (.ref (16 + 3)), some (.int x1), some (.int x2), none] [.int (p4.1 ^^^ (-1 : Int32)), .int p3.1, .ref (16 + 3)] _ _ from ?_)
      refine zy_13 rfl (show zyR _ _ _ _ [some (.ref (16 + 3)), some (.int x1), some (.int x2), none] [.int (p3.1 &&& (p4.1 ^^^ (-1 : Int32))), .ref (16 + 3)] _ _ from ?_)
      obtain ⟨p5, hp5, h⟩ := zy_bind h
      refine zy_5 (c := 16) (as := [.int (p3.1 &&& (p4.1 ^^^ (-1 : Int32)))]) (rest := []) (L := [some (.ref (16 + 3)), some (.int (p3.1 &&& (p4.1 ^^^ (-1 : Int32))))]) (d' := 3) rfl rfl rfl (Nat.le_of_ble_eq_true rfl) (Nat.le_of_ble_eq_true rfl) rfl (Nat.le_of_ble_eq_true rfl) rfl rfl (zyC97 hp5) ?_
      show zyR _ _ _ _ [some (.ref (16 + 3)), some (.int x1), some (.int x2), none] [.int p5.1] _ _
      refine zy_24_0 rfl (fun b6 => (show zyR _ _ _ _ [some (.ref (16 + 3)), some (.int x1), some (.int x2), none] [] _ _ from ?_)) (fun b6 => (show zyR _ _ _ _ [some (.ref (16 + 3)), some (.int x1), some (.int x2), none] [] _ _ from ?_))
      · replace h := zy_ifp h b6
        exact zy_sub (show zy_le [some (.ref (16 + 3)), some (.int x1), some (.int x2), none] [some (.ref (16 + 3)), some (.int x1), some (.int x2), none] from ⟨rfl, ⟨rfl, ⟨rfl, trivial⟩⟩⟩) (zyC94_47 hk4 h)
      · replace h := zy_ifn h b6
        refine zy_3 rfl rfl (show zyR _ _ _ _ [some (.ref (16 + 3)), some (.int x1), some (.int x2), none] [.int (1 : Int32)] _ _ from ?_)
        refine zy_6 rfl (show zyR _ _ _ _ [some (.ref (16 + 3)), some (.int x1), some (.int x2), none] [.int (1 : Int32)] _ _ from ?_)
        exact zy_sub (show zy_le [some (.ref (16 + 3)), some (.int x1), some (.int x2), none] [some (.ref (16 + 3)), some (.int x1), some (.int x2), none] from ⟨rfl, ⟨rfl, ⟨rfl, trivial⟩⟩⟩) (zyC94_48 hk4 h)
noncomputable def zyF94_4   (n : Nat) : Int32 → Int32 → zy_S → Option (Int32 × zy_S) := Nat.rec (fun _ _ _ => none) (fun _ k4 => zyF94_4b k4) n
theorem zyC94_4 {X : zx_X}     : ∀ (n : Nat) (x1 : Int32) (x2 : Int32) (s : zy_S) (r : Int32) (s' : zy_S), zyF94_4 n x1 x2 s = some (r, s') → zyR X 4 94 4 [some (.ref (16 + 3)), some (.int x1), some (.int x2), none] [] s (zyE (some (.int r)) s')
  | 0, _, _ => by
    intro s r s'  h
    have h : (none : Option (Int32 × zy_S)) = some (r, s') := h
    cases h
  | n + 1, x1, x2 => by
    intro s r s'  h
    exact zyC94_4b (k4 := zyF94_4 n) (fun x1 x2 s r s'  h => zyC94_4  n x1 x2 s r s'  h) h
noncomputable def zyF94    (s : zy_S) : Option (Int32 × zy_S) :=
zyF94_4 zy_fu (0 : Int32) (0 : Int32) s
theorem zyC94 {X : zx_X}      {s : zy_S} {r : Int32} {s' : zy_S}  (h : zyF94 s = some (r, s')) : zyR X 4 94 0 [some (.ref (16 + 3)), none, none, none] [] s (zyE (some (.int r)) s') := by
  unfold zyF94 at h
  refine zy_3 rfl rfl (show zyR _ _ _ _ [some (.ref (16 + 3)), none, none, none] [.int (0 : Int32)] _ _ from ?_)
  refine zy_23 rfl rfl (show zyR _ _ _ _ [some (.ref (16 + 3)), some (.int (0 : Int32)), none, none] [] _ _ from ?_)
  refine zy_3 rfl rfl (show zyR _ _ _ _ [some (.ref (16 + 3)), some (.int (0 : Int32)), none, none] [.int (0 : Int32)] _ _ from ?_)
  refine zy_23 rfl rfl (show zyR _ _ _ _ [some (.ref (16 + 3)), some (.int (0 : Int32)), some (.int (0 : Int32)), none] [] _ _ from ?_)
  exact zy_sub (show zy_le [some (.ref (16 + 3)), some (.int (0 : Int32)), some (.int (0 : Int32)), none] [some (.ref (16 + 3)), some (.int (0 : Int32)), some (.int (0 : Int32)), none] from ⟨rfl, ⟨rfl, ⟨rfl, trivial⟩⟩⟩) (zyC94_4 zy_fu (0 : Int32) (0 : Int32) s _ _ h)
/-! NineOpinions$Votes.believed()I -/
noncomputable def zyF99_17b  (k4 : Int32 → Int32 → zy_S → Option (Int32 × zy_S)) (k17 : Int32 → Int32 → Int32 → zy_S → Option (Int32 × zy_S)) (x1 : Int32) (x2 : Int32) (x3 : Int32) (s : zy_S) : Option (Int32 × zy_S) :=
if (6 : Int32) ≤ x3 then
k4 x1 (x2 + (1 : Int32)) s
else
if zy_in x2 8 then
(zyF60 (s.1 3 (x2).toNatClampNeg) x3 s).bind fun p2 =>
k17 (x1 ||| ((1 : Int32) <<< ((((4 : Int32) * x3) + p2.1) &&& 31))) x2 (x3 + (1 : Int32)) p2.2
else none
theorem zyC99_17b {X : zx_X}  {k4 : Int32 → Int32 → zy_S → Option (Int32 × zy_S)} {k17 : Int32 → Int32 → Int32 → zy_S → Option (Int32 × zy_S)}  (hk4 : ∀ (x1 : Int32) (x2 : Int32) (s : zy_S) (r : Int32) (s' : zy_S), k4 x1 x2 s = some (r, s') → zyR X 2 99 4 [some (.ref (16 + 3)), some (.int x1), some (.int x2), none] [] s (zyE (some (.int r)) s')) (hk17 : ∀ (x1 : Int32) (x2 : Int32) (x3 : Int32) (s : zy_S) (r : Int32) (s' : zy_S), k17 x1 x2 x3 s = some (r, s') → zyR X 2 99 17 [some (.ref (16 + 3)), some (.int x1), some (.int x2), some (.int x3)] [] s (zyE (some (.int r)) s')) {x1 : Int32} {x2 : Int32} {x3 : Int32} {s : zy_S} {r : Int32} {s' : zy_S}  (h : zyF99_17b k4 k17 x1 x2 x3 s = some (r, s')) : zyR X 2 99 17 [some (.ref (16 + 3)), some (.int x1), some (.int x2), some (.int x3)] [] s (zyE (some (.int r)) s') := by
  unfold zyF99_17b at h
  refine zy_2 rfl rfl (show zyR _ _ _ _ [some (.ref (16 + 3)), some (.int x1), some (.int x2), some (.int x3)] [.int x3] _ _ from ?_)
  refine zy_3 rfl rfl (show zyR _ _ _ _ [some (.ref (16 + 3)), some (.int x1), some (.int x2), some (.int x3)] [.int (6 : Int32), .int x3] _ _ from ?_)
  refine zy_25_3 rfl (fun b3 => (show zyR _ _ _ _ [some (.ref (16 + 3)), some (.int x1), some (.int x2), some (.int x3)] [] _ _ from ?_)) (fun b3 => (show zyR _ _ _ _ [some (.ref (16 + 3)), some (.int x1), some (.int x2), some (.int x3)] [] _ _ from ?_))
  · replace h := zy_ifp h b3
    refine zy_22 rfl rfl rfl rfl (show zyR _ _ _ _ [some (.ref (16 + 3)), some (.int x1), some (.int (x2 + (1 : Int32))), some (.int x3)] [] _ _ from ?_)
    refine zy_6 rfl (show zyR _ _ _ _ [some (.ref (16 + 3)), some (.int x1), some (.int (x2 + (1 : Int32))), some (.int x3)] [] _ _ from ?_)
    exact zy_sub (show zy_le [some (.ref (16 + 3)), some (.int x1), some (.int (x2 + (1 : Int32))), none] [some (.ref (16 + 3)), some (.int x1), some (.int (x2 + (1 : Int32))), some (.int x3)] from ⟨rfl, ⟨rfl, ⟨rfl, trivial⟩⟩⟩) (hk4 x1 (x2 + (1 : Int32)) s _ _ h)
  · replace h := zy_ifn h b3
    refine zy_2 rfl rfl (show zyR _ _ _ _ [some (.ref (16 + 3)), some (.int x1), some (.int x2), some (.int x3)] [.int x1] _ _ from ?_)
    refine zy_3 rfl rfl (show zyR _ _ _ _ [some (.ref (16 + 3)), some (.int x1), some (.int x2), some (.int x3)] [.int (1 : Int32), .int x1] _ _ from ?_)
    refine zy_3 rfl rfl (show zyR _ _ _ _ [some (.ref (16 + 3)), some (.int x1), some (.int x2), some (.int x3)] [.int (4 : Int32), .int (1 : Int32), .int x1] _ _ from ?_)
    refine zy_2 rfl rfl (show zyR _ _ _ _ [some (.ref (16 + 3)), some (.int x1), some (.int x2), some (.int x3)] [.int x3, .int (4 : Int32), .int (1 : Int32), .int x1] _ _ from ?_)
    refine zy_12 rfl (show zyR _ _ _ _ [some (.ref (16 + 3)), some (.int x1), some (.int x2), some (.int x3)] [.int ((4 : Int32) * x3), .int (1 : Int32), .int x1] _ _ from ?_)
    refine zy_0 rfl rfl (show zyR _ _ _ _ [some (.ref (16 + 3)), some (.int x1), some (.int x2), some (.int x3)] [.ref (16 + 3), .int ((4 : Int32) * x3), .int (1 : Int32), .int x1] _ _ from ?_)
    refine zy_1r (c := 16) rfl rfl rfl (show zyR _ _ _ _ [some (.ref (16 + 3)), some (.int x1), some (.int x2), some (.int x3)] [.ref (1 + 3), .int ((4 : Int32) * x3), .int (1 : Int32), .int x1] _ _ from ?_)
    refine zy_1r (c := 1) rfl rfl rfl (show zyR _ _ _ _ [some (.ref (16 + 3)), some (.int x1), some (.int x2), some (.int x3)] [.ref (3 + 3), .int ((4 : Int32) * x3), .int (1 : Int32), .int x1] _ _ from ?_)
    refine zy_2 rfl rfl (show zyR _ _ _ _ [some (.ref (16 + 3)), some (.int x1), some (.int x2), some (.int x3)] [.int x2, .ref (3 + 3), .int ((4 : Int32) * x3), .int (1 : Int32), .int x1] _ _ from ?_)
    obtain ⟨c1, h⟩ := zy_if h
    refine zy_26 (c := 3) rfl rfl c1 (show zyR _ _ _ _ [some (.ref (16 + 3)), some (.int x1), some (.int x2), some (.int x3)] [.int (s.1 3 (x2).toNatClampNeg), .int ((4 : Int32) * x3), .int (1 : Int32), .int x1] _ _ from ?_)
    refine zy_2 rfl rfl (show zyR _ _ _ _ [some (.ref (16 + 3)), some (.int x1), some (.int x2), some (.int x3)] [.int x3, .int (s.1 3 (x2).toNatClampNeg), .int ((4 : Int32) * x3), .int (1 : Int32), .int x1] _ _ from ?_)
    obtain ⟨p2, hp2, h⟩ := zy_bind h
    refine zy_61 (as := [.int (s.1 3 (x2).toNatClampNeg), .int x3]) (rest := [.int ((4 : Int32) * x3), .int (1 : Int32), .int x1]) (L := [some (.int (s.1 3 (x2).toNatClampNeg)), some (.int x3)]) (d' := 1) rfl rfl (Nat.le_of_ble_eq_true rfl) (Nat.le_of_ble_eq_true rfl) rfl (Nat.le_of_ble_eq_true rfl) rfl rfl (zyC60 hp2) ?_
    show zyR _ _ _ _ [some (.ref (16 + 3)), some (.int x1), some (.int x2), some (.int x3)] [.int p2.1, .int ((4 : Int32) * x3), .int (1 : Int32), .int x1] _ _
    refine zy_10 rfl (show zyR _ _ _ _ [some (.ref (16 + 3)), some (.int x1), some (.int x2), some (.int x3)] [.int (((4 : Int32) * x3) + p2.1), .int (1 : Int32), .int x1] _ _ from ?_)
    refine zy_16 rfl (show zyR _ _ _ _ [some (.ref (16 + 3)), some (.int x1), some (.int x2), some (.int x3)] [.int ((1 : Int32) <<< ((((4 : Int32) * x3) + p2.1) &&& 31)), .int x1] _ _ from ?_)
    refine zy_14 rfl (show zyR _ _ _ _ [some (.ref (16 + 3)), some (.int x1), some (.int x2), some (.int x3)] [.int (x1 ||| ((1 : Int32) <<< ((((4 : Int32) * x3) + p2.1) &&& 31)))] _ _ from ?_)
    refine zy_23 rfl rfl (show zyR _ _ _ _ [some (.ref (16 + 3)), some (.int (x1 ||| ((1 : Int32) <<< ((((4 : Int32) * x3) + p2.1) &&& 31)))), some (.int x2), some (.int x3)] [] _ _ from ?_)
    refine zy_22 rfl rfl rfl rfl (show zyR _ _ _ _ [some (.ref (16 + 3)), some (.int (x1 ||| ((1 : Int32) <<< ((((4 : Int32) * x3) + p2.1) &&& 31)))), some (.int x2), some (.int (x3 + (1 : Int32)))] [] _ _ from ?_)
    refine zy_6 rfl (show zyR _ _ _ _ [some (.ref (16 + 3)), some (.int (x1 ||| ((1 : Int32) <<< ((((4 : Int32) * x3) + p2.1) &&& 31)))), some (.int x2), some (.int (x3 + (1 : Int32)))] [] _ _ from ?_)
    exact zy_sub (show zy_le [some (.ref (16 + 3)), some (.int (x1 ||| ((1 : Int32) <<< ((((4 : Int32) * x3) + p2.1) &&& 31)))), some (.int x2), some (.int (x3 + (1 : Int32)))] [some (.ref (16 + 3)), some (.int (x1 ||| ((1 : Int32) <<< ((((4 : Int32) * x3) + p2.1) &&& 31)))), some (.int x2), some (.int (x3 + (1 : Int32)))] from ⟨rfl, ⟨rfl, ⟨rfl, ⟨rfl, trivial⟩⟩⟩⟩) (hk17 (x1 ||| ((1 : Int32) <<< ((((4 : Int32) * x3) + p2.1) &&& 31))) x2 (x3 + (1 : Int32)) p2.2 _ _ h)
noncomputable def zyF99_17  (k4 : Int32 → Int32 → zy_S → Option (Int32 × zy_S)) (n : Nat) : Int32 → Int32 → Int32 → zy_S → Option (Int32 × zy_S) := Nat.rec (fun _ _ _ _ => none) (fun _ k17 => zyF99_17b k4 k17) n
theorem zyC99_17 {X : zx_X}  {k4 : Int32 → Int32 → zy_S → Option (Int32 × zy_S)}  (hk4 : ∀ (x1 : Int32) (x2 : Int32) (s : zy_S) (r : Int32) (s' : zy_S), k4 x1 x2 s = some (r, s') → zyR X 2 99 4 [some (.ref (16 + 3)), some (.int x1), some (.int x2), none] [] s (zyE (some (.int r)) s')) : ∀ (n : Nat) (x1 : Int32) (x2 : Int32) (x3 : Int32) (s : zy_S) (r : Int32) (s' : zy_S), zyF99_17 k4 n x1 x2 x3 s = some (r, s') → zyR X 2 99 17 [some (.ref (16 + 3)), some (.int x1), some (.int x2), some (.int x3)] [] s (zyE (some (.int r)) s')
  | 0, _, _, _ => by
    intro s r s'  h
    have h : (none : Option (Int32 × zy_S)) = some (r, s') := h
    cases h
  | n + 1, x1, x2, x3 => by
    intro s r s'  h
    exact zyC99_17b (k17 := zyF99_17 k4 n) hk4 (fun x1 x2 x3 s r s'  h => zyC99_17 hk4 n x1 x2 x3 s r s'  h) h
noncomputable def zyF99_4b  (k4 : Int32 → Int32 → zy_S → Option (Int32 × zy_S)) (x1 : Int32) (x2 : Int32) (s : zy_S) : Option (Int32 × zy_S) :=
if (s.1 1 5) ≤ x2 then
some (x1, s)
else
zyF99_17 k4 zy_fu x1 x2 (0 : Int32) s
theorem zyC99_4b {X : zx_X}  {k4 : Int32 → Int32 → zy_S → Option (Int32 × zy_S)}  (hk4 : ∀ (x1 : Int32) (x2 : Int32) (s : zy_S) (r : Int32) (s' : zy_S), k4 x1 x2 s = some (r, s') → zyR X 2 99 4 [some (.ref (16 + 3)), some (.int x1), some (.int x2), none] [] s (zyE (some (.int r)) s')) {x1 : Int32} {x2 : Int32} {s : zy_S} {r : Int32} {s' : zy_S}  (h : zyF99_4b k4 x1 x2 s = some (r, s')) : zyR X 2 99 4 [some (.ref (16 + 3)), some (.int x1), some (.int x2), none] [] s (zyE (some (.int r)) s') := by
  unfold zyF99_4b at h
  refine zy_2 rfl rfl (show zyR _ _ _ _ [some (.ref (16 + 3)), some (.int x1), some (.int x2), none] [.int x2] _ _ from ?_)
  refine zy_0 rfl rfl (show zyR _ _ _ _ [some (.ref (16 + 3)), some (.int x1), some (.int x2), none] [.ref (16 + 3), .int x2] _ _ from ?_)
  refine zy_1r (c := 16) rfl rfl rfl (show zyR _ _ _ _ [some (.ref (16 + 3)), some (.int x1), some (.int x2), none] [.ref (1 + 3), .int x2] _ _ from ?_)
  refine zy_1 (c := 1) rfl rfl rfl (show zyR _ _ _ _ [some (.ref (16 + 3)), some (.int x1), some (.int x2), none] [.int (s.1 1 5), .int x2] _ _ from ?_)
  refine zy_25_3 rfl (fun b4 => (show zyR _ _ _ _ [some (.ref (16 + 3)), some (.int x1), some (.int x2), none] [] _ _ from ?_)) (fun b4 => (show zyR _ _ _ _ [some (.ref (16 + 3)), some (.int x1), some (.int x2), none] [] _ _ from ?_))
  · replace h := zy_ifp h b4
    refine zy_2 rfl rfl (show zyR _ _ _ _ [some (.ref (16 + 3)), some (.int x1), some (.int x2), none] [.int x1] _ _ from ?_)
    obtain ⟨rfl, rfl⟩ := zy_pi h
    exact zy_4 rfl ⟨rfl, rfl⟩
  · replace h := zy_ifn h b4
    refine zy_3 rfl rfl (show zyR _ _ _ _ [some (.ref (16 + 3)), some (.int x1), some (.int x2), none] [.int (0 : Int32)] _ _ from ?_)
    refine zy_23 rfl rfl (show zyR _ _ _ _ [some (.ref (16 + 3)), some (.int x1), some (.int x2), some (.int (0 : Int32))] [] _ _ from ?_)
    exact zy_sub (show zy_le [some (.ref (16 + 3)), some (.int x1), some (.int x2), some (.int (0 : Int32))] [some (.ref (16 + 3)), some (.int x1), some (.int x2), some (.int (0 : Int32))] from ⟨rfl, ⟨rfl, ⟨rfl, ⟨rfl, trivial⟩⟩⟩⟩) (zyC99_17 hk4 zy_fu x1 x2 (0 : Int32) s _ _ h)
noncomputable def zyF99_4   (n : Nat) : Int32 → Int32 → zy_S → Option (Int32 × zy_S) := Nat.rec (fun _ _ _ => none) (fun _ k4 => zyF99_4b k4) n
theorem zyC99_4 {X : zx_X}     : ∀ (n : Nat) (x1 : Int32) (x2 : Int32) (s : zy_S) (r : Int32) (s' : zy_S), zyF99_4 n x1 x2 s = some (r, s') → zyR X 2 99 4 [some (.ref (16 + 3)), some (.int x1), some (.int x2), none] [] s (zyE (some (.int r)) s')
  | 0, _, _ => by
    intro s r s'  h
    have h : (none : Option (Int32 × zy_S)) = some (r, s') := h
    cases h
  | n + 1, x1, x2 => by
    intro s r s'  h
    exact zyC99_4b (k4 := zyF99_4 n) (fun x1 x2 s r s'  h => zyC99_4  n x1 x2 s r s'  h) h
noncomputable def zyF99    (s : zy_S) : Option (Int32 × zy_S) :=
zyF99_4 zy_fu (0 : Int32) (0 : Int32) s
theorem zyC99 {X : zx_X}      {s : zy_S} {r : Int32} {s' : zy_S}  (h : zyF99 s = some (r, s')) : zyR X 2 99 0 [some (.ref (16 + 3)), none, none, none] [] s (zyE (some (.int r)) s') := by
  unfold zyF99 at h
  refine zy_3 rfl rfl (show zyR _ _ _ _ [some (.ref (16 + 3)), none, none, none] [.int (0 : Int32)] _ _ from ?_)
  refine zy_23 rfl rfl (show zyR _ _ _ _ [some (.ref (16 + 3)), some (.int (0 : Int32)), none, none] [] _ _ from ?_)
  refine zy_3 rfl rfl (show zyR _ _ _ _ [some (.ref (16 + 3)), some (.int (0 : Int32)), none, none] [.int (0 : Int32)] _ _ from ?_)
  refine zy_23 rfl rfl (show zyR _ _ _ _ [some (.ref (16 + 3)), some (.int (0 : Int32)), some (.int (0 : Int32)), none] [] _ _ from ?_)
  exact zy_sub (show zy_le [some (.ref (16 + 3)), some (.int (0 : Int32)), some (.int (0 : Int32)), none] [some (.ref (16 + 3)), some (.int (0 : Int32)), some (.int (0 : Int32)), none] from ⟨rfl, ⟨rfl, ⟨rfl, trivial⟩⟩⟩) (zyC99_4 zy_fu (0 : Int32) (0 : Int32) s _ _ h)
/-! NineOpinions.lines(I)I -/
noncomputable def zyF93   (x1 : Int32) (s : zy_S) : Option (Int32 × zy_S) :=
if x1 = (0 : Int32) then
(zyF94 s).bind fun p1 =>
some (p1.1, p1.2)
else
if x1 = (1 : Int32) then
(zyF99 s).bind fun p3 =>
some (((s.1 1 3) &&& (p3.1 ^^^ (-1 : Int32))), p3.2)
else
if x1 = (2 : Int32) then
(zyF99 s).bind fun p5 =>
some ((p5.1 &&& ((p5.2.1 1 3) ^^^ (-1 : Int32))), p5.2)
else
some ((-1 : Int32), s)
theorem zyC93 {X : zx_X}     {x1 : Int32} {s : zy_S} {r : Int32} {s' : zy_S}  (h : zyF93 x1 s = some (r, s')) : zyR X 5 93 0 [some (.ref (0 + 3)), some (.int x1)] [] s (zyE (some (.int r)) s') := by
  unfold zyF93 at h
  refine zy_2 rfl rfl (show zyR _ _ _ _ [some (.ref (0 + 3)), some (.int x1)] [.int x1] _ _ from ?_)
  refine zy_50 rfl (by decide) ?_
  refine zy_swp (fun b2 => (show zyR _ _ _ _ [some (.ref (0 + 3)), some (.int x1)] [] _ _ from ?_)) (fun b2 => ?_)
  · replace h := zy_ifp h b2
    refine zy_0 rfl rfl (show zyR _ _ _ _ [some (.ref (0 + 3)), some (.int x1)] [.ref (0 + 3)] _ _ from ?_)
    refine zy_1r (c := 0) rfl rfl rfl (show zyR _ _ _ _ [some (.ref (0 + 3)), some (.int x1)] [.ref (16 + 3)] _ _ from ?_)
    obtain ⟨p1, hp1, h⟩ := zy_bind h
    refine zy_5 (c := 16) (as := []) (rest := []) (L := [some (.ref (16 + 3)), none, none, none]) (d' := 4) rfl rfl rfl (Nat.le_of_ble_eq_true rfl) (Nat.le_of_ble_eq_true rfl) rfl (Nat.le_of_ble_eq_true rfl) rfl rfl (zyC94 hp1) ?_
    show zyR _ _ _ _ [some (.ref (0 + 3)), some (.int x1)] [.int p1.1] _ _
    obtain ⟨rfl, rfl⟩ := zy_pi h
    exact zy_4 rfl ⟨rfl, rfl⟩
  replace h := zy_ifn h b2
  refine zy_swp (fun b4 => (show zyR _ _ _ _ [some (.ref (0 + 3)), some (.int x1)] [] _ _ from ?_)) (fun b4 => ?_)
  · replace h := zy_ifp h b4
    refine zy_0 rfl rfl (show zyR _ _ _ _ [some (.ref (0 + 3)), some (.int x1)] [.ref (0 + 3)] _ _ from ?_)
    refine zy_1r (c := 0) rfl rfl rfl (show zyR _ _ _ _ [some (.ref (0 + 3)), some (.int x1)] [.ref (1 + 3)] _ _ from ?_)
    refine zy_1 (c := 1) rfl rfl rfl (show zyR _ _ _ _ [some (.ref (0 + 3)), some (.int x1)] [.int (s.1 1 3)] _ _ from ?_)
    refine zy_0 rfl rfl (show zyR _ _ _ _ [some (.ref (0 + 3)), some (.int x1)] [.ref (0 + 3), .int (s.1 1 3)] _ _ from ?_)
    refine zy_1r (c := 0) rfl rfl rfl (show zyR _ _ _ _ [some (.ref (0 + 3)), some (.int x1)] [.ref (16 + 3), .int (s.1 1 3)] _ _ from ?_)
    obtain ⟨p3, hp3, h⟩ := zy_bind h
    refine zy_5 (c := 16) (as := []) (rest := [.int (s.1 1 3)]) (L := [some (.ref (16 + 3)), none, none, none]) (d' := 2) rfl rfl rfl (Nat.le_of_ble_eq_true rfl) (Nat.le_of_ble_eq_true rfl) rfl (Nat.le_of_ble_eq_true rfl) rfl rfl (zyC99 hp3) ?_
    show zyR _ _ _ _ [some (.ref (0 + 3)), some (.int x1)] [.int p3.1, .int (s.1 1 3)] _ _
    refine zy_3 rfl rfl (show zyR _ _ _ _ [some (.ref (0 + 3)), some (.int x1)] [.int (-1 : Int32), .int p3.1, .int (s.1 1 3)] _ _ from ?_)
    refine zy_15 rfl (show zyR _ _ _ _ [some (.ref (0 + 3)), some (.int x1)] [.int (p3.1 ^^^ (-1 : Int32)), .int (s.1 1 3)] _ _ from ?_)
    refine zy_13 rfl (show zyR _ _ _ _ [some (.ref (0 + 3)), some (.int x1)] [.int ((s.1 1 3) &&& (p3.1 ^^^ (-1 : Int32)))] _ _ from ?_)
    obtain ⟨rfl, rfl⟩ := zy_pi h
    exact zy_4 rfl ⟨rfl, rfl⟩
  replace h := zy_ifn h b4
  refine zy_swp (fun b6 => (show zyR _ _ _ _ [some (.ref (0 + 3)), some (.int x1)] [] _ _ from ?_)) (fun b6 => ?_)
  · replace h := zy_ifp h b6
    refine zy_0 rfl rfl (show zyR _ _ _ _ [some (.ref (0 + 3)), some (.int x1)] [.ref (0 + 3)] _ _ from ?_)
    refine zy_1r (c := 0) rfl rfl rfl (show zyR _ _ _ _ [some (.ref (0 + 3)), some (.int x1)] [.ref (16 + 3)] _ _ from ?_)
    obtain ⟨p5, hp5, h⟩ := zy_bind h
    refine zy_5 (c := 16) (as := []) (rest := []) (L := [some (.ref (16 + 3)), none, none, none]) (d' := 2) rfl rfl rfl (Nat.le_of_ble_eq_true rfl) (Nat.le_of_ble_eq_true rfl) rfl (Nat.le_of_ble_eq_true rfl) rfl rfl (zyC99 hp5) ?_
    show zyR _ _ _ _ [some (.ref (0 + 3)), some (.int x1)] [.int p5.1] _ _
    refine zy_0 rfl rfl (show zyR _ _ _ _ [some (.ref (0 + 3)), some (.int x1)] [.ref (0 + 3), .int p5.1] _ _ from ?_)
    refine zy_1r (c := 0) rfl rfl rfl (show zyR _ _ _ _ [some (.ref (0 + 3)), some (.int x1)] [.ref (1 + 3), .int p5.1] _ _ from ?_)
    refine zy_1 (c := 1) rfl rfl rfl (show zyR _ _ _ _ [some (.ref (0 + 3)), some (.int x1)] [.int (p5.2.1 1 3), .int p5.1] _ _ from ?_)
    refine zy_3 rfl rfl (show zyR _ _ _ _ [some (.ref (0 + 3)), some (.int x1)] [.int (-1 : Int32), .int (p5.2.1 1 3), .int p5.1] _ _ from ?_)
    refine zy_15 rfl (show zyR _ _ _ _ [some (.ref (0 + 3)), some (.int x1)] [.int ((p5.2.1 1 3) ^^^ (-1 : Int32)), .int p5.1] _ _ from ?_)
    refine zy_13 rfl (show zyR _ _ _ _ [some (.ref (0 + 3)), some (.int x1)] [.int (p5.1 &&& ((p5.2.1 1 3) ^^^ (-1 : Int32)))] _ _ from ?_)
    obtain ⟨rfl, rfl⟩ := zy_pi h
    exact zy_4 rfl ⟨rfl, rfl⟩
  replace h := zy_ifn h b6
  show zyR _ _ _ _ [some (.ref (0 + 3)), some (.int x1)] [] _ _
  refine zy_3 rfl rfl (show zyR _ _ _ _ [some (.ref (0 + 3)), some (.int x1)] [.int (-1 : Int32)] _ _ from ?_)
  obtain ⟨rfl, rfl⟩ := zy_pi h
  exact zy_4 rfl ⟨rfl, rfl⟩
/-! NineOpinionsModel.mayStrike(II)Z -/
noncomputable def zyF221_66  (k8 : Int32 → Int32 → Int32 → Int32 → Int32 → zy_S → Option (Int32 × zy_S)) (x1 : Int32) (x2 : Int32) (x4 : Int32) (x5 : Int32) (y0 : Int32) (y1 : Int32) (s : zy_S) : Option (Int32 × zy_S) :=
k8 x1 x2 (y1 + y0) x4 (x5 + (1 : Int32)) s
theorem zyC221_66 {X : zx_X}  {k8 : Int32 → Int32 → Int32 → Int32 → Int32 → zy_S → Option (Int32 × zy_S)}  (hk8 : ∀ (x1 : Int32) (x2 : Int32) (x3 : Int32) (x4 : Int32) (x5 : Int32) (s : zy_S) (r : Int32) (s' : zy_S), k8 x1 x2 x3 x4 x5 s = some (r, s') → zyR X 4 221 8 [some (.ref (43 + 3)), some (.int x1), some (.int x2), some (.int x3), some (.int x4), some (.int x5)] [] s (zyE (some (.int r)) s')) {x1 : Int32} {x2 : Int32} {x4 : Int32} {x5 : Int32} {y0 : Int32} {y1 : Int32} {s : zy_S} {r : Int32} {s' : zy_S}  (h : zyF221_66 k8 x1 x2 x4 x5 y0 y1 s = some (r, s')) : zyR X 4 221 66 [some (.ref (43 + 3)), some (.int x1), some (.int x2), none, some (.int x4), some (.int x5)] [.int y0, .int y1] s (zyE (some (.int r)) s') := by
  unfold zyF221_66 at h
  refine zy_10 rfl (show zyR _ _ _ _ [some (.ref (43 + 3)), some (.int x1), some (.int x2), none, some (.int x4), some (.int x5)] [.int (y1 + y0)] _ _ from ?_)
  refine zy_23 rfl rfl (show zyR _ _ _ _ [some (.ref (43 + 3)), some (.int x1), some (.int x2), some (.int (y1 + y0)), some (.int x4), some (.int x5)] [] _ _ from ?_)
  refine zy_22 rfl rfl rfl rfl (show zyR _ _ _ _ [some (.ref (43 + 3)), some (.int x1), some (.int x2), some (.int (y1 + y0)), some (.int x4), some (.int (x5 + (1 : Int32)))] [] _ _ from ?_)
  refine zy_6 rfl (show zyR _ _ _ _ [some (.ref (43 + 3)), some (.int x1), some (.int x2), some (.int (y1 + y0)), some (.int x4), some (.int (x5 + (1 : Int32)))] [] _ _ from ?_)
  exact zy_sub (show zy_le [some (.ref (43 + 3)), some (.int x1), some (.int x2), some (.int (y1 + y0)), some (.int x4), some (.int (x5 + (1 : Int32)))] [some (.ref (43 + 3)), some (.int x1), some (.int x2), some (.int (y1 + y0)), some (.int x4), some (.int (x5 + (1 : Int32)))] from ⟨rfl, ⟨rfl, ⟨rfl, ⟨rfl, ⟨rfl, ⟨rfl, trivial⟩⟩⟩⟩⟩⟩) (hk8 x1 x2 (y1 + y0) x4 (x5 + (1 : Int32)) s _ _ h)
noncomputable def zyF221_52  (k8 : Int32 → Int32 → Int32 → Int32 → Int32 → zy_S → Option (Int32 × zy_S)) (x1 : Int32) (x2 : Int32) (x4 : Int32) (x5 : Int32) (y0 : Int32) (s : zy_S) : Option (Int32 × zy_S) :=
if zy_in ((8 : Int32) + x5) 41 then
zyF221_66 k8 x1 x2 x4 x5 (s.1 44 (((8 : Int32) + x5)).toNatClampNeg) y0 s
else none
theorem zyC221_52 {X : zx_X}  {k8 : Int32 → Int32 → Int32 → Int32 → Int32 → zy_S → Option (Int32 × zy_S)}  (hk8 : ∀ (x1 : Int32) (x2 : Int32) (x3 : Int32) (x4 : Int32) (x5 : Int32) (s : zy_S) (r : Int32) (s' : zy_S), k8 x1 x2 x3 x4 x5 s = some (r, s') → zyR X 4 221 8 [some (.ref (43 + 3)), some (.int x1), some (.int x2), some (.int x3), some (.int x4), some (.int x5)] [] s (zyE (some (.int r)) s')) {x1 : Int32} {x2 : Int32} {x4 : Int32} {x5 : Int32} {y0 : Int32} {s : zy_S} {r : Int32} {s' : zy_S}  (h : zyF221_52 k8 x1 x2 x4 x5 y0 s = some (r, s')) : zyR X 4 221 52 [some (.ref (43 + 3)), some (.int x1), some (.int x2), none, some (.int x4), some (.int x5)] [.int y0] s (zyE (some (.int r)) s') := by
  unfold zyF221_52 at h
  refine zy_0 rfl rfl (show zyR _ _ _ _ [some (.ref (43 + 3)), some (.int x1), some (.int x2), none, some (.int x4), some (.int x5)] [.ref (43 + 3), .int y0] _ _ from ?_)
  refine zy_1r (c := 43) rfl rfl rfl (show zyR _ _ _ _ [some (.ref (43 + 3)), some (.int x1), some (.int x2), none, some (.int x4), some (.int x5)] [.ref (44 + 3), .int y0] _ _ from ?_)
  refine zy_3 rfl rfl (show zyR _ _ _ _ [some (.ref (43 + 3)), some (.int x1), some (.int x2), none, some (.int x4), some (.int x5)] [.int (8 : Int32), .ref (44 + 3), .int y0] _ _ from ?_)
  refine zy_2 rfl rfl (show zyR _ _ _ _ [some (.ref (43 + 3)), some (.int x1), some (.int x2), none, some (.int x4), some (.int x5)] [.int x5, .int (8 : Int32), .ref (44 + 3), .int y0] _ _ from ?_)
  refine zy_10 rfl (show zyR _ _ _ _ [some (.ref (43 + 3)), some (.int x1), some (.int x2), none, some (.int x4), some (.int x5)] [.int ((8 : Int32) + x5), .ref (44 + 3), .int y0] _ _ from ?_)
  obtain ⟨c1, h⟩ := zy_if h
  refine zy_26 (c := 44) rfl rfl c1 (show zyR _ _ _ _ [some (.ref (43 + 3)), some (.int x1), some (.int x2), none, some (.int x4), some (.int x5)] [.int (s.1 44 (((8 : Int32) + x5)).toNatClampNeg), .int y0] _ _ from ?_)
  refine zy_6 rfl (show zyR _ _ _ _ [some (.ref (43 + 3)), some (.int x1), some (.int x2), none, some (.int x4), some (.int x5)] [.int (s.1 44 (((8 : Int32) + x5)).toNatClampNeg), .int y0] _ _ from ?_)
  exact zy_sub (show zy_le [some (.ref (43 + 3)), some (.int x1), some (.int x2), none, some (.int x4), some (.int x5)] [some (.ref (43 + 3)), some (.int x1), some (.int x2), none, some (.int x4), some (.int x5)] from ⟨rfl, ⟨rfl, ⟨rfl, ⟨rfl, ⟨rfl, trivial⟩⟩⟩⟩⟩) (zyC221_66 hk8 h)
noncomputable def zyF221_8b  (k8 : Int32 → Int32 → Int32 → Int32 → Int32 → zy_S → Option (Int32 × zy_S)) (x1 : Int32) (x2 : Int32) (x3 : Int32) (x4 : Int32) (x5 : Int32) (s : zy_S) : Option (Int32 × zy_S) :=
if (s.1 43 6) ≤ x5 then
if ((2 : Int32) * x3) ≤ x4 then
some ((0 : Int32), s)
else
some ((1 : Int32), s)
else
if zy_in ((8 : Int32) + x5) 41 then
(zyF222 x5 x1 s).bind fun p4 =>
if p4.1 = 0 then
zyF221_52 k8 x1 x2 (x4 + (s.1 44 (((8 : Int32) + x5)).toNatClampNeg)) x5 x3 p4.2
else
(zyF208 x2 x5 p4.2).bind fun p5 =>
if p5.1 = 0 then
zyF221_66 k8 x1 x2 (x4 + (s.1 44 (((8 : Int32) + x5)).toNatClampNeg)) x5 (0 : Int32) x3 p5.2
else
zyF221_52 k8 x1 x2 (x4 + (s.1 44 (((8 : Int32) + x5)).toNatClampNeg)) x5 x3 p5.2
else none
theorem zyC221_8b {X : zx_X}  {k8 : Int32 → Int32 → Int32 → Int32 → Int32 → zy_S → Option (Int32 × zy_S)}  (hk8 : ∀ (x1 : Int32) (x2 : Int32) (x3 : Int32) (x4 : Int32) (x5 : Int32) (s : zy_S) (r : Int32) (s' : zy_S), k8 x1 x2 x3 x4 x5 s = some (r, s') → zyR X 4 221 8 [some (.ref (43 + 3)), some (.int x1), some (.int x2), some (.int x3), some (.int x4), some (.int x5)] [] s (zyE (some (.int r)) s')) {x1 : Int32} {x2 : Int32} {x3 : Int32} {x4 : Int32} {x5 : Int32} {s : zy_S} {r : Int32} {s' : zy_S}  (h : zyF221_8b k8 x1 x2 x3 x4 x5 s = some (r, s')) : zyR X 4 221 8 [some (.ref (43 + 3)), some (.int x1), some (.int x2), some (.int x3), some (.int x4), some (.int x5)] [] s (zyE (some (.int r)) s') := by
  unfold zyF221_8b at h
  refine zy_2 rfl rfl (show zyR _ _ _ _ [some (.ref (43 + 3)), some (.int x1), some (.int x2), some (.int x3), some (.int x4), some (.int x5)] [.int x5] _ _ from ?_)
  refine zy_0 rfl rfl (show zyR _ _ _ _ [some (.ref (43 + 3)), some (.int x1), some (.int x2), some (.int x3), some (.int x4), some (.int x5)] [.ref (43 + 3), .int x5] _ _ from ?_)
  refine zy_1 (c := 43) rfl rfl rfl (show zyR _ _ _ _ [some (.ref (43 + 3)), some (.int x1), some (.int x2), some (.int x3), some (.int x4), some (.int x5)] [.int (s.1 43 6), .int x5] _ _ from ?_)
  refine zy_25_3 rfl (fun b8 => (show zyR _ _ _ _ [some (.ref (43 + 3)), some (.int x1), some (.int x2), some (.int x3), some (.int x4), some (.int x5)] [] _ _ from ?_)) (fun b8 => (show zyR _ _ _ _ [some (.ref (43 + 3)), some (.int x1), some (.int x2), some (.int x3), some (.int x4), some (.int x5)] [] _ _ from ?_))
  · replace h := zy_ifp h b8
    refine zy_3 rfl rfl (show zyR _ _ _ _ [some (.ref (43 + 3)), some (.int x1), some (.int x2), some (.int x3), some (.int x4), some (.int x5)] [.int (2 : Int32)] _ _ from ?_)
    refine zy_2 rfl rfl (show zyR _ _ _ _ [some (.ref (43 + 3)), some (.int x1), some (.int x2), some (.int x3), some (.int x4), some (.int x5)] [.int x3, .int (2 : Int32)] _ _ from ?_)
    refine zy_12 rfl (show zyR _ _ _ _ [some (.ref (43 + 3)), some (.int x1), some (.int x2), some (.int x3), some (.int x4), some (.int x5)] [.int ((2 : Int32) * x3)] _ _ from ?_)
    refine zy_2 rfl rfl (show zyR _ _ _ _ [some (.ref (43 + 3)), some (.int x1), some (.int x2), some (.int x3), some (.int x4), some (.int x5)] [.int x4, .int ((2 : Int32) * x3)] _ _ from ?_)
    refine zy_25_5 rfl (fun b2 => (show zyR _ _ _ _ [some (.ref (43 + 3)), some (.int x1), some (.int x2), some (.int x3), some (.int x4), some (.int x5)] [] _ _ from ?_)) (fun b2 => (show zyR _ _ _ _ [some (.ref (43 + 3)), some (.int x1), some (.int x2), some (.int x3), some (.int x4), some (.int x5)] [] _ _ from ?_))
    · replace h := zy_ifp h b2
      refine zy_3 rfl rfl (show zyR _ _ _ _ [some (.ref (43 + 3)), some (.int x1), some (.int x2), some (.int x3), some (.int x4), some (.int x5)] [.int (0 : Int32)] _ _ from ?_)
      cases h
      exact zy_4b rfl ⟨rfl, rfl⟩ (Or.inl rfl)
    · replace h := zy_ifn h b2
      refine zy_3 rfl rfl (show zyR _ _ _ _ [some (.ref (43 + 3)), some (.int x1), some (.int x2), some (.int x3), some (.int x4), some (.int x5)] [.int (1 : Int32)] _ _ from ?_)
      refine zy_6 rfl (show zyR _ _ _ _ [some (.ref (43 + 3)), some (.int x1), some (.int x2), some (.int x3), some (.int x4), some (.int x5)] [.int (1 : Int32)] _ _ from ?_)
      cases h
      exact zy_4b rfl ⟨rfl, rfl⟩ (Or.inr rfl)
  · replace h := zy_ifn h b8
    refine zy_2 rfl rfl (show zyR _ _ _ _ [some (.ref (43 + 3)), some (.int x1), some (.int x2), some (.int x3), some (.int x4), some (.int x5)] [.int x4] _ _ from ?_)
    refine zy_0 rfl rfl (show zyR _ _ _ _ [some (.ref (43 + 3)), some (.int x1), some (.int x2), some (.int x3), some (.int x4), some (.int x5)] [.ref (43 + 3), .int x4] _ _ from ?_)
    refine zy_1r (c := 43) rfl rfl rfl (show zyR _ _ _ _ [some (.ref (43 + 3)), some (.int x1), some (.int x2), some (.int x3), some (.int x4), some (.int x5)] [.ref (44 + 3), .int x4] _ _ from ?_)
    refine zy_3 rfl rfl (show zyR _ _ _ _ [some (.ref (43 + 3)), some (.int x1), some (.int x2), some (.int x3), some (.int x4), some (.int x5)] [.int (8 : Int32), .ref (44 + 3), .int x4] _ _ from ?_)
    refine zy_2 rfl rfl (show zyR _ _ _ _ [some (.ref (43 + 3)), some (.int x1), some (.int x2), some (.int x3), some (.int x4), some (.int x5)] [.int x5, .int (8 : Int32), .ref (44 + 3), .int x4] _ _ from ?_)
    refine zy_10 rfl (show zyR _ _ _ _ [some (.ref (43 + 3)), some (.int x1), some (.int x2), some (.int x3), some (.int x4), some (.int x5)] [.int ((8 : Int32) + x5), .ref (44 + 3), .int x4] _ _ from ?_)
    obtain ⟨c3, h⟩ := zy_if h
    refine zy_26 (c := 44) rfl rfl c3 (show zyR _ _ _ _ [some (.ref (43 + 3)), some (.int x1), some (.int x2), some (.int x3), some (.int x4), some (.int x5)] [.int (s.1 44 (((8 : Int32) + x5)).toNatClampNeg), .int x4] _ _ from ?_)
    refine zy_10 rfl (show zyR _ _ _ _ [some (.ref (43 + 3)), some (.int x1), some (.int x2), some (.int x3), some (.int x4), some (.int x5)] [.int (x4 + (s.1 44 (((8 : Int32) + x5)).toNatClampNeg))] _ _ from ?_)
    refine zy_23 rfl rfl (show zyR _ _ _ _ [some (.ref (43 + 3)), some (.int x1), some (.int x2), some (.int x3), some (.int (x4 + (s.1 44 (((8 : Int32) + x5)).toNatClampNeg))), some (.int x5)] [] _ _ from ?_)
    refine zy_2 rfl rfl (show zyR _ _ _ _ [some (.ref (43 + 3)), some (.int x1), some (.int x2), some (.int x3), some (.int (x4 + (s.1 44 (((8 : Int32) + x5)).toNatClampNeg))), some (.int x5)] [.int x3] _ _ from ?_)
    refine zy_0 rfl rfl (show zyR _ _ _ _ [some (.ref (43 + 3)), some (.int x1), some (.int x2), some (.int x3), some (.int (x4 + (s.1 44 (((8 : Int32) + x5)).toNatClampNeg))), some (.int x5)] [.ref (43 + 3), .int x3] _ _ from ?_)
    refine zy_2 rfl rfl (show zyR _ _ _ _ [some (.ref (43 + 3)), some (.int x1), some (.int x2), some (.int x3), some (.int (x4 + (s.1 44 (((8 : Int32) + x5)).toNatClampNeg))), some (.int x5)] [.int x5, .ref (43 + 3), .int x3] _ _ from ?_)
    refine zy_2 rfl rfl (show zyR _ _ _ _ [some (.ref (43 + 3)), some (.int x1), some (.int x2), some (.int x3), some (.int (x4 + (s.1 44 (((8 : Int32) + x5)).toNatClampNeg))), some (.int x5)] [.int x1, .int x5, .ref (43 + 3), .int x3] _ _ from ?_)
    obtain ⟨p4, hp4, h⟩ := zy_bind h
    refine zy_5 (c := 43) (as := [.int x5, .int x1]) (rest := [.int x3]) (L := [some (.ref (43 + 3)), some (.int x5), some (.int x1)]) (d' := 3) rfl rfl rfl (Nat.le_of_ble_eq_true rfl) (Nat.le_of_ble_eq_true rfl) rfl (Nat.le_of_ble_eq_true rfl) rfl rfl (zyC222 hp4) ?_
    show zyR _ _ _ _ [some (.ref (43 + 3)), some (.int x1), some (.int x2), some (.int x3), some (.int (x4 + (s.1 44 (((8 : Int32) + x5)).toNatClampNeg))), some (.int x5)] [.int p4.1, .int x3] _ _
    refine zy_24_0 rfl (fun b7 => (show zyR _ _ _ _ [some (.ref (43 + 3)), some (.int x1), some (.int x2), some (.int x3), some (.int (x4 + (s.1 44 (((8 : Int32) + x5)).toNatClampNeg))), some (.int x5)] [.int x3] _ _ from ?_)) (fun b7 => (show zyR _ _ _ _ [some (.ref (43 + 3)), some (.int x1), some (.int x2), some (.int x3), some (.int (x4 + (s.1 44 (((8 : Int32) + x5)).toNatClampNeg))), some (.int x5)] [.int x3] _ _ from ?_))
    · replace h := zy_ifp h b7
      exact zy_sub (show zy_le [some (.ref (43 + 3)), some (.int x1), some (.int x2), none, some (.int (x4 + (s.1 44 (((8 : Int32) + x5)).toNatClampNeg))), some (.int x5)] [some (.ref (43 + 3)), some (.int x1), some (.int x2), some (.int x3), some (.int (x4 + (s.1 44 (((8 : Int32) + x5)).toNatClampNeg))), some (.int x5)] from ⟨rfl, ⟨rfl, ⟨rfl, ⟨rfl, ⟨rfl, trivial⟩⟩⟩⟩⟩) (zyC221_52 hk8 h)
    · replace h := zy_ifn h b7
      refine zy_2 rfl rfl (show zyR _ _ _ _ [some (.ref (43 + 3)), some (.int x1), some (.int x2), some (.int x3), some (.int (x4 + (s.1 44 (((8 : Int32) + x5)).toNatClampNeg))), some (.int x5)] [.int x2, .int x3] _ _ from ?_)
      refine zy_2 rfl rfl (show zyR _ _ _ _ [some (.ref (43 + 3)), some (.int x1), some (.int x2), some (.int x3), some (.int (x4 + (s.1 44 (((8 : Int32) + x5)).toNatClampNeg))), some (.int x5)] [.int x5, .int x2, .int x3] _ _ from ?_)
      obtain ⟨p5, hp5, h⟩ := zy_bind h
      refine zy_60 (as := [.int x2, .int x5]) (rest := [.int x3]) (L := [some (.int x2), some (.int x5)]) (d' := 1) rfl rfl (Nat.le_of_ble_eq_true rfl) (Nat.le_of_ble_eq_true rfl) rfl (Nat.le_of_ble_eq_true rfl) rfl rfl (zyC208 hp5) ?_
      show zyR _ _ _ _ [some (.ref (43 + 3)), some (.int x1), some (.int x2), some (.int x3), some (.int (x4 + (s.1 44 (((8 : Int32) + x5)).toNatClampNeg))), some (.int x5)] [.int p5.1, .int x3] _ _
      refine zy_24_0 rfl (fun b6 => (show zyR _ _ _ _ [some (.ref (43 + 3)), some (.int x1), some (.int x2), some (.int x3), some (.int (x4 + (s.1 44 (((8 : Int32) + x5)).toNatClampNeg))), some (.int x5)] [.int x3] _ _ from ?_)) (fun b6 => (show zyR _ _ _ _ [some (.ref (43 + 3)), some (.int x1), some (.int x2), some (.int x3), some (.int (x4 + (s.1 44 (((8 : Int32) + x5)).toNatClampNeg))), some (.int x5)] [.int x3] _ _ from ?_))
      · replace h := zy_ifp h b6
        refine zy_3 rfl rfl (show zyR _ _ _ _ [some (.ref (43 + 3)), some (.int x1), some (.int x2), some (.int x3), some (.int (x4 + (s.1 44 (((8 : Int32) + x5)).toNatClampNeg))), some (.int x5)] [.int (0 : Int32), .int x3] _ _ from ?_)
        exact zy_sub (show zy_le [some (.ref (43 + 3)), some (.int x1), some (.int x2), none, some (.int (x4 + (s.1 44 (((8 : Int32) + x5)).toNatClampNeg))), some (.int x5)] [some (.ref (43 + 3)), some (.int x1), some (.int x2), some (.int x3), some (.int (x4 + (s.1 44 (((8 : Int32) + x5)).toNatClampNeg))), some (.int x5)] from ⟨rfl, ⟨rfl, ⟨rfl, ⟨rfl, ⟨rfl, trivial⟩⟩⟩⟩⟩) (zyC221_66 hk8 h)
      · replace h := zy_ifn h b6
        exact zy_sub (show zy_le [some (.ref (43 + 3)), some (.int x1), some (.int x2), none, some (.int (x4 + (s.1 44 (((8 : Int32) + x5)).toNatClampNeg))), some (.int x5)] [some (.ref (43 + 3)), some (.int x1), some (.int x2), some (.int x3), some (.int (x4 + (s.1 44 (((8 : Int32) + x5)).toNatClampNeg))), some (.int x5)] from ⟨rfl, ⟨rfl, ⟨rfl, ⟨rfl, ⟨rfl, trivial⟩⟩⟩⟩⟩) (zyC221_52 hk8 h)
noncomputable def zyF221_8   (n : Nat) : Int32 → Int32 → Int32 → Int32 → Int32 → zy_S → Option (Int32 × zy_S) := Nat.rec (fun _ _ _ _ _ _ => none) (fun _ k8 => zyF221_8b k8) n
theorem zyC221_8 {X : zx_X}     : ∀ (n : Nat) (x1 : Int32) (x2 : Int32) (x3 : Int32) (x4 : Int32) (x5 : Int32) (s : zy_S) (r : Int32) (s' : zy_S), zyF221_8 n x1 x2 x3 x4 x5 s = some (r, s') → zyR X 4 221 8 [some (.ref (43 + 3)), some (.int x1), some (.int x2), some (.int x3), some (.int x4), some (.int x5)] [] s (zyE (some (.int r)) s')
  | 0, _, _, _, _, _ => by
    intro s r s'  h
    have h : (none : Option (Int32 × zy_S)) = some (r, s') := h
    cases h
  | n + 1, x1, x2, x3, x4, x5 => by
    intro s r s'  h
    exact zyC221_8b (k8 := zyF221_8 n) (fun x1 x2 x3 x4 x5 s r s'  h => zyC221_8  n x1 x2 x3 x4 x5 s r s'  h) h
noncomputable def zyF221   (x1 : Int32) (x2 : Int32) (s : zy_S) : Option (Int32 × zy_S) :=
zyF221_8 zy_fu x1 x2 (0 : Int32) (0 : Int32) (0 : Int32) s
theorem zyC221 {X : zx_X}     {x1 : Int32} {x2 : Int32} {s : zy_S} {r : Int32} {s' : zy_S}  (h : zyF221 x1 x2 s = some (r, s')) : zyR X 4 221 0 [some (.ref (43 + 3)), some (.int x1), some (.int x2), none, none, none] [] s (zyE (some (.int r)) s') := by
  unfold zyF221 at h
  refine zy_3 rfl rfl (show zyR _ _ _ _ [some (.ref (43 + 3)), some (.int x1), some (.int x2), none, none, none] [.int (0 : Int32)] _ _ from ?_)
  refine zy_23 rfl rfl (show zyR _ _ _ _ [some (.ref (43 + 3)), some (.int x1), some (.int x2), some (.int (0 : Int32)), none, none] [] _ _ from ?_)
  refine zy_3 rfl rfl (show zyR _ _ _ _ [some (.ref (43 + 3)), some (.int x1), some (.int x2), some (.int (0 : Int32)), none, none] [.int (0 : Int32)] _ _ from ?_)
  refine zy_23 rfl rfl (show zyR _ _ _ _ [some (.ref (43 + 3)), some (.int x1), some (.int x2), some (.int (0 : Int32)), some (.int (0 : Int32)), none] [] _ _ from ?_)
  refine zy_3 rfl rfl (show zyR _ _ _ _ [some (.ref (43 + 3)), some (.int x1), some (.int x2), some (.int (0 : Int32)), some (.int (0 : Int32)), none] [.int (0 : Int32)] _ _ from ?_)
  refine zy_23 rfl rfl (show zyR _ _ _ _ [some (.ref (43 + 3)), some (.int x1), some (.int x2), some (.int (0 : Int32)), some (.int (0 : Int32)), some (.int (0 : Int32))] [] _ _ from ?_)
  exact zy_sub (show zy_le [some (.ref (43 + 3)), some (.int x1), some (.int x2), some (.int (0 : Int32)), some (.int (0 : Int32)), some (.int (0 : Int32))] [some (.ref (43 + 3)), some (.int x1), some (.int x2), some (.int (0 : Int32)), some (.int (0 : Int32)), some (.int (0 : Int32))] from ⟨rfl, ⟨rfl, ⟨rfl, ⟨rfl, ⟨rfl, ⟨rfl, trivial⟩⟩⟩⟩⟩⟩) (zyC221_8 zy_fu x1 x2 (0 : Int32) (0 : Int32) (0 : Int32) s _ _ h)
/-! NineOpinionsModel.believers(I)I -/
noncomputable def zyF223_29  (k4 : Int32 → Int32 → Int32 → zy_S → Option (Int32 × zy_S)) (x1 : Int32) (x3 : Int32) (y0 : Int32) (y1 : Int32) (s : zy_S) : Option (Int32 × zy_S) :=
k4 x1 (y1 ||| y0) (x3 + (1 : Int32)) s
theorem zyC223_29 {X : zx_X}  {k4 : Int32 → Int32 → Int32 → zy_S → Option (Int32 × zy_S)}  (hk4 : ∀ (x1 : Int32) (x2 : Int32) (x3 : Int32) (s : zy_S) (r : Int32) (s' : zy_S), k4 x1 x2 x3 s = some (r, s') → zyR X 4 223 4 [some (.ref (43 + 3)), some (.int x1), some (.int x2), some (.int x3)] [] s (zyE (some (.int r)) s')) {x1 : Int32} {x3 : Int32} {y0 : Int32} {y1 : Int32} {s : zy_S} {r : Int32} {s' : zy_S}  (h : zyF223_29 k4 x1 x3 y0 y1 s = some (r, s')) : zyR X 4 223 29 [some (.ref (43 + 3)), some (.int x1), none, some (.int x3)] [.int y0, .int y1] s (zyE (some (.int r)) s') := by
  unfold zyF223_29 at h
  refine zy_14 rfl (show zyR _ _ _ _ [some (.ref (43 + 3)), some (.int x1), none, some (.int x3)] [.int (y1 ||| y0)] _ _ from ?_)
  refine zy_23 rfl rfl (show zyR _ _ _ _ [some (.ref (43 + 3)), some (.int x1), some (.int (y1 ||| y0)), some (.int x3)] [] _ _ from ?_)
  refine zy_22 rfl rfl rfl rfl (show zyR _ _ _ _ [some (.ref (43 + 3)), some (.int x1), some (.int (y1 ||| y0)), some (.int (x3 + (1 : Int32)))] [] _ _ from ?_)
  refine zy_6 rfl (show zyR _ _ _ _ [some (.ref (43 + 3)), some (.int x1), some (.int (y1 ||| y0)), some (.int (x3 + (1 : Int32)))] [] _ _ from ?_)
  exact zy_sub (show zy_le [some (.ref (43 + 3)), some (.int x1), some (.int (y1 ||| y0)), some (.int (x3 + (1 : Int32)))] [some (.ref (43 + 3)), some (.int x1), some (.int (y1 ||| y0)), some (.int (x3 + (1 : Int32)))] from ⟨rfl, ⟨rfl, ⟨rfl, ⟨rfl, trivial⟩⟩⟩⟩) (hk4 x1 (y1 ||| y0) (x3 + (1 : Int32)) s _ _ h)
noncomputable def zyF223_4b  (k4 : Int32 → Int32 → Int32 → zy_S → Option (Int32 × zy_S)) (x1 : Int32) (x2 : Int32) (x3 : Int32) (s : zy_S) : Option (Int32 × zy_S) :=
if (s.1 43 6) ≤ x3 then
some (x2, s)
else
(zyF222 x3 x1 s).bind fun p1 =>
if p1.1 = 0 then
zyF223_29 k4 x1 x3 (0 : Int32) x2 p1.2
else
zyF223_29 k4 x1 x3 ((1 : Int32) <<< (x3 &&& 31)) x2 p1.2
theorem zyC223_4b {X : zx_X}  {k4 : Int32 → Int32 → Int32 → zy_S → Option (Int32 × zy_S)}  (hk4 : ∀ (x1 : Int32) (x2 : Int32) (x3 : Int32) (s : zy_S) (r : Int32) (s' : zy_S), k4 x1 x2 x3 s = some (r, s') → zyR X 4 223 4 [some (.ref (43 + 3)), some (.int x1), some (.int x2), some (.int x3)] [] s (zyE (some (.int r)) s')) {x1 : Int32} {x2 : Int32} {x3 : Int32} {s : zy_S} {r : Int32} {s' : zy_S}  (h : zyF223_4b k4 x1 x2 x3 s = some (r, s')) : zyR X 4 223 4 [some (.ref (43 + 3)), some (.int x1), some (.int x2), some (.int x3)] [] s (zyE (some (.int r)) s') := by
  unfold zyF223_4b at h
  refine zy_2 rfl rfl (show zyR _ _ _ _ [some (.ref (43 + 3)), some (.int x1), some (.int x2), some (.int x3)] [.int x3] _ _ from ?_)
  refine zy_0 rfl rfl (show zyR _ _ _ _ [some (.ref (43 + 3)), some (.int x1), some (.int x2), some (.int x3)] [.ref (43 + 3), .int x3] _ _ from ?_)
  refine zy_1 (c := 43) rfl rfl rfl (show zyR _ _ _ _ [some (.ref (43 + 3)), some (.int x1), some (.int x2), some (.int x3)] [.int (s.1 43 6), .int x3] _ _ from ?_)
  refine zy_25_3 rfl (fun b3 => (show zyR _ _ _ _ [some (.ref (43 + 3)), some (.int x1), some (.int x2), some (.int x3)] [] _ _ from ?_)) (fun b3 => (show zyR _ _ _ _ [some (.ref (43 + 3)), some (.int x1), some (.int x2), some (.int x3)] [] _ _ from ?_))
  · replace h := zy_ifp h b3
    refine zy_2 rfl rfl (show zyR _ _ _ _ [some (.ref (43 + 3)), some (.int x1), some (.int x2), some (.int x3)] [.int x2] _ _ from ?_)
    obtain ⟨rfl, rfl⟩ := zy_pi h
    exact zy_4 rfl ⟨rfl, rfl⟩
  · replace h := zy_ifn h b3
    refine zy_2 rfl rfl (show zyR _ _ _ _ [some (.ref (43 + 3)), some (.int x1), some (.int x2), some (.int x3)] [.int x2] _ _ from ?_)
    refine zy_0 rfl rfl (show zyR _ _ _ _ [some (.ref (43 + 3)), some (.int x1), some (.int x2), some (.int x3)] [.ref (43 + 3), .int x2] _ _ from ?_)
    refine zy_2 rfl rfl (show zyR _ _ _ _ [some (.ref (43 + 3)), some (.int x1), some (.int x2), some (.int x3)] [.int x3, .ref (43 + 3), .int x2] _ _ from ?_)
    refine zy_2 rfl rfl (show zyR _ _ _ _ [some (.ref (43 + 3)), some (.int x1), some (.int x2), some (.int x3)] [.int x1, .int x3, .ref (43 + 3), .int x2] _ _ from ?_)
    obtain ⟨p1, hp1, h⟩ := zy_bind h
    refine zy_5 (c := 43) (as := [.int x3, .int x1]) (rest := [.int x2]) (L := [some (.ref (43 + 3)), some (.int x3), some (.int x1)]) (d' := 3) rfl rfl rfl (Nat.le_of_ble_eq_true rfl) (Nat.le_of_ble_eq_true rfl) rfl (Nat.le_of_ble_eq_true rfl) rfl rfl (zyC222 hp1) ?_
    show zyR _ _ _ _ [some (.ref (43 + 3)), some (.int x1), some (.int x2), some (.int x3)] [.int p1.1, .int x2] _ _
    refine zy_24_0 rfl (fun b2 => (show zyR _ _ _ _ [some (.ref (43 + 3)), some (.int x1), some (.int x2), some (.int x3)] [.int x2] _ _ from ?_)) (fun b2 => (show zyR _ _ _ _ [some (.ref (43 + 3)), some (.int x1), some (.int x2), some (.int x3)] [.int x2] _ _ from ?_))
    · replace h := zy_ifp h b2
      refine zy_3 rfl rfl (show zyR _ _ _ _ [some (.ref (43 + 3)), some (.int x1), some (.int x2), some (.int x3)] [.int (0 : Int32), .int x2] _ _ from ?_)
      exact zy_sub (show zy_le [some (.ref (43 + 3)), some (.int x1), none, some (.int x3)] [some (.ref (43 + 3)), some (.int x1), some (.int x2), some (.int x3)] from ⟨rfl, ⟨rfl, ⟨rfl, trivial⟩⟩⟩) (zyC223_29 hk4 h)
    · replace h := zy_ifn h b2
      refine zy_3 rfl rfl (show zyR _ _ _ _ [some (.ref (43 + 3)), some (.int x1), some (.int x2), some (.int x3)] [.int (1 : Int32), .int x2] _ _ from ?_)
      refine zy_2 rfl rfl (show zyR _ _ _ _ [some (.ref (43 + 3)), some (.int x1), some (.int x2), some (.int x3)] [.int x3, .int (1 : Int32), .int x2] _ _ from ?_)
      refine zy_16 rfl (show zyR _ _ _ _ [some (.ref (43 + 3)), some (.int x1), some (.int x2), some (.int x3)] [.int ((1 : Int32) <<< (x3 &&& 31)), .int x2] _ _ from ?_)
      refine zy_6 rfl (show zyR _ _ _ _ [some (.ref (43 + 3)), some (.int x1), some (.int x2), some (.int x3)] [.int ((1 : Int32) <<< (x3 &&& 31)), .int x2] _ _ from ?_)
      exact zy_sub (show zy_le [some (.ref (43 + 3)), some (.int x1), none, some (.int x3)] [some (.ref (43 + 3)), some (.int x1), some (.int x2), some (.int x3)] from ⟨rfl, ⟨rfl, ⟨rfl, trivial⟩⟩⟩) (zyC223_29 hk4 h)
noncomputable def zyF223_4   (n : Nat) : Int32 → Int32 → Int32 → zy_S → Option (Int32 × zy_S) := Nat.rec (fun _ _ _ _ => none) (fun _ k4 => zyF223_4b k4) n
theorem zyC223_4 {X : zx_X}     : ∀ (n : Nat) (x1 : Int32) (x2 : Int32) (x3 : Int32) (s : zy_S) (r : Int32) (s' : zy_S), zyF223_4 n x1 x2 x3 s = some (r, s') → zyR X 4 223 4 [some (.ref (43 + 3)), some (.int x1), some (.int x2), some (.int x3)] [] s (zyE (some (.int r)) s')
  | 0, _, _, _ => by
    intro s r s'  h
    have h : (none : Option (Int32 × zy_S)) = some (r, s') := h
    cases h
  | n + 1, x1, x2, x3 => by
    intro s r s'  h
    exact zyC223_4b (k4 := zyF223_4 n) (fun x1 x2 x3 s r s'  h => zyC223_4  n x1 x2 x3 s r s'  h) h
noncomputable def zyF223   (x1 : Int32) (s : zy_S) : Option (Int32 × zy_S) :=
zyF223_4 zy_fu x1 (0 : Int32) (0 : Int32) s
theorem zyC223 {X : zx_X}     {x1 : Int32} {s : zy_S} {r : Int32} {s' : zy_S}  (h : zyF223 x1 s = some (r, s')) : zyR X 4 223 0 [some (.ref (43 + 3)), some (.int x1), none, none] [] s (zyE (some (.int r)) s') := by
  unfold zyF223 at h
  refine zy_3 rfl rfl (show zyR _ _ _ _ [some (.ref (43 + 3)), some (.int x1), none, none] [.int (0 : Int32)] _ _ from ?_)
  refine zy_23 rfl rfl (show zyR _ _ _ _ [some (.ref (43 + 3)), some (.int x1), some (.int (0 : Int32)), none] [] _ _ from ?_)
  refine zy_3 rfl rfl (show zyR _ _ _ _ [some (.ref (43 + 3)), some (.int x1), some (.int (0 : Int32)), none] [.int (0 : Int32)] _ _ from ?_)
  refine zy_23 rfl rfl (show zyR _ _ _ _ [some (.ref (43 + 3)), some (.int x1), some (.int (0 : Int32)), some (.int (0 : Int32))] [] _ _ from ?_)
  exact zy_sub (show zy_le [some (.ref (43 + 3)), some (.int x1), some (.int (0 : Int32)), some (.int (0 : Int32))] [some (.ref (43 + 3)), some (.int x1), some (.int (0 : Int32)), some (.int (0 : Int32))] from ⟨rfl, ⟨rfl, ⟨rfl, ⟨rfl, trivial⟩⟩⟩⟩) (zyC223_4 zy_fu x1 (0 : Int32) (0 : Int32) s _ _ h)
end
section
/-! PART 41.18: methods as functions. Made by wip/v4/dcp.py. -/
/-! NineOpinionsModel.lines(I)I -/
noncomputable def zyF220_127  (k18 : Int32 → Int32 → Int32 → zy_S → Option (Int32 × zy_S)) (x1 : Int32) (x3 : Int32) (y0 : Int32) (y1 : Int32) (s : zy_S) : Option (Int32 × zy_S) :=
k18 x1 (y1 ||| y0) (x3 + (1 : Int32)) s
theorem zyC220_127 {X : zx_X}  {k18 : Int32 → Int32 → Int32 → zy_S → Option (Int32 × zy_S)}  (hk18 : ∀ (x1 : Int32) (x2 : Int32) (x3 : Int32) (s : zy_S) (r : Int32) (s' : zy_S), k18 x1 x2 x3 s = some (r, s') → zyR X 5 220 18 [some (.ref (43 + 3)), some (.int x1), some (.int x2), some (.int x3), none] [] s (zyE (some (.int r)) s')) {x1 : Int32} {x3 : Int32} {y0 : Int32} {y1 : Int32} {s : zy_S} {r : Int32} {s' : zy_S}  (h : zyF220_127 k18 x1 x3 y0 y1 s = some (r, s')) : zyR X 5 220 127 [some (.ref (43 + 3)), some (.int x1), none, some (.int x3), none] [.int y0, .int y1] s (zyE (some (.int r)) s') := by
  unfold zyF220_127 at h
  refine zy_14 rfl (show zyR _ _ _ _ [some (.ref (43 + 3)), some (.int x1), none, some (.int x3), none] [.int (y1 ||| y0)] _ _ from ?_)
  refine zy_23 rfl rfl (show zyR _ _ _ _ [some (.ref (43 + 3)), some (.int x1), some (.int (y1 ||| y0)), some (.int x3), none] [] _ _ from ?_)
  refine zy_22 rfl rfl rfl rfl (show zyR _ _ _ _ [some (.ref (43 + 3)), some (.int x1), some (.int (y1 ||| y0)), some (.int (x3 + (1 : Int32))), none] [] _ _ from ?_)
  refine zy_6 rfl (show zyR _ _ _ _ [some (.ref (43 + 3)), some (.int x1), some (.int (y1 ||| y0)), some (.int (x3 + (1 : Int32))), none] [] _ _ from ?_)
  exact zy_sub (show zy_le [some (.ref (43 + 3)), some (.int x1), some (.int (y1 ||| y0)), some (.int (x3 + (1 : Int32))), none] [some (.ref (43 + 3)), some (.int x1), some (.int (y1 ||| y0)), some (.int (x3 + (1 : Int32))), none] from ⟨rfl, ⟨rfl, ⟨rfl, ⟨rfl, trivial⟩⟩⟩⟩) (hk18 x1 (y1 ||| y0) (x3 + (1 : Int32)) s _ _ h)
noncomputable def zyF220_112  (k18 : Int32 → Int32 → Int32 → zy_S → Option (Int32 × zy_S)) (x1 : Int32) (x2 : Int32) (x3 : Int32) (y0 : Int32) (s : zy_S) : Option (Int32 × zy_S) :=
if y0 = 0 then
zyF220_127 k18 x1 x3 (0 : Int32) x2 s
else
zyF220_127 k18 x1 x3 ((1 : Int32) <<< (x3 &&& 31)) x2 s
theorem zyC220_112 {X : zx_X}  {k18 : Int32 → Int32 → Int32 → zy_S → Option (Int32 × zy_S)}  (hk18 : ∀ (x1 : Int32) (x2 : Int32) (x3 : Int32) (s : zy_S) (r : Int32) (s' : zy_S), k18 x1 x2 x3 s = some (r, s') → zyR X 5 220 18 [some (.ref (43 + 3)), some (.int x1), some (.int x2), some (.int x3), none] [] s (zyE (some (.int r)) s')) {x1 : Int32} {x2 : Int32} {x3 : Int32} {y0 : Int32} {s : zy_S} {r : Int32} {s' : zy_S}  (h : zyF220_112 k18 x1 x2 x3 y0 s = some (r, s')) : zyR X 5 220 112 [some (.ref (43 + 3)), some (.int x1), some (.int x2), some (.int x3), none] [.int y0] s (zyE (some (.int r)) s') := by
  unfold zyF220_112 at h
  refine zy_23 rfl rfl (show zyR _ _ _ _ [some (.ref (43 + 3)), some (.int x1), some (.int x2), some (.int x3), some (.int y0)] [] _ _ from ?_)
  refine zy_2 rfl rfl (show zyR _ _ _ _ [some (.ref (43 + 3)), some (.int x1), some (.int x2), some (.int x3), some (.int y0)] [.int x2] _ _ from ?_)
  refine zy_2 rfl rfl (show zyR _ _ _ _ [some (.ref (43 + 3)), some (.int x1), some (.int x2), some (.int x3), some (.int y0)] [.int y0, .int x2] _ _ from ?_)
  refine zy_24_0 rfl (fun b1 => (show zyR _ _ _ _ [some (.ref (43 + 3)), some (.int x1), some (.int x2), some (.int x3), some (.int y0)] [.int x2] _ _ from ?_)) (fun b1 => (show zyR _ _ _ _ [some (.ref (43 + 3)), some (.int x1), some (.int x2), some (.int x3), some (.int y0)] [.int x2] _ _ from ?_))
  · replace h := zy_ifp h b1
    refine zy_3 rfl rfl (show zyR _ _ _ _ [some (.ref (43 + 3)), some (.int x1), some (.int x2), some (.int x3), some (.int y0)] [.int (0 : Int32), .int x2] _ _ from ?_)
    exact zy_sub (show zy_le [some (.ref (43 + 3)), some (.int x1), none, some (.int x3), none] [some (.ref (43 + 3)), some (.int x1), some (.int x2), some (.int x3), some (.int y0)] from ⟨rfl, ⟨rfl, ⟨rfl, trivial⟩⟩⟩) (zyC220_127 hk18 h)
  · replace h := zy_ifn h b1
    refine zy_3 rfl rfl (show zyR _ _ _ _ [some (.ref (43 + 3)), some (.int x1), some (.int x2), some (.int x3), some (.int y0)] [.int (1 : Int32), .int x2] _ _ from ?_)
    refine zy_2 rfl rfl (show zyR _ _ _ _ [some (.ref (43 + 3)), some (.int x1), some (.int x2), some (.int x3), some (.int y0)] [.int x3, .int (1 : Int32), .int x2] _ _ from ?_)
    refine zy_16 rfl (show zyR _ _ _ _ [some (.ref (43 + 3)), some (.int x1), some (.int x2), some (.int x3), some (.int y0)] [.int ((1 : Int32) <<< (x3 &&& 31)), .int x2] _ _ from ?_)
    refine zy_6 rfl (show zyR _ _ _ _ [some (.ref (43 + 3)), some (.int x1), some (.int x2), some (.int x3), some (.int y0)] [.int ((1 : Int32) <<< (x3 &&& 31)), .int x2] _ _ from ?_)
    exact zy_sub (show zy_le [some (.ref (43 + 3)), some (.int x1), none, some (.int x3), none] [some (.ref (43 + 3)), some (.int x1), some (.int x2), some (.int x3), some (.int y0)] from ⟨rfl, ⟨rfl, ⟨rfl, trivial⟩⟩⟩) (zyC220_127 hk18 h)
noncomputable def zyF220_111  (k18 : Int32 → Int32 → Int32 → zy_S → Option (Int32 × zy_S)) (x1 : Int32) (x2 : Int32) (x3 : Int32) (s : zy_S) : Option (Int32 × zy_S) :=
zyF220_112 k18 x1 x2 x3 (0 : Int32) s
theorem zyC220_111 {X : zx_X}  {k18 : Int32 → Int32 → Int32 → zy_S → Option (Int32 × zy_S)}  (hk18 : ∀ (x1 : Int32) (x2 : Int32) (x3 : Int32) (s : zy_S) (r : Int32) (s' : zy_S), k18 x1 x2 x3 s = some (r, s') → zyR X 5 220 18 [some (.ref (43 + 3)), some (.int x1), some (.int x2), some (.int x3), none] [] s (zyE (some (.int r)) s')) {x1 : Int32} {x2 : Int32} {x3 : Int32} {s : zy_S} {r : Int32} {s' : zy_S}  (h : zyF220_111 k18 x1 x2 x3 s = some (r, s')) : zyR X 5 220 111 [some (.ref (43 + 3)), some (.int x1), some (.int x2), some (.int x3), none] [] s (zyE (some (.int r)) s') := by
  unfold zyF220_111 at h
  refine zy_3 rfl rfl (show zyR _ _ _ _ [some (.ref (43 + 3)), some (.int x1), some (.int x2), some (.int x3), none] [.int (0 : Int32)] _ _ from ?_)
  exact zy_sub (show zy_le [some (.ref (43 + 3)), some (.int x1), some (.int x2), some (.int x3), none] [some (.ref (43 + 3)), some (.int x1), some (.int x2), some (.int x3), none] from ⟨rfl, ⟨rfl, ⟨rfl, ⟨rfl, trivial⟩⟩⟩⟩) (zyC220_112 hk18 h)
noncomputable def zyF220_84  (k18 : Int32 → Int32 → Int32 → zy_S → Option (Int32 × zy_S)) (x1 : Int32) (x2 : Int32) (x3 : Int32) (s : zy_S) : Option (Int32 × zy_S) :=
zyF220_112 k18 x1 x2 x3 (0 : Int32) s
theorem zyC220_84 {X : zx_X}  {k18 : Int32 → Int32 → Int32 → zy_S → Option (Int32 × zy_S)}  (hk18 : ∀ (x1 : Int32) (x2 : Int32) (x3 : Int32) (s : zy_S) (r : Int32) (s' : zy_S), k18 x1 x2 x3 s = some (r, s') → zyR X 5 220 18 [some (.ref (43 + 3)), some (.int x1), some (.int x2), some (.int x3), none] [] s (zyE (some (.int r)) s')) {x1 : Int32} {x2 : Int32} {x3 : Int32} {s : zy_S} {r : Int32} {s' : zy_S}  (h : zyF220_84 k18 x1 x2 x3 s = some (r, s')) : zyR X 5 220 84 [some (.ref (43 + 3)), some (.int x1), some (.int x2), some (.int x3), none] [] s (zyE (some (.int r)) s') := by
  unfold zyF220_84 at h
  refine zy_3 rfl rfl (show zyR _ _ _ _ [some (.ref (43 + 3)), some (.int x1), some (.int x2), some (.int x3), none] [.int (0 : Int32)] _ _ from ?_)
  refine zy_6 rfl (show zyR _ _ _ _ [some (.ref (43 + 3)), some (.int x1), some (.int x2), some (.int x3), none] [.int (0 : Int32)] _ _ from ?_)
  exact zy_sub (show zy_le [some (.ref (43 + 3)), some (.int x1), some (.int x2), some (.int x3), none] [some (.ref (43 + 3)), some (.int x1), some (.int x2), some (.int x3), none] from ⟨rfl, ⟨rfl, ⟨rfl, ⟨rfl, trivial⟩⟩⟩⟩) (zyC220_112 hk18 h)
noncomputable def zyF220_52  (k18 : Int32 → Int32 → Int32 → zy_S → Option (Int32 × zy_S)) (x1 : Int32) (x2 : Int32) (x3 : Int32) (s : zy_S) : Option (Int32 × zy_S) :=
zyF220_112 k18 x1 x2 x3 (0 : Int32) s
theorem zyC220_52 {X : zx_X}  {k18 : Int32 → Int32 → Int32 → zy_S → Option (Int32 × zy_S)}  (hk18 : ∀ (x1 : Int32) (x2 : Int32) (x3 : Int32) (s : zy_S) (r : Int32) (s' : zy_S), k18 x1 x2 x3 s = some (r, s') → zyR X 5 220 18 [some (.ref (43 + 3)), some (.int x1), some (.int x2), some (.int x3), none] [] s (zyE (some (.int r)) s')) {x1 : Int32} {x2 : Int32} {x3 : Int32} {s : zy_S} {r : Int32} {s' : zy_S}  (h : zyF220_52 k18 x1 x2 x3 s = some (r, s')) : zyR X 5 220 52 [some (.ref (43 + 3)), some (.int x1), some (.int x2), some (.int x3), none] [] s (zyE (some (.int r)) s') := by
  unfold zyF220_52 at h
  refine zy_3 rfl rfl (show zyR _ _ _ _ [some (.ref (43 + 3)), some (.int x1), some (.int x2), some (.int x3), none] [.int (0 : Int32)] _ _ from ?_)
  refine zy_6 rfl (show zyR _ _ _ _ [some (.ref (43 + 3)), some (.int x1), some (.int x2), some (.int x3), none] [.int (0 : Int32)] _ _ from ?_)
  exact zy_sub (show zy_le [some (.ref (43 + 3)), some (.int x1), some (.int x2), some (.int x3), none] [some (.ref (43 + 3)), some (.int x1), some (.int x2), some (.int x3), none] from ⟨rfl, ⟨rfl, ⟨rfl, ⟨rfl, trivial⟩⟩⟩⟩) (zyC220_112 hk18 h)
noncomputable def zyF220_18b  (k18 : Int32 → Int32 → Int32 → zy_S → Option (Int32 × zy_S)) (x1 : Int32) (x2 : Int32) (x3 : Int32) (s : zy_S) : Option (Int32 × zy_S) :=
if (24 : Int32) ≤ x3 then
some (x2, s)
else
if x1 ≠ 0 then
if x1 ≠ (1 : Int32) then
(zyF208 (s.1 43 7) x3 s).bind fun p2 =>
if p2.1 ≠ 0 then
zyF220_111 k18 x1 x2 x3 p2.2
else
(zyF223 x3 p2.2).bind fun p3 =>
if p3.1 = 0 then
zyF220_111 k18 x1 x2 x3 p3.2
else
zyF220_112 k18 x1 x2 x3 (1 : Int32) p3.2
else
(zyF208 (s.1 43 7) x3 s).bind fun p6 =>
if p6.1 = 0 then
zyF220_84 k18 x1 x2 x3 p6.2
else
(zyF223 x3 p6.2).bind fun p7 =>
if p7.1 ≠ 0 then
zyF220_84 k18 x1 x2 x3 p7.2
else
zyF220_112 k18 x1 x2 x3 (1 : Int32) p7.2
else
(zyF208 (s.1 43 7) x3 s).bind fun p11 =>
if p11.1 = 0 then
zyF220_52 k18 x1 x2 x3 p11.2
else
(zyF221 x3 (0 : Int32) p11.2).bind fun p12 =>
if p12.1 = 0 then
zyF220_52 k18 x1 x2 x3 p12.2
else
zyF220_112 k18 x1 x2 x3 (1 : Int32) p12.2
theorem zyC220_18b {X : zx_X}  {k18 : Int32 → Int32 → Int32 → zy_S → Option (Int32 × zy_S)}  (hk18 : ∀ (x1 : Int32) (x2 : Int32) (x3 : Int32) (s : zy_S) (r : Int32) (s' : zy_S), k18 x1 x2 x3 s = some (r, s') → zyR X 5 220 18 [some (.ref (43 + 3)), some (.int x1), some (.int x2), some (.int x3), none] [] s (zyE (some (.int r)) s')) {x1 : Int32} {x2 : Int32} {x3 : Int32} {s : zy_S} {r : Int32} {s' : zy_S}  (h : zyF220_18b k18 x1 x2 x3 s = some (r, s')) : zyR X 5 220 18 [some (.ref (43 + 3)), some (.int x1), some (.int x2), some (.int x3), none] [] s (zyE (some (.int r)) s') := by
  unfold zyF220_18b at h
  refine zy_2 rfl rfl (show zyR _ _ _ _ [some (.ref (43 + 3)), some (.int x1), some (.int x2), some (.int x3), none] [.int x3] _ _ from ?_)
  refine zy_3 rfl rfl (show zyR _ _ _ _ [some (.ref (43 + 3)), some (.int x1), some (.int x2), some (.int x3), none] [.int (24 : Int32), .int x3] _ _ from ?_)
  refine zy_25_3 rfl (fun b16 => (show zyR _ _ _ _ [some (.ref (43 + 3)), some (.int x1), some (.int x2), some (.int x3), none] [] _ _ from ?_)) (fun b16 => (show zyR _ _ _ _ [some (.ref (43 + 3)), some (.int x1), some (.int x2), some (.int x3), none] [] _ _ from ?_))
  · replace h := zy_ifp h b16
    refine zy_2 rfl rfl (show zyR _ _ _ _ [some (.ref (43 + 3)), some (.int x1), some (.int x2), some (.int x3), none] [.int x2] _ _ from ?_)
    obtain ⟨rfl, rfl⟩ := zy_pi h
    exact zy_4 rfl ⟨rfl, rfl⟩
  · replace h := zy_ifn h b16
    refine zy_2 rfl rfl (show zyR _ _ _ _ [some (.ref (43 + 3)), some (.int x1), some (.int x2), some (.int x3), none] [.int x1] _ _ from ?_)
    refine zy_24_1 rfl (fun b15 => (show zyR _ _ _ _ [some (.ref (43 + 3)), some (.int x1), some (.int x2), some (.int x3), none] [] _ _ from ?_)) (fun b15 => (show zyR _ _ _ _ [some (.ref (43 + 3)), some (.int x1), some (.int x2), some (.int x3), none] [] _ _ from ?_))
    · replace h := zy_ifp h b15
      refine zy_2 rfl rfl (show zyR _ _ _ _ [some (.ref (43 + 3)), some (.int x1), some (.int x2), some (.int x3), none] [.int x1] _ _ from ?_)
      refine zy_3 rfl rfl (show zyR _ _ _ _ [some (.ref (43 + 3)), some (.int x1), some (.int x2), some (.int x3), none] [.int (1 : Int32), .int x1] _ _ from ?_)
      refine zy_25_1 rfl (fun b10 => (show zyR _ _ _ _ [some (.ref (43 + 3)), some (.int x1), some (.int x2), some (.int x3), none] [] _ _ from ?_)) (fun b10 => (show zyR _ _ _ _ [some (.ref (43 + 3)), some (.int x1), some (.int x2), some (.int x3), none] [] _ _ from ?_))
      · replace h := zy_ifp h b10
        refine zy_0 rfl rfl (show zyR _ _ _ _ [some (.ref (43 + 3)), some (.int x1), some (.int x2), some (.int x3), none] [.ref (43 + 3)] _ _ from ?_)
        refine zy_1 (c := 43) rfl rfl rfl (show zyR _ _ _ _ [some (.ref (43 + 3)), some (.int x1), some (.int x2), some (.int x3), none] [.int (s.1 43 7)] _ _ from ?_)
        refine zy_2 rfl rfl (show zyR _ _ _ _ [some (.ref (43 + 3)), some (.int x1), some (.int x2), some (.int x3), none] [.int x3, .int (s.1 43 7)] _ _ from ?_)
        obtain ⟨p2, hp2, h⟩ := zy_bind h
        refine zy_60 (as := [.int (s.1 43 7), .int x3]) (rest := []) (L := [some (.int (s.1 43 7)), some (.int x3)]) (d' := 1) rfl rfl (Nat.le_of_ble_eq_true rfl) (Nat.le_of_ble_eq_true rfl) rfl (Nat.le_of_ble_eq_true rfl) rfl rfl (zyC208 hp2) ?_
        show zyR _ _ _ _ [some (.ref (43 + 3)), some (.int x1), some (.int x2), some (.int x3), none] [.int p2.1] _ _
        refine zy_24_1 rfl (fun b5 => (show zyR _ _ _ _ [some (.ref (43 + 3)), some (.int x1), some (.int x2), some (.int x3), none] [] _ _ from ?_)) (fun b5 => (show zyR _ _ _ _ [some (.ref (43 + 3)), some (.int x1), some (.int x2), some (.int x3), none] [] _ _ from ?_))
        · replace h := zy_ifp h b5
          exact zy_sub (show zy_le [some (.ref (43 + 3)), some (.int x1), some (.int x2), some (.int x3), none] [some (.ref (43 + 3)), some (.int x1), some (.int x2), some (.int x3), none] from ⟨rfl, ⟨rfl, ⟨rfl, ⟨rfl, trivial⟩⟩⟩⟩) (zyC220_111 hk18 h)
        · replace h := zy_ifn h b5
          refine zy_0 rfl rfl (show zyR _ _ _ _ [some (.ref (43 + 3)), some (.int x1), some (.int x2), some (.int x3), none] [.ref (43 + 3)] _ _ from ?_)
          refine zy_2 rfl rfl (show zyR _ _ _ _ [some (.ref (43 + 3)), some (.int x1), some (.int x2), some (.int x3), none] [.int x3, .ref (43 + 3)] _ _ from ?_)
          obtain ⟨p3, hp3, h⟩ := zy_bind h
          refine zy_5 (c := 43) (as := [.int x3]) (rest := []) (L := [some (.ref (43 + 3)), some (.int x3), none, none]) (d' := 4) rfl rfl rfl (Nat.le_of_ble_eq_true rfl) (Nat.le_of_ble_eq_true rfl) rfl (Nat.le_of_ble_eq_true rfl) rfl rfl (zyC223 hp3) ?_
          show zyR _ _ _ _ [some (.ref (43 + 3)), some (.int x1), some (.int x2), some (.int x3), none] [.int p3.1] _ _
          refine zy_24_0 rfl (fun b4 => (show zyR _ _ _ _ [some (.ref (43 + 3)), some (.int x1), some (.int x2), some (.int x3), none] [] _ _ from ?_)) (fun b4 => (show zyR _ _ _ _ [some (.ref (43 + 3)), some (.int x1), some (.int x2), some (.int x3), none] [] _ _ from ?_))
          · replace h := zy_ifp h b4
            exact zy_sub (show zy_le [some (.ref (43 + 3)), some (.int x1), some (.int x2), some (.int x3), none] [some (.ref (43 + 3)), some (.int x1), some (.int x2), some (.int x3), none] from ⟨rfl, ⟨rfl, ⟨rfl, ⟨rfl, trivial⟩⟩⟩⟩) (zyC220_111 hk18 h)
          · replace h := zy_ifn h b4
            refine zy_3 rfl rfl (show zyR _ _ _ _ [some (.ref (43 + 3)), some (.int x1), some (.int x2), some (.int x3), none] [.int (1 : Int32)] _ _ from ?_)
            refine zy_6 rfl (show zyR _ _ _ _ [some (.ref (43 + 3)), some (.int x1), some (.int x2), some (.int x3), none] [.int (1 : Int32)] _ _ from ?_)
            exact zy_sub (show zy_le [some (.ref (43 + 3)), some (.int x1), some (.int x2), some (.int x3), none] [some (.ref (43 + 3)), some (.int x1), some (.int x2), some (.int x3), none] from ⟨rfl, ⟨rfl, ⟨rfl, ⟨rfl, trivial⟩⟩⟩⟩) (zyC220_112 hk18 h)
      · replace h := zy_ifn h b10
        refine zy_0 rfl rfl (show zyR _ _ _ _ [some (.ref (43 + 3)), some (.int x1), some (.int x2), some (.int x3), none] [.ref (43 + 3)] _ _ from ?_)
        refine zy_1 (c := 43) rfl rfl rfl (show zyR _ _ _ _ [some (.ref (43 + 3)), some (.int x1), some (.int x2), some (.int x3), none] [.int (s.1 43 7)] _ _ from ?_)
        refine zy_2 rfl rfl (show zyR _ _ _ _ [some (.ref (43 + 3)), some (.int x1), some (.int x2), some (.int x3), none] [.int x3, .int (s.1 43 7)] _ _ from ?_)
        obtain ⟨p6, hp6, h⟩ := zy_bind h
        refine zy_60 (as := [.int (s.1 43 7), .int x3]) (rest := []) (L := [some (.int (s.1 43 7)), some (.int x3)]) (d' := 1) rfl rfl (Nat.le_of_ble_eq_true rfl) (Nat.le_of_ble_eq_true rfl) rfl (Nat.le_of_ble_eq_true rfl) rfl rfl (zyC208 hp6) ?_
        show zyR _ _ _ _ [some (.ref (43 + 3)), some (.int x1), some (.int x2), some (.int x3), none] [.int p6.1] _ _
        refine zy_24_0 rfl (fun b9 => (show zyR _ _ _ _ [some (.ref (43 + 3)), some (.int x1), some (.int x2), some (.int x3), none] [] _ _ from ?_)) (fun b9 => (show zyR _ _ _ _ [some (.ref (43 + 3)), some (.int x1), some (.int x2), some (.int x3), none] [] _ _ from ?_))
        · replace h := zy_ifp h b9
          exact zy_sub (show zy_le [some (.ref (43 + 3)), some (.int x1), some (.int x2), some (.int x3), none] [some (.ref (43 + 3)), some (.int x1), some (.int x2), some (.int x3), none] from ⟨rfl, ⟨rfl, ⟨rfl, ⟨rfl, trivial⟩⟩⟩⟩) (zyC220_84 hk18 h)
        · replace h := zy_ifn h b9
          refine zy_0 rfl rfl (show zyR _ _ _ _ [some (.ref (43 + 3)), some (.int x1), some (.int x2), some (.int x3), none] [.ref (43 + 3)] _ _ from ?_)
          refine zy_2 rfl rfl (show zyR _ _ _ _ [some (.ref (43 + 3)), some (.int x1), some (.int x2), some (.int x3), none] [.int x3, .ref (43 + 3)] _ _ from ?_)
          obtain ⟨p7, hp7, h⟩ := zy_bind h
          refine zy_5 (c := 43) (as := [.int x3]) (rest := []) (L := [some (.ref (43 + 3)), some (.int x3), none, none]) (d' := 4) rfl rfl rfl (Nat.le_of_ble_eq_true rfl) (Nat.le_of_ble_eq_true rfl) rfl (Nat.le_of_ble_eq_true rfl) rfl rfl (zyC223 hp7) ?_
          show zyR _ _ _ _ [some (.ref (43 + 3)), some (.int x1), some (.int x2), some (.int x3), none] [.int p7.1] _ _
          refine zy_24_1 rfl (fun b8 => (show zyR _ _ _ _ [some (.ref (43 + 3)), some (.int x1), some (.int x2), some (.int x3), none] [] _ _ from ?_)) (fun b8 => (show zyR _ _ _ _ [some (.ref (43 + 3)), some (.int x1), some (.int x2), some (.int x3), none] [] _ _ from ?_))
          · replace h := zy_ifp h b8
            exact zy_sub (show zy_le [some (.ref (43 + 3)), some (.int x1), some (.int x2), some (.int x3), none] [some (.ref (43 + 3)), some (.int x1), some (.int x2), some (.int x3), none] from ⟨rfl, ⟨rfl, ⟨rfl, ⟨rfl, trivial⟩⟩⟩⟩) (zyC220_84 hk18 h)
          · replace h := zy_ifn h b8
            refine zy_3 rfl rfl (show zyR _ _ _ _ [some (.ref (43 + 3)), some (.int x1), some (.int x2), some (.int x3), none] [.int (1 : Int32)] _ _ from ?_)
            refine zy_6 rfl (show zyR _ _ _ _ [some (.ref (43 + 3)), some (.int x1), some (.int x2), some (.int x3), none] [.int (1 : Int32)] _ _ from ?_)
            exact zy_sub (show zy_le [some (.ref (43 + 3)), some (.int x1), some (.int x2), some (.int x3), none] [some (.ref (43 + 3)), some (.int x1), some (.int x2), some (.int x3), none] from ⟨rfl, ⟨rfl, ⟨rfl, ⟨rfl, trivial⟩⟩⟩⟩) (zyC220_112 hk18 h)
    · replace h := zy_ifn h b15
      refine zy_0 rfl rfl (show zyR _ _ _ _ [some (.ref (43 + 3)), some (.int x1), some (.int x2), some (.int x3), none] [.ref (43 + 3)] _ _ from ?_)
      refine zy_1 (c := 43) rfl rfl rfl (show zyR _ _ _ _ [some (.ref (43 + 3)), some (.int x1), some (.int x2), some (.int x3), none] [.int (s.1 43 7)] _ _ from ?_)
      refine zy_2 rfl rfl (show zyR _ _ _ _ [some (.ref (43 + 3)), some (.int x1), some (.int x2), some (.int x3), none] [.int x3, .int (s.1 43 7)] _ _ from ?_)
      obtain ⟨p11, hp11, h⟩ := zy_bind h
      refine zy_60 (as := [.int (s.1 43 7), .int x3]) (rest := []) (L := [some (.int (s.1 43 7)), some (.int x3)]) (d' := 1) rfl rfl (Nat.le_of_ble_eq_true rfl) (Nat.le_of_ble_eq_true rfl) rfl (Nat.le_of_ble_eq_true rfl) rfl rfl (zyC208 hp11) ?_
      show zyR _ _ _ _ [some (.ref (43 + 3)), some (.int x1), some (.int x2), some (.int x3), none] [.int p11.1] _ _
      refine zy_24_0 rfl (fun b14 => (show zyR _ _ _ _ [some (.ref (43 + 3)), some (.int x1), some (.int x2), some (.int x3), none] [] _ _ from ?_)) (fun b14 => (show zyR _ _ _ _ [some (.ref (43 + 3)), some (.int x1), some (.int x2), some (.int x3), none] [] _ _ from ?_))
      · replace h := zy_ifp h b14
        exact zy_sub (show zy_le [some (.ref (43 + 3)), some (.int x1), some (.int x2), some (.int x3), none] [some (.ref (43 + 3)), some (.int x1), some (.int x2), some (.int x3), none] from ⟨rfl, ⟨rfl, ⟨rfl, ⟨rfl, trivial⟩⟩⟩⟩) (zyC220_52 hk18 h)
      · replace h := zy_ifn h b14
        refine zy_0 rfl rfl (show zyR _ _ _ _ [some (.ref (43 + 3)), some (.int x1), some (.int x2), some (.int x3), none] [.ref (43 + 3)] _ _ from ?_)
        refine zy_2 rfl rfl (show zyR _ _ _ _ [some (.ref (43 + 3)), some (.int x1), some (.int x2), some (.int x3), none] [.int x3, .ref (43 + 3)] _ _ from ?_)
        refine zy_3 rfl rfl (show zyR _ _ _ _ [some (.ref (43 + 3)), some (.int x1), some (.int x2), some (.int x3), none] [.int (0 : Int32), .int x3, .ref (43 + 3)] _ _ from ?_)
        obtain ⟨p12, hp12, h⟩ := zy_bind h
        refine zy_5 (c := 43) (as := [.int x3, .int (0 : Int32)]) (rest := []) (L := [some (.ref (43 + 3)), some (.int x3), some (.int (0 : Int32)), none, none, none]) (d' := 4) rfl rfl rfl (Nat.le_of_ble_eq_true rfl) (Nat.le_of_ble_eq_true rfl) rfl (Nat.le_of_ble_eq_true rfl) rfl rfl (zyC221 hp12) ?_
        show zyR _ _ _ _ [some (.ref (43 + 3)), some (.int x1), some (.int x2), some (.int x3), none] [.int p12.1] _ _
        refine zy_24_0 rfl (fun b13 => (show zyR _ _ _ _ [some (.ref (43 + 3)), some (.int x1), some (.int x2), some (.int x3), none] [] _ _ from ?_)) (fun b13 => (show zyR _ _ _ _ [some (.ref (43 + 3)), some (.int x1), some (.int x2), some (.int x3), none] [] _ _ from ?_))
        · replace h := zy_ifp h b13
          exact zy_sub (show zy_le [some (.ref (43 + 3)), some (.int x1), some (.int x2), some (.int x3), none] [some (.ref (43 + 3)), some (.int x1), some (.int x2), some (.int x3), none] from ⟨rfl, ⟨rfl, ⟨rfl, ⟨rfl, trivial⟩⟩⟩⟩) (zyC220_52 hk18 h)
        · replace h := zy_ifn h b13
          refine zy_3 rfl rfl (show zyR _ _ _ _ [some (.ref (43 + 3)), some (.int x1), some (.int x2), some (.int x3), none] [.int (1 : Int32)] _ _ from ?_)
          refine zy_6 rfl (show zyR _ _ _ _ [some (.ref (43 + 3)), some (.int x1), some (.int x2), some (.int x3), none] [.int (1 : Int32)] _ _ from ?_)
          exact zy_sub (show zy_le [some (.ref (43 + 3)), some (.int x1), some (.int x2), some (.int x3), none] [some (.ref (43 + 3)), some (.int x1), some (.int x2), some (.int x3), none] from ⟨rfl, ⟨rfl, ⟨rfl, ⟨rfl, trivial⟩⟩⟩⟩) (zyC220_112 hk18 h)
noncomputable def zyF220_18   (n : Nat) : Int32 → Int32 → Int32 → zy_S → Option (Int32 × zy_S) := Nat.rec (fun _ _ _ _ => none) (fun _ k18 => zyF220_18b k18) n
theorem zyC220_18 {X : zx_X}     : ∀ (n : Nat) (x1 : Int32) (x2 : Int32) (x3 : Int32) (s : zy_S) (r : Int32) (s' : zy_S), zyF220_18 n x1 x2 x3 s = some (r, s') → zyR X 5 220 18 [some (.ref (43 + 3)), some (.int x1), some (.int x2), some (.int x3), none] [] s (zyE (some (.int r)) s')
  | 0, _, _, _ => by
    intro s r s'  h
    have h : (none : Option (Int32 × zy_S)) = some (r, s') := h
    cases h
  | n + 1, x1, x2, x3 => by
    intro s r s'  h
    exact zyC220_18b (k18 := zyF220_18 n) (fun x1 x2 x3 s r s'  h => zyC220_18  n x1 x2 x3 s r s'  h) h
noncomputable def zyF220   (x1 : Int32) (s : zy_S) : Option (Int32 × zy_S) :=
(zyF179 (x1).toInt64 (0 : Int64) (2 : Int64) s).bind fun p17 =>
if p17.1 ≠ 0 then
zyF220_18 zy_fu x1 (0 : Int32) (0 : Int32) p17.2
else
some ((-1 : Int32), p17.2)
theorem zyC220 {X : zx_X}     {x1 : Int32} {s : zy_S} {r : Int32} {s' : zy_S}  (h : zyF220 x1 s = some (r, s')) : zyR X 5 220 0 [some (.ref (43 + 3)), some (.int x1), none, none, none] [] s (zyE (some (.int r)) s') := by
  unfold zyF220 at h
  refine zy_2 rfl rfl (show zyR _ _ _ _ [some (.ref (43 + 3)), some (.int x1), none, none, none] [.int x1] _ _ from ?_)
  refine zy_40 rfl (show zyR _ _ _ _ [some (.ref (43 + 3)), some (.int x1), none, none, none] [.long (x1).toInt64] _ _ from ?_)
  refine zy_36 rfl rfl (show zyR _ _ _ _ [some (.ref (43 + 3)), some (.int x1), none, none, none] [.long (0 : Int64), .long (x1).toInt64] _ _ from ?_)
  refine zy_36c rfl rfl (show zyR _ _ _ _ [some (.ref (43 + 3)), some (.int x1), none, none, none] [.long (2 : Int64), .long (0 : Int64), .long (x1).toInt64] _ _ from ?_)
  obtain ⟨p17, hp17, h⟩ := zy_bind h
  refine zy_60 (as := [.long (x1).toInt64, .long (0 : Int64), .long (2 : Int64)]) (rest := []) (L := [some (.long (x1).toInt64), none, some (.long (0 : Int64)), none, some (.long (2 : Int64)), none]) (d' := 1) rfl rfl (Nat.le_of_ble_eq_true rfl) (Nat.le_of_ble_eq_true rfl) rfl (Nat.le_of_ble_eq_true rfl) rfl rfl (zyC179 hp17) ?_
  show zyR _ _ _ _ [some (.ref (43 + 3)), some (.int x1), none, none, none] [.int p17.1] _ _
  refine zy_24_1 rfl (fun b18 => (show zyR _ _ _ _ [some (.ref (43 + 3)), some (.int x1), none, none, none] [] _ _ from ?_)) (fun b18 => (show zyR _ _ _ _ [some (.ref (43 + 3)), some (.int x1), none, none, none] [] _ _ from ?_))
  · replace h := zy_ifp h b18
    refine zy_3 rfl rfl (show zyR _ _ _ _ [some (.ref (43 + 3)), some (.int x1), none, none, none] [.int (0 : Int32)] _ _ from ?_)
    refine zy_23 rfl rfl (show zyR _ _ _ _ [some (.ref (43 + 3)), some (.int x1), some (.int (0 : Int32)), none, none] [] _ _ from ?_)
    refine zy_3 rfl rfl (show zyR _ _ _ _ [some (.ref (43 + 3)), some (.int x1), some (.int (0 : Int32)), none, none] [.int (0 : Int32)] _ _ from ?_)
    refine zy_23 rfl rfl (show zyR _ _ _ _ [some (.ref (43 + 3)), some (.int x1), some (.int (0 : Int32)), some (.int (0 : Int32)), none] [] _ _ from ?_)
    exact zy_sub (show zy_le [some (.ref (43 + 3)), some (.int x1), some (.int (0 : Int32)), some (.int (0 : Int32)), none] [some (.ref (43 + 3)), some (.int x1), some (.int (0 : Int32)), some (.int (0 : Int32)), none] from ⟨rfl, ⟨rfl, ⟨rfl, ⟨rfl, trivial⟩⟩⟩⟩) (zyC220_18 zy_fu x1 (0 : Int32) (0 : Int32) p17.2 _ _ h)
  · replace h := zy_ifn h b18
    refine zy_3 rfl rfl (show zyR _ _ _ _ [some (.ref (43 + 3)), some (.int x1), none, none, none] [.int (-1 : Int32)] _ _ from ?_)
    obtain ⟨rfl, rfl⟩ := zy_pi h
    exact zy_4 rfl ⟨rfl, rfl⟩
/-! NineOpinions$Votes.fewestToWin(I)I -/
noncomputable def zyF101_85  (k24 : Int32 → Int32 → Int32 → Int32 → zy_S → Option (Int32 × zy_S)) (x2 : Int32) (x3 : Int32) (x4 : Int32) (x5 : Int32) (s : zy_S) : Option (Int32 × zy_S) :=
k24 x2 x3 x4 (x5 + (1 : Int32)) s
theorem zyC101_85 {X : zx_X}  {k24 : Int32 → Int32 → Int32 → Int32 → zy_S → Option (Int32 × zy_S)}  (hk24 : ∀ (x2 : Int32) (x3 : Int32) (x4 : Int32) (x5 : Int32) (s : zy_S) (r : Int32) (s' : zy_S), k24 x2 x3 x4 x5 s = some (r, s') → zyR X 4 101 24 [some (.ref (16 + 3)), none, some (.int x2), some (.int x3), some (.int x4), some (.int x5), none] [] s (zyE (some (.int r)) s')) {x2 : Int32} {x3 : Int32} {x4 : Int32} {x5 : Int32} {s : zy_S} {r : Int32} {s' : zy_S}  (h : zyF101_85 k24 x2 x3 x4 x5 s = some (r, s')) : zyR X 4 101 85 [some (.ref (16 + 3)), none, some (.int x2), some (.int x3), some (.int x4), some (.int x5), none] [] s (zyE (some (.int r)) s') := by
  unfold zyF101_85 at h
  refine zy_22 rfl rfl rfl rfl (show zyR _ _ _ _ [some (.ref (16 + 3)), none, some (.int x2), some (.int x3), some (.int x4), some (.int (x5 + (1 : Int32))), none] [] _ _ from ?_)
  refine zy_6 rfl (show zyR _ _ _ _ [some (.ref (16 + 3)), none, some (.int x2), some (.int x3), some (.int x4), some (.int (x5 + (1 : Int32))), none] [] _ _ from ?_)
  exact zy_sub (show zy_le [some (.ref (16 + 3)), none, some (.int x2), some (.int x3), some (.int x4), some (.int (x5 + (1 : Int32))), none] [some (.ref (16 + 3)), none, some (.int x2), some (.int x3), some (.int x4), some (.int (x5 + (1 : Int32))), none] from ⟨rfl, ⟨rfl, ⟨rfl, ⟨rfl, ⟨rfl, trivial⟩⟩⟩⟩⟩) (hk24 x2 x3 x4 (x5 + (1 : Int32)) s _ _ h)
noncomputable def zyF101_54  (k24 : Int32 → Int32 → Int32 → Int32 → zy_S → Option (Int32 × zy_S)) (x2 : Int32) (x3 : Int32) (x4 : Int32) (x5 : Int32) (y0 : Int32) (s : zy_S) : Option (Int32 × zy_S) :=
if y0 = 0 then
zyF101_85 k24 x2 x3 x4 x5 s
else
if (x5 &&& (x2 ^^^ (-1 : Int32))) ≠ 0 then
zyF101_85 k24 x2 x3 x4 x5 s
else
(zyF97 (x3 ||| x5) s).bind fun p1 =>
if p1.1 = 0 then
zyF101_85 k24 x2 x3 x4 x5 p1.2
else
zyF101_85 k24 x2 x3 x5 x5 p1.2
theorem zyC101_54 {X : zx_X}  {k24 : Int32 → Int32 → Int32 → Int32 → zy_S → Option (Int32 × zy_S)}  (hk24 : ∀ (x2 : Int32) (x3 : Int32) (x4 : Int32) (x5 : Int32) (s : zy_S) (r : Int32) (s' : zy_S), k24 x2 x3 x4 x5 s = some (r, s') → zyR X 4 101 24 [some (.ref (16 + 3)), none, some (.int x2), some (.int x3), some (.int x4), some (.int x5), none] [] s (zyE (some (.int r)) s')) {x2 : Int32} {x3 : Int32} {x4 : Int32} {x5 : Int32} {y0 : Int32} {s : zy_S} {r : Int32} {s' : zy_S}  (h : zyF101_54 k24 x2 x3 x4 x5 y0 s = some (r, s')) : zyR X 4 101 54 [some (.ref (16 + 3)), none, some (.int x2), some (.int x3), some (.int x4), some (.int x5), none] [.int y0] s (zyE (some (.int r)) s') := by
  unfold zyF101_54 at h
  refine zy_23 rfl rfl (show zyR _ _ _ _ [some (.ref (16 + 3)), none, some (.int x2), some (.int x3), some (.int x4), some (.int x5), some (.int y0)] [] _ _ from ?_)
  refine zy_2 rfl rfl (show zyR _ _ _ _ [some (.ref (16 + 3)), none, some (.int x2), some (.int x3), some (.int x4), some (.int x5), some (.int y0)] [.int y0] _ _ from ?_)
  refine zy_24_0 rfl (fun b4 => (show zyR _ _ _ _ [some (.ref (16 + 3)), none, some (.int x2), some (.int x3), some (.int x4), some (.int x5), some (.int y0)] [] _ _ from ?_)) (fun b4 => (show zyR _ _ _ _ [some (.ref (16 + 3)), none, some (.int x2), some (.int x3), some (.int x4), some (.int x5), some (.int y0)] [] _ _ from ?_))
  · replace h := zy_ifp h b4
    exact zy_sub (show zy_le [some (.ref (16 + 3)), none, some (.int x2), some (.int x3), some (.int x4), some (.int x5), none] [some (.ref (16 + 3)), none, some (.int x2), some (.int x3), some (.int x4), some (.int x5), some (.int y0)] from ⟨rfl, ⟨rfl, ⟨rfl, ⟨rfl, ⟨rfl, trivial⟩⟩⟩⟩⟩) (zyC101_85 hk24 h)
  · replace h := zy_ifn h b4
    refine zy_2 rfl rfl (show zyR _ _ _ _ [some (.ref (16 + 3)), none, some (.int x2), some (.int x3), some (.int x4), some (.int x5), some (.int y0)] [.int x5] _ _ from ?_)
    refine zy_2 rfl rfl (show zyR _ _ _ _ [some (.ref (16 + 3)), none, some (.int x2), some (.int x3), some (.int x4), some (.int x5), some (.int y0)] [.int x2, .int x5] _ _ from ?_)
    refine zy_3 rfl rfl (show zyR _ _ _ _ [some (.ref (16 + 3)), none, some (.int x2), some (.int x3), some (.int x4), some (.int x5), some (.int y0)] [.int (-1 : Int32), .int x2, .int x5] _ _ from ?_)
    refine zy_15 rfl (show zyR _ _ _ _ [some (.ref (16 + 3)), none, some (.int x2), some (.int x3), some (.int x4), some (.int x5), some (.int y0)] [.int (x2 ^^^ (-1 : Int32)), .int x5] _ _ from ?_)
    refine zy_13 rfl (show zyR _ _ _ _ [some (.ref (16 + 3)), none, some (.int x2), some (.int x3), some (.int x4), some (.int x5), some (.int y0)] [.int (x5 &&& (x2 ^^^ (-1 : Int32)))] _ _ from ?_)
    refine zy_24_1 rfl (fun b3 => (show zyR _ _ _ _ [some (.ref (16 + 3)), none, some (.int x2), some (.int x3), some (.int x4), some (.int x5), some (.int y0)] [] _ _ from ?_)) (fun b3 => (show zyR _ _ _ _ [some (.ref (16 + 3)), none, some (.int x2), some (.int x3), some (.int x4), some (.int x5), some (.int y0)] [] _ _ from ?_))
    · replace h := zy_ifp h b3
      exact zy_sub (show zy_le [some (.ref (16 + 3)), none, some (.int x2), some (.int x3), some (.int x4), some (.int x5), none] [some (.ref (16 + 3)), none, some (.int x2), some (.int x3), some (.int x4), some (.int x5), some (.int y0)] from ⟨rfl, ⟨rfl, ⟨rfl, ⟨rfl, ⟨rfl, trivial⟩⟩⟩⟩⟩) (zyC101_85 hk24 h)
    · replace h := zy_ifn h b3
      refine zy_0 rfl rfl (show zyR _ _ _ _ [some (.ref (16 + 3)), none, some (.int x2), some (.int x3), some (.int x4), some (.int x5), some (.int y0)] [.ref (16 + 3)] _ _ from ?_)
      refine zy_2 rfl rfl (show zyR _ _ _ _ [some (.ref (16 + 3)), none, some (.int x2), some (.int x3), some (.int x4), some (.int x5), some (.int y0)] [.int x3, .ref (16 + 3)] _ _ from ?_)
      refine zy_2 rfl rfl (show zyR _ _ _ _ [some (.ref (16 + 3)), none, some (.int x2), some (.int x3), some (.int x4), some (.int x5), some (.int y0)] [.int x5, .int x3, .ref (16 + 3)] _ _ from ?_)
      refine zy_14 rfl (show zyR _ _ _ _ [some (.ref (16 + 3)), none, some (.int x2), some (.int x3), some (.int x4), some (.int x5), some (.int y0)] [.int (x3 ||| x5), .ref (16 + 3)] _ _ from ?_)
      obtain ⟨p1, hp1, h⟩ := zy_bind h
      refine zy_5 (c := 16) (as := [.int (x3 ||| x5)]) (rest := []) (L := [some (.ref (16 + 3)), some (.int (x3 ||| x5))]) (d' := 3) rfl rfl rfl (Nat.le_of_ble_eq_true rfl) (Nat.le_of_ble_eq_true rfl) rfl (Nat.le_of_ble_eq_true rfl) rfl rfl (zyC97 hp1) ?_
      show zyR _ _ _ _ [some (.ref (16 + 3)), none, some (.int x2), some (.int x3), some (.int x4), some (.int x5), some (.int y0)] [.int p1.1] _ _
      refine zy_24_0 rfl (fun b2 => (show zyR _ _ _ _ [some (.ref (16 + 3)), none, some (.int x2), some (.int x3), some (.int x4), some (.int x5), some (.int y0)] [] _ _ from ?_)) (fun b2 => (show zyR _ _ _ _ [some (.ref (16 + 3)), none, some (.int x2), some (.int x3), some (.int x4), some (.int x5), some (.int y0)] [] _ _ from ?_))
      · replace h := zy_ifp h b2
        exact zy_sub (show zy_le [some (.ref (16 + 3)), none, some (.int x2), some (.int x3), some (.int x4), some (.int x5), none] [some (.ref (16 + 3)), none, some (.int x2), some (.int x3), some (.int x4), some (.int x5), some (.int y0)] from ⟨rfl, ⟨rfl, ⟨rfl, ⟨rfl, ⟨rfl, trivial⟩⟩⟩⟩⟩) (zyC101_85 hk24 h)
      · replace h := zy_ifn h b2
        refine zy_2 rfl rfl (show zyR _ _ _ _ [some (.ref (16 + 3)), none, some (.int x2), some (.int x3), some (.int x4), some (.int x5), some (.int y0)] [.int x5] _ _ from ?_)
        refine zy_23 rfl rfl (show zyR _ _ _ _ [some (.ref (16 + 3)), none, some (.int x2), some (.int x3), some (.int x5), some (.int x5), some (.int y0)] [] _ _ from ?_)
        exact zy_sub (show zy_le [some (.ref (16 + 3)), none, some (.int x2), some (.int x3), some (.int x5), some (.int x5), none] [some (.ref (16 + 3)), none, some (.int x2), some (.int x3), some (.int x5), some (.int x5), some (.int y0)] from ⟨rfl, ⟨rfl, ⟨rfl, ⟨rfl, ⟨rfl, trivial⟩⟩⟩⟩⟩) (zyC101_85 hk24 h)
noncomputable def zyF101_49  (k24 : Int32 → Int32 → Int32 → Int32 → zy_S → Option (Int32 × zy_S)) (x2 : Int32) (x3 : Int32) (x4 : Int32) (x5 : Int32) (s : zy_S) : Option (Int32 × zy_S) :=
zyF101_54 k24 x2 x3 x4 x5 (1 : Int32) s
theorem zyC101_49 {X : zx_X}  {k24 : Int32 → Int32 → Int32 → Int32 → zy_S → Option (Int32 × zy_S)}  (hk24 : ∀ (x2 : Int32) (x3 : Int32) (x4 : Int32) (x5 : Int32) (s : zy_S) (r : Int32) (s' : zy_S), k24 x2 x3 x4 x5 s = some (r, s') → zyR X 4 101 24 [some (.ref (16 + 3)), none, some (.int x2), some (.int x3), some (.int x4), some (.int x5), none] [] s (zyE (some (.int r)) s')) {x2 : Int32} {x3 : Int32} {x4 : Int32} {x5 : Int32} {s : zy_S} {r : Int32} {s' : zy_S}  (h : zyF101_49 k24 x2 x3 x4 x5 s = some (r, s')) : zyR X 4 101 49 [some (.ref (16 + 3)), none, some (.int x2), some (.int x3), some (.int x4), some (.int x5), none] [] s (zyE (some (.int r)) s') := by
  unfold zyF101_49 at h
  refine zy_3 rfl rfl (show zyR _ _ _ _ [some (.ref (16 + 3)), none, some (.int x2), some (.int x3), some (.int x4), some (.int x5), none] [.int (1 : Int32)] _ _ from ?_)
  refine zy_6 rfl (show zyR _ _ _ _ [some (.ref (16 + 3)), none, some (.int x2), some (.int x3), some (.int x4), some (.int x5), none] [.int (1 : Int32)] _ _ from ?_)
  exact zy_sub (show zy_le [some (.ref (16 + 3)), none, some (.int x2), some (.int x3), some (.int x4), some (.int x5), none] [some (.ref (16 + 3)), none, some (.int x2), some (.int x3), some (.int x4), some (.int x5), none] from ⟨rfl, ⟨rfl, ⟨rfl, ⟨rfl, ⟨rfl, trivial⟩⟩⟩⟩⟩) (zyC101_54 hk24 h)
noncomputable def zyF101_24b  (k24 : Int32 → Int32 → Int32 → Int32 → zy_S → Option (Int32 × zy_S)) (x2 : Int32) (x3 : Int32) (x4 : Int32) (x5 : Int32) (s : zy_S) : Option (Int32 × zy_S) :=
if x2 < x5 then
some (x4, s)
else
if x4 = (-1 : Int32) then
zyF101_49 k24 x2 x3 x4 x5 s
else
(zyF63 x5 s).bind fun p5 =>
(zyF63 x4 p5.2).bind fun p6 =>
if p6.1 ≤ p5.1 then
zyF101_54 k24 x2 x3 x4 x5 (0 : Int32) p6.2
else
zyF101_49 k24 x2 x3 x4 x5 p6.2
theorem zyC101_24b {X : zx_X}  {k24 : Int32 → Int32 → Int32 → Int32 → zy_S → Option (Int32 × zy_S)}  (hk24 : ∀ (x2 : Int32) (x3 : Int32) (x4 : Int32) (x5 : Int32) (s : zy_S) (r : Int32) (s' : zy_S), k24 x2 x3 x4 x5 s = some (r, s') → zyR X 4 101 24 [some (.ref (16 + 3)), none, some (.int x2), some (.int x3), some (.int x4), some (.int x5), none] [] s (zyE (some (.int r)) s')) {x2 : Int32} {x3 : Int32} {x4 : Int32} {x5 : Int32} {s : zy_S} {r : Int32} {s' : zy_S}  (h : zyF101_24b k24 x2 x3 x4 x5 s = some (r, s')) : zyR X 4 101 24 [some (.ref (16 + 3)), none, some (.int x2), some (.int x3), some (.int x4), some (.int x5), none] [] s (zyE (some (.int r)) s') := by
  unfold zyF101_24b at h
  refine zy_2 rfl rfl (show zyR _ _ _ _ [some (.ref (16 + 3)), none, some (.int x2), some (.int x3), some (.int x4), some (.int x5), none] [.int x5] _ _ from ?_)
  refine zy_2 rfl rfl (show zyR _ _ _ _ [some (.ref (16 + 3)), none, some (.int x2), some (.int x3), some (.int x4), some (.int x5), none] [.int x2, .int x5] _ _ from ?_)
  refine zy_25_4 rfl (fun b9 => (show zyR _ _ _ _ [some (.ref (16 + 3)), none, some (.int x2), some (.int x3), some (.int x4), some (.int x5), none] [] _ _ from ?_)) (fun b9 => (show zyR _ _ _ _ [some (.ref (16 + 3)), none, some (.int x2), some (.int x3), some (.int x4), some (.int x5), none] [] _ _ from ?_))
  · replace h := zy_ifp h b9
    refine zy_2 rfl rfl (show zyR _ _ _ _ [some (.ref (16 + 3)), none, some (.int x2), some (.int x3), some (.int x4), some (.int x5), none] [.int x4] _ _ from ?_)
    obtain ⟨rfl, rfl⟩ := zy_pi h
    exact zy_4 rfl ⟨rfl, rfl⟩
  · replace h := zy_ifn h b9
    refine zy_2 rfl rfl (show zyR _ _ _ _ [some (.ref (16 + 3)), none, some (.int x2), some (.int x3), some (.int x4), some (.int x5), none] [.int x4] _ _ from ?_)
    refine zy_3 rfl rfl (show zyR _ _ _ _ [some (.ref (16 + 3)), none, some (.int x2), some (.int x3), some (.int x4), some (.int x5), none] [.int (-1 : Int32), .int x4] _ _ from ?_)
    refine zy_25_0 rfl (fun b8 => (show zyR _ _ _ _ [some (.ref (16 + 3)), none, some (.int x2), some (.int x3), some (.int x4), some (.int x5), none] [] _ _ from ?_)) (fun b8 => (show zyR _ _ _ _ [some (.ref (16 + 3)), none, some (.int x2), some (.int x3), some (.int x4), some (.int x5), none] [] _ _ from ?_))
    · replace h := zy_ifp h b8
      exact zy_sub (show zy_le [some (.ref (16 + 3)), none, some (.int x2), some (.int x3), some (.int x4), some (.int x5), none] [some (.ref (16 + 3)), none, some (.int x2), some (.int x3), some (.int x4), some (.int x5), none] from ⟨rfl, ⟨rfl, ⟨rfl, ⟨rfl, ⟨rfl, trivial⟩⟩⟩⟩⟩) (zyC101_49 hk24 h)
    · replace h := zy_ifn h b8
      refine zy_2 rfl rfl (show zyR _ _ _ _ [some (.ref (16 + 3)), none, some (.int x2), some (.int x3), some (.int x4), some (.int x5), none] [.int x5] _ _ from ?_)
      obtain ⟨p5, hp5, h⟩ := zy_bind h
      refine zy_60 (as := [.int x5]) (rest := []) (L := [some (.int x5)]) (d' := 1) rfl rfl (Nat.le_of_ble_eq_true rfl) (Nat.le_of_ble_eq_true rfl) rfl (Nat.le_of_ble_eq_true rfl) rfl rfl (zyC63 hp5) ?_
      show zyR _ _ _ _ [some (.ref (16 + 3)), none, some (.int x2), some (.int x3), some (.int x4), some (.int x5), none] [.int p5.1] _ _
      refine zy_2 rfl rfl (show zyR _ _ _ _ [some (.ref (16 + 3)), none, some (.int x2), some (.int x3), some (.int x4), some (.int x5), none] [.int x4, .int p5.1] _ _ from ?_)
      obtain ⟨p6, hp6, h⟩ := zy_bind h
      refine zy_60 (as := [.int x4]) (rest := [.int p5.1]) (L := [some (.int x4)]) (d' := 1) rfl rfl (Nat.le_of_ble_eq_true rfl) (Nat.le_of_ble_eq_true rfl) rfl (Nat.le_of_ble_eq_true rfl) rfl rfl (zyC63 hp6) ?_
      show zyR _ _ _ _ [some (.ref (16 + 3)), none, some (.int x2), some (.int x3), some (.int x4), some (.int x5), none] [.int p6.1, .int p5.1] _ _
      refine zy_25_3 rfl (fun b7 => (show zyR _ _ _ _ [some (.ref (16 + 3)), none, some (.int x2), some (.int x3), some (.int x4), some (.int x5), none] [] _ _ from ?_)) (fun b7 => (show zyR _ _ _ _ [some (.ref (16 + 3)), none, some (.int x2), some (.int x3), some (.int x4), some (.int x5), none] [] _ _ from ?_))
      · replace h := zy_ifp h b7
        refine zy_3 rfl rfl (show zyR _ _ _ _ [some (.ref (16 + 3)), none, some (.int x2), some (.int x3), some (.int x4), some (.int x5), none] [.int (0 : Int32)] _ _ from ?_)
        exact zy_sub (show zy_le [some (.ref (16 + 3)), none, some (.int x2), some (.int x3), some (.int x4), some (.int x5), none] [some (.ref (16 + 3)), none, some (.int x2), some (.int x3), some (.int x4), some (.int x5), none] from ⟨rfl, ⟨rfl, ⟨rfl, ⟨rfl, ⟨rfl, trivial⟩⟩⟩⟩⟩) (zyC101_54 hk24 h)
      · replace h := zy_ifn h b7
        exact zy_sub (show zy_le [some (.ref (16 + 3)), none, some (.int x2), some (.int x3), some (.int x4), some (.int x5), none] [some (.ref (16 + 3)), none, some (.int x2), some (.int x3), some (.int x4), some (.int x5), none] from ⟨rfl, ⟨rfl, ⟨rfl, ⟨rfl, ⟨rfl, trivial⟩⟩⟩⟩⟩) (zyC101_49 hk24 h)
noncomputable def zyF101_24   (n : Nat) : Int32 → Int32 → Int32 → Int32 → zy_S → Option (Int32 × zy_S) := Nat.rec (fun _ _ _ _ _ => none) (fun _ k24 => zyF101_24b k24) n
theorem zyC101_24 {X : zx_X}     : ∀ (n : Nat) (x2 : Int32) (x3 : Int32) (x4 : Int32) (x5 : Int32) (s : zy_S) (r : Int32) (s' : zy_S), zyF101_24 n x2 x3 x4 x5 s = some (r, s') → zyR X 4 101 24 [some (.ref (16 + 3)), none, some (.int x2), some (.int x3), some (.int x4), some (.int x5), none] [] s (zyE (some (.int r)) s')
  | 0, _, _, _, _ => by
    intro s r s'  h
    have h : (none : Option (Int32 × zy_S)) = some (r, s') := h
    cases h
  | n + 1, x2, x3, x4, x5 => by
    intro s r s'  h
    exact zyC101_24b (k24 := zyF101_24 n) (fun x2 x3 x4 x5 s r s'  h => zyC101_24  n x2 x3 x4 x5 s r s'  h) h
noncomputable def zyF101   (x1 : Int32) (s : zy_S) : Option (Int32 × zy_S) :=
(zyF95 x1 s).bind fun p10 =>
(zyF51 p10.2).bind fun p11 =>
zyF101_24 zy_fu p10.1 (p11.1 &&& (p10.1 ^^^ (-1 : Int32))) (-1 : Int32) (0 : Int32) p11.2
theorem zyC101 {X : zx_X}     {x1 : Int32} {s : zy_S} {r : Int32} {s' : zy_S}  (h : zyF101 x1 s = some (r, s')) : zyR X 4 101 0 [some (.ref (16 + 3)), some (.int x1), none, none, none, none, none] [] s (zyE (some (.int r)) s') := by
  unfold zyF101 at h
  refine zy_0 rfl rfl (show zyR _ _ _ _ [some (.ref (16 + 3)), some (.int x1), none, none, none, none, none] [.ref (16 + 3)] _ _ from ?_)
  refine zy_2 rfl rfl (show zyR _ _ _ _ [some (.ref (16 + 3)), some (.int x1), none, none, none, none, none] [.int x1, .ref (16 + 3)] _ _ from ?_)
  obtain ⟨p10, hp10, h⟩ := zy_bind h
  refine zy_5 (c := 16) (as := [.int x1]) (rest := []) (L := [some (.ref (16 + 3)), some (.int x1), none, none]) (d' := 3) rfl rfl rfl (Nat.le_of_ble_eq_true rfl) (Nat.le_of_ble_eq_true rfl) rfl (Nat.le_of_ble_eq_true rfl) rfl rfl (zyC95 hp10) ?_
  show zyR _ _ _ _ [some (.ref (16 + 3)), some (.int x1), none, none, none, none, none] [.int p10.1] _ _
  refine zy_23 rfl rfl (show zyR _ _ _ _ [some (.ref (16 + 3)), some (.int x1), some (.int p10.1), none, none, none, none] [] _ _ from ?_)
  refine zy_0 rfl rfl (show zyR _ _ _ _ [some (.ref (16 + 3)), some (.int x1), some (.int p10.1), none, none, none, none] [.ref (16 + 3)] _ _ from ?_)
  refine zy_1r (c := 16) rfl rfl rfl (show zyR _ _ _ _ [some (.ref (16 + 3)), some (.int x1), some (.int p10.1), none, none, none, none] [.ref (1 + 3)] _ _ from ?_)
  obtain ⟨p11, hp11, h⟩ := zy_bind h
  refine zy_5 (c := 1) (as := []) (rest := []) (L := [some (.ref (1 + 3))]) (d' := 1) rfl rfl rfl (Nat.le_of_ble_eq_true rfl) (Nat.le_of_ble_eq_true rfl) rfl (Nat.le_of_ble_eq_true rfl) rfl rfl (zyC51 hp11) ?_
  show zyR _ _ _ _ [some (.ref (16 + 3)), some (.int x1), some (.int p10.1), none, none, none, none] [.int p11.1] _ _
  refine zy_2 rfl rfl (show zyR _ _ _ _ [some (.ref (16 + 3)), some (.int x1), some (.int p10.1), none, none, none, none] [.int p10.1, .int p11.1] _ _ from ?_)
  refine zy_3 rfl rfl (show zyR _ _ _ _ [some (.ref (16 + 3)), some (.int x1), some (.int p10.1), none, none, none, none] [.int (-1 : Int32), .int p10.1, .int p11.1] _ _ from ?_)
  refine zy_15 rfl (show zyR _ _ _ _ [some (.ref (16 + 3)), some (.int x1), some (.int p10.1), none, none, none, none] [.int (p10.1 ^^^ (-1 : Int32)), .int p11.1] _ _ from ?_)
  refine zy_13 rfl (show zyR _ _ _ _ [some (.ref (16 + 3)), some (.int x1), some (.int p10.1), none, none, none, none] [.int (p11.1 &&& (p10.1 ^^^ (-1 : Int32)))] _ _ from ?_)
  refine zy_23 rfl rfl (show zyR _ _ _ _ [some (.ref (16 + 3)), some (.int x1), some (.int p10.1), some (.int (p11.1 &&& (p10.1 ^^^ (-1 : Int32)))), none, none, none] [] _ _ from ?_)
  refine zy_3 rfl rfl (show zyR _ _ _ _ [some (.ref (16 + 3)), some (.int x1), some (.int p10.1), some (.int (p11.1 &&& (p10.1 ^^^ (-1 : Int32)))), none, none, none] [.int (-1 : Int32)] _ _ from ?_)
  refine zy_23 rfl rfl (show zyR _ _ _ _ [some (.ref (16 + 3)), some (.int x1), some (.int p10.1), some (.int (p11.1 &&& (p10.1 ^^^ (-1 : Int32)))), some (.int (-1 : Int32)), none, none] [] _ _ from ?_)
  refine zy_3 rfl rfl (show zyR _ _ _ _ [some (.ref (16 + 3)), some (.int x1), some (.int p10.1), some (.int (p11.1 &&& (p10.1 ^^^ (-1 : Int32)))), some (.int (-1 : Int32)), none, none] [.int (0 : Int32)] _ _ from ?_)
  refine zy_23 rfl rfl (show zyR _ _ _ _ [some (.ref (16 + 3)), some (.int x1), some (.int p10.1), some (.int (p11.1 &&& (p10.1 ^^^ (-1 : Int32)))), some (.int (-1 : Int32)), some (.int (0 : Int32)), none] [] _ _ from ?_)
  exact zy_sub (show zy_le [some (.ref (16 + 3)), none, some (.int p10.1), some (.int (p11.1 &&& (p10.1 ^^^ (-1 : Int32)))), some (.int (-1 : Int32)), some (.int (0 : Int32)), none] [some (.ref (16 + 3)), some (.int x1), some (.int p10.1), some (.int (p11.1 &&& (p10.1 ^^^ (-1 : Int32)))), some (.int (-1 : Int32)), some (.int (0 : Int32)), none] from ⟨rfl, ⟨rfl, ⟨rfl, ⟨rfl, ⟨rfl, trivial⟩⟩⟩⟩⟩) (zyC101_24 zy_fu p10.1 (p11.1 &&& (p10.1 ^^^ (-1 : Int32))) (-1 : Int32) (0 : Int32) p11.2 _ _ h)
/-! NineOpinions.win(II)I -/
noncomputable def zyF100   (x1 : Int32) (x2 : Int32) (s : zy_S) : Option (Int32 × zy_S) :=
(zyF26 x1 s).bind fun p1 =>
if p1.1 = 0 then
some ((-1 : Int32), p1.2)
else
(zyF84 x2 p1.2).bind fun p2 =>
if p2.1 ≠ 0 then
(zyF101 x1 p2.2).bind fun p3 =>
if p3.1 ≠ (-1 : Int32) then
if x2 ≠ 0 then
some (p3.1, p3.2)
else
(zyF63 p3.1 p3.2).bind fun p4 =>
some (p4.1, p4.2)
else
some ((-2 : Int32), p3.2)
else
some ((-1 : Int32), p2.2)
theorem zyC100 {X : zx_X}     {x1 : Int32} {x2 : Int32} {s : zy_S} {r : Int32} {s' : zy_S}  (h : zyF100 x1 x2 s = some (r, s')) : zyR X 5 100 0 [some (.ref (0 + 3)), some (.int x1), some (.int x2), none] [] s (zyE (some (.int r)) s') := by
  unfold zyF100 at h
  refine zy_2 rfl rfl (show zyR _ _ _ _ [some (.ref (0 + 3)), some (.int x1), some (.int x2), none] [.int x1] _ _ from ?_)
  obtain ⟨p1, hp1, h⟩ := zy_bind h
  refine zy_60 (as := [.int x1]) (rest := []) (L := [some (.int x1)]) (d' := 1) rfl rfl (Nat.le_of_ble_eq_true rfl) (Nat.le_of_ble_eq_true rfl) rfl (Nat.le_of_ble_eq_true rfl) rfl rfl (zyC26 hp1) ?_
  show zyR _ _ _ _ [some (.ref (0 + 3)), some (.int x1), some (.int x2), none] [.int p1.1] _ _
  refine zy_24_0 rfl (fun b8 => (show zyR _ _ _ _ [some (.ref (0 + 3)), some (.int x1), some (.int x2), none] [] _ _ from ?_)) (fun b8 => (show zyR _ _ _ _ [some (.ref (0 + 3)), some (.int x1), some (.int x2), none] [] _ _ from ?_))
  · replace h := zy_ifp h b8
    refine zy_3 rfl rfl (show zyR _ _ _ _ [some (.ref (0 + 3)), some (.int x1), some (.int x2), none] [.int (-1 : Int32)] _ _ from ?_)
    obtain ⟨rfl, rfl⟩ := zy_pi h
    exact zy_4 rfl ⟨rfl, rfl⟩
  · replace h := zy_ifn h b8
    refine zy_2 rfl rfl (show zyR _ _ _ _ [some (.ref (0 + 3)), some (.int x1), some (.int x2), none] [.int x2] _ _ from ?_)
    obtain ⟨p2, hp2, h⟩ := zy_bind h
    refine zy_60 (as := [.int x2]) (rest := []) (L := [some (.int x2)]) (d' := 1) rfl rfl (Nat.le_of_ble_eq_true rfl) (Nat.le_of_ble_eq_true rfl) rfl (Nat.le_of_ble_eq_true rfl) rfl rfl (zyC84 hp2) ?_
    show zyR _ _ _ _ [some (.ref (0 + 3)), some (.int x1), some (.int x2), none] [.int p2.1] _ _
    refine zy_24_1 rfl (fun b7 => (show zyR _ _ _ _ [some (.ref (0 + 3)), some (.int x1), some (.int x2), none] [] _ _ from ?_)) (fun b7 => (show zyR _ _ _ _ [some (.ref (0 + 3)), some (.int x1), some (.int x2), none] [] _ _ from ?_))
    · replace h := zy_ifp h b7
      refine zy_0 rfl rfl (show zyR _ _ _ _ [some (.ref (0 + 3)), some (.int x1), some (.int x2), none] [.ref (0 + 3)] _ _ from ?_)
      refine zy_1r (c := 0) rfl rfl rfl (show zyR _ _ _ _ [some (.ref (0 + 3)), some (.int x1), some (.int x2), none] [.ref (16 + 3)] _ _ from ?_)
      refine zy_2 rfl rfl (show zyR _ _ _ _ [some (.ref (0 + 3)), some (.int x1), some (.int x2), none] [.int x1, .ref (16 + 3)] _ _ from ?_)
      obtain ⟨p3, hp3, h⟩ := zy_bind h
      refine zy_5 (c := 16) (as := [.int x1]) (rest := []) (L := [some (.ref (16 + 3)), some (.int x1), none, none, none, none, none]) (d' := 4) rfl rfl rfl (Nat.le_of_ble_eq_true rfl) (Nat.le_of_ble_eq_true rfl) rfl (Nat.le_of_ble_eq_true rfl) rfl rfl (zyC101 hp3) ?_
      show zyR _ _ _ _ [some (.ref (0 + 3)), some (.int x1), some (.int x2), none] [.int p3.1] _ _
      refine zy_23 rfl rfl (show zyR _ _ _ _ [some (.ref (0 + 3)), some (.int x1), some (.int x2), some (.int p3.1)] [] _ _ from ?_)
      refine zy_2 rfl rfl (show zyR _ _ _ _ [some (.ref (0 + 3)), some (.int x1), some (.int x2), some (.int p3.1)] [.int p3.1] _ _ from ?_)
      refine zy_3 rfl rfl (show zyR _ _ _ _ [some (.ref (0 + 3)), some (.int x1), some (.int x2), some (.int p3.1)] [.int (-1 : Int32), .int p3.1] _ _ from ?_)
      refine zy_25_1 rfl (fun b6 => (show zyR _ _ _ _ [some (.ref (0 + 3)), some (.int x1), some (.int x2), some (.int p3.1)] [] _ _ from ?_)) (fun b6 => (show zyR _ _ _ _ [some (.ref (0 + 3)), some (.int x1), some (.int x2), some (.int p3.1)] [] _ _ from ?_))
      · replace h := zy_ifp h b6
        refine zy_2 rfl rfl (show zyR _ _ _ _ [some (.ref (0 + 3)), some (.int x1), some (.int x2), some (.int p3.1)] [.int x2] _ _ from ?_)
        refine zy_24_1 rfl (fun b5 => (show zyR _ _ _ _ [some (.ref (0 + 3)), some (.int x1), some (.int x2), some (.int p3.1)] [] _ _ from ?_)) (fun b5 => (show zyR _ _ _ _ [some (.ref (0 + 3)), some (.int x1), some (.int x2), some (.int p3.1)] [] _ _ from ?_))
        · replace h := zy_ifp h b5
          refine zy_2 rfl rfl (show zyR _ _ _ _ [some (.ref (0 + 3)), some (.int x1), some (.int x2), some (.int p3.1)] [.int p3.1] _ _ from ?_)
          obtain ⟨rfl, rfl⟩ := zy_pi h
          exact zy_4 rfl ⟨rfl, rfl⟩
        · replace h := zy_ifn h b5
          refine zy_2 rfl rfl (show zyR _ _ _ _ [some (.ref (0 + 3)), some (.int x1), some (.int x2), some (.int p3.1)] [.int p3.1] _ _ from ?_)
          obtain ⟨p4, hp4, h⟩ := zy_bind h
          refine zy_60 (as := [.int p3.1]) (rest := []) (L := [some (.int p3.1)]) (d' := 1) rfl rfl (Nat.le_of_ble_eq_true rfl) (Nat.le_of_ble_eq_true rfl) rfl (Nat.le_of_ble_eq_true rfl) rfl rfl (zyC63 hp4) ?_
          show zyR _ _ _ _ [some (.ref (0 + 3)), some (.int x1), some (.int x2), some (.int p3.1)] [.int p4.1] _ _
          refine zy_6 rfl (show zyR _ _ _ _ [some (.ref (0 + 3)), some (.int x1), some (.int x2), some (.int p3.1)] [.int p4.1] _ _ from ?_)
          obtain ⟨rfl, rfl⟩ := zy_pi h
          exact zy_4 rfl ⟨rfl, rfl⟩
      · replace h := zy_ifn h b6
        refine zy_3 rfl rfl (show zyR _ _ _ _ [some (.ref (0 + 3)), some (.int x1), some (.int x2), some (.int p3.1)] [.int (-2 : Int32)] _ _ from ?_)
        obtain ⟨rfl, rfl⟩ := zy_pi h
        exact zy_4 rfl ⟨rfl, rfl⟩
    · replace h := zy_ifn h b7
      refine zy_3 rfl rfl (show zyR _ _ _ _ [some (.ref (0 + 3)), some (.int x1), some (.int x2), none] [.int (-1 : Int32)] _ _ from ?_)
      obtain ⟨rfl, rfl⟩ := zy_pi h
      exact zy_4 rfl ⟨rfl, rfl⟩
end
section
/-! PART 41.19: methods as functions. Made by wip/v4/dcp.py. -/
/-! NineOpinionsModel.win(II)I -/
noncomputable def zyF224_79  (k26 : Int32 → Int32 → Int32 → Int32 → zy_S → Option (Int32 × zy_S)) (x1 : Int32) (x2 : Int32) (x3 : Int32) (x4 : Int32) (s : zy_S) : Option (Int32 × zy_S) :=
k26 x1 x2 x3 (x4 + (1 : Int32)) s
theorem zyC224_79 {X : zx_X}  {k26 : Int32 → Int32 → Int32 → Int32 → zy_S → Option (Int32 × zy_S)}  (hk26 : ∀ (x1 : Int32) (x2 : Int32) (x3 : Int32) (x4 : Int32) (s : zy_S) (r : Int32) (s' : zy_S), k26 x1 x2 x3 x4 s = some (r, s') → zyR X 5 224 26 [some (.ref (43 + 3)), some (.int x1), some (.int x2), some (.int x3), some (.int x4)] [] s (zyE (some (.int r)) s')) {x1 : Int32} {x2 : Int32} {x3 : Int32} {x4 : Int32} {s : zy_S} {r : Int32} {s' : zy_S}  (h : zyF224_79 k26 x1 x2 x3 x4 s = some (r, s')) : zyR X 5 224 79 [some (.ref (43 + 3)), some (.int x1), some (.int x2), some (.int x3), some (.int x4)] [] s (zyE (some (.int r)) s') := by
  unfold zyF224_79 at h
  refine zy_22 rfl rfl rfl rfl (show zyR _ _ _ _ [some (.ref (43 + 3)), some (.int x1), some (.int x2), some (.int x3), some (.int (x4 + (1 : Int32)))] [] _ _ from ?_)
  refine zy_6 rfl (show zyR _ _ _ _ [some (.ref (43 + 3)), some (.int x1), some (.int x2), some (.int x3), some (.int (x4 + (1 : Int32)))] [] _ _ from ?_)
  exact zy_sub (show zy_le [some (.ref (43 + 3)), some (.int x1), some (.int x2), some (.int x3), some (.int (x4 + (1 : Int32)))] [some (.ref (43 + 3)), some (.int x1), some (.int x2), some (.int x3), some (.int (x4 + (1 : Int32)))] from ⟨rfl, ⟨rfl, ⟨rfl, ⟨rfl, ⟨rfl, trivial⟩⟩⟩⟩⟩) (hk26 x1 x2 x3 (x4 + (1 : Int32)) s _ _ h)
noncomputable def zyF224_66  (k26 : Int32 → Int32 → Int32 → Int32 → zy_S → Option (Int32 × zy_S)) (x1 : Int32) (x2 : Int32) (x3 : Int32) (x4 : Int32) (s : zy_S) : Option (Int32 × zy_S) :=
(zyF221 x1 x4 s).bind fun p1 =>
if p1.1 = 0 then
zyF224_79 k26 x1 x2 x3 x4 p1.2
else
zyF224_79 k26 x1 x2 x4 x4 p1.2
theorem zyC224_66 {X : zx_X}  {k26 : Int32 → Int32 → Int32 → Int32 → zy_S → Option (Int32 × zy_S)}  (hk26 : ∀ (x1 : Int32) (x2 : Int32) (x3 : Int32) (x4 : Int32) (s : zy_S) (r : Int32) (s' : zy_S), k26 x1 x2 x3 x4 s = some (r, s') → zyR X 5 224 26 [some (.ref (43 + 3)), some (.int x1), some (.int x2), some (.int x3), some (.int x4)] [] s (zyE (some (.int r)) s')) {x1 : Int32} {x2 : Int32} {x3 : Int32} {x4 : Int32} {s : zy_S} {r : Int32} {s' : zy_S}  (h : zyF224_66 k26 x1 x2 x3 x4 s = some (r, s')) : zyR X 5 224 66 [some (.ref (43 + 3)), some (.int x1), some (.int x2), some (.int x3), some (.int x4)] [] s (zyE (some (.int r)) s') := by
  unfold zyF224_66 at h
  refine zy_0 rfl rfl (show zyR _ _ _ _ [some (.ref (43 + 3)), some (.int x1), some (.int x2), some (.int x3), some (.int x4)] [.ref (43 + 3)] _ _ from ?_)
  refine zy_2 rfl rfl (show zyR _ _ _ _ [some (.ref (43 + 3)), some (.int x1), some (.int x2), some (.int x3), some (.int x4)] [.int x1, .ref (43 + 3)] _ _ from ?_)
  refine zy_2 rfl rfl (show zyR _ _ _ _ [some (.ref (43 + 3)), some (.int x1), some (.int x2), some (.int x3), some (.int x4)] [.int x4, .int x1, .ref (43 + 3)] _ _ from ?_)
  obtain ⟨p1, hp1, h⟩ := zy_bind h
  refine zy_5 (c := 43) (as := [.int x1, .int x4]) (rest := []) (L := [some (.ref (43 + 3)), some (.int x1), some (.int x4), none, none, none]) (d' := 4) rfl rfl rfl (Nat.le_of_ble_eq_true rfl) (Nat.le_of_ble_eq_true rfl) rfl (Nat.le_of_ble_eq_true rfl) rfl rfl (zyC221 hp1) ?_
  show zyR _ _ _ _ [some (.ref (43 + 3)), some (.int x1), some (.int x2), some (.int x3), some (.int x4)] [.int p1.1] _ _
  refine zy_24_0 rfl (fun b2 => (show zyR _ _ _ _ [some (.ref (43 + 3)), some (.int x1), some (.int x2), some (.int x3), some (.int x4)] [] _ _ from ?_)) (fun b2 => (show zyR _ _ _ _ [some (.ref (43 + 3)), some (.int x1), some (.int x2), some (.int x3), some (.int x4)] [] _ _ from ?_))
  · replace h := zy_ifp h b2
    exact zy_sub (show zy_le [some (.ref (43 + 3)), some (.int x1), some (.int x2), some (.int x3), some (.int x4)] [some (.ref (43 + 3)), some (.int x1), some (.int x2), some (.int x3), some (.int x4)] from ⟨rfl, ⟨rfl, ⟨rfl, ⟨rfl, ⟨rfl, trivial⟩⟩⟩⟩⟩) (zyC224_79 hk26 h)
  · replace h := zy_ifn h b2
    refine zy_2 rfl rfl (show zyR _ _ _ _ [some (.ref (43 + 3)), some (.int x1), some (.int x2), some (.int x3), some (.int x4)] [.int x4] _ _ from ?_)
    refine zy_23 rfl rfl (show zyR _ _ _ _ [some (.ref (43 + 3)), some (.int x1), some (.int x2), some (.int x4), some (.int x4)] [] _ _ from ?_)
    exact zy_sub (show zy_le [some (.ref (43 + 3)), some (.int x1), some (.int x2), some (.int x4), some (.int x4)] [some (.ref (43 + 3)), some (.int x1), some (.int x2), some (.int x4), some (.int x4)] from ⟨rfl, ⟨rfl, ⟨rfl, ⟨rfl, ⟨rfl, trivial⟩⟩⟩⟩⟩) (zyC224_79 hk26 h)
noncomputable def zyF224_26b  (k26 : Int32 → Int32 → Int32 → Int32 → zy_S → Option (Int32 × zy_S)) (x1 : Int32) (x2 : Int32) (x3 : Int32) (x4 : Int32) (s : zy_S) : Option (Int32 × zy_S) :=
if ((1 : Int32) <<< ((s.1 43 6) &&& 31)) ≤ x4 then
if x3 < 0 then
some (x3, s)
else
if x2 ≠ (1 : Int32) then
(zyF209 x3 s).bind fun p3 =>
some (p3.1, p3.2)
else
some (x3, s)
else
(zyF223 x1 s).bind fun p6 =>
if (x4 &&& (p6.1 ^^^ (-1 : Int32))) ≠ 0 then
zyF224_79 k26 x1 x2 x3 x4 p6.2
else
if x3 < 0 then
zyF224_66 k26 x1 x2 x3 x4 p6.2
else
(zyF209 x4 p6.2).bind fun p7 =>
(zyF209 x3 p7.2).bind fun p8 =>
if p8.1 ≤ p7.1 then
zyF224_79 k26 x1 x2 x3 x4 p8.2
else
zyF224_66 k26 x1 x2 x3 x4 p8.2
theorem zyC224_26b {X : zx_X}  {k26 : Int32 → Int32 → Int32 → Int32 → zy_S → Option (Int32 × zy_S)}  (hk26 : ∀ (x1 : Int32) (x2 : Int32) (x3 : Int32) (x4 : Int32) (s : zy_S) (r : Int32) (s' : zy_S), k26 x1 x2 x3 x4 s = some (r, s') → zyR X 5 224 26 [some (.ref (43 + 3)), some (.int x1), some (.int x2), some (.int x3), some (.int x4)] [] s (zyE (some (.int r)) s')) {x1 : Int32} {x2 : Int32} {x3 : Int32} {x4 : Int32} {s : zy_S} {r : Int32} {s' : zy_S}  (h : zyF224_26b k26 x1 x2 x3 x4 s = some (r, s')) : zyR X 5 224 26 [some (.ref (43 + 3)), some (.int x1), some (.int x2), some (.int x3), some (.int x4)] [] s (zyE (some (.int r)) s') := by
  unfold zyF224_26b at h
  refine zy_2 rfl rfl (show zyR _ _ _ _ [some (.ref (43 + 3)), some (.int x1), some (.int x2), some (.int x3), some (.int x4)] [.int x4] _ _ from ?_)
  refine zy_3 rfl rfl (show zyR _ _ _ _ [some (.ref (43 + 3)), some (.int x1), some (.int x2), some (.int x3), some (.int x4)] [.int (1 : Int32), .int x4] _ _ from ?_)
  refine zy_0 rfl rfl (show zyR _ _ _ _ [some (.ref (43 + 3)), some (.int x1), some (.int x2), some (.int x3), some (.int x4)] [.ref (43 + 3), .int (1 : Int32), .int x4] _ _ from ?_)
  refine zy_1 (c := 43) rfl rfl rfl (show zyR _ _ _ _ [some (.ref (43 + 3)), some (.int x1), some (.int x2), some (.int x3), some (.int x4)] [.int (s.1 43 6), .int (1 : Int32), .int x4] _ _ from ?_)
  refine zy_16 rfl (show zyR _ _ _ _ [some (.ref (43 + 3)), some (.int x1), some (.int x2), some (.int x3), some (.int x4)] [.int ((1 : Int32) <<< ((s.1 43 6) &&& 31)), .int x4] _ _ from ?_)
  refine zy_25_3 rfl (fun b12 => (show zyR _ _ _ _ [some (.ref (43 + 3)), some (.int x1), some (.int x2), some (.int x3), some (.int x4)] [] _ _ from ?_)) (fun b12 => (show zyR _ _ _ _ [some (.ref (43 + 3)), some (.int x1), some (.int x2), some (.int x3), some (.int x4)] [] _ _ from ?_))
  · replace h := zy_ifp h b12
    refine zy_2 rfl rfl (show zyR _ _ _ _ [some (.ref (43 + 3)), some (.int x1), some (.int x2), some (.int x3), some (.int x4)] [.int x3] _ _ from ?_)
    refine zy_24_2 rfl (fun b5 => (show zyR _ _ _ _ [some (.ref (43 + 3)), some (.int x1), some (.int x2), some (.int x3), some (.int x4)] [] _ _ from ?_)) (fun b5 => (show zyR _ _ _ _ [some (.ref (43 + 3)), some (.int x1), some (.int x2), some (.int x3), some (.int x4)] [] _ _ from ?_))
    · replace h := zy_ifp h b5
      refine zy_2 rfl rfl (show zyR _ _ _ _ [some (.ref (43 + 3)), some (.int x1), some (.int x2), some (.int x3), some (.int x4)] [.int x3] _ _ from ?_)
      refine zy_6 rfl (show zyR _ _ _ _ [some (.ref (43 + 3)), some (.int x1), some (.int x2), some (.int x3), some (.int x4)] [.int x3] _ _ from ?_)
      obtain ⟨rfl, rfl⟩ := zy_pi h
      exact zy_4 rfl ⟨rfl, rfl⟩
    · replace h := zy_ifn h b5
      refine zy_2 rfl rfl (show zyR _ _ _ _ [some (.ref (43 + 3)), some (.int x1), some (.int x2), some (.int x3), some (.int x4)] [.int x2] _ _ from ?_)
      refine zy_3 rfl rfl (show zyR _ _ _ _ [some (.ref (43 + 3)), some (.int x1), some (.int x2), some (.int x3), some (.int x4)] [.int (1 : Int32), .int x2] _ _ from ?_)
      refine zy_25_1 rfl (fun b4 => (show zyR _ _ _ _ [some (.ref (43 + 3)), some (.int x1), some (.int x2), some (.int x3), some (.int x4)] [] _ _ from ?_)) (fun b4 => (show zyR _ _ _ _ [some (.ref (43 + 3)), some (.int x1), some (.int x2), some (.int x3), some (.int x4)] [] _ _ from ?_))
      · replace h := zy_ifp h b4
        refine zy_2 rfl rfl (show zyR _ _ _ _ [some (.ref (43 + 3)), some (.int x1), some (.int x2), some (.int x3), some (.int x4)] [.int x3] _ _ from ?_)
        obtain ⟨p3, hp3, h⟩ := zy_bind h
        refine zy_60 (as := [.int x3]) (rest := []) (L := [some (.int x3), none, none]) (d' := 1) rfl rfl (Nat.le_of_ble_eq_true rfl) (Nat.le_of_ble_eq_true rfl) rfl (Nat.le_of_ble_eq_true rfl) rfl rfl (zyC209 hp3) ?_
        show zyR _ _ _ _ [some (.ref (43 + 3)), some (.int x1), some (.int x2), some (.int x3), some (.int x4)] [.int p3.1] _ _
        obtain ⟨rfl, rfl⟩ := zy_pi h
        exact zy_4 rfl ⟨rfl, rfl⟩
      · replace h := zy_ifn h b4
        refine zy_2 rfl rfl (show zyR _ _ _ _ [some (.ref (43 + 3)), some (.int x1), some (.int x2), some (.int x3), some (.int x4)] [.int x3] _ _ from ?_)
        refine zy_6 rfl (show zyR _ _ _ _ [some (.ref (43 + 3)), some (.int x1), some (.int x2), some (.int x3), some (.int x4)] [.int x3] _ _ from ?_)
        obtain ⟨rfl, rfl⟩ := zy_pi h
        exact zy_4 rfl ⟨rfl, rfl⟩
  · replace h := zy_ifn h b12
    refine zy_2 rfl rfl (show zyR _ _ _ _ [some (.ref (43 + 3)), some (.int x1), some (.int x2), some (.int x3), some (.int x4)] [.int x4] _ _ from ?_)
    refine zy_0 rfl rfl (show zyR _ _ _ _ [some (.ref (43 + 3)), some (.int x1), some (.int x2), some (.int x3), some (.int x4)] [.ref (43 + 3), .int x4] _ _ from ?_)
    refine zy_2 rfl rfl (show zyR _ _ _ _ [some (.ref (43 + 3)), some (.int x1), some (.int x2), some (.int x3), some (.int x4)] [.int x1, .ref (43 + 3), .int x4] _ _ from ?_)
    obtain ⟨p6, hp6, h⟩ := zy_bind h
    refine zy_5 (c := 43) (as := [.int x1]) (rest := [.int x4]) (L := [some (.ref (43 + 3)), some (.int x1), none, none]) (d' := 4) rfl rfl rfl (Nat.le_of_ble_eq_true rfl) (Nat.le_of_ble_eq_true rfl) rfl (Nat.le_of_ble_eq_true rfl) rfl rfl (zyC223 hp6) ?_
    show zyR _ _ _ _ [some (.ref (43 + 3)), some (.int x1), some (.int x2), some (.int x3), some (.int x4)] [.int p6.1, .int x4] _ _
    refine zy_3 rfl rfl (show zyR _ _ _ _ [some (.ref (43 + 3)), some (.int x1), some (.int x2), some (.int x3), some (.int x4)] [.int (-1 : Int32), .int p6.1, .int x4] _ _ from ?_)
    refine zy_15 rfl (show zyR _ _ _ _ [some (.ref (43 + 3)), some (.int x1), some (.int x2), some (.int x3), some (.int x4)] [.int (p6.1 ^^^ (-1 : Int32)), .int x4] _ _ from ?_)
    refine zy_13 rfl (show zyR _ _ _ _ [some (.ref (43 + 3)), some (.int x1), some (.int x2), some (.int x3), some (.int x4)] [.int (x4 &&& (p6.1 ^^^ (-1 : Int32)))] _ _ from ?_)
    refine zy_24_1 rfl (fun b11 => (show zyR _ _ _ _ [some (.ref (43 + 3)), some (.int x1), some (.int x2), some (.int x3), some (.int x4)] [] _ _ from ?_)) (fun b11 => (show zyR _ _ _ _ [some (.ref (43 + 3)), some (.int x1), some (.int x2), some (.int x3), some (.int x4)] [] _ _ from ?_))
    · replace h := zy_ifp h b11
      exact zy_sub (show zy_le [some (.ref (43 + 3)), some (.int x1), some (.int x2), some (.int x3), some (.int x4)] [some (.ref (43 + 3)), some (.int x1), some (.int x2), some (.int x3), some (.int x4)] from ⟨rfl, ⟨rfl, ⟨rfl, ⟨rfl, ⟨rfl, trivial⟩⟩⟩⟩⟩) (zyC224_79 hk26 h)
    · replace h := zy_ifn h b11
      refine zy_2 rfl rfl (show zyR _ _ _ _ [some (.ref (43 + 3)), some (.int x1), some (.int x2), some (.int x3), some (.int x4)] [.int x3] _ _ from ?_)
      refine zy_24_2 rfl (fun b10 => (show zyR _ _ _ _ [some (.ref (43 + 3)), some (.int x1), some (.int x2), some (.int x3), some (.int x4)] [] _ _ from ?_)) (fun b10 => (show zyR _ _ _ _ [some (.ref (43 + 3)), some (.int x1), some (.int x2), some (.int x3), some (.int x4)] [] _ _ from ?_))
      · replace h := zy_ifp h b10
        exact zy_sub (show zy_le [some (.ref (43 + 3)), some (.int x1), some (.int x2), some (.int x3), some (.int x4)] [some (.ref (43 + 3)), some (.int x1), some (.int x2), some (.int x3), some (.int x4)] from ⟨rfl, ⟨rfl, ⟨rfl, ⟨rfl, ⟨rfl, trivial⟩⟩⟩⟩⟩) (zyC224_66 hk26 h)
      · replace h := zy_ifn h b10
        refine zy_2 rfl rfl (show zyR _ _ _ _ [some (.ref (43 + 3)), some (.int x1), some (.int x2), some (.int x3), some (.int x4)] [.int x4] _ _ from ?_)
        obtain ⟨p7, hp7, h⟩ := zy_bind h
        refine zy_60 (as := [.int x4]) (rest := []) (L := [some (.int x4), none, none]) (d' := 1) rfl rfl (Nat.le_of_ble_eq_true rfl) (Nat.le_of_ble_eq_true rfl) rfl (Nat.le_of_ble_eq_true rfl) rfl rfl (zyC209 hp7) ?_
        show zyR _ _ _ _ [some (.ref (43 + 3)), some (.int x1), some (.int x2), some (.int x3), some (.int x4)] [.int p7.1] _ _
        refine zy_2 rfl rfl (show zyR _ _ _ _ [some (.ref (43 + 3)), some (.int x1), some (.int x2), some (.int x3), some (.int x4)] [.int x3, .int p7.1] _ _ from ?_)
        obtain ⟨p8, hp8, h⟩ := zy_bind h
        refine zy_60 (as := [.int x3]) (rest := [.int p7.1]) (L := [some (.int x3), none, none]) (d' := 1) rfl rfl (Nat.le_of_ble_eq_true rfl) (Nat.le_of_ble_eq_true rfl) rfl (Nat.le_of_ble_eq_true rfl) rfl rfl (zyC209 hp8) ?_
        show zyR _ _ _ _ [some (.ref (43 + 3)), some (.int x1), some (.int x2), some (.int x3), some (.int x4)] [.int p8.1, .int p7.1] _ _
        refine zy_25_3 rfl (fun b9 => (show zyR _ _ _ _ [some (.ref (43 + 3)), some (.int x1), some (.int x2), some (.int x3), some (.int x4)] [] _ _ from ?_)) (fun b9 => (show zyR _ _ _ _ [some (.ref (43 + 3)), some (.int x1), some (.int x2), some (.int x3), some (.int x4)] [] _ _ from ?_))
        · replace h := zy_ifp h b9
          exact zy_sub (show zy_le [some (.ref (43 + 3)), some (.int x1), some (.int x2), some (.int x3), some (.int x4)] [some (.ref (43 + 3)), some (.int x1), some (.int x2), some (.int x3), some (.int x4)] from ⟨rfl, ⟨rfl, ⟨rfl, ⟨rfl, ⟨rfl, trivial⟩⟩⟩⟩⟩) (zyC224_79 hk26 h)
        · replace h := zy_ifn h b9
          exact zy_sub (show zy_le [some (.ref (43 + 3)), some (.int x1), some (.int x2), some (.int x3), some (.int x4)] [some (.ref (43 + 3)), some (.int x1), some (.int x2), some (.int x3), some (.int x4)] from ⟨rfl, ⟨rfl, ⟨rfl, ⟨rfl, ⟨rfl, trivial⟩⟩⟩⟩⟩) (zyC224_66 hk26 h)
noncomputable def zyF224_26   (n : Nat) : Int32 → Int32 → Int32 → Int32 → zy_S → Option (Int32 × zy_S) := Nat.rec (fun _ _ _ _ _ => none) (fun _ k26 => zyF224_26b k26) n
theorem zyC224_26 {X : zx_X}     : ∀ (n : Nat) (x1 : Int32) (x2 : Int32) (x3 : Int32) (x4 : Int32) (s : zy_S) (r : Int32) (s' : zy_S), zyF224_26 n x1 x2 x3 x4 s = some (r, s') → zyR X 5 224 26 [some (.ref (43 + 3)), some (.int x1), some (.int x2), some (.int x3), some (.int x4)] [] s (zyE (some (.int r)) s')
  | 0, _, _, _, _ => by
    intro s r s'  h
    have h : (none : Option (Int32 × zy_S)) = some (r, s') := h
    cases h
  | n + 1, x1, x2, x3, x4 => by
    intro s r s'  h
    exact zyC224_26b (k26 := zyF224_26 n) (fun x1 x2 x3 x4 s r s'  h => zyC224_26  n x1 x2 x3 x4 s r s'  h) h
noncomputable def zyF224   (x1 : Int32) (x2 : Int32) (s : zy_S) : Option (Int32 × zy_S) :=
(zyF186 (x1).toInt64 s).bind fun p13 =>
if p13.1 = 0 then
some ((-1 : Int32), p13.2)
else
(zyF179 (x2).toInt64 (0 : Int64) (1 : Int64) p13.2).bind fun p14 =>
if p14.1 ≠ 0 then
zyF224_26 zy_fu x1 x2 (-2 : Int32) (0 : Int32) p14.2
else
some ((-1 : Int32), p14.2)
theorem zyC224 {X : zx_X}     {x1 : Int32} {x2 : Int32} {s : zy_S} {r : Int32} {s' : zy_S}  (h : zyF224 x1 x2 s = some (r, s')) : zyR X 5 224 0 [some (.ref (43 + 3)), some (.int x1), some (.int x2), none, none] [] s (zyE (some (.int r)) s') := by
  unfold zyF224 at h
  refine zy_2 rfl rfl (show zyR _ _ _ _ [some (.ref (43 + 3)), some (.int x1), some (.int x2), none, none] [.int x1] _ _ from ?_)
  refine zy_40 rfl (show zyR _ _ _ _ [some (.ref (43 + 3)), some (.int x1), some (.int x2), none, none] [.long (x1).toInt64] _ _ from ?_)
  obtain ⟨p13, hp13, h⟩ := zy_bind h
  refine zy_60 (as := [.long (x1).toInt64]) (rest := []) (L := [some (.long (x1).toInt64), none]) (d' := 2) rfl rfl (Nat.le_of_ble_eq_true rfl) (Nat.le_of_ble_eq_true rfl) rfl (Nat.le_of_ble_eq_true rfl) rfl rfl (zyC186 hp13) ?_
  show zyR _ _ _ _ [some (.ref (43 + 3)), some (.int x1), some (.int x2), none, none] [.int p13.1] _ _
  refine zy_24_0 rfl (fun b16 => (show zyR _ _ _ _ [some (.ref (43 + 3)), some (.int x1), some (.int x2), none, none] [] _ _ from ?_)) (fun b16 => (show zyR _ _ _ _ [some (.ref (43 + 3)), some (.int x1), some (.int x2), none, none] [] _ _ from ?_))
  · replace h := zy_ifp h b16
    refine zy_3 rfl rfl (show zyR _ _ _ _ [some (.ref (43 + 3)), some (.int x1), some (.int x2), none, none] [.int (-1 : Int32)] _ _ from ?_)
    obtain ⟨rfl, rfl⟩ := zy_pi h
    exact zy_4 rfl ⟨rfl, rfl⟩
  · replace h := zy_ifn h b16
    refine zy_2 rfl rfl (show zyR _ _ _ _ [some (.ref (43 + 3)), some (.int x1), some (.int x2), none, none] [.int x2] _ _ from ?_)
    refine zy_40 rfl (show zyR _ _ _ _ [some (.ref (43 + 3)), some (.int x1), some (.int x2), none, none] [.long (x2).toInt64] _ _ from ?_)
    refine zy_36 rfl rfl (show zyR _ _ _ _ [some (.ref (43 + 3)), some (.int x1), some (.int x2), none, none] [.long (0 : Int64), .long (x2).toInt64] _ _ from ?_)
    refine zy_36 rfl rfl (show zyR _ _ _ _ [some (.ref (43 + 3)), some (.int x1), some (.int x2), none, none] [.long (1 : Int64), .long (0 : Int64), .long (x2).toInt64] _ _ from ?_)
    obtain ⟨p14, hp14, h⟩ := zy_bind h
    refine zy_60 (as := [.long (x2).toInt64, .long (0 : Int64), .long (1 : Int64)]) (rest := []) (L := [some (.long (x2).toInt64), none, some (.long (0 : Int64)), none, some (.long (1 : Int64)), none]) (d' := 1) rfl rfl (Nat.le_of_ble_eq_true rfl) (Nat.le_of_ble_eq_true rfl) rfl (Nat.le_of_ble_eq_true rfl) rfl rfl (zyC179 hp14) ?_
    show zyR _ _ _ _ [some (.ref (43 + 3)), some (.int x1), some (.int x2), none, none] [.int p14.1] _ _
    refine zy_24_1 rfl (fun b15 => (show zyR _ _ _ _ [some (.ref (43 + 3)), some (.int x1), some (.int x2), none, none] [] _ _ from ?_)) (fun b15 => (show zyR _ _ _ _ [some (.ref (43 + 3)), some (.int x1), some (.int x2), none, none] [] _ _ from ?_))
    · replace h := zy_ifp h b15
      refine zy_3 rfl rfl (show zyR _ _ _ _ [some (.ref (43 + 3)), some (.int x1), some (.int x2), none, none] [.int (-2 : Int32)] _ _ from ?_)
      refine zy_23 rfl rfl (show zyR _ _ _ _ [some (.ref (43 + 3)), some (.int x1), some (.int x2), some (.int (-2 : Int32)), none] [] _ _ from ?_)
      refine zy_3 rfl rfl (show zyR _ _ _ _ [some (.ref (43 + 3)), some (.int x1), some (.int x2), some (.int (-2 : Int32)), none] [.int (0 : Int32)] _ _ from ?_)
      refine zy_23 rfl rfl (show zyR _ _ _ _ [some (.ref (43 + 3)), some (.int x1), some (.int x2), some (.int (-2 : Int32)), some (.int (0 : Int32))] [] _ _ from ?_)
      exact zy_sub (show zy_le [some (.ref (43 + 3)), some (.int x1), some (.int x2), some (.int (-2 : Int32)), some (.int (0 : Int32))] [some (.ref (43 + 3)), some (.int x1), some (.int x2), some (.int (-2 : Int32)), some (.int (0 : Int32))] from ⟨rfl, ⟨rfl, ⟨rfl, ⟨rfl, ⟨rfl, trivial⟩⟩⟩⟩⟩) (zyC224_26 zy_fu x1 x2 (-2 : Int32) (0 : Int32) p14.2 _ _ h)
    · replace h := zy_ifn h b15
      refine zy_3 rfl rfl (show zyR _ _ _ _ [some (.ref (43 + 3)), some (.int x1), some (.int x2), none, none] [.int (-1 : Int32)] _ _ from ?_)
      obtain ⟨rfl, rfl⟩ := zy_pi h
      exact zy_4 rfl ⟨rfl, rfl⟩
/-! NineOpinions$Book.fits(LNineOpinions$Shelf;II)Z -/
noncomputable def zyF114_67  (k5 : Nat → Int32 → Int32 → Int32 → Int32 → zy_S → Option (Int32 × zy_S)) (x0 : Nat) (x1 : Int32) (x2 : Int32) (x4 : Int32) (y0 : Int32) (s : zy_S) : Option (Int32 × zy_S) :=
k5 x0 x1 x2 y0 (x4 + (1 : Int32)) s
theorem zyC114_67 {X : zx_X}  {k5 : Nat → Int32 → Int32 → Int32 → Int32 → zy_S → Option (Int32 × zy_S)}  (hk5 : ∀ (x0 : Nat) (x1 : Int32) (x2 : Int32) (x3 : Int32) (x4 : Int32) (s : zy_S) (r : Int32) (s' : zy_S) (hs_x0 : zy_isSh x0), k5 x0 x1 x2 x3 x4 s = some (r, s') → zyR X 4 114 5 [some (.ref (x0 + 3)), some (.int x1), some (.int x2), some (.int x3), some (.int x4), none, none] [] s (zyE (some (.int r)) s')) {x0 : Nat} {x1 : Int32} {x2 : Int32} {x4 : Int32} {y0 : Int32} {s : zy_S} {r : Int32} {s' : zy_S} (hs_x0 : zy_isSh x0) (h : zyF114_67 k5 x0 x1 x2 x4 y0 s = some (r, s')) : zyR X 4 114 67 [some (.ref (x0 + 3)), some (.int x1), some (.int x2), none, some (.int x4), none, none] [.int y0] s (zyE (some (.int r)) s') := by
  unfold zyF114_67 at h
  refine zy_23 rfl rfl (show zyR _ _ _ _ [some (.ref (x0 + 3)), some (.int x1), some (.int x2), some (.int y0), some (.int x4), none, none] [] _ _ from ?_)
  refine zy_22 rfl rfl rfl rfl (show zyR _ _ _ _ [some (.ref (x0 + 3)), some (.int x1), some (.int x2), some (.int y0), some (.int (x4 + (1 : Int32))), none, none] [] _ _ from ?_)
  refine zy_6 rfl (show zyR _ _ _ _ [some (.ref (x0 + 3)), some (.int x1), some (.int x2), some (.int y0), some (.int (x4 + (1 : Int32))), none, none] [] _ _ from ?_)
  exact zy_sub (show zy_le [some (.ref (x0 + 3)), some (.int x1), some (.int x2), some (.int y0), some (.int (x4 + (1 : Int32))), none, none] [some (.ref (x0 + 3)), some (.int x1), some (.int x2), some (.int y0), some (.int (x4 + (1 : Int32))), none, none] from ⟨rfl, ⟨rfl, ⟨rfl, ⟨rfl, ⟨rfl, trivial⟩⟩⟩⟩⟩) (hk5 x0 x1 x2 y0 (x4 + (1 : Int32)) s _ _ hs_x0 h)
noncomputable def zyF114_66  (k5 : Nat → Int32 → Int32 → Int32 → Int32 → zy_S → Option (Int32 × zy_S)) (x0 : Nat) (x1 : Int32) (x2 : Int32) (x4 : Int32) (s : zy_S) : Option (Int32 × zy_S) :=
zyF114_67 k5 x0 x1 x2 x4 (0 : Int32) s
theorem zyC114_66 {X : zx_X}  {k5 : Nat → Int32 → Int32 → Int32 → Int32 → zy_S → Option (Int32 × zy_S)}  (hk5 : ∀ (x0 : Nat) (x1 : Int32) (x2 : Int32) (x3 : Int32) (x4 : Int32) (s : zy_S) (r : Int32) (s' : zy_S) (hs_x0 : zy_isSh x0), k5 x0 x1 x2 x3 x4 s = some (r, s') → zyR X 4 114 5 [some (.ref (x0 + 3)), some (.int x1), some (.int x2), some (.int x3), some (.int x4), none, none] [] s (zyE (some (.int r)) s')) {x0 : Nat} {x1 : Int32} {x2 : Int32} {x4 : Int32} {s : zy_S} {r : Int32} {s' : zy_S} (hs_x0 : zy_isSh x0) (h : zyF114_66 k5 x0 x1 x2 x4 s = some (r, s')) : zyR X 4 114 66 [some (.ref (x0 + 3)), some (.int x1), some (.int x2), none, some (.int x4), none, none] [] s (zyE (some (.int r)) s') := by
  unfold zyF114_66 at h
  refine zy_3 rfl rfl (show zyR _ _ _ _ [some (.ref (x0 + 3)), some (.int x1), some (.int x2), none, some (.int x4), none, none] [.int (0 : Int32)] _ _ from ?_)
  exact zy_sub (show zy_le [some (.ref (x0 + 3)), some (.int x1), some (.int x2), none, some (.int x4), none, none] [some (.ref (x0 + 3)), some (.int x1), some (.int x2), none, some (.int x4), none, none] from ⟨rfl, ⟨rfl, ⟨rfl, ⟨rfl, trivial⟩⟩⟩⟩) (zyC114_67 hk5 hs_x0 h)
noncomputable def zyF114_62  (k5 : Nat → Int32 → Int32 → Int32 → Int32 → zy_S → Option (Int32 × zy_S)) (x0 : Nat) (x1 : Int32) (x2 : Int32) (x4 : Int32) (s : zy_S) : Option (Int32 × zy_S) :=
zyF114_67 k5 x0 x1 x2 x4 (1 : Int32) s
theorem zyC114_62 {X : zx_X}  {k5 : Nat → Int32 → Int32 → Int32 → Int32 → zy_S → Option (Int32 × zy_S)}  (hk5 : ∀ (x0 : Nat) (x1 : Int32) (x2 : Int32) (x3 : Int32) (x4 : Int32) (s : zy_S) (r : Int32) (s' : zy_S) (hs_x0 : zy_isSh x0), k5 x0 x1 x2 x3 x4 s = some (r, s') → zyR X 4 114 5 [some (.ref (x0 + 3)), some (.int x1), some (.int x2), some (.int x3), some (.int x4), none, none] [] s (zyE (some (.int r)) s')) {x0 : Nat} {x1 : Int32} {x2 : Int32} {x4 : Int32} {s : zy_S} {r : Int32} {s' : zy_S} (hs_x0 : zy_isSh x0) (h : zyF114_62 k5 x0 x1 x2 x4 s = some (r, s')) : zyR X 4 114 62 [some (.ref (x0 + 3)), some (.int x1), some (.int x2), none, some (.int x4), none, none] [] s (zyE (some (.int r)) s') := by
  unfold zyF114_62 at h
  refine zy_3 rfl rfl (show zyR _ _ _ _ [some (.ref (x0 + 3)), some (.int x1), some (.int x2), none, some (.int x4), none, none] [.int (1 : Int32)] _ _ from ?_)
  refine zy_6 rfl (show zyR _ _ _ _ [some (.ref (x0 + 3)), some (.int x1), some (.int x2), none, some (.int x4), none, none] [.int (1 : Int32)] _ _ from ?_)
  exact zy_sub (show zy_le [some (.ref (x0 + 3)), some (.int x1), some (.int x2), none, some (.int x4), none, none] [some (.ref (x0 + 3)), some (.int x1), some (.int x2), none, some (.int x4), none, none] from ⟨rfl, ⟨rfl, ⟨rfl, ⟨rfl, trivial⟩⟩⟩⟩) (zyC114_67 hk5 hs_x0 h)
noncomputable def zyF114_41  (k5 : Nat → Int32 → Int32 → Int32 → Int32 → zy_S → Option (Int32 × zy_S)) (x0 : Nat) (x1 : Int32) (x2 : Int32) (x3 : Int32) (x4 : Int32) (y0 : Int32) (s : zy_S) : Option (Int32 × zy_S) :=
if x3 = 0 then
zyF114_66 k5 x0 x1 x2 x4 s
else
if y0 = 0 then
zyF114_62 k5 x0 x1 x2 x4 s
else
(zyF111 x0 x4 x2 s).bind fun p1 =>
if p1.1 = 0 then
zyF114_66 k5 x0 x1 x2 x4 p1.2
else
zyF114_62 k5 x0 x1 x2 x4 p1.2
theorem zyC114_41 {X : zx_X}  {k5 : Nat → Int32 → Int32 → Int32 → Int32 → zy_S → Option (Int32 × zy_S)}  (hk5 : ∀ (x0 : Nat) (x1 : Int32) (x2 : Int32) (x3 : Int32) (x4 : Int32) (s : zy_S) (r : Int32) (s' : zy_S) (hs_x0 : zy_isSh x0), k5 x0 x1 x2 x3 x4 s = some (r, s') → zyR X 4 114 5 [some (.ref (x0 + 3)), some (.int x1), some (.int x2), some (.int x3), some (.int x4), none, none] [] s (zyE (some (.int r)) s')) {x0 : Nat} {x1 : Int32} {x2 : Int32} {x3 : Int32} {x4 : Int32} {y0 : Int32} {s : zy_S} {r : Int32} {s' : zy_S} (hs_x0 : zy_isSh x0) (h : zyF114_41 k5 x0 x1 x2 x3 x4 y0 s = some (r, s')) : zyR X 4 114 41 [some (.ref (x0 + 3)), some (.int x1), some (.int x2), some (.int x3), some (.int x4), none, none] [.int y0] s (zyE (some (.int r)) s') := by
  unfold zyF114_41 at h
  refine zy_23 rfl rfl (show zyR _ _ _ _ [some (.ref (x0 + 3)), some (.int x1), some (.int x2), some (.int x3), some (.int x4), none, some (.int y0)] [] _ _ from ?_)
  refine zy_2 rfl rfl (show zyR _ _ _ _ [some (.ref (x0 + 3)), some (.int x1), some (.int x2), some (.int x3), some (.int x4), none, some (.int y0)] [.int x3] _ _ from ?_)
  refine zy_24_0 rfl (fun b4 => (show zyR _ _ _ _ [some (.ref (x0 + 3)), some (.int x1), some (.int x2), some (.int x3), some (.int x4), none, some (.int y0)] [] _ _ from ?_)) (fun b4 => (show zyR _ _ _ _ [some (.ref (x0 + 3)), some (.int x1), some (.int x2), some (.int x3), some (.int x4), none, some (.int y0)] [] _ _ from ?_))
  · replace h := zy_ifp h b4
    exact zy_sub (show zy_le [some (.ref (x0 + 3)), some (.int x1), some (.int x2), none, some (.int x4), none, none] [some (.ref (x0 + 3)), some (.int x1), some (.int x2), some (.int x3), some (.int x4), none, some (.int y0)] from ⟨rfl, ⟨rfl, ⟨rfl, ⟨rfl, trivial⟩⟩⟩⟩) (zyC114_66 hk5 hs_x0 h)
  · replace h := zy_ifn h b4
    refine zy_2 rfl rfl (show zyR _ _ _ _ [some (.ref (x0 + 3)), some (.int x1), some (.int x2), some (.int x3), some (.int x4), none, some (.int y0)] [.int y0] _ _ from ?_)
    refine zy_24_0 rfl (fun b3 => (show zyR _ _ _ _ [some (.ref (x0 + 3)), some (.int x1), some (.int x2), some (.int x3), some (.int x4), none, some (.int y0)] [] _ _ from ?_)) (fun b3 => (show zyR _ _ _ _ [some (.ref (x0 + 3)), some (.int x1), some (.int x2), some (.int x3), some (.int x4), none, some (.int y0)] [] _ _ from ?_))
    · replace h := zy_ifp h b3
      exact zy_sub (show zy_le [some (.ref (x0 + 3)), some (.int x1), some (.int x2), none, some (.int x4), none, none] [some (.ref (x0 + 3)), some (.int x1), some (.int x2), some (.int x3), some (.int x4), none, some (.int y0)] from ⟨rfl, ⟨rfl, ⟨rfl, ⟨rfl, trivial⟩⟩⟩⟩) (zyC114_62 hk5 hs_x0 h)
    · replace h := zy_ifn h b3
      refine zy_0 rfl rfl (show zyR _ _ _ _ [some (.ref (x0 + 3)), some (.int x1), some (.int x2), some (.int x3), some (.int x4), none, some (.int y0)] [.ref (x0 + 3)] _ _ from ?_)
      refine zy_2 rfl rfl (show zyR _ _ _ _ [some (.ref (x0 + 3)), some (.int x1), some (.int x2), some (.int x3), some (.int x4), none, some (.int y0)] [.int x4, .ref (x0 + 3)] _ _ from ?_)
      refine zy_2 rfl rfl (show zyR _ _ _ _ [some (.ref (x0 + 3)), some (.int x1), some (.int x2), some (.int x3), some (.int x4), none, some (.int y0)] [.int x2, .int x4, .ref (x0 + 3)] _ _ from ?_)
      obtain ⟨p1, hp1, h⟩ := zy_bind h
      refine zy_60 (as := [.ref (x0 + 3), .int x4, .int x2]) (rest := []) (L := [some (.ref (x0 + 3)), some (.int x4), some (.int x2), none]) (d' := 3) rfl rfl (Nat.le_of_ble_eq_true rfl) (Nat.le_of_ble_eq_true rfl) rfl (Nat.le_of_ble_eq_true rfl) rfl rfl (zyC111 hs_x0 hp1) ?_
      show zyR _ _ _ _ [some (.ref (x0 + 3)), some (.int x1), some (.int x2), some (.int x3), some (.int x4), none, some (.int y0)] [.int p1.1] _ _
      refine zy_24_0 rfl (fun b2 => (show zyR _ _ _ _ [some (.ref (x0 + 3)), some (.int x1), some (.int x2), some (.int x3), some (.int x4), none, some (.int y0)] [] _ _ from ?_)) (fun b2 => (show zyR _ _ _ _ [some (.ref (x0 + 3)), some (.int x1), some (.int x2), some (.int x3), some (.int x4), none, some (.int y0)] [] _ _ from ?_))
      · replace h := zy_ifp h b2
        exact zy_sub (show zy_le [some (.ref (x0 + 3)), some (.int x1), some (.int x2), none, some (.int x4), none, none] [some (.ref (x0 + 3)), some (.int x1), some (.int x2), some (.int x3), some (.int x4), none, some (.int y0)] from ⟨rfl, ⟨rfl, ⟨rfl, ⟨rfl, trivial⟩⟩⟩⟩) (zyC114_66 hk5 hs_x0 h)
      · replace h := zy_ifn h b2
        exact zy_sub (show zy_le [some (.ref (x0 + 3)), some (.int x1), some (.int x2), none, some (.int x4), none, none] [some (.ref (x0 + 3)), some (.int x1), some (.int x2), some (.int x3), some (.int x4), none, some (.int y0)] from ⟨rfl, ⟨rfl, ⟨rfl, ⟨rfl, trivial⟩⟩⟩⟩) (zyC114_62 hk5 hs_x0 h)
noncomputable def zyF114_40  (k5 : Nat → Int32 → Int32 → Int32 → Int32 → zy_S → Option (Int32 × zy_S)) (x0 : Nat) (x1 : Int32) (x2 : Int32) (x3 : Int32) (x4 : Int32) (s : zy_S) : Option (Int32 × zy_S) :=
zyF114_41 k5 x0 x1 x2 x3 x4 (0 : Int32) s
theorem zyC114_40 {X : zx_X}  {k5 : Nat → Int32 → Int32 → Int32 → Int32 → zy_S → Option (Int32 × zy_S)}  (hk5 : ∀ (x0 : Nat) (x1 : Int32) (x2 : Int32) (x3 : Int32) (x4 : Int32) (s : zy_S) (r : Int32) (s' : zy_S) (hs_x0 : zy_isSh x0), k5 x0 x1 x2 x3 x4 s = some (r, s') → zyR X 4 114 5 [some (.ref (x0 + 3)), some (.int x1), some (.int x2), some (.int x3), some (.int x4), none, none] [] s (zyE (some (.int r)) s')) {x0 : Nat} {x1 : Int32} {x2 : Int32} {x3 : Int32} {x4 : Int32} {s : zy_S} {r : Int32} {s' : zy_S} (hs_x0 : zy_isSh x0) (h : zyF114_40 k5 x0 x1 x2 x3 x4 s = some (r, s')) : zyR X 4 114 40 [some (.ref (x0 + 3)), some (.int x1), some (.int x2), some (.int x3), some (.int x4), none, none] [] s (zyE (some (.int r)) s') := by
  unfold zyF114_40 at h
  refine zy_3 rfl rfl (show zyR _ _ _ _ [some (.ref (x0 + 3)), some (.int x1), some (.int x2), some (.int x3), some (.int x4), none, none] [.int (0 : Int32)] _ _ from ?_)
  exact zy_sub (show zy_le [some (.ref (x0 + 3)), some (.int x1), some (.int x2), some (.int x3), some (.int x4), none, none] [some (.ref (x0 + 3)), some (.int x1), some (.int x2), some (.int x3), some (.int x4), none, none] from ⟨rfl, ⟨rfl, ⟨rfl, ⟨rfl, ⟨rfl, trivial⟩⟩⟩⟩⟩) (zyC114_41 hk5 hs_x0 h)
noncomputable def zyF114_5b  (k5 : Nat → Int32 → Int32 → Int32 → Int32 → zy_S → Option (Int32 × zy_S)) (x0 : Nat) (x1 : Int32) (x2 : Int32) (x3 : Int32) (x4 : Int32) (s : zy_S) : Option (Int32 × zy_S) :=
(zyF109 x0 s).bind fun p5 =>
if p5.1 ≤ x4 then
if x3 = 0 ∨ x3 = 1 then
some (x3, p5.2)
else none
else
(zyF110 x0 x4 p5.2).bind fun p7 =>
if p7.1 = (-1 : Int32) then
zyF114_40 k5 x0 x1 x2 x3 x4 p7.2
else
if (p7.1 / (4 : Int32)) ≠ x1 then
zyF114_40 k5 x0 x1 x2 x3 x4 p7.2
else
zyF114_41 k5 x0 x1 x2 x3 x4 (1 : Int32) p7.2
theorem zyC114_5b {X : zx_X}  {k5 : Nat → Int32 → Int32 → Int32 → Int32 → zy_S → Option (Int32 × zy_S)}  (hk5 : ∀ (x0 : Nat) (x1 : Int32) (x2 : Int32) (x3 : Int32) (x4 : Int32) (s : zy_S) (r : Int32) (s' : zy_S) (hs_x0 : zy_isSh x0), k5 x0 x1 x2 x3 x4 s = some (r, s') → zyR X 4 114 5 [some (.ref (x0 + 3)), some (.int x1), some (.int x2), some (.int x3), some (.int x4), none, none] [] s (zyE (some (.int r)) s')) {x0 : Nat} {x1 : Int32} {x2 : Int32} {x3 : Int32} {x4 : Int32} {s : zy_S} {r : Int32} {s' : zy_S} (hs_x0 : zy_isSh x0) (h : zyF114_5b k5 x0 x1 x2 x3 x4 s = some (r, s')) : zyR X 4 114 5 [some (.ref (x0 + 3)), some (.int x1), some (.int x2), some (.int x3), some (.int x4), none, none] [] s (zyE (some (.int r)) s') := by
  unfold zyF114_5b at h
  refine zy_2 rfl rfl (show zyR _ _ _ _ [some (.ref (x0 + 3)), some (.int x1), some (.int x2), some (.int x3), some (.int x4), none, none] [.int x4] _ _ from ?_)
  refine zy_0 rfl rfl (show zyR _ _ _ _ [some (.ref (x0 + 3)), some (.int x1), some (.int x2), some (.int x3), some (.int x4), none, none] [.ref (x0 + 3), .int x4] _ _ from ?_)
  obtain ⟨p5, hp5, h⟩ := zy_bind h
  refine zy_60 (as := [.ref (x0 + 3)]) (rest := [.int x4]) (L := [some (.ref (x0 + 3))]) (d' := 1) rfl rfl (Nat.le_of_ble_eq_true rfl) (Nat.le_of_ble_eq_true rfl) rfl (Nat.le_of_ble_eq_true rfl) rfl rfl (zyC109 hs_x0 hp5) ?_
  show zyR _ _ _ _ [some (.ref (x0 + 3)), some (.int x1), some (.int x2), some (.int x3), some (.int x4), none, none] [.int p5.1, .int x4] _ _
  refine zy_25_3 rfl (fun b10 => (show zyR _ _ _ _ [some (.ref (x0 + 3)), some (.int x1), some (.int x2), some (.int x3), some (.int x4), none, none] [] _ _ from ?_)) (fun b10 => (show zyR _ _ _ _ [some (.ref (x0 + 3)), some (.int x1), some (.int x2), some (.int x3), some (.int x4), none, none] [] _ _ from ?_))
  · replace h := zy_ifp h b10
    refine zy_2 rfl rfl (show zyR _ _ _ _ [some (.ref (x0 + 3)), some (.int x1), some (.int x2), some (.int x3), some (.int x4), none, none] [.int x3] _ _ from ?_)
    obtain ⟨c6, h⟩ := zy_if h
    cases h
    exact zy_4b rfl ⟨rfl, rfl⟩ c6
  · replace h := zy_ifn h b10
    refine zy_0 rfl rfl (show zyR _ _ _ _ [some (.ref (x0 + 3)), some (.int x1), some (.int x2), some (.int x3), some (.int x4), none, none] [.ref (x0 + 3)] _ _ from ?_)
    refine zy_2 rfl rfl (show zyR _ _ _ _ [some (.ref (x0 + 3)), some (.int x1), some (.int x2), some (.int x3), some (.int x4), none, none] [.int x4, .ref (x0 + 3)] _ _ from ?_)
    obtain ⟨p7, hp7, h⟩ := zy_bind h
    refine zy_60 (as := [.ref (x0 + 3), .int x4]) (rest := []) (L := [some (.ref (x0 + 3)), some (.int x4), none]) (d' := 2) rfl rfl (Nat.le_of_ble_eq_true rfl) (Nat.le_of_ble_eq_true rfl) rfl (Nat.le_of_ble_eq_true rfl) rfl rfl (zyC110 hs_x0 hp7) ?_
    show zyR _ _ _ _ [some (.ref (x0 + 3)), some (.int x1), some (.int x2), some (.int x3), some (.int x4), none, none] [.int p7.1] _ _
    refine zy_23 rfl rfl (show zyR _ _ _ _ [some (.ref (x0 + 3)), some (.int x1), some (.int x2), some (.int x3), some (.int x4), some (.int p7.1), none] [] _ _ from ?_)
    refine zy_2 rfl rfl (show zyR _ _ _ _ [some (.ref (x0 + 3)), some (.int x1), some (.int x2), some (.int x3), some (.int x4), some (.int p7.1), none] [.int p7.1] _ _ from ?_)
    refine zy_3 rfl rfl (show zyR _ _ _ _ [some (.ref (x0 + 3)), some (.int x1), some (.int x2), some (.int x3), some (.int x4), some (.int p7.1), none] [.int (-1 : Int32), .int p7.1] _ _ from ?_)
    refine zy_25_0 rfl (fun b9 => (show zyR _ _ _ _ [some (.ref (x0 + 3)), some (.int x1), some (.int x2), some (.int x3), some (.int x4), some (.int p7.1), none] [] _ _ from ?_)) (fun b9 => (show zyR _ _ _ _ [some (.ref (x0 + 3)), some (.int x1), some (.int x2), some (.int x3), some (.int x4), some (.int p7.1), none] [] _ _ from ?_))
    · replace h := zy_ifp h b9
      exact zy_sub (show zy_le [some (.ref (x0 + 3)), some (.int x1), some (.int x2), some (.int x3), some (.int x4), none, none] [some (.ref (x0 + 3)), some (.int x1), some (.int x2), some (.int x3), some (.int x4), some (.int p7.1), none] from ⟨rfl, ⟨rfl, ⟨rfl, ⟨rfl, ⟨rfl, trivial⟩⟩⟩⟩⟩) (zyC114_40 hk5 hs_x0 h)
    · replace h := zy_ifn h b9
      refine zy_2 rfl rfl (show zyR _ _ _ _ [some (.ref (x0 + 3)), some (.int x1), some (.int x2), some (.int x3), some (.int x4), some (.int p7.1), none] [.int p7.1] _ _ from ?_)
      refine zy_3 rfl rfl (show zyR _ _ _ _ [some (.ref (x0 + 3)), some (.int x1), some (.int x2), some (.int x3), some (.int x4), some (.int p7.1), none] [.int (4 : Int32), .int p7.1] _ _ from ?_)
      refine zy_19 rfl (by decide) (show zyR _ _ _ _ [some (.ref (x0 + 3)), some (.int x1), some (.int x2), some (.int x3), some (.int x4), some (.int p7.1), none] [.int (p7.1 / (4 : Int32))] _ _ from ?_)
      refine zy_2 rfl rfl (show zyR _ _ _ _ [some (.ref (x0 + 3)), some (.int x1), some (.int x2), some (.int x3), some (.int x4), some (.int p7.1), none] [.int x1, .int (p7.1 / (4 : Int32))] _ _ from ?_)
      refine zy_25_1 rfl (fun b8 => (show zyR _ _ _ _ [some (.ref (x0 + 3)), some (.int x1), some (.int x2), some (.int x3), some (.int x4), some (.int p7.1), none] [] _ _ from ?_)) (fun b8 => (show zyR _ _ _ _ [some (.ref (x0 + 3)), some (.int x1), some (.int x2), some (.int x3), some (.int x4), some (.int p7.1), none] [] _ _ from ?_))
      · replace h := zy_ifp h b8
        exact zy_sub (show zy_le [some (.ref (x0 + 3)), some (.int x1), some (.int x2), some (.int x3), some (.int x4), none, none] [some (.ref (x0 + 3)), some (.int x1), some (.int x2), some (.int x3), some (.int x4), some (.int p7.1), none] from ⟨rfl, ⟨rfl, ⟨rfl, ⟨rfl, ⟨rfl, trivial⟩⟩⟩⟩⟩) (zyC114_40 hk5 hs_x0 h)
      · replace h := zy_ifn h b8
        refine zy_3 rfl rfl (show zyR _ _ _ _ [some (.ref (x0 + 3)), some (.int x1), some (.int x2), some (.int x3), some (.int x4), some (.int p7.1), none] [.int (1 : Int32)] _ _ from ?_)
        refine zy_6 rfl (show zyR _ _ _ _ [some (.ref (x0 + 3)), some (.int x1), some (.int x2), some (.int x3), some (.int x4), some (.int p7.1), none] [.int (1 : Int32)] _ _ from ?_)
        exact zy_sub (show zy_le [some (.ref (x0 + 3)), some (.int x1), some (.int x2), some (.int x3), some (.int x4), none, none] [some (.ref (x0 + 3)), some (.int x1), some (.int x2), some (.int x3), some (.int x4), some (.int p7.1), none] from ⟨rfl, ⟨rfl, ⟨rfl, ⟨rfl, ⟨rfl, trivial⟩⟩⟩⟩⟩) (zyC114_41 hk5 hs_x0 h)
noncomputable def zyF114_5   (n : Nat) : Nat → Int32 → Int32 → Int32 → Int32 → zy_S → Option (Int32 × zy_S) := Nat.rec (fun _ _ _ _ _ _ => none) (fun _ k5 => zyF114_5b k5) n
theorem zyC114_5 {X : zx_X}     : ∀ (n : Nat) (x0 : Nat) (x1 : Int32) (x2 : Int32) (x3 : Int32) (x4 : Int32) (s : zy_S) (r : Int32) (s' : zy_S) (hs_x0 : zy_isSh x0), zyF114_5 n x0 x1 x2 x3 x4 s = some (r, s') → zyR X 4 114 5 [some (.ref (x0 + 3)), some (.int x1), some (.int x2), some (.int x3), some (.int x4), none, none] [] s (zyE (some (.int r)) s')
  | 0, _, _, _, _, _ => by
    intro s r s' hs_x0 h
    have h : (none : Option (Int32 × zy_S)) = some (r, s') := h
    cases h
  | n + 1, x0, x1, x2, x3, x4 => by
    intro s r s' hs_x0 h
    exact zyC114_5b (k5 := zyF114_5 n) (fun x0 x1 x2 x3 x4 s r s' hs_x0 h => zyC114_5  n x0 x1 x2 x3 x4 s r s' hs_x0 h) hs_x0 h
noncomputable def zyF114   (x0 : Nat) (x1 : Int32) (x2 : Int32) (s : zy_S) : Option (Int32 × zy_S) :=
zyF114_5 zy_fu x0 x1 x2 (1 : Int32) (0 : Int32) s
theorem zyC114 {X : zx_X}     {x0 : Nat} {x1 : Int32} {x2 : Int32} {s : zy_S} {r : Int32} {s' : zy_S} (hs_x0 : zy_isSh x0) (h : zyF114 x0 x1 x2 s = some (r, s')) : zyR X 4 114 0 [some (.ref (x0 + 3)), some (.int x1), some (.int x2), none, none, none, none] [] s (zyE (some (.int r)) s') := by
  unfold zyF114 at h
  refine zy_3 rfl rfl (show zyR _ _ _ _ [some (.ref (x0 + 3)), some (.int x1), some (.int x2), none, none, none, none] [.int (1 : Int32)] _ _ from ?_)
  refine zy_23 rfl rfl (show zyR _ _ _ _ [some (.ref (x0 + 3)), some (.int x1), some (.int x2), some (.int (1 : Int32)), none, none, none] [] _ _ from ?_)
  refine zy_3 rfl rfl (show zyR _ _ _ _ [some (.ref (x0 + 3)), some (.int x1), some (.int x2), some (.int (1 : Int32)), none, none, none] [.int (0 : Int32)] _ _ from ?_)
  refine zy_23 rfl rfl (show zyR _ _ _ _ [some (.ref (x0 + 3)), some (.int x1), some (.int x2), some (.int (1 : Int32)), some (.int (0 : Int32)), none, none] [] _ _ from ?_)
  exact zy_sub (show zy_le [some (.ref (x0 + 3)), some (.int x1), some (.int x2), some (.int (1 : Int32)), some (.int (0 : Int32)), none, none] [some (.ref (x0 + 3)), some (.int x1), some (.int x2), some (.int (1 : Int32)), some (.int (0 : Int32)), none, none] from ⟨rfl, ⟨rfl, ⟨rfl, ⟨rfl, ⟨rfl, trivial⟩⟩⟩⟩⟩) (zyC114_5 zy_fu x0 x1 x2 (1 : Int32) (0 : Int32) s _ _ hs_x0 h)
/-! NineOpinions$Book.viewsFor(LNineOpinions$Shelf;I)I -/
noncomputable def zyF113_26  (k4 : Nat → Int32 → Int32 → Int32 → zy_S → Option (Int32 × zy_S)) (x0 : Nat) (x1 : Int32) (x3 : Int32) (y0 : Int32) (y1 : Int32) (s : zy_S) : Option (Int32 × zy_S) :=
k4 x0 x1 (y1 ||| y0) (x3 + (1 : Int32)) s
theorem zyC113_26 {X : zx_X}  {k4 : Nat → Int32 → Int32 → Int32 → zy_S → Option (Int32 × zy_S)}  (hk4 : ∀ (x0 : Nat) (x1 : Int32) (x2 : Int32) (x3 : Int32) (s : zy_S) (r : Int32) (s' : zy_S) (hs_x0 : zy_isSh x0), k4 x0 x1 x2 x3 s = some (r, s') → zyR X 5 113 4 [some (.ref (x0 + 3)), some (.int x1), some (.int x2), some (.int x3)] [] s (zyE (some (.int r)) s')) {x0 : Nat} {x1 : Int32} {x3 : Int32} {y0 : Int32} {y1 : Int32} {s : zy_S} {r : Int32} {s' : zy_S} (hs_x0 : zy_isSh x0) (h : zyF113_26 k4 x0 x1 x3 y0 y1 s = some (r, s')) : zyR X 5 113 26 [some (.ref (x0 + 3)), some (.int x1), none, some (.int x3)] [.int y0, .int y1] s (zyE (some (.int r)) s') := by
  unfold zyF113_26 at h
  refine zy_14 rfl (show zyR _ _ _ _ [some (.ref (x0 + 3)), some (.int x1), none, some (.int x3)] [.int (y1 ||| y0)] _ _ from ?_)
  refine zy_23 rfl rfl (show zyR _ _ _ _ [some (.ref (x0 + 3)), some (.int x1), some (.int (y1 ||| y0)), some (.int x3)] [] _ _ from ?_)
  refine zy_22 rfl rfl rfl rfl (show zyR _ _ _ _ [some (.ref (x0 + 3)), some (.int x1), some (.int (y1 ||| y0)), some (.int (x3 + (1 : Int32)))] [] _ _ from ?_)
  refine zy_6 rfl (show zyR _ _ _ _ [some (.ref (x0 + 3)), some (.int x1), some (.int (y1 ||| y0)), some (.int (x3 + (1 : Int32)))] [] _ _ from ?_)
  exact zy_sub (show zy_le [some (.ref (x0 + 3)), some (.int x1), some (.int (y1 ||| y0)), some (.int (x3 + (1 : Int32)))] [some (.ref (x0 + 3)), some (.int x1), some (.int (y1 ||| y0)), some (.int (x3 + (1 : Int32)))] from ⟨rfl, ⟨rfl, ⟨rfl, ⟨rfl, trivial⟩⟩⟩⟩) (hk4 x0 x1 (y1 ||| y0) (x3 + (1 : Int32)) s _ _ hs_x0 h)
noncomputable def zyF113_4b  (k4 : Nat → Int32 → Int32 → Int32 → zy_S → Option (Int32 × zy_S)) (x0 : Nat) (x1 : Int32) (x2 : Int32) (x3 : Int32) (s : zy_S) : Option (Int32 × zy_S) :=
if (4 : Int32) ≤ x3 then
some (x2, s)
else
(zyF114 x0 x1 x3 s).bind fun p1 =>
if p1.1 = 0 then
zyF113_26 k4 x0 x1 x3 (0 : Int32) x2 p1.2
else
zyF113_26 k4 x0 x1 x3 ((1 : Int32) <<< (x3 &&& 31)) x2 p1.2
theorem zyC113_4b {X : zx_X}  {k4 : Nat → Int32 → Int32 → Int32 → zy_S → Option (Int32 × zy_S)}  (hk4 : ∀ (x0 : Nat) (x1 : Int32) (x2 : Int32) (x3 : Int32) (s : zy_S) (r : Int32) (s' : zy_S) (hs_x0 : zy_isSh x0), k4 x0 x1 x2 x3 s = some (r, s') → zyR X 5 113 4 [some (.ref (x0 + 3)), some (.int x1), some (.int x2), some (.int x3)] [] s (zyE (some (.int r)) s')) {x0 : Nat} {x1 : Int32} {x2 : Int32} {x3 : Int32} {s : zy_S} {r : Int32} {s' : zy_S} (hs_x0 : zy_isSh x0) (h : zyF113_4b k4 x0 x1 x2 x3 s = some (r, s')) : zyR X 5 113 4 [some (.ref (x0 + 3)), some (.int x1), some (.int x2), some (.int x3)] [] s (zyE (some (.int r)) s') := by
  unfold zyF113_4b at h
  refine zy_2 rfl rfl (show zyR _ _ _ _ [some (.ref (x0 + 3)), some (.int x1), some (.int x2), some (.int x3)] [.int x3] _ _ from ?_)
  refine zy_3 rfl rfl (show zyR _ _ _ _ [some (.ref (x0 + 3)), some (.int x1), some (.int x2), some (.int x3)] [.int (4 : Int32), .int x3] _ _ from ?_)
  refine zy_25_3 rfl (fun b3 => (show zyR _ _ _ _ [some (.ref (x0 + 3)), some (.int x1), some (.int x2), some (.int x3)] [] _ _ from ?_)) (fun b3 => (show zyR _ _ _ _ [some (.ref (x0 + 3)), some (.int x1), some (.int x2), some (.int x3)] [] _ _ from ?_))
  · replace h := zy_ifp h b3
    refine zy_2 rfl rfl (show zyR _ _ _ _ [some (.ref (x0 + 3)), some (.int x1), some (.int x2), some (.int x3)] [.int x2] _ _ from ?_)
    obtain ⟨rfl, rfl⟩ := zy_pi h
    exact zy_4 rfl ⟨rfl, rfl⟩
  · replace h := zy_ifn h b3
    refine zy_2 rfl rfl (show zyR _ _ _ _ [some (.ref (x0 + 3)), some (.int x1), some (.int x2), some (.int x3)] [.int x2] _ _ from ?_)
    refine zy_0 rfl rfl (show zyR _ _ _ _ [some (.ref (x0 + 3)), some (.int x1), some (.int x2), some (.int x3)] [.ref (x0 + 3), .int x2] _ _ from ?_)
    refine zy_2 rfl rfl (show zyR _ _ _ _ [some (.ref (x0 + 3)), some (.int x1), some (.int x2), some (.int x3)] [.int x1, .ref (x0 + 3), .int x2] _ _ from ?_)
    refine zy_2 rfl rfl (show zyR _ _ _ _ [some (.ref (x0 + 3)), some (.int x1), some (.int x2), some (.int x3)] [.int x3, .int x1, .ref (x0 + 3), .int x2] _ _ from ?_)
    obtain ⟨p1, hp1, h⟩ := zy_bind h
    refine zy_60 (as := [.ref (x0 + 3), .int x1, .int x3]) (rest := [.int x2]) (L := [some (.ref (x0 + 3)), some (.int x1), some (.int x3), none, none, none, none]) (d' := 4) rfl rfl (Nat.le_of_ble_eq_true rfl) (Nat.le_of_ble_eq_true rfl) rfl (Nat.le_of_ble_eq_true rfl) rfl rfl (zyC114 hs_x0 hp1) ?_
    show zyR _ _ _ _ [some (.ref (x0 + 3)), some (.int x1), some (.int x2), some (.int x3)] [.int p1.1, .int x2] _ _
    refine zy_24_0 rfl (fun b2 => (show zyR _ _ _ _ [some (.ref (x0 + 3)), some (.int x1), some (.int x2), some (.int x3)] [.int x2] _ _ from ?_)) (fun b2 => (show zyR _ _ _ _ [some (.ref (x0 + 3)), some (.int x1), some (.int x2), some (.int x3)] [.int x2] _ _ from ?_))
    · replace h := zy_ifp h b2
      refine zy_3 rfl rfl (show zyR _ _ _ _ [some (.ref (x0 + 3)), some (.int x1), some (.int x2), some (.int x3)] [.int (0 : Int32), .int x2] _ _ from ?_)
      exact zy_sub (show zy_le [some (.ref (x0 + 3)), some (.int x1), none, some (.int x3)] [some (.ref (x0 + 3)), some (.int x1), some (.int x2), some (.int x3)] from ⟨rfl, ⟨rfl, ⟨rfl, trivial⟩⟩⟩) (zyC113_26 hk4 hs_x0 h)
    · replace h := zy_ifn h b2
      refine zy_3 rfl rfl (show zyR _ _ _ _ [some (.ref (x0 + 3)), some (.int x1), some (.int x2), some (.int x3)] [.int (1 : Int32), .int x2] _ _ from ?_)
      refine zy_2 rfl rfl (show zyR _ _ _ _ [some (.ref (x0 + 3)), some (.int x1), some (.int x2), some (.int x3)] [.int x3, .int (1 : Int32), .int x2] _ _ from ?_)
      refine zy_16 rfl (show zyR _ _ _ _ [some (.ref (x0 + 3)), some (.int x1), some (.int x2), some (.int x3)] [.int ((1 : Int32) <<< (x3 &&& 31)), .int x2] _ _ from ?_)
      refine zy_6 rfl (show zyR _ _ _ _ [some (.ref (x0 + 3)), some (.int x1), some (.int x2), some (.int x3)] [.int ((1 : Int32) <<< (x3 &&& 31)), .int x2] _ _ from ?_)
      exact zy_sub (show zy_le [some (.ref (x0 + 3)), some (.int x1), none, some (.int x3)] [some (.ref (x0 + 3)), some (.int x1), some (.int x2), some (.int x3)] from ⟨rfl, ⟨rfl, ⟨rfl, trivial⟩⟩⟩) (zyC113_26 hk4 hs_x0 h)
noncomputable def zyF113_4   (n : Nat) : Nat → Int32 → Int32 → Int32 → zy_S → Option (Int32 × zy_S) := Nat.rec (fun _ _ _ _ _ => none) (fun _ k4 => zyF113_4b k4) n
theorem zyC113_4 {X : zx_X}     : ∀ (n : Nat) (x0 : Nat) (x1 : Int32) (x2 : Int32) (x3 : Int32) (s : zy_S) (r : Int32) (s' : zy_S) (hs_x0 : zy_isSh x0), zyF113_4 n x0 x1 x2 x3 s = some (r, s') → zyR X 5 113 4 [some (.ref (x0 + 3)), some (.int x1), some (.int x2), some (.int x3)] [] s (zyE (some (.int r)) s')
  | 0, _, _, _, _ => by
    intro s r s' hs_x0 h
    have h : (none : Option (Int32 × zy_S)) = some (r, s') := h
    cases h
  | n + 1, x0, x1, x2, x3 => by
    intro s r s' hs_x0 h
    exact zyC113_4b (k4 := zyF113_4 n) (fun x0 x1 x2 x3 s r s' hs_x0 h => zyC113_4  n x0 x1 x2 x3 s r s' hs_x0 h) hs_x0 h
noncomputable def zyF113   (x0 : Nat) (x1 : Int32) (s : zy_S) : Option (Int32 × zy_S) :=
zyF113_4 zy_fu x0 x1 (0 : Int32) (0 : Int32) s
theorem zyC113 {X : zx_X}     {x0 : Nat} {x1 : Int32} {s : zy_S} {r : Int32} {s' : zy_S} (hs_x0 : zy_isSh x0) (h : zyF113 x0 x1 s = some (r, s')) : zyR X 5 113 0 [some (.ref (x0 + 3)), some (.int x1), none, none] [] s (zyE (some (.int r)) s') := by
  unfold zyF113 at h
  refine zy_3 rfl rfl (show zyR _ _ _ _ [some (.ref (x0 + 3)), some (.int x1), none, none] [.int (0 : Int32)] _ _ from ?_)
  refine zy_23 rfl rfl (show zyR _ _ _ _ [some (.ref (x0 + 3)), some (.int x1), some (.int (0 : Int32)), none] [] _ _ from ?_)
  refine zy_3 rfl rfl (show zyR _ _ _ _ [some (.ref (x0 + 3)), some (.int x1), some (.int (0 : Int32)), none] [.int (0 : Int32)] _ _ from ?_)
  refine zy_23 rfl rfl (show zyR _ _ _ _ [some (.ref (x0 + 3)), some (.int x1), some (.int (0 : Int32)), some (.int (0 : Int32))] [] _ _ from ?_)
  exact zy_sub (show zy_le [some (.ref (x0 + 3)), some (.int x1), some (.int (0 : Int32)), some (.int (0 : Int32))] [some (.ref (x0 + 3)), some (.int x1), some (.int (0 : Int32)), some (.int (0 : Int32))] from ⟨rfl, ⟨rfl, ⟨rfl, ⟨rfl, trivial⟩⟩⟩⟩) (zyC113_4 zy_fu x0 x1 (0 : Int32) (0 : Int32) s _ _ hs_x0 h)
/-! NineOpinions.lowestViewOrNot(I)I -/
noncomputable def zyF115_2b  (k2 : Int32 → Int32 → zy_S → Option (Int32 × zy_S)) (x0 : Int32) (x1 : Int32) (s : zy_S) : Option (Int32 × zy_S) :=
if (4 : Int32) ≤ x1 then
some ((-2 : Int32), s)
else
(zyF32 x0 x1 s).bind fun p1 =>
if p1.1 ≠ (1 : Int32) then
k2 x0 (x1 + (1 : Int32)) p1.2
else
some (x1, p1.2)
theorem zyC115_2b {X : zx_X}  {k2 : Int32 → Int32 → zy_S → Option (Int32 × zy_S)}  (hk2 : ∀ (x0 : Int32) (x1 : Int32) (s : zy_S) (r : Int32) (s' : zy_S), k2 x0 x1 s = some (r, s') → zyR X 2 115 2 [some (.int x0), some (.int x1)] [] s (zyE (some (.int r)) s')) {x0 : Int32} {x1 : Int32} {s : zy_S} {r : Int32} {s' : zy_S}  (h : zyF115_2b k2 x0 x1 s = some (r, s')) : zyR X 2 115 2 [some (.int x0), some (.int x1)] [] s (zyE (some (.int r)) s') := by
  unfold zyF115_2b at h
  refine zy_2 rfl rfl (show zyR _ _ _ _ [some (.int x0), some (.int x1)] [.int x1] _ _ from ?_)
  refine zy_3 rfl rfl (show zyR _ _ _ _ [some (.int x0), some (.int x1)] [.int (4 : Int32), .int x1] _ _ from ?_)
  refine zy_25_3 rfl (fun b3 => (show zyR _ _ _ _ [some (.int x0), some (.int x1)] [] _ _ from ?_)) (fun b3 => (show zyR _ _ _ _ [some (.int x0), some (.int x1)] [] _ _ from ?_))
  · replace h := zy_ifp h b3
    refine zy_3 rfl rfl (show zyR _ _ _ _ [some (.int x0), some (.int x1)] [.int (-2 : Int32)] _ _ from ?_)
    obtain ⟨rfl, rfl⟩ := zy_pi h
    exact zy_4 rfl ⟨rfl, rfl⟩
  · replace h := zy_ifn h b3
    refine zy_2 rfl rfl (show zyR _ _ _ _ [some (.int x0), some (.int x1)] [.int x0] _ _ from ?_)
    refine zy_2 rfl rfl (show zyR _ _ _ _ [some (.int x0), some (.int x1)] [.int x1, .int x0] _ _ from ?_)
    obtain ⟨p1, hp1, h⟩ := zy_bind h
    refine zy_60 (as := [.int x0, .int x1]) (rest := []) (L := [some (.int x0), some (.int x1)]) (d' := 1) rfl rfl (Nat.le_of_ble_eq_true rfl) (Nat.le_of_ble_eq_true rfl) rfl (Nat.le_of_ble_eq_true rfl) rfl rfl (zyC32 hp1) ?_
    show zyR _ _ _ _ [some (.int x0), some (.int x1)] [.int p1.1] _ _
    refine zy_3 rfl rfl (show zyR _ _ _ _ [some (.int x0), some (.int x1)] [.int (1 : Int32), .int p1.1] _ _ from ?_)
    refine zy_25_1 rfl (fun b2 => (show zyR _ _ _ _ [some (.int x0), some (.int x1)] [] _ _ from ?_)) (fun b2 => (show zyR _ _ _ _ [some (.int x0), some (.int x1)] [] _ _ from ?_))
    · replace h := zy_ifp h b2
      refine zy_22 rfl rfl rfl rfl (show zyR _ _ _ _ [some (.int x0), some (.int (x1 + (1 : Int32)))] [] _ _ from ?_)
      refine zy_6 rfl (show zyR _ _ _ _ [some (.int x0), some (.int (x1 + (1 : Int32)))] [] _ _ from ?_)
      exact zy_sub (show zy_le [some (.int x0), some (.int (x1 + (1 : Int32)))] [some (.int x0), some (.int (x1 + (1 : Int32)))] from ⟨rfl, ⟨rfl, trivial⟩⟩) (hk2 x0 (x1 + (1 : Int32)) p1.2 _ _ h)
    · replace h := zy_ifn h b2
      refine zy_2 rfl rfl (show zyR _ _ _ _ [some (.int x0), some (.int x1)] [.int x1] _ _ from ?_)
      obtain ⟨rfl, rfl⟩ := zy_pi h
      exact zy_4 rfl ⟨rfl, rfl⟩
noncomputable def zyF115_2   (n : Nat) : Int32 → Int32 → zy_S → Option (Int32 × zy_S) := Nat.rec (fun _ _ _ => none) (fun _ k2 => zyF115_2b k2) n
theorem zyC115_2 {X : zx_X}     : ∀ (n : Nat) (x0 : Int32) (x1 : Int32) (s : zy_S) (r : Int32) (s' : zy_S), zyF115_2 n x0 x1 s = some (r, s') → zyR X 2 115 2 [some (.int x0), some (.int x1)] [] s (zyE (some (.int r)) s')
  | 0, _, _ => by
    intro s r s'  h
    have h : (none : Option (Int32 × zy_S)) = some (r, s') := h
    cases h
  | n + 1, x0, x1 => by
    intro s r s'  h
    exact zyC115_2b (k2 := zyF115_2 n) (fun x0 x1 s r s'  h => zyC115_2  n x0 x1 s r s'  h) h
noncomputable def zyF115   (x0 : Int32) (s : zy_S) : Option (Int32 × zy_S) :=
zyF115_2 zy_fu x0 (0 : Int32) s
theorem zyC115 {X : zx_X}     {x0 : Int32} {s : zy_S} {r : Int32} {s' : zy_S}  (h : zyF115 x0 s = some (r, s')) : zyR X 2 115 0 [some (.int x0), none] [] s (zyE (some (.int r)) s') := by
  unfold zyF115 at h
  refine zy_3 rfl rfl (show zyR _ _ _ _ [some (.int x0), none] [.int (0 : Int32)] _ _ from ?_)
  refine zy_23 rfl rfl (show zyR _ _ _ _ [some (.int x0), some (.int (0 : Int32))] [] _ _ from ?_)
  exact zy_sub (show zy_le [some (.int x0), some (.int (0 : Int32))] [some (.int x0), some (.int (0 : Int32))] from ⟨rfl, ⟨rfl, trivial⟩⟩) (zyC115_2 zy_fu x0 (0 : Int32) s _ _ h)
end
section
/-! PART 41.20: methods as functions. Made by wip/v4/dcp.py. -/
/-! NineOpinions.believes(III)I -/
noncomputable def zyF112   (x1 : Int32) (x2 : Int32) (x3 : Int32) (s : zy_S) : Option (Int32 × zy_S) :=
(zyF18 x1 s).bind fun p1 =>
if p1.1 = 0 then
some ((-1 : Int32), p1.2)
else
if x2 < 0 then
some ((-1 : Int32), p1.2)
else
if (6 : Int32) ≤ x2 then
some ((-1 : Int32), p1.2)
else
(zyF84 x3 p1.2).bind fun p2 =>
if p2.1 ≠ 0 then
if zy_in x1 6 then
if zy_Wb p2.2 then
(zyF107 (zy_sh (x1).toNatClampNeg) (0 : Int32) p2.2).bind fun p5 =>
if p5.1 = 0 then
if zy_in x1 6 then
if zy_Wb p5.2 then
(zyF113 (zy_sh (x1).toNatClampNeg) x2 p5.2).bind fun p8 =>
if x3 ≠ 0 then
(zyF115 p8.1 p8.2).bind fun p9 =>
some (p9.1, p9.2)
else
(zyF63 p8.1 p8.2).bind fun p10 =>
some (p10.1, p10.2)
else none
else none
else
some (p5.1, p5.2)
else none
else none
else
some ((-1 : Int32), p2.2)
theorem zyC112 {X : zx_X}     {x1 : Int32} {x2 : Int32} {x3 : Int32} {s : zy_S} {r : Int32} {s' : zy_S}  (h : zyF112 x1 x2 x3 s = some (r, s')) : zyR X 6 112 0 [some (.ref (0 + 3)), some (.int x1), some (.int x2), some (.int x3), none, none] [] s (zyE (some (.int r)) s') := by
  unfold zyF112 at h
  refine zy_2 rfl rfl (show zyR _ _ _ _ [some (.ref (0 + 3)), some (.int x1), some (.int x2), some (.int x3), none, none] [.int x1] _ _ from ?_)
  obtain ⟨p1, hp1, h⟩ := zy_bind h
  refine zy_60 (as := [.int x1]) (rest := []) (L := [some (.int x1)]) (d' := 1) rfl rfl (Nat.le_of_ble_eq_true rfl) (Nat.le_of_ble_eq_true rfl) rfl (Nat.le_of_ble_eq_true rfl) rfl rfl (zyC18 hp1) ?_
  show zyR _ _ _ _ [some (.ref (0 + 3)), some (.int x1), some (.int x2), some (.int x3), none, none] [.int p1.1] _ _
  refine zy_24_0 rfl (fun b16 => (show zyR _ _ _ _ [some (.ref (0 + 3)), some (.int x1), some (.int x2), some (.int x3), none, none] [] _ _ from ?_)) (fun b16 => (show zyR _ _ _ _ [some (.ref (0 + 3)), some (.int x1), some (.int x2), some (.int x3), none, none] [] _ _ from ?_))
  · replace h := zy_ifp h b16
    refine zy_3 rfl rfl (show zyR _ _ _ _ [some (.ref (0 + 3)), some (.int x1), some (.int x2), some (.int x3), none, none] [.int (-1 : Int32)] _ _ from ?_)
    obtain ⟨rfl, rfl⟩ := zy_pi h
    exact zy_4 rfl ⟨rfl, rfl⟩
  · replace h := zy_ifn h b16
    refine zy_2 rfl rfl (show zyR _ _ _ _ [some (.ref (0 + 3)), some (.int x1), some (.int x2), some (.int x3), none, none] [.int x2] _ _ from ?_)
    refine zy_24_2 rfl (fun b15 => (show zyR _ _ _ _ [some (.ref (0 + 3)), some (.int x1), some (.int x2), some (.int x3), none, none] [] _ _ from ?_)) (fun b15 => (show zyR _ _ _ _ [some (.ref (0 + 3)), some (.int x1), some (.int x2), some (.int x3), none, none] [] _ _ from ?_))
    · replace h := zy_ifp h b15
      refine zy_3 rfl rfl (show zyR _ _ _ _ [some (.ref (0 + 3)), some (.int x1), some (.int x2), some (.int x3), none, none] [.int (-1 : Int32)] _ _ from ?_)
      obtain ⟨rfl, rfl⟩ := zy_pi h
      exact zy_4 rfl ⟨rfl, rfl⟩
    · replace h := zy_ifn h b15
      refine zy_2 rfl rfl (show zyR _ _ _ _ [some (.ref (0 + 3)), some (.int x1), some (.int x2), some (.int x3), none, none] [.int x2] _ _ from ?_)
      refine zy_3 rfl rfl (show zyR _ _ _ _ [some (.ref (0 + 3)), some (.int x1), some (.int x2), some (.int x3), none, none] [.int (6 : Int32), .int x2] _ _ from ?_)
      refine zy_25_3 rfl (fun b14 => (show zyR _ _ _ _ [some (.ref (0 + 3)), some (.int x1), some (.int x2), some (.int x3), none, none] [] _ _ from ?_)) (fun b14 => (show zyR _ _ _ _ [some (.ref (0 + 3)), some (.int x1), some (.int x2), some (.int x3), none, none] [] _ _ from ?_))
      · replace h := zy_ifp h b14
        refine zy_3 rfl rfl (show zyR _ _ _ _ [some (.ref (0 + 3)), some (.int x1), some (.int x2), some (.int x3), none, none] [.int (-1 : Int32)] _ _ from ?_)
        obtain ⟨rfl, rfl⟩ := zy_pi h
        exact zy_4 rfl ⟨rfl, rfl⟩
      · replace h := zy_ifn h b14
        refine zy_2 rfl rfl (show zyR _ _ _ _ [some (.ref (0 + 3)), some (.int x1), some (.int x2), some (.int x3), none, none] [.int x3] _ _ from ?_)
        obtain ⟨p2, hp2, h⟩ := zy_bind h
        refine zy_60 (as := [.int x3]) (rest := []) (L := [some (.int x3)]) (d' := 1) rfl rfl (Nat.le_of_ble_eq_true rfl) (Nat.le_of_ble_eq_true rfl) rfl (Nat.le_of_ble_eq_true rfl) rfl rfl (zyC84 hp2) ?_
        show zyR _ _ _ _ [some (.ref (0 + 3)), some (.int x1), some (.int x2), some (.int x3), none, none] [.int p2.1] _ _
        refine zy_24_1 rfl (fun b13 => (show zyR _ _ _ _ [some (.ref (0 + 3)), some (.int x1), some (.int x2), some (.int x3), none, none] [] _ _ from ?_)) (fun b13 => (show zyR _ _ _ _ [some (.ref (0 + 3)), some (.int x1), some (.int x2), some (.int x3), none, none] [] _ _ from ?_))
        · replace h := zy_ifp h b13
          refine zy_0 rfl rfl (show zyR _ _ _ _ [some (.ref (0 + 3)), some (.int x1), some (.int x2), some (.int x3), none, none] [.ref (0 + 3)] _ _ from ?_)
          refine zy_1r (c := 0) rfl rfl rfl (show zyR _ _ _ _ [some (.ref (0 + 3)), some (.int x1), some (.int x2), some (.int x3), none, none] [.ref (30 + 3)] _ _ from ?_)
          refine zy_2 rfl rfl (show zyR _ _ _ _ [some (.ref (0 + 3)), some (.int x1), some (.int x2), some (.int x3), none, none] [.int x1, .ref (30 + 3)] _ _ from ?_)
          obtain ⟨c3, h⟩ := zy_if h
          obtain ⟨c4, h⟩ := zy_if h
          refine zy_28 rfl (zy_Wb_g c4) c3 (show zyR _ _ _ _ [some (.ref (0 + 3)), some (.int x1), some (.int x2), some (.int x3), none, none] [.ref ((zy_sh (x1).toNatClampNeg) + 3)] _ _ from ?_)
          refine zy_3 rfl rfl (show zyR _ _ _ _ [some (.ref (0 + 3)), some (.int x1), some (.int x2), some (.int x3), none, none] [.int (0 : Int32), .ref ((zy_sh (x1).toNatClampNeg) + 3)] _ _ from ?_)
          obtain ⟨p5, hp5, h⟩ := zy_bind h
          refine zy_5 (c := (zy_sh (x1).toNatClampNeg)) (as := [.int (0 : Int32)]) (rest := []) (L := [some (.ref ((zy_sh (x1).toNatClampNeg) + 3)), some (.int (0 : Int32))]) (d' := 3) rfl rfl (zy_isSh_of (zy_in_lt c3)).1 (Nat.le_of_ble_eq_true rfl) (Nat.le_of_ble_eq_true rfl) rfl (Nat.le_of_ble_eq_true rfl) rfl rfl (zyC107 (zy_isSh_of (zy_in_lt c3)) hp5) ?_
          show zyR _ _ _ _ [some (.ref (0 + 3)), some (.int x1), some (.int x2), some (.int x3), none, none] [.int p5.1] _ _
          refine zy_23 rfl rfl (show zyR _ _ _ _ [some (.ref (0 + 3)), some (.int x1), some (.int x2), some (.int x3), some (.int p5.1), none] [] _ _ from ?_)
          refine zy_2 rfl rfl (show zyR _ _ _ _ [some (.ref (0 + 3)), some (.int x1), some (.int x2), some (.int x3), some (.int p5.1), none] [.int p5.1] _ _ from ?_)
          refine zy_24_0 rfl (fun b12 => (show zyR _ _ _ _ [some (.ref (0 + 3)), some (.int x1), some (.int x2), some (.int x3), some (.int p5.1), none] [] _ _ from ?_)) (fun b12 => (show zyR _ _ _ _ [some (.ref (0 + 3)), some (.int x1), some (.int x2), some (.int x3), some (.int p5.1), none] [] _ _ from ?_))
          · replace h := zy_ifp h b12
            refine zy_0 rfl rfl (show zyR _ _ _ _ [some (.ref (0 + 3)), some (.int x1), some (.int x2), some (.int x3), some (.int p5.1), none] [.ref (0 + 3)] _ _ from ?_)
            refine zy_1r (c := 0) rfl rfl rfl (show zyR _ _ _ _ [some (.ref (0 + 3)), some (.int x1), some (.int x2), some (.int x3), some (.int p5.1), none] [.ref (30 + 3)] _ _ from ?_)
            refine zy_2 rfl rfl (show zyR _ _ _ _ [some (.ref (0 + 3)), some (.int x1), some (.int x2), some (.int x3), some (.int p5.1), none] [.int x1, .ref (30 + 3)] _ _ from ?_)
            obtain ⟨c6, h⟩ := zy_if h
            obtain ⟨c7, h⟩ := zy_if h
            refine zy_28 rfl (zy_Wb_g c7) c6 (show zyR _ _ _ _ [some (.ref (0 + 3)), some (.int x1), some (.int x2), some (.int x3), some (.int p5.1), none] [.ref ((zy_sh (x1).toNatClampNeg) + 3)] _ _ from ?_)
            refine zy_2 rfl rfl (show zyR _ _ _ _ [some (.ref (0 + 3)), some (.int x1), some (.int x2), some (.int x3), some (.int p5.1), none] [.int x2, .ref ((zy_sh (x1).toNatClampNeg) + 3)] _ _ from ?_)
            obtain ⟨p8, hp8, h⟩ := zy_bind h
            refine zy_60 (as := [.ref ((zy_sh (x1).toNatClampNeg) + 3), .int x2]) (rest := []) (L := [some (.ref ((zy_sh (x1).toNatClampNeg) + 3)), some (.int x2), none, none]) (d' := 5) rfl rfl (Nat.le_of_ble_eq_true rfl) (Nat.le_of_ble_eq_true rfl) rfl (Nat.le_of_ble_eq_true rfl) rfl rfl (zyC113 (zy_isSh_of (zy_in_lt c6)) hp8) ?_
            show zyR _ _ _ _ [some (.ref (0 + 3)), some (.int x1), some (.int x2), some (.int x3), some (.int p5.1), none] [.int p8.1] _ _
            refine zy_23 rfl rfl (show zyR _ _ _ _ [some (.ref (0 + 3)), some (.int x1), some (.int x2), some (.int x3), some (.int p5.1), some (.int p8.1)] [] _ _ from ?_)
            refine zy_2 rfl rfl (show zyR _ _ _ _ [some (.ref (0 + 3)), some (.int x1), some (.int x2), some (.int x3), some (.int p5.1), some (.int p8.1)] [.int x3] _ _ from ?_)
            refine zy_24_1 rfl (fun b11 => (show zyR _ _ _ _ [some (.ref (0 + 3)), some (.int x1), some (.int x2), some (.int x3), some (.int p5.1), some (.int p8.1)] [] _ _ from ?_)) (fun b11 => (show zyR _ _ _ _ [some (.ref (0 + 3)), some (.int x1), some (.int x2), some (.int x3), some (.int p5.1), some (.int p8.1)] [] _ _ from ?_))
            · replace h := zy_ifp h b11
              refine zy_2 rfl rfl (show zyR _ _ _ _ [some (.ref (0 + 3)), some (.int x1), some (.int x2), some (.int x3), some (.int p5.1), some (.int p8.1)] [.int p8.1] _ _ from ?_)
              obtain ⟨p9, hp9, h⟩ := zy_bind h
              refine zy_60 (as := [.int p8.1]) (rest := []) (L := [some (.int p8.1), none]) (d' := 2) rfl rfl (Nat.le_of_ble_eq_true rfl) (Nat.le_of_ble_eq_true rfl) rfl (Nat.le_of_ble_eq_true rfl) rfl rfl (zyC115 hp9) ?_
              show zyR _ _ _ _ [some (.ref (0 + 3)), some (.int x1), some (.int x2), some (.int x3), some (.int p5.1), some (.int p8.1)] [.int p9.1] _ _
              obtain ⟨rfl, rfl⟩ := zy_pi h
              exact zy_4 rfl ⟨rfl, rfl⟩
            · replace h := zy_ifn h b11
              refine zy_2 rfl rfl (show zyR _ _ _ _ [some (.ref (0 + 3)), some (.int x1), some (.int x2), some (.int x3), some (.int p5.1), some (.int p8.1)] [.int p8.1] _ _ from ?_)
              obtain ⟨p10, hp10, h⟩ := zy_bind h
              refine zy_60 (as := [.int p8.1]) (rest := []) (L := [some (.int p8.1)]) (d' := 1) rfl rfl (Nat.le_of_ble_eq_true rfl) (Nat.le_of_ble_eq_true rfl) rfl (Nat.le_of_ble_eq_true rfl) rfl rfl (zyC63 hp10) ?_
              show zyR _ _ _ _ [some (.ref (0 + 3)), some (.int x1), some (.int x2), some (.int x3), some (.int p5.1), some (.int p8.1)] [.int p10.1] _ _
              obtain ⟨rfl, rfl⟩ := zy_pi h
              exact zy_4 rfl ⟨rfl, rfl⟩
          · replace h := zy_ifn h b12
            refine zy_2 rfl rfl (show zyR _ _ _ _ [some (.ref (0 + 3)), some (.int x1), some (.int x2), some (.int x3), some (.int p5.1), none] [.int p5.1] _ _ from ?_)
            obtain ⟨rfl, rfl⟩ := zy_pi h
            exact zy_4 rfl ⟨rfl, rfl⟩
        · replace h := zy_ifn h b13
          refine zy_3 rfl rfl (show zyR _ _ _ _ [some (.ref (0 + 3)), some (.int x1), some (.int x2), some (.int x3), none, none] [.int (-1 : Int32)] _ _ from ?_)
          obtain ⟨rfl, rfl⟩ := zy_pi h
          exact zy_4 rfl ⟨rfl, rfl⟩
/-! NineOpinionsModel.fitsView(III)Z -/
noncomputable def zyF232_96  (k3 : Int32 → Int32 → Int32 → Int32 → zy_S → Option (Int32 × zy_S)) (x1 : Int32) (x2 : Int32) (x3 : Int32) (x4 : Int32) (s : zy_S) : Option (Int32 × zy_S) :=
k3 x1 x2 x3 (x4 + (1 : Int32)) s
theorem zyC232_96 {X : zx_X}  {k3 : Int32 → Int32 → Int32 → Int32 → zy_S → Option (Int32 × zy_S)}  (hk3 : ∀ (x1 : Int32) (x2 : Int32) (x3 : Int32) (x4 : Int32) (s : zy_S) (r : Int32) (s' : zy_S), k3 x1 x2 x3 x4 s = some (r, s') → zyR X 3 232 3 [some (.ref (43 + 3)), some (.int x1), some (.int x2), some (.int x3), some (.int x4), none] [] s (zyE (some (.int r)) s')) {x1 : Int32} {x2 : Int32} {x3 : Int32} {x4 : Int32} {s : zy_S} {r : Int32} {s' : zy_S}  (h : zyF232_96 k3 x1 x2 x3 x4 s = some (r, s')) : zyR X 3 232 96 [some (.ref (43 + 3)), some (.int x1), some (.int x2), some (.int x3), some (.int x4), none] [] s (zyE (some (.int r)) s') := by
  unfold zyF232_96 at h
  refine zy_22 rfl rfl rfl rfl (show zyR _ _ _ _ [some (.ref (43 + 3)), some (.int x1), some (.int x2), some (.int x3), some (.int (x4 + (1 : Int32))), none] [] _ _ from ?_)
  refine zy_6 rfl (show zyR _ _ _ _ [some (.ref (43 + 3)), some (.int x1), some (.int x2), some (.int x3), some (.int (x4 + (1 : Int32))), none] [] _ _ from ?_)
  exact zy_sub (show zy_le [some (.ref (43 + 3)), some (.int x1), some (.int x2), some (.int x3), some (.int (x4 + (1 : Int32))), none] [some (.ref (43 + 3)), some (.int x1), some (.int x2), some (.int x3), some (.int (x4 + (1 : Int32))), none] from ⟨rfl, ⟨rfl, ⟨rfl, ⟨rfl, ⟨rfl, trivial⟩⟩⟩⟩⟩) (hk3 x1 x2 x3 (x4 + (1 : Int32)) s _ _ h)
noncomputable def zyF232_90  (k3 : Int32 → Int32 → Int32 → Int32 → zy_S → Option (Int32 × zy_S)) (x1 : Int32) (x2 : Int32) (x3 : Int32) (x4 : Int32) (y0 : Int64) (y1 : Int64) (s : zy_S) : Option (Int32 × zy_S) :=
if (lg_cmp y1 y0) = 0 then
zyF232_96 k3 x1 x2 x3 x4 s
else
some ((0 : Int32), s)
theorem zyC232_90 {X : zx_X}  {k3 : Int32 → Int32 → Int32 → Int32 → zy_S → Option (Int32 × zy_S)}  (hk3 : ∀ (x1 : Int32) (x2 : Int32) (x3 : Int32) (x4 : Int32) (s : zy_S) (r : Int32) (s' : zy_S), k3 x1 x2 x3 x4 s = some (r, s') → zyR X 3 232 3 [some (.ref (43 + 3)), some (.int x1), some (.int x2), some (.int x3), some (.int x4), none] [] s (zyE (some (.int r)) s')) {x1 : Int32} {x2 : Int32} {x3 : Int32} {x4 : Int32} {y0 : Int64} {y1 : Int64} {s : zy_S} {r : Int32} {s' : zy_S}  (h : zyF232_90 k3 x1 x2 x3 x4 y0 y1 s = some (r, s')) : zyR X 3 232 90 [some (.ref (43 + 3)), some (.int x1), some (.int x2), some (.int x3), some (.int x4), none] [.long y0, .long y1] s (zyE (some (.int r)) s') := by
  unfold zyF232_90 at h
  refine zy_44 rfl (show zyR _ _ _ _ [some (.ref (43 + 3)), some (.int x1), some (.int x2), some (.int x3), some (.int x4), none] [.int (lg_cmp y1 y0)] _ _ from ?_)
  refine zy_24_0 rfl (fun b1 => (show zyR _ _ _ _ [some (.ref (43 + 3)), some (.int x1), some (.int x2), some (.int x3), some (.int x4), none] [] _ _ from ?_)) (fun b1 => (show zyR _ _ _ _ [some (.ref (43 + 3)), some (.int x1), some (.int x2), some (.int x3), some (.int x4), none] [] _ _ from ?_))
  · replace h := zy_ifp h b1
    exact zy_sub (show zy_le [some (.ref (43 + 3)), some (.int x1), some (.int x2), some (.int x3), some (.int x4), none] [some (.ref (43 + 3)), some (.int x1), some (.int x2), some (.int x3), some (.int x4), none] from ⟨rfl, ⟨rfl, ⟨rfl, ⟨rfl, ⟨rfl, trivial⟩⟩⟩⟩⟩) (zyC232_96 hk3 h)
  · replace h := zy_ifn h b1
    refine zy_3 rfl rfl (show zyR _ _ _ _ [some (.ref (43 + 3)), some (.int x1), some (.int x2), some (.int x3), some (.int x4), none] [.int (0 : Int32)] _ _ from ?_)
    cases h
    exact zy_4b rfl ⟨rfl, rfl⟩ (Or.inl rfl)
noncomputable def zyF232_3b  (k3 : Int32 → Int32 → Int32 → Int32 → zy_S → Option (Int32 × zy_S)) (x1 : Int32) (x2 : Int32) (x3 : Int32) (x4 : Int32) (s : zy_S) : Option (Int32 × zy_S) :=
if zy_in x1 6 then
if (s.1 61 (x1).toNatClampNeg) ≤ (((2 : Int32) * x4) + (1 : Int32)) then
some ((1 : Int32), s)
else
if zy_in (((60 : Int32) * x1) + ((2 : Int32) * x4)) 360 then
(zyF186 (s.2.1 62 ((((60 : Int32) * x1) + ((2 : Int32) * x4))).toNatClampNeg) s).bind fun p4 =>
if p4.1 = 0 then
zyF232_96 k3 x1 x2 x3 x4 p4.2
else
if zy_in (((60 : Int32) * x1) + ((2 : Int32) * x4)) 360 then
if (lg_cmp ((p4.2.2.1 62 ((((60 : Int32) * x1) + ((2 : Int32) * x4))).toNatClampNeg) / (4 : Int64)) (x2).toInt64) ≠ 0 then
zyF232_96 k3 x1 x2 x3 x4 p4.2
else
if zy_in ((((60 : Int32) * x1) + ((2 : Int32) * x4)) + (1 : Int32)) 360 then
if zy_in (((60 : Int32) * x1) + ((2 : Int32) * x4)) 360 then
if (lg_cmp ((p4.2.2.1 62 ((((60 : Int32) * x1) + ((2 : Int32) * x4))).toNatClampNeg) - (p4.2.2.1 62 ((((60 : Int32) * x1) + ((2 : Int32) * x4))).toNatClampNeg) / (4 : Int64) * (4 : Int64)) (x3).toInt64) ≠ 0 then
zyF232_90 k3 x1 x2 x3 x4 (1 : Int64) (p4.2.2.1 62 (((((60 : Int32) * x1) + ((2 : Int32) * x4)) + (1 : Int32))).toNatClampNeg) p4.2
else
zyF232_90 k3 x1 x2 x3 x4 (0 : Int64) (p4.2.2.1 62 (((((60 : Int32) * x1) + ((2 : Int32) * x4)) + (1 : Int32))).toNatClampNeg) p4.2
else none
else none
else none
else none
else none
theorem zyC232_3b {X : zx_X}  {k3 : Int32 → Int32 → Int32 → Int32 → zy_S → Option (Int32 × zy_S)}  (hk3 : ∀ (x1 : Int32) (x2 : Int32) (x3 : Int32) (x4 : Int32) (s : zy_S) (r : Int32) (s' : zy_S), k3 x1 x2 x3 x4 s = some (r, s') → zyR X 3 232 3 [some (.ref (43 + 3)), some (.int x1), some (.int x2), some (.int x3), some (.int x4), none] [] s (zyE (some (.int r)) s')) {x1 : Int32} {x2 : Int32} {x3 : Int32} {x4 : Int32} {s : zy_S} {r : Int32} {s' : zy_S}  (h : zyF232_3b k3 x1 x2 x3 x4 s = some (r, s')) : zyR X 3 232 3 [some (.ref (43 + 3)), some (.int x1), some (.int x2), some (.int x3), some (.int x4), none] [] s (zyE (some (.int r)) s') := by
  unfold zyF232_3b at h
  refine zy_3 rfl rfl (show zyR _ _ _ _ [some (.ref (43 + 3)), some (.int x1), some (.int x2), some (.int x3), some (.int x4), none] [.int (2 : Int32)] _ _ from ?_)
  refine zy_2 rfl rfl (show zyR _ _ _ _ [some (.ref (43 + 3)), some (.int x1), some (.int x2), some (.int x3), some (.int x4), none] [.int x4, .int (2 : Int32)] _ _ from ?_)
  refine zy_12 rfl (show zyR _ _ _ _ [some (.ref (43 + 3)), some (.int x1), some (.int x2), some (.int x3), some (.int x4), none] [.int ((2 : Int32) * x4)] _ _ from ?_)
  refine zy_3 rfl rfl (show zyR _ _ _ _ [some (.ref (43 + 3)), some (.int x1), some (.int x2), some (.int x3), some (.int x4), none] [.int (1 : Int32), .int ((2 : Int32) * x4)] _ _ from ?_)
  refine zy_10 rfl (show zyR _ _ _ _ [some (.ref (43 + 3)), some (.int x1), some (.int x2), some (.int x3), some (.int x4), none] [.int (((2 : Int32) * x4) + (1 : Int32))] _ _ from ?_)
  refine zy_0 rfl rfl (show zyR _ _ _ _ [some (.ref (43 + 3)), some (.int x1), some (.int x2), some (.int x3), some (.int x4), none] [.ref (43 + 3), .int (((2 : Int32) * x4) + (1 : Int32))] _ _ from ?_)
  refine zy_1r (c := 43) rfl rfl rfl (show zyR _ _ _ _ [some (.ref (43 + 3)), some (.int x1), some (.int x2), some (.int x3), some (.int x4), none] [.ref (61 + 3), .int (((2 : Int32) * x4) + (1 : Int32))] _ _ from ?_)
  refine zy_2 rfl rfl (show zyR _ _ _ _ [some (.ref (43 + 3)), some (.int x1), some (.int x2), some (.int x3), some (.int x4), none] [.int x1, .ref (61 + 3), .int (((2 : Int32) * x4) + (1 : Int32))] _ _ from ?_)
  obtain ⟨c2, h⟩ := zy_if h
  refine zy_26 (c := 61) rfl rfl c2 (show zyR _ _ _ _ [some (.ref (43 + 3)), some (.int x1), some (.int x2), some (.int x3), some (.int x4), none] [.int (s.1 61 (x1).toNatClampNeg), .int (((2 : Int32) * x4) + (1 : Int32))] _ _ from ?_)
  refine zy_25_3 rfl (fun b11 => (show zyR _ _ _ _ [some (.ref (43 + 3)), some (.int x1), some (.int x2), some (.int x3), some (.int x4), none] [] _ _ from ?_)) (fun b11 => (show zyR _ _ _ _ [some (.ref (43 + 3)), some (.int x1), some (.int x2), some (.int x3), some (.int x4), none] [] _ _ from ?_))
  · replace h := zy_ifp h b11
    refine zy_3 rfl rfl (show zyR _ _ _ _ [some (.ref (43 + 3)), some (.int x1), some (.int x2), some (.int x3), some (.int x4), none] [.int (1 : Int32)] _ _ from ?_)
    cases h
    exact zy_4b rfl ⟨rfl, rfl⟩ (Or.inr rfl)
  · replace h := zy_ifn h b11
    refine zy_3 rfl rfl (show zyR _ _ _ _ [some (.ref (43 + 3)), some (.int x1), some (.int x2), some (.int x3), some (.int x4), none] [.int (60 : Int32)] _ _ from ?_)
    refine zy_2 rfl rfl (show zyR _ _ _ _ [some (.ref (43 + 3)), some (.int x1), some (.int x2), some (.int x3), some (.int x4), none] [.int x1, .int (60 : Int32)] _ _ from ?_)
    refine zy_12 rfl (show zyR _ _ _ _ [some (.ref (43 + 3)), some (.int x1), some (.int x2), some (.int x3), some (.int x4), none] [.int ((60 : Int32) * x1)] _ _ from ?_)
    refine zy_3 rfl rfl (show zyR _ _ _ _ [some (.ref (43 + 3)), some (.int x1), some (.int x2), some (.int x3), some (.int x4), none] [.int (2 : Int32), .int ((60 : Int32) * x1)] _ _ from ?_)
    refine zy_2 rfl rfl (show zyR _ _ _ _ [some (.ref (43 + 3)), some (.int x1), some (.int x2), some (.int x3), some (.int x4), none] [.int x4, .int (2 : Int32), .int ((60 : Int32) * x1)] _ _ from ?_)
    refine zy_12 rfl (show zyR _ _ _ _ [some (.ref (43 + 3)), some (.int x1), some (.int x2), some (.int x3), some (.int x4), none] [.int ((2 : Int32) * x4), .int ((60 : Int32) * x1)] _ _ from ?_)
    refine zy_10 rfl (show zyR _ _ _ _ [some (.ref (43 + 3)), some (.int x1), some (.int x2), some (.int x3), some (.int x4), none] [.int (((60 : Int32) * x1) + ((2 : Int32) * x4))] _ _ from ?_)
    refine zy_23 rfl rfl (show zyR _ _ _ _ [some (.ref (43 + 3)), some (.int x1), some (.int x2), some (.int x3), some (.int x4), some (.int (((60 : Int32) * x1) + ((2 : Int32) * x4)))] [] _ _ from ?_)
    refine zy_0 rfl rfl (show zyR _ _ _ _ [some (.ref (43 + 3)), some (.int x1), some (.int x2), some (.int x3), some (.int x4), some (.int (((60 : Int32) * x1) + ((2 : Int32) * x4)))] [.ref (43 + 3)] _ _ from ?_)
    refine zy_1r (c := 43) rfl rfl rfl (show zyR _ _ _ _ [some (.ref (43 + 3)), some (.int x1), some (.int x2), some (.int x3), some (.int x4), some (.int (((60 : Int32) * x1) + ((2 : Int32) * x4)))] [.ref (62 + 3)] _ _ from ?_)
    refine zy_2 rfl rfl (show zyR _ _ _ _ [some (.ref (43 + 3)), some (.int x1), some (.int x2), some (.int x3), some (.int x4), some (.int (((60 : Int32) * x1) + ((2 : Int32) * x4)))] [.int (((60 : Int32) * x1) + ((2 : Int32) * x4)), .ref (62 + 3)] _ _ from ?_)
    obtain ⟨c3, h⟩ := zy_if h
    refine zy_30 (c := 62) rfl rfl c3 (show zyR _ _ _ _ [some (.ref (43 + 3)), some (.int x1), some (.int x2), some (.int x3), some (.int x4), some (.int (((60 : Int32) * x1) + ((2 : Int32) * x4)))] [.long (s.2.1 62 ((((60 : Int32) * x1) + ((2 : Int32) * x4))).toNatClampNeg)] _ _ from ?_)
    obtain ⟨p4, hp4, h⟩ := zy_bind h
    refine zy_60 (as := [.long (s.2.1 62 ((((60 : Int32) * x1) + ((2 : Int32) * x4))).toNatClampNeg)]) (rest := []) (L := [some (.long (s.2.1 62 ((((60 : Int32) * x1) + ((2 : Int32) * x4))).toNatClampNeg)), none]) (d' := 2) rfl rfl (Nat.le_of_ble_eq_true rfl) (Nat.le_of_ble_eq_true rfl) rfl (Nat.le_of_ble_eq_true rfl) rfl rfl (zyC186 hp4) ?_
    show zyR _ _ _ _ [some (.ref (43 + 3)), some (.int x1), some (.int x2), some (.int x3), some (.int x4), some (.int (((60 : Int32) * x1) + ((2 : Int32) * x4)))] [.int p4.1] _ _
    refine zy_24_0 rfl (fun b10 => (show zyR _ _ _ _ [some (.ref (43 + 3)), some (.int x1), some (.int x2), some (.int x3), some (.int x4), some (.int (((60 : Int32) * x1) + ((2 : Int32) * x4)))] [] _ _ from ?_)) (fun b10 => (show zyR _ _ _ _ [some (.ref (43 + 3)), some (.int x1), some (.int x2), some (.int x3), some (.int x4), some (.int (((60 : Int32) * x1) + ((2 : Int32) * x4)))] [] _ _ from ?_))
    · replace h := zy_ifp h b10
      exact zy_sub (show zy_le [some (.ref (43 + 3)), some (.int x1), some (.int x2), some (.int x3), some (.int x4), none] [some (.ref (43 + 3)), some (.int x1), some (.int x2), some (.int x3), some (.int x4), some (.int (((60 : Int32) * x1) + ((2 : Int32) * x4)))] from ⟨rfl, ⟨rfl, ⟨rfl, ⟨rfl, ⟨rfl, trivial⟩⟩⟩⟩⟩) (zyC232_96 hk3 h)
    · replace h := zy_ifn h b10
      refine zy_0 rfl rfl (show zyR _ _ _ _ [some (.ref (43 + 3)), some (.int x1), some (.int x2), some (.int x3), some (.int x4), some (.int (((60 : Int32) * x1) + ((2 : Int32) * x4)))] [.ref (43 + 3)] _ _ from ?_)
      refine zy_1r (c := 43) rfl rfl rfl (show zyR _ _ _ _ [some (.ref (43 + 3)), some (.int x1), some (.int x2), some (.int x3), some (.int x4), some (.int (((60 : Int32) * x1) + ((2 : Int32) * x4)))] [.ref (62 + 3)] _ _ from ?_)
      refine zy_2 rfl rfl (show zyR _ _ _ _ [some (.ref (43 + 3)), some (.int x1), some (.int x2), some (.int x3), some (.int x4), some (.int (((60 : Int32) * x1) + ((2 : Int32) * x4)))] [.int (((60 : Int32) * x1) + ((2 : Int32) * x4)), .ref (62 + 3)] _ _ from ?_)
      obtain ⟨c5, h⟩ := zy_if h
      refine zy_30 (c := 62) rfl rfl c5 (show zyR _ _ _ _ [some (.ref (43 + 3)), some (.int x1), some (.int x2), some (.int x3), some (.int x4), some (.int (((60 : Int32) * x1) + ((2 : Int32) * x4)))] [.long (p4.2.2.1 62 ((((60 : Int32) * x1) + ((2 : Int32) * x4))).toNatClampNeg)] _ _ from ?_)
      refine zy_36c rfl rfl (show zyR _ _ _ _ [some (.ref (43 + 3)), some (.int x1), some (.int x2), some (.int x3), some (.int x4), some (.int (((60 : Int32) * x1) + ((2 : Int32) * x4)))] [.long (4 : Int64), .long (p4.2.2.1 62 ((((60 : Int32) * x1) + ((2 : Int32) * x4))).toNatClampNeg)] _ _ from ?_)
      refine zy_48 rfl (by decide) (show zyR _ _ _ _ [some (.ref (43 + 3)), some (.int x1), some (.int x2), some (.int x3), some (.int x4), some (.int (((60 : Int32) * x1) + ((2 : Int32) * x4)))] [.long ((p4.2.2.1 62 ((((60 : Int32) * x1) + ((2 : Int32) * x4))).toNatClampNeg) / (4 : Int64))] _ _ from ?_)
      refine zy_2 rfl rfl (show zyR _ _ _ _ [some (.ref (43 + 3)), some (.int x1), some (.int x2), some (.int x3), some (.int x4), some (.int (((60 : Int32) * x1) + ((2 : Int32) * x4)))] [.int x2, .long ((p4.2.2.1 62 ((((60 : Int32) * x1) + ((2 : Int32) * x4))).toNatClampNeg) / (4 : Int64))] _ _ from ?_)
      refine zy_40 rfl (show zyR _ _ _ _ [some (.ref (43 + 3)), some (.int x1), some (.int x2), some (.int x3), some (.int x4), some (.int (((60 : Int32) * x1) + ((2 : Int32) * x4)))] [.long (x2).toInt64, .long ((p4.2.2.1 62 ((((60 : Int32) * x1) + ((2 : Int32) * x4))).toNatClampNeg) / (4 : Int64))] _ _ from ?_)
      refine zy_44 rfl (show zyR _ _ _ _ [some (.ref (43 + 3)), some (.int x1), some (.int x2), some (.int x3), some (.int x4), some (.int (((60 : Int32) * x1) + ((2 : Int32) * x4)))] [.int (lg_cmp ((p4.2.2.1 62 ((((60 : Int32) * x1) + ((2 : Int32) * x4))).toNatClampNeg) / (4 : Int64)) (x2).toInt64)] _ _ from ?_)
      refine zy_24_1 rfl (fun b9 => (show zyR _ _ _ _ [some (.ref (43 + 3)), some (.int x1), some (.int x2), some (.int x3), some (.int x4), some (.int (((60 : Int32) * x1) + ((2 : Int32) * x4)))] [] _ _ from ?_)) (fun b9 => (show zyR _ _ _ _ [some (.ref (43 + 3)), some (.int x1), some (.int x2), some (.int x3), some (.int x4), some (.int (((60 : Int32) * x1) + ((2 : Int32) * x4)))] [] _ _ from ?_))
      · replace h := zy_ifp h b9
        exact zy_sub (show zy_le [some (.ref (43 + 3)), some (.int x1), some (.int x2), some (.int x3), some (.int x4), none] [some (.ref (43 + 3)), some (.int x1), some (.int x2), some (.int x3), some (.int x4), some (.int (((60 : Int32) * x1) + ((2 : Int32) * x4)))] from ⟨rfl, ⟨rfl, ⟨rfl, ⟨rfl, ⟨rfl, trivial⟩⟩⟩⟩⟩) (zyC232_96 hk3 h)
      · replace h := zy_ifn h b9
        refine zy_0 rfl rfl (show zyR _ _ _ _ [some (.ref (43 + 3)), some (.int x1), some (.int x2), some (.int x3), some (.int x4), some (.int (((60 : Int32) * x1) + ((2 : Int32) * x4)))] [.ref (43 + 3)] _ _ from ?_)
        refine zy_1r (c := 43) rfl rfl rfl (show zyR _ _ _ _ [some (.ref (43 + 3)), some (.int x1), some (.int x2), some (.int x3), some (.int x4), some (.int (((60 : Int32) * x1) + ((2 : Int32) * x4)))] [.ref (62 + 3)] _ _ from ?_)
        refine zy_2 rfl rfl (show zyR _ _ _ _ [some (.ref (43 + 3)), some (.int x1), some (.int x2), some (.int x3), some (.int x4), some (.int (((60 : Int32) * x1) + ((2 : Int32) * x4)))] [.int (((60 : Int32) * x1) + ((2 : Int32) * x4)), .ref (62 + 3)] _ _ from ?_)
        refine zy_3 rfl rfl (show zyR _ _ _ _ [some (.ref (43 + 3)), some (.int x1), some (.int x2), some (.int x3), some (.int x4), some (.int (((60 : Int32) * x1) + ((2 : Int32) * x4)))] [.int (1 : Int32), .int (((60 : Int32) * x1) + ((2 : Int32) * x4)), .ref (62 + 3)] _ _ from ?_)
        refine zy_10 rfl (show zyR _ _ _ _ [some (.ref (43 + 3)), some (.int x1), some (.int x2), some (.int x3), some (.int x4), some (.int (((60 : Int32) * x1) + ((2 : Int32) * x4)))] [.int ((((60 : Int32) * x1) + ((2 : Int32) * x4)) + (1 : Int32)), .ref (62 + 3)] _ _ from ?_)
        obtain ⟨c6, h⟩ := zy_if h
        refine zy_30 (c := 62) rfl rfl c6 (show zyR _ _ _ _ [some (.ref (43 + 3)), some (.int x1), some (.int x2), some (.int x3), some (.int x4), some (.int (((60 : Int32) * x1) + ((2 : Int32) * x4)))] [.long (p4.2.2.1 62 (((((60 : Int32) * x1) + ((2 : Int32) * x4)) + (1 : Int32))).toNatClampNeg)] _ _ from ?_)
        refine zy_0 rfl rfl (show zyR _ _ _ _ [some (.ref (43 + 3)), some (.int x1), some (.int x2), some (.int x3), some (.int x4), some (.int (((60 : Int32) * x1) + ((2 : Int32) * x4)))] [.ref (43 + 3), .long (p4.2.2.1 62 (((((60 : Int32) * x1) + ((2 : Int32) * x4)) + (1 : Int32))).toNatClampNeg)] _ _ from ?_)
        refine zy_1r (c := 43) rfl rfl rfl (show zyR _ _ _ _ [some (.ref (43 + 3)), some (.int x1), some (.int x2), some (.int x3), some (.int x4), some (.int (((60 : Int32) * x1) + ((2 : Int32) * x4)))] [.ref (62 + 3), .long (p4.2.2.1 62 (((((60 : Int32) * x1) + ((2 : Int32) * x4)) + (1 : Int32))).toNatClampNeg)] _ _ from ?_)
        refine zy_2 rfl rfl (show zyR _ _ _ _ [some (.ref (43 + 3)), some (.int x1), some (.int x2), some (.int x3), some (.int x4), some (.int (((60 : Int32) * x1) + ((2 : Int32) * x4)))] [.int (((60 : Int32) * x1) + ((2 : Int32) * x4)), .ref (62 + 3), .long (p4.2.2.1 62 (((((60 : Int32) * x1) + ((2 : Int32) * x4)) + (1 : Int32))).toNatClampNeg)] _ _ from ?_)
        obtain ⟨c7, h⟩ := zy_if h
        refine zy_30 (c := 62) rfl rfl c7 (show zyR _ _ _ _ [some (.ref (43 + 3)), some (.int x1), some (.int x2), some (.int x3), some (.int x4), some (.int (((60 : Int32) * x1) + ((2 : Int32) * x4)))] [.long (p4.2.2.1 62 ((((60 : Int32) * x1) + ((2 : Int32) * x4))).toNatClampNeg), .long (p4.2.2.1 62 (((((60 : Int32) * x1) + ((2 : Int32) * x4)) + (1 : Int32))).toNatClampNeg)] _ _ from ?_)
        refine zy_36c rfl rfl (show zyR _ _ _ _ [some (.ref (43 + 3)), some (.int x1), some (.int x2), some (.int x3), some (.int x4), some (.int (((60 : Int32) * x1) + ((2 : Int32) * x4)))] [.long (4 : Int64), .long (p4.2.2.1 62 ((((60 : Int32) * x1) + ((2 : Int32) * x4))).toNatClampNeg), .long (p4.2.2.1 62 (((((60 : Int32) * x1) + ((2 : Int32) * x4)) + (1 : Int32))).toNatClampNeg)] _ _ from ?_)
        refine zy_49 rfl (by decide) (show zyR _ _ _ _ [some (.ref (43 + 3)), some (.int x1), some (.int x2), some (.int x3), some (.int x4), some (.int (((60 : Int32) * x1) + ((2 : Int32) * x4)))] [.long ((p4.2.2.1 62 ((((60 : Int32) * x1) + ((2 : Int32) * x4))).toNatClampNeg) - (p4.2.2.1 62 ((((60 : Int32) * x1) + ((2 : Int32) * x4))).toNatClampNeg) / (4 : Int64) * (4 : Int64)), .long (p4.2.2.1 62 (((((60 : Int32) * x1) + ((2 : Int32) * x4)) + (1 : Int32))).toNatClampNeg)] _ _ from ?_)
        refine zy_2 rfl rfl (show zyR _ _ _ _ [some (.ref (43 + 3)), some (.int x1), some (.int x2), some (.int x3), some (.int x4), some (.int (((60 : Int32) * x1) + ((2 : Int32) * x4)))] [.int x3, .long ((p4.2.2.1 62 ((((60 : Int32) * x1) + ((2 : Int32) * x4))).toNatClampNeg) - (p4.2.2.1 62 ((((60 : Int32) * x1) + ((2 : Int32) * x4))).toNatClampNeg) / (4 : Int64) * (4 : Int64)), .long (p4.2.2.1 62 (((((60 : Int32) * x1) + ((2 : Int32) * x4)) + (1 : Int32))).toNatClampNeg)] _ _ from ?_)
        refine zy_40 rfl (show zyR _ _ _ _ [some (.ref (43 + 3)), some (.int x1), some (.int x2), some (.int x3), some (.int x4), some (.int (((60 : Int32) * x1) + ((2 : Int32) * x4)))] [.long (x3).toInt64, .long ((p4.2.2.1 62 ((((60 : Int32) * x1) + ((2 : Int32) * x4))).toNatClampNeg) - (p4.2.2.1 62 ((((60 : Int32) * x1) + ((2 : Int32) * x4))).toNatClampNeg) / (4 : Int64) * (4 : Int64)), .long (p4.2.2.1 62 (((((60 : Int32) * x1) + ((2 : Int32) * x4)) + (1 : Int32))).toNatClampNeg)] _ _ from ?_)
        refine zy_44 rfl (show zyR _ _ _ _ [some (.ref (43 + 3)), some (.int x1), some (.int x2), some (.int x3), some (.int x4), some (.int (((60 : Int32) * x1) + ((2 : Int32) * x4)))] [.int (lg_cmp ((p4.2.2.1 62 ((((60 : Int32) * x1) + ((2 : Int32) * x4))).toNatClampNeg) - (p4.2.2.1 62 ((((60 : Int32) * x1) + ((2 : Int32) * x4))).toNatClampNeg) / (4 : Int64) * (4 : Int64)) (x3).toInt64), .long (p4.2.2.1 62 (((((60 : Int32) * x1) + ((2 : Int32) * x4)) + (1 : Int32))).toNatClampNeg)] _ _ from ?_)
        refine zy_24_1 rfl (fun b8 => (show zyR _ _ _ _ [some (.ref (43 + 3)), some (.int x1), some (.int x2), some (.int x3), some (.int x4), some (.int (((60 : Int32) * x1) + ((2 : Int32) * x4)))] [.long (p4.2.2.1 62 (((((60 : Int32) * x1) + ((2 : Int32) * x4)) + (1 : Int32))).toNatClampNeg)] _ _ from ?_)) (fun b8 => (show zyR _ _ _ _ [some (.ref (43 + 3)), some (.int x1), some (.int x2), some (.int x3), some (.int x4), some (.int (((60 : Int32) * x1) + ((2 : Int32) * x4)))] [.long (p4.2.2.1 62 (((((60 : Int32) * x1) + ((2 : Int32) * x4)) + (1 : Int32))).toNatClampNeg)] _ _ from ?_))
        · replace h := zy_ifp h b8
          refine zy_36 rfl rfl (show zyR _ _ _ _ [some (.ref (43 + 3)), some (.int x1), some (.int x2), some (.int x3), some (.int x4), some (.int (((60 : Int32) * x1) + ((2 : Int32) * x4)))] [.long (1 : Int64), .long (p4.2.2.1 62 (((((60 : Int32) * x1) + ((2 : Int32) * x4)) + (1 : Int32))).toNatClampNeg)] _ _ from ?_)
          exact zy_sub (show zy_le [some (.ref (43 + 3)), some (.int x1), some (.int x2), some (.int x3), some (.int x4), none] [some (.ref (43 + 3)), some (.int x1), some (.int x2), some (.int x3), some (.int x4), some (.int (((60 : Int32) * x1) + ((2 : Int32) * x4)))] from ⟨rfl, ⟨rfl, ⟨rfl, ⟨rfl, ⟨rfl, trivial⟩⟩⟩⟩⟩) (zyC232_90 hk3 h)
        · replace h := zy_ifn h b8
          refine zy_36 rfl rfl (show zyR _ _ _ _ [some (.ref (43 + 3)), some (.int x1), some (.int x2), some (.int x3), some (.int x4), some (.int (((60 : Int32) * x1) + ((2 : Int32) * x4)))] [.long (0 : Int64), .long (p4.2.2.1 62 (((((60 : Int32) * x1) + ((2 : Int32) * x4)) + (1 : Int32))).toNatClampNeg)] _ _ from ?_)
          refine zy_6 rfl (show zyR _ _ _ _ [some (.ref (43 + 3)), some (.int x1), some (.int x2), some (.int x3), some (.int x4), some (.int (((60 : Int32) * x1) + ((2 : Int32) * x4)))] [.long (0 : Int64), .long (p4.2.2.1 62 (((((60 : Int32) * x1) + ((2 : Int32) * x4)) + (1 : Int32))).toNatClampNeg)] _ _ from ?_)
          exact zy_sub (show zy_le [some (.ref (43 + 3)), some (.int x1), some (.int x2), some (.int x3), some (.int x4), none] [some (.ref (43 + 3)), some (.int x1), some (.int x2), some (.int x3), some (.int x4), some (.int (((60 : Int32) * x1) + ((2 : Int32) * x4)))] from ⟨rfl, ⟨rfl, ⟨rfl, ⟨rfl, ⟨rfl, trivial⟩⟩⟩⟩⟩) (zyC232_90 hk3 h)
noncomputable def zyF232_3   (n : Nat) : Int32 → Int32 → Int32 → Int32 → zy_S → Option (Int32 × zy_S) := Nat.rec (fun _ _ _ _ _ => none) (fun _ k3 => zyF232_3b k3) n
theorem zyC232_3 {X : zx_X}     : ∀ (n : Nat) (x1 : Int32) (x2 : Int32) (x3 : Int32) (x4 : Int32) (s : zy_S) (r : Int32) (s' : zy_S), zyF232_3 n x1 x2 x3 x4 s = some (r, s') → zyR X 3 232 3 [some (.ref (43 + 3)), some (.int x1), some (.int x2), some (.int x3), some (.int x4), none] [] s (zyE (some (.int r)) s')
  | 0, _, _, _, _ => by
    intro s r s'  h
    have h : (none : Option (Int32 × zy_S)) = some (r, s') := h
    cases h
  | n + 1, x1, x2, x3, x4 => by
    intro s r s'  h
    exact zyC232_3b (k3 := zyF232_3 n) (fun x1 x2 x3 x4 s r s'  h => zyC232_3  n x1 x2 x3 x4 s r s'  h) h
noncomputable def zyF232   (x1 : Int32) (x2 : Int32) (x3 : Int32) (s : zy_S) : Option (Int32 × zy_S) :=
zyF232_3 zy_fu x1 x2 x3 (0 : Int32) s
theorem zyC232 {X : zx_X}     {x1 : Int32} {x2 : Int32} {x3 : Int32} {s : zy_S} {r : Int32} {s' : zy_S}  (h : zyF232 x1 x2 x3 s = some (r, s')) : zyR X 3 232 0 [some (.ref (43 + 3)), some (.int x1), some (.int x2), some (.int x3), none, none] [] s (zyE (some (.int r)) s') := by
  unfold zyF232 at h
  refine zy_3 rfl rfl (show zyR _ _ _ _ [some (.ref (43 + 3)), some (.int x1), some (.int x2), some (.int x3), none, none] [.int (0 : Int32)] _ _ from ?_)
  refine zy_23 rfl rfl (show zyR _ _ _ _ [some (.ref (43 + 3)), some (.int x1), some (.int x2), some (.int x3), some (.int (0 : Int32)), none] [] _ _ from ?_)
  exact zy_sub (show zy_le [some (.ref (43 + 3)), some (.int x1), some (.int x2), some (.int x3), some (.int (0 : Int32)), none] [some (.ref (43 + 3)), some (.int x1), some (.int x2), some (.int x3), some (.int (0 : Int32)), none] from ⟨rfl, ⟨rfl, ⟨rfl, ⟨rfl, ⟨rfl, trivial⟩⟩⟩⟩⟩) (zyC232_3 zy_fu x1 x2 x3 (0 : Int32) s _ _ h)
/-! NineOpinionsModel.believes(III)I -/
noncomputable def zyF231_91  (k57 : Int32 → Int32 → Int32 → Int32 → Int32 → Int32 → zy_S → Option (Int32 × zy_S)) (x1 : Int32) (x2 : Int32) (x3 : Int32) (x4 : Int32) (x5 : Int32) (x6 : Int32) (s : zy_S) : Option (Int32 × zy_S) :=
k57 x1 x2 x3 x4 x5 (x6 + (1 : Int32)) s
theorem zyC231_91 {X : zx_X}  {k57 : Int32 → Int32 → Int32 → Int32 → Int32 → Int32 → zy_S → Option (Int32 × zy_S)}  (hk57 : ∀ (x1 : Int32) (x2 : Int32) (x3 : Int32) (x4 : Int32) (x5 : Int32) (x6 : Int32) (s : zy_S) (r : Int32) (s' : zy_S), k57 x1 x2 x3 x4 x5 x6 s = some (r, s') → zyR X 4 231 57 [some (.ref (43 + 3)), some (.int x1), some (.int x2), some (.int x3), some (.int x4), some (.int x5), some (.int x6)] [] s (zyE (some (.int r)) s')) {x1 : Int32} {x2 : Int32} {x3 : Int32} {x4 : Int32} {x5 : Int32} {x6 : Int32} {s : zy_S} {r : Int32} {s' : zy_S}  (h : zyF231_91 k57 x1 x2 x3 x4 x5 x6 s = some (r, s')) : zyR X 4 231 91 [some (.ref (43 + 3)), some (.int x1), some (.int x2), some (.int x3), some (.int x4), some (.int x5), some (.int x6)] [] s (zyE (some (.int r)) s') := by
  unfold zyF231_91 at h
  refine zy_22 rfl rfl rfl rfl (show zyR _ _ _ _ [some (.ref (43 + 3)), some (.int x1), some (.int x2), some (.int x3), some (.int x4), some (.int x5), some (.int (x6 + (1 : Int32)))] [] _ _ from ?_)
  refine zy_6 rfl (show zyR _ _ _ _ [some (.ref (43 + 3)), some (.int x1), some (.int x2), some (.int x3), some (.int x4), some (.int x5), some (.int (x6 + (1 : Int32)))] [] _ _ from ?_)
  exact zy_sub (show zy_le [some (.ref (43 + 3)), some (.int x1), some (.int x2), some (.int x3), some (.int x4), some (.int x5), some (.int (x6 + (1 : Int32)))] [some (.ref (43 + 3)), some (.int x1), some (.int x2), some (.int x3), some (.int x4), some (.int x5), some (.int (x6 + (1 : Int32)))] from ⟨rfl, ⟨rfl, ⟨rfl, ⟨rfl, ⟨rfl, ⟨rfl, ⟨rfl, trivial⟩⟩⟩⟩⟩⟩⟩) (hk57 x1 x2 x3 x4 x5 (x6 + (1 : Int32)) s _ _ h)
noncomputable def zyF231_86  (k57 : Int32 → Int32 → Int32 → Int32 → Int32 → Int32 → zy_S → Option (Int32 × zy_S)) (x1 : Int32) (x2 : Int32) (x3 : Int32) (x4 : Int32) (x6 : Int32) (y0 : Int32) (s : zy_S) : Option (Int32 × zy_S) :=
zyF231_91 k57 x1 x2 x3 (x4 + (1 : Int32)) y0 x6 s
theorem zyC231_86 {X : zx_X}  {k57 : Int32 → Int32 → Int32 → Int32 → Int32 → Int32 → zy_S → Option (Int32 × zy_S)}  (hk57 : ∀ (x1 : Int32) (x2 : Int32) (x3 : Int32) (x4 : Int32) (x5 : Int32) (x6 : Int32) (s : zy_S) (r : Int32) (s' : zy_S), k57 x1 x2 x3 x4 x5 x6 s = some (r, s') → zyR X 4 231 57 [some (.ref (43 + 3)), some (.int x1), some (.int x2), some (.int x3), some (.int x4), some (.int x5), some (.int x6)] [] s (zyE (some (.int r)) s')) {x1 : Int32} {x2 : Int32} {x3 : Int32} {x4 : Int32} {x6 : Int32} {y0 : Int32} {s : zy_S} {r : Int32} {s' : zy_S}  (h : zyF231_86 k57 x1 x2 x3 x4 x6 y0 s = some (r, s')) : zyR X 4 231 86 [some (.ref (43 + 3)), some (.int x1), some (.int x2), some (.int x3), some (.int x4), none, some (.int x6)] [.int y0] s (zyE (some (.int r)) s') := by
  unfold zyF231_86 at h
  refine zy_23 rfl rfl (show zyR _ _ _ _ [some (.ref (43 + 3)), some (.int x1), some (.int x2), some (.int x3), some (.int x4), some (.int y0), some (.int x6)] [] _ _ from ?_)
  refine zy_22 rfl rfl rfl rfl (show zyR _ _ _ _ [some (.ref (43 + 3)), some (.int x1), some (.int x2), some (.int x3), some (.int (x4 + (1 : Int32))), some (.int y0), some (.int x6)] [] _ _ from ?_)
  exact zy_sub (show zy_le [some (.ref (43 + 3)), some (.int x1), some (.int x2), some (.int x3), some (.int (x4 + (1 : Int32))), some (.int y0), some (.int x6)] [some (.ref (43 + 3)), some (.int x1), some (.int x2), some (.int x3), some (.int (x4 + (1 : Int32))), some (.int y0), some (.int x6)] from ⟨rfl, ⟨rfl, ⟨rfl, ⟨rfl, ⟨rfl, ⟨rfl, ⟨rfl, trivial⟩⟩⟩⟩⟩⟩⟩) (zyC231_91 hk57 h)
noncomputable def zyF231_57b  (k57 : Int32 → Int32 → Int32 → Int32 → Int32 → Int32 → zy_S → Option (Int32 × zy_S)) (x1 : Int32) (x2 : Int32) (x3 : Int32) (x4 : Int32) (x5 : Int32) (x6 : Int32) (s : zy_S) : Option (Int32 × zy_S) :=
if (4 : Int32) ≤ x6 then
if x3 ≠ 0 then
some (x5, s)
else
some (x4, s)
else
(zyF232 x1 x2 x6 s).bind fun p2 =>
if p2.1 = 0 then
zyF231_91 k57 x1 x2 x3 x4 x5 x6 p2.2
else
if x4 ≠ 0 then
zyF231_86 k57 x1 x2 x3 x4 x6 x5 p2.2
else
zyF231_86 k57 x1 x2 x3 x4 x6 x6 p2.2
theorem zyC231_57b {X : zx_X}  {k57 : Int32 → Int32 → Int32 → Int32 → Int32 → Int32 → zy_S → Option (Int32 × zy_S)}  (hk57 : ∀ (x1 : Int32) (x2 : Int32) (x3 : Int32) (x4 : Int32) (x5 : Int32) (x6 : Int32) (s : zy_S) (r : Int32) (s' : zy_S), k57 x1 x2 x3 x4 x5 x6 s = some (r, s') → zyR X 4 231 57 [some (.ref (43 + 3)), some (.int x1), some (.int x2), some (.int x3), some (.int x4), some (.int x5), some (.int x6)] [] s (zyE (some (.int r)) s')) {x1 : Int32} {x2 : Int32} {x3 : Int32} {x4 : Int32} {x5 : Int32} {x6 : Int32} {s : zy_S} {r : Int32} {s' : zy_S}  (h : zyF231_57b k57 x1 x2 x3 x4 x5 x6 s = some (r, s')) : zyR X 4 231 57 [some (.ref (43 + 3)), some (.int x1), some (.int x2), some (.int x3), some (.int x4), some (.int x5), some (.int x6)] [] s (zyE (some (.int r)) s') := by
  unfold zyF231_57b at h
  refine zy_2 rfl rfl (show zyR _ _ _ _ [some (.ref (43 + 3)), some (.int x1), some (.int x2), some (.int x3), some (.int x4), some (.int x5), some (.int x6)] [.int x6] _ _ from ?_)
  refine zy_3 rfl rfl (show zyR _ _ _ _ [some (.ref (43 + 3)), some (.int x1), some (.int x2), some (.int x3), some (.int x4), some (.int x5), some (.int x6)] [.int (4 : Int32), .int x6] _ _ from ?_)
  refine zy_25_3 rfl (fun b5 => (show zyR _ _ _ _ [some (.ref (43 + 3)), some (.int x1), some (.int x2), some (.int x3), some (.int x4), some (.int x5), some (.int x6)] [] _ _ from ?_)) (fun b5 => (show zyR _ _ _ _ [some (.ref (43 + 3)), some (.int x1), some (.int x2), some (.int x3), some (.int x4), some (.int x5), some (.int x6)] [] _ _ from ?_))
  · replace h := zy_ifp h b5
    refine zy_2 rfl rfl (show zyR _ _ _ _ [some (.ref (43 + 3)), some (.int x1), some (.int x2), some (.int x3), some (.int x4), some (.int x5), some (.int x6)] [.int x3] _ _ from ?_)
    refine zy_24_1 rfl (fun b1 => (show zyR _ _ _ _ [some (.ref (43 + 3)), some (.int x1), some (.int x2), some (.int x3), some (.int x4), some (.int x5), some (.int x6)] [] _ _ from ?_)) (fun b1 => (show zyR _ _ _ _ [some (.ref (43 + 3)), some (.int x1), some (.int x2), some (.int x3), some (.int x4), some (.int x5), some (.int x6)] [] _ _ from ?_))
    · replace h := zy_ifp h b1
      refine zy_2 rfl rfl (show zyR _ _ _ _ [some (.ref (43 + 3)), some (.int x1), some (.int x2), some (.int x3), some (.int x4), some (.int x5), some (.int x6)] [.int x5] _ _ from ?_)
      obtain ⟨rfl, rfl⟩ := zy_pi h
      exact zy_4 rfl ⟨rfl, rfl⟩
    · replace h := zy_ifn h b1
      refine zy_2 rfl rfl (show zyR _ _ _ _ [some (.ref (43 + 3)), some (.int x1), some (.int x2), some (.int x3), some (.int x4), some (.int x5), some (.int x6)] [.int x4] _ _ from ?_)
      refine zy_6 rfl (show zyR _ _ _ _ [some (.ref (43 + 3)), some (.int x1), some (.int x2), some (.int x3), some (.int x4), some (.int x5), some (.int x6)] [.int x4] _ _ from ?_)
      obtain ⟨rfl, rfl⟩ := zy_pi h
      exact zy_4 rfl ⟨rfl, rfl⟩
  · replace h := zy_ifn h b5
    refine zy_0 rfl rfl (show zyR _ _ _ _ [some (.ref (43 + 3)), some (.int x1), some (.int x2), some (.int x3), some (.int x4), some (.int x5), some (.int x6)] [.ref (43 + 3)] _ _ from ?_)
    refine zy_2 rfl rfl (show zyR _ _ _ _ [some (.ref (43 + 3)), some (.int x1), some (.int x2), some (.int x3), some (.int x4), some (.int x5), some (.int x6)] [.int x1, .ref (43 + 3)] _ _ from ?_)
    refine zy_2 rfl rfl (show zyR _ _ _ _ [some (.ref (43 + 3)), some (.int x1), some (.int x2), some (.int x3), some (.int x4), some (.int x5), some (.int x6)] [.int x2, .int x1, .ref (43 + 3)] _ _ from ?_)
    refine zy_2 rfl rfl (show zyR _ _ _ _ [some (.ref (43 + 3)), some (.int x1), some (.int x2), some (.int x3), some (.int x4), some (.int x5), some (.int x6)] [.int x6, .int x2, .int x1, .ref (43 + 3)] _ _ from ?_)
    obtain ⟨p2, hp2, h⟩ := zy_bind h
    refine zy_5 (c := 43) (as := [.int x1, .int x2, .int x6]) (rest := []) (L := [some (.ref (43 + 3)), some (.int x1), some (.int x2), some (.int x6), none, none]) (d' := 3) rfl rfl rfl (Nat.le_of_ble_eq_true rfl) (Nat.le_of_ble_eq_true rfl) rfl (Nat.le_of_ble_eq_true rfl) rfl rfl (zyC232 hp2) ?_
    show zyR _ _ _ _ [some (.ref (43 + 3)), some (.int x1), some (.int x2), some (.int x3), some (.int x4), some (.int x5), some (.int x6)] [.int p2.1] _ _
    refine zy_24_0 rfl (fun b4 => (show zyR _ _ _ _ [some (.ref (43 + 3)), some (.int x1), some (.int x2), some (.int x3), some (.int x4), some (.int x5), some (.int x6)] [] _ _ from ?_)) (fun b4 => (show zyR _ _ _ _ [some (.ref (43 + 3)), some (.int x1), some (.int x2), some (.int x3), some (.int x4), some (.int x5), some (.int x6)] [] _ _ from ?_))
    · replace h := zy_ifp h b4
      exact zy_sub (show zy_le [some (.ref (43 + 3)), some (.int x1), some (.int x2), some (.int x3), some (.int x4), some (.int x5), some (.int x6)] [some (.ref (43 + 3)), some (.int x1), some (.int x2), some (.int x3), some (.int x4), some (.int x5), some (.int x6)] from ⟨rfl, ⟨rfl, ⟨rfl, ⟨rfl, ⟨rfl, ⟨rfl, ⟨rfl, trivial⟩⟩⟩⟩⟩⟩⟩) (zyC231_91 hk57 h)
    · replace h := zy_ifn h b4
      refine zy_2 rfl rfl (show zyR _ _ _ _ [some (.ref (43 + 3)), some (.int x1), some (.int x2), some (.int x3), some (.int x4), some (.int x5), some (.int x6)] [.int x4] _ _ from ?_)
      refine zy_24_1 rfl (fun b3 => (show zyR _ _ _ _ [some (.ref (43 + 3)), some (.int x1), some (.int x2), some (.int x3), some (.int x4), some (.int x5), some (.int x6)] [] _ _ from ?_)) (fun b3 => (show zyR _ _ _ _ [some (.ref (43 + 3)), some (.int x1), some (.int x2), some (.int x3), some (.int x4), some (.int x5), some (.int x6)] [] _ _ from ?_))
      · replace h := zy_ifp h b3
        refine zy_2 rfl rfl (show zyR _ _ _ _ [some (.ref (43 + 3)), some (.int x1), some (.int x2), some (.int x3), some (.int x4), some (.int x5), some (.int x6)] [.int x5] _ _ from ?_)
        exact zy_sub (show zy_le [some (.ref (43 + 3)), some (.int x1), some (.int x2), some (.int x3), some (.int x4), none, some (.int x6)] [some (.ref (43 + 3)), some (.int x1), some (.int x2), some (.int x3), some (.int x4), some (.int x5), some (.int x6)] from ⟨rfl, ⟨rfl, ⟨rfl, ⟨rfl, ⟨rfl, ⟨rfl, trivial⟩⟩⟩⟩⟩⟩) (zyC231_86 hk57 h)
      · replace h := zy_ifn h b3
        refine zy_2 rfl rfl (show zyR _ _ _ _ [some (.ref (43 + 3)), some (.int x1), some (.int x2), some (.int x3), some (.int x4), some (.int x5), some (.int x6)] [.int x6] _ _ from ?_)
        refine zy_6 rfl (show zyR _ _ _ _ [some (.ref (43 + 3)), some (.int x1), some (.int x2), some (.int x3), some (.int x4), some (.int x5), some (.int x6)] [.int x6] _ _ from ?_)
        exact zy_sub (show zy_le [some (.ref (43 + 3)), some (.int x1), some (.int x2), some (.int x3), some (.int x4), none, some (.int x6)] [some (.ref (43 + 3)), some (.int x1), some (.int x2), some (.int x3), some (.int x4), some (.int x5), some (.int x6)] from ⟨rfl, ⟨rfl, ⟨rfl, ⟨rfl, ⟨rfl, ⟨rfl, trivial⟩⟩⟩⟩⟩⟩) (zyC231_86 hk57 h)
noncomputable def zyF231_57   (n : Nat) : Int32 → Int32 → Int32 → Int32 → Int32 → Int32 → zy_S → Option (Int32 × zy_S) := Nat.rec (fun _ _ _ _ _ _ _ => none) (fun _ k57 => zyF231_57b k57) n
theorem zyC231_57 {X : zx_X}     : ∀ (n : Nat) (x1 : Int32) (x2 : Int32) (x3 : Int32) (x4 : Int32) (x5 : Int32) (x6 : Int32) (s : zy_S) (r : Int32) (s' : zy_S), zyF231_57 n x1 x2 x3 x4 x5 x6 s = some (r, s') → zyR X 4 231 57 [some (.ref (43 + 3)), some (.int x1), some (.int x2), some (.int x3), some (.int x4), some (.int x5), some (.int x6)] [] s (zyE (some (.int r)) s')
  | 0, _, _, _, _, _, _ => by
    intro s r s'  h
    have h : (none : Option (Int32 × zy_S)) = some (r, s') := h
    cases h
  | n + 1, x1, x2, x3, x4, x5, x6 => by
    intro s r s'  h
    exact zyC231_57b (k57 := zyF231_57 n) (fun x1 x2 x3 x4 x5 x6 s r s'  h => zyC231_57  n x1 x2 x3 x4 x5 x6 s r s'  h) h
noncomputable def zyF231   (x1 : Int32) (x2 : Int32) (x3 : Int32) (s : zy_S) : Option (Int32 × zy_S) :=
(zyF229 x1 s).bind fun p6 =>
if p6.1 = (-1 : Int32) then
some ((-1 : Int32), p6.2)
else
(zyF179 (x2).toInt64 (0 : Int64) (5 : Int64) p6.2).bind fun p7 =>
if p7.1 = 0 then
some ((-1 : Int32), p7.2)
else
(zyF179 (x3).toInt64 (0 : Int64) (1 : Int64) p7.2).bind fun p8 =>
if p8.1 ≠ 0 then
(zyF229 x1 p8.2).bind fun p9 =>
if 0 ≤ p9.1 then
zyF231_57 zy_fu x1 x2 x3 (0 : Int32) (-2 : Int32) (0 : Int32) p9.2
else
(zyF229 x1 p9.2).bind fun p10 =>
some (p10.1, p10.2)
else
some ((-1 : Int32), p8.2)
theorem zyC231 {X : zx_X}     {x1 : Int32} {x2 : Int32} {x3 : Int32} {s : zy_S} {r : Int32} {s' : zy_S}  (h : zyF231 x1 x2 x3 s = some (r, s')) : zyR X 4 231 0 [some (.ref (43 + 3)), some (.int x1), some (.int x2), some (.int x3), none, none, none] [] s (zyE (some (.int r)) s') := by
  unfold zyF231 at h
  refine zy_0 rfl rfl (show zyR _ _ _ _ [some (.ref (43 + 3)), some (.int x1), some (.int x2), some (.int x3), none, none, none] [.ref (43 + 3)] _ _ from ?_)
  refine zy_2 rfl rfl (show zyR _ _ _ _ [some (.ref (43 + 3)), some (.int x1), some (.int x2), some (.int x3), none, none, none] [.int x1, .ref (43 + 3)] _ _ from ?_)
  obtain ⟨p6, hp6, h⟩ := zy_bind h
  refine zy_5 (c := 43) (as := [.int x1]) (rest := []) (L := [some (.ref (43 + 3)), some (.int x1)]) (d' := 3) rfl rfl rfl (Nat.le_of_ble_eq_true rfl) (Nat.le_of_ble_eq_true rfl) rfl (Nat.le_of_ble_eq_true rfl) rfl rfl (zyC229 hp6) ?_
  show zyR _ _ _ _ [some (.ref (43 + 3)), some (.int x1), some (.int x2), some (.int x3), none, none, none] [.int p6.1] _ _
  refine zy_3 rfl rfl (show zyR _ _ _ _ [some (.ref (43 + 3)), some (.int x1), some (.int x2), some (.int x3), none, none, none] [.int (-1 : Int32), .int p6.1] _ _ from ?_)
  refine zy_25_0 rfl (fun b14 => (show zyR _ _ _ _ [some (.ref (43 + 3)), some (.int x1), some (.int x2), some (.int x3), none, none, none] [] _ _ from ?_)) (fun b14 => (show zyR _ _ _ _ [some (.ref (43 + 3)), some (.int x1), some (.int x2), some (.int x3), none, none, none] [] _ _ from ?_))
  · replace h := zy_ifp h b14
    refine zy_3 rfl rfl (show zyR _ _ _ _ [some (.ref (43 + 3)), some (.int x1), some (.int x2), some (.int x3), none, none, none] [.int (-1 : Int32)] _ _ from ?_)
    obtain ⟨rfl, rfl⟩ := zy_pi h
    exact zy_4 rfl ⟨rfl, rfl⟩
  · replace h := zy_ifn h b14
    refine zy_2 rfl rfl (show zyR _ _ _ _ [some (.ref (43 + 3)), some (.int x1), some (.int x2), some (.int x3), none, none, none] [.int x2] _ _ from ?_)
    refine zy_40 rfl (show zyR _ _ _ _ [some (.ref (43 + 3)), some (.int x1), some (.int x2), some (.int x3), none, none, none] [.long (x2).toInt64] _ _ from ?_)
    refine zy_36 rfl rfl (show zyR _ _ _ _ [some (.ref (43 + 3)), some (.int x1), some (.int x2), some (.int x3), none, none, none] [.long (0 : Int64), .long (x2).toInt64] _ _ from ?_)
    refine zy_36c rfl rfl (show zyR _ _ _ _ [some (.ref (43 + 3)), some (.int x1), some (.int x2), some (.int x3), none, none, none] [.long (5 : Int64), .long (0 : Int64), .long (x2).toInt64] _ _ from ?_)
    obtain ⟨p7, hp7, h⟩ := zy_bind h
    refine zy_60 (as := [.long (x2).toInt64, .long (0 : Int64), .long (5 : Int64)]) (rest := []) (L := [some (.long (x2).toInt64), none, some (.long (0 : Int64)), none, some (.long (5 : Int64)), none]) (d' := 1) rfl rfl (Nat.le_of_ble_eq_true rfl) (Nat.le_of_ble_eq_true rfl) rfl (Nat.le_of_ble_eq_true rfl) rfl rfl (zyC179 hp7) ?_
    show zyR _ _ _ _ [some (.ref (43 + 3)), some (.int x1), some (.int x2), some (.int x3), none, none, none] [.int p7.1] _ _
    refine zy_24_0 rfl (fun b13 => (show zyR _ _ _ _ [some (.ref (43 + 3)), some (.int x1), some (.int x2), some (.int x3), none, none, none] [] _ _ from ?_)) (fun b13 => (show zyR _ _ _ _ [some (.ref (43 + 3)), some (.int x1), some (.int x2), some (.int x3), none, none, none] [] _ _ from ?_))
    · replace h := zy_ifp h b13
      refine zy_3 rfl rfl (show zyR _ _ _ _ [some (.ref (43 + 3)), some (.int x1), some (.int x2), some (.int x3), none, none, none] [.int (-1 : Int32)] _ _ from ?_)
      obtain ⟨rfl, rfl⟩ := zy_pi h
      exact zy_4 rfl ⟨rfl, rfl⟩
    · replace h := zy_ifn h b13
      refine zy_2 rfl rfl (show zyR _ _ _ _ [some (.ref (43 + 3)), some (.int x1), some (.int x2), some (.int x3), none, none, none] [.int x3] _ _ from ?_)
      refine zy_40 rfl (show zyR _ _ _ _ [some (.ref (43 + 3)), some (.int x1), some (.int x2), some (.int x3), none, none, none] [.long (x3).toInt64] _ _ from ?_)
      refine zy_36 rfl rfl (show zyR _ _ _ _ [some (.ref (43 + 3)), some (.int x1), some (.int x2), some (.int x3), none, none, none] [.long (0 : Int64), .long (x3).toInt64] _ _ from ?_)
      refine zy_36 rfl rfl (show zyR _ _ _ _ [some (.ref (43 + 3)), some (.int x1), some (.int x2), some (.int x3), none, none, none] [.long (1 : Int64), .long (0 : Int64), .long (x3).toInt64] _ _ from ?_)
      obtain ⟨p8, hp8, h⟩ := zy_bind h
      refine zy_60 (as := [.long (x3).toInt64, .long (0 : Int64), .long (1 : Int64)]) (rest := []) (L := [some (.long (x3).toInt64), none, some (.long (0 : Int64)), none, some (.long (1 : Int64)), none]) (d' := 1) rfl rfl (Nat.le_of_ble_eq_true rfl) (Nat.le_of_ble_eq_true rfl) rfl (Nat.le_of_ble_eq_true rfl) rfl rfl (zyC179 hp8) ?_
      show zyR _ _ _ _ [some (.ref (43 + 3)), some (.int x1), some (.int x2), some (.int x3), none, none, none] [.int p8.1] _ _
      refine zy_24_1 rfl (fun b12 => (show zyR _ _ _ _ [some (.ref (43 + 3)), some (.int x1), some (.int x2), some (.int x3), none, none, none] [] _ _ from ?_)) (fun b12 => (show zyR _ _ _ _ [some (.ref (43 + 3)), some (.int x1), some (.int x2), some (.int x3), none, none, none] [] _ _ from ?_))
      · replace h := zy_ifp h b12
        refine zy_0 rfl rfl (show zyR _ _ _ _ [some (.ref (43 + 3)), some (.int x1), some (.int x2), some (.int x3), none, none, none] [.ref (43 + 3)] _ _ from ?_)
        refine zy_2 rfl rfl (show zyR _ _ _ _ [some (.ref (43 + 3)), some (.int x1), some (.int x2), some (.int x3), none, none, none] [.int x1, .ref (43 + 3)] _ _ from ?_)
        obtain ⟨p9, hp9, h⟩ := zy_bind h
        refine zy_5 (c := 43) (as := [.int x1]) (rest := []) (L := [some (.ref (43 + 3)), some (.int x1)]) (d' := 3) rfl rfl rfl (Nat.le_of_ble_eq_true rfl) (Nat.le_of_ble_eq_true rfl) rfl (Nat.le_of_ble_eq_true rfl) rfl rfl (zyC229 hp9) ?_
        show zyR _ _ _ _ [some (.ref (43 + 3)), some (.int x1), some (.int x2), some (.int x3), none, none, none] [.int p9.1] _ _
        refine zy_24_3 rfl (fun b11 => (show zyR _ _ _ _ [some (.ref (43 + 3)), some (.int x1), some (.int x2), some (.int x3), none, none, none] [] _ _ from ?_)) (fun b11 => (show zyR _ _ _ _ [some (.ref (43 + 3)), some (.int x1), some (.int x2), some (.int x3), none, none, none] [] _ _ from ?_))
        · replace h := zy_ifp h b11
          refine zy_3 rfl rfl (show zyR _ _ _ _ [some (.ref (43 + 3)), some (.int x1), some (.int x2), some (.int x3), none, none, none] [.int (0 : Int32)] _ _ from ?_)
          refine zy_23 rfl rfl (show zyR _ _ _ _ [some (.ref (43 + 3)), some (.int x1), some (.int x2), some (.int x3), some (.int (0 : Int32)), none, none] [] _ _ from ?_)
          refine zy_3 rfl rfl (show zyR _ _ _ _ [some (.ref (43 + 3)), some (.int x1), some (.int x2), some (.int x3), some (.int (0 : Int32)), none, none] [.int (-2 : Int32)] _ _ from ?_)
          refine zy_23 rfl rfl (show zyR _ _ _ _ [some (.ref (43 + 3)), some (.int x1), some (.int x2), some (.int x3), some (.int (0 : Int32)), some (.int (-2 : Int32)), none] [] _ _ from ?_)
          refine zy_3 rfl rfl (show zyR _ _ _ _ [some (.ref (43 + 3)), some (.int x1), some (.int x2), some (.int x3), some (.int (0 : Int32)), some (.int (-2 : Int32)), none] [.int (0 : Int32)] _ _ from ?_)
          refine zy_23 rfl rfl (show zyR _ _ _ _ [some (.ref (43 + 3)), some (.int x1), some (.int x2), some (.int x3), some (.int (0 : Int32)), some (.int (-2 : Int32)), some (.int (0 : Int32))] [] _ _ from ?_)
          exact zy_sub (show zy_le [some (.ref (43 + 3)), some (.int x1), some (.int x2), some (.int x3), some (.int (0 : Int32)), some (.int (-2 : Int32)), some (.int (0 : Int32))] [some (.ref (43 + 3)), some (.int x1), some (.int x2), some (.int x3), some (.int (0 : Int32)), some (.int (-2 : Int32)), some (.int (0 : Int32))] from ⟨rfl, ⟨rfl, ⟨rfl, ⟨rfl, ⟨rfl, ⟨rfl, ⟨rfl, trivial⟩⟩⟩⟩⟩⟩⟩) (zyC231_57 zy_fu x1 x2 x3 (0 : Int32) (-2 : Int32) (0 : Int32) p9.2 _ _ h)
        · replace h := zy_ifn h b11
          refine zy_0 rfl rfl (show zyR _ _ _ _ [some (.ref (43 + 3)), some (.int x1), some (.int x2), some (.int x3), none, none, none] [.ref (43 + 3)] _ _ from ?_)
          refine zy_2 rfl rfl (show zyR _ _ _ _ [some (.ref (43 + 3)), some (.int x1), some (.int x2), some (.int x3), none, none, none] [.int x1, .ref (43 + 3)] _ _ from ?_)
          obtain ⟨p10, hp10, h⟩ := zy_bind h
          refine zy_5 (c := 43) (as := [.int x1]) (rest := []) (L := [some (.ref (43 + 3)), some (.int x1)]) (d' := 3) rfl rfl rfl (Nat.le_of_ble_eq_true rfl) (Nat.le_of_ble_eq_true rfl) rfl (Nat.le_of_ble_eq_true rfl) rfl rfl (zyC229 hp10) ?_
          show zyR _ _ _ _ [some (.ref (43 + 3)), some (.int x1), some (.int x2), some (.int x3), none, none, none] [.int p10.1] _ _
          obtain ⟨rfl, rfl⟩ := zy_pi h
          exact zy_4 rfl ⟨rfl, rfl⟩
      · replace h := zy_ifn h b12
        refine zy_3 rfl rfl (show zyR _ _ _ _ [some (.ref (43 + 3)), some (.int x1), some (.int x2), some (.int x3), none, none, none] [.int (-1 : Int32)] _ _ from ?_)
        obtain ⟨rfl, rfl⟩ := zy_pi h
        exact zy_4 rfl ⟨rfl, rfl⟩
end
section
/-! PART 41.21: methods as functions. Made by wip/v4/dcp.py. -/
/-! NineOpinions.writersOf(LNineOpinions$Shelf;)I -/
noncomputable def zyF117_41  (k4 : Nat → Int32 → Int32 → zy_S → Option (Int32 × zy_S)) (x1 : Nat) (x3 : Int32) (y0 : Int32) (y1 : Int32) (s : zy_S) : Option (Int32 × zy_S) :=
k4 x1 (y1 ||| y0) (x3 + (1 : Int32)) s
theorem zyC117_41 {X : zx_X}  {k4 : Nat → Int32 → Int32 → zy_S → Option (Int32 × zy_S)}  (hk4 : ∀ (x1 : Nat) (x2 : Int32) (x3 : Int32) (s : zy_S) (r : Int32) (s' : zy_S) (hs_x1 : zy_isSh x1), k4 x1 x2 x3 s = some (r, s') → zyR X 5 117 4 [some (.ref (0 + 3)), some (.ref (x1 + 3)), some (.int x2), some (.int x3)] [] s (zyE (some (.int r)) s')) {x1 : Nat} {x3 : Int32} {y0 : Int32} {y1 : Int32} {s : zy_S} {r : Int32} {s' : zy_S} (hs_x1 : zy_isSh x1) (h : zyF117_41 k4 x1 x3 y0 y1 s = some (r, s')) : zyR X 5 117 41 [some (.ref (0 + 3)), some (.ref (x1 + 3)), none, some (.int x3)] [.int y0, .int y1] s (zyE (some (.int r)) s') := by
  unfold zyF117_41 at h
  refine zy_14 rfl (show zyR _ _ _ _ [some (.ref (0 + 3)), some (.ref (x1 + 3)), none, some (.int x3)] [.int (y1 ||| y0)] _ _ from ?_)
  refine zy_23 rfl rfl (show zyR _ _ _ _ [some (.ref (0 + 3)), some (.ref (x1 + 3)), some (.int (y1 ||| y0)), some (.int x3)] [] _ _ from ?_)
  refine zy_22 rfl rfl rfl rfl (show zyR _ _ _ _ [some (.ref (0 + 3)), some (.ref (x1 + 3)), some (.int (y1 ||| y0)), some (.int (x3 + (1 : Int32)))] [] _ _ from ?_)
  refine zy_6 rfl (show zyR _ _ _ _ [some (.ref (0 + 3)), some (.ref (x1 + 3)), some (.int (y1 ||| y0)), some (.int (x3 + (1 : Int32)))] [] _ _ from ?_)
  exact zy_sub (show zy_le [some (.ref (0 + 3)), some (.ref (x1 + 3)), some (.int (y1 ||| y0)), some (.int (x3 + (1 : Int32)))] [some (.ref (0 + 3)), some (.ref (x1 + 3)), some (.int (y1 ||| y0)), some (.int (x3 + (1 : Int32)))] from ⟨rfl, ⟨rfl, ⟨rfl, ⟨rfl, trivial⟩⟩⟩⟩) (hk4 x1 (y1 ||| y0) (x3 + (1 : Int32)) s _ _ hs_x1 h)
noncomputable def zyF117_4b  (k4 : Nat → Int32 → Int32 → zy_S → Option (Int32 × zy_S)) (x1 : Nat) (x2 : Int32) (x3 : Int32) (s : zy_S) : Option (Int32 × zy_S) :=
if (s.1 1 5) ≤ x3 then
some (x2, s)
else
if zy_in x3 8 then
(zyF108 x1 (s.1 3 (x3).toNatClampNeg) s).bind fun p2 =>
if p2.1 ≠ (-2 : Int32) then
zyF117_41 k4 x1 x3 (0 : Int32) x2 p2.2
else
zyF117_41 k4 x1 x3 ((1 : Int32) <<< (x3 &&& 31)) x2 p2.2
else none
theorem zyC117_4b {X : zx_X}  {k4 : Nat → Int32 → Int32 → zy_S → Option (Int32 × zy_S)}  (hk4 : ∀ (x1 : Nat) (x2 : Int32) (x3 : Int32) (s : zy_S) (r : Int32) (s' : zy_S) (hs_x1 : zy_isSh x1), k4 x1 x2 x3 s = some (r, s') → zyR X 5 117 4 [some (.ref (0 + 3)), some (.ref (x1 + 3)), some (.int x2), some (.int x3)] [] s (zyE (some (.int r)) s')) {x1 : Nat} {x2 : Int32} {x3 : Int32} {s : zy_S} {r : Int32} {s' : zy_S} (hs_x1 : zy_isSh x1) (h : zyF117_4b k4 x1 x2 x3 s = some (r, s')) : zyR X 5 117 4 [some (.ref (0 + 3)), some (.ref (x1 + 3)), some (.int x2), some (.int x3)] [] s (zyE (some (.int r)) s') := by
  unfold zyF117_4b at h
  refine zy_2 rfl rfl (show zyR _ _ _ _ [some (.ref (0 + 3)), some (.ref (x1 + 3)), some (.int x2), some (.int x3)] [.int x3] _ _ from ?_)
  refine zy_0 rfl rfl (show zyR _ _ _ _ [some (.ref (0 + 3)), some (.ref (x1 + 3)), some (.int x2), some (.int x3)] [.ref (0 + 3), .int x3] _ _ from ?_)
  refine zy_1r (c := 0) rfl rfl rfl (show zyR _ _ _ _ [some (.ref (0 + 3)), some (.ref (x1 + 3)), some (.int x2), some (.int x3)] [.ref (1 + 3), .int x3] _ _ from ?_)
  refine zy_1 (c := 1) rfl rfl rfl (show zyR _ _ _ _ [some (.ref (0 + 3)), some (.ref (x1 + 3)), some (.int x2), some (.int x3)] [.int (s.1 1 5), .int x3] _ _ from ?_)
  refine zy_25_3 rfl (fun b4 => (show zyR _ _ _ _ [some (.ref (0 + 3)), some (.ref (x1 + 3)), some (.int x2), some (.int x3)] [] _ _ from ?_)) (fun b4 => (show zyR _ _ _ _ [some (.ref (0 + 3)), some (.ref (x1 + 3)), some (.int x2), some (.int x3)] [] _ _ from ?_))
  · replace h := zy_ifp h b4
    refine zy_2 rfl rfl (show zyR _ _ _ _ [some (.ref (0 + 3)), some (.ref (x1 + 3)), some (.int x2), some (.int x3)] [.int x2] _ _ from ?_)
    obtain ⟨rfl, rfl⟩ := zy_pi h
    exact zy_4 rfl ⟨rfl, rfl⟩
  · replace h := zy_ifn h b4
    refine zy_2 rfl rfl (show zyR _ _ _ _ [some (.ref (0 + 3)), some (.ref (x1 + 3)), some (.int x2), some (.int x3)] [.int x2] _ _ from ?_)
    refine zy_0 rfl rfl (show zyR _ _ _ _ [some (.ref (0 + 3)), some (.ref (x1 + 3)), some (.int x2), some (.int x3)] [.ref (x1 + 3), .int x2] _ _ from ?_)
    refine zy_0 rfl rfl (show zyR _ _ _ _ [some (.ref (0 + 3)), some (.ref (x1 + 3)), some (.int x2), some (.int x3)] [.ref (0 + 3), .ref (x1 + 3), .int x2] _ _ from ?_)
    refine zy_1r (c := 0) rfl rfl rfl (show zyR _ _ _ _ [some (.ref (0 + 3)), some (.ref (x1 + 3)), some (.int x2), some (.int x3)] [.ref (1 + 3), .ref (x1 + 3), .int x2] _ _ from ?_)
    refine zy_1r (c := 1) rfl rfl rfl (show zyR _ _ _ _ [some (.ref (0 + 3)), some (.ref (x1 + 3)), some (.int x2), some (.int x3)] [.ref (3 + 3), .ref (x1 + 3), .int x2] _ _ from ?_)
    refine zy_2 rfl rfl (show zyR _ _ _ _ [some (.ref (0 + 3)), some (.ref (x1 + 3)), some (.int x2), some (.int x3)] [.int x3, .ref (3 + 3), .ref (x1 + 3), .int x2] _ _ from ?_)
    obtain ⟨c1, h⟩ := zy_if h
    refine zy_26 (c := 3) rfl rfl c1 (show zyR _ _ _ _ [some (.ref (0 + 3)), some (.ref (x1 + 3)), some (.int x2), some (.int x3)] [.int (s.1 3 (x3).toNatClampNeg), .ref (x1 + 3), .int x2] _ _ from ?_)
    obtain ⟨p2, hp2, h⟩ := zy_bind h
    refine zy_60 (as := [.ref (x1 + 3), .int (s.1 3 (x3).toNatClampNeg)]) (rest := [.int x2]) (L := [some (.ref (x1 + 3)), some (.int (s.1 3 (x3).toNatClampNeg)), none, none]) (d' := 4) rfl rfl (Nat.le_of_ble_eq_true rfl) (Nat.le_of_ble_eq_true rfl) rfl (Nat.le_of_ble_eq_true rfl) rfl rfl (zyC108 hs_x1 hp2) ?_
    show zyR _ _ _ _ [some (.ref (0 + 3)), some (.ref (x1 + 3)), some (.int x2), some (.int x3)] [.int p2.1, .int x2] _ _
    refine zy_3 rfl rfl (show zyR _ _ _ _ [some (.ref (0 + 3)), some (.ref (x1 + 3)), some (.int x2), some (.int x3)] [.int (-2 : Int32), .int p2.1, .int x2] _ _ from ?_)
    refine zy_25_1 rfl (fun b3 => (show zyR _ _ _ _ [some (.ref (0 + 3)), some (.ref (x1 + 3)), some (.int x2), some (.int x3)] [.int x2] _ _ from ?_)) (fun b3 => (show zyR _ _ _ _ [some (.ref (0 + 3)), some (.ref (x1 + 3)), some (.int x2), some (.int x3)] [.int x2] _ _ from ?_))
    · replace h := zy_ifp h b3
      refine zy_3 rfl rfl (show zyR _ _ _ _ [some (.ref (0 + 3)), some (.ref (x1 + 3)), some (.int x2), some (.int x3)] [.int (0 : Int32), .int x2] _ _ from ?_)
      exact zy_sub (show zy_le [some (.ref (0 + 3)), some (.ref (x1 + 3)), none, some (.int x3)] [some (.ref (0 + 3)), some (.ref (x1 + 3)), some (.int x2), some (.int x3)] from ⟨rfl, ⟨rfl, ⟨rfl, trivial⟩⟩⟩) (zyC117_41 hk4 hs_x1 h)
    · replace h := zy_ifn h b3
      refine zy_3 rfl rfl (show zyR _ _ _ _ [some (.ref (0 + 3)), some (.ref (x1 + 3)), some (.int x2), some (.int x3)] [.int (1 : Int32), .int x2] _ _ from ?_)
      refine zy_2 rfl rfl (show zyR _ _ _ _ [some (.ref (0 + 3)), some (.ref (x1 + 3)), some (.int x2), some (.int x3)] [.int x3, .int (1 : Int32), .int x2] _ _ from ?_)
      refine zy_16 rfl (show zyR _ _ _ _ [some (.ref (0 + 3)), some (.ref (x1 + 3)), some (.int x2), some (.int x3)] [.int ((1 : Int32) <<< (x3 &&& 31)), .int x2] _ _ from ?_)
      refine zy_6 rfl (show zyR _ _ _ _ [some (.ref (0 + 3)), some (.ref (x1 + 3)), some (.int x2), some (.int x3)] [.int ((1 : Int32) <<< (x3 &&& 31)), .int x2] _ _ from ?_)
      exact zy_sub (show zy_le [some (.ref (0 + 3)), some (.ref (x1 + 3)), none, some (.int x3)] [some (.ref (0 + 3)), some (.ref (x1 + 3)), some (.int x2), some (.int x3)] from ⟨rfl, ⟨rfl, ⟨rfl, trivial⟩⟩⟩) (zyC117_41 hk4 hs_x1 h)
noncomputable def zyF117_4   (n : Nat) : Nat → Int32 → Int32 → zy_S → Option (Int32 × zy_S) := Nat.rec (fun _ _ _ _ => none) (fun _ k4 => zyF117_4b k4) n
theorem zyC117_4 {X : zx_X}     : ∀ (n : Nat) (x1 : Nat) (x2 : Int32) (x3 : Int32) (s : zy_S) (r : Int32) (s' : zy_S) (hs_x1 : zy_isSh x1), zyF117_4 n x1 x2 x3 s = some (r, s') → zyR X 5 117 4 [some (.ref (0 + 3)), some (.ref (x1 + 3)), some (.int x2), some (.int x3)] [] s (zyE (some (.int r)) s')
  | 0, _, _, _ => by
    intro s r s' hs_x1 h
    have h : (none : Option (Int32 × zy_S)) = some (r, s') := h
    cases h
  | n + 1, x1, x2, x3 => by
    intro s r s' hs_x1 h
    exact zyC117_4b (k4 := zyF117_4 n) (fun x1 x2 x3 s r s' hs_x1 h => zyC117_4  n x1 x2 x3 s r s' hs_x1 h) hs_x1 h
noncomputable def zyF117   (x1 : Nat) (s : zy_S) : Option (Int32 × zy_S) :=
zyF117_4 zy_fu x1 (0 : Int32) (0 : Int32) s
theorem zyC117 {X : zx_X}     {x1 : Nat} {s : zy_S} {r : Int32} {s' : zy_S} (hs_x1 : zy_isSh x1) (h : zyF117 x1 s = some (r, s')) : zyR X 5 117 0 [some (.ref (0 + 3)), some (.ref (x1 + 3)), none, none] [] s (zyE (some (.int r)) s') := by
  unfold zyF117 at h
  refine zy_3 rfl rfl (show zyR _ _ _ _ [some (.ref (0 + 3)), some (.ref (x1 + 3)), none, none] [.int (0 : Int32)] _ _ from ?_)
  refine zy_23 rfl rfl (show zyR _ _ _ _ [some (.ref (0 + 3)), some (.ref (x1 + 3)), some (.int (0 : Int32)), none] [] _ _ from ?_)
  refine zy_3 rfl rfl (show zyR _ _ _ _ [some (.ref (0 + 3)), some (.ref (x1 + 3)), some (.int (0 : Int32)), none] [.int (0 : Int32)] _ _ from ?_)
  refine zy_23 rfl rfl (show zyR _ _ _ _ [some (.ref (0 + 3)), some (.ref (x1 + 3)), some (.int (0 : Int32)), some (.int (0 : Int32))] [] _ _ from ?_)
  exact zy_sub (show zy_le [some (.ref (0 + 3)), some (.ref (x1 + 3)), some (.int (0 : Int32)), some (.int (0 : Int32))] [some (.ref (0 + 3)), some (.ref (x1 + 3)), some (.int (0 : Int32)), some (.int (0 : Int32))] from ⟨rfl, ⟨rfl, ⟨rfl, ⟨rfl, trivial⟩⟩⟩⟩) (zyC117_4 zy_fu x1 (0 : Int32) (0 : Int32) s _ _ hs_x1 h)
/-! NineOpinions$Book.codesFor(LNineOpinions$Shelf;)I -/
noncomputable def zyF118_35b  (k35 : Nat → Int32 → Int32 → zy_S → Option (Int32 × zy_S)) (x0 : Nat) (x1 : Int32) (x2 : Int32) (s : zy_S) : Option (Int32 × zy_S) :=
if (6 : Int32) ≤ x2 then
some (x1, s)
else
(zyF113 x0 x2 s).bind fun p1 =>
(zyF63 p1.1 p1.2).bind fun p2 =>
k35 x0 (x1 * p2.1) (x2 + (1 : Int32)) p2.2
theorem zyC118_35b {X : zx_X}  {k35 : Nat → Int32 → Int32 → zy_S → Option (Int32 × zy_S)}  (hk35 : ∀ (x0 : Nat) (x1 : Int32) (x2 : Int32) (s : zy_S) (r : Int32) (s' : zy_S) (hs_x0 : zy_isSh x0), k35 x0 x1 x2 s = some (r, s') → zyR X 6 118 35 [some (.ref (x0 + 3)), some (.int x1), some (.int x2)] [] s (zyE (some (.int r)) s')) {x0 : Nat} {x1 : Int32} {x2 : Int32} {s : zy_S} {r : Int32} {s' : zy_S} (hs_x0 : zy_isSh x0) (h : zyF118_35b k35 x0 x1 x2 s = some (r, s')) : zyR X 6 118 35 [some (.ref (x0 + 3)), some (.int x1), some (.int x2)] [] s (zyE (some (.int r)) s') := by
  unfold zyF118_35b at h
  refine zy_2 rfl rfl (show zyR _ _ _ _ [some (.ref (x0 + 3)), some (.int x1), some (.int x2)] [.int x2] _ _ from ?_)
  refine zy_3 rfl rfl (show zyR _ _ _ _ [some (.ref (x0 + 3)), some (.int x1), some (.int x2)] [.int (6 : Int32), .int x2] _ _ from ?_)
  refine zy_25_3 rfl (fun b3 => (show zyR _ _ _ _ [some (.ref (x0 + 3)), some (.int x1), some (.int x2)] [] _ _ from ?_)) (fun b3 => (show zyR _ _ _ _ [some (.ref (x0 + 3)), some (.int x1), some (.int x2)] [] _ _ from ?_))
  · replace h := zy_ifp h b3
    refine zy_2 rfl rfl (show zyR _ _ _ _ [some (.ref (x0 + 3)), some (.int x1), some (.int x2)] [.int x1] _ _ from ?_)
    obtain ⟨rfl, rfl⟩ := zy_pi h
    exact zy_4 rfl ⟨rfl, rfl⟩
  · replace h := zy_ifn h b3
    refine zy_2 rfl rfl (show zyR _ _ _ _ [some (.ref (x0 + 3)), some (.int x1), some (.int x2)] [.int x1] _ _ from ?_)
    refine zy_0 rfl rfl (show zyR _ _ _ _ [some (.ref (x0 + 3)), some (.int x1), some (.int x2)] [.ref (x0 + 3), .int x1] _ _ from ?_)
    refine zy_2 rfl rfl (show zyR _ _ _ _ [some (.ref (x0 + 3)), some (.int x1), some (.int x2)] [.int x2, .ref (x0 + 3), .int x1] _ _ from ?_)
    obtain ⟨p1, hp1, h⟩ := zy_bind h
    refine zy_60 (as := [.ref (x0 + 3), .int x2]) (rest := [.int x1]) (L := [some (.ref (x0 + 3)), some (.int x2), none, none]) (d' := 5) rfl rfl (Nat.le_of_ble_eq_true rfl) (Nat.le_of_ble_eq_true rfl) rfl (Nat.le_of_ble_eq_true rfl) rfl rfl (zyC113 hs_x0 hp1) ?_
    show zyR _ _ _ _ [some (.ref (x0 + 3)), some (.int x1), some (.int x2)] [.int p1.1, .int x1] _ _
    obtain ⟨p2, hp2, h⟩ := zy_bind h
    refine zy_60 (as := [.int p1.1]) (rest := [.int x1]) (L := [some (.int p1.1)]) (d' := 1) rfl rfl (Nat.le_of_ble_eq_true rfl) (Nat.le_of_ble_eq_true rfl) rfl (Nat.le_of_ble_eq_true rfl) rfl rfl (zyC63 hp2) ?_
    show zyR _ _ _ _ [some (.ref (x0 + 3)), some (.int x1), some (.int x2)] [.int p2.1, .int x1] _ _
    refine zy_12 rfl (show zyR _ _ _ _ [some (.ref (x0 + 3)), some (.int x1), some (.int x2)] [.int (x1 * p2.1)] _ _ from ?_)
    refine zy_23 rfl rfl (show zyR _ _ _ _ [some (.ref (x0 + 3)), some (.int (x1 * p2.1)), some (.int x2)] [] _ _ from ?_)
    refine zy_22 rfl rfl rfl rfl (show zyR _ _ _ _ [some (.ref (x0 + 3)), some (.int (x1 * p2.1)), some (.int (x2 + (1 : Int32)))] [] _ _ from ?_)
    refine zy_6 rfl (show zyR _ _ _ _ [some (.ref (x0 + 3)), some (.int (x1 * p2.1)), some (.int (x2 + (1 : Int32)))] [] _ _ from ?_)
    exact zy_sub (show zy_le [some (.ref (x0 + 3)), some (.int (x1 * p2.1)), some (.int (x2 + (1 : Int32)))] [some (.ref (x0 + 3)), some (.int (x1 * p2.1)), some (.int (x2 + (1 : Int32)))] from ⟨rfl, ⟨rfl, ⟨rfl, trivial⟩⟩⟩) (hk35 x0 (x1 * p2.1) (x2 + (1 : Int32)) p2.2 _ _ hs_x0 h)
noncomputable def zyF118_35   (n : Nat) : Nat → Int32 → Int32 → zy_S → Option (Int32 × zy_S) := Nat.rec (fun _ _ _ _ => none) (fun _ k35 => zyF118_35b k35) n
theorem zyC118_35 {X : zx_X}     : ∀ (n : Nat) (x0 : Nat) (x1 : Int32) (x2 : Int32) (s : zy_S) (r : Int32) (s' : zy_S) (hs_x0 : zy_isSh x0), zyF118_35 n x0 x1 x2 s = some (r, s') → zyR X 6 118 35 [some (.ref (x0 + 3)), some (.int x1), some (.int x2)] [] s (zyE (some (.int r)) s')
  | 0, _, _, _ => by
    intro s r s' hs_x0 h
    have h : (none : Option (Int32 × zy_S)) = some (r, s') := h
    cases h
  | n + 1, x0, x1, x2 => by
    intro s r s' hs_x0 h
    exact zyC118_35b (k35 := zyF118_35 n) (fun x0 x1 x2 s r s' hs_x0 h => zyC118_35  n x0 x1 x2 s r s' hs_x0 h) hs_x0 h
noncomputable def zyF118_26  (k4 : Nat → Int32 → Int32 → zy_S → Option (Int32 × zy_S)) (x0 : Nat) (x2 : Int32) (y0 : Int32) (s : zy_S) : Option (Int32 × zy_S) :=
k4 x0 y0 (x2 + (1 : Int32)) s
theorem zyC118_26 {X : zx_X}  {k4 : Nat → Int32 → Int32 → zy_S → Option (Int32 × zy_S)}  (hk4 : ∀ (x0 : Nat) (x1 : Int32) (x2 : Int32) (s : zy_S) (r : Int32) (s' : zy_S) (hs_x0 : zy_isSh x0), k4 x0 x1 x2 s = some (r, s') → zyR X 6 118 4 [some (.ref (x0 + 3)), some (.int x1), some (.int x2)] [] s (zyE (some (.int r)) s')) {x0 : Nat} {x2 : Int32} {y0 : Int32} {s : zy_S} {r : Int32} {s' : zy_S} (hs_x0 : zy_isSh x0) (h : zyF118_26 k4 x0 x2 y0 s = some (r, s')) : zyR X 6 118 26 [some (.ref (x0 + 3)), none, some (.int x2)] [.int y0] s (zyE (some (.int r)) s') := by
  unfold zyF118_26 at h
  refine zy_23 rfl rfl (show zyR _ _ _ _ [some (.ref (x0 + 3)), some (.int y0), some (.int x2)] [] _ _ from ?_)
  refine zy_22 rfl rfl rfl rfl (show zyR _ _ _ _ [some (.ref (x0 + 3)), some (.int y0), some (.int (x2 + (1 : Int32)))] [] _ _ from ?_)
  refine zy_6 rfl (show zyR _ _ _ _ [some (.ref (x0 + 3)), some (.int y0), some (.int (x2 + (1 : Int32)))] [] _ _ from ?_)
  exact zy_sub (show zy_le [some (.ref (x0 + 3)), some (.int y0), some (.int (x2 + (1 : Int32)))] [some (.ref (x0 + 3)), some (.int y0), some (.int (x2 + (1 : Int32)))] from ⟨rfl, ⟨rfl, ⟨rfl, trivial⟩⟩⟩) (hk4 x0 y0 (x2 + (1 : Int32)) s _ _ hs_x0 h)
noncomputable def zyF118_4b  (k4 : Nat → Int32 → Int32 → zy_S → Option (Int32 × zy_S)) (x0 : Nat) (x1 : Int32) (x2 : Int32) (s : zy_S) : Option (Int32 × zy_S) :=
(zyF109 x0 s).bind fun p4 =>
if p4.1 ≤ x2 then
zyF118_35 zy_fu x0 x1 (0 : Int32) p4.2
else
(zyF110 x0 x2 p4.2).bind fun p5 =>
if p5.1 ≠ (-1 : Int32) then
zyF118_26 k4 x0 x2 x1 p5.2
else
zyF118_26 k4 x0 x2 (0 : Int32) p5.2
theorem zyC118_4b {X : zx_X}  {k4 : Nat → Int32 → Int32 → zy_S → Option (Int32 × zy_S)}  (hk4 : ∀ (x0 : Nat) (x1 : Int32) (x2 : Int32) (s : zy_S) (r : Int32) (s' : zy_S) (hs_x0 : zy_isSh x0), k4 x0 x1 x2 s = some (r, s') → zyR X 6 118 4 [some (.ref (x0 + 3)), some (.int x1), some (.int x2)] [] s (zyE (some (.int r)) s')) {x0 : Nat} {x1 : Int32} {x2 : Int32} {s : zy_S} {r : Int32} {s' : zy_S} (hs_x0 : zy_isSh x0) (h : zyF118_4b k4 x0 x1 x2 s = some (r, s')) : zyR X 6 118 4 [some (.ref (x0 + 3)), some (.int x1), some (.int x2)] [] s (zyE (some (.int r)) s') := by
  unfold zyF118_4b at h
  refine zy_2 rfl rfl (show zyR _ _ _ _ [some (.ref (x0 + 3)), some (.int x1), some (.int x2)] [.int x2] _ _ from ?_)
  refine zy_0 rfl rfl (show zyR _ _ _ _ [some (.ref (x0 + 3)), some (.int x1), some (.int x2)] [.ref (x0 + 3), .int x2] _ _ from ?_)
  obtain ⟨p4, hp4, h⟩ := zy_bind h
  refine zy_60 (as := [.ref (x0 + 3)]) (rest := [.int x2]) (L := [some (.ref (x0 + 3))]) (d' := 1) rfl rfl (Nat.le_of_ble_eq_true rfl) (Nat.le_of_ble_eq_true rfl) rfl (Nat.le_of_ble_eq_true rfl) rfl rfl (zyC109 hs_x0 hp4) ?_
  show zyR _ _ _ _ [some (.ref (x0 + 3)), some (.int x1), some (.int x2)] [.int p4.1, .int x2] _ _
  refine zy_25_3 rfl (fun b7 => (show zyR _ _ _ _ [some (.ref (x0 + 3)), some (.int x1), some (.int x2)] [] _ _ from ?_)) (fun b7 => (show zyR _ _ _ _ [some (.ref (x0 + 3)), some (.int x1), some (.int x2)] [] _ _ from ?_))
  · replace h := zy_ifp h b7
    refine zy_3 rfl rfl (show zyR _ _ _ _ [some (.ref (x0 + 3)), some (.int x1), some (.int x2)] [.int (0 : Int32)] _ _ from ?_)
    refine zy_23 rfl rfl (show zyR _ _ _ _ [some (.ref (x0 + 3)), some (.int x1), some (.int (0 : Int32))] [] _ _ from ?_)
    exact zy_sub (show zy_le [some (.ref (x0 + 3)), some (.int x1), some (.int (0 : Int32))] [some (.ref (x0 + 3)), some (.int x1), some (.int (0 : Int32))] from ⟨rfl, ⟨rfl, ⟨rfl, trivial⟩⟩⟩) (zyC118_35 zy_fu x0 x1 (0 : Int32) p4.2 _ _ hs_x0 h)
  · replace h := zy_ifn h b7
    refine zy_0 rfl rfl (show zyR _ _ _ _ [some (.ref (x0 + 3)), some (.int x1), some (.int x2)] [.ref (x0 + 3)] _ _ from ?_)
    refine zy_2 rfl rfl (show zyR _ _ _ _ [some (.ref (x0 + 3)), some (.int x1), some (.int x2)] [.int x2, .ref (x0 + 3)] _ _ from ?_)
    obtain ⟨p5, hp5, h⟩ := zy_bind h
    refine zy_60 (as := [.ref (x0 + 3), .int x2]) (rest := []) (L := [some (.ref (x0 + 3)), some (.int x2), none]) (d' := 2) rfl rfl (Nat.le_of_ble_eq_true rfl) (Nat.le_of_ble_eq_true rfl) rfl (Nat.le_of_ble_eq_true rfl) rfl rfl (zyC110 hs_x0 hp5) ?_
    show zyR _ _ _ _ [some (.ref (x0 + 3)), some (.int x1), some (.int x2)] [.int p5.1] _ _
    refine zy_3 rfl rfl (show zyR _ _ _ _ [some (.ref (x0 + 3)), some (.int x1), some (.int x2)] [.int (-1 : Int32), .int p5.1] _ _ from ?_)
    refine zy_25_1 rfl (fun b6 => (show zyR _ _ _ _ [some (.ref (x0 + 3)), some (.int x1), some (.int x2)] [] _ _ from ?_)) (fun b6 => (show zyR _ _ _ _ [some (.ref (x0 + 3)), some (.int x1), some (.int x2)] [] _ _ from ?_))
    · replace h := zy_ifp h b6
      refine zy_2 rfl rfl (show zyR _ _ _ _ [some (.ref (x0 + 3)), some (.int x1), some (.int x2)] [.int x1] _ _ from ?_)
      exact zy_sub (show zy_le [some (.ref (x0 + 3)), none, some (.int x2)] [some (.ref (x0 + 3)), some (.int x1), some (.int x2)] from ⟨rfl, ⟨rfl, trivial⟩⟩) (zyC118_26 hk4 hs_x0 h)
    · replace h := zy_ifn h b6
      refine zy_3 rfl rfl (show zyR _ _ _ _ [some (.ref (x0 + 3)), some (.int x1), some (.int x2)] [.int (0 : Int32)] _ _ from ?_)
      refine zy_6 rfl (show zyR _ _ _ _ [some (.ref (x0 + 3)), some (.int x1), some (.int x2)] [.int (0 : Int32)] _ _ from ?_)
      exact zy_sub (show zy_le [some (.ref (x0 + 3)), none, some (.int x2)] [some (.ref (x0 + 3)), some (.int x1), some (.int x2)] from ⟨rfl, ⟨rfl, trivial⟩⟩) (zyC118_26 hk4 hs_x0 h)
noncomputable def zyF118_4   (n : Nat) : Nat → Int32 → Int32 → zy_S → Option (Int32 × zy_S) := Nat.rec (fun _ _ _ _ => none) (fun _ k4 => zyF118_4b k4) n
theorem zyC118_4 {X : zx_X}     : ∀ (n : Nat) (x0 : Nat) (x1 : Int32) (x2 : Int32) (s : zy_S) (r : Int32) (s' : zy_S) (hs_x0 : zy_isSh x0), zyF118_4 n x0 x1 x2 s = some (r, s') → zyR X 6 118 4 [some (.ref (x0 + 3)), some (.int x1), some (.int x2)] [] s (zyE (some (.int r)) s')
  | 0, _, _, _ => by
    intro s r s' hs_x0 h
    have h : (none : Option (Int32 × zy_S)) = some (r, s') := h
    cases h
  | n + 1, x0, x1, x2 => by
    intro s r s' hs_x0 h
    exact zyC118_4b (k4 := zyF118_4 n) (fun x0 x1 x2 s r s' hs_x0 h => zyC118_4  n x0 x1 x2 s r s' hs_x0 h) hs_x0 h
noncomputable def zyF118   (x0 : Nat) (s : zy_S) : Option (Int32 × zy_S) :=
zyF118_4 zy_fu x0 (1 : Int32) (0 : Int32) s
theorem zyC118 {X : zx_X}     {x0 : Nat} {s : zy_S} {r : Int32} {s' : zy_S} (hs_x0 : zy_isSh x0) (h : zyF118 x0 s = some (r, s')) : zyR X 6 118 0 [some (.ref (x0 + 3)), none, none] [] s (zyE (some (.int r)) s') := by
  unfold zyF118 at h
  refine zy_3 rfl rfl (show zyR _ _ _ _ [some (.ref (x0 + 3)), none, none] [.int (1 : Int32)] _ _ from ?_)
  refine zy_23 rfl rfl (show zyR _ _ _ _ [some (.ref (x0 + 3)), some (.int (1 : Int32)), none] [] _ _ from ?_)
  refine zy_3 rfl rfl (show zyR _ _ _ _ [some (.ref (x0 + 3)), some (.int (1 : Int32)), none] [.int (0 : Int32)] _ _ from ?_)
  refine zy_23 rfl rfl (show zyR _ _ _ _ [some (.ref (x0 + 3)), some (.int (1 : Int32)), some (.int (0 : Int32))] [] _ _ from ?_)
  exact zy_sub (show zy_le [some (.ref (x0 + 3)), some (.int (1 : Int32)), some (.int (0 : Int32))] [some (.ref (x0 + 3)), some (.int (1 : Int32)), some (.int (0 : Int32))] from ⟨rfl, ⟨rfl, ⟨rfl, trivial⟩⟩⟩) (zyC118_4 zy_fu x0 (1 : Int32) (0 : Int32) s _ _ hs_x0 h)
/-! NineOpinions.whose(II)I -/
noncomputable def zyF116   (x1 : Int32) (x2 : Int32) (s : zy_S) : Option (Int32 × zy_S) :=
(zyF18 x1 s).bind fun p1 =>
if p1.1 = 0 then
some ((-1 : Int32), p1.2)
else
(zyF84 x2 p1.2).bind fun p2 =>
if p2.1 ≠ 0 then
if zy_in x1 6 then
if zy_Wb p2.2 then
(zyF107 (zy_sh (x1).toNatClampNeg) (0 : Int32) p2.2).bind fun p5 =>
if p5.1 = 0 then
if x2 ≠ 0 then
if zy_in x1 6 then
if zy_Wb p5.2 then
(zyF118 (zy_sh (x1).toNatClampNeg) p5.2).bind fun p8 =>
some (p8.1, p8.2)
else none
else none
else
if zy_in x1 6 then
if zy_Wb p5.2 then
(zyF117 (zy_sh (x1).toNatClampNeg) p5.2).bind fun p11 =>
some (p11.1, p11.2)
else none
else none
else
some (p5.1, p5.2)
else none
else none
else
some ((-1 : Int32), p2.2)
theorem zyC116 {X : zx_X}     {x1 : Int32} {x2 : Int32} {s : zy_S} {r : Int32} {s' : zy_S}  (h : zyF116 x1 x2 s = some (r, s')) : zyR X 7 116 0 [some (.ref (0 + 3)), some (.int x1), some (.int x2), none] [] s (zyE (some (.int r)) s') := by
  unfold zyF116 at h
  refine zy_2 rfl rfl (show zyR _ _ _ _ [some (.ref (0 + 3)), some (.int x1), some (.int x2), none] [.int x1] _ _ from ?_)
  obtain ⟨p1, hp1, h⟩ := zy_bind h
  refine zy_60 (as := [.int x1]) (rest := []) (L := [some (.int x1)]) (d' := 1) rfl rfl (Nat.le_of_ble_eq_true rfl) (Nat.le_of_ble_eq_true rfl) rfl (Nat.le_of_ble_eq_true rfl) rfl rfl (zyC18 hp1) ?_
  show zyR _ _ _ _ [some (.ref (0 + 3)), some (.int x1), some (.int x2), none] [.int p1.1] _ _
  refine zy_24_0 rfl (fun b15 => (show zyR _ _ _ _ [some (.ref (0 + 3)), some (.int x1), some (.int x2), none] [] _ _ from ?_)) (fun b15 => (show zyR _ _ _ _ [some (.ref (0 + 3)), some (.int x1), some (.int x2), none] [] _ _ from ?_))
  · replace h := zy_ifp h b15
    refine zy_3 rfl rfl (show zyR _ _ _ _ [some (.ref (0 + 3)), some (.int x1), some (.int x2), none] [.int (-1 : Int32)] _ _ from ?_)
    obtain ⟨rfl, rfl⟩ := zy_pi h
    exact zy_4 rfl ⟨rfl, rfl⟩
  · replace h := zy_ifn h b15
    refine zy_2 rfl rfl (show zyR _ _ _ _ [some (.ref (0 + 3)), some (.int x1), some (.int x2), none] [.int x2] _ _ from ?_)
    obtain ⟨p2, hp2, h⟩ := zy_bind h
    refine zy_60 (as := [.int x2]) (rest := []) (L := [some (.int x2)]) (d' := 1) rfl rfl (Nat.le_of_ble_eq_true rfl) (Nat.le_of_ble_eq_true rfl) rfl (Nat.le_of_ble_eq_true rfl) rfl rfl (zyC84 hp2) ?_
    show zyR _ _ _ _ [some (.ref (0 + 3)), some (.int x1), some (.int x2), none] [.int p2.1] _ _
    refine zy_24_1 rfl (fun b14 => (show zyR _ _ _ _ [some (.ref (0 + 3)), some (.int x1), some (.int x2), none] [] _ _ from ?_)) (fun b14 => (show zyR _ _ _ _ [some (.ref (0 + 3)), some (.int x1), some (.int x2), none] [] _ _ from ?_))
    · replace h := zy_ifp h b14
      refine zy_0 rfl rfl (show zyR _ _ _ _ [some (.ref (0 + 3)), some (.int x1), some (.int x2), none] [.ref (0 + 3)] _ _ from ?_)
      refine zy_1r (c := 0) rfl rfl rfl (show zyR _ _ _ _ [some (.ref (0 + 3)), some (.int x1), some (.int x2), none] [.ref (30 + 3)] _ _ from ?_)
      refine zy_2 rfl rfl (show zyR _ _ _ _ [some (.ref (0 + 3)), some (.int x1), some (.int x2), none] [.int x1, .ref (30 + 3)] _ _ from ?_)
      obtain ⟨c3, h⟩ := zy_if h
      obtain ⟨c4, h⟩ := zy_if h
      refine zy_28 rfl (zy_Wb_g c4) c3 (show zyR _ _ _ _ [some (.ref (0 + 3)), some (.int x1), some (.int x2), none] [.ref ((zy_sh (x1).toNatClampNeg) + 3)] _ _ from ?_)
      refine zy_3 rfl rfl (show zyR _ _ _ _ [some (.ref (0 + 3)), some (.int x1), some (.int x2), none] [.int (0 : Int32), .ref ((zy_sh (x1).toNatClampNeg) + 3)] _ _ from ?_)
      obtain ⟨p5, hp5, h⟩ := zy_bind h
      refine zy_5 (c := (zy_sh (x1).toNatClampNeg)) (as := [.int (0 : Int32)]) (rest := []) (L := [some (.ref ((zy_sh (x1).toNatClampNeg) + 3)), some (.int (0 : Int32))]) (d' := 3) rfl rfl (zy_isSh_of (zy_in_lt c3)).1 (Nat.le_of_ble_eq_true rfl) (Nat.le_of_ble_eq_true rfl) rfl (Nat.le_of_ble_eq_true rfl) rfl rfl (zyC107 (zy_isSh_of (zy_in_lt c3)) hp5) ?_
      show zyR _ _ _ _ [some (.ref (0 + 3)), some (.int x1), some (.int x2), none] [.int p5.1] _ _
      refine zy_23 rfl rfl (show zyR _ _ _ _ [some (.ref (0 + 3)), some (.int x1), some (.int x2), some (.int p5.1)] [] _ _ from ?_)
      refine zy_2 rfl rfl (show zyR _ _ _ _ [some (.ref (0 + 3)), some (.int x1), some (.int x2), some (.int p5.1)] [.int p5.1] _ _ from ?_)
      refine zy_24_0 rfl (fun b13 => (show zyR _ _ _ _ [some (.ref (0 + 3)), some (.int x1), some (.int x2), some (.int p5.1)] [] _ _ from ?_)) (fun b13 => (show zyR _ _ _ _ [some (.ref (0 + 3)), some (.int x1), some (.int x2), some (.int p5.1)] [] _ _ from ?_))
      · replace h := zy_ifp h b13
        refine zy_2 rfl rfl (show zyR _ _ _ _ [some (.ref (0 + 3)), some (.int x1), some (.int x2), some (.int p5.1)] [.int x2] _ _ from ?_)
        refine zy_24_1 rfl (fun b12 => (show zyR _ _ _ _ [some (.ref (0 + 3)), some (.int x1), some (.int x2), some (.int p5.1)] [] _ _ from ?_)) (fun b12 => (show zyR _ _ _ _ [some (.ref (0 + 3)), some (.int x1), some (.int x2), some (.int p5.1)] [] _ _ from ?_))
        · replace h := zy_ifp h b12
          refine zy_0 rfl rfl (show zyR _ _ _ _ [some (.ref (0 + 3)), some (.int x1), some (.int x2), some (.int p5.1)] [.ref (0 + 3)] _ _ from ?_)
          refine zy_1r (c := 0) rfl rfl rfl (show zyR _ _ _ _ [some (.ref (0 + 3)), some (.int x1), some (.int x2), some (.int p5.1)] [.ref (30 + 3)] _ _ from ?_)
          refine zy_2 rfl rfl (show zyR _ _ _ _ [some (.ref (0 + 3)), some (.int x1), some (.int x2), some (.int p5.1)] [.int x1, .ref (30 + 3)] _ _ from ?_)
          obtain ⟨c6, h⟩ := zy_if h
          obtain ⟨c7, h⟩ := zy_if h
          refine zy_28 rfl (zy_Wb_g c7) c6 (show zyR _ _ _ _ [some (.ref (0 + 3)), some (.int x1), some (.int x2), some (.int p5.1)] [.ref ((zy_sh (x1).toNatClampNeg) + 3)] _ _ from ?_)
          obtain ⟨p8, hp8, h⟩ := zy_bind h
          refine zy_60 (as := [.ref ((zy_sh (x1).toNatClampNeg) + 3)]) (rest := []) (L := [some (.ref ((zy_sh (x1).toNatClampNeg) + 3)), none, none]) (d' := 6) rfl rfl (Nat.le_of_ble_eq_true rfl) (Nat.le_of_ble_eq_true rfl) rfl (Nat.le_of_ble_eq_true rfl) rfl rfl (zyC118 (zy_isSh_of (zy_in_lt c6)) hp8) ?_
          show zyR _ _ _ _ [some (.ref (0 + 3)), some (.int x1), some (.int x2), some (.int p5.1)] [.int p8.1] _ _
          obtain ⟨rfl, rfl⟩ := zy_pi h
          exact zy_4 rfl ⟨rfl, rfl⟩
        · replace h := zy_ifn h b12
          refine zy_0 rfl rfl (show zyR _ _ _ _ [some (.ref (0 + 3)), some (.int x1), some (.int x2), some (.int p5.1)] [.ref (0 + 3)] _ _ from ?_)
          refine zy_0 rfl rfl (show zyR _ _ _ _ [some (.ref (0 + 3)), some (.int x1), some (.int x2), some (.int p5.1)] [.ref (0 + 3), .ref (0 + 3)] _ _ from ?_)
          refine zy_1r (c := 0) rfl rfl rfl (show zyR _ _ _ _ [some (.ref (0 + 3)), some (.int x1), some (.int x2), some (.int p5.1)] [.ref (30 + 3), .ref (0 + 3)] _ _ from ?_)
          refine zy_2 rfl rfl (show zyR _ _ _ _ [some (.ref (0 + 3)), some (.int x1), some (.int x2), some (.int p5.1)] [.int x1, .ref (30 + 3), .ref (0 + 3)] _ _ from ?_)
          obtain ⟨c9, h⟩ := zy_if h
          obtain ⟨c10, h⟩ := zy_if h
          refine zy_28 rfl (zy_Wb_g c10) c9 (show zyR _ _ _ _ [some (.ref (0 + 3)), some (.int x1), some (.int x2), some (.int p5.1)] [.ref ((zy_sh (x1).toNatClampNeg) + 3), .ref (0 + 3)] _ _ from ?_)
          obtain ⟨p11, hp11, h⟩ := zy_bind h
          refine zy_5 (c := 0) (as := [.ref ((zy_sh (x1).toNatClampNeg) + 3)]) (rest := []) (L := [some (.ref (0 + 3)), some (.ref ((zy_sh (x1).toNatClampNeg) + 3)), none, none]) (d' := 5) rfl rfl rfl (Nat.le_of_ble_eq_true rfl) (Nat.le_of_ble_eq_true rfl) rfl (Nat.le_of_ble_eq_true rfl) rfl rfl (zyC117 (zy_isSh_of (zy_in_lt c9)) hp11) ?_
          show zyR _ _ _ _ [some (.ref (0 + 3)), some (.int x1), some (.int x2), some (.int p5.1)] [.int p11.1] _ _
          refine zy_6 rfl (show zyR _ _ _ _ [some (.ref (0 + 3)), some (.int x1), some (.int x2), some (.int p5.1)] [.int p11.1] _ _ from ?_)
          obtain ⟨rfl, rfl⟩ := zy_pi h
          exact zy_4 rfl ⟨rfl, rfl⟩
      · replace h := zy_ifn h b13
        refine zy_2 rfl rfl (show zyR _ _ _ _ [some (.ref (0 + 3)), some (.int x1), some (.int x2), some (.int p5.1)] [.int p5.1] _ _ from ?_)
        obtain ⟨rfl, rfl⟩ := zy_pi h
        exact zy_4 rfl ⟨rfl, rfl⟩
    · replace h := zy_ifn h b14
      refine zy_3 rfl rfl (show zyR _ _ _ _ [some (.ref (0 + 3)), some (.int x1), some (.int x2), none] [.int (-1 : Int32)] _ _ from ?_)
      obtain ⟨rfl, rfl⟩ := zy_pi h
      exact zy_4 rfl ⟨rfl, rfl⟩
/-! NineOpinionsModel.whose(II)I -/
noncomputable def zyF233_116  (k89 : Int32 → Int32 → Int32 → Int32 → Int32 → zy_S → Option (Int32 × zy_S)) (x1 : Int32) (x2 : Int32) (x3 : Int32) (x5 : Int32) (y0 : Int32) (y1 : Int32) (s : zy_S) : Option (Int32 × zy_S) :=
k89 x1 x2 x3 (y1 + y0) (x5 + (1 : Int32)) s
theorem zyC233_116 {X : zx_X}  {k89 : Int32 → Int32 → Int32 → Int32 → Int32 → zy_S → Option (Int32 × zy_S)}  (hk89 : ∀ (x1 : Int32) (x2 : Int32) (x3 : Int32) (x4 : Int32) (x5 : Int32) (s : zy_S) (r : Int32) (s' : zy_S), k89 x1 x2 x3 x4 x5 s = some (r, s') → zyR X 4 233 89 [some (.ref (43 + 3)), some (.int x1), some (.int x2), some (.int x3), some (.int x4), some (.int x5)] [] s (zyE (some (.int r)) s')) {x1 : Int32} {x2 : Int32} {x3 : Int32} {x5 : Int32} {y0 : Int32} {y1 : Int32} {s : zy_S} {r : Int32} {s' : zy_S}  (h : zyF233_116 k89 x1 x2 x3 x5 y0 y1 s = some (r, s')) : zyR X 4 233 116 [some (.ref (43 + 3)), some (.int x1), some (.int x2), some (.int x3), none, some (.int x5)] [.int y0, .int y1] s (zyE (some (.int r)) s') := by
  unfold zyF233_116 at h
  refine zy_10 rfl (show zyR _ _ _ _ [some (.ref (43 + 3)), some (.int x1), some (.int x2), some (.int x3), none, some (.int x5)] [.int (y1 + y0)] _ _ from ?_)
  refine zy_23 rfl rfl (show zyR _ _ _ _ [some (.ref (43 + 3)), some (.int x1), some (.int x2), some (.int x3), some (.int (y1 + y0)), some (.int x5)] [] _ _ from ?_)
  refine zy_22 rfl rfl rfl rfl (show zyR _ _ _ _ [some (.ref (43 + 3)), some (.int x1), some (.int x2), some (.int x3), some (.int (y1 + y0)), some (.int (x5 + (1 : Int32)))] [] _ _ from ?_)
  refine zy_6 rfl (show zyR _ _ _ _ [some (.ref (43 + 3)), some (.int x1), some (.int x2), some (.int x3), some (.int (y1 + y0)), some (.int (x5 + (1 : Int32)))] [] _ _ from ?_)
  exact zy_sub (show zy_le [some (.ref (43 + 3)), some (.int x1), some (.int x2), some (.int x3), some (.int (y1 + y0)), some (.int (x5 + (1 : Int32)))] [some (.ref (43 + 3)), some (.int x1), some (.int x2), some (.int x3), some (.int (y1 + y0)), some (.int (x5 + (1 : Int32)))] from ⟨rfl, ⟨rfl, ⟨rfl, ⟨rfl, ⟨rfl, ⟨rfl, trivial⟩⟩⟩⟩⟩⟩) (hk89 x1 x2 x3 (y1 + y0) (x5 + (1 : Int32)) s _ _ h)
noncomputable def zyF233_89b  (k89 : Int32 → Int32 → Int32 → Int32 → Int32 → zy_S → Option (Int32 × zy_S)) (x1 : Int32) (x2 : Int32) (x3 : Int32) (x4 : Int32) (x5 : Int32) (s : zy_S) : Option (Int32 × zy_S) :=
if (4096 : Int32) ≤ x5 then
if x2 ≠ 0 then
some (x4, s)
else
some (x3, s)
else
(zyF230 x1 x5 s).bind fun p2 =>
if p2.1 ≠ (-2 : Int32) then
zyF233_116 k89 x1 x2 x3 x5 (0 : Int32) x4 p2.2
else
zyF233_116 k89 x1 x2 x3 x5 (1 : Int32) x4 p2.2
theorem zyC233_89b {X : zx_X}  {k89 : Int32 → Int32 → Int32 → Int32 → Int32 → zy_S → Option (Int32 × zy_S)}  (hk89 : ∀ (x1 : Int32) (x2 : Int32) (x3 : Int32) (x4 : Int32) (x5 : Int32) (s : zy_S) (r : Int32) (s' : zy_S), k89 x1 x2 x3 x4 x5 s = some (r, s') → zyR X 4 233 89 [some (.ref (43 + 3)), some (.int x1), some (.int x2), some (.int x3), some (.int x4), some (.int x5)] [] s (zyE (some (.int r)) s')) {x1 : Int32} {x2 : Int32} {x3 : Int32} {x4 : Int32} {x5 : Int32} {s : zy_S} {r : Int32} {s' : zy_S}  (h : zyF233_89b k89 x1 x2 x3 x4 x5 s = some (r, s')) : zyR X 4 233 89 [some (.ref (43 + 3)), some (.int x1), some (.int x2), some (.int x3), some (.int x4), some (.int x5)] [] s (zyE (some (.int r)) s') := by
  unfold zyF233_89b at h
  refine zy_2 rfl rfl (show zyR _ _ _ _ [some (.ref (43 + 3)), some (.int x1), some (.int x2), some (.int x3), some (.int x4), some (.int x5)] [.int x5] _ _ from ?_)
  refine zy_3 rfl rfl (show zyR _ _ _ _ [some (.ref (43 + 3)), some (.int x1), some (.int x2), some (.int x3), some (.int x4), some (.int x5)] [.int (4096 : Int32), .int x5] _ _ from ?_)
  refine zy_25_3 rfl (fun b4 => (show zyR _ _ _ _ [some (.ref (43 + 3)), some (.int x1), some (.int x2), some (.int x3), some (.int x4), some (.int x5)] [] _ _ from ?_)) (fun b4 => (show zyR _ _ _ _ [some (.ref (43 + 3)), some (.int x1), some (.int x2), some (.int x3), some (.int x4), some (.int x5)] [] _ _ from ?_))
  · replace h := zy_ifp h b4
    refine zy_2 rfl rfl (show zyR _ _ _ _ [some (.ref (43 + 3)), some (.int x1), some (.int x2), some (.int x3), some (.int x4), some (.int x5)] [.int x2] _ _ from ?_)
    refine zy_24_1 rfl (fun b1 => (show zyR _ _ _ _ [some (.ref (43 + 3)), some (.int x1), some (.int x2), some (.int x3), some (.int x4), some (.int x5)] [] _ _ from ?_)) (fun b1 => (show zyR _ _ _ _ [some (.ref (43 + 3)), some (.int x1), some (.int x2), some (.int x3), some (.int x4), some (.int x5)] [] _ _ from ?_))
    · replace h := zy_ifp h b1
      refine zy_2 rfl rfl (show zyR _ _ _ _ [some (.ref (43 + 3)), some (.int x1), some (.int x2), some (.int x3), some (.int x4), some (.int x5)] [.int x4] _ _ from ?_)
      obtain ⟨rfl, rfl⟩ := zy_pi h
      exact zy_4 rfl ⟨rfl, rfl⟩
    · replace h := zy_ifn h b1
      refine zy_2 rfl rfl (show zyR _ _ _ _ [some (.ref (43 + 3)), some (.int x1), some (.int x2), some (.int x3), some (.int x4), some (.int x5)] [.int x3] _ _ from ?_)
      refine zy_6 rfl (show zyR _ _ _ _ [some (.ref (43 + 3)), some (.int x1), some (.int x2), some (.int x3), some (.int x4), some (.int x5)] [.int x3] _ _ from ?_)
      obtain ⟨rfl, rfl⟩ := zy_pi h
      exact zy_4 rfl ⟨rfl, rfl⟩
  · replace h := zy_ifn h b4
    refine zy_2 rfl rfl (show zyR _ _ _ _ [some (.ref (43 + 3)), some (.int x1), some (.int x2), some (.int x3), some (.int x4), some (.int x5)] [.int x4] _ _ from ?_)
    refine zy_0 rfl rfl (show zyR _ _ _ _ [some (.ref (43 + 3)), some (.int x1), some (.int x2), some (.int x3), some (.int x4), some (.int x5)] [.ref (43 + 3), .int x4] _ _ from ?_)
    refine zy_2 rfl rfl (show zyR _ _ _ _ [some (.ref (43 + 3)), some (.int x1), some (.int x2), some (.int x3), some (.int x4), some (.int x5)] [.int x1, .ref (43 + 3), .int x4] _ _ from ?_)
    refine zy_2 rfl rfl (show zyR _ _ _ _ [some (.ref (43 + 3)), some (.int x1), some (.int x2), some (.int x3), some (.int x4), some (.int x5)] [.int x5, .int x1, .ref (43 + 3), .int x4] _ _ from ?_)
    obtain ⟨p2, hp2, h⟩ := zy_bind h
    refine zy_5 (c := 43) (as := [.int x1, .int x5]) (rest := [.int x4]) (L := [some (.ref (43 + 3)), some (.int x1), some (.int x5), none, none, none]) (d' := 3) rfl rfl rfl (Nat.le_of_ble_eq_true rfl) (Nat.le_of_ble_eq_true rfl) rfl (Nat.le_of_ble_eq_true rfl) rfl rfl (zyC230 hp2) ?_
    show zyR _ _ _ _ [some (.ref (43 + 3)), some (.int x1), some (.int x2), some (.int x3), some (.int x4), some (.int x5)] [.int p2.1, .int x4] _ _
    refine zy_3 rfl rfl (show zyR _ _ _ _ [some (.ref (43 + 3)), some (.int x1), some (.int x2), some (.int x3), some (.int x4), some (.int x5)] [.int (-2 : Int32), .int p2.1, .int x4] _ _ from ?_)
    refine zy_25_1 rfl (fun b3 => (show zyR _ _ _ _ [some (.ref (43 + 3)), some (.int x1), some (.int x2), some (.int x3), some (.int x4), some (.int x5)] [.int x4] _ _ from ?_)) (fun b3 => (show zyR _ _ _ _ [some (.ref (43 + 3)), some (.int x1), some (.int x2), some (.int x3), some (.int x4), some (.int x5)] [.int x4] _ _ from ?_))
    · replace h := zy_ifp h b3
      refine zy_3 rfl rfl (show zyR _ _ _ _ [some (.ref (43 + 3)), some (.int x1), some (.int x2), some (.int x3), some (.int x4), some (.int x5)] [.int (0 : Int32), .int x4] _ _ from ?_)
      exact zy_sub (show zy_le [some (.ref (43 + 3)), some (.int x1), some (.int x2), some (.int x3), none, some (.int x5)] [some (.ref (43 + 3)), some (.int x1), some (.int x2), some (.int x3), some (.int x4), some (.int x5)] from ⟨rfl, ⟨rfl, ⟨rfl, ⟨rfl, ⟨rfl, trivial⟩⟩⟩⟩⟩) (zyC233_116 hk89 h)
    · replace h := zy_ifn h b3
      refine zy_3 rfl rfl (show zyR _ _ _ _ [some (.ref (43 + 3)), some (.int x1), some (.int x2), some (.int x3), some (.int x4), some (.int x5)] [.int (1 : Int32), .int x4] _ _ from ?_)
      refine zy_6 rfl (show zyR _ _ _ _ [some (.ref (43 + 3)), some (.int x1), some (.int x2), some (.int x3), some (.int x4), some (.int x5)] [.int (1 : Int32), .int x4] _ _ from ?_)
      exact zy_sub (show zy_le [some (.ref (43 + 3)), some (.int x1), some (.int x2), some (.int x3), none, some (.int x5)] [some (.ref (43 + 3)), some (.int x1), some (.int x2), some (.int x3), some (.int x4), some (.int x5)] from ⟨rfl, ⟨rfl, ⟨rfl, ⟨rfl, ⟨rfl, trivial⟩⟩⟩⟩⟩) (zyC233_116 hk89 h)
noncomputable def zyF233_89   (n : Nat) : Int32 → Int32 → Int32 → Int32 → Int32 → zy_S → Option (Int32 × zy_S) := Nat.rec (fun _ _ _ _ _ _ => none) (fun _ k89 => zyF233_89b k89) n
theorem zyC233_89 {X : zx_X}     : ∀ (n : Nat) (x1 : Int32) (x2 : Int32) (x3 : Int32) (x4 : Int32) (x5 : Int32) (s : zy_S) (r : Int32) (s' : zy_S), zyF233_89 n x1 x2 x3 x4 x5 s = some (r, s') → zyR X 4 233 89 [some (.ref (43 + 3)), some (.int x1), some (.int x2), some (.int x3), some (.int x4), some (.int x5)] [] s (zyE (some (.int r)) s')
  | 0, _, _, _, _, _ => by
    intro s r s'  h
    have h : (none : Option (Int32 × zy_S)) = some (r, s') := h
    cases h
  | n + 1, x1, x2, x3, x4, x5 => by
    intro s r s'  h
    exact zyC233_89b (k89 := zyF233_89 n) (fun x1 x2 x3 x4 x5 s r s'  h => zyC233_89  n x1 x2 x3 x4 x5 s r s'  h) h
noncomputable def zyF233_75  (k40 : Int32 → Int32 → Int32 → Int32 → zy_S → Option (Int32 × zy_S)) (x1 : Int32) (x2 : Int32) (x4 : Int32) (y0 : Int32) (y1 : Int32) (s : zy_S) : Option (Int32 × zy_S) :=
k40 x1 x2 (y1 ||| y0) (x4 + (1 : Int32)) s
theorem zyC233_75 {X : zx_X}  {k40 : Int32 → Int32 → Int32 → Int32 → zy_S → Option (Int32 × zy_S)}  (hk40 : ∀ (x1 : Int32) (x2 : Int32) (x3 : Int32) (x4 : Int32) (s : zy_S) (r : Int32) (s' : zy_S), k40 x1 x2 x3 x4 s = some (r, s') → zyR X 4 233 40 [some (.ref (43 + 3)), some (.int x1), some (.int x2), some (.int x3), some (.int x4), none] [] s (zyE (some (.int r)) s')) {x1 : Int32} {x2 : Int32} {x4 : Int32} {y0 : Int32} {y1 : Int32} {s : zy_S} {r : Int32} {s' : zy_S}  (h : zyF233_75 k40 x1 x2 x4 y0 y1 s = some (r, s')) : zyR X 4 233 75 [some (.ref (43 + 3)), some (.int x1), some (.int x2), none, some (.int x4), none] [.int y0, .int y1] s (zyE (some (.int r)) s') := by
  unfold zyF233_75 at h
  refine zy_14 rfl (show zyR _ _ _ _ [some (.ref (43 + 3)), some (.int x1), some (.int x2), none, some (.int x4), none] [.int (y1 ||| y0)] _ _ from ?_)
  refine zy_23 rfl rfl (show zyR _ _ _ _ [some (.ref (43 + 3)), some (.int x1), some (.int x2), some (.int (y1 ||| y0)), some (.int x4), none] [] _ _ from ?_)
  refine zy_22 rfl rfl rfl rfl (show zyR _ _ _ _ [some (.ref (43 + 3)), some (.int x1), some (.int x2), some (.int (y1 ||| y0)), some (.int (x4 + (1 : Int32))), none] [] _ _ from ?_)
  refine zy_6 rfl (show zyR _ _ _ _ [some (.ref (43 + 3)), some (.int x1), some (.int x2), some (.int (y1 ||| y0)), some (.int (x4 + (1 : Int32))), none] [] _ _ from ?_)
  exact zy_sub (show zy_le [some (.ref (43 + 3)), some (.int x1), some (.int x2), some (.int (y1 ||| y0)), some (.int (x4 + (1 : Int32))), none] [some (.ref (43 + 3)), some (.int x1), some (.int x2), some (.int (y1 ||| y0)), some (.int (x4 + (1 : Int32))), none] from ⟨rfl, ⟨rfl, ⟨rfl, ⟨rfl, ⟨rfl, trivial⟩⟩⟩⟩⟩) (hk40 x1 x2 (y1 ||| y0) (x4 + (1 : Int32)) s _ _ h)
noncomputable def zyF233_40b  (k40 : Int32 → Int32 → Int32 → Int32 → zy_S → Option (Int32 × zy_S)) (x1 : Int32) (x2 : Int32) (x3 : Int32) (x4 : Int32) (s : zy_S) : Option (Int32 × zy_S) :=
if (s.1 43 6) ≤ x4 then
zyF233_89 zy_fu x1 x2 x3 (0 : Int32) (0 : Int32) s
else
if zy_in x4 41 then
(zyF230 x1 (s.1 44 (x4).toNatClampNeg) s).bind fun p6 =>
if p6.1 ≠ (-2 : Int32) then
zyF233_75 k40 x1 x2 x4 (0 : Int32) x3 p6.2
else
zyF233_75 k40 x1 x2 x4 ((1 : Int32) <<< (x4 &&& 31)) x3 p6.2
else none
theorem zyC233_40b {X : zx_X}  {k40 : Int32 → Int32 → Int32 → Int32 → zy_S → Option (Int32 × zy_S)}  (hk40 : ∀ (x1 : Int32) (x2 : Int32) (x3 : Int32) (x4 : Int32) (s : zy_S) (r : Int32) (s' : zy_S), k40 x1 x2 x3 x4 s = some (r, s') → zyR X 4 233 40 [some (.ref (43 + 3)), some (.int x1), some (.int x2), some (.int x3), some (.int x4), none] [] s (zyE (some (.int r)) s')) {x1 : Int32} {x2 : Int32} {x3 : Int32} {x4 : Int32} {s : zy_S} {r : Int32} {s' : zy_S}  (h : zyF233_40b k40 x1 x2 x3 x4 s = some (r, s')) : zyR X 4 233 40 [some (.ref (43 + 3)), some (.int x1), some (.int x2), some (.int x3), some (.int x4), none] [] s (zyE (some (.int r)) s') := by
  unfold zyF233_40b at h
  refine zy_2 rfl rfl (show zyR _ _ _ _ [some (.ref (43 + 3)), some (.int x1), some (.int x2), some (.int x3), some (.int x4), none] [.int x4] _ _ from ?_)
  refine zy_0 rfl rfl (show zyR _ _ _ _ [some (.ref (43 + 3)), some (.int x1), some (.int x2), some (.int x3), some (.int x4), none] [.ref (43 + 3), .int x4] _ _ from ?_)
  refine zy_1 (c := 43) rfl rfl rfl (show zyR _ _ _ _ [some (.ref (43 + 3)), some (.int x1), some (.int x2), some (.int x3), some (.int x4), none] [.int (s.1 43 6), .int x4] _ _ from ?_)
  refine zy_25_3 rfl (fun b8 => (show zyR _ _ _ _ [some (.ref (43 + 3)), some (.int x1), some (.int x2), some (.int x3), some (.int x4), none] [] _ _ from ?_)) (fun b8 => (show zyR _ _ _ _ [some (.ref (43 + 3)), some (.int x1), some (.int x2), some (.int x3), some (.int x4), none] [] _ _ from ?_))
  · replace h := zy_ifp h b8
    refine zy_3 rfl rfl (show zyR _ _ _ _ [some (.ref (43 + 3)), some (.int x1), some (.int x2), some (.int x3), some (.int x4), none] [.int (0 : Int32)] _ _ from ?_)
    refine zy_23 rfl rfl (show zyR _ _ _ _ [some (.ref (43 + 3)), some (.int x1), some (.int x2), some (.int x3), some (.int (0 : Int32)), none] [] _ _ from ?_)
    refine zy_3 rfl rfl (show zyR _ _ _ _ [some (.ref (43 + 3)), some (.int x1), some (.int x2), some (.int x3), some (.int (0 : Int32)), none] [.int (0 : Int32)] _ _ from ?_)
    refine zy_23 rfl rfl (show zyR _ _ _ _ [some (.ref (43 + 3)), some (.int x1), some (.int x2), some (.int x3), some (.int (0 : Int32)), some (.int (0 : Int32))] [] _ _ from ?_)
    exact zy_sub (show zy_le [some (.ref (43 + 3)), some (.int x1), some (.int x2), some (.int x3), some (.int (0 : Int32)), some (.int (0 : Int32))] [some (.ref (43 + 3)), some (.int x1), some (.int x2), some (.int x3), some (.int (0 : Int32)), some (.int (0 : Int32))] from ⟨rfl, ⟨rfl, ⟨rfl, ⟨rfl, ⟨rfl, ⟨rfl, trivial⟩⟩⟩⟩⟩⟩) (zyC233_89 zy_fu x1 x2 x3 (0 : Int32) (0 : Int32) s _ _ h)
  · replace h := zy_ifn h b8
    refine zy_2 rfl rfl (show zyR _ _ _ _ [some (.ref (43 + 3)), some (.int x1), some (.int x2), some (.int x3), some (.int x4), none] [.int x3] _ _ from ?_)
    refine zy_0 rfl rfl (show zyR _ _ _ _ [some (.ref (43 + 3)), some (.int x1), some (.int x2), some (.int x3), some (.int x4), none] [.ref (43 + 3), .int x3] _ _ from ?_)
    refine zy_2 rfl rfl (show zyR _ _ _ _ [some (.ref (43 + 3)), some (.int x1), some (.int x2), some (.int x3), some (.int x4), none] [.int x1, .ref (43 + 3), .int x3] _ _ from ?_)
    refine zy_0 rfl rfl (show zyR _ _ _ _ [some (.ref (43 + 3)), some (.int x1), some (.int x2), some (.int x3), some (.int x4), none] [.ref (43 + 3), .int x1, .ref (43 + 3), .int x3] _ _ from ?_)
    refine zy_1r (c := 43) rfl rfl rfl (show zyR _ _ _ _ [some (.ref (43 + 3)), some (.int x1), some (.int x2), some (.int x3), some (.int x4), none] [.ref (44 + 3), .int x1, .ref (43 + 3), .int x3] _ _ from ?_)
    refine zy_2 rfl rfl (show zyR _ _ _ _ [some (.ref (43 + 3)), some (.int x1), some (.int x2), some (.int x3), some (.int x4), none] [.int x4, .ref (44 + 3), .int x1, .ref (43 + 3), .int x3] _ _ from ?_)
    obtain ⟨c5, h⟩ := zy_if h
    refine zy_26 (c := 44) rfl rfl c5 (show zyR _ _ _ _ [some (.ref (43 + 3)), some (.int x1), some (.int x2), some (.int x3), some (.int x4), none] [.int (s.1 44 (x4).toNatClampNeg), .int x1, .ref (43 + 3), .int x3] _ _ from ?_)
    obtain ⟨p6, hp6, h⟩ := zy_bind h
    refine zy_5 (c := 43) (as := [.int x1, .int (s.1 44 (x4).toNatClampNeg)]) (rest := [.int x3]) (L := [some (.ref (43 + 3)), some (.int x1), some (.int (s.1 44 (x4).toNatClampNeg)), none, none, none]) (d' := 3) rfl rfl rfl (Nat.le_of_ble_eq_true rfl) (Nat.le_of_ble_eq_true rfl) rfl (Nat.le_of_ble_eq_true rfl) rfl rfl (zyC230 hp6) ?_
    show zyR _ _ _ _ [some (.ref (43 + 3)), some (.int x1), some (.int x2), some (.int x3), some (.int x4), none] [.int p6.1, .int x3] _ _
    refine zy_3 rfl rfl (show zyR _ _ _ _ [some (.ref (43 + 3)), some (.int x1), some (.int x2), some (.int x3), some (.int x4), none] [.int (-2 : Int32), .int p6.1, .int x3] _ _ from ?_)
    refine zy_25_1 rfl (fun b7 => (show zyR _ _ _ _ [some (.ref (43 + 3)), some (.int x1), some (.int x2), some (.int x3), some (.int x4), none] [.int x3] _ _ from ?_)) (fun b7 => (show zyR _ _ _ _ [some (.ref (43 + 3)), some (.int x1), some (.int x2), some (.int x3), some (.int x4), none] [.int x3] _ _ from ?_))
    · replace h := zy_ifp h b7
      refine zy_3 rfl rfl (show zyR _ _ _ _ [some (.ref (43 + 3)), some (.int x1), some (.int x2), some (.int x3), some (.int x4), none] [.int (0 : Int32), .int x3] _ _ from ?_)
      exact zy_sub (show zy_le [some (.ref (43 + 3)), some (.int x1), some (.int x2), none, some (.int x4), none] [some (.ref (43 + 3)), some (.int x1), some (.int x2), some (.int x3), some (.int x4), none] from ⟨rfl, ⟨rfl, ⟨rfl, ⟨rfl, trivial⟩⟩⟩⟩) (zyC233_75 hk40 h)
    · replace h := zy_ifn h b7
      refine zy_3 rfl rfl (show zyR _ _ _ _ [some (.ref (43 + 3)), some (.int x1), some (.int x2), some (.int x3), some (.int x4), none] [.int (1 : Int32), .int x3] _ _ from ?_)
      refine zy_2 rfl rfl (show zyR _ _ _ _ [some (.ref (43 + 3)), some (.int x1), some (.int x2), some (.int x3), some (.int x4), none] [.int x4, .int (1 : Int32), .int x3] _ _ from ?_)
      refine zy_16 rfl (show zyR _ _ _ _ [some (.ref (43 + 3)), some (.int x1), some (.int x2), some (.int x3), some (.int x4), none] [.int ((1 : Int32) <<< (x4 &&& 31)), .int x3] _ _ from ?_)
      refine zy_6 rfl (show zyR _ _ _ _ [some (.ref (43 + 3)), some (.int x1), some (.int x2), some (.int x3), some (.int x4), none] [.int ((1 : Int32) <<< (x4 &&& 31)), .int x3] _ _ from ?_)
      exact zy_sub (show zy_le [some (.ref (43 + 3)), some (.int x1), some (.int x2), none, some (.int x4), none] [some (.ref (43 + 3)), some (.int x1), some (.int x2), some (.int x3), some (.int x4), none] from ⟨rfl, ⟨rfl, ⟨rfl, ⟨rfl, trivial⟩⟩⟩⟩) (zyC233_75 hk40 h)
noncomputable def zyF233_40   (n : Nat) : Int32 → Int32 → Int32 → Int32 → zy_S → Option (Int32 × zy_S) := Nat.rec (fun _ _ _ _ _ => none) (fun _ k40 => zyF233_40b k40) n
theorem zyC233_40 {X : zx_X}     : ∀ (n : Nat) (x1 : Int32) (x2 : Int32) (x3 : Int32) (x4 : Int32) (s : zy_S) (r : Int32) (s' : zy_S), zyF233_40 n x1 x2 x3 x4 s = some (r, s') → zyR X 4 233 40 [some (.ref (43 + 3)), some (.int x1), some (.int x2), some (.int x3), some (.int x4), none] [] s (zyE (some (.int r)) s')
  | 0, _, _, _, _ => by
    intro s r s'  h
    have h : (none : Option (Int32 × zy_S)) = some (r, s') := h
    cases h
  | n + 1, x1, x2, x3, x4 => by
    intro s r s'  h
    exact zyC233_40b (k40 := zyF233_40 n) (fun x1 x2 x3 x4 s r s'  h => zyC233_40  n x1 x2 x3 x4 s r s'  h) h
noncomputable def zyF233   (x1 : Int32) (x2 : Int32) (s : zy_S) : Option (Int32 × zy_S) :=
(zyF229 x1 s).bind fun p9 =>
if p9.1 = (-1 : Int32) then
some ((-1 : Int32), p9.2)
else
(zyF179 (x2).toInt64 (0 : Int64) (1 : Int64) p9.2).bind fun p10 =>
if p10.1 ≠ 0 then
(zyF229 x1 p10.2).bind fun p11 =>
if 0 ≤ p11.1 then
zyF233_40 zy_fu x1 x2 (0 : Int32) (0 : Int32) p11.2
else
(zyF229 x1 p11.2).bind fun p12 =>
some (p12.1, p12.2)
else
some ((-1 : Int32), p10.2)
theorem zyC233 {X : zx_X}     {x1 : Int32} {x2 : Int32} {s : zy_S} {r : Int32} {s' : zy_S}  (h : zyF233 x1 x2 s = some (r, s')) : zyR X 4 233 0 [some (.ref (43 + 3)), some (.int x1), some (.int x2), none, none, none] [] s (zyE (some (.int r)) s') := by
  unfold zyF233 at h
  refine zy_0 rfl rfl (show zyR _ _ _ _ [some (.ref (43 + 3)), some (.int x1), some (.int x2), none, none, none] [.ref (43 + 3)] _ _ from ?_)
  refine zy_2 rfl rfl (show zyR _ _ _ _ [some (.ref (43 + 3)), some (.int x1), some (.int x2), none, none, none] [.int x1, .ref (43 + 3)] _ _ from ?_)
  obtain ⟨p9, hp9, h⟩ := zy_bind h
  refine zy_5 (c := 43) (as := [.int x1]) (rest := []) (L := [some (.ref (43 + 3)), some (.int x1)]) (d' := 3) rfl rfl rfl (Nat.le_of_ble_eq_true rfl) (Nat.le_of_ble_eq_true rfl) rfl (Nat.le_of_ble_eq_true rfl) rfl rfl (zyC229 hp9) ?_
  show zyR _ _ _ _ [some (.ref (43 + 3)), some (.int x1), some (.int x2), none, none, none] [.int p9.1] _ _
  refine zy_3 rfl rfl (show zyR _ _ _ _ [some (.ref (43 + 3)), some (.int x1), some (.int x2), none, none, none] [.int (-1 : Int32), .int p9.1] _ _ from ?_)
  refine zy_25_0 rfl (fun b15 => (show zyR _ _ _ _ [some (.ref (43 + 3)), some (.int x1), some (.int x2), none, none, none] [] _ _ from ?_)) (fun b15 => (show zyR _ _ _ _ [some (.ref (43 + 3)), some (.int x1), some (.int x2), none, none, none] [] _ _ from ?_))
  · replace h := zy_ifp h b15
    refine zy_3 rfl rfl (show zyR _ _ _ _ [some (.ref (43 + 3)), some (.int x1), some (.int x2), none, none, none] [.int (-1 : Int32)] _ _ from ?_)
    obtain ⟨rfl, rfl⟩ := zy_pi h
    exact zy_4 rfl ⟨rfl, rfl⟩
  · replace h := zy_ifn h b15
    refine zy_2 rfl rfl (show zyR _ _ _ _ [some (.ref (43 + 3)), some (.int x1), some (.int x2), none, none, none] [.int x2] _ _ from ?_)
    refine zy_40 rfl (show zyR _ _ _ _ [some (.ref (43 + 3)), some (.int x1), some (.int x2), none, none, none] [.long (x2).toInt64] _ _ from ?_)
    refine zy_36 rfl rfl (show zyR _ _ _ _ [some (.ref (43 + 3)), some (.int x1), some (.int x2), none, none, none] [.long (0 : Int64), .long (x2).toInt64] _ _ from ?_)
    refine zy_36 rfl rfl (show zyR _ _ _ _ [some (.ref (43 + 3)), some (.int x1), some (.int x2), none, none, none] [.long (1 : Int64), .long (0 : Int64), .long (x2).toInt64] _ _ from ?_)
    obtain ⟨p10, hp10, h⟩ := zy_bind h
    refine zy_60 (as := [.long (x2).toInt64, .long (0 : Int64), .long (1 : Int64)]) (rest := []) (L := [some (.long (x2).toInt64), none, some (.long (0 : Int64)), none, some (.long (1 : Int64)), none]) (d' := 1) rfl rfl (Nat.le_of_ble_eq_true rfl) (Nat.le_of_ble_eq_true rfl) rfl (Nat.le_of_ble_eq_true rfl) rfl rfl (zyC179 hp10) ?_
    show zyR _ _ _ _ [some (.ref (43 + 3)), some (.int x1), some (.int x2), none, none, none] [.int p10.1] _ _
    refine zy_24_1 rfl (fun b14 => (show zyR _ _ _ _ [some (.ref (43 + 3)), some (.int x1), some (.int x2), none, none, none] [] _ _ from ?_)) (fun b14 => (show zyR _ _ _ _ [some (.ref (43 + 3)), some (.int x1), some (.int x2), none, none, none] [] _ _ from ?_))
    · replace h := zy_ifp h b14
      refine zy_0 rfl rfl (show zyR _ _ _ _ [some (.ref (43 + 3)), some (.int x1), some (.int x2), none, none, none] [.ref (43 + 3)] _ _ from ?_)
      refine zy_2 rfl rfl (show zyR _ _ _ _ [some (.ref (43 + 3)), some (.int x1), some (.int x2), none, none, none] [.int x1, .ref (43 + 3)] _ _ from ?_)
      obtain ⟨p11, hp11, h⟩ := zy_bind h
      refine zy_5 (c := 43) (as := [.int x1]) (rest := []) (L := [some (.ref (43 + 3)), some (.int x1)]) (d' := 3) rfl rfl rfl (Nat.le_of_ble_eq_true rfl) (Nat.le_of_ble_eq_true rfl) rfl (Nat.le_of_ble_eq_true rfl) rfl rfl (zyC229 hp11) ?_
      show zyR _ _ _ _ [some (.ref (43 + 3)), some (.int x1), some (.int x2), none, none, none] [.int p11.1] _ _
      refine zy_24_3 rfl (fun b13 => (show zyR _ _ _ _ [some (.ref (43 + 3)), some (.int x1), some (.int x2), none, none, none] [] _ _ from ?_)) (fun b13 => (show zyR _ _ _ _ [some (.ref (43 + 3)), some (.int x1), some (.int x2), none, none, none] [] _ _ from ?_))
      · replace h := zy_ifp h b13
        refine zy_3 rfl rfl (show zyR _ _ _ _ [some (.ref (43 + 3)), some (.int x1), some (.int x2), none, none, none] [.int (0 : Int32)] _ _ from ?_)
        refine zy_23 rfl rfl (show zyR _ _ _ _ [some (.ref (43 + 3)), some (.int x1), some (.int x2), some (.int (0 : Int32)), none, none] [] _ _ from ?_)
        refine zy_3 rfl rfl (show zyR _ _ _ _ [some (.ref (43 + 3)), some (.int x1), some (.int x2), some (.int (0 : Int32)), none, none] [.int (0 : Int32)] _ _ from ?_)
        refine zy_23 rfl rfl (show zyR _ _ _ _ [some (.ref (43 + 3)), some (.int x1), some (.int x2), some (.int (0 : Int32)), some (.int (0 : Int32)), none] [] _ _ from ?_)
        exact zy_sub (show zy_le [some (.ref (43 + 3)), some (.int x1), some (.int x2), some (.int (0 : Int32)), some (.int (0 : Int32)), none] [some (.ref (43 + 3)), some (.int x1), some (.int x2), some (.int (0 : Int32)), some (.int (0 : Int32)), none] from ⟨rfl, ⟨rfl, ⟨rfl, ⟨rfl, ⟨rfl, trivial⟩⟩⟩⟩⟩) (zyC233_40 zy_fu x1 x2 (0 : Int32) (0 : Int32) p11.2 _ _ h)
      · replace h := zy_ifn h b13
        refine zy_0 rfl rfl (show zyR _ _ _ _ [some (.ref (43 + 3)), some (.int x1), some (.int x2), none, none, none] [.ref (43 + 3)] _ _ from ?_)
        refine zy_2 rfl rfl (show zyR _ _ _ _ [some (.ref (43 + 3)), some (.int x1), some (.int x2), none, none, none] [.int x1, .ref (43 + 3)] _ _ from ?_)
        obtain ⟨p12, hp12, h⟩ := zy_bind h
        refine zy_5 (c := 43) (as := [.int x1]) (rest := []) (L := [some (.ref (43 + 3)), some (.int x1)]) (d' := 3) rfl rfl rfl (Nat.le_of_ble_eq_true rfl) (Nat.le_of_ble_eq_true rfl) rfl (Nat.le_of_ble_eq_true rfl) rfl rfl (zyC229 hp12) ?_
        show zyR _ _ _ _ [some (.ref (43 + 3)), some (.int x1), some (.int x2), none, none, none] [.int p12.1] _ _
        obtain ⟨rfl, rfl⟩ := zy_pi h
        exact zy_4 rfl ⟨rfl, rfl⟩
    · replace h := zy_ifn h b14
      refine zy_3 rfl rfl (show zyR _ _ _ _ [some (.ref (43 + 3)), some (.int x1), some (.int x2), none, none, none] [.int (-1 : Int32)] _ _ from ?_)
      obtain ⟨rfl, rfl⟩ := zy_pi h
      exact zy_4 rfl ⟨rfl, rfl⟩
/-! NineOpinions$Tape.next()I -/
noncomputable def zyF41    (s : zy_S) : Option (Int32 × zy_S) :=
if (s.1 9 2) ≤ (s.1 9 4) then
some ((-1 : Int32), s)
else
if zy_in (s.1 9 4) 120 then
some ((s.1 10 ((s.1 9 4)).toNatClampNeg), s)
else none
theorem zyC41 {X : zx_X}      {s : zy_S} {r : Int32} {s' : zy_S}  (h : zyF41 s = some (r, s')) : zyR X 1 41 0 [some (.ref (9 + 3))] [] s (zyE (some (.int r)) s') := by
  unfold zyF41 at h
  refine zy_0 rfl rfl (show zyR _ _ _ _ [some (.ref (9 + 3))] [.ref (9 + 3)] _ _ from ?_)
  refine zy_1 (c := 9) rfl rfl rfl (show zyR _ _ _ _ [some (.ref (9 + 3))] [.int (s.1 9 4)] _ _ from ?_)
  refine zy_0 rfl rfl (show zyR _ _ _ _ [some (.ref (9 + 3))] [.ref (9 + 3), .int (s.1 9 4)] _ _ from ?_)
  refine zy_1 (c := 9) rfl rfl rfl (show zyR _ _ _ _ [some (.ref (9 + 3))] [.int (s.1 9 2), .int (s.1 9 4)] _ _ from ?_)
  refine zy_25_3 rfl (fun b2 => (show zyR _ _ _ _ [some (.ref (9 + 3))] [] _ _ from ?_)) (fun b2 => (show zyR _ _ _ _ [some (.ref (9 + 3))] [] _ _ from ?_))
  · replace h := zy_ifp h b2
    refine zy_3 rfl rfl (show zyR _ _ _ _ [some (.ref (9 + 3))] [.int (-1 : Int32)] _ _ from ?_)
    obtain ⟨rfl, rfl⟩ := zy_pi h
    exact zy_4 rfl ⟨rfl, rfl⟩
  · replace h := zy_ifn h b2
    refine zy_0 rfl rfl (show zyR _ _ _ _ [some (.ref (9 + 3))] [.ref (9 + 3)] _ _ from ?_)
    refine zy_1r (c := 9) rfl rfl rfl (show zyR _ _ _ _ [some (.ref (9 + 3))] [.ref (10 + 3)] _ _ from ?_)
    refine zy_0 rfl rfl (show zyR _ _ _ _ [some (.ref (9 + 3))] [.ref (9 + 3), .ref (10 + 3)] _ _ from ?_)
    refine zy_1 (c := 9) rfl rfl rfl (show zyR _ _ _ _ [some (.ref (9 + 3))] [.int (s.1 9 4), .ref (10 + 3)] _ _ from ?_)
    obtain ⟨c1, h⟩ := zy_if h
    refine zy_26 (c := 10) rfl rfl c1 (show zyR _ _ _ _ [some (.ref (9 + 3))] [.int (s.1 10 ((s.1 9 4)).toNatClampNeg)] _ _ from ?_)
    refine zy_6 rfl (show zyR _ _ _ _ [some (.ref (9 + 3))] [.int (s.1 10 ((s.1 9 4)).toNatClampNeg)] _ _ from ?_)
    obtain ⟨rfl, rfl⟩ := zy_pi h
    exact zy_4 rfl ⟨rfl, rfl⟩
/-! NineOpinions$Tape.make(I)V -/
noncomputable def zyF44   (x1 : Int32) (s : zy_S) : Option (Int32 × zy_S) :=
if (128 : Int32) ≤ (s.1 9 3) then
some ((0 : Int32), s)
else
if zy_in (s.1 9 3) 128 then
some ((0 : Int32), (zy_up (zy_up s 11 ((s.1 9 3)).toNatClampNeg x1) 9 3 ((s.1 9 3) + (1 : Int32))))
else none
theorem zyC44 {X : zx_X}     {x1 : Int32} {s : zy_S} {r : Int32} {s' : zy_S}  (h : zyF44 x1 s = some (r, s')) : zyR X 1 44 0 [some (.ref (9 + 3)), some (.int x1)] [] s (zyE none s') := by
  unfold zyF44 at h
  refine zy_0 rfl rfl (show zyR _ _ _ _ [some (.ref (9 + 3)), some (.int x1)] [.ref (9 + 3)] _ _ from ?_)
  refine zy_1 (c := 9) rfl rfl rfl (show zyR _ _ _ _ [some (.ref (9 + 3)), some (.int x1)] [.int (s.1 9 3)] _ _ from ?_)
  refine zy_3 rfl rfl (show zyR _ _ _ _ [some (.ref (9 + 3)), some (.int x1)] [.int (128 : Int32), .int (s.1 9 3)] _ _ from ?_)
  refine zy_25_3 rfl (fun b2 => (show zyR _ _ _ _ [some (.ref (9 + 3)), some (.int x1)] [] _ _ from ?_)) (fun b2 => (show zyR _ _ _ _ [some (.ref (9 + 3)), some (.int x1)] [] _ _ from ?_))
  · replace h := zy_ifp h b2
    cases h
    exact zy_66 rfl ⟨rfl, rfl⟩
  · replace h := zy_ifn h b2
    refine zy_0 rfl rfl (show zyR _ _ _ _ [some (.ref (9 + 3)), some (.int x1)] [.ref (9 + 3)] _ _ from ?_)
    refine zy_1r (c := 9) rfl rfl rfl (show zyR _ _ _ _ [some (.ref (9 + 3)), some (.int x1)] [.ref (11 + 3)] _ _ from ?_)
    refine zy_0 rfl rfl (show zyR _ _ _ _ [some (.ref (9 + 3)), some (.int x1)] [.ref (9 + 3), .ref (11 + 3)] _ _ from ?_)
    refine zy_1 (c := 9) rfl rfl rfl (show zyR _ _ _ _ [some (.ref (9 + 3)), some (.int x1)] [.int (s.1 9 3), .ref (11 + 3)] _ _ from ?_)
    refine zy_2 rfl rfl (show zyR _ _ _ _ [some (.ref (9 + 3)), some (.int x1)] [.int x1, .int (s.1 9 3), .ref (11 + 3)] _ _ from ?_)
    obtain ⟨c1, h⟩ := zy_if h
    refine zy_27 (c := 11) rfl rfl c1 (show zyR _ _ _ _ [some (.ref (9 + 3)), some (.int x1)] [] _ _ from ?_)
    refine zy_0 rfl rfl (show zyR _ _ _ _ [some (.ref (9 + 3)), some (.int x1)] [.ref (9 + 3)] _ _ from ?_)
    refine zy_33 rfl rfl (show zyR _ _ _ _ [some (.ref (9 + 3)), some (.int x1)] [.ref (9 + 3), .ref (9 + 3)] _ _ from ?_)
    refine zy_1 (c := 9) rfl rfl rfl (show zyR _ _ _ _ [some (.ref (9 + 3)), some (.int x1)] [.int (s.1 9 3), .ref (9 + 3)] _ _ from ?_)
    refine zy_3 rfl rfl (show zyR _ _ _ _ [some (.ref (9 + 3)), some (.int x1)] [.int (1 : Int32), .int (s.1 9 3), .ref (9 + 3)] _ _ from ?_)
    refine zy_10 rfl (show zyR _ _ _ _ [some (.ref (9 + 3)), some (.int x1)] [.int ((s.1 9 3) + (1 : Int32)), .ref (9 + 3)] _ _ from ?_)
    refine zy_52 (c := 9) rfl rfl rfl (show zyR _ _ _ _ [some (.ref (9 + 3)), some (.int x1)] [] _ _ from ?_)
    cases h
    exact zy_66 rfl ⟨rfl, rfl⟩
end
section
/-! PART 41.22: methods as functions. Made by wip/v4/dcp.py. -/
/-! NineOpinions$Tape.levelOf(I)I -/
noncomputable def zyF47   (x0 : Int32) (s : zy_S) : Option (Int32 × zy_S) :=
if x0 = (37 : Int32) then
some ((4 : Int32), s)
else
if x0 = (38 : Int32) then
some ((1 : Int32), s)
else
if x0 = (42 : Int32) then
some ((4 : Int32), s)
else
if x0 = (43 : Int32) then
some ((3 : Int32), s)
else
if x0 = (45 : Int32) then
some ((3 : Int32), s)
else
if x0 = (47 : Int32) then
some ((4 : Int32), s)
else
if x0 = (60 : Int32) then
some ((2 : Int32), s)
else
if x0 = (61 : Int32) then
some ((2 : Int32), s)
else
if x0 = (62 : Int32) then
some ((2 : Int32), s)
else
if x0 = (124 : Int32) then
some ((0 : Int32), s)
else
some ((-1 : Int32), s)
theorem zyC47 {X : zx_X}     {x0 : Int32} {s : zy_S} {r : Int32} {s' : zy_S}  (h : zyF47 x0 s = some (r, s')) : zyR X 1 47 0 [some (.int x0)] [] s (zyE (some (.int r)) s') := by
  unfold zyF47 at h
  refine zy_2 rfl rfl (show zyR _ _ _ _ [some (.int x0)] [.int x0] _ _ from ?_)
  refine zy_51 rfl (by decide) ?_
  refine zy_swp (fun b1 => (show zyR _ _ _ _ [some (.int x0)] [] _ _ from ?_)) (fun b1 => ?_)
  · replace h := zy_ifp h b1
    refine zy_3 rfl rfl (show zyR _ _ _ _ [some (.int x0)] [.int (4 : Int32)] _ _ from ?_)
    obtain ⟨rfl, rfl⟩ := zy_pi h
    exact zy_4 rfl ⟨rfl, rfl⟩
  replace h := zy_ifn h b1
  refine zy_swp (fun b2 => (show zyR _ _ _ _ [some (.int x0)] [] _ _ from ?_)) (fun b2 => ?_)
  · replace h := zy_ifp h b2
    refine zy_3 rfl rfl (show zyR _ _ _ _ [some (.int x0)] [.int (1 : Int32)] _ _ from ?_)
    obtain ⟨rfl, rfl⟩ := zy_pi h
    exact zy_4 rfl ⟨rfl, rfl⟩
  replace h := zy_ifn h b2
  refine zy_swp (fun b3 => (show zyR _ _ _ _ [some (.int x0)] [] _ _ from ?_)) (fun b3 => ?_)
  · replace h := zy_ifp h b3
    refine zy_3 rfl rfl (show zyR _ _ _ _ [some (.int x0)] [.int (4 : Int32)] _ _ from ?_)
    obtain ⟨rfl, rfl⟩ := zy_pi h
    exact zy_4 rfl ⟨rfl, rfl⟩
  replace h := zy_ifn h b3
  refine zy_swp (fun b4 => (show zyR _ _ _ _ [some (.int x0)] [] _ _ from ?_)) (fun b4 => ?_)
  · replace h := zy_ifp h b4
    refine zy_3 rfl rfl (show zyR _ _ _ _ [some (.int x0)] [.int (3 : Int32)] _ _ from ?_)
    obtain ⟨rfl, rfl⟩ := zy_pi h
    exact zy_4 rfl ⟨rfl, rfl⟩
  replace h := zy_ifn h b4
  refine zy_swp (fun b5 => (show zyR _ _ _ _ [some (.int x0)] [] _ _ from ?_)) (fun b5 => ?_)
  · replace h := zy_ifp h b5
    refine zy_3 rfl rfl (show zyR _ _ _ _ [some (.int x0)] [.int (3 : Int32)] _ _ from ?_)
    obtain ⟨rfl, rfl⟩ := zy_pi h
    exact zy_4 rfl ⟨rfl, rfl⟩
  replace h := zy_ifn h b5
  refine zy_swp (fun b6 => (show zyR _ _ _ _ [some (.int x0)] [] _ _ from ?_)) (fun b6 => ?_)
  · replace h := zy_ifp h b6
    refine zy_3 rfl rfl (show zyR _ _ _ _ [some (.int x0)] [.int (4 : Int32)] _ _ from ?_)
    obtain ⟨rfl, rfl⟩ := zy_pi h
    exact zy_4 rfl ⟨rfl, rfl⟩
  replace h := zy_ifn h b6
  refine zy_swp (fun b7 => (show zyR _ _ _ _ [some (.int x0)] [] _ _ from ?_)) (fun b7 => ?_)
  · replace h := zy_ifp h b7
    refine zy_3 rfl rfl (show zyR _ _ _ _ [some (.int x0)] [.int (2 : Int32)] _ _ from ?_)
    obtain ⟨rfl, rfl⟩ := zy_pi h
    exact zy_4 rfl ⟨rfl, rfl⟩
  replace h := zy_ifn h b7
  refine zy_swp (fun b8 => (show zyR _ _ _ _ [some (.int x0)] [] _ _ from ?_)) (fun b8 => ?_)
  · replace h := zy_ifp h b8
    refine zy_3 rfl rfl (show zyR _ _ _ _ [some (.int x0)] [.int (2 : Int32)] _ _ from ?_)
    obtain ⟨rfl, rfl⟩ := zy_pi h
    exact zy_4 rfl ⟨rfl, rfl⟩
  replace h := zy_ifn h b8
  refine zy_swp (fun b9 => (show zyR _ _ _ _ [some (.int x0)] [] _ _ from ?_)) (fun b9 => ?_)
  · replace h := zy_ifp h b9
    refine zy_3 rfl rfl (show zyR _ _ _ _ [some (.int x0)] [.int (2 : Int32)] _ _ from ?_)
    obtain ⟨rfl, rfl⟩ := zy_pi h
    exact zy_4 rfl ⟨rfl, rfl⟩
  replace h := zy_ifn h b9
  refine zy_swp (fun b10 => (show zyR _ _ _ _ [some (.int x0)] [] _ _ from ?_)) (fun b10 => ?_)
  · replace h := zy_ifp h b10
    refine zy_3 rfl rfl (show zyR _ _ _ _ [some (.int x0)] [.int (0 : Int32)] _ _ from ?_)
    obtain ⟨rfl, rfl⟩ := zy_pi h
    exact zy_4 rfl ⟨rfl, rfl⟩
  replace h := zy_ifn h b10
  show zyR _ _ _ _ [some (.int x0)] [] _ _
  refine zy_3 rfl rfl (show zyR _ _ _ _ [some (.int x0)] [.int (-1 : Int32)] _ _ from ?_)
  obtain ⟨rfl, rfl⟩ := zy_pi h
  exact zy_4 rfl ⟨rfl, rfl⟩
/-! NineOpinions$Tape.isDigit(I)Z -/
noncomputable def zyF42   (x0 : Int32) (s : zy_S) : Option (Int32 × zy_S) :=
if x0 < (48 : Int32) then
some ((0 : Int32), s)
else
if (57 : Int32) < x0 then
some ((0 : Int32), s)
else
some ((1 : Int32), s)
theorem zyC42 {X : zx_X}     {x0 : Int32} {s : zy_S} {r : Int32} {s' : zy_S}  (h : zyF42 x0 s = some (r, s')) : zyR X 1 42 0 [some (.int x0)] [] s (zyE (some (.int r)) s') := by
  unfold zyF42 at h
  refine zy_2 rfl rfl (show zyR _ _ _ _ [some (.int x0)] [.int x0] _ _ from ?_)
  refine zy_3 rfl rfl (show zyR _ _ _ _ [some (.int x0)] [.int (48 : Int32), .int x0] _ _ from ?_)
  refine zy_25_2 rfl (fun b2 => (show zyR _ _ _ _ [some (.int x0)] [] _ _ from ?_)) (fun b2 => (show zyR _ _ _ _ [some (.int x0)] [] _ _ from ?_))
  · replace h := zy_ifp h b2
    refine zy_3 rfl rfl (show zyR _ _ _ _ [some (.int x0)] [.int (0 : Int32)] _ _ from ?_)
    cases h
    exact zy_4b rfl ⟨rfl, rfl⟩ (Or.inl rfl)
  · replace h := zy_ifn h b2
    refine zy_2 rfl rfl (show zyR _ _ _ _ [some (.int x0)] [.int x0] _ _ from ?_)
    refine zy_3 rfl rfl (show zyR _ _ _ _ [some (.int x0)] [.int (57 : Int32), .int x0] _ _ from ?_)
    refine zy_25_4 rfl (fun b1 => (show zyR _ _ _ _ [some (.int x0)] [] _ _ from ?_)) (fun b1 => (show zyR _ _ _ _ [some (.int x0)] [] _ _ from ?_))
    · replace h := zy_ifp h b1
      refine zy_3 rfl rfl (show zyR _ _ _ _ [some (.int x0)] [.int (0 : Int32)] _ _ from ?_)
      cases h
      exact zy_4b rfl ⟨rfl, rfl⟩ (Or.inl rfl)
    · replace h := zy_ifn h b1
      refine zy_3 rfl rfl (show zyR _ _ _ _ [some (.int x0)] [.int (1 : Int32)] _ _ from ?_)
      refine zy_6 rfl (show zyR _ _ _ _ [some (.int x0)] [.int (1 : Int32)] _ _ from ?_)
      cases h
      exact zy_4b rfl ⟨rfl, rfl⟩ (Or.inr rfl)
/-! NineOpinions$Tape.readNumber()V -/
noncomputable def zyF43_48   (x1 : Int32) (s : zy_S) : Option (Int32 × zy_S) :=
(zyF44 x1 s).bind fun p1 =>
some ((0 : Int32), p1.2)
theorem zyC43_48 {X : zx_X}     {x1 : Int32} {s : zy_S} {r : Int32} {s' : zy_S}  (h : zyF43_48 x1 s = some (r, s')) : zyR X 2 43 48 [some (.ref (9 + 3)), some (.int x1), none] [] s (zyE none s') := by
  unfold zyF43_48 at h
  refine zy_0 rfl rfl (show zyR _ _ _ _ [some (.ref (9 + 3)), some (.int x1), none] [.ref (9 + 3)] _ _ from ?_)
  refine zy_2 rfl rfl (show zyR _ _ _ _ [some (.ref (9 + 3)), some (.int x1), none] [.int x1, .ref (9 + 3)] _ _ from ?_)
  obtain ⟨p1, hp1, h⟩ := zy_bind h
  refine zy_5 (c := 9) (as := [.int x1]) (rest := []) (L := [some (.ref (9 + 3)), some (.int x1)]) (d' := 1) rfl rfl rfl (Nat.le_of_ble_eq_true rfl) (Nat.le_of_ble_eq_true rfl) rfl (Nat.le_of_ble_eq_true rfl) rfl rfl (zyC44 hp1) ?_
  show zyR _ _ _ _ [some (.ref (9 + 3)), some (.int x1), none] [] _ _
  cases h
  exact zy_66 rfl ⟨rfl, rfl⟩
noncomputable def zyF43_4b  (k4 : Int32 → Int32 → zy_S → Option (Int32 × zy_S)) (x1 : Int32) (x2 : Int32) (s : zy_S) : Option (Int32 × zy_S) :=
if (4 : Int32) ≤ x2 then
zyF43_48 x1 s
else
(zyF41 s).bind fun p2 =>
(zyF42 p2.1 p2.2).bind fun p3 =>
if p3.1 = 0 then
zyF43_48 x1 p3.2
else
(zyF41 p3.2).bind fun p4 =>
k4 ((((10 : Int32) * x1) + p4.1) - (48 : Int32)) (x2 + (1 : Int32)) (zy_up p4.2 9 4 ((p4.2.1 9 4) + (1 : Int32)))
theorem zyC43_4b {X : zx_X}  {k4 : Int32 → Int32 → zy_S → Option (Int32 × zy_S)}  (hk4 : ∀ (x1 : Int32) (x2 : Int32) (s : zy_S) (r : Int32) (s' : zy_S), k4 x1 x2 s = some (r, s') → zyR X 2 43 4 [some (.ref (9 + 3)), some (.int x1), some (.int x2)] [] s (zyE none s')) {x1 : Int32} {x2 : Int32} {s : zy_S} {r : Int32} {s' : zy_S}  (h : zyF43_4b k4 x1 x2 s = some (r, s')) : zyR X 2 43 4 [some (.ref (9 + 3)), some (.int x1), some (.int x2)] [] s (zyE none s') := by
  unfold zyF43_4b at h
  refine zy_2 rfl rfl (show zyR _ _ _ _ [some (.ref (9 + 3)), some (.int x1), some (.int x2)] [.int x2] _ _ from ?_)
  refine zy_3 rfl rfl (show zyR _ _ _ _ [some (.ref (9 + 3)), some (.int x1), some (.int x2)] [.int (4 : Int32), .int x2] _ _ from ?_)
  refine zy_25_3 rfl (fun b6 => (show zyR _ _ _ _ [some (.ref (9 + 3)), some (.int x1), some (.int x2)] [] _ _ from ?_)) (fun b6 => (show zyR _ _ _ _ [some (.ref (9 + 3)), some (.int x1), some (.int x2)] [] _ _ from ?_))
  · replace h := zy_ifp h b6
    exact zy_sub (show zy_le [some (.ref (9 + 3)), some (.int x1), none] [some (.ref (9 + 3)), some (.int x1), some (.int x2)] from ⟨rfl, ⟨rfl, trivial⟩⟩) (zyC43_48 h)
  · replace h := zy_ifn h b6
    refine zy_0 rfl rfl (show zyR _ _ _ _ [some (.ref (9 + 3)), some (.int x1), some (.int x2)] [.ref (9 + 3)] _ _ from ?_)
    obtain ⟨p2, hp2, h⟩ := zy_bind h
    refine zy_5 (c := 9) (as := []) (rest := []) (L := [some (.ref (9 + 3))]) (d' := 1) rfl rfl rfl (Nat.le_of_ble_eq_true rfl) (Nat.le_of_ble_eq_true rfl) rfl (Nat.le_of_ble_eq_true rfl) rfl rfl (zyC41 hp2) ?_
    show zyR _ _ _ _ [some (.ref (9 + 3)), some (.int x1), some (.int x2)] [.int p2.1] _ _
    obtain ⟨p3, hp3, h⟩ := zy_bind h
    refine zy_60 (as := [.int p2.1]) (rest := []) (L := [some (.int p2.1)]) (d' := 1) rfl rfl (Nat.le_of_ble_eq_true rfl) (Nat.le_of_ble_eq_true rfl) rfl (Nat.le_of_ble_eq_true rfl) rfl rfl (zyC42 hp3) ?_
    show zyR _ _ _ _ [some (.ref (9 + 3)), some (.int x1), some (.int x2)] [.int p3.1] _ _
    refine zy_24_0 rfl (fun b5 => (show zyR _ _ _ _ [some (.ref (9 + 3)), some (.int x1), some (.int x2)] [] _ _ from ?_)) (fun b5 => (show zyR _ _ _ _ [some (.ref (9 + 3)), some (.int x1), some (.int x2)] [] _ _ from ?_))
    · replace h := zy_ifp h b5
      exact zy_sub (show zy_le [some (.ref (9 + 3)), some (.int x1), none] [some (.ref (9 + 3)), some (.int x1), some (.int x2)] from ⟨rfl, ⟨rfl, trivial⟩⟩) (zyC43_48 h)
    · replace h := zy_ifn h b5
      refine zy_3 rfl rfl (show zyR _ _ _ _ [some (.ref (9 + 3)), some (.int x1), some (.int x2)] [.int (10 : Int32)] _ _ from ?_)
      refine zy_2 rfl rfl (show zyR _ _ _ _ [some (.ref (9 + 3)), some (.int x1), some (.int x2)] [.int x1, .int (10 : Int32)] _ _ from ?_)
      refine zy_12 rfl (show zyR _ _ _ _ [some (.ref (9 + 3)), some (.int x1), some (.int x2)] [.int ((10 : Int32) * x1)] _ _ from ?_)
      refine zy_0 rfl rfl (show zyR _ _ _ _ [some (.ref (9 + 3)), some (.int x1), some (.int x2)] [.ref (9 + 3), .int ((10 : Int32) * x1)] _ _ from ?_)
      obtain ⟨p4, hp4, h⟩ := zy_bind h
      refine zy_5 (c := 9) (as := []) (rest := [.int ((10 : Int32) * x1)]) (L := [some (.ref (9 + 3))]) (d' := 1) rfl rfl rfl (Nat.le_of_ble_eq_true rfl) (Nat.le_of_ble_eq_true rfl) rfl (Nat.le_of_ble_eq_true rfl) rfl rfl (zyC41 hp4) ?_
      show zyR _ _ _ _ [some (.ref (9 + 3)), some (.int x1), some (.int x2)] [.int p4.1, .int ((10 : Int32) * x1)] _ _
      refine zy_10 rfl (show zyR _ _ _ _ [some (.ref (9 + 3)), some (.int x1), some (.int x2)] [.int (((10 : Int32) * x1) + p4.1)] _ _ from ?_)
      refine zy_3 rfl rfl (show zyR _ _ _ _ [some (.ref (9 + 3)), some (.int x1), some (.int x2)] [.int (48 : Int32), .int (((10 : Int32) * x1) + p4.1)] _ _ from ?_)
      refine zy_11 rfl (show zyR _ _ _ _ [some (.ref (9 + 3)), some (.int x1), some (.int x2)] [.int ((((10 : Int32) * x1) + p4.1) - (48 : Int32))] _ _ from ?_)
      refine zy_23 rfl rfl (show zyR _ _ _ _ [some (.ref (9 + 3)), some (.int ((((10 : Int32) * x1) + p4.1) - (48 : Int32))), some (.int x2)] [] _ _ from ?_)
      refine zy_0 rfl rfl (show zyR _ _ _ _ [some (.ref (9 + 3)), some (.int ((((10 : Int32) * x1) + p4.1) - (48 : Int32))), some (.int x2)] [.ref (9 + 3)] _ _ from ?_)
      refine zy_33 rfl rfl (show zyR _ _ _ _ [some (.ref (9 + 3)), some (.int ((((10 : Int32) * x1) + p4.1) - (48 : Int32))), some (.int x2)] [.ref (9 + 3), .ref (9 + 3)] _ _ from ?_)
      refine zy_1 (c := 9) rfl rfl rfl (show zyR _ _ _ _ [some (.ref (9 + 3)), some (.int ((((10 : Int32) * x1) + p4.1) - (48 : Int32))), some (.int x2)] [.int (p4.2.1 9 4), .ref (9 + 3)] _ _ from ?_)
      refine zy_3 rfl rfl (show zyR _ _ _ _ [some (.ref (9 + 3)), some (.int ((((10 : Int32) * x1) + p4.1) - (48 : Int32))), some (.int x2)] [.int (1 : Int32), .int (p4.2.1 9 4), .ref (9 + 3)] _ _ from ?_)
      refine zy_10 rfl (show zyR _ _ _ _ [some (.ref (9 + 3)), some (.int ((((10 : Int32) * x1) + p4.1) - (48 : Int32))), some (.int x2)] [.int ((p4.2.1 9 4) + (1 : Int32)), .ref (9 + 3)] _ _ from ?_)
      refine zy_52 (c := 9) rfl rfl rfl (show zyR _ _ _ _ [some (.ref (9 + 3)), some (.int ((((10 : Int32) * x1) + p4.1) - (48 : Int32))), some (.int x2)] [] _ _ from ?_)
      refine zy_22 rfl rfl rfl rfl (show zyR _ _ _ _ [some (.ref (9 + 3)), some (.int ((((10 : Int32) * x1) + p4.1) - (48 : Int32))), some (.int (x2 + (1 : Int32)))] [] _ _ from ?_)
      refine zy_6 rfl (show zyR _ _ _ _ [some (.ref (9 + 3)), some (.int ((((10 : Int32) * x1) + p4.1) - (48 : Int32))), some (.int (x2 + (1 : Int32)))] [] _ _ from ?_)
      exact zy_sub (show zy_le [some (.ref (9 + 3)), some (.int ((((10 : Int32) * x1) + p4.1) - (48 : Int32))), some (.int (x2 + (1 : Int32)))] [some (.ref (9 + 3)), some (.int ((((10 : Int32) * x1) + p4.1) - (48 : Int32))), some (.int (x2 + (1 : Int32)))] from ⟨rfl, ⟨rfl, ⟨rfl, trivial⟩⟩⟩) (hk4 ((((10 : Int32) * x1) + p4.1) - (48 : Int32)) (x2 + (1 : Int32)) (zy_up p4.2 9 4 ((p4.2.1 9 4) + (1 : Int32))) _ _ h)
noncomputable def zyF43_4   (n : Nat) : Int32 → Int32 → zy_S → Option (Int32 × zy_S) := Nat.rec (fun _ _ _ => none) (fun _ k4 => zyF43_4b k4) n
theorem zyC43_4 {X : zx_X}     : ∀ (n : Nat) (x1 : Int32) (x2 : Int32) (s : zy_S) (r : Int32) (s' : zy_S), zyF43_4 n x1 x2 s = some (r, s') → zyR X 2 43 4 [some (.ref (9 + 3)), some (.int x1), some (.int x2)] [] s (zyE none s')
  | 0, _, _ => by
    intro s r s'  h
    have h : (none : Option (Int32 × zy_S)) = some (r, s') := h
    cases h
  | n + 1, x1, x2 => by
    intro s r s'  h
    exact zyC43_4b (k4 := zyF43_4 n) (fun x1 x2 s r s'  h => zyC43_4  n x1 x2 s r s'  h) h
noncomputable def zyF43    (s : zy_S) : Option (Int32 × zy_S) :=
zyF43_4 zy_fu (0 : Int32) (0 : Int32) s
theorem zyC43 {X : zx_X}      {s : zy_S} {r : Int32} {s' : zy_S}  (h : zyF43 s = some (r, s')) : zyR X 2 43 0 [some (.ref (9 + 3)), none, none] [] s (zyE none s') := by
  unfold zyF43 at h
  refine zy_3 rfl rfl (show zyR _ _ _ _ [some (.ref (9 + 3)), none, none] [.int (0 : Int32)] _ _ from ?_)
  refine zy_23 rfl rfl (show zyR _ _ _ _ [some (.ref (9 + 3)), some (.int (0 : Int32)), none] [] _ _ from ?_)
  refine zy_3 rfl rfl (show zyR _ _ _ _ [some (.ref (9 + 3)), some (.int (0 : Int32)), none] [.int (0 : Int32)] _ _ from ?_)
  refine zy_23 rfl rfl (show zyR _ _ _ _ [some (.ref (9 + 3)), some (.int (0 : Int32)), some (.int (0 : Int32))] [] _ _ from ?_)
  exact zy_sub (show zy_le [some (.ref (9 + 3)), some (.int (0 : Int32)), some (.int (0 : Int32))] [some (.ref (9 + 3)), some (.int (0 : Int32)), some (.int (0 : Int32))] from ⟨rfl, ⟨rfl, ⟨rfl, trivial⟩⟩⟩) (zyC43_4 zy_fu (0 : Int32) (0 : Int32) s _ _ h)
/-! NineOpinions$Tape.nameOf(I)I -/
noncomputable def zyF45   (x0 : Int32) (s : zy_S) : Option (Int32 × zy_S) :=
if x0 = (100 : Int32) then
some ((0 : Int32), s)
else
if x0 = (101 : Int32) then
some ((-1 : Int32), s)
else
if x0 = (102 : Int32) then
some ((-1 : Int32), s)
else
if x0 = (103 : Int32) then
some ((-1 : Int32), s)
else
if x0 = (104 : Int32) then
some ((-1 : Int32), s)
else
if x0 = (105 : Int32) then
some ((-1 : Int32), s)
else
if x0 = (106 : Int32) then
some ((-1 : Int32), s)
else
if x0 = (107 : Int32) then
some ((4 : Int32), s)
else
if x0 = (108 : Int32) then
some ((-1 : Int32), s)
else
if x0 = (109 : Int32) then
some ((2 : Int32), s)
else
if x0 = (110 : Int32) then
some ((-1 : Int32), s)
else
if x0 = (111 : Int32) then
some ((-1 : Int32), s)
else
if x0 = (112 : Int32) then
some ((-1 : Int32), s)
else
if x0 = (113 : Int32) then
some ((-1 : Int32), s)
else
if x0 = (114 : Int32) then
some ((-1 : Int32), s)
else
if x0 = (115 : Int32) then
some ((1 : Int32), s)
else
if x0 = (116 : Int32) then
some ((-1 : Int32), s)
else
if x0 = (117 : Int32) then
some ((-1 : Int32), s)
else
if x0 = (118 : Int32) then
some ((5 : Int32), s)
else
if x0 = (119 : Int32) then
some ((3 : Int32), s)
else
some ((-1 : Int32), s)
theorem zyC45 {X : zx_X}     {x0 : Int32} {s : zy_S} {r : Int32} {s' : zy_S}  (h : zyF45 x0 s = some (r, s')) : zyR X 1 45 0 [some (.int x0)] [] s (zyE (some (.int r)) s') := by
  unfold zyF45 at h
  refine zy_2 rfl rfl (show zyR _ _ _ _ [some (.int x0)] [.int x0] _ _ from ?_)
  refine zy_50 rfl (by decide) ?_
  refine zy_swp (fun b1 => (show zyR _ _ _ _ [some (.int x0)] [] _ _ from ?_)) (fun b1 => ?_)
  · replace h := zy_ifp h b1
    refine zy_3 rfl rfl (show zyR _ _ _ _ [some (.int x0)] [.int (0 : Int32)] _ _ from ?_)
    obtain ⟨rfl, rfl⟩ := zy_pi h
    exact zy_4 rfl ⟨rfl, rfl⟩
  replace h := zy_ifn h b1
  refine zy_swp (fun b2 => (show zyR _ _ _ _ [some (.int x0)] [] _ _ from ?_)) (fun b2 => ?_)
  · replace h := zy_ifp h b2
    refine zy_3 rfl rfl (show zyR _ _ _ _ [some (.int x0)] [.int (-1 : Int32)] _ _ from ?_)
    obtain ⟨rfl, rfl⟩ := zy_pi h
    exact zy_4 rfl ⟨rfl, rfl⟩
  replace h := zy_ifn h b2
  refine zy_swp (fun b3 => (show zyR _ _ _ _ [some (.int x0)] [] _ _ from ?_)) (fun b3 => ?_)
  · replace h := zy_ifp h b3
    refine zy_3 rfl rfl (show zyR _ _ _ _ [some (.int x0)] [.int (-1 : Int32)] _ _ from ?_)
    obtain ⟨rfl, rfl⟩ := zy_pi h
    exact zy_4 rfl ⟨rfl, rfl⟩
  replace h := zy_ifn h b3
  refine zy_swp (fun b4 => (show zyR _ _ _ _ [some (.int x0)] [] _ _ from ?_)) (fun b4 => ?_)
  · replace h := zy_ifp h b4
    refine zy_3 rfl rfl (show zyR _ _ _ _ [some (.int x0)] [.int (-1 : Int32)] _ _ from ?_)
    obtain ⟨rfl, rfl⟩ := zy_pi h
    exact zy_4 rfl ⟨rfl, rfl⟩
  replace h := zy_ifn h b4
  refine zy_swp (fun b5 => (show zyR _ _ _ _ [some (.int x0)] [] _ _ from ?_)) (fun b5 => ?_)
  · replace h := zy_ifp h b5
    refine zy_3 rfl rfl (show zyR _ _ _ _ [some (.int x0)] [.int (-1 : Int32)] _ _ from ?_)
    obtain ⟨rfl, rfl⟩ := zy_pi h
    exact zy_4 rfl ⟨rfl, rfl⟩
  replace h := zy_ifn h b5
  refine zy_swp (fun b6 => (show zyR _ _ _ _ [some (.int x0)] [] _ _ from ?_)) (fun b6 => ?_)
  · replace h := zy_ifp h b6
    refine zy_3 rfl rfl (show zyR _ _ _ _ [some (.int x0)] [.int (-1 : Int32)] _ _ from ?_)
    obtain ⟨rfl, rfl⟩ := zy_pi h
    exact zy_4 rfl ⟨rfl, rfl⟩
  replace h := zy_ifn h b6
  refine zy_swp (fun b7 => (show zyR _ _ _ _ [some (.int x0)] [] _ _ from ?_)) (fun b7 => ?_)
  · replace h := zy_ifp h b7
    refine zy_3 rfl rfl (show zyR _ _ _ _ [some (.int x0)] [.int (-1 : Int32)] _ _ from ?_)
    obtain ⟨rfl, rfl⟩ := zy_pi h
    exact zy_4 rfl ⟨rfl, rfl⟩
  replace h := zy_ifn h b7
  refine zy_swp (fun b8 => (show zyR _ _ _ _ [some (.int x0)] [] _ _ from ?_)) (fun b8 => ?_)
  · replace h := zy_ifp h b8
    refine zy_3 rfl rfl (show zyR _ _ _ _ [some (.int x0)] [.int (4 : Int32)] _ _ from ?_)
    obtain ⟨rfl, rfl⟩ := zy_pi h
    exact zy_4 rfl ⟨rfl, rfl⟩
  replace h := zy_ifn h b8
  refine zy_swp (fun b9 => (show zyR _ _ _ _ [some (.int x0)] [] _ _ from ?_)) (fun b9 => ?_)
  · replace h := zy_ifp h b9
    refine zy_3 rfl rfl (show zyR _ _ _ _ [some (.int x0)] [.int (-1 : Int32)] _ _ from ?_)
    obtain ⟨rfl, rfl⟩ := zy_pi h
    exact zy_4 rfl ⟨rfl, rfl⟩
  replace h := zy_ifn h b9
  refine zy_swp (fun b10 => (show zyR _ _ _ _ [some (.int x0)] [] _ _ from ?_)) (fun b10 => ?_)
  · replace h := zy_ifp h b10
    refine zy_3 rfl rfl (show zyR _ _ _ _ [some (.int x0)] [.int (2 : Int32)] _ _ from ?_)
    obtain ⟨rfl, rfl⟩ := zy_pi h
    exact zy_4 rfl ⟨rfl, rfl⟩
  replace h := zy_ifn h b10
  refine zy_swp (fun b11 => (show zyR _ _ _ _ [some (.int x0)] [] _ _ from ?_)) (fun b11 => ?_)
  · replace h := zy_ifp h b11
    refine zy_3 rfl rfl (show zyR _ _ _ _ [some (.int x0)] [.int (-1 : Int32)] _ _ from ?_)
    obtain ⟨rfl, rfl⟩ := zy_pi h
    exact zy_4 rfl ⟨rfl, rfl⟩
  replace h := zy_ifn h b11
  refine zy_swp (fun b12 => (show zyR _ _ _ _ [some (.int x0)] [] _ _ from ?_)) (fun b12 => ?_)
  · replace h := zy_ifp h b12
    refine zy_3 rfl rfl (show zyR _ _ _ _ [some (.int x0)] [.int (-1 : Int32)] _ _ from ?_)
    obtain ⟨rfl, rfl⟩ := zy_pi h
    exact zy_4 rfl ⟨rfl, rfl⟩
  replace h := zy_ifn h b12
  refine zy_swp (fun b13 => (show zyR _ _ _ _ [some (.int x0)] [] _ _ from ?_)) (fun b13 => ?_)
  · replace h := zy_ifp h b13
    refine zy_3 rfl rfl (show zyR _ _ _ _ [some (.int x0)] [.int (-1 : Int32)] _ _ from ?_)
    obtain ⟨rfl, rfl⟩ := zy_pi h
    exact zy_4 rfl ⟨rfl, rfl⟩
  replace h := zy_ifn h b13
  refine zy_swp (fun b14 => (show zyR _ _ _ _ [some (.int x0)] [] _ _ from ?_)) (fun b14 => ?_)
  · replace h := zy_ifp h b14
    refine zy_3 rfl rfl (show zyR _ _ _ _ [some (.int x0)] [.int (-1 : Int32)] _ _ from ?_)
    obtain ⟨rfl, rfl⟩ := zy_pi h
    exact zy_4 rfl ⟨rfl, rfl⟩
  replace h := zy_ifn h b14
  refine zy_swp (fun b15 => (show zyR _ _ _ _ [some (.int x0)] [] _ _ from ?_)) (fun b15 => ?_)
  · replace h := zy_ifp h b15
    refine zy_3 rfl rfl (show zyR _ _ _ _ [some (.int x0)] [.int (-1 : Int32)] _ _ from ?_)
    obtain ⟨rfl, rfl⟩ := zy_pi h
    exact zy_4 rfl ⟨rfl, rfl⟩
  replace h := zy_ifn h b15
  refine zy_swp (fun b16 => (show zyR _ _ _ _ [some (.int x0)] [] _ _ from ?_)) (fun b16 => ?_)
  · replace h := zy_ifp h b16
    refine zy_3 rfl rfl (show zyR _ _ _ _ [some (.int x0)] [.int (1 : Int32)] _ _ from ?_)
    obtain ⟨rfl, rfl⟩ := zy_pi h
    exact zy_4 rfl ⟨rfl, rfl⟩
  replace h := zy_ifn h b16
  refine zy_swp (fun b17 => (show zyR _ _ _ _ [some (.int x0)] [] _ _ from ?_)) (fun b17 => ?_)
  · replace h := zy_ifp h b17
    refine zy_3 rfl rfl (show zyR _ _ _ _ [some (.int x0)] [.int (-1 : Int32)] _ _ from ?_)
    obtain ⟨rfl, rfl⟩ := zy_pi h
    exact zy_4 rfl ⟨rfl, rfl⟩
  replace h := zy_ifn h b17
  refine zy_swp (fun b18 => (show zyR _ _ _ _ [some (.int x0)] [] _ _ from ?_)) (fun b18 => ?_)
  · replace h := zy_ifp h b18
    refine zy_3 rfl rfl (show zyR _ _ _ _ [some (.int x0)] [.int (-1 : Int32)] _ _ from ?_)
    obtain ⟨rfl, rfl⟩ := zy_pi h
    exact zy_4 rfl ⟨rfl, rfl⟩
  replace h := zy_ifn h b18
  refine zy_swp (fun b19 => (show zyR _ _ _ _ [some (.int x0)] [] _ _ from ?_)) (fun b19 => ?_)
  · replace h := zy_ifp h b19
    refine zy_3 rfl rfl (show zyR _ _ _ _ [some (.int x0)] [.int (5 : Int32)] _ _ from ?_)
    obtain ⟨rfl, rfl⟩ := zy_pi h
    exact zy_4 rfl ⟨rfl, rfl⟩
  replace h := zy_ifn h b19
  refine zy_swp (fun b20 => (show zyR _ _ _ _ [some (.int x0)] [] _ _ from ?_)) (fun b20 => ?_)
  · replace h := zy_ifp h b20
    refine zy_3 rfl rfl (show zyR _ _ _ _ [some (.int x0)] [.int (3 : Int32)] _ _ from ?_)
    obtain ⟨rfl, rfl⟩ := zy_pi h
    exact zy_4 rfl ⟨rfl, rfl⟩
  replace h := zy_ifn h b20
  show zyR _ _ _ _ [some (.int x0)] [] _ _
  refine zy_3 rfl rfl (show zyR _ _ _ _ [some (.int x0)] [.int (-1 : Int32)] _ _ from ?_)
  obtain ⟨rfl, rfl⟩ := zy_pi h
  exact zy_4 rfl ⟨rfl, rfl⟩
/-! NineOpinions$Tape.goesOnWith(C)Z -/
noncomputable def zyF46_35   (x2 : Int32) (y0 : Int32) (y1 : Int32) (s : zy_S) : Option (Int32 × zy_S) :=
if x2 = 0 ∨ x2 = 1 then
some (x2, (zy_up s 9 4 (y1 + y0)))
else none
theorem zyC46_35 {X : zx_X}     {x2 : Int32} {y0 : Int32} {y1 : Int32} {s : zy_S} {r : Int32} {s' : zy_S}  (h : zyF46_35 x2 y0 y1 s = some (r, s')) : zyR X 2 46 35 [none, none, some (.int x2)] [.int y0, .int y1, .ref (9 + 3)] s (zyE (some (.int r)) s') := by
  unfold zyF46_35 at h
  refine zy_10 rfl (show zyR _ _ _ _ [none, none, some (.int x2)] [.int (y1 + y0), .ref (9 + 3)] _ _ from ?_)
  refine zy_52 (c := 9) rfl rfl rfl (show zyR _ _ _ _ [none, none, some (.int x2)] [] _ _ from ?_)
  refine zy_2 rfl rfl (show zyR _ _ _ _ [none, none, some (.int x2)] [.int x2] _ _ from ?_)
  obtain ⟨c1, h⟩ := zy_if h
  cases h
  exact zy_4b rfl ⟨rfl, rfl⟩ c1
noncomputable def zyF46_20   (y0 : Int32) (s : zy_S) : Option (Int32 × zy_S) :=
if y0 = 0 then
zyF46_35 y0 (0 : Int32) (s.1 9 4) s
else
zyF46_35 y0 (1 : Int32) (s.1 9 4) s
theorem zyC46_20 {X : zx_X}     {y0 : Int32} {s : zy_S} {r : Int32} {s' : zy_S}  (h : zyF46_20 y0 s = some (r, s')) : zyR X 2 46 20 [some (.ref (9 + 3)), none, none] [.int y0] s (zyE (some (.int r)) s') := by
  unfold zyF46_20 at h
  refine zy_23 rfl rfl (show zyR _ _ _ _ [some (.ref (9 + 3)), none, some (.int y0)] [] _ _ from ?_)
  refine zy_0 rfl rfl (show zyR _ _ _ _ [some (.ref (9 + 3)), none, some (.int y0)] [.ref (9 + 3)] _ _ from ?_)
  refine zy_33 rfl rfl (show zyR _ _ _ _ [some (.ref (9 + 3)), none, some (.int y0)] [.ref (9 + 3), .ref (9 + 3)] _ _ from ?_)
  refine zy_1 (c := 9) rfl rfl rfl (show zyR _ _ _ _ [some (.ref (9 + 3)), none, some (.int y0)] [.int (s.1 9 4), .ref (9 + 3)] _ _ from ?_)
  refine zy_2 rfl rfl (show zyR _ _ _ _ [some (.ref (9 + 3)), none, some (.int y0)] [.int y0, .int (s.1 9 4), .ref (9 + 3)] _ _ from ?_)
  refine zy_24_0 rfl (fun b2 => (show zyR _ _ _ _ [some (.ref (9 + 3)), none, some (.int y0)] [.int (s.1 9 4), .ref (9 + 3)] _ _ from ?_)) (fun b2 => (show zyR _ _ _ _ [some (.ref (9 + 3)), none, some (.int y0)] [.int (s.1 9 4), .ref (9 + 3)] _ _ from ?_))
  · replace h := zy_ifp h b2
    refine zy_3 rfl rfl (show zyR _ _ _ _ [some (.ref (9 + 3)), none, some (.int y0)] [.int (0 : Int32), .int (s.1 9 4), .ref (9 + 3)] _ _ from ?_)
    exact zy_sub (show zy_le [none, none, some (.int y0)] [some (.ref (9 + 3)), none, some (.int y0)] from ⟨rfl, trivial⟩) (zyC46_35 h)
  · replace h := zy_ifn h b2
    refine zy_3 rfl rfl (show zyR _ _ _ _ [some (.ref (9 + 3)), none, some (.int y0)] [.int (1 : Int32), .int (s.1 9 4), .ref (9 + 3)] _ _ from ?_)
    refine zy_6 rfl (show zyR _ _ _ _ [some (.ref (9 + 3)), none, some (.int y0)] [.int (1 : Int32), .int (s.1 9 4), .ref (9 + 3)] _ _ from ?_)
    exact zy_sub (show zy_le [none, none, some (.int y0)] [some (.ref (9 + 3)), none, some (.int y0)] from ⟨rfl, trivial⟩) (zyC46_35 h)
noncomputable def zyF46_19    (s : zy_S) : Option (Int32 × zy_S) :=
zyF46_20 (0 : Int32) s
theorem zyC46_19 {X : zx_X}      {s : zy_S} {r : Int32} {s' : zy_S}  (h : zyF46_19 s = some (r, s')) : zyR X 2 46 19 [some (.ref (9 + 3)), none, none] [] s (zyE (some (.int r)) s') := by
  unfold zyF46_19 at h
  refine zy_3 rfl rfl (show zyR _ _ _ _ [some (.ref (9 + 3)), none, none] [.int (0 : Int32)] _ _ from ?_)
  exact zy_sub (show zy_le [some (.ref (9 + 3)), none, none] [some (.ref (9 + 3)), none, none] from ⟨rfl, trivial⟩) (zyC46_20 h)
noncomputable def zyF46   (x1 : Int32) (s : zy_S) : Option (Int32 × zy_S) :=
if (s.1 9 5) ≠ 0 then
zyF46_19 s
else
(zyF41 s).bind fun p3 =>
if p3.1 ≠ x1 then
zyF46_19 p3.2
else
zyF46_20 (1 : Int32) p3.2
theorem zyC46 {X : zx_X}     {x1 : Int32} {s : zy_S} {r : Int32} {s' : zy_S}  (h : zyF46 x1 s = some (r, s')) : zyR X 2 46 0 [some (.ref (9 + 3)), some (.int x1), none] [] s (zyE (some (.int r)) s') := by
  unfold zyF46 at h
  refine zy_0 rfl rfl (show zyR _ _ _ _ [some (.ref (9 + 3)), some (.int x1), none] [.ref (9 + 3)] _ _ from ?_)
  refine zy_1 (c := 9) rfl rfl rfl (show zyR _ _ _ _ [some (.ref (9 + 3)), some (.int x1), none] [.int (s.1 9 5)] _ _ from ?_)
  refine zy_24_1 rfl (fun b5 => (show zyR _ _ _ _ [some (.ref (9 + 3)), some (.int x1), none] [] _ _ from ?_)) (fun b5 => (show zyR _ _ _ _ [some (.ref (9 + 3)), some (.int x1), none] [] _ _ from ?_))
  · replace h := zy_ifp h b5
    exact zy_sub (show zy_le [some (.ref (9 + 3)), none, none] [some (.ref (9 + 3)), some (.int x1), none] from ⟨rfl, trivial⟩) (zyC46_19 h)
  · replace h := zy_ifn h b5
    refine zy_0 rfl rfl (show zyR _ _ _ _ [some (.ref (9 + 3)), some (.int x1), none] [.ref (9 + 3)] _ _ from ?_)
    obtain ⟨p3, hp3, h⟩ := zy_bind h
    refine zy_5 (c := 9) (as := []) (rest := []) (L := [some (.ref (9 + 3))]) (d' := 1) rfl rfl rfl (Nat.le_of_ble_eq_true rfl) (Nat.le_of_ble_eq_true rfl) rfl (Nat.le_of_ble_eq_true rfl) rfl rfl (zyC41 hp3) ?_
    show zyR _ _ _ _ [some (.ref (9 + 3)), some (.int x1), none] [.int p3.1] _ _
    refine zy_2 rfl rfl (show zyR _ _ _ _ [some (.ref (9 + 3)), some (.int x1), none] [.int x1, .int p3.1] _ _ from ?_)
    refine zy_25_1 rfl (fun b4 => (show zyR _ _ _ _ [some (.ref (9 + 3)), some (.int x1), none] [] _ _ from ?_)) (fun b4 => (show zyR _ _ _ _ [some (.ref (9 + 3)), some (.int x1), none] [] _ _ from ?_))
    · replace h := zy_ifp h b4
      exact zy_sub (show zy_le [some (.ref (9 + 3)), none, none] [some (.ref (9 + 3)), some (.int x1), none] from ⟨rfl, trivial⟩) (zyC46_19 h)
    · replace h := zy_ifn h b4
      refine zy_3 rfl rfl (show zyR _ _ _ _ [some (.ref (9 + 3)), some (.int x1), none] [.int (1 : Int32)] _ _ from ?_)
      refine zy_6 rfl (show zyR _ _ _ _ [some (.ref (9 + 3)), some (.int x1), none] [.int (1 : Int32)] _ _ from ?_)
      exact zy_sub (show zy_le [some (.ref (9 + 3)), none, none] [some (.ref (9 + 3)), some (.int x1), none] from ⟨rfl, trivial⟩) (zyC46_20 h)
/-! NineOpinions$Tape.readLevel(II)V, over what it calls -/
noncomputable def zyF39_34b (g39 : Int32 → Int32 → zy_S → Option (Int32 × zy_S)) (g40 : Int32 → zy_S → Option (Int32 × zy_S)) (k34 : Int32 → Int32 → Int32 → Int32 → zy_S → Option (Int32 × zy_S)) (x1 : Int32) (x2 : Int32) (x3 : Int32) (x4 : Int32) (s : zy_S) : Option (Int32 × zy_S) :=
if x3 ≤ x4 then
some ((0 : Int32), s)
else
if (s.1 9 5) ≠ 0 then
some ((0 : Int32), s)
else
(zyF41 s).bind fun p1 =>
(zyF47 p1.1 p1.2).bind fun p2 =>
if p2.1 ≠ x1 then
some ((0 : Int32), p2.2)
else
(zyF41 p2.2).bind fun p3 =>
(g39 (x1 + (1 : Int32)) x2 (zy_up p3.2 9 4 ((p3.2.1 9 4) + (1 : Int32)))).bind fun p4 =>
(zyF44 (-p3.1) p4.2).bind fun p5 =>
k34 x1 x2 x3 (x4 + (1 : Int32)) p5.2
theorem zyC39_34b {X : zx_X} {d : Nat} {g39 : Int32 → Int32 → zy_S → Option (Int32 × zy_S)} {g40 : Int32 → zy_S → Option (Int32 × zy_S)} {k34 : Int32 → Int32 → Int32 → Int32 → zy_S → Option (Int32 × zy_S)} (hd : 1 ≤ d) (hg39 : ∀ (x1 : Int32) (x2 : Int32) (s : zy_S) (r : Int32) (s' : zy_S), g39 x1 x2 s = some (r, s') → zyR X d 39 0 [some (.ref (9 + 3)), some (.int x1), some (.int x2), none, none, none] [] s (zyE none s')) (hg40 : ∀ (x1 : Int32) (s : zy_S) (r : Int32) (s' : zy_S), g40 x1 s = some (r, s') → zyR X d 40 0 [some (.ref (9 + 3)), some (.int x1), none] [] s (zyE none s')) (hk34 : ∀ (x1 : Int32) (x2 : Int32) (x3 : Int32) (x4 : Int32) (s : zy_S) (r : Int32) (s' : zy_S), k34 x1 x2 x3 x4 s = some (r, s') → zyR X (d + 1) 39 34 [some (.ref (9 + 3)), some (.int x1), some (.int x2), some (.int x3), some (.int x4), none] [] s (zyE none s')) {x1 : Int32} {x2 : Int32} {x3 : Int32} {x4 : Int32} {s : zy_S} {r : Int32} {s' : zy_S}  (h : zyF39_34b g39 g40 k34 x1 x2 x3 x4 s = some (r, s')) : zyR X (d + 1) 39 34 [some (.ref (9 + 3)), some (.int x1), some (.int x2), some (.int x3), some (.int x4), none] [] s (zyE none s') := by
  unfold zyF39_34b at h
  refine zy_2 rfl rfl (show zyR _ _ _ _ [some (.ref (9 + 3)), some (.int x1), some (.int x2), some (.int x3), some (.int x4), none] [.int x4] _ _ from ?_)
  refine zy_2 rfl rfl (show zyR _ _ _ _ [some (.ref (9 + 3)), some (.int x1), some (.int x2), some (.int x3), some (.int x4), none] [.int x3, .int x4] _ _ from ?_)
  refine zy_25_3 rfl (fun b8 => (show zyR _ _ _ _ [some (.ref (9 + 3)), some (.int x1), some (.int x2), some (.int x3), some (.int x4), none] [] _ _ from ?_)) (fun b8 => (show zyR _ _ _ _ [some (.ref (9 + 3)), some (.int x1), some (.int x2), some (.int x3), some (.int x4), none] [] _ _ from ?_))
  · replace h := zy_ifp h b8
    cases h
    exact zy_66 rfl ⟨rfl, rfl⟩
  · replace h := zy_ifn h b8
    refine zy_0 rfl rfl (show zyR _ _ _ _ [some (.ref (9 + 3)), some (.int x1), some (.int x2), some (.int x3), some (.int x4), none] [.ref (9 + 3)] _ _ from ?_)
    refine zy_1 (c := 9) rfl rfl rfl (show zyR _ _ _ _ [some (.ref (9 + 3)), some (.int x1), some (.int x2), some (.int x3), some (.int x4), none] [.int (s.1 9 5)] _ _ from ?_)
    refine zy_24_1 rfl (fun b7 => (show zyR _ _ _ _ [some (.ref (9 + 3)), some (.int x1), some (.int x2), some (.int x3), some (.int x4), none] [] _ _ from ?_)) (fun b7 => (show zyR _ _ _ _ [some (.ref (9 + 3)), some (.int x1), some (.int x2), some (.int x3), some (.int x4), none] [] _ _ from ?_))
    · replace h := zy_ifp h b7
      cases h
      exact zy_66 rfl ⟨rfl, rfl⟩
    · replace h := zy_ifn h b7
      refine zy_0 rfl rfl (show zyR _ _ _ _ [some (.ref (9 + 3)), some (.int x1), some (.int x2), some (.int x3), some (.int x4), none] [.ref (9 + 3)] _ _ from ?_)
      obtain ⟨p1, hp1, h⟩ := zy_bind h
      refine zy_5 (c := 9) (as := []) (rest := []) (L := [some (.ref (9 + 3))]) (d' := 1) rfl rfl rfl (Nat.le_of_ble_eq_true rfl) (by omega) rfl (Nat.le_of_ble_eq_true rfl) rfl rfl (zyC41 hp1) ?_
      show zyR _ _ _ _ [some (.ref (9 + 3)), some (.int x1), some (.int x2), some (.int x3), some (.int x4), none] [.int p1.1] _ _
      obtain ⟨p2, hp2, h⟩ := zy_bind h
      refine zy_60 (as := [.int p1.1]) (rest := []) (L := [some (.int p1.1)]) (d' := 1) rfl rfl (Nat.le_of_ble_eq_true rfl) (by omega) rfl (Nat.le_of_ble_eq_true rfl) rfl rfl (zyC47 hp2) ?_
      show zyR _ _ _ _ [some (.ref (9 + 3)), some (.int x1), some (.int x2), some (.int x3), some (.int x4), none] [.int p2.1] _ _
      refine zy_2 rfl rfl (show zyR _ _ _ _ [some (.ref (9 + 3)), some (.int x1), some (.int x2), some (.int x3), some (.int x4), none] [.int x1, .int p2.1] _ _ from ?_)
      refine zy_25_1 rfl (fun b6 => (show zyR _ _ _ _ [some (.ref (9 + 3)), some (.int x1), some (.int x2), some (.int x3), some (.int x4), none] [] _ _ from ?_)) (fun b6 => (show zyR _ _ _ _ [some (.ref (9 + 3)), some (.int x1), some (.int x2), some (.int x3), some (.int x4), none] [] _ _ from ?_))
      · replace h := zy_ifp h b6
        cases h
        exact zy_66 rfl ⟨rfl, rfl⟩
      · replace h := zy_ifn h b6
        refine zy_0 rfl rfl (show zyR _ _ _ _ [some (.ref (9 + 3)), some (.int x1), some (.int x2), some (.int x3), some (.int x4), none] [.ref (9 + 3)] _ _ from ?_)
        obtain ⟨p3, hp3, h⟩ := zy_bind h
        refine zy_5 (c := 9) (as := []) (rest := []) (L := [some (.ref (9 + 3))]) (d' := 1) rfl rfl rfl (Nat.le_of_ble_eq_true rfl) (by omega) rfl (Nat.le_of_ble_eq_true rfl) rfl rfl (zyC41 hp3) ?_
        show zyR _ _ _ _ [some (.ref (9 + 3)), some (.int x1), some (.int x2), some (.int x3), some (.int x4), none] [.int p3.1] _ _
        refine zy_23 rfl rfl (show zyR _ _ _ _ [some (.ref (9 + 3)), some (.int x1), some (.int x2), some (.int x3), some (.int x4), some (.int p3.1)] [] _ _ from ?_)
        refine zy_0 rfl rfl (show zyR _ _ _ _ [some (.ref (9 + 3)), some (.int x1), some (.int x2), some (.int x3), some (.int x4), some (.int p3.1)] [.ref (9 + 3)] _ _ from ?_)
        refine zy_33 rfl rfl (show zyR _ _ _ _ [some (.ref (9 + 3)), some (.int x1), some (.int x2), some (.int x3), some (.int x4), some (.int p3.1)] [.ref (9 + 3), .ref (9 + 3)] _ _ from ?_)
        refine zy_1 (c := 9) rfl rfl rfl (show zyR _ _ _ _ [some (.ref (9 + 3)), some (.int x1), some (.int x2), some (.int x3), some (.int x4), some (.int p3.1)] [.int (p3.2.1 9 4), .ref (9 + 3)] _ _ from ?_)
        refine zy_3 rfl rfl (show zyR _ _ _ _ [some (.ref (9 + 3)), some (.int x1), some (.int x2), some (.int x3), some (.int x4), some (.int p3.1)] [.int (1 : Int32), .int (p3.2.1 9 4), .ref (9 + 3)] _ _ from ?_)
        refine zy_10 rfl (show zyR _ _ _ _ [some (.ref (9 + 3)), some (.int x1), some (.int x2), some (.int x3), some (.int x4), some (.int p3.1)] [.int ((p3.2.1 9 4) + (1 : Int32)), .ref (9 + 3)] _ _ from ?_)
        refine zy_52 (c := 9) rfl rfl rfl (show zyR _ _ _ _ [some (.ref (9 + 3)), some (.int x1), some (.int x2), some (.int x3), some (.int x4), some (.int p3.1)] [] _ _ from ?_)
        refine zy_0 rfl rfl (show zyR _ _ _ _ [some (.ref (9 + 3)), some (.int x1), some (.int x2), some (.int x3), some (.int x4), some (.int p3.1)] [.ref (9 + 3)] _ _ from ?_)
        refine zy_2 rfl rfl (show zyR _ _ _ _ [some (.ref (9 + 3)), some (.int x1), some (.int x2), some (.int x3), some (.int x4), some (.int p3.1)] [.int x1, .ref (9 + 3)] _ _ from ?_)
        refine zy_3 rfl rfl (show zyR _ _ _ _ [some (.ref (9 + 3)), some (.int x1), some (.int x2), some (.int x3), some (.int x4), some (.int p3.1)] [.int (1 : Int32), .int x1, .ref (9 + 3)] _ _ from ?_)
        refine zy_10 rfl (show zyR _ _ _ _ [some (.ref (9 + 3)), some (.int x1), some (.int x2), some (.int x3), some (.int x4), some (.int p3.1)] [.int (x1 + (1 : Int32)), .ref (9 + 3)] _ _ from ?_)
        refine zy_2 rfl rfl (show zyR _ _ _ _ [some (.ref (9 + 3)), some (.int x1), some (.int x2), some (.int x3), some (.int x4), some (.int p3.1)] [.int x2, .int (x1 + (1 : Int32)), .ref (9 + 3)] _ _ from ?_)
        obtain ⟨p4, hp4, h⟩ := zy_bind h
        refine zy_5 (c := 9) (as := [.int (x1 + (1 : Int32)), .int x2]) (rest := []) (L := [some (.ref (9 + 3)), some (.int (x1 + (1 : Int32))), some (.int x2), none, none, none]) (d' := d) rfl rfl rfl (Nat.le_of_ble_eq_true rfl) (by omega) rfl (Nat.le_of_ble_eq_true rfl) rfl rfl (hg39 (x1 + (1 : Int32)) x2 (zy_up p3.2 9 4 ((p3.2.1 9 4) + (1 : Int32))) _ _ hp4) ?_
        show zyR _ _ _ _ [some (.ref (9 + 3)), some (.int x1), some (.int x2), some (.int x3), some (.int x4), some (.int p3.1)] [] _ _
        refine zy_0 rfl rfl (show zyR _ _ _ _ [some (.ref (9 + 3)), some (.int x1), some (.int x2), some (.int x3), some (.int x4), some (.int p3.1)] [.ref (9 + 3)] _ _ from ?_)
        refine zy_2 rfl rfl (show zyR _ _ _ _ [some (.ref (9 + 3)), some (.int x1), some (.int x2), some (.int x3), some (.int x4), some (.int p3.1)] [.int p3.1, .ref (9 + 3)] _ _ from ?_)
        refine zy_21 rfl (show zyR _ _ _ _ [some (.ref (9 + 3)), some (.int x1), some (.int x2), some (.int x3), some (.int x4), some (.int p3.1)] [.int (-p3.1), .ref (9 + 3)] _ _ from ?_)
        obtain ⟨p5, hp5, h⟩ := zy_bind h
        refine zy_5 (c := 9) (as := [.int (-p3.1)]) (rest := []) (L := [some (.ref (9 + 3)), some (.int (-p3.1))]) (d' := 1) rfl rfl rfl (Nat.le_of_ble_eq_true rfl) (by omega) rfl (Nat.le_of_ble_eq_true rfl) rfl rfl (zyC44 hp5) ?_
        show zyR _ _ _ _ [some (.ref (9 + 3)), some (.int x1), some (.int x2), some (.int x3), some (.int x4), some (.int p3.1)] [] _ _
        refine zy_22 rfl rfl rfl rfl (show zyR _ _ _ _ [some (.ref (9 + 3)), some (.int x1), some (.int x2), some (.int x3), some (.int (x4 + (1 : Int32))), some (.int p3.1)] [] _ _ from ?_)
        refine zy_6 rfl (show zyR _ _ _ _ [some (.ref (9 + 3)), some (.int x1), some (.int x2), some (.int x3), some (.int (x4 + (1 : Int32))), some (.int p3.1)] [] _ _ from ?_)
        exact zy_sub (show zy_le [some (.ref (9 + 3)), some (.int x1), some (.int x2), some (.int x3), some (.int (x4 + (1 : Int32))), none] [some (.ref (9 + 3)), some (.int x1), some (.int x2), some (.int x3), some (.int (x4 + (1 : Int32))), some (.int p3.1)] from ⟨rfl, ⟨rfl, ⟨rfl, ⟨rfl, ⟨rfl, trivial⟩⟩⟩⟩⟩) (hk34 x1 x2 x3 (x4 + (1 : Int32)) p5.2 _ _ h)
noncomputable def zyF39_34 (g39 : Int32 → Int32 → zy_S → Option (Int32 × zy_S)) (g40 : Int32 → zy_S → Option (Int32 × zy_S))  (n : Nat) : Int32 → Int32 → Int32 → Int32 → zy_S → Option (Int32 × zy_S) := Nat.rec (fun _ _ _ _ _ => none) (fun _ k34 => zyF39_34b g39 g40 k34) n
theorem zyC39_34 {X : zx_X} {d : Nat} {g39 : Int32 → Int32 → zy_S → Option (Int32 × zy_S)} {g40 : Int32 → zy_S → Option (Int32 × zy_S)}  (hd : 1 ≤ d) (hg39 : ∀ (x1 : Int32) (x2 : Int32) (s : zy_S) (r : Int32) (s' : zy_S), g39 x1 x2 s = some (r, s') → zyR X d 39 0 [some (.ref (9 + 3)), some (.int x1), some (.int x2), none, none, none] [] s (zyE none s')) (hg40 : ∀ (x1 : Int32) (s : zy_S) (r : Int32) (s' : zy_S), g40 x1 s = some (r, s') → zyR X d 40 0 [some (.ref (9 + 3)), some (.int x1), none] [] s (zyE none s'))  : ∀ (n : Nat) (x1 : Int32) (x2 : Int32) (x3 : Int32) (x4 : Int32) (s : zy_S) (r : Int32) (s' : zy_S), zyF39_34 g39 g40 n x1 x2 x3 x4 s = some (r, s') → zyR X (d + 1) 39 34 [some (.ref (9 + 3)), some (.int x1), some (.int x2), some (.int x3), some (.int x4), none] [] s (zyE none s')
  | 0, _, _, _, _ => by
    intro s r s'  h
    have h : (none : Option (Int32 × zy_S)) = some (r, s') := h
    cases h
  | n + 1, x1, x2, x3, x4 => by
    intro s r s'  h
    exact zyC39_34b hd hg39 hg40 (k34 := zyF39_34 g39 g40 n) (fun x1 x2 x3 x4 s r s'  h => zyC39_34 hd hg39 hg40 n x1 x2 x3 x4 s r s'  h) h
noncomputable def zyF39_30 (g39 : Int32 → Int32 → zy_S → Option (Int32 × zy_S)) (g40 : Int32 → zy_S → Option (Int32 × zy_S))  (x1 : Int32) (x2 : Int32) (y0 : Int32) (s : zy_S) : Option (Int32 × zy_S) :=
zyF39_34 g39 g40 zy_fu x1 x2 y0 (0 : Int32) s
theorem zyC39_30 {X : zx_X} {d : Nat} {g39 : Int32 → Int32 → zy_S → Option (Int32 × zy_S)} {g40 : Int32 → zy_S → Option (Int32 × zy_S)}  (hd : 1 ≤ d) (hg39 : ∀ (x1 : Int32) (x2 : Int32) (s : zy_S) (r : Int32) (s' : zy_S), g39 x1 x2 s = some (r, s') → zyR X d 39 0 [some (.ref (9 + 3)), some (.int x1), some (.int x2), none, none, none] [] s (zyE none s')) (hg40 : ∀ (x1 : Int32) (s : zy_S) (r : Int32) (s' : zy_S), g40 x1 s = some (r, s') → zyR X d 40 0 [some (.ref (9 + 3)), some (.int x1), none] [] s (zyE none s'))  {x1 : Int32} {x2 : Int32} {y0 : Int32} {s : zy_S} {r : Int32} {s' : zy_S}  (h : zyF39_30 g39 g40 x1 x2 y0 s = some (r, s')) : zyR X (d + 1) 39 30 [some (.ref (9 + 3)), some (.int x1), some (.int x2), none, none, none] [.int y0] s (zyE none s') := by
  unfold zyF39_30 at h
  refine zy_23 rfl rfl (show zyR _ _ _ _ [some (.ref (9 + 3)), some (.int x1), some (.int x2), some (.int y0), none, none] [] _ _ from ?_)
  refine zy_3 rfl rfl (show zyR _ _ _ _ [some (.ref (9 + 3)), some (.int x1), some (.int x2), some (.int y0), none, none] [.int (0 : Int32)] _ _ from ?_)
  refine zy_23 rfl rfl (show zyR _ _ _ _ [some (.ref (9 + 3)), some (.int x1), some (.int x2), some (.int y0), some (.int (0 : Int32)), none] [] _ _ from ?_)
  exact zy_sub (show zy_le [some (.ref (9 + 3)), some (.int x1), some (.int x2), some (.int y0), some (.int (0 : Int32)), none] [some (.ref (9 + 3)), some (.int x1), some (.int x2), some (.int y0), some (.int (0 : Int32)), none] from ⟨rfl, ⟨rfl, ⟨rfl, ⟨rfl, ⟨rfl, trivial⟩⟩⟩⟩⟩) (zyC39_34 hd hg39 hg40 zy_fu x1 x2 y0 (0 : Int32) s _ _ h)
noncomputable def zyF39_0 (g39 : Int32 → Int32 → zy_S → Option (Int32 × zy_S)) (g40 : Int32 → zy_S → Option (Int32 × zy_S))  (x1 : Int32) (x2 : Int32) (s : zy_S) : Option (Int32 × zy_S) :=
if x1 < (5 : Int32) then
(g39 (x1 + (1 : Int32)) x2 s).bind fun p9 =>
if x1 ≠ (2 : Int32) then
zyF39_30 g39 g40 x1 x2 (120 : Int32) p9.2
else
zyF39_30 g39 g40 x1 x2 (1 : Int32) p9.2
else
(g40 x2 s).bind fun p11 =>
some ((0 : Int32), p11.2)
theorem zyC39_0 {X : zx_X} {d : Nat} {g39 : Int32 → Int32 → zy_S → Option (Int32 × zy_S)} {g40 : Int32 → zy_S → Option (Int32 × zy_S)}  (hd : 1 ≤ d) (hg39 : ∀ (x1 : Int32) (x2 : Int32) (s : zy_S) (r : Int32) (s' : zy_S), g39 x1 x2 s = some (r, s') → zyR X d 39 0 [some (.ref (9 + 3)), some (.int x1), some (.int x2), none, none, none] [] s (zyE none s')) (hg40 : ∀ (x1 : Int32) (s : zy_S) (r : Int32) (s' : zy_S), g40 x1 s = some (r, s') → zyR X d 40 0 [some (.ref (9 + 3)), some (.int x1), none] [] s (zyE none s'))  {x1 : Int32} {x2 : Int32} {s : zy_S} {r : Int32} {s' : zy_S}  (h : zyF39_0 g39 g40 x1 x2 s = some (r, s')) : zyR X (d + 1) 39 0 [some (.ref (9 + 3)), some (.int x1), some (.int x2), none, none, none] [] s (zyE none s') := by
  unfold zyF39_0 at h
  refine zy_2 rfl rfl (show zyR _ _ _ _ [some (.ref (9 + 3)), some (.int x1), some (.int x2), none, none, none] [.int x1] _ _ from ?_)
  refine zy_3 rfl rfl (show zyR _ _ _ _ [some (.ref (9 + 3)), some (.int x1), some (.int x2), none, none, none] [.int (5 : Int32), .int x1] _ _ from ?_)
  refine zy_25_2 rfl (fun b12 => (show zyR _ _ _ _ [some (.ref (9 + 3)), some (.int x1), some (.int x2), none, none, none] [] _ _ from ?_)) (fun b12 => (show zyR _ _ _ _ [some (.ref (9 + 3)), some (.int x1), some (.int x2), none, none, none] [] _ _ from ?_))
  · replace h := zy_ifp h b12
    refine zy_0 rfl rfl (show zyR _ _ _ _ [some (.ref (9 + 3)), some (.int x1), some (.int x2), none, none, none] [.ref (9 + 3)] _ _ from ?_)
    refine zy_2 rfl rfl (show zyR _ _ _ _ [some (.ref (9 + 3)), some (.int x1), some (.int x2), none, none, none] [.int x1, .ref (9 + 3)] _ _ from ?_)
    refine zy_3 rfl rfl (show zyR _ _ _ _ [some (.ref (9 + 3)), some (.int x1), some (.int x2), none, none, none] [.int (1 : Int32), .int x1, .ref (9 + 3)] _ _ from ?_)
    refine zy_10 rfl (show zyR _ _ _ _ [some (.ref (9 + 3)), some (.int x1), some (.int x2), none, none, none] [.int (x1 + (1 : Int32)), .ref (9 + 3)] _ _ from ?_)
    refine zy_2 rfl rfl (show zyR _ _ _ _ [some (.ref (9 + 3)), some (.int x1), some (.int x2), none, none, none] [.int x2, .int (x1 + (1 : Int32)), .ref (9 + 3)] _ _ from ?_)
    obtain ⟨p9, hp9, h⟩ := zy_bind h
    refine zy_5 (c := 9) (as := [.int (x1 + (1 : Int32)), .int x2]) (rest := []) (L := [some (.ref (9 + 3)), some (.int (x1 + (1 : Int32))), some (.int x2), none, none, none]) (d' := d) rfl rfl rfl (Nat.le_of_ble_eq_true rfl) (by omega) rfl (Nat.le_of_ble_eq_true rfl) rfl rfl (hg39 (x1 + (1 : Int32)) x2 s _ _ hp9) ?_
    show zyR _ _ _ _ [some (.ref (9 + 3)), some (.int x1), some (.int x2), none, none, none] [] _ _
    refine zy_2 rfl rfl (show zyR _ _ _ _ [some (.ref (9 + 3)), some (.int x1), some (.int x2), none, none, none] [.int x1] _ _ from ?_)
    refine zy_3 rfl rfl (show zyR _ _ _ _ [some (.ref (9 + 3)), some (.int x1), some (.int x2), none, none, none] [.int (2 : Int32), .int x1] _ _ from ?_)
    refine zy_25_1 rfl (fun b10 => (show zyR _ _ _ _ [some (.ref (9 + 3)), some (.int x1), some (.int x2), none, none, none] [] _ _ from ?_)) (fun b10 => (show zyR _ _ _ _ [some (.ref (9 + 3)), some (.int x1), some (.int x2), none, none, none] [] _ _ from ?_))
    · replace h := zy_ifp h b10
      refine zy_3 rfl rfl (show zyR _ _ _ _ [some (.ref (9 + 3)), some (.int x1), some (.int x2), none, none, none] [.int (120 : Int32)] _ _ from ?_)
      exact zy_sub (show zy_le [some (.ref (9 + 3)), some (.int x1), some (.int x2), none, none, none] [some (.ref (9 + 3)), some (.int x1), some (.int x2), none, none, none] from ⟨rfl, ⟨rfl, ⟨rfl, trivial⟩⟩⟩) (zyC39_30 hd hg39 hg40 h)
    · replace h := zy_ifn h b10
      refine zy_3 rfl rfl (show zyR _ _ _ _ [some (.ref (9 + 3)), some (.int x1), some (.int x2), none, none, none] [.int (1 : Int32)] _ _ from ?_)
      refine zy_6 rfl (show zyR _ _ _ _ [some (.ref (9 + 3)), some (.int x1), some (.int x2), none, none, none] [.int (1 : Int32)] _ _ from ?_)
      exact zy_sub (show zy_le [some (.ref (9 + 3)), some (.int x1), some (.int x2), none, none, none] [some (.ref (9 + 3)), some (.int x1), some (.int x2), none, none, none] from ⟨rfl, ⟨rfl, ⟨rfl, trivial⟩⟩⟩) (zyC39_30 hd hg39 hg40 h)
  · replace h := zy_ifn h b12
    refine zy_0 rfl rfl (show zyR _ _ _ _ [some (.ref (9 + 3)), some (.int x1), some (.int x2), none, none, none] [.ref (9 + 3)] _ _ from ?_)
    refine zy_2 rfl rfl (show zyR _ _ _ _ [some (.ref (9 + 3)), some (.int x1), some (.int x2), none, none, none] [.int x2, .ref (9 + 3)] _ _ from ?_)
    obtain ⟨p11, hp11, h⟩ := zy_bind h
    refine zy_5 (c := 9) (as := [.int x2]) (rest := []) (L := [some (.ref (9 + 3)), some (.int x2), none]) (d' := d) rfl rfl rfl (Nat.le_of_ble_eq_true rfl) (by omega) rfl (Nat.le_of_ble_eq_true rfl) rfl rfl (hg40 x2 s _ _ hp11) ?_
    show zyR _ _ _ _ [some (.ref (9 + 3)), some (.int x1), some (.int x2), none, none, none] [] _ _
    cases h
    exact zy_66 rfl ⟨rfl, rfl⟩
end
section
/-! PART 41.23: methods as functions. Made by wip/v4/dcp.py. -/
/-! NineOpinions$Tape.readOperand(I)V, over what it calls -/
noncomputable def zyF40_157 (g39 : Int32 → Int32 → zy_S → Option (Int32 × zy_S)) (g40 : Int32 → zy_S → Option (Int32 × zy_S))   (s : zy_S) : Option (Int32 × zy_S) :=
some ((0 : Int32), (zy_up s 9 5 (1 : Int32)))
theorem zyC40_157 {X : zx_X} {d : Nat} {g39 : Int32 → Int32 → zy_S → Option (Int32 × zy_S)} {g40 : Int32 → zy_S → Option (Int32 × zy_S)}  (hd : 2 ≤ d) (hg39 : ∀ (x1 : Int32) (x2 : Int32) (s : zy_S) (r : Int32) (s' : zy_S), g39 x1 x2 s = some (r, s') → zyR X d 39 0 [some (.ref (9 + 3)), some (.int x1), some (.int x2), none, none, none] [] s (zyE none s')) (hg40 : ∀ (x1 : Int32) (s : zy_S) (r : Int32) (s' : zy_S), g40 x1 s = some (r, s') → zyR X d 40 0 [some (.ref (9 + 3)), some (.int x1), none] [] s (zyE none s'))   {s : zy_S} {r : Int32} {s' : zy_S}  (h : zyF40_157 g39 g40 s = some (r, s')) : zyR X (d + 1) 40 157 [some (.ref (9 + 3)), none, none] [] s (zyE none s') := by
  unfold zyF40_157 at h
  refine zy_0 rfl rfl (show zyR _ _ _ _ [some (.ref (9 + 3)), none, none] [.ref (9 + 3)] _ _ from ?_)
  refine zy_3 rfl rfl (show zyR _ _ _ _ [some (.ref (9 + 3)), none, none] [.int (1 : Int32), .ref (9 + 3)] _ _ from ?_)
  refine zy_52b (c := 9) rfl rfl rfl (Or.inr rfl) (show zyR _ _ _ _ [some (.ref (9 + 3)), none, none] [] _ _ from ?_)
  cases h
  exact zy_66 rfl ⟨rfl, rfl⟩
noncomputable def zyF40_126 (g39 : Int32 → Int32 → zy_S → Option (Int32 × zy_S)) (g40 : Int32 → zy_S → Option (Int32 × zy_S))  (x1 : Int32) (s : zy_S) : Option (Int32 × zy_S) :=
if (6 : Int32) ≤ x1 then
zyF40_157 g39 g40 s
else
(zyF46 (45 : Int32) s).bind fun p1 =>
if p1.1 = 0 then
zyF40_157 g39 g40 p1.2
else
(g40 (x1 + (1 : Int32)) p1.2).bind fun p2 =>
(zyF44 (-126 : Int32) p2.2).bind fun p3 =>
some ((0 : Int32), p3.2)
theorem zyC40_126 {X : zx_X} {d : Nat} {g39 : Int32 → Int32 → zy_S → Option (Int32 × zy_S)} {g40 : Int32 → zy_S → Option (Int32 × zy_S)}  (hd : 2 ≤ d) (hg39 : ∀ (x1 : Int32) (x2 : Int32) (s : zy_S) (r : Int32) (s' : zy_S), g39 x1 x2 s = some (r, s') → zyR X d 39 0 [some (.ref (9 + 3)), some (.int x1), some (.int x2), none, none, none] [] s (zyE none s')) (hg40 : ∀ (x1 : Int32) (s : zy_S) (r : Int32) (s' : zy_S), g40 x1 s = some (r, s') → zyR X d 40 0 [some (.ref (9 + 3)), some (.int x1), none] [] s (zyE none s'))  {x1 : Int32} {s : zy_S} {r : Int32} {s' : zy_S}  (h : zyF40_126 g39 g40 x1 s = some (r, s')) : zyR X (d + 1) 40 126 [some (.ref (9 + 3)), some (.int x1), none] [] s (zyE none s') := by
  unfold zyF40_126 at h
  refine zy_2 rfl rfl (show zyR _ _ _ _ [some (.ref (9 + 3)), some (.int x1), none] [.int x1] _ _ from ?_)
  refine zy_3 rfl rfl (show zyR _ _ _ _ [some (.ref (9 + 3)), some (.int x1), none] [.int (6 : Int32), .int x1] _ _ from ?_)
  refine zy_25_3 rfl (fun b5 => (show zyR _ _ _ _ [some (.ref (9 + 3)), some (.int x1), none] [] _ _ from ?_)) (fun b5 => (show zyR _ _ _ _ [some (.ref (9 + 3)), some (.int x1), none] [] _ _ from ?_))
  · replace h := zy_ifp h b5
    exact zy_sub (show zy_le [some (.ref (9 + 3)), none, none] [some (.ref (9 + 3)), some (.int x1), none] from ⟨rfl, trivial⟩) (zyC40_157 hd hg39 hg40 h)
  · replace h := zy_ifn h b5
    refine zy_0 rfl rfl (show zyR _ _ _ _ [some (.ref (9 + 3)), some (.int x1), none] [.ref (9 + 3)] _ _ from ?_)
    refine zy_3 rfl rfl (show zyR _ _ _ _ [some (.ref (9 + 3)), some (.int x1), none] [.int (45 : Int32), .ref (9 + 3)] _ _ from ?_)
    obtain ⟨p1, hp1, h⟩ := zy_bind h
    refine zy_5 (c := 9) (as := [.int (45 : Int32)]) (rest := []) (L := [some (.ref (9 + 3)), some (.int (45 : Int32)), none]) (d' := 2) rfl rfl rfl (Nat.le_of_ble_eq_true rfl) (by omega) rfl (Nat.le_of_ble_eq_true rfl) rfl rfl (zyC46 hp1) ?_
    show zyR _ _ _ _ [some (.ref (9 + 3)), some (.int x1), none] [.int p1.1] _ _
    refine zy_24_0 rfl (fun b4 => (show zyR _ _ _ _ [some (.ref (9 + 3)), some (.int x1), none] [] _ _ from ?_)) (fun b4 => (show zyR _ _ _ _ [some (.ref (9 + 3)), some (.int x1), none] [] _ _ from ?_))
    · replace h := zy_ifp h b4
      exact zy_sub (show zy_le [some (.ref (9 + 3)), none, none] [some (.ref (9 + 3)), some (.int x1), none] from ⟨rfl, trivial⟩) (zyC40_157 hd hg39 hg40 h)
    · replace h := zy_ifn h b4
      refine zy_0 rfl rfl (show zyR _ _ _ _ [some (.ref (9 + 3)), some (.int x1), none] [.ref (9 + 3)] _ _ from ?_)
      refine zy_2 rfl rfl (show zyR _ _ _ _ [some (.ref (9 + 3)), some (.int x1), none] [.int x1, .ref (9 + 3)] _ _ from ?_)
      refine zy_3 rfl rfl (show zyR _ _ _ _ [some (.ref (9 + 3)), some (.int x1), none] [.int (1 : Int32), .int x1, .ref (9 + 3)] _ _ from ?_)
      refine zy_10 rfl (show zyR _ _ _ _ [some (.ref (9 + 3)), some (.int x1), none] [.int (x1 + (1 : Int32)), .ref (9 + 3)] _ _ from ?_)
      obtain ⟨p2, hp2, h⟩ := zy_bind h
      refine zy_5 (c := 9) (as := [.int (x1 + (1 : Int32))]) (rest := []) (L := [some (.ref (9 + 3)), some (.int (x1 + (1 : Int32))), none]) (d' := d) rfl rfl rfl (Nat.le_of_ble_eq_true rfl) (by omega) rfl (Nat.le_of_ble_eq_true rfl) rfl rfl (hg40 (x1 + (1 : Int32)) p1.2 _ _ hp2) ?_
      show zyR _ _ _ _ [some (.ref (9 + 3)), some (.int x1), none] [] _ _
      refine zy_0 rfl rfl (show zyR _ _ _ _ [some (.ref (9 + 3)), some (.int x1), none] [.ref (9 + 3)] _ _ from ?_)
      refine zy_3 rfl rfl (show zyR _ _ _ _ [some (.ref (9 + 3)), some (.int x1), none] [.int (-126 : Int32), .ref (9 + 3)] _ _ from ?_)
      obtain ⟨p3, hp3, h⟩ := zy_bind h
      refine zy_5 (c := 9) (as := [.int (-126 : Int32)]) (rest := []) (L := [some (.ref (9 + 3)), some (.int (-126 : Int32))]) (d' := 1) rfl rfl rfl (Nat.le_of_ble_eq_true rfl) (by omega) rfl (Nat.le_of_ble_eq_true rfl) rfl rfl (zyC44 hp3) ?_
      show zyR _ _ _ _ [some (.ref (9 + 3)), some (.int x1), none] [] _ _
      refine zy_6 rfl (show zyR _ _ _ _ [some (.ref (9 + 3)), some (.int x1), none] [] _ _ from ?_)
      cases h
      exact zy_66 rfl ⟨rfl, rfl⟩
noncomputable def zyF40_95 (g39 : Int32 → Int32 → zy_S → Option (Int32 × zy_S)) (g40 : Int32 → zy_S → Option (Int32 × zy_S))  (x1 : Int32) (s : zy_S) : Option (Int32 × zy_S) :=
if (6 : Int32) ≤ x1 then
zyF40_126 g39 g40 x1 s
else
(zyF46 (33 : Int32) s).bind fun p6 =>
if p6.1 = 0 then
zyF40_126 g39 g40 x1 p6.2
else
(g40 (x1 + (1 : Int32)) p6.2).bind fun p7 =>
(zyF44 (-33 : Int32) p7.2).bind fun p8 =>
some ((0 : Int32), p8.2)
theorem zyC40_95 {X : zx_X} {d : Nat} {g39 : Int32 → Int32 → zy_S → Option (Int32 × zy_S)} {g40 : Int32 → zy_S → Option (Int32 × zy_S)}  (hd : 2 ≤ d) (hg39 : ∀ (x1 : Int32) (x2 : Int32) (s : zy_S) (r : Int32) (s' : zy_S), g39 x1 x2 s = some (r, s') → zyR X d 39 0 [some (.ref (9 + 3)), some (.int x1), some (.int x2), none, none, none] [] s (zyE none s')) (hg40 : ∀ (x1 : Int32) (s : zy_S) (r : Int32) (s' : zy_S), g40 x1 s = some (r, s') → zyR X d 40 0 [some (.ref (9 + 3)), some (.int x1), none] [] s (zyE none s'))  {x1 : Int32} {s : zy_S} {r : Int32} {s' : zy_S}  (h : zyF40_95 g39 g40 x1 s = some (r, s')) : zyR X (d + 1) 40 95 [some (.ref (9 + 3)), some (.int x1), none] [] s (zyE none s') := by
  unfold zyF40_95 at h
  refine zy_2 rfl rfl (show zyR _ _ _ _ [some (.ref (9 + 3)), some (.int x1), none] [.int x1] _ _ from ?_)
  refine zy_3 rfl rfl (show zyR _ _ _ _ [some (.ref (9 + 3)), some (.int x1), none] [.int (6 : Int32), .int x1] _ _ from ?_)
  refine zy_25_3 rfl (fun b10 => (show zyR _ _ _ _ [some (.ref (9 + 3)), some (.int x1), none] [] _ _ from ?_)) (fun b10 => (show zyR _ _ _ _ [some (.ref (9 + 3)), some (.int x1), none] [] _ _ from ?_))
  · replace h := zy_ifp h b10
    exact zy_sub (show zy_le [some (.ref (9 + 3)), some (.int x1), none] [some (.ref (9 + 3)), some (.int x1), none] from ⟨rfl, ⟨rfl, trivial⟩⟩) (zyC40_126 hd hg39 hg40 h)
  · replace h := zy_ifn h b10
    refine zy_0 rfl rfl (show zyR _ _ _ _ [some (.ref (9 + 3)), some (.int x1), none] [.ref (9 + 3)] _ _ from ?_)
    refine zy_3 rfl rfl (show zyR _ _ _ _ [some (.ref (9 + 3)), some (.int x1), none] [.int (33 : Int32), .ref (9 + 3)] _ _ from ?_)
    obtain ⟨p6, hp6, h⟩ := zy_bind h
    refine zy_5 (c := 9) (as := [.int (33 : Int32)]) (rest := []) (L := [some (.ref (9 + 3)), some (.int (33 : Int32)), none]) (d' := 2) rfl rfl rfl (Nat.le_of_ble_eq_true rfl) (by omega) rfl (Nat.le_of_ble_eq_true rfl) rfl rfl (zyC46 hp6) ?_
    show zyR _ _ _ _ [some (.ref (9 + 3)), some (.int x1), none] [.int p6.1] _ _
    refine zy_24_0 rfl (fun b9 => (show zyR _ _ _ _ [some (.ref (9 + 3)), some (.int x1), none] [] _ _ from ?_)) (fun b9 => (show zyR _ _ _ _ [some (.ref (9 + 3)), some (.int x1), none] [] _ _ from ?_))
    · replace h := zy_ifp h b9
      exact zy_sub (show zy_le [some (.ref (9 + 3)), some (.int x1), none] [some (.ref (9 + 3)), some (.int x1), none] from ⟨rfl, ⟨rfl, trivial⟩⟩) (zyC40_126 hd hg39 hg40 h)
    · replace h := zy_ifn h b9
      refine zy_0 rfl rfl (show zyR _ _ _ _ [some (.ref (9 + 3)), some (.int x1), none] [.ref (9 + 3)] _ _ from ?_)
      refine zy_2 rfl rfl (show zyR _ _ _ _ [some (.ref (9 + 3)), some (.int x1), none] [.int x1, .ref (9 + 3)] _ _ from ?_)
      refine zy_3 rfl rfl (show zyR _ _ _ _ [some (.ref (9 + 3)), some (.int x1), none] [.int (1 : Int32), .int x1, .ref (9 + 3)] _ _ from ?_)
      refine zy_10 rfl (show zyR _ _ _ _ [some (.ref (9 + 3)), some (.int x1), none] [.int (x1 + (1 : Int32)), .ref (9 + 3)] _ _ from ?_)
      obtain ⟨p7, hp7, h⟩ := zy_bind h
      refine zy_5 (c := 9) (as := [.int (x1 + (1 : Int32))]) (rest := []) (L := [some (.ref (9 + 3)), some (.int (x1 + (1 : Int32))), none]) (d' := d) rfl rfl rfl (Nat.le_of_ble_eq_true rfl) (by omega) rfl (Nat.le_of_ble_eq_true rfl) rfl rfl (hg40 (x1 + (1 : Int32)) p6.2 _ _ hp7) ?_
      show zyR _ _ _ _ [some (.ref (9 + 3)), some (.int x1), none] [] _ _
      refine zy_0 rfl rfl (show zyR _ _ _ _ [some (.ref (9 + 3)), some (.int x1), none] [.ref (9 + 3)] _ _ from ?_)
      refine zy_3 rfl rfl (show zyR _ _ _ _ [some (.ref (9 + 3)), some (.int x1), none] [.int (-33 : Int32), .ref (9 + 3)] _ _ from ?_)
      obtain ⟨p8, hp8, h⟩ := zy_bind h
      refine zy_5 (c := 9) (as := [.int (-33 : Int32)]) (rest := []) (L := [some (.ref (9 + 3)), some (.int (-33 : Int32))]) (d' := 1) rfl rfl rfl (Nat.le_of_ble_eq_true rfl) (by omega) rfl (Nat.le_of_ble_eq_true rfl) rfl rfl (zyC44 hp8) ?_
      show zyR _ _ _ _ [some (.ref (9 + 3)), some (.int x1), none] [] _ _
      refine zy_6 rfl (show zyR _ _ _ _ [some (.ref (9 + 3)), some (.int x1), none] [] _ _ from ?_)
      cases h
      exact zy_66 rfl ⟨rfl, rfl⟩
noncomputable def zyF40_89 (g39 : Int32 → Int32 → zy_S → Option (Int32 × zy_S)) (g40 : Int32 → zy_S → Option (Int32 × zy_S))  (y0 : Int32) (s : zy_S) : Option (Int32 × zy_S) :=
if y0 = 0 ∨ y0 = 1 then
some ((0 : Int32), (zy_up s 9 5 y0))
else none
theorem zyC40_89 {X : zx_X} {d : Nat} {g39 : Int32 → Int32 → zy_S → Option (Int32 × zy_S)} {g40 : Int32 → zy_S → Option (Int32 × zy_S)}  (hd : 2 ≤ d) (hg39 : ∀ (x1 : Int32) (x2 : Int32) (s : zy_S) (r : Int32) (s' : zy_S), g39 x1 x2 s = some (r, s') → zyR X d 39 0 [some (.ref (9 + 3)), some (.int x1), some (.int x2), none, none, none] [] s (zyE none s')) (hg40 : ∀ (x1 : Int32) (s : zy_S) (r : Int32) (s' : zy_S), g40 x1 s = some (r, s') → zyR X d 40 0 [some (.ref (9 + 3)), some (.int x1), none] [] s (zyE none s'))  {y0 : Int32} {s : zy_S} {r : Int32} {s' : zy_S}  (h : zyF40_89 g39 g40 y0 s = some (r, s')) : zyR X (d + 1) 40 89 [none, none, none] [.int y0, .ref (9 + 3)] s (zyE none s') := by
  unfold zyF40_89 at h
  obtain ⟨c11, h⟩ := zy_if h
  refine zy_52b (c := 9) rfl rfl rfl c11 (show zyR _ _ _ _ [none, none, none] [] _ _ from ?_)
  refine zy_6 rfl (show zyR _ _ _ _ [none, none, none] [] _ _ from ?_)
  cases h
  exact zy_66 rfl ⟨rfl, rfl⟩
noncomputable def zyF40_0 (g39 : Int32 → Int32 → zy_S → Option (Int32 × zy_S)) (g40 : Int32 → zy_S → Option (Int32 × zy_S))  (x1 : Int32) (s : zy_S) : Option (Int32 × zy_S) :=
(zyF41 s).bind fun p12 =>
(zyF42 p12.1 p12.2).bind fun p13 =>
if p13.1 = 0 then
(zyF45 p12.1 p13.2).bind fun p14 =>
if p14.1 < 0 then
if (6 : Int32) ≤ x1 then
zyF40_95 g39 g40 x1 p14.2
else
(zyF46 (40 : Int32) p14.2).bind fun p15 =>
if p15.1 = 0 then
zyF40_95 g39 g40 x1 p15.2
else
(g39 (0 : Int32) (x1 + (1 : Int32)) p15.2).bind fun p16 =>
(zyF46 (41 : Int32) p16.2).bind fun p17 =>
if p17.1 ≠ 0 then
zyF40_89 g39 g40 (0 : Int32) p17.2
else
zyF40_89 g39 g40 (1 : Int32) p17.2
else
(zyF45 p12.1 (zy_up p14.2 9 4 ((p14.2.1 9 4) + (1 : Int32)))).bind fun p21 =>
(zyF44 ((10000 : Int32) + p21.1) p21.2).bind fun p22 =>
some ((0 : Int32), p22.2)
else
(zyF43 p13.2).bind fun p24 =>
some ((0 : Int32), p24.2)
theorem zyC40_0 {X : zx_X} {d : Nat} {g39 : Int32 → Int32 → zy_S → Option (Int32 × zy_S)} {g40 : Int32 → zy_S → Option (Int32 × zy_S)}  (hd : 2 ≤ d) (hg39 : ∀ (x1 : Int32) (x2 : Int32) (s : zy_S) (r : Int32) (s' : zy_S), g39 x1 x2 s = some (r, s') → zyR X d 39 0 [some (.ref (9 + 3)), some (.int x1), some (.int x2), none, none, none] [] s (zyE none s')) (hg40 : ∀ (x1 : Int32) (s : zy_S) (r : Int32) (s' : zy_S), g40 x1 s = some (r, s') → zyR X d 40 0 [some (.ref (9 + 3)), some (.int x1), none] [] s (zyE none s'))  {x1 : Int32} {s : zy_S} {r : Int32} {s' : zy_S}  (h : zyF40_0 g39 g40 x1 s = some (r, s')) : zyR X (d + 1) 40 0 [some (.ref (9 + 3)), some (.int x1), none] [] s (zyE none s') := by
  unfold zyF40_0 at h
  refine zy_0 rfl rfl (show zyR _ _ _ _ [some (.ref (9 + 3)), some (.int x1), none] [.ref (9 + 3)] _ _ from ?_)
  obtain ⟨p12, hp12, h⟩ := zy_bind h
  refine zy_5 (c := 9) (as := []) (rest := []) (L := [some (.ref (9 + 3))]) (d' := 1) rfl rfl rfl (Nat.le_of_ble_eq_true rfl) (by omega) rfl (Nat.le_of_ble_eq_true rfl) rfl rfl (zyC41 hp12) ?_
  show zyR _ _ _ _ [some (.ref (9 + 3)), some (.int x1), none] [.int p12.1] _ _
  refine zy_23 rfl rfl (show zyR _ _ _ _ [some (.ref (9 + 3)), some (.int x1), some (.int p12.1)] [] _ _ from ?_)
  refine zy_2 rfl rfl (show zyR _ _ _ _ [some (.ref (9 + 3)), some (.int x1), some (.int p12.1)] [.int p12.1] _ _ from ?_)
  obtain ⟨p13, hp13, h⟩ := zy_bind h
  refine zy_60 (as := [.int p12.1]) (rest := []) (L := [some (.int p12.1)]) (d' := 1) rfl rfl (Nat.le_of_ble_eq_true rfl) (by omega) rfl (Nat.le_of_ble_eq_true rfl) rfl rfl (zyC42 hp13) ?_
  show zyR _ _ _ _ [some (.ref (9 + 3)), some (.int x1), some (.int p12.1)] [.int p13.1] _ _
  refine zy_24_0 rfl (fun b25 => (show zyR _ _ _ _ [some (.ref (9 + 3)), some (.int x1), some (.int p12.1)] [] _ _ from ?_)) (fun b25 => (show zyR _ _ _ _ [some (.ref (9 + 3)), some (.int x1), some (.int p12.1)] [] _ _ from ?_))
  · replace h := zy_ifp h b25
    refine zy_2 rfl rfl (show zyR _ _ _ _ [some (.ref (9 + 3)), some (.int x1), some (.int p12.1)] [.int p12.1] _ _ from ?_)
    obtain ⟨p14, hp14, h⟩ := zy_bind h
    refine zy_60 (as := [.int p12.1]) (rest := []) (L := [some (.int p12.1)]) (d' := 1) rfl rfl (Nat.le_of_ble_eq_true rfl) (by omega) rfl (Nat.le_of_ble_eq_true rfl) rfl rfl (zyC45 hp14) ?_
    show zyR _ _ _ _ [some (.ref (9 + 3)), some (.int x1), some (.int p12.1)] [.int p14.1] _ _
    refine zy_24_2 rfl (fun b23 => (show zyR _ _ _ _ [some (.ref (9 + 3)), some (.int x1), some (.int p12.1)] [] _ _ from ?_)) (fun b23 => (show zyR _ _ _ _ [some (.ref (9 + 3)), some (.int x1), some (.int p12.1)] [] _ _ from ?_))
    · replace h := zy_ifp h b23
      refine zy_2 rfl rfl (show zyR _ _ _ _ [some (.ref (9 + 3)), some (.int x1), some (.int p12.1)] [.int x1] _ _ from ?_)
      refine zy_3 rfl rfl (show zyR _ _ _ _ [some (.ref (9 + 3)), some (.int x1), some (.int p12.1)] [.int (6 : Int32), .int x1] _ _ from ?_)
      refine zy_25_3 rfl (fun b20 => (show zyR _ _ _ _ [some (.ref (9 + 3)), some (.int x1), some (.int p12.1)] [] _ _ from ?_)) (fun b20 => (show zyR _ _ _ _ [some (.ref (9 + 3)), some (.int x1), some (.int p12.1)] [] _ _ from ?_))
      · replace h := zy_ifp h b20
        exact zy_sub (show zy_le [some (.ref (9 + 3)), some (.int x1), none] [some (.ref (9 + 3)), some (.int x1), some (.int p12.1)] from ⟨rfl, ⟨rfl, trivial⟩⟩) (zyC40_95 hd hg39 hg40 h)
      · replace h := zy_ifn h b20
        refine zy_0 rfl rfl (show zyR _ _ _ _ [some (.ref (9 + 3)), some (.int x1), some (.int p12.1)] [.ref (9 + 3)] _ _ from ?_)
        refine zy_3 rfl rfl (show zyR _ _ _ _ [some (.ref (9 + 3)), some (.int x1), some (.int p12.1)] [.int (40 : Int32), .ref (9 + 3)] _ _ from ?_)
        obtain ⟨p15, hp15, h⟩ := zy_bind h
        refine zy_5 (c := 9) (as := [.int (40 : Int32)]) (rest := []) (L := [some (.ref (9 + 3)), some (.int (40 : Int32)), none]) (d' := 2) rfl rfl rfl (Nat.le_of_ble_eq_true rfl) (by omega) rfl (Nat.le_of_ble_eq_true rfl) rfl rfl (zyC46 hp15) ?_
        show zyR _ _ _ _ [some (.ref (9 + 3)), some (.int x1), some (.int p12.1)] [.int p15.1] _ _
        refine zy_24_0 rfl (fun b19 => (show zyR _ _ _ _ [some (.ref (9 + 3)), some (.int x1), some (.int p12.1)] [] _ _ from ?_)) (fun b19 => (show zyR _ _ _ _ [some (.ref (9 + 3)), some (.int x1), some (.int p12.1)] [] _ _ from ?_))
        · replace h := zy_ifp h b19
          exact zy_sub (show zy_le [some (.ref (9 + 3)), some (.int x1), none] [some (.ref (9 + 3)), some (.int x1), some (.int p12.1)] from ⟨rfl, ⟨rfl, trivial⟩⟩) (zyC40_95 hd hg39 hg40 h)
        · replace h := zy_ifn h b19
          refine zy_0 rfl rfl (show zyR _ _ _ _ [some (.ref (9 + 3)), some (.int x1), some (.int p12.1)] [.ref (9 + 3)] _ _ from ?_)
          refine zy_3 rfl rfl (show zyR _ _ _ _ [some (.ref (9 + 3)), some (.int x1), some (.int p12.1)] [.int (0 : Int32), .ref (9 + 3)] _ _ from ?_)
          refine zy_2 rfl rfl (show zyR _ _ _ _ [some (.ref (9 + 3)), some (.int x1), some (.int p12.1)] [.int x1, .int (0 : Int32), .ref (9 + 3)] _ _ from ?_)
          refine zy_3 rfl rfl (show zyR _ _ _ _ [some (.ref (9 + 3)), some (.int x1), some (.int p12.1)] [.int (1 : Int32), .int x1, .int (0 : Int32), .ref (9 + 3)] _ _ from ?_)
          refine zy_10 rfl (show zyR _ _ _ _ [some (.ref (9 + 3)), some (.int x1), some (.int p12.1)] [.int (x1 + (1 : Int32)), .int (0 : Int32), .ref (9 + 3)] _ _ from ?_)
          obtain ⟨p16, hp16, h⟩ := zy_bind h
          refine zy_5 (c := 9) (as := [.int (0 : Int32), .int (x1 + (1 : Int32))]) (rest := []) (L := [some (.ref (9 + 3)), some (.int (0 : Int32)), some (.int (x1 + (1 : Int32))), none, none, none]) (d' := d) rfl rfl rfl (Nat.le_of_ble_eq_true rfl) (by omega) rfl (Nat.le_of_ble_eq_true rfl) rfl rfl (hg39 (0 : Int32) (x1 + (1 : Int32)) p15.2 _ _ hp16) ?_
          show zyR _ _ _ _ [some (.ref (9 + 3)), some (.int x1), some (.int p12.1)] [] _ _
          refine zy_0 rfl rfl (show zyR _ _ _ _ [some (.ref (9 + 3)), some (.int x1), some (.int p12.1)] [.ref (9 + 3)] _ _ from ?_)
          refine zy_0 rfl rfl (show zyR _ _ _ _ [some (.ref (9 + 3)), some (.int x1), some (.int p12.1)] [.ref (9 + 3), .ref (9 + 3)] _ _ from ?_)
          refine zy_3 rfl rfl (show zyR _ _ _ _ [some (.ref (9 + 3)), some (.int x1), some (.int p12.1)] [.int (41 : Int32), .ref (9 + 3), .ref (9 + 3)] _ _ from ?_)
          obtain ⟨p17, hp17, h⟩ := zy_bind h
          refine zy_5 (c := 9) (as := [.int (41 : Int32)]) (rest := [.ref (9 + 3)]) (L := [some (.ref (9 + 3)), some (.int (41 : Int32)), none]) (d' := 2) rfl rfl rfl (Nat.le_of_ble_eq_true rfl) (by omega) rfl (Nat.le_of_ble_eq_true rfl) rfl rfl (zyC46 hp17) ?_
          show zyR _ _ _ _ [some (.ref (9 + 3)), some (.int x1), some (.int p12.1)] [.int p17.1, .ref (9 + 3)] _ _
          refine zy_24_1 rfl (fun b18 => (show zyR _ _ _ _ [some (.ref (9 + 3)), some (.int x1), some (.int p12.1)] [.ref (9 + 3)] _ _ from ?_)) (fun b18 => (show zyR _ _ _ _ [some (.ref (9 + 3)), some (.int x1), some (.int p12.1)] [.ref (9 + 3)] _ _ from ?_))
          · replace h := zy_ifp h b18
            refine zy_3 rfl rfl (show zyR _ _ _ _ [some (.ref (9 + 3)), some (.int x1), some (.int p12.1)] [.int (0 : Int32), .ref (9 + 3)] _ _ from ?_)
            exact zy_sub (show zy_le [none, none, none] [some (.ref (9 + 3)), some (.int x1), some (.int p12.1)] from trivial) (zyC40_89 hd hg39 hg40 h)
          · replace h := zy_ifn h b18
            refine zy_3 rfl rfl (show zyR _ _ _ _ [some (.ref (9 + 3)), some (.int x1), some (.int p12.1)] [.int (1 : Int32), .ref (9 + 3)] _ _ from ?_)
            refine zy_6 rfl (show zyR _ _ _ _ [some (.ref (9 + 3)), some (.int x1), some (.int p12.1)] [.int (1 : Int32), .ref (9 + 3)] _ _ from ?_)
            exact zy_sub (show zy_le [none, none, none] [some (.ref (9 + 3)), some (.int x1), some (.int p12.1)] from trivial) (zyC40_89 hd hg39 hg40 h)
    · replace h := zy_ifn h b23
      refine zy_0 rfl rfl (show zyR _ _ _ _ [some (.ref (9 + 3)), some (.int x1), some (.int p12.1)] [.ref (9 + 3)] _ _ from ?_)
      refine zy_33 rfl rfl (show zyR _ _ _ _ [some (.ref (9 + 3)), some (.int x1), some (.int p12.1)] [.ref (9 + 3), .ref (9 + 3)] _ _ from ?_)
      refine zy_1 (c := 9) rfl rfl rfl (show zyR _ _ _ _ [some (.ref (9 + 3)), some (.int x1), some (.int p12.1)] [.int (p14.2.1 9 4), .ref (9 + 3)] _ _ from ?_)
      refine zy_3 rfl rfl (show zyR _ _ _ _ [some (.ref (9 + 3)), some (.int x1), some (.int p12.1)] [.int (1 : Int32), .int (p14.2.1 9 4), .ref (9 + 3)] _ _ from ?_)
      refine zy_10 rfl (show zyR _ _ _ _ [some (.ref (9 + 3)), some (.int x1), some (.int p12.1)] [.int ((p14.2.1 9 4) + (1 : Int32)), .ref (9 + 3)] _ _ from ?_)
      refine zy_52 (c := 9) rfl rfl rfl (show zyR _ _ _ _ [some (.ref (9 + 3)), some (.int x1), some (.int p12.1)] [] _ _ from ?_)
      refine zy_0 rfl rfl (show zyR _ _ _ _ [some (.ref (9 + 3)), some (.int x1), some (.int p12.1)] [.ref (9 + 3)] _ _ from ?_)
      refine zy_3 rfl rfl (show zyR _ _ _ _ [some (.ref (9 + 3)), some (.int x1), some (.int p12.1)] [.int (10000 : Int32), .ref (9 + 3)] _ _ from ?_)
      refine zy_2 rfl rfl (show zyR _ _ _ _ [some (.ref (9 + 3)), some (.int x1), some (.int p12.1)] [.int p12.1, .int (10000 : Int32), .ref (9 + 3)] _ _ from ?_)
      obtain ⟨p21, hp21, h⟩ := zy_bind h
      refine zy_60 (as := [.int p12.1]) (rest := [.int (10000 : Int32), .ref (9 + 3)]) (L := [some (.int p12.1)]) (d' := 1) rfl rfl (Nat.le_of_ble_eq_true rfl) (by omega) rfl (Nat.le_of_ble_eq_true rfl) rfl rfl (zyC45 hp21) ?_
      show zyR _ _ _ _ [some (.ref (9 + 3)), some (.int x1), some (.int p12.1)] [.int p21.1, .int (10000 : Int32), .ref (9 + 3)] _ _
      refine zy_10 rfl (show zyR _ _ _ _ [some (.ref (9 + 3)), some (.int x1), some (.int p12.1)] [.int ((10000 : Int32) + p21.1), .ref (9 + 3)] _ _ from ?_)
      obtain ⟨p22, hp22, h⟩ := zy_bind h
      refine zy_5 (c := 9) (as := [.int ((10000 : Int32) + p21.1)]) (rest := []) (L := [some (.ref (9 + 3)), some (.int ((10000 : Int32) + p21.1))]) (d' := 1) rfl rfl rfl (Nat.le_of_ble_eq_true rfl) (by omega) rfl (Nat.le_of_ble_eq_true rfl) rfl rfl (zyC44 hp22) ?_
      show zyR _ _ _ _ [some (.ref (9 + 3)), some (.int x1), some (.int p12.1)] [] _ _
      refine zy_6 rfl (show zyR _ _ _ _ [some (.ref (9 + 3)), some (.int x1), some (.int p12.1)] [] _ _ from ?_)
      cases h
      exact zy_66 rfl ⟨rfl, rfl⟩
  · replace h := zy_ifn h b25
    refine zy_0 rfl rfl (show zyR _ _ _ _ [some (.ref (9 + 3)), some (.int x1), some (.int p12.1)] [.ref (9 + 3)] _ _ from ?_)
    obtain ⟨p24, hp24, h⟩ := zy_bind h
    refine zy_5 (c := 9) (as := []) (rest := []) (L := [some (.ref (9 + 3)), none, none]) (d' := 2) rfl rfl rfl (Nat.le_of_ble_eq_true rfl) (by omega) rfl (Nat.le_of_ble_eq_true rfl) rfl rfl (zyC43 hp24) ?_
    show zyR _ _ _ _ [some (.ref (9 + 3)), some (.int x1), some (.int p12.1)] [] _ _
    refine zy_6 rfl (show zyR _ _ _ _ [some (.ref (9 + 3)), some (.int x1), some (.int p12.1)] [] _ _ from ?_)
    cases h
    exact zy_66 rfl ⟨rfl, rfl⟩
noncomputable def zyG39 (n : Nat) : (Int32 → Int32 → zy_S → Option (Int32 × zy_S)) × (Int32 → zy_S → Option (Int32 × zy_S)) := Nat.rec ((fun _ _ _ => none), (fun _ _ => none)) (fun _ g => ((fun x1 x2 s => zyF39_0 g.1 g.2 x1 x2 s), (fun x1 s => zyF40_0 g.1 g.2 x1 s))) n
theorem zyG39_s (n : Nat) : zyG39 (n + 1) = ((fun x1 x2 s => zyF39_0 (zyG39 n).1 (zyG39 n).2 x1 x2 s), (fun x1 s => zyF40_0 (zyG39 n).1 (zyG39 n).2 x1 s)) := rfl
theorem zyS39 (n : Nat) (x1 : Int32) (x2 : Int32) (s : zy_S) : (zyG39 (n + 1)).1 x1 x2 s = zyF39_0 (zyG39 n).1 (zyG39 n).2 x1 x2 s := by
  rw [zyG39_s]
theorem zyS40 (n : Nat) (x1 : Int32) (s : zy_S) : (zyG39 (n + 1)).2 x1 s = zyF40_0 (zyG39 n).1 (zyG39 n).2 x1 s := by
  rw [zyG39_s]
theorem zyG39_ok {X : zx_X} : ∀ n : Nat, (∀ (x1 : Int32) (x2 : Int32) (s : zy_S) (r : Int32) (s' : zy_S), (zyG39 n).1 x1 x2 s = some (r, s') → zyR X (2 + n) 39 0 [some (.ref (9 + 3)), some (.int x1), some (.int x2), none, none, none] [] s (zyE none s')) ∧ (∀ (x1 : Int32) (s : zy_S) (r : Int32) (s' : zy_S), (zyG39 n).2 x1 s = some (r, s') → zyR X (2 + n) 40 0 [some (.ref (9 + 3)), some (.int x1), none] [] s (zyE none s'))
  | 0 => by
    refine ⟨?_, ?_⟩
    · intro x1 x2 s r s'  h
      have h : (none : Option (Int32 × zy_S)) = some (r, s') := h
      cases h
    · intro x1 s r s'  h
      have h : (none : Option (Int32 × zy_S)) = some (r, s') := h
      cases h
  | n + 1 => by
    obtain ⟨i0, i1⟩ := zyG39_ok (X := X) n
    refine ⟨?_, ?_⟩
    · intro x1 x2 s r s'  h
      rw [zyS39] at h
      exact zy_sub (show zy_le [some (.ref (9 + 3)), some (.int x1), some (.int x2), none, none, none] [some (.ref (9 + 3)), some (.int x1), some (.int x2), none, none, none] from ⟨rfl, ⟨rfl, ⟨rfl, trivial⟩⟩⟩) (zyC39_0 (d := 2 + n) (g39 := (zyG39 n).1) (g40 := (zyG39 n).2) (by omega) i0 i1  h)
    · intro x1 s r s'  h
      rw [zyS40] at h
      exact zy_sub (show zy_le [some (.ref (9 + 3)), some (.int x1), none] [some (.ref (9 + 3)), some (.int x1), none] from ⟨rfl, ⟨rfl, trivial⟩⟩) (zyC40_0 (d := 2 + n) (g39 := (zyG39 n).1) (g40 := (zyG39 n).2) (by omega) i0 i1  h)
noncomputable def zyF39 : Int32 → Int32 → zy_S → Option (Int32 × zy_S) := (zyG39 100).1
theorem zyC39 {X : zx_X} {x1 : Int32} {x2 : Int32} {s : zy_S} {r : Int32} {s' : zy_S}  (h : zyF39 x1 x2 s = some (r, s')) : zyR X 102 39 0 [some (.ref (9 + 3)), some (.int x1), some (.int x2), none, none, none] [] s (zyE none s') := (zyG39_ok (X := X) 100).1 x1 x2 s r s'  h
noncomputable def zyF40 : Int32 → zy_S → Option (Int32 × zy_S) := (zyG39 100).2
theorem zyC40 {X : zx_X} {x1 : Int32} {s : zy_S} {r : Int32} {s' : zy_S}  (h : zyF40 x1 s = some (r, s')) : zyR X 102 40 0 [some (.ref (9 + 3)), some (.int x1), none] [] s (zyE none s') := (zyG39_ok (X := X) 100).2 x1 s r s'  h
/-! NineOpinions$Tape.readLine()V -/
noncomputable def zyF38_27    (s : zy_S) : Option (Int32 × zy_S) :=
(zyF44 (-59 : Int32) s).bind fun p1 =>
some ((0 : Int32), p1.2)
theorem zyC38_27 {X : zx_X}      {s : zy_S} {r : Int32} {s' : zy_S}  (h : zyF38_27 s = some (r, s')) : zyR X 103 38 27 [some (.ref (9 + 3))] [] s (zyE none s') := by
  unfold zyF38_27 at h
  refine zy_0 rfl rfl (show zyR _ _ _ _ [some (.ref (9 + 3))] [.ref (9 + 3)] _ _ from ?_)
  refine zy_3 rfl rfl (show zyR _ _ _ _ [some (.ref (9 + 3))] [.int (-59 : Int32), .ref (9 + 3)] _ _ from ?_)
  obtain ⟨p1, hp1, h⟩ := zy_bind h
  refine zy_5 (c := 9) (as := [.int (-59 : Int32)]) (rest := []) (L := [some (.ref (9 + 3)), some (.int (-59 : Int32))]) (d' := 1) rfl rfl rfl (Nat.le_of_ble_eq_true rfl) (Nat.le_of_ble_eq_true rfl) rfl (Nat.le_of_ble_eq_true rfl) rfl rfl (zyC44 hp1) ?_
  show zyR _ _ _ _ [some (.ref (9 + 3))] [] _ _
  cases h
  exact zy_66 rfl ⟨rfl, rfl⟩
noncomputable def zyF38    (s : zy_S) : Option (Int32 × zy_S) :=
(zyF39 (0 : Int32) (0 : Int32) s).bind fun p2 =>
(zyF46 (63 : Int32) p2.2).bind fun p3 =>
if p3.1 = 0 then
zyF38_27 p3.2
else
(zyF44 (-63 : Int32) p3.2).bind fun p4 =>
(zyF39 (0 : Int32) (0 : Int32) p4.2).bind fun p5 =>
zyF38_27 p5.2
theorem zyC38 {X : zx_X}      {s : zy_S} {r : Int32} {s' : zy_S}  (h : zyF38 s = some (r, s')) : zyR X 103 38 0 [some (.ref (9 + 3))] [] s (zyE none s') := by
  unfold zyF38 at h
  refine zy_0 rfl rfl (show zyR _ _ _ _ [some (.ref (9 + 3))] [.ref (9 + 3)] _ _ from ?_)
  refine zy_3 rfl rfl (show zyR _ _ _ _ [some (.ref (9 + 3))] [.int (0 : Int32), .ref (9 + 3)] _ _ from ?_)
  refine zy_3 rfl rfl (show zyR _ _ _ _ [some (.ref (9 + 3))] [.int (0 : Int32), .int (0 : Int32), .ref (9 + 3)] _ _ from ?_)
  obtain ⟨p2, hp2, h⟩ := zy_bind h
  refine zy_5 (c := 9) (as := [.int (0 : Int32), .int (0 : Int32)]) (rest := []) (L := [some (.ref (9 + 3)), some (.int (0 : Int32)), some (.int (0 : Int32)), none, none, none]) (d' := 102) rfl rfl rfl (Nat.le_of_ble_eq_true rfl) (Nat.le_of_ble_eq_true rfl) rfl (Nat.le_of_ble_eq_true rfl) rfl rfl (zyC39 hp2) ?_
  show zyR _ _ _ _ [some (.ref (9 + 3))] [] _ _
  refine zy_0 rfl rfl (show zyR _ _ _ _ [some (.ref (9 + 3))] [.ref (9 + 3)] _ _ from ?_)
  refine zy_3 rfl rfl (show zyR _ _ _ _ [some (.ref (9 + 3))] [.int (63 : Int32), .ref (9 + 3)] _ _ from ?_)
  obtain ⟨p3, hp3, h⟩ := zy_bind h
  refine zy_5 (c := 9) (as := [.int (63 : Int32)]) (rest := []) (L := [some (.ref (9 + 3)), some (.int (63 : Int32)), none]) (d' := 2) rfl rfl rfl (Nat.le_of_ble_eq_true rfl) (Nat.le_of_ble_eq_true rfl) rfl (Nat.le_of_ble_eq_true rfl) rfl rfl (zyC46 hp3) ?_
  show zyR _ _ _ _ [some (.ref (9 + 3))] [.int p3.1] _ _
  refine zy_24_0 rfl (fun b6 => (show zyR _ _ _ _ [some (.ref (9 + 3))] [] _ _ from ?_)) (fun b6 => (show zyR _ _ _ _ [some (.ref (9 + 3))] [] _ _ from ?_))
  · replace h := zy_ifp h b6
    exact zy_sub (show zy_le [some (.ref (9 + 3))] [some (.ref (9 + 3))] from ⟨rfl, trivial⟩) (zyC38_27 h)
  · replace h := zy_ifn h b6
    refine zy_0 rfl rfl (show zyR _ _ _ _ [some (.ref (9 + 3))] [.ref (9 + 3)] _ _ from ?_)
    refine zy_3 rfl rfl (show zyR _ _ _ _ [some (.ref (9 + 3))] [.int (-63 : Int32), .ref (9 + 3)] _ _ from ?_)
    obtain ⟨p4, hp4, h⟩ := zy_bind h
    refine zy_5 (c := 9) (as := [.int (-63 : Int32)]) (rest := []) (L := [some (.ref (9 + 3)), some (.int (-63 : Int32))]) (d' := 1) rfl rfl rfl (Nat.le_of_ble_eq_true rfl) (Nat.le_of_ble_eq_true rfl) rfl (Nat.le_of_ble_eq_true rfl) rfl rfl (zyC44 hp4) ?_
    show zyR _ _ _ _ [some (.ref (9 + 3))] [] _ _
    refine zy_0 rfl rfl (show zyR _ _ _ _ [some (.ref (9 + 3))] [.ref (9 + 3)] _ _ from ?_)
    refine zy_3 rfl rfl (show zyR _ _ _ _ [some (.ref (9 + 3))] [.int (0 : Int32), .ref (9 + 3)] _ _ from ?_)
    refine zy_3 rfl rfl (show zyR _ _ _ _ [some (.ref (9 + 3))] [.int (0 : Int32), .int (0 : Int32), .ref (9 + 3)] _ _ from ?_)
    obtain ⟨p5, hp5, h⟩ := zy_bind h
    refine zy_5 (c := 9) (as := [.int (0 : Int32), .int (0 : Int32)]) (rest := []) (L := [some (.ref (9 + 3)), some (.int (0 : Int32)), some (.int (0 : Int32)), none, none, none]) (d' := 102) rfl rfl rfl (Nat.le_of_ble_eq_true rfl) (Nat.le_of_ble_eq_true rfl) rfl (Nat.le_of_ble_eq_true rfl) rfl rfl (zyC39 hp5) ?_
    show zyR _ _ _ _ [some (.ref (9 + 3))] [] _ _
    exact zy_sub (show zy_le [some (.ref (9 + 3))] [some (.ref (9 + 3))] from ⟨rfl, trivial⟩) (zyC38_27 h)
/-! NineOpinions$Tape.read()I -/
noncomputable def zyF37_46    (s : zy_S) : Option (Int32 × zy_S) :=
if (s.1 9 5) ≠ 0 then
some ((s.1 9 4), s)
else
if (s.1 9 2) ≤ (s.1 9 4) then
some ((-1 : Int32), s)
else
some ((s.1 9 4), s)
theorem zyC37_46 {X : zx_X}      {s : zy_S} {r : Int32} {s' : zy_S}  (h : zyF37_46 s = some (r, s')) : zyR X 104 37 46 [some (.ref (9 + 3)), none] [] s (zyE (some (.int r)) s') := by
  unfold zyF37_46 at h
  refine zy_0 rfl rfl (show zyR _ _ _ _ [some (.ref (9 + 3)), none] [.ref (9 + 3)] _ _ from ?_)
  refine zy_1 (c := 9) rfl rfl rfl (show zyR _ _ _ _ [some (.ref (9 + 3)), none] [.int (s.1 9 5)] _ _ from ?_)
  refine zy_24_1 rfl (fun b2 => (show zyR _ _ _ _ [some (.ref (9 + 3)), none] [] _ _ from ?_)) (fun b2 => (show zyR _ _ _ _ [some (.ref (9 + 3)), none] [] _ _ from ?_))
  · replace h := zy_ifp h b2
    refine zy_0 rfl rfl (show zyR _ _ _ _ [some (.ref (9 + 3)), none] [.ref (9 + 3)] _ _ from ?_)
    refine zy_1 (c := 9) rfl rfl rfl (show zyR _ _ _ _ [some (.ref (9 + 3)), none] [.int (s.1 9 4)] _ _ from ?_)
    refine zy_6 rfl (show zyR _ _ _ _ [some (.ref (9 + 3)), none] [.int (s.1 9 4)] _ _ from ?_)
    obtain ⟨rfl, rfl⟩ := zy_pi h
    exact zy_4 rfl ⟨rfl, rfl⟩
  · replace h := zy_ifn h b2
    refine zy_0 rfl rfl (show zyR _ _ _ _ [some (.ref (9 + 3)), none] [.ref (9 + 3)] _ _ from ?_)
    refine zy_1 (c := 9) rfl rfl rfl (show zyR _ _ _ _ [some (.ref (9 + 3)), none] [.int (s.1 9 4)] _ _ from ?_)
    refine zy_0 rfl rfl (show zyR _ _ _ _ [some (.ref (9 + 3)), none] [.ref (9 + 3), .int (s.1 9 4)] _ _ from ?_)
    refine zy_1 (c := 9) rfl rfl rfl (show zyR _ _ _ _ [some (.ref (9 + 3)), none] [.int (s.1 9 2), .int (s.1 9 4)] _ _ from ?_)
    refine zy_25_3 rfl (fun b1 => (show zyR _ _ _ _ [some (.ref (9 + 3)), none] [] _ _ from ?_)) (fun b1 => (show zyR _ _ _ _ [some (.ref (9 + 3)), none] [] _ _ from ?_))
    · replace h := zy_ifp h b1
      refine zy_3 rfl rfl (show zyR _ _ _ _ [some (.ref (9 + 3)), none] [.int (-1 : Int32)] _ _ from ?_)
      obtain ⟨rfl, rfl⟩ := zy_pi h
      exact zy_4 rfl ⟨rfl, rfl⟩
    · replace h := zy_ifn h b1
      refine zy_0 rfl rfl (show zyR _ _ _ _ [some (.ref (9 + 3)), none] [.ref (9 + 3)] _ _ from ?_)
      refine zy_1 (c := 9) rfl rfl rfl (show zyR _ _ _ _ [some (.ref (9 + 3)), none] [.int (s.1 9 4)] _ _ from ?_)
      refine zy_6 rfl (show zyR _ _ _ _ [some (.ref (9 + 3)), none] [.int (s.1 9 4)] _ _ from ?_)
      obtain ⟨rfl, rfl⟩ := zy_pi h
      exact zy_4 rfl ⟨rfl, rfl⟩
noncomputable def zyF37_21b  (k21 : Int32 → zy_S → Option (Int32 × zy_S)) (x1 : Int32) (s : zy_S) : Option (Int32 × zy_S) :=
if (120 : Int32) ≤ x1 then
zyF37_46 s
else
(zyF46 (59 : Int32) s).bind fun p3 =>
if p3.1 = 0 then
zyF37_46 p3.2
else
(zyF38 p3.2).bind fun p4 =>
k21 (x1 + (1 : Int32)) p4.2
theorem zyC37_21b {X : zx_X}  {k21 : Int32 → zy_S → Option (Int32 × zy_S)}  (hk21 : ∀ (x1 : Int32) (s : zy_S) (r : Int32) (s' : zy_S), k21 x1 s = some (r, s') → zyR X 104 37 21 [some (.ref (9 + 3)), some (.int x1)] [] s (zyE (some (.int r)) s')) {x1 : Int32} {s : zy_S} {r : Int32} {s' : zy_S}  (h : zyF37_21b k21 x1 s = some (r, s')) : zyR X 104 37 21 [some (.ref (9 + 3)), some (.int x1)] [] s (zyE (some (.int r)) s') := by
  unfold zyF37_21b at h
  refine zy_2 rfl rfl (show zyR _ _ _ _ [some (.ref (9 + 3)), some (.int x1)] [.int x1] _ _ from ?_)
  refine zy_3 rfl rfl (show zyR _ _ _ _ [some (.ref (9 + 3)), some (.int x1)] [.int (120 : Int32), .int x1] _ _ from ?_)
  refine zy_25_3 rfl (fun b6 => (show zyR _ _ _ _ [some (.ref (9 + 3)), some (.int x1)] [] _ _ from ?_)) (fun b6 => (show zyR _ _ _ _ [some (.ref (9 + 3)), some (.int x1)] [] _ _ from ?_))
  · replace h := zy_ifp h b6
    exact zy_sub (show zy_le [some (.ref (9 + 3)), none] [some (.ref (9 + 3)), some (.int x1)] from ⟨rfl, trivial⟩) (zyC37_46 h)
  · replace h := zy_ifn h b6
    refine zy_0 rfl rfl (show zyR _ _ _ _ [some (.ref (9 + 3)), some (.int x1)] [.ref (9 + 3)] _ _ from ?_)
    refine zy_3 rfl rfl (show zyR _ _ _ _ [some (.ref (9 + 3)), some (.int x1)] [.int (59 : Int32), .ref (9 + 3)] _ _ from ?_)
    obtain ⟨p3, hp3, h⟩ := zy_bind h
    refine zy_5 (c := 9) (as := [.int (59 : Int32)]) (rest := []) (L := [some (.ref (9 + 3)), some (.int (59 : Int32)), none]) (d' := 2) rfl rfl rfl (Nat.le_of_ble_eq_true rfl) (Nat.le_of_ble_eq_true rfl) rfl (Nat.le_of_ble_eq_true rfl) rfl rfl (zyC46 hp3) ?_
    show zyR _ _ _ _ [some (.ref (9 + 3)), some (.int x1)] [.int p3.1] _ _
    refine zy_24_0 rfl (fun b5 => (show zyR _ _ _ _ [some (.ref (9 + 3)), some (.int x1)] [] _ _ from ?_)) (fun b5 => (show zyR _ _ _ _ [some (.ref (9 + 3)), some (.int x1)] [] _ _ from ?_))
    · replace h := zy_ifp h b5
      exact zy_sub (show zy_le [some (.ref (9 + 3)), none] [some (.ref (9 + 3)), some (.int x1)] from ⟨rfl, trivial⟩) (zyC37_46 h)
    · replace h := zy_ifn h b5
      refine zy_0 rfl rfl (show zyR _ _ _ _ [some (.ref (9 + 3)), some (.int x1)] [.ref (9 + 3)] _ _ from ?_)
      obtain ⟨p4, hp4, h⟩ := zy_bind h
      refine zy_5 (c := 9) (as := []) (rest := []) (L := [some (.ref (9 + 3))]) (d' := 103) rfl rfl rfl (Nat.le_of_ble_eq_true rfl) (Nat.le_of_ble_eq_true rfl) rfl (Nat.le_of_ble_eq_true rfl) rfl rfl (zyC38 hp4) ?_
      show zyR _ _ _ _ [some (.ref (9 + 3)), some (.int x1)] [] _ _
      refine zy_22 rfl rfl rfl rfl (show zyR _ _ _ _ [some (.ref (9 + 3)), some (.int (x1 + (1 : Int32)))] [] _ _ from ?_)
      refine zy_6 rfl (show zyR _ _ _ _ [some (.ref (9 + 3)), some (.int (x1 + (1 : Int32)))] [] _ _ from ?_)
      exact zy_sub (show zy_le [some (.ref (9 + 3)), some (.int (x1 + (1 : Int32)))] [some (.ref (9 + 3)), some (.int (x1 + (1 : Int32)))] from ⟨rfl, ⟨rfl, trivial⟩⟩) (hk21 (x1 + (1 : Int32)) p4.2 _ _ h)
noncomputable def zyF37_21   (n : Nat) : Int32 → zy_S → Option (Int32 × zy_S) := Nat.rec (fun _ _ => none) (fun _ k21 => zyF37_21b k21) n
theorem zyC37_21 {X : zx_X}     : ∀ (n : Nat) (x1 : Int32) (s : zy_S) (r : Int32) (s' : zy_S), zyF37_21 n x1 s = some (r, s') → zyR X 104 37 21 [some (.ref (9 + 3)), some (.int x1)] [] s (zyE (some (.int r)) s')
  | 0, _ => by
    intro s r s'  h
    have h : (none : Option (Int32 × zy_S)) = some (r, s') := h
    cases h
  | n + 1, x1 => by
    intro s r s'  h
    exact zyC37_21b (k21 := zyF37_21 n) (fun x1 s r s'  h => zyC37_21  n x1 s r s'  h) h
noncomputable def zyF37    (s : zy_S) : Option (Int32 × zy_S) :=
(zyF38 (zy_up (zy_up (zy_up s 9 4 (0 : Int32)) 9 3 (0 : Int32)) 9 5 (0 : Int32))).bind fun p7 =>
zyF37_21 zy_fu (0 : Int32) p7.2
theorem zyC37 {X : zx_X}      {s : zy_S} {r : Int32} {s' : zy_S}  (h : zyF37 s = some (r, s')) : zyR X 104 37 0 [some (.ref (9 + 3)), none] [] s (zyE (some (.int r)) s') := by
  unfold zyF37 at h
  refine zy_0 rfl rfl (show zyR _ _ _ _ [some (.ref (9 + 3)), none] [.ref (9 + 3)] _ _ from ?_)
  refine zy_3 rfl rfl (show zyR _ _ _ _ [some (.ref (9 + 3)), none] [.int (0 : Int32), .ref (9 + 3)] _ _ from ?_)
  refine zy_52 (c := 9) rfl rfl rfl (show zyR _ _ _ _ [some (.ref (9 + 3)), none] [] _ _ from ?_)
  refine zy_0 rfl rfl (show zyR _ _ _ _ [some (.ref (9 + 3)), none] [.ref (9 + 3)] _ _ from ?_)
  refine zy_3 rfl rfl (show zyR _ _ _ _ [some (.ref (9 + 3)), none] [.int (0 : Int32), .ref (9 + 3)] _ _ from ?_)
  refine zy_52 (c := 9) rfl rfl rfl (show zyR _ _ _ _ [some (.ref (9 + 3)), none] [] _ _ from ?_)
  refine zy_0 rfl rfl (show zyR _ _ _ _ [some (.ref (9 + 3)), none] [.ref (9 + 3)] _ _ from ?_)
  refine zy_3 rfl rfl (show zyR _ _ _ _ [some (.ref (9 + 3)), none] [.int (0 : Int32), .ref (9 + 3)] _ _ from ?_)
  refine zy_52b (c := 9) rfl rfl rfl (Or.inl rfl) (show zyR _ _ _ _ [some (.ref (9 + 3)), none] [] _ _ from ?_)
  refine zy_0 rfl rfl (show zyR _ _ _ _ [some (.ref (9 + 3)), none] [.ref (9 + 3)] _ _ from ?_)
  obtain ⟨p7, hp7, h⟩ := zy_bind h
  refine zy_5 (c := 9) (as := []) (rest := []) (L := [some (.ref (9 + 3))]) (d' := 103) rfl rfl rfl (Nat.le_of_ble_eq_true rfl) (Nat.le_of_ble_eq_true rfl) rfl (Nat.le_of_ble_eq_true rfl) rfl rfl (zyC38 hp7) ?_
  show zyR _ _ _ _ [some (.ref (9 + 3)), none] [] _ _
  refine zy_3 rfl rfl (show zyR _ _ _ _ [some (.ref (9 + 3)), none] [.int (0 : Int32)] _ _ from ?_)
  refine zy_23 rfl rfl (show zyR _ _ _ _ [some (.ref (9 + 3)), some (.int (0 : Int32))] [] _ _ from ?_)
  exact zy_sub (show zy_le [some (.ref (9 + 3)), some (.int (0 : Int32))] [some (.ref (9 + 3)), some (.int (0 : Int32))] from ⟨rfl, ⟨rfl, trivial⟩⟩) (zyC37_21 zy_fu (0 : Int32) p7.2 _ _ h)
/-! NineOpinions$Law.adopt([II)V -/
noncomputable def zyF48   (x2 : Int32) (s : zy_S) : Option (Int32 × zy_S) :=
if zy_cpB (0 : Int32) (0 : Int32) x2 128 128 then
some ((0 : Int32), (zy_up (zy_ua s 6 (va_cpy (s.1 11) (s.1 6) 0 0 (x2).toNatClampNeg)) 5 3 x2))
else none
theorem zyC48 {X : zx_X}     {x2 : Int32} {s : zy_S} {r : Int32} {s' : zy_S}  (h : zyF48 x2 s = some (r, s')) : zyR X 1 48 0 [some (.ref (5 + 3)), some (.ref (11 + 3)), some (.int x2)] [] s (zyE none s') := by
  unfold zyF48 at h
  refine zy_0 rfl rfl (show zyR _ _ _ _ [some (.ref (5 + 3)), some (.ref (11 + 3)), some (.int x2)] [.ref (11 + 3)] _ _ from ?_)
  refine zy_3 rfl rfl (show zyR _ _ _ _ [some (.ref (5 + 3)), some (.ref (11 + 3)), some (.int x2)] [.int (0 : Int32), .ref (11 + 3)] _ _ from ?_)
  refine zy_0 rfl rfl (show zyR _ _ _ _ [some (.ref (5 + 3)), some (.ref (11 + 3)), some (.int x2)] [.ref (5 + 3), .int (0 : Int32), .ref (11 + 3)] _ _ from ?_)
  refine zy_1r (c := 5) rfl rfl rfl (show zyR _ _ _ _ [some (.ref (5 + 3)), some (.ref (11 + 3)), some (.int x2)] [.ref (6 + 3), .int (0 : Int32), .ref (11 + 3)] _ _ from ?_)
  refine zy_3 rfl rfl (show zyR _ _ _ _ [some (.ref (5 + 3)), some (.ref (11 + 3)), some (.int x2)] [.int (0 : Int32), .ref (6 + 3), .int (0 : Int32), .ref (11 + 3)] _ _ from ?_)
  refine zy_2 rfl rfl (show zyR _ _ _ _ [some (.ref (5 + 3)), some (.ref (11 + 3)), some (.int x2)] [.int x2, .int (0 : Int32), .ref (6 + 3), .int (0 : Int32), .ref (11 + 3)] _ _ from ?_)
  obtain ⟨c1, h⟩ := zy_if h
  refine zy_64 (c0 := 11) (c1 := 6) rfl rfl rfl c1 (Nat.le_of_ble_eq_true rfl) (Nat.le_of_ble_eq_true rfl) (show zyR _ _ _ _ [some (.ref (5 + 3)), some (.ref (11 + 3)), some (.int x2)] [] _ _ from ?_)
  refine zy_0 rfl rfl (show zyR _ _ _ _ [some (.ref (5 + 3)), some (.ref (11 + 3)), some (.int x2)] [.ref (5 + 3)] _ _ from ?_)
  refine zy_2 rfl rfl (show zyR _ _ _ _ [some (.ref (5 + 3)), some (.ref (11 + 3)), some (.int x2)] [.int x2, .ref (5 + 3)] _ _ from ?_)
  refine zy_52 (c := 5) rfl rfl rfl (show zyR _ _ _ _ [some (.ref (5 + 3)), some (.ref (11 + 3)), some (.int x2)] [] _ _ from ?_)
  cases h
  exact zy_66 rfl ⟨rfl, rfl⟩
/-! NineOpinions$Tape.clear()V -/
noncomputable def zyF49    (s : zy_S) : Option (Int32 × zy_S) :=
some ((0 : Int32), (zy_up s 9 2 (0 : Int32)))
theorem zyC49 {X : zx_X}      {s : zy_S} {r : Int32} {s' : zy_S}  (h : zyF49 s = some (r, s')) : zyR X 1 49 0 [some (.ref (9 + 3))] [] s (zyE none s') := by
  unfold zyF49 at h
  refine zy_0 rfl rfl (show zyR _ _ _ _ [some (.ref (9 + 3))] [.ref (9 + 3)] _ _ from ?_)
  refine zy_3 rfl rfl (show zyR _ _ _ _ [some (.ref (9 + 3))] [.int (0 : Int32), .ref (9 + 3)] _ _ from ?_)
  refine zy_52 (c := 9) rfl rfl rfl (show zyR _ _ _ _ [some (.ref (9 + 3))] [] _ _ from ?_)
  cases h
  exact zy_66 rfl ⟨rfl, rfl⟩
/-! NineOpinions.law()I -/
noncomputable def zyF36_34   (x1 : Int32) (s : zy_S) : Option (Int32 × zy_S) :=
(zyF49 s).bind fun p1 =>
if x1 ≠ (-1 : Int32) then
some (((-100 : Int32) - x1), p1.2)
else
some ((1 : Int32), p1.2)
theorem zyC36_34 {X : zx_X}     {x1 : Int32} {s : zy_S} {r : Int32} {s' : zy_S}  (h : zyF36_34 x1 s = some (r, s')) : zyR X 105 36 34 [some (.ref (0 + 3)), some (.int x1)] [] s (zyE (some (.int r)) s') := by
  unfold zyF36_34 at h
  refine zy_0 rfl rfl (show zyR _ _ _ _ [some (.ref (0 + 3)), some (.int x1)] [.ref (0 + 3)] _ _ from ?_)
  refine zy_1r (c := 0) rfl rfl rfl (show zyR _ _ _ _ [some (.ref (0 + 3)), some (.int x1)] [.ref (9 + 3)] _ _ from ?_)
  obtain ⟨p1, hp1, h⟩ := zy_bind h
  refine zy_5 (c := 9) (as := []) (rest := []) (L := [some (.ref (9 + 3))]) (d' := 1) rfl rfl rfl (Nat.le_of_ble_eq_true rfl) (Nat.le_of_ble_eq_true rfl) rfl (Nat.le_of_ble_eq_true rfl) rfl rfl (zyC49 hp1) ?_
  show zyR _ _ _ _ [some (.ref (0 + 3)), some (.int x1)] [] _ _
  refine zy_2 rfl rfl (show zyR _ _ _ _ [some (.ref (0 + 3)), some (.int x1)] [.int x1] _ _ from ?_)
  refine zy_3 rfl rfl (show zyR _ _ _ _ [some (.ref (0 + 3)), some (.int x1)] [.int (-1 : Int32), .int x1] _ _ from ?_)
  refine zy_25_1 rfl (fun b2 => (show zyR _ _ _ _ [some (.ref (0 + 3)), some (.int x1)] [] _ _ from ?_)) (fun b2 => (show zyR _ _ _ _ [some (.ref (0 + 3)), some (.int x1)] [] _ _ from ?_))
  · replace h := zy_ifp h b2
    refine zy_3 rfl rfl (show zyR _ _ _ _ [some (.ref (0 + 3)), some (.int x1)] [.int (-100 : Int32)] _ _ from ?_)
    refine zy_2 rfl rfl (show zyR _ _ _ _ [some (.ref (0 + 3)), some (.int x1)] [.int x1, .int (-100 : Int32)] _ _ from ?_)
    refine zy_11 rfl (show zyR _ _ _ _ [some (.ref (0 + 3)), some (.int x1)] [.int ((-100 : Int32) - x1)] _ _ from ?_)
    obtain ⟨rfl, rfl⟩ := zy_pi h
    exact zy_4 rfl ⟨rfl, rfl⟩
  · replace h := zy_ifn h b2
    refine zy_3 rfl rfl (show zyR _ _ _ _ [some (.ref (0 + 3)), some (.int x1)] [.int (1 : Int32)] _ _ from ?_)
    refine zy_6 rfl (show zyR _ _ _ _ [some (.ref (0 + 3)), some (.int x1)] [.int (1 : Int32)] _ _ from ?_)
    obtain ⟨rfl, rfl⟩ := zy_pi h
    exact zy_4 rfl ⟨rfl, rfl⟩
noncomputable def zyF36    (s : zy_S) : Option (Int32 × zy_S) :=
(zyF37 s).bind fun p3 =>
if p3.1 ≠ (-1 : Int32) then
zyF36_34 p3.1 p3.2
else
(zyF48 (p3.2.1 9 3) p3.2).bind fun p4 =>
zyF36_34 p3.1 p4.2
theorem zyC36 {X : zx_X}      {s : zy_S} {r : Int32} {s' : zy_S}  (h : zyF36 s = some (r, s')) : zyR X 105 36 0 [some (.ref (0 + 3)), none] [] s (zyE (some (.int r)) s') := by
  unfold zyF36 at h
  refine zy_0 rfl rfl (show zyR _ _ _ _ [some (.ref (0 + 3)), none] [.ref (0 + 3)] _ _ from ?_)
  refine zy_1r (c := 0) rfl rfl rfl (show zyR _ _ _ _ [some (.ref (0 + 3)), none] [.ref (9 + 3)] _ _ from ?_)
  obtain ⟨p3, hp3, h⟩ := zy_bind h
  refine zy_5 (c := 9) (as := []) (rest := []) (L := [some (.ref (9 + 3)), none]) (d' := 104) rfl rfl rfl (Nat.le_of_ble_eq_true rfl) (Nat.le_of_ble_eq_true rfl) rfl (Nat.le_of_ble_eq_true rfl) rfl rfl (zyC37 hp3) ?_
  show zyR _ _ _ _ [some (.ref (0 + 3)), none] [.int p3.1] _ _
  refine zy_23 rfl rfl (show zyR _ _ _ _ [some (.ref (0 + 3)), some (.int p3.1)] [] _ _ from ?_)
  refine zy_2 rfl rfl (show zyR _ _ _ _ [some (.ref (0 + 3)), some (.int p3.1)] [.int p3.1] _ _ from ?_)
  refine zy_3 rfl rfl (show zyR _ _ _ _ [some (.ref (0 + 3)), some (.int p3.1)] [.int (-1 : Int32), .int p3.1] _ _ from ?_)
  refine zy_25_1 rfl (fun b5 => (show zyR _ _ _ _ [some (.ref (0 + 3)), some (.int p3.1)] [] _ _ from ?_)) (fun b5 => (show zyR _ _ _ _ [some (.ref (0 + 3)), some (.int p3.1)] [] _ _ from ?_))
  · replace h := zy_ifp h b5
    exact zy_sub (show zy_le [some (.ref (0 + 3)), some (.int p3.1)] [some (.ref (0 + 3)), some (.int p3.1)] from ⟨rfl, ⟨rfl, trivial⟩⟩) (zyC36_34 h)
  · replace h := zy_ifn h b5
    refine zy_0 rfl rfl (show zyR _ _ _ _ [some (.ref (0 + 3)), some (.int p3.1)] [.ref (0 + 3)] _ _ from ?_)
    refine zy_1r (c := 0) rfl rfl rfl (show zyR _ _ _ _ [some (.ref (0 + 3)), some (.int p3.1)] [.ref (5 + 3)] _ _ from ?_)
    refine zy_0 rfl rfl (show zyR _ _ _ _ [some (.ref (0 + 3)), some (.int p3.1)] [.ref (0 + 3), .ref (5 + 3)] _ _ from ?_)
    refine zy_1r (c := 0) rfl rfl rfl (show zyR _ _ _ _ [some (.ref (0 + 3)), some (.int p3.1)] [.ref (9 + 3), .ref (5 + 3)] _ _ from ?_)
    refine zy_1r (c := 9) rfl rfl rfl (show zyR _ _ _ _ [some (.ref (0 + 3)), some (.int p3.1)] [.ref (11 + 3), .ref (5 + 3)] _ _ from ?_)
    refine zy_0 rfl rfl (show zyR _ _ _ _ [some (.ref (0 + 3)), some (.int p3.1)] [.ref (0 + 3), .ref (11 + 3), .ref (5 + 3)] _ _ from ?_)
    refine zy_1r (c := 0) rfl rfl rfl (show zyR _ _ _ _ [some (.ref (0 + 3)), some (.int p3.1)] [.ref (9 + 3), .ref (11 + 3), .ref (5 + 3)] _ _ from ?_)
    refine zy_1 (c := 9) rfl rfl rfl (show zyR _ _ _ _ [some (.ref (0 + 3)), some (.int p3.1)] [.int (p3.2.1 9 3), .ref (11 + 3), .ref (5 + 3)] _ _ from ?_)
    obtain ⟨p4, hp4, h⟩ := zy_bind h
    refine zy_5 (c := 5) (as := [.ref (11 + 3), .int (p3.2.1 9 3)]) (rest := []) (L := [some (.ref (5 + 3)), some (.ref (11 + 3)), some (.int (p3.2.1 9 3))]) (d' := 1) rfl rfl rfl (Nat.le_of_ble_eq_true rfl) (Nat.le_of_ble_eq_true rfl) rfl (Nat.le_of_ble_eq_true rfl) rfl rfl (zyC48 hp4) ?_
    show zyR _ _ _ _ [some (.ref (0 + 3)), some (.int p3.1)] [] _ _
    exact zy_sub (show zy_le [some (.ref (0 + 3)), some (.int p3.1)] [some (.ref (0 + 3)), some (.int p3.1)] from ⟨rfl, ⟨rfl, trivial⟩⟩) (zyC36_34 h)
/-! NineOpinionsModel.byteAt()I -/
noncomputable def zyF198    (s : zy_S) : Option (Int32 × zy_S) :=
if (s.1 43 14) ≤ (s.1 43 13) then
some ((0 : Int32), s)
else
if 0 ≤ (s.1 43 12) then
if zy_in ((s.1 43 12) + (s.1 43 13)) 120 then
some ((s.1 49 (((s.1 43 12) + (s.1 43 13))).toNatClampNeg), s)
else none
else
if zy_in (s.1 43 13) 120 then
some ((s.1 48 ((s.1 43 13)).toNatClampNeg), s)
else none
theorem zyC198 {X : zx_X}      {s : zy_S} {r : Int32} {s' : zy_S}  (h : zyF198 s = some (r, s')) : zyR X 1 198 0 [some (.ref (43 + 3))] [] s (zyE (some (.int r)) s') := by
  unfold zyF198 at h
  refine zy_0 rfl rfl (show zyR _ _ _ _ [some (.ref (43 + 3))] [.ref (43 + 3)] _ _ from ?_)
  refine zy_1 (c := 43) rfl rfl rfl (show zyR _ _ _ _ [some (.ref (43 + 3))] [.int (s.1 43 13)] _ _ from ?_)
  refine zy_0 rfl rfl (show zyR _ _ _ _ [some (.ref (43 + 3))] [.ref (43 + 3), .int (s.1 43 13)] _ _ from ?_)
  refine zy_1 (c := 43) rfl rfl rfl (show zyR _ _ _ _ [some (.ref (43 + 3))] [.int (s.1 43 14), .int (s.1 43 13)] _ _ from ?_)
  refine zy_25_3 rfl (fun b4 => (show zyR _ _ _ _ [some (.ref (43 + 3))] [] _ _ from ?_)) (fun b4 => (show zyR _ _ _ _ [some (.ref (43 + 3))] [] _ _ from ?_))
  · replace h := zy_ifp h b4
    refine zy_3 rfl rfl (show zyR _ _ _ _ [some (.ref (43 + 3))] [.int (0 : Int32)] _ _ from ?_)
    obtain ⟨rfl, rfl⟩ := zy_pi h
    exact zy_4 rfl ⟨rfl, rfl⟩
  · replace h := zy_ifn h b4
    refine zy_0 rfl rfl (show zyR _ _ _ _ [some (.ref (43 + 3))] [.ref (43 + 3)] _ _ from ?_)
    refine zy_1 (c := 43) rfl rfl rfl (show zyR _ _ _ _ [some (.ref (43 + 3))] [.int (s.1 43 12)] _ _ from ?_)
    refine zy_24_3 rfl (fun b3 => (show zyR _ _ _ _ [some (.ref (43 + 3))] [] _ _ from ?_)) (fun b3 => (show zyR _ _ _ _ [some (.ref (43 + 3))] [] _ _ from ?_))
    · replace h := zy_ifp h b3
      refine zy_0 rfl rfl (show zyR _ _ _ _ [some (.ref (43 + 3))] [.ref (43 + 3)] _ _ from ?_)
      refine zy_1r (c := 43) rfl rfl rfl (show zyR _ _ _ _ [some (.ref (43 + 3))] [.ref (49 + 3)] _ _ from ?_)
      refine zy_0 rfl rfl (show zyR _ _ _ _ [some (.ref (43 + 3))] [.ref (43 + 3), .ref (49 + 3)] _ _ from ?_)
      refine zy_1 (c := 43) rfl rfl rfl (show zyR _ _ _ _ [some (.ref (43 + 3))] [.int (s.1 43 12), .ref (49 + 3)] _ _ from ?_)
      refine zy_0 rfl rfl (show zyR _ _ _ _ [some (.ref (43 + 3))] [.ref (43 + 3), .int (s.1 43 12), .ref (49 + 3)] _ _ from ?_)
      refine zy_1 (c := 43) rfl rfl rfl (show zyR _ _ _ _ [some (.ref (43 + 3))] [.int (s.1 43 13), .int (s.1 43 12), .ref (49 + 3)] _ _ from ?_)
      refine zy_10 rfl (show zyR _ _ _ _ [some (.ref (43 + 3))] [.int ((s.1 43 12) + (s.1 43 13)), .ref (49 + 3)] _ _ from ?_)
      obtain ⟨c1, h⟩ := zy_if h
      refine zy_26 (c := 49) rfl rfl c1 (show zyR _ _ _ _ [some (.ref (43 + 3))] [.int (s.1 49 (((s.1 43 12) + (s.1 43 13))).toNatClampNeg)] _ _ from ?_)
      refine zy_6 rfl (show zyR _ _ _ _ [some (.ref (43 + 3))] [.int (s.1 49 (((s.1 43 12) + (s.1 43 13))).toNatClampNeg)] _ _ from ?_)
      obtain ⟨rfl, rfl⟩ := zy_pi h
      exact zy_4 rfl ⟨rfl, rfl⟩
    · replace h := zy_ifn h b3
      refine zy_0 rfl rfl (show zyR _ _ _ _ [some (.ref (43 + 3))] [.ref (43 + 3)] _ _ from ?_)
      refine zy_1r (c := 43) rfl rfl rfl (show zyR _ _ _ _ [some (.ref (43 + 3))] [.ref (48 + 3)] _ _ from ?_)
      refine zy_0 rfl rfl (show zyR _ _ _ _ [some (.ref (43 + 3))] [.ref (43 + 3), .ref (48 + 3)] _ _ from ?_)
      refine zy_1 (c := 43) rfl rfl rfl (show zyR _ _ _ _ [some (.ref (43 + 3))] [.int (s.1 43 13), .ref (48 + 3)] _ _ from ?_)
      obtain ⟨c2, h⟩ := zy_if h
      refine zy_26 (c := 48) rfl rfl c2 (show zyR _ _ _ _ [some (.ref (43 + 3))] [.int (s.1 48 ((s.1 43 13)).toNatClampNeg)] _ _ from ?_)
      refine zy_6 rfl (show zyR _ _ _ _ [some (.ref (43 + 3))] [.int (s.1 48 ((s.1 43 13)).toNatClampNeg)] _ _ from ?_)
      obtain ⟨rfl, rfl⟩ := zy_pi h
      exact zy_4 rfl ⟨rfl, rfl⟩
/-! NineOpinionsModel.takes(I)Z -/
noncomputable def zyF200   (x1 : Int32) (s : zy_S) : Option (Int32 × zy_S) :=
if 0 ≤ (s.1 43 15) then
some ((0 : Int32), s)
else
(zyF198 s).bind fun p1 =>
if p1.1 = x1 then
some ((1 : Int32), (zy_up p1.2 43 13 ((p1.2.1 43 13) + (1 : Int32))))
else
some ((0 : Int32), p1.2)
theorem zyC200 {X : zx_X}     {x1 : Int32} {s : zy_S} {r : Int32} {s' : zy_S}  (h : zyF200 x1 s = some (r, s')) : zyR X 2 200 0 [some (.ref (43 + 3)), some (.int x1)] [] s (zyE (some (.int r)) s') := by
  unfold zyF200 at h
  refine zy_0 rfl rfl (show zyR _ _ _ _ [some (.ref (43 + 3)), some (.int x1)] [.ref (43 + 3)] _ _ from ?_)
  refine zy_1 (c := 43) rfl rfl rfl (show zyR _ _ _ _ [some (.ref (43 + 3)), some (.int x1)] [.int (s.1 43 15)] _ _ from ?_)
  refine zy_24_3 rfl (fun b3 => (show zyR _ _ _ _ [some (.ref (43 + 3)), some (.int x1)] [] _ _ from ?_)) (fun b3 => (show zyR _ _ _ _ [some (.ref (43 + 3)), some (.int x1)] [] _ _ from ?_))
  · replace h := zy_ifp h b3
    refine zy_3 rfl rfl (show zyR _ _ _ _ [some (.ref (43 + 3)), some (.int x1)] [.int (0 : Int32)] _ _ from ?_)
    cases h
    exact zy_4b rfl ⟨rfl, rfl⟩ (Or.inl rfl)
  · replace h := zy_ifn h b3
    refine zy_0 rfl rfl (show zyR _ _ _ _ [some (.ref (43 + 3)), some (.int x1)] [.ref (43 + 3)] _ _ from ?_)
    obtain ⟨p1, hp1, h⟩ := zy_bind h
    refine zy_5 (c := 43) (as := []) (rest := []) (L := [some (.ref (43 + 3))]) (d' := 1) rfl rfl rfl (Nat.le_of_ble_eq_true rfl) (Nat.le_of_ble_eq_true rfl) rfl (Nat.le_of_ble_eq_true rfl) rfl rfl (zyC198 hp1) ?_
    show zyR _ _ _ _ [some (.ref (43 + 3)), some (.int x1)] [.int p1.1] _ _
    refine zy_2 rfl rfl (show zyR _ _ _ _ [some (.ref (43 + 3)), some (.int x1)] [.int x1, .int p1.1] _ _ from ?_)
    refine zy_25_0 rfl (fun b2 => (show zyR _ _ _ _ [some (.ref (43 + 3)), some (.int x1)] [] _ _ from ?_)) (fun b2 => (show zyR _ _ _ _ [some (.ref (43 + 3)), some (.int x1)] [] _ _ from ?_))
    · replace h := zy_ifp h b2
      refine zy_0 rfl rfl (show zyR _ _ _ _ [some (.ref (43 + 3)), some (.int x1)] [.ref (43 + 3)] _ _ from ?_)
      refine zy_33 rfl rfl (show zyR _ _ _ _ [some (.ref (43 + 3)), some (.int x1)] [.ref (43 + 3), .ref (43 + 3)] _ _ from ?_)
      refine zy_1 (c := 43) rfl rfl rfl (show zyR _ _ _ _ [some (.ref (43 + 3)), some (.int x1)] [.int (p1.2.1 43 13), .ref (43 + 3)] _ _ from ?_)
      refine zy_3 rfl rfl (show zyR _ _ _ _ [some (.ref (43 + 3)), some (.int x1)] [.int (1 : Int32), .int (p1.2.1 43 13), .ref (43 + 3)] _ _ from ?_)
      refine zy_10 rfl (show zyR _ _ _ _ [some (.ref (43 + 3)), some (.int x1)] [.int ((p1.2.1 43 13) + (1 : Int32)), .ref (43 + 3)] _ _ from ?_)
      refine zy_52 (c := 43) rfl rfl rfl (show zyR _ _ _ _ [some (.ref (43 + 3)), some (.int x1)] [] _ _ from ?_)
      refine zy_3 rfl rfl (show zyR _ _ _ _ [some (.ref (43 + 3)), some (.int x1)] [.int (1 : Int32)] _ _ from ?_)
      cases h
      exact zy_4b rfl ⟨rfl, rfl⟩ (Or.inr rfl)
    · replace h := zy_ifn h b2
      refine zy_3 rfl rfl (show zyR _ _ _ _ [some (.ref (43 + 3)), some (.int x1)] [.int (0 : Int32)] _ _ from ?_)
      cases h
      exact zy_4b rfl ⟨rfl, rfl⟩ (Or.inl rfl)
/-! NineOpinionsModel.wrong()I -/
noncomputable def zyF199_19   (y0 : Int32) (s : zy_S) : Option (Int32 × zy_S) :=
some ((0 : Int32), (zy_up s 43 15 y0))
theorem zyC199_19 {X : zx_X}     {y0 : Int32} {s : zy_S} {r : Int32} {s' : zy_S}  (h : zyF199_19 y0 s = some (r, s')) : zyR X 1 199 19 [none] [.int y0, .ref (43 + 3)] s (zyE (some (.int r)) s') := by
  unfold zyF199_19 at h
  refine zy_52 (c := 43) rfl rfl rfl (show zyR _ _ _ _ [none] [] _ _ from ?_)
  refine zy_3 rfl rfl (show zyR _ _ _ _ [none] [.int (0 : Int32)] _ _ from ?_)
  obtain ⟨rfl, rfl⟩ := zy_pi h
  exact zy_4 rfl ⟨rfl, rfl⟩
noncomputable def zyF199    (s : zy_S) : Option (Int32 × zy_S) :=
if 0 ≤ (s.1 43 15) then
zyF199_19 (s.1 43 15) s
else
zyF199_19 (s.1 43 13) s
theorem zyC199 {X : zx_X}      {s : zy_S} {r : Int32} {s' : zy_S}  (h : zyF199 s = some (r, s')) : zyR X 1 199 0 [some (.ref (43 + 3))] [] s (zyE (some (.int r)) s') := by
  unfold zyF199 at h
  refine zy_0 rfl rfl (show zyR _ _ _ _ [some (.ref (43 + 3))] [.ref (43 + 3)] _ _ from ?_)
  refine zy_0 rfl rfl (show zyR _ _ _ _ [some (.ref (43 + 3))] [.ref (43 + 3), .ref (43 + 3)] _ _ from ?_)
  refine zy_1 (c := 43) rfl rfl rfl (show zyR _ _ _ _ [some (.ref (43 + 3))] [.int (s.1 43 15), .ref (43 + 3)] _ _ from ?_)
  refine zy_24_3 rfl (fun b1 => (show zyR _ _ _ _ [some (.ref (43 + 3))] [.ref (43 + 3)] _ _ from ?_)) (fun b1 => (show zyR _ _ _ _ [some (.ref (43 + 3))] [.ref (43 + 3)] _ _ from ?_))
  · replace h := zy_ifp h b1
    refine zy_0 rfl rfl (show zyR _ _ _ _ [some (.ref (43 + 3))] [.ref (43 + 3), .ref (43 + 3)] _ _ from ?_)
    refine zy_1 (c := 43) rfl rfl rfl (show zyR _ _ _ _ [some (.ref (43 + 3))] [.int (s.1 43 15), .ref (43 + 3)] _ _ from ?_)
    exact zy_sub (show zy_le [none] [some (.ref (43 + 3))] from trivial) (zyC199_19 h)
  · replace h := zy_ifn h b1
    refine zy_0 rfl rfl (show zyR _ _ _ _ [some (.ref (43 + 3))] [.ref (43 + 3), .ref (43 + 3)] _ _ from ?_)
    refine zy_1 (c := 43) rfl rfl rfl (show zyR _ _ _ _ [some (.ref (43 + 3))] [.int (s.1 43 13), .ref (43 + 3)] _ _ from ?_)
    refine zy_6 rfl (show zyR _ _ _ _ [some (.ref (43 + 3))] [.int (s.1 43 13), .ref (43 + 3)] _ _ from ?_)
    exact zy_sub (show zy_le [none] [some (.ref (43 + 3))] from trivial) (zyC199_19 h)
end
section
/-! PART 41.24: methods as functions. Made by wip/v4/dcp.py. -/
/-! NineOpinionsModel.nameOf(I)I -/
noncomputable def zyF201   (x0 : Int32) (s : zy_S) : Option (Int32 × zy_S) :=
if x0 = (100 : Int32) then
some ((0 : Int32), s)
else
if x0 = (101 : Int32) then
some ((-1 : Int32), s)
else
if x0 = (102 : Int32) then
some ((-1 : Int32), s)
else
if x0 = (103 : Int32) then
some ((-1 : Int32), s)
else
if x0 = (104 : Int32) then
some ((-1 : Int32), s)
else
if x0 = (105 : Int32) then
some ((-1 : Int32), s)
else
if x0 = (106 : Int32) then
some ((-1 : Int32), s)
else
if x0 = (107 : Int32) then
some ((4 : Int32), s)
else
if x0 = (108 : Int32) then
some ((-1 : Int32), s)
else
if x0 = (109 : Int32) then
some ((2 : Int32), s)
else
if x0 = (110 : Int32) then
some ((-1 : Int32), s)
else
if x0 = (111 : Int32) then
some ((-1 : Int32), s)
else
if x0 = (112 : Int32) then
some ((-1 : Int32), s)
else
if x0 = (113 : Int32) then
some ((-1 : Int32), s)
else
if x0 = (114 : Int32) then
some ((-1 : Int32), s)
else
if x0 = (115 : Int32) then
some ((1 : Int32), s)
else
if x0 = (116 : Int32) then
some ((-1 : Int32), s)
else
if x0 = (117 : Int32) then
some ((-1 : Int32), s)
else
if x0 = (118 : Int32) then
some ((5 : Int32), s)
else
if x0 = (119 : Int32) then
some ((3 : Int32), s)
else
some ((-1 : Int32), s)
theorem zyC201 {X : zx_X}     {x0 : Int32} {s : zy_S} {r : Int32} {s' : zy_S}  (h : zyF201 x0 s = some (r, s')) : zyR X 1 201 0 [some (.int x0)] [] s (zyE (some (.int r)) s') := by
  unfold zyF201 at h
  refine zy_2 rfl rfl (show zyR _ _ _ _ [some (.int x0)] [.int x0] _ _ from ?_)
  refine zy_50 rfl (by decide) ?_
  refine zy_swp (fun b1 => (show zyR _ _ _ _ [some (.int x0)] [] _ _ from ?_)) (fun b1 => ?_)
  · replace h := zy_ifp h b1
    refine zy_3 rfl rfl (show zyR _ _ _ _ [some (.int x0)] [.int (0 : Int32)] _ _ from ?_)
    obtain ⟨rfl, rfl⟩ := zy_pi h
    exact zy_4 rfl ⟨rfl, rfl⟩
  replace h := zy_ifn h b1
  refine zy_swp (fun b2 => (show zyR _ _ _ _ [some (.int x0)] [] _ _ from ?_)) (fun b2 => ?_)
  · replace h := zy_ifp h b2
    refine zy_3 rfl rfl (show zyR _ _ _ _ [some (.int x0)] [.int (-1 : Int32)] _ _ from ?_)
    obtain ⟨rfl, rfl⟩ := zy_pi h
    exact zy_4 rfl ⟨rfl, rfl⟩
  replace h := zy_ifn h b2
  refine zy_swp (fun b3 => (show zyR _ _ _ _ [some (.int x0)] [] _ _ from ?_)) (fun b3 => ?_)
  · replace h := zy_ifp h b3
    refine zy_3 rfl rfl (show zyR _ _ _ _ [some (.int x0)] [.int (-1 : Int32)] _ _ from ?_)
    obtain ⟨rfl, rfl⟩ := zy_pi h
    exact zy_4 rfl ⟨rfl, rfl⟩
  replace h := zy_ifn h b3
  refine zy_swp (fun b4 => (show zyR _ _ _ _ [some (.int x0)] [] _ _ from ?_)) (fun b4 => ?_)
  · replace h := zy_ifp h b4
    refine zy_3 rfl rfl (show zyR _ _ _ _ [some (.int x0)] [.int (-1 : Int32)] _ _ from ?_)
    obtain ⟨rfl, rfl⟩ := zy_pi h
    exact zy_4 rfl ⟨rfl, rfl⟩
  replace h := zy_ifn h b4
  refine zy_swp (fun b5 => (show zyR _ _ _ _ [some (.int x0)] [] _ _ from ?_)) (fun b5 => ?_)
  · replace h := zy_ifp h b5
    refine zy_3 rfl rfl (show zyR _ _ _ _ [some (.int x0)] [.int (-1 : Int32)] _ _ from ?_)
    obtain ⟨rfl, rfl⟩ := zy_pi h
    exact zy_4 rfl ⟨rfl, rfl⟩
  replace h := zy_ifn h b5
  refine zy_swp (fun b6 => (show zyR _ _ _ _ [some (.int x0)] [] _ _ from ?_)) (fun b6 => ?_)
  · replace h := zy_ifp h b6
    refine zy_3 rfl rfl (show zyR _ _ _ _ [some (.int x0)] [.int (-1 : Int32)] _ _ from ?_)
    obtain ⟨rfl, rfl⟩ := zy_pi h
    exact zy_4 rfl ⟨rfl, rfl⟩
  replace h := zy_ifn h b6
  refine zy_swp (fun b7 => (show zyR _ _ _ _ [some (.int x0)] [] _ _ from ?_)) (fun b7 => ?_)
  · replace h := zy_ifp h b7
    refine zy_3 rfl rfl (show zyR _ _ _ _ [some (.int x0)] [.int (-1 : Int32)] _ _ from ?_)
    obtain ⟨rfl, rfl⟩ := zy_pi h
    exact zy_4 rfl ⟨rfl, rfl⟩
  replace h := zy_ifn h b7
  refine zy_swp (fun b8 => (show zyR _ _ _ _ [some (.int x0)] [] _ _ from ?_)) (fun b8 => ?_)
  · replace h := zy_ifp h b8
    refine zy_3 rfl rfl (show zyR _ _ _ _ [some (.int x0)] [.int (4 : Int32)] _ _ from ?_)
    obtain ⟨rfl, rfl⟩ := zy_pi h
    exact zy_4 rfl ⟨rfl, rfl⟩
  replace h := zy_ifn h b8
  refine zy_swp (fun b9 => (show zyR _ _ _ _ [some (.int x0)] [] _ _ from ?_)) (fun b9 => ?_)
  · replace h := zy_ifp h b9
    refine zy_3 rfl rfl (show zyR _ _ _ _ [some (.int x0)] [.int (-1 : Int32)] _ _ from ?_)
    obtain ⟨rfl, rfl⟩ := zy_pi h
    exact zy_4 rfl ⟨rfl, rfl⟩
  replace h := zy_ifn h b9
  refine zy_swp (fun b10 => (show zyR _ _ _ _ [some (.int x0)] [] _ _ from ?_)) (fun b10 => ?_)
  · replace h := zy_ifp h b10
    refine zy_3 rfl rfl (show zyR _ _ _ _ [some (.int x0)] [.int (2 : Int32)] _ _ from ?_)
    obtain ⟨rfl, rfl⟩ := zy_pi h
    exact zy_4 rfl ⟨rfl, rfl⟩
  replace h := zy_ifn h b10
  refine zy_swp (fun b11 => (show zyR _ _ _ _ [some (.int x0)] [] _ _ from ?_)) (fun b11 => ?_)
  · replace h := zy_ifp h b11
    refine zy_3 rfl rfl (show zyR _ _ _ _ [some (.int x0)] [.int (-1 : Int32)] _ _ from ?_)
    obtain ⟨rfl, rfl⟩ := zy_pi h
    exact zy_4 rfl ⟨rfl, rfl⟩
  replace h := zy_ifn h b11
  refine zy_swp (fun b12 => (show zyR _ _ _ _ [some (.int x0)] [] _ _ from ?_)) (fun b12 => ?_)
  · replace h := zy_ifp h b12
    refine zy_3 rfl rfl (show zyR _ _ _ _ [some (.int x0)] [.int (-1 : Int32)] _ _ from ?_)
    obtain ⟨rfl, rfl⟩ := zy_pi h
    exact zy_4 rfl ⟨rfl, rfl⟩
  replace h := zy_ifn h b12
  refine zy_swp (fun b13 => (show zyR _ _ _ _ [some (.int x0)] [] _ _ from ?_)) (fun b13 => ?_)
  · replace h := zy_ifp h b13
    refine zy_3 rfl rfl (show zyR _ _ _ _ [some (.int x0)] [.int (-1 : Int32)] _ _ from ?_)
    obtain ⟨rfl, rfl⟩ := zy_pi h
    exact zy_4 rfl ⟨rfl, rfl⟩
  replace h := zy_ifn h b13
  refine zy_swp (fun b14 => (show zyR _ _ _ _ [some (.int x0)] [] _ _ from ?_)) (fun b14 => ?_)
  · replace h := zy_ifp h b14
    refine zy_3 rfl rfl (show zyR _ _ _ _ [some (.int x0)] [.int (-1 : Int32)] _ _ from ?_)
    obtain ⟨rfl, rfl⟩ := zy_pi h
    exact zy_4 rfl ⟨rfl, rfl⟩
  replace h := zy_ifn h b14
  refine zy_swp (fun b15 => (show zyR _ _ _ _ [some (.int x0)] [] _ _ from ?_)) (fun b15 => ?_)
  · replace h := zy_ifp h b15
    refine zy_3 rfl rfl (show zyR _ _ _ _ [some (.int x0)] [.int (-1 : Int32)] _ _ from ?_)
    obtain ⟨rfl, rfl⟩ := zy_pi h
    exact zy_4 rfl ⟨rfl, rfl⟩
  replace h := zy_ifn h b15
  refine zy_swp (fun b16 => (show zyR _ _ _ _ [some (.int x0)] [] _ _ from ?_)) (fun b16 => ?_)
  · replace h := zy_ifp h b16
    refine zy_3 rfl rfl (show zyR _ _ _ _ [some (.int x0)] [.int (1 : Int32)] _ _ from ?_)
    obtain ⟨rfl, rfl⟩ := zy_pi h
    exact zy_4 rfl ⟨rfl, rfl⟩
  replace h := zy_ifn h b16
  refine zy_swp (fun b17 => (show zyR _ _ _ _ [some (.int x0)] [] _ _ from ?_)) (fun b17 => ?_)
  · replace h := zy_ifp h b17
    refine zy_3 rfl rfl (show zyR _ _ _ _ [some (.int x0)] [.int (-1 : Int32)] _ _ from ?_)
    obtain ⟨rfl, rfl⟩ := zy_pi h
    exact zy_4 rfl ⟨rfl, rfl⟩
  replace h := zy_ifn h b17
  refine zy_swp (fun b18 => (show zyR _ _ _ _ [some (.int x0)] [] _ _ from ?_)) (fun b18 => ?_)
  · replace h := zy_ifp h b18
    refine zy_3 rfl rfl (show zyR _ _ _ _ [some (.int x0)] [.int (-1 : Int32)] _ _ from ?_)
    obtain ⟨rfl, rfl⟩ := zy_pi h
    exact zy_4 rfl ⟨rfl, rfl⟩
  replace h := zy_ifn h b18
  refine zy_swp (fun b19 => (show zyR _ _ _ _ [some (.int x0)] [] _ _ from ?_)) (fun b19 => ?_)
  · replace h := zy_ifp h b19
    refine zy_3 rfl rfl (show zyR _ _ _ _ [some (.int x0)] [.int (5 : Int32)] _ _ from ?_)
    obtain ⟨rfl, rfl⟩ := zy_pi h
    exact zy_4 rfl ⟨rfl, rfl⟩
  replace h := zy_ifn h b19
  refine zy_swp (fun b20 => (show zyR _ _ _ _ [some (.int x0)] [] _ _ from ?_)) (fun b20 => ?_)
  · replace h := zy_ifp h b20
    refine zy_3 rfl rfl (show zyR _ _ _ _ [some (.int x0)] [.int (3 : Int32)] _ _ from ?_)
    obtain ⟨rfl, rfl⟩ := zy_pi h
    exact zy_4 rfl ⟨rfl, rfl⟩
  replace h := zy_ifn h b20
  show zyR _ _ _ _ [some (.int x0)] [] _ _
  refine zy_3 rfl rfl (show zyR _ _ _ _ [some (.int x0)] [.int (-1 : Int32)] _ _ from ?_)
  obtain ⟨rfl, rfl⟩ := zy_pi h
  exact zy_4 rfl ⟨rfl, rfl⟩
/-! NineOpinionsModel.either()I, over what it calls -/
noncomputable def zyF192_32 (g192 : zy_S → Option (Int32 × zy_S)) (g193 : zy_S → Option (Int32 × zy_S)) (g194 : zy_S → Option (Int32 × zy_S)) (g195 : zy_S → Option (Int32 × zy_S)) (g196 : zy_S → Option (Int32 × zy_S)) (g197 : zy_S → Option (Int32 × zy_S)) (k5 : Int32 → zy_S → Option (Int32 × zy_S)) (y0 : Int32) (s : zy_S) : Option (Int32 × zy_S) :=
k5 y0 s
theorem zyC192_32 {X : zx_X} {d : Nat} {g192 : zy_S → Option (Int32 × zy_S)} {g193 : zy_S → Option (Int32 × zy_S)} {g194 : zy_S → Option (Int32 × zy_S)} {g195 : zy_S → Option (Int32 × zy_S)} {g196 : zy_S → Option (Int32 × zy_S)} {g197 : zy_S → Option (Int32 × zy_S)} {k5 : Int32 → zy_S → Option (Int32 × zy_S)} (hd : 2 ≤ d) (hg192 : ∀  (s : zy_S) (r : Int32) (s' : zy_S), g192 s = some (r, s') → zyR X d 192 0 [some (.ref (43 + 3)), none, none] [] s (zyE (some (.int r)) s')) (hg193 : ∀  (s : zy_S) (r : Int32) (s' : zy_S), g193 s = some (r, s') → zyR X d 193 0 [some (.ref (43 + 3)), none, none] [] s (zyE (some (.int r)) s')) (hg194 : ∀  (s : zy_S) (r : Int32) (s' : zy_S), g194 s = some (r, s') → zyR X d 194 0 [some (.ref (43 + 3)), none, none, none] [] s (zyE (some (.int r)) s')) (hg195 : ∀  (s : zy_S) (r : Int32) (s' : zy_S), g195 s = some (r, s') → zyR X d 195 0 [some (.ref (43 + 3)), none, none, none] [] s (zyE (some (.int r)) s')) (hg196 : ∀  (s : zy_S) (r : Int32) (s' : zy_S), g196 s = some (r, s') → zyR X d 196 0 [some (.ref (43 + 3)), none, none, none] [] s (zyE (some (.int r)) s')) (hg197 : ∀  (s : zy_S) (r : Int32) (s' : zy_S), g197 s = some (r, s') → zyR X d 197 0 [some (.ref (43 + 3)), none, none, none, none] [] s (zyE (some (.int r)) s')) (hk5 : ∀ (x1 : Int32) (s : zy_S) (r : Int32) (s' : zy_S), k5 x1 s = some (r, s') → zyR X (d + 1) 192 5 [some (.ref (43 + 3)), some (.int x1), none] [] s (zyE (some (.int r)) s')) {y0 : Int32} {s : zy_S} {r : Int32} {s' : zy_S}  (h : zyF192_32 g192 g193 g194 g195 g196 g197 k5 y0 s = some (r, s')) : zyR X (d + 1) 192 32 [some (.ref (43 + 3)), none, none] [.int y0] s (zyE (some (.int r)) s') := by
  unfold zyF192_32 at h
  refine zy_23 rfl rfl (show zyR _ _ _ _ [some (.ref (43 + 3)), some (.int y0), none] [] _ _ from ?_)
  refine zy_6 rfl (show zyR _ _ _ _ [some (.ref (43 + 3)), some (.int y0), none] [] _ _ from ?_)
  exact zy_sub (show zy_le [some (.ref (43 + 3)), some (.int y0), none] [some (.ref (43 + 3)), some (.int y0), none] from ⟨rfl, ⟨rfl, trivial⟩⟩) (hk5 y0 s _ _ h)
noncomputable def zyF192_27 (g192 : zy_S → Option (Int32 × zy_S)) (g193 : zy_S → Option (Int32 × zy_S)) (g194 : zy_S → Option (Int32 × zy_S)) (g195 : zy_S → Option (Int32 × zy_S)) (g196 : zy_S → Option (Int32 × zy_S)) (g197 : zy_S → Option (Int32 × zy_S)) (k5 : Int32 → zy_S → Option (Int32 × zy_S))  (s : zy_S) : Option (Int32 × zy_S) :=
zyF192_32 g192 g193 g194 g195 g196 g197 k5 (1 : Int32) s
theorem zyC192_27 {X : zx_X} {d : Nat} {g192 : zy_S → Option (Int32 × zy_S)} {g193 : zy_S → Option (Int32 × zy_S)} {g194 : zy_S → Option (Int32 × zy_S)} {g195 : zy_S → Option (Int32 × zy_S)} {g196 : zy_S → Option (Int32 × zy_S)} {g197 : zy_S → Option (Int32 × zy_S)} {k5 : Int32 → zy_S → Option (Int32 × zy_S)} (hd : 2 ≤ d) (hg192 : ∀  (s : zy_S) (r : Int32) (s' : zy_S), g192 s = some (r, s') → zyR X d 192 0 [some (.ref (43 + 3)), none, none] [] s (zyE (some (.int r)) s')) (hg193 : ∀  (s : zy_S) (r : Int32) (s' : zy_S), g193 s = some (r, s') → zyR X d 193 0 [some (.ref (43 + 3)), none, none] [] s (zyE (some (.int r)) s')) (hg194 : ∀  (s : zy_S) (r : Int32) (s' : zy_S), g194 s = some (r, s') → zyR X d 194 0 [some (.ref (43 + 3)), none, none, none] [] s (zyE (some (.int r)) s')) (hg195 : ∀  (s : zy_S) (r : Int32) (s' : zy_S), g195 s = some (r, s') → zyR X d 195 0 [some (.ref (43 + 3)), none, none, none] [] s (zyE (some (.int r)) s')) (hg196 : ∀  (s : zy_S) (r : Int32) (s' : zy_S), g196 s = some (r, s') → zyR X d 196 0 [some (.ref (43 + 3)), none, none, none] [] s (zyE (some (.int r)) s')) (hg197 : ∀  (s : zy_S) (r : Int32) (s' : zy_S), g197 s = some (r, s') → zyR X d 197 0 [some (.ref (43 + 3)), none, none, none, none] [] s (zyE (some (.int r)) s')) (hk5 : ∀ (x1 : Int32) (s : zy_S) (r : Int32) (s' : zy_S), k5 x1 s = some (r, s') → zyR X (d + 1) 192 5 [some (.ref (43 + 3)), some (.int x1), none] [] s (zyE (some (.int r)) s'))  {s : zy_S} {r : Int32} {s' : zy_S}  (h : zyF192_27 g192 g193 g194 g195 g196 g197 k5 s = some (r, s')) : zyR X (d + 1) 192 27 [some (.ref (43 + 3)), none, none] [] s (zyE (some (.int r)) s') := by
  unfold zyF192_27 at h
  refine zy_3 rfl rfl (show zyR _ _ _ _ [some (.ref (43 + 3)), none, none] [.int (1 : Int32)] _ _ from ?_)
  refine zy_6 rfl (show zyR _ _ _ _ [some (.ref (43 + 3)), none, none] [.int (1 : Int32)] _ _ from ?_)
  exact zy_sub (show zy_le [some (.ref (43 + 3)), none, none] [some (.ref (43 + 3)), none, none] from ⟨rfl, trivial⟩) (zyC192_32 hd hg192 hg193 hg194 hg195 hg196 hg197 hk5 h)
noncomputable def zyF192_5b (g192 : zy_S → Option (Int32 × zy_S)) (g193 : zy_S → Option (Int32 × zy_S)) (g194 : zy_S → Option (Int32 × zy_S)) (g195 : zy_S → Option (Int32 × zy_S)) (g196 : zy_S → Option (Int32 × zy_S)) (g197 : zy_S → Option (Int32 × zy_S)) (k5 : Int32 → zy_S → Option (Int32 × zy_S)) (x1 : Int32) (s : zy_S) : Option (Int32 × zy_S) :=
(zyF200 (124 : Int32) s).bind fun p1 =>
if p1.1 = 0 then
some (x1, p1.2)
else
(g193 p1.2).bind fun p2 =>
if x1 ≠ 0 then
zyF192_27 g192 g193 g194 g195 g196 g197 k5 p2.2
else
if p2.1 = 0 then
zyF192_32 g192 g193 g194 g195 g196 g197 k5 (0 : Int32) p2.2
else
zyF192_27 g192 g193 g194 g195 g196 g197 k5 p2.2
theorem zyC192_5b {X : zx_X} {d : Nat} {g192 : zy_S → Option (Int32 × zy_S)} {g193 : zy_S → Option (Int32 × zy_S)} {g194 : zy_S → Option (Int32 × zy_S)} {g195 : zy_S → Option (Int32 × zy_S)} {g196 : zy_S → Option (Int32 × zy_S)} {g197 : zy_S → Option (Int32 × zy_S)} {k5 : Int32 → zy_S → Option (Int32 × zy_S)} (hd : 2 ≤ d) (hg192 : ∀  (s : zy_S) (r : Int32) (s' : zy_S), g192 s = some (r, s') → zyR X d 192 0 [some (.ref (43 + 3)), none, none] [] s (zyE (some (.int r)) s')) (hg193 : ∀  (s : zy_S) (r : Int32) (s' : zy_S), g193 s = some (r, s') → zyR X d 193 0 [some (.ref (43 + 3)), none, none] [] s (zyE (some (.int r)) s')) (hg194 : ∀  (s : zy_S) (r : Int32) (s' : zy_S), g194 s = some (r, s') → zyR X d 194 0 [some (.ref (43 + 3)), none, none, none] [] s (zyE (some (.int r)) s')) (hg195 : ∀  (s : zy_S) (r : Int32) (s' : zy_S), g195 s = some (r, s') → zyR X d 195 0 [some (.ref (43 + 3)), none, none, none] [] s (zyE (some (.int r)) s')) (hg196 : ∀  (s : zy_S) (r : Int32) (s' : zy_S), g196 s = some (r, s') → zyR X d 196 0 [some (.ref (43 + 3)), none, none, none] [] s (zyE (some (.int r)) s')) (hg197 : ∀  (s : zy_S) (r : Int32) (s' : zy_S), g197 s = some (r, s') → zyR X d 197 0 [some (.ref (43 + 3)), none, none, none, none] [] s (zyE (some (.int r)) s')) (hk5 : ∀ (x1 : Int32) (s : zy_S) (r : Int32) (s' : zy_S), k5 x1 s = some (r, s') → zyR X (d + 1) 192 5 [some (.ref (43 + 3)), some (.int x1), none] [] s (zyE (some (.int r)) s')) {x1 : Int32} {s : zy_S} {r : Int32} {s' : zy_S}  (h : zyF192_5b g192 g193 g194 g195 g196 g197 k5 x1 s = some (r, s')) : zyR X (d + 1) 192 5 [some (.ref (43 + 3)), some (.int x1), none] [] s (zyE (some (.int r)) s') := by
  unfold zyF192_5b at h
  refine zy_0 rfl rfl (show zyR _ _ _ _ [some (.ref (43 + 3)), some (.int x1), none] [.ref (43 + 3)] _ _ from ?_)
  refine zy_3 rfl rfl (show zyR _ _ _ _ [some (.ref (43 + 3)), some (.int x1), none] [.int (124 : Int32), .ref (43 + 3)] _ _ from ?_)
  obtain ⟨p1, hp1, h⟩ := zy_bind h
  refine zy_5 (c := 43) (as := [.int (124 : Int32)]) (rest := []) (L := [some (.ref (43 + 3)), some (.int (124 : Int32))]) (d' := 2) rfl rfl rfl (Nat.le_of_ble_eq_true rfl) (by omega) rfl (Nat.le_of_ble_eq_true rfl) rfl rfl (zyC200 hp1) ?_
  show zyR _ _ _ _ [some (.ref (43 + 3)), some (.int x1), none] [.int p1.1] _ _
  refine zy_24_0 rfl (fun b5 => (show zyR _ _ _ _ [some (.ref (43 + 3)), some (.int x1), none] [] _ _ from ?_)) (fun b5 => (show zyR _ _ _ _ [some (.ref (43 + 3)), some (.int x1), none] [] _ _ from ?_))
  · replace h := zy_ifp h b5
    refine zy_2 rfl rfl (show zyR _ _ _ _ [some (.ref (43 + 3)), some (.int x1), none] [.int x1] _ _ from ?_)
    obtain ⟨rfl, rfl⟩ := zy_pi h
    exact zy_4 rfl ⟨rfl, rfl⟩
  · replace h := zy_ifn h b5
    refine zy_0 rfl rfl (show zyR _ _ _ _ [some (.ref (43 + 3)), some (.int x1), none] [.ref (43 + 3)] _ _ from ?_)
    obtain ⟨p2, hp2, h⟩ := zy_bind h
    refine zy_5 (c := 43) (as := []) (rest := []) (L := [some (.ref (43 + 3)), none, none]) (d' := d) rfl rfl rfl (Nat.le_of_ble_eq_true rfl) (by omega) rfl (Nat.le_of_ble_eq_true rfl) rfl rfl (hg193 p1.2 _ _ hp2) ?_
    show zyR _ _ _ _ [some (.ref (43 + 3)), some (.int x1), none] [.int p2.1] _ _
    refine zy_23 rfl rfl (show zyR _ _ _ _ [some (.ref (43 + 3)), some (.int x1), some (.int p2.1)] [] _ _ from ?_)
    refine zy_2 rfl rfl (show zyR _ _ _ _ [some (.ref (43 + 3)), some (.int x1), some (.int p2.1)] [.int x1] _ _ from ?_)
    refine zy_24_1 rfl (fun b4 => (show zyR _ _ _ _ [some (.ref (43 + 3)), some (.int x1), some (.int p2.1)] [] _ _ from ?_)) (fun b4 => (show zyR _ _ _ _ [some (.ref (43 + 3)), some (.int x1), some (.int p2.1)] [] _ _ from ?_))
    · replace h := zy_ifp h b4
      exact zy_sub (show zy_le [some (.ref (43 + 3)), none, none] [some (.ref (43 + 3)), some (.int x1), some (.int p2.1)] from ⟨rfl, trivial⟩) (zyC192_27 hd hg192 hg193 hg194 hg195 hg196 hg197 hk5 h)
    · replace h := zy_ifn h b4
      refine zy_2 rfl rfl (show zyR _ _ _ _ [some (.ref (43 + 3)), some (.int x1), some (.int p2.1)] [.int p2.1] _ _ from ?_)
      refine zy_24_0 rfl (fun b3 => (show zyR _ _ _ _ [some (.ref (43 + 3)), some (.int x1), some (.int p2.1)] [] _ _ from ?_)) (fun b3 => (show zyR _ _ _ _ [some (.ref (43 + 3)), some (.int x1), some (.int p2.1)] [] _ _ from ?_))
      · replace h := zy_ifp h b3
        refine zy_3 rfl rfl (show zyR _ _ _ _ [some (.ref (43 + 3)), some (.int x1), some (.int p2.1)] [.int (0 : Int32)] _ _ from ?_)
        exact zy_sub (show zy_le [some (.ref (43 + 3)), none, none] [some (.ref (43 + 3)), some (.int x1), some (.int p2.1)] from ⟨rfl, trivial⟩) (zyC192_32 hd hg192 hg193 hg194 hg195 hg196 hg197 hk5 h)
      · replace h := zy_ifn h b3
        exact zy_sub (show zy_le [some (.ref (43 + 3)), none, none] [some (.ref (43 + 3)), some (.int x1), some (.int p2.1)] from ⟨rfl, trivial⟩) (zyC192_27 hd hg192 hg193 hg194 hg195 hg196 hg197 hk5 h)
noncomputable def zyF192_5 (g192 : zy_S → Option (Int32 × zy_S)) (g193 : zy_S → Option (Int32 × zy_S)) (g194 : zy_S → Option (Int32 × zy_S)) (g195 : zy_S → Option (Int32 × zy_S)) (g196 : zy_S → Option (Int32 × zy_S)) (g197 : zy_S → Option (Int32 × zy_S))  (n : Nat) : Int32 → zy_S → Option (Int32 × zy_S) := Nat.rec (fun _ _ => none) (fun _ k5 => zyF192_5b g192 g193 g194 g195 g196 g197 k5) n
theorem zyC192_5 {X : zx_X} {d : Nat} {g192 : zy_S → Option (Int32 × zy_S)} {g193 : zy_S → Option (Int32 × zy_S)} {g194 : zy_S → Option (Int32 × zy_S)} {g195 : zy_S → Option (Int32 × zy_S)} {g196 : zy_S → Option (Int32 × zy_S)} {g197 : zy_S → Option (Int32 × zy_S)}  (hd : 2 ≤ d) (hg192 : ∀  (s : zy_S) (r : Int32) (s' : zy_S), g192 s = some (r, s') → zyR X d 192 0 [some (.ref (43 + 3)), none, none] [] s (zyE (some (.int r)) s')) (hg193 : ∀  (s : zy_S) (r : Int32) (s' : zy_S), g193 s = some (r, s') → zyR X d 193 0 [some (.ref (43 + 3)), none, none] [] s (zyE (some (.int r)) s')) (hg194 : ∀  (s : zy_S) (r : Int32) (s' : zy_S), g194 s = some (r, s') → zyR X d 194 0 [some (.ref (43 + 3)), none, none, none] [] s (zyE (some (.int r)) s')) (hg195 : ∀  (s : zy_S) (r : Int32) (s' : zy_S), g195 s = some (r, s') → zyR X d 195 0 [some (.ref (43 + 3)), none, none, none] [] s (zyE (some (.int r)) s')) (hg196 : ∀  (s : zy_S) (r : Int32) (s' : zy_S), g196 s = some (r, s') → zyR X d 196 0 [some (.ref (43 + 3)), none, none, none] [] s (zyE (some (.int r)) s')) (hg197 : ∀  (s : zy_S) (r : Int32) (s' : zy_S), g197 s = some (r, s') → zyR X d 197 0 [some (.ref (43 + 3)), none, none, none, none] [] s (zyE (some (.int r)) s'))  : ∀ (n : Nat) (x1 : Int32) (s : zy_S) (r : Int32) (s' : zy_S), zyF192_5 g192 g193 g194 g195 g196 g197 n x1 s = some (r, s') → zyR X (d + 1) 192 5 [some (.ref (43 + 3)), some (.int x1), none] [] s (zyE (some (.int r)) s')
  | 0, _ => by
    intro s r s'  h
    have h : (none : Option (Int32 × zy_S)) = some (r, s') := h
    cases h
  | n + 1, x1 => by
    intro s r s'  h
    exact zyC192_5b hd hg192 hg193 hg194 hg195 hg196 hg197 (k5 := zyF192_5 g192 g193 g194 g195 g196 g197 n) (fun x1 s r s'  h => zyC192_5 hd hg192 hg193 hg194 hg195 hg196 hg197 n x1 s r s'  h) h
noncomputable def zyF192_0 (g192 : zy_S → Option (Int32 × zy_S)) (g193 : zy_S → Option (Int32 × zy_S)) (g194 : zy_S → Option (Int32 × zy_S)) (g195 : zy_S → Option (Int32 × zy_S)) (g196 : zy_S → Option (Int32 × zy_S)) (g197 : zy_S → Option (Int32 × zy_S))   (s : zy_S) : Option (Int32 × zy_S) :=
(g193 s).bind fun p6 =>
zyF192_5 g192 g193 g194 g195 g196 g197 zy_fu p6.1 p6.2
theorem zyC192_0 {X : zx_X} {d : Nat} {g192 : zy_S → Option (Int32 × zy_S)} {g193 : zy_S → Option (Int32 × zy_S)} {g194 : zy_S → Option (Int32 × zy_S)} {g195 : zy_S → Option (Int32 × zy_S)} {g196 : zy_S → Option (Int32 × zy_S)} {g197 : zy_S → Option (Int32 × zy_S)}  (hd : 2 ≤ d) (hg192 : ∀  (s : zy_S) (r : Int32) (s' : zy_S), g192 s = some (r, s') → zyR X d 192 0 [some (.ref (43 + 3)), none, none] [] s (zyE (some (.int r)) s')) (hg193 : ∀  (s : zy_S) (r : Int32) (s' : zy_S), g193 s = some (r, s') → zyR X d 193 0 [some (.ref (43 + 3)), none, none] [] s (zyE (some (.int r)) s')) (hg194 : ∀  (s : zy_S) (r : Int32) (s' : zy_S), g194 s = some (r, s') → zyR X d 194 0 [some (.ref (43 + 3)), none, none, none] [] s (zyE (some (.int r)) s')) (hg195 : ∀  (s : zy_S) (r : Int32) (s' : zy_S), g195 s = some (r, s') → zyR X d 195 0 [some (.ref (43 + 3)), none, none, none] [] s (zyE (some (.int r)) s')) (hg196 : ∀  (s : zy_S) (r : Int32) (s' : zy_S), g196 s = some (r, s') → zyR X d 196 0 [some (.ref (43 + 3)), none, none, none] [] s (zyE (some (.int r)) s')) (hg197 : ∀  (s : zy_S) (r : Int32) (s' : zy_S), g197 s = some (r, s') → zyR X d 197 0 [some (.ref (43 + 3)), none, none, none, none] [] s (zyE (some (.int r)) s'))   {s : zy_S} {r : Int32} {s' : zy_S}  (h : zyF192_0 g192 g193 g194 g195 g196 g197 s = some (r, s')) : zyR X (d + 1) 192 0 [some (.ref (43 + 3)), none, none] [] s (zyE (some (.int r)) s') := by
  unfold zyF192_0 at h
  refine zy_0 rfl rfl (show zyR _ _ _ _ [some (.ref (43 + 3)), none, none] [.ref (43 + 3)] _ _ from ?_)
  obtain ⟨p6, hp6, h⟩ := zy_bind h
  refine zy_5 (c := 43) (as := []) (rest := []) (L := [some (.ref (43 + 3)), none, none]) (d' := d) rfl rfl rfl (Nat.le_of_ble_eq_true rfl) (by omega) rfl (Nat.le_of_ble_eq_true rfl) rfl rfl (hg193 s _ _ hp6) ?_
  show zyR _ _ _ _ [some (.ref (43 + 3)), none, none] [.int p6.1] _ _
  refine zy_23 rfl rfl (show zyR _ _ _ _ [some (.ref (43 + 3)), some (.int p6.1), none] [] _ _ from ?_)
  exact zy_sub (show zy_le [some (.ref (43 + 3)), some (.int p6.1), none] [some (.ref (43 + 3)), some (.int p6.1), none] from ⟨rfl, ⟨rfl, trivial⟩⟩) (zyC192_5 hd hg192 hg193 hg194 hg195 hg196 hg197 zy_fu p6.1 p6.2 _ _ h)
/-! NineOpinionsModel.both()I, over what it calls -/
noncomputable def zyF193_32 (g192 : zy_S → Option (Int32 × zy_S)) (g193 : zy_S → Option (Int32 × zy_S)) (g194 : zy_S → Option (Int32 × zy_S)) (g195 : zy_S → Option (Int32 × zy_S)) (g196 : zy_S → Option (Int32 × zy_S)) (g197 : zy_S → Option (Int32 × zy_S)) (k5 : Int32 → zy_S → Option (Int32 × zy_S)) (y0 : Int32) (s : zy_S) : Option (Int32 × zy_S) :=
k5 y0 s
theorem zyC193_32 {X : zx_X} {d : Nat} {g192 : zy_S → Option (Int32 × zy_S)} {g193 : zy_S → Option (Int32 × zy_S)} {g194 : zy_S → Option (Int32 × zy_S)} {g195 : zy_S → Option (Int32 × zy_S)} {g196 : zy_S → Option (Int32 × zy_S)} {g197 : zy_S → Option (Int32 × zy_S)} {k5 : Int32 → zy_S → Option (Int32 × zy_S)} (hd : 2 ≤ d) (hg192 : ∀  (s : zy_S) (r : Int32) (s' : zy_S), g192 s = some (r, s') → zyR X d 192 0 [some (.ref (43 + 3)), none, none] [] s (zyE (some (.int r)) s')) (hg193 : ∀  (s : zy_S) (r : Int32) (s' : zy_S), g193 s = some (r, s') → zyR X d 193 0 [some (.ref (43 + 3)), none, none] [] s (zyE (some (.int r)) s')) (hg194 : ∀  (s : zy_S) (r : Int32) (s' : zy_S), g194 s = some (r, s') → zyR X d 194 0 [some (.ref (43 + 3)), none, none, none] [] s (zyE (some (.int r)) s')) (hg195 : ∀  (s : zy_S) (r : Int32) (s' : zy_S), g195 s = some (r, s') → zyR X d 195 0 [some (.ref (43 + 3)), none, none, none] [] s (zyE (some (.int r)) s')) (hg196 : ∀  (s : zy_S) (r : Int32) (s' : zy_S), g196 s = some (r, s') → zyR X d 196 0 [some (.ref (43 + 3)), none, none, none] [] s (zyE (some (.int r)) s')) (hg197 : ∀  (s : zy_S) (r : Int32) (s' : zy_S), g197 s = some (r, s') → zyR X d 197 0 [some (.ref (43 + 3)), none, none, none, none] [] s (zyE (some (.int r)) s')) (hk5 : ∀ (x1 : Int32) (s : zy_S) (r : Int32) (s' : zy_S), k5 x1 s = some (r, s') → zyR X (d + 1) 193 5 [some (.ref (43 + 3)), some (.int x1), none] [] s (zyE (some (.int r)) s')) {y0 : Int32} {s : zy_S} {r : Int32} {s' : zy_S}  (h : zyF193_32 g192 g193 g194 g195 g196 g197 k5 y0 s = some (r, s')) : zyR X (d + 1) 193 32 [some (.ref (43 + 3)), none, none] [.int y0] s (zyE (some (.int r)) s') := by
  unfold zyF193_32 at h
  refine zy_23 rfl rfl (show zyR _ _ _ _ [some (.ref (43 + 3)), some (.int y0), none] [] _ _ from ?_)
  refine zy_6 rfl (show zyR _ _ _ _ [some (.ref (43 + 3)), some (.int y0), none] [] _ _ from ?_)
  exact zy_sub (show zy_le [some (.ref (43 + 3)), some (.int y0), none] [some (.ref (43 + 3)), some (.int y0), none] from ⟨rfl, ⟨rfl, trivial⟩⟩) (hk5 y0 s _ _ h)
noncomputable def zyF193_31 (g192 : zy_S → Option (Int32 × zy_S)) (g193 : zy_S → Option (Int32 × zy_S)) (g194 : zy_S → Option (Int32 × zy_S)) (g195 : zy_S → Option (Int32 × zy_S)) (g196 : zy_S → Option (Int32 × zy_S)) (g197 : zy_S → Option (Int32 × zy_S)) (k5 : Int32 → zy_S → Option (Int32 × zy_S))  (s : zy_S) : Option (Int32 × zy_S) :=
zyF193_32 g192 g193 g194 g195 g196 g197 k5 (0 : Int32) s
theorem zyC193_31 {X : zx_X} {d : Nat} {g192 : zy_S → Option (Int32 × zy_S)} {g193 : zy_S → Option (Int32 × zy_S)} {g194 : zy_S → Option (Int32 × zy_S)} {g195 : zy_S → Option (Int32 × zy_S)} {g196 : zy_S → Option (Int32 × zy_S)} {g197 : zy_S → Option (Int32 × zy_S)} {k5 : Int32 → zy_S → Option (Int32 × zy_S)} (hd : 2 ≤ d) (hg192 : ∀  (s : zy_S) (r : Int32) (s' : zy_S), g192 s = some (r, s') → zyR X d 192 0 [some (.ref (43 + 3)), none, none] [] s (zyE (some (.int r)) s')) (hg193 : ∀  (s : zy_S) (r : Int32) (s' : zy_S), g193 s = some (r, s') → zyR X d 193 0 [some (.ref (43 + 3)), none, none] [] s (zyE (some (.int r)) s')) (hg194 : ∀  (s : zy_S) (r : Int32) (s' : zy_S), g194 s = some (r, s') → zyR X d 194 0 [some (.ref (43 + 3)), none, none, none] [] s (zyE (some (.int r)) s')) (hg195 : ∀  (s : zy_S) (r : Int32) (s' : zy_S), g195 s = some (r, s') → zyR X d 195 0 [some (.ref (43 + 3)), none, none, none] [] s (zyE (some (.int r)) s')) (hg196 : ∀  (s : zy_S) (r : Int32) (s' : zy_S), g196 s = some (r, s') → zyR X d 196 0 [some (.ref (43 + 3)), none, none, none] [] s (zyE (some (.int r)) s')) (hg197 : ∀  (s : zy_S) (r : Int32) (s' : zy_S), g197 s = some (r, s') → zyR X d 197 0 [some (.ref (43 + 3)), none, none, none, none] [] s (zyE (some (.int r)) s')) (hk5 : ∀ (x1 : Int32) (s : zy_S) (r : Int32) (s' : zy_S), k5 x1 s = some (r, s') → zyR X (d + 1) 193 5 [some (.ref (43 + 3)), some (.int x1), none] [] s (zyE (some (.int r)) s'))  {s : zy_S} {r : Int32} {s' : zy_S}  (h : zyF193_31 g192 g193 g194 g195 g196 g197 k5 s = some (r, s')) : zyR X (d + 1) 193 31 [some (.ref (43 + 3)), none, none] [] s (zyE (some (.int r)) s') := by
  unfold zyF193_31 at h
  refine zy_3 rfl rfl (show zyR _ _ _ _ [some (.ref (43 + 3)), none, none] [.int (0 : Int32)] _ _ from ?_)
  exact zy_sub (show zy_le [some (.ref (43 + 3)), none, none] [some (.ref (43 + 3)), none, none] from ⟨rfl, trivial⟩) (zyC193_32 hd hg192 hg193 hg194 hg195 hg196 hg197 hk5 h)
noncomputable def zyF193_5b (g192 : zy_S → Option (Int32 × zy_S)) (g193 : zy_S → Option (Int32 × zy_S)) (g194 : zy_S → Option (Int32 × zy_S)) (g195 : zy_S → Option (Int32 × zy_S)) (g196 : zy_S → Option (Int32 × zy_S)) (g197 : zy_S → Option (Int32 × zy_S)) (k5 : Int32 → zy_S → Option (Int32 × zy_S)) (x1 : Int32) (s : zy_S) : Option (Int32 × zy_S) :=
(zyF200 (38 : Int32) s).bind fun p1 =>
if p1.1 = 0 then
some (x1, p1.2)
else
(g194 p1.2).bind fun p2 =>
if x1 = 0 then
zyF193_31 g192 g193 g194 g195 g196 g197 k5 p2.2
else
if p2.1 = 0 then
zyF193_31 g192 g193 g194 g195 g196 g197 k5 p2.2
else
zyF193_32 g192 g193 g194 g195 g196 g197 k5 (1 : Int32) p2.2
theorem zyC193_5b {X : zx_X} {d : Nat} {g192 : zy_S → Option (Int32 × zy_S)} {g193 : zy_S → Option (Int32 × zy_S)} {g194 : zy_S → Option (Int32 × zy_S)} {g195 : zy_S → Option (Int32 × zy_S)} {g196 : zy_S → Option (Int32 × zy_S)} {g197 : zy_S → Option (Int32 × zy_S)} {k5 : Int32 → zy_S → Option (Int32 × zy_S)} (hd : 2 ≤ d) (hg192 : ∀  (s : zy_S) (r : Int32) (s' : zy_S), g192 s = some (r, s') → zyR X d 192 0 [some (.ref (43 + 3)), none, none] [] s (zyE (some (.int r)) s')) (hg193 : ∀  (s : zy_S) (r : Int32) (s' : zy_S), g193 s = some (r, s') → zyR X d 193 0 [some (.ref (43 + 3)), none, none] [] s (zyE (some (.int r)) s')) (hg194 : ∀  (s : zy_S) (r : Int32) (s' : zy_S), g194 s = some (r, s') → zyR X d 194 0 [some (.ref (43 + 3)), none, none, none] [] s (zyE (some (.int r)) s')) (hg195 : ∀  (s : zy_S) (r : Int32) (s' : zy_S), g195 s = some (r, s') → zyR X d 195 0 [some (.ref (43 + 3)), none, none, none] [] s (zyE (some (.int r)) s')) (hg196 : ∀  (s : zy_S) (r : Int32) (s' : zy_S), g196 s = some (r, s') → zyR X d 196 0 [some (.ref (43 + 3)), none, none, none] [] s (zyE (some (.int r)) s')) (hg197 : ∀  (s : zy_S) (r : Int32) (s' : zy_S), g197 s = some (r, s') → zyR X d 197 0 [some (.ref (43 + 3)), none, none, none, none] [] s (zyE (some (.int r)) s')) (hk5 : ∀ (x1 : Int32) (s : zy_S) (r : Int32) (s' : zy_S), k5 x1 s = some (r, s') → zyR X (d + 1) 193 5 [some (.ref (43 + 3)), some (.int x1), none] [] s (zyE (some (.int r)) s')) {x1 : Int32} {s : zy_S} {r : Int32} {s' : zy_S}  (h : zyF193_5b g192 g193 g194 g195 g196 g197 k5 x1 s = some (r, s')) : zyR X (d + 1) 193 5 [some (.ref (43 + 3)), some (.int x1), none] [] s (zyE (some (.int r)) s') := by
  unfold zyF193_5b at h
  refine zy_0 rfl rfl (show zyR _ _ _ _ [some (.ref (43 + 3)), some (.int x1), none] [.ref (43 + 3)] _ _ from ?_)
  refine zy_3 rfl rfl (show zyR _ _ _ _ [some (.ref (43 + 3)), some (.int x1), none] [.int (38 : Int32), .ref (43 + 3)] _ _ from ?_)
  obtain ⟨p1, hp1, h⟩ := zy_bind h
  refine zy_5 (c := 43) (as := [.int (38 : Int32)]) (rest := []) (L := [some (.ref (43 + 3)), some (.int (38 : Int32))]) (d' := 2) rfl rfl rfl (Nat.le_of_ble_eq_true rfl) (by omega) rfl (Nat.le_of_ble_eq_true rfl) rfl rfl (zyC200 hp1) ?_
  show zyR _ _ _ _ [some (.ref (43 + 3)), some (.int x1), none] [.int p1.1] _ _
  refine zy_24_0 rfl (fun b5 => (show zyR _ _ _ _ [some (.ref (43 + 3)), some (.int x1), none] [] _ _ from ?_)) (fun b5 => (show zyR _ _ _ _ [some (.ref (43 + 3)), some (.int x1), none] [] _ _ from ?_))
  · replace h := zy_ifp h b5
    refine zy_2 rfl rfl (show zyR _ _ _ _ [some (.ref (43 + 3)), some (.int x1), none] [.int x1] _ _ from ?_)
    obtain ⟨rfl, rfl⟩ := zy_pi h
    exact zy_4 rfl ⟨rfl, rfl⟩
  · replace h := zy_ifn h b5
    refine zy_0 rfl rfl (show zyR _ _ _ _ [some (.ref (43 + 3)), some (.int x1), none] [.ref (43 + 3)] _ _ from ?_)
    obtain ⟨p2, hp2, h⟩ := zy_bind h
    refine zy_5 (c := 43) (as := []) (rest := []) (L := [some (.ref (43 + 3)), none, none, none]) (d' := d) rfl rfl rfl (Nat.le_of_ble_eq_true rfl) (by omega) rfl (Nat.le_of_ble_eq_true rfl) rfl rfl (hg194 p1.2 _ _ hp2) ?_
    show zyR _ _ _ _ [some (.ref (43 + 3)), some (.int x1), none] [.int p2.1] _ _
    refine zy_23 rfl rfl (show zyR _ _ _ _ [some (.ref (43 + 3)), some (.int x1), some (.int p2.1)] [] _ _ from ?_)
    refine zy_2 rfl rfl (show zyR _ _ _ _ [some (.ref (43 + 3)), some (.int x1), some (.int p2.1)] [.int x1] _ _ from ?_)
    refine zy_24_0 rfl (fun b4 => (show zyR _ _ _ _ [some (.ref (43 + 3)), some (.int x1), some (.int p2.1)] [] _ _ from ?_)) (fun b4 => (show zyR _ _ _ _ [some (.ref (43 + 3)), some (.int x1), some (.int p2.1)] [] _ _ from ?_))
    · replace h := zy_ifp h b4
      exact zy_sub (show zy_le [some (.ref (43 + 3)), none, none] [some (.ref (43 + 3)), some (.int x1), some (.int p2.1)] from ⟨rfl, trivial⟩) (zyC193_31 hd hg192 hg193 hg194 hg195 hg196 hg197 hk5 h)
    · replace h := zy_ifn h b4
      refine zy_2 rfl rfl (show zyR _ _ _ _ [some (.ref (43 + 3)), some (.int x1), some (.int p2.1)] [.int p2.1] _ _ from ?_)
      refine zy_24_0 rfl (fun b3 => (show zyR _ _ _ _ [some (.ref (43 + 3)), some (.int x1), some (.int p2.1)] [] _ _ from ?_)) (fun b3 => (show zyR _ _ _ _ [some (.ref (43 + 3)), some (.int x1), some (.int p2.1)] [] _ _ from ?_))
      · replace h := zy_ifp h b3
        exact zy_sub (show zy_le [some (.ref (43 + 3)), none, none] [some (.ref (43 + 3)), some (.int x1), some (.int p2.1)] from ⟨rfl, trivial⟩) (zyC193_31 hd hg192 hg193 hg194 hg195 hg196 hg197 hk5 h)
      · replace h := zy_ifn h b3
        refine zy_3 rfl rfl (show zyR _ _ _ _ [some (.ref (43 + 3)), some (.int x1), some (.int p2.1)] [.int (1 : Int32)] _ _ from ?_)
        refine zy_6 rfl (show zyR _ _ _ _ [some (.ref (43 + 3)), some (.int x1), some (.int p2.1)] [.int (1 : Int32)] _ _ from ?_)
        exact zy_sub (show zy_le [some (.ref (43 + 3)), none, none] [some (.ref (43 + 3)), some (.int x1), some (.int p2.1)] from ⟨rfl, trivial⟩) (zyC193_32 hd hg192 hg193 hg194 hg195 hg196 hg197 hk5 h)
noncomputable def zyF193_5 (g192 : zy_S → Option (Int32 × zy_S)) (g193 : zy_S → Option (Int32 × zy_S)) (g194 : zy_S → Option (Int32 × zy_S)) (g195 : zy_S → Option (Int32 × zy_S)) (g196 : zy_S → Option (Int32 × zy_S)) (g197 : zy_S → Option (Int32 × zy_S))  (n : Nat) : Int32 → zy_S → Option (Int32 × zy_S) := Nat.rec (fun _ _ => none) (fun _ k5 => zyF193_5b g192 g193 g194 g195 g196 g197 k5) n
theorem zyC193_5 {X : zx_X} {d : Nat} {g192 : zy_S → Option (Int32 × zy_S)} {g193 : zy_S → Option (Int32 × zy_S)} {g194 : zy_S → Option (Int32 × zy_S)} {g195 : zy_S → Option (Int32 × zy_S)} {g196 : zy_S → Option (Int32 × zy_S)} {g197 : zy_S → Option (Int32 × zy_S)}  (hd : 2 ≤ d) (hg192 : ∀  (s : zy_S) (r : Int32) (s' : zy_S), g192 s = some (r, s') → zyR X d 192 0 [some (.ref (43 + 3)), none, none] [] s (zyE (some (.int r)) s')) (hg193 : ∀  (s : zy_S) (r : Int32) (s' : zy_S), g193 s = some (r, s') → zyR X d 193 0 [some (.ref (43 + 3)), none, none] [] s (zyE (some (.int r)) s')) (hg194 : ∀  (s : zy_S) (r : Int32) (s' : zy_S), g194 s = some (r, s') → zyR X d 194 0 [some (.ref (43 + 3)), none, none, none] [] s (zyE (some (.int r)) s')) (hg195 : ∀  (s : zy_S) (r : Int32) (s' : zy_S), g195 s = some (r, s') → zyR X d 195 0 [some (.ref (43 + 3)), none, none, none] [] s (zyE (some (.int r)) s')) (hg196 : ∀  (s : zy_S) (r : Int32) (s' : zy_S), g196 s = some (r, s') → zyR X d 196 0 [some (.ref (43 + 3)), none, none, none] [] s (zyE (some (.int r)) s')) (hg197 : ∀  (s : zy_S) (r : Int32) (s' : zy_S), g197 s = some (r, s') → zyR X d 197 0 [some (.ref (43 + 3)), none, none, none, none] [] s (zyE (some (.int r)) s'))  : ∀ (n : Nat) (x1 : Int32) (s : zy_S) (r : Int32) (s' : zy_S), zyF193_5 g192 g193 g194 g195 g196 g197 n x1 s = some (r, s') → zyR X (d + 1) 193 5 [some (.ref (43 + 3)), some (.int x1), none] [] s (zyE (some (.int r)) s')
  | 0, _ => by
    intro s r s'  h
    have h : (none : Option (Int32 × zy_S)) = some (r, s') := h
    cases h
  | n + 1, x1 => by
    intro s r s'  h
    exact zyC193_5b hd hg192 hg193 hg194 hg195 hg196 hg197 (k5 := zyF193_5 g192 g193 g194 g195 g196 g197 n) (fun x1 s r s'  h => zyC193_5 hd hg192 hg193 hg194 hg195 hg196 hg197 n x1 s r s'  h) h
noncomputable def zyF193_0 (g192 : zy_S → Option (Int32 × zy_S)) (g193 : zy_S → Option (Int32 × zy_S)) (g194 : zy_S → Option (Int32 × zy_S)) (g195 : zy_S → Option (Int32 × zy_S)) (g196 : zy_S → Option (Int32 × zy_S)) (g197 : zy_S → Option (Int32 × zy_S))   (s : zy_S) : Option (Int32 × zy_S) :=
(g194 s).bind fun p6 =>
zyF193_5 g192 g193 g194 g195 g196 g197 zy_fu p6.1 p6.2
theorem zyC193_0 {X : zx_X} {d : Nat} {g192 : zy_S → Option (Int32 × zy_S)} {g193 : zy_S → Option (Int32 × zy_S)} {g194 : zy_S → Option (Int32 × zy_S)} {g195 : zy_S → Option (Int32 × zy_S)} {g196 : zy_S → Option (Int32 × zy_S)} {g197 : zy_S → Option (Int32 × zy_S)}  (hd : 2 ≤ d) (hg192 : ∀  (s : zy_S) (r : Int32) (s' : zy_S), g192 s = some (r, s') → zyR X d 192 0 [some (.ref (43 + 3)), none, none] [] s (zyE (some (.int r)) s')) (hg193 : ∀  (s : zy_S) (r : Int32) (s' : zy_S), g193 s = some (r, s') → zyR X d 193 0 [some (.ref (43 + 3)), none, none] [] s (zyE (some (.int r)) s')) (hg194 : ∀  (s : zy_S) (r : Int32) (s' : zy_S), g194 s = some (r, s') → zyR X d 194 0 [some (.ref (43 + 3)), none, none, none] [] s (zyE (some (.int r)) s')) (hg195 : ∀  (s : zy_S) (r : Int32) (s' : zy_S), g195 s = some (r, s') → zyR X d 195 0 [some (.ref (43 + 3)), none, none, none] [] s (zyE (some (.int r)) s')) (hg196 : ∀  (s : zy_S) (r : Int32) (s' : zy_S), g196 s = some (r, s') → zyR X d 196 0 [some (.ref (43 + 3)), none, none, none] [] s (zyE (some (.int r)) s')) (hg197 : ∀  (s : zy_S) (r : Int32) (s' : zy_S), g197 s = some (r, s') → zyR X d 197 0 [some (.ref (43 + 3)), none, none, none, none] [] s (zyE (some (.int r)) s'))   {s : zy_S} {r : Int32} {s' : zy_S}  (h : zyF193_0 g192 g193 g194 g195 g196 g197 s = some (r, s')) : zyR X (d + 1) 193 0 [some (.ref (43 + 3)), none, none] [] s (zyE (some (.int r)) s') := by
  unfold zyF193_0 at h
  refine zy_0 rfl rfl (show zyR _ _ _ _ [some (.ref (43 + 3)), none, none] [.ref (43 + 3)] _ _ from ?_)
  obtain ⟨p6, hp6, h⟩ := zy_bind h
  refine zy_5 (c := 43) (as := []) (rest := []) (L := [some (.ref (43 + 3)), none, none, none]) (d' := d) rfl rfl rfl (Nat.le_of_ble_eq_true rfl) (by omega) rfl (Nat.le_of_ble_eq_true rfl) rfl rfl (hg194 s _ _ hp6) ?_
  show zyR _ _ _ _ [some (.ref (43 + 3)), none, none] [.int p6.1] _ _
  refine zy_23 rfl rfl (show zyR _ _ _ _ [some (.ref (43 + 3)), some (.int p6.1), none] [] _ _ from ?_)
  exact zy_sub (show zy_le [some (.ref (43 + 3)), some (.int p6.1), none] [some (.ref (43 + 3)), some (.int p6.1), none] from ⟨rfl, ⟨rfl, trivial⟩⟩) (zyC193_5 hd hg192 hg193 hg194 hg195 hg196 hg197 zy_fu p6.1 p6.2 _ _ h)
/-! NineOpinionsModel.compared()I, over what it calls -/
noncomputable def zyF194_37 (g192 : zy_S → Option (Int32 × zy_S)) (g193 : zy_S → Option (Int32 × zy_S)) (g194 : zy_S → Option (Int32 × zy_S)) (g195 : zy_S → Option (Int32 × zy_S)) (g196 : zy_S → Option (Int32 × zy_S)) (g197 : zy_S → Option (Int32 × zy_S))  (x1 : Int32) (x2 : Int32) (s : zy_S) : Option (Int32 × zy_S) :=
(g195 (zy_up s 43 13 ((s.1 43 13) + (1 : Int32)))).bind fun p1 =>
if x2 ≠ (60 : Int32) then
if x2 ≠ (61 : Int32) then
if x1 ≤ p1.1 then
some ((0 : Int32), p1.2)
else
some ((1 : Int32), p1.2)
else
if x1 ≠ p1.1 then
some ((0 : Int32), p1.2)
else
some ((1 : Int32), p1.2)
else
if p1.1 ≤ x1 then
some ((0 : Int32), p1.2)
else
some ((1 : Int32), p1.2)
theorem zyC194_37 {X : zx_X} {d : Nat} {g192 : zy_S → Option (Int32 × zy_S)} {g193 : zy_S → Option (Int32 × zy_S)} {g194 : zy_S → Option (Int32 × zy_S)} {g195 : zy_S → Option (Int32 × zy_S)} {g196 : zy_S → Option (Int32 × zy_S)} {g197 : zy_S → Option (Int32 × zy_S)}  (hd : 1 ≤ d) (hg192 : ∀  (s : zy_S) (r : Int32) (s' : zy_S), g192 s = some (r, s') → zyR X d 192 0 [some (.ref (43 + 3)), none, none] [] s (zyE (some (.int r)) s')) (hg193 : ∀  (s : zy_S) (r : Int32) (s' : zy_S), g193 s = some (r, s') → zyR X d 193 0 [some (.ref (43 + 3)), none, none] [] s (zyE (some (.int r)) s')) (hg194 : ∀  (s : zy_S) (r : Int32) (s' : zy_S), g194 s = some (r, s') → zyR X d 194 0 [some (.ref (43 + 3)), none, none, none] [] s (zyE (some (.int r)) s')) (hg195 : ∀  (s : zy_S) (r : Int32) (s' : zy_S), g195 s = some (r, s') → zyR X d 195 0 [some (.ref (43 + 3)), none, none, none] [] s (zyE (some (.int r)) s')) (hg196 : ∀  (s : zy_S) (r : Int32) (s' : zy_S), g196 s = some (r, s') → zyR X d 196 0 [some (.ref (43 + 3)), none, none, none] [] s (zyE (some (.int r)) s')) (hg197 : ∀  (s : zy_S) (r : Int32) (s' : zy_S), g197 s = some (r, s') → zyR X d 197 0 [some (.ref (43 + 3)), none, none, none, none] [] s (zyE (some (.int r)) s'))  {x1 : Int32} {x2 : Int32} {s : zy_S} {r : Int32} {s' : zy_S}  (h : zyF194_37 g192 g193 g194 g195 g196 g197 x1 x2 s = some (r, s')) : zyR X (d + 1) 194 37 [some (.ref (43 + 3)), some (.int x1), some (.int x2), none] [] s (zyE (some (.int r)) s') := by
  unfold zyF194_37 at h
  refine zy_0 rfl rfl (show zyR _ _ _ _ [some (.ref (43 + 3)), some (.int x1), some (.int x2), none] [.ref (43 + 3)] _ _ from ?_)
  refine zy_33 rfl rfl (show zyR _ _ _ _ [some (.ref (43 + 3)), some (.int x1), some (.int x2), none] [.ref (43 + 3), .ref (43 + 3)] _ _ from ?_)
  refine zy_1 (c := 43) rfl rfl rfl (show zyR _ _ _ _ [some (.ref (43 + 3)), some (.int x1), some (.int x2), none] [.int (s.1 43 13), .ref (43 + 3)] _ _ from ?_)
  refine zy_3 rfl rfl (show zyR _ _ _ _ [some (.ref (43 + 3)), some (.int x1), some (.int x2), none] [.int (1 : Int32), .int (s.1 43 13), .ref (43 + 3)] _ _ from ?_)
  refine zy_10 rfl (show zyR _ _ _ _ [some (.ref (43 + 3)), some (.int x1), some (.int x2), none] [.int ((s.1 43 13) + (1 : Int32)), .ref (43 + 3)] _ _ from ?_)
  refine zy_52 (c := 43) rfl rfl rfl (show zyR _ _ _ _ [some (.ref (43 + 3)), some (.int x1), some (.int x2), none] [] _ _ from ?_)
  refine zy_0 rfl rfl (show zyR _ _ _ _ [some (.ref (43 + 3)), some (.int x1), some (.int x2), none] [.ref (43 + 3)] _ _ from ?_)
  obtain ⟨p1, hp1, h⟩ := zy_bind h
  refine zy_5 (c := 43) (as := []) (rest := []) (L := [some (.ref (43 + 3)), none, none, none]) (d' := d) rfl rfl rfl (Nat.le_of_ble_eq_true rfl) (by omega) rfl (Nat.le_of_ble_eq_true rfl) rfl rfl (hg195 (zy_up s 43 13 ((s.1 43 13) + (1 : Int32))) _ _ hp1) ?_
  show zyR _ _ _ _ [some (.ref (43 + 3)), some (.int x1), some (.int x2), none] [.int p1.1] _ _
  refine zy_23 rfl rfl (show zyR _ _ _ _ [some (.ref (43 + 3)), some (.int x1), some (.int x2), some (.int p1.1)] [] _ _ from ?_)
  refine zy_2 rfl rfl (show zyR _ _ _ _ [some (.ref (43 + 3)), some (.int x1), some (.int x2), some (.int p1.1)] [.int x2] _ _ from ?_)
  refine zy_3 rfl rfl (show zyR _ _ _ _ [some (.ref (43 + 3)), some (.int x1), some (.int x2), some (.int p1.1)] [.int (60 : Int32), .int x2] _ _ from ?_)
  refine zy_25_1 rfl (fun b6 => (show zyR _ _ _ _ [some (.ref (43 + 3)), some (.int x1), some (.int x2), some (.int p1.1)] [] _ _ from ?_)) (fun b6 => (show zyR _ _ _ _ [some (.ref (43 + 3)), some (.int x1), some (.int x2), some (.int p1.1)] [] _ _ from ?_))
  · replace h := zy_ifp h b6
    refine zy_2 rfl rfl (show zyR _ _ _ _ [some (.ref (43 + 3)), some (.int x1), some (.int x2), some (.int p1.1)] [.int x2] _ _ from ?_)
    refine zy_3 rfl rfl (show zyR _ _ _ _ [some (.ref (43 + 3)), some (.int x1), some (.int x2), some (.int p1.1)] [.int (61 : Int32), .int x2] _ _ from ?_)
    refine zy_25_1 rfl (fun b4 => (show zyR _ _ _ _ [some (.ref (43 + 3)), some (.int x1), some (.int x2), some (.int p1.1)] [] _ _ from ?_)) (fun b4 => (show zyR _ _ _ _ [some (.ref (43 + 3)), some (.int x1), some (.int x2), some (.int p1.1)] [] _ _ from ?_))
    · replace h := zy_ifp h b4
      refine zy_2 rfl rfl (show zyR _ _ _ _ [some (.ref (43 + 3)), some (.int x1), some (.int x2), some (.int p1.1)] [.int x1] _ _ from ?_)
      refine zy_2 rfl rfl (show zyR _ _ _ _ [some (.ref (43 + 3)), some (.int x1), some (.int x2), some (.int p1.1)] [.int p1.1, .int x1] _ _ from ?_)
      refine zy_25_5 rfl (fun b2 => (show zyR _ _ _ _ [some (.ref (43 + 3)), some (.int x1), some (.int x2), some (.int p1.1)] [] _ _ from ?_)) (fun b2 => (show zyR _ _ _ _ [some (.ref (43 + 3)), some (.int x1), some (.int x2), some (.int p1.1)] [] _ _ from ?_))
      · replace h := zy_ifp h b2
        refine zy_3 rfl rfl (show zyR _ _ _ _ [some (.ref (43 + 3)), some (.int x1), some (.int x2), some (.int p1.1)] [.int (0 : Int32)] _ _ from ?_)
        obtain ⟨rfl, rfl⟩ := zy_pi h
        exact zy_4 rfl ⟨rfl, rfl⟩
      · replace h := zy_ifn h b2
        refine zy_3 rfl rfl (show zyR _ _ _ _ [some (.ref (43 + 3)), some (.int x1), some (.int x2), some (.int p1.1)] [.int (1 : Int32)] _ _ from ?_)
        refine zy_6 rfl (show zyR _ _ _ _ [some (.ref (43 + 3)), some (.int x1), some (.int x2), some (.int p1.1)] [.int (1 : Int32)] _ _ from ?_)
        obtain ⟨rfl, rfl⟩ := zy_pi h
        exact zy_4 rfl ⟨rfl, rfl⟩
    · replace h := zy_ifn h b4
      refine zy_2 rfl rfl (show zyR _ _ _ _ [some (.ref (43 + 3)), some (.int x1), some (.int x2), some (.int p1.1)] [.int x1] _ _ from ?_)
      refine zy_2 rfl rfl (show zyR _ _ _ _ [some (.ref (43 + 3)), some (.int x1), some (.int x2), some (.int p1.1)] [.int p1.1, .int x1] _ _ from ?_)
      refine zy_25_1 rfl (fun b3 => (show zyR _ _ _ _ [some (.ref (43 + 3)), some (.int x1), some (.int x2), some (.int p1.1)] [] _ _ from ?_)) (fun b3 => (show zyR _ _ _ _ [some (.ref (43 + 3)), some (.int x1), some (.int x2), some (.int p1.1)] [] _ _ from ?_))
      · replace h := zy_ifp h b3
        refine zy_3 rfl rfl (show zyR _ _ _ _ [some (.ref (43 + 3)), some (.int x1), some (.int x2), some (.int p1.1)] [.int (0 : Int32)] _ _ from ?_)
        obtain ⟨rfl, rfl⟩ := zy_pi h
        exact zy_4 rfl ⟨rfl, rfl⟩
      · replace h := zy_ifn h b3
        refine zy_6 rfl (show zyR _ _ _ _ [some (.ref (43 + 3)), some (.int x1), some (.int x2), some (.int p1.1)] [] _ _ from ?_)
        refine zy_3 rfl rfl (show zyR _ _ _ _ [some (.ref (43 + 3)), some (.int x1), some (.int x2), some (.int p1.1)] [.int (1 : Int32)] _ _ from ?_)
        refine zy_6 rfl (show zyR _ _ _ _ [some (.ref (43 + 3)), some (.int x1), some (.int x2), some (.int p1.1)] [.int (1 : Int32)] _ _ from ?_)
        obtain ⟨rfl, rfl⟩ := zy_pi h
        exact zy_4 rfl ⟨rfl, rfl⟩
  · replace h := zy_ifn h b6
    refine zy_2 rfl rfl (show zyR _ _ _ _ [some (.ref (43 + 3)), some (.int x1), some (.int x2), some (.int p1.1)] [.int x1] _ _ from ?_)
    refine zy_2 rfl rfl (show zyR _ _ _ _ [some (.ref (43 + 3)), some (.int x1), some (.int x2), some (.int p1.1)] [.int p1.1, .int x1] _ _ from ?_)
    refine zy_25_3 rfl (fun b5 => (show zyR _ _ _ _ [some (.ref (43 + 3)), some (.int x1), some (.int x2), some (.int p1.1)] [] _ _ from ?_)) (fun b5 => (show zyR _ _ _ _ [some (.ref (43 + 3)), some (.int x1), some (.int x2), some (.int p1.1)] [] _ _ from ?_))
    · replace h := zy_ifp h b5
      refine zy_3 rfl rfl (show zyR _ _ _ _ [some (.ref (43 + 3)), some (.int x1), some (.int x2), some (.int p1.1)] [.int (0 : Int32)] _ _ from ?_)
      obtain ⟨rfl, rfl⟩ := zy_pi h
      exact zy_4 rfl ⟨rfl, rfl⟩
    · replace h := zy_ifn h b5
      refine zy_6 rfl (show zyR _ _ _ _ [some (.ref (43 + 3)), some (.int x1), some (.int x2), some (.int p1.1)] [] _ _ from ?_)
      refine zy_3 rfl rfl (show zyR _ _ _ _ [some (.ref (43 + 3)), some (.int x1), some (.int x2), some (.int p1.1)] [.int (1 : Int32)] _ _ from ?_)
      refine zy_6 rfl (show zyR _ _ _ _ [some (.ref (43 + 3)), some (.int x1), some (.int x2), some (.int p1.1)] [.int (1 : Int32)] _ _ from ?_)
      obtain ⟨rfl, rfl⟩ := zy_pi h
      exact zy_4 rfl ⟨rfl, rfl⟩
noncomputable def zyF194_0 (g192 : zy_S → Option (Int32 × zy_S)) (g193 : zy_S → Option (Int32 × zy_S)) (g194 : zy_S → Option (Int32 × zy_S)) (g195 : zy_S → Option (Int32 × zy_S)) (g196 : zy_S → Option (Int32 × zy_S)) (g197 : zy_S → Option (Int32 × zy_S))   (s : zy_S) : Option (Int32 × zy_S) :=
(g195 s).bind fun p7 =>
(zyF198 p7.2).bind fun p8 =>
if 0 ≤ (p8.2.1 43 15) then
some (p7.1, p8.2)
else
if p8.1 = (60 : Int32) then
zyF194_37 g192 g193 g194 g195 g196 g197 p7.1 p8.1 p8.2
else
if p8.1 = (61 : Int32) then
zyF194_37 g192 g193 g194 g195 g196 g197 p7.1 p8.1 p8.2
else
if p8.1 = (62 : Int32) then
zyF194_37 g192 g193 g194 g195 g196 g197 p7.1 p8.1 p8.2
else
some (p7.1, p8.2)
theorem zyC194_0 {X : zx_X} {d : Nat} {g192 : zy_S → Option (Int32 × zy_S)} {g193 : zy_S → Option (Int32 × zy_S)} {g194 : zy_S → Option (Int32 × zy_S)} {g195 : zy_S → Option (Int32 × zy_S)} {g196 : zy_S → Option (Int32 × zy_S)} {g197 : zy_S → Option (Int32 × zy_S)}  (hd : 1 ≤ d) (hg192 : ∀  (s : zy_S) (r : Int32) (s' : zy_S), g192 s = some (r, s') → zyR X d 192 0 [some (.ref (43 + 3)), none, none] [] s (zyE (some (.int r)) s')) (hg193 : ∀  (s : zy_S) (r : Int32) (s' : zy_S), g193 s = some (r, s') → zyR X d 193 0 [some (.ref (43 + 3)), none, none] [] s (zyE (some (.int r)) s')) (hg194 : ∀  (s : zy_S) (r : Int32) (s' : zy_S), g194 s = some (r, s') → zyR X d 194 0 [some (.ref (43 + 3)), none, none, none] [] s (zyE (some (.int r)) s')) (hg195 : ∀  (s : zy_S) (r : Int32) (s' : zy_S), g195 s = some (r, s') → zyR X d 195 0 [some (.ref (43 + 3)), none, none, none] [] s (zyE (some (.int r)) s')) (hg196 : ∀  (s : zy_S) (r : Int32) (s' : zy_S), g196 s = some (r, s') → zyR X d 196 0 [some (.ref (43 + 3)), none, none, none] [] s (zyE (some (.int r)) s')) (hg197 : ∀  (s : zy_S) (r : Int32) (s' : zy_S), g197 s = some (r, s') → zyR X d 197 0 [some (.ref (43 + 3)), none, none, none, none] [] s (zyE (some (.int r)) s'))   {s : zy_S} {r : Int32} {s' : zy_S}  (h : zyF194_0 g192 g193 g194 g195 g196 g197 s = some (r, s')) : zyR X (d + 1) 194 0 [some (.ref (43 + 3)), none, none, none] [] s (zyE (some (.int r)) s') := by
  unfold zyF194_0 at h
  refine zy_0 rfl rfl (show zyR _ _ _ _ [some (.ref (43 + 3)), none, none, none] [.ref (43 + 3)] _ _ from ?_)
  obtain ⟨p7, hp7, h⟩ := zy_bind h
  refine zy_5 (c := 43) (as := []) (rest := []) (L := [some (.ref (43 + 3)), none, none, none]) (d' := d) rfl rfl rfl (Nat.le_of_ble_eq_true rfl) (by omega) rfl (Nat.le_of_ble_eq_true rfl) rfl rfl (hg195 s _ _ hp7) ?_
  show zyR _ _ _ _ [some (.ref (43 + 3)), none, none, none] [.int p7.1] _ _
  refine zy_23 rfl rfl (show zyR _ _ _ _ [some (.ref (43 + 3)), some (.int p7.1), none, none] [] _ _ from ?_)
  refine zy_0 rfl rfl (show zyR _ _ _ _ [some (.ref (43 + 3)), some (.int p7.1), none, none] [.ref (43 + 3)] _ _ from ?_)
  obtain ⟨p8, hp8, h⟩ := zy_bind h
  refine zy_5 (c := 43) (as := []) (rest := []) (L := [some (.ref (43 + 3))]) (d' := 1) rfl rfl rfl (Nat.le_of_ble_eq_true rfl) (by omega) rfl (Nat.le_of_ble_eq_true rfl) rfl rfl (zyC198 hp8) ?_
  show zyR _ _ _ _ [some (.ref (43 + 3)), some (.int p7.1), none, none] [.int p8.1] _ _
  refine zy_23 rfl rfl (show zyR _ _ _ _ [some (.ref (43 + 3)), some (.int p7.1), some (.int p8.1), none] [] _ _ from ?_)
  refine zy_0 rfl rfl (show zyR _ _ _ _ [some (.ref (43 + 3)), some (.int p7.1), some (.int p8.1), none] [.ref (43 + 3)] _ _ from ?_)
  refine zy_1 (c := 43) rfl rfl rfl (show zyR _ _ _ _ [some (.ref (43 + 3)), some (.int p7.1), some (.int p8.1), none] [.int (p8.2.1 43 15)] _ _ from ?_)
  refine zy_24_3 rfl (fun b12 => (show zyR _ _ _ _ [some (.ref (43 + 3)), some (.int p7.1), some (.int p8.1), none] [] _ _ from ?_)) (fun b12 => (show zyR _ _ _ _ [some (.ref (43 + 3)), some (.int p7.1), some (.int p8.1), none] [] _ _ from ?_))
  · replace h := zy_ifp h b12
    refine zy_2 rfl rfl (show zyR _ _ _ _ [some (.ref (43 + 3)), some (.int p7.1), some (.int p8.1), none] [.int p7.1] _ _ from ?_)
    obtain ⟨rfl, rfl⟩ := zy_pi h
    exact zy_4 rfl ⟨rfl, rfl⟩
  · replace h := zy_ifn h b12
    refine zy_2 rfl rfl (show zyR _ _ _ _ [some (.ref (43 + 3)), some (.int p7.1), some (.int p8.1), none] [.int p8.1] _ _ from ?_)
    refine zy_3 rfl rfl (show zyR _ _ _ _ [some (.ref (43 + 3)), some (.int p7.1), some (.int p8.1), none] [.int (60 : Int32), .int p8.1] _ _ from ?_)
    refine zy_25_0 rfl (fun b11 => (show zyR _ _ _ _ [some (.ref (43 + 3)), some (.int p7.1), some (.int p8.1), none] [] _ _ from ?_)) (fun b11 => (show zyR _ _ _ _ [some (.ref (43 + 3)), some (.int p7.1), some (.int p8.1), none] [] _ _ from ?_))
    · replace h := zy_ifp h b11
      exact zy_sub (show zy_le [some (.ref (43 + 3)), some (.int p7.1), some (.int p8.1), none] [some (.ref (43 + 3)), some (.int p7.1), some (.int p8.1), none] from ⟨rfl, ⟨rfl, ⟨rfl, trivial⟩⟩⟩) (zyC194_37 hd hg192 hg193 hg194 hg195 hg196 hg197 h)
    · replace h := zy_ifn h b11
      refine zy_2 rfl rfl (show zyR _ _ _ _ [some (.ref (43 + 3)), some (.int p7.1), some (.int p8.1), none] [.int p8.1] _ _ from ?_)
      refine zy_3 rfl rfl (show zyR _ _ _ _ [some (.ref (43 + 3)), some (.int p7.1), some (.int p8.1), none] [.int (61 : Int32), .int p8.1] _ _ from ?_)
      refine zy_25_0 rfl (fun b10 => (show zyR _ _ _ _ [some (.ref (43 + 3)), some (.int p7.1), some (.int p8.1), none] [] _ _ from ?_)) (fun b10 => (show zyR _ _ _ _ [some (.ref (43 + 3)), some (.int p7.1), some (.int p8.1), none] [] _ _ from ?_))
      · replace h := zy_ifp h b10
        exact zy_sub (show zy_le [some (.ref (43 + 3)), some (.int p7.1), some (.int p8.1), none] [some (.ref (43 + 3)), some (.int p7.1), some (.int p8.1), none] from ⟨rfl, ⟨rfl, ⟨rfl, trivial⟩⟩⟩) (zyC194_37 hd hg192 hg193 hg194 hg195 hg196 hg197 h)
      · replace h := zy_ifn h b10
        refine zy_2 rfl rfl (show zyR _ _ _ _ [some (.ref (43 + 3)), some (.int p7.1), some (.int p8.1), none] [.int p8.1] _ _ from ?_)
        refine zy_3 rfl rfl (show zyR _ _ _ _ [some (.ref (43 + 3)), some (.int p7.1), some (.int p8.1), none] [.int (62 : Int32), .int p8.1] _ _ from ?_)
        refine zy_25_0 rfl (fun b9 => (show zyR _ _ _ _ [some (.ref (43 + 3)), some (.int p7.1), some (.int p8.1), none] [] _ _ from ?_)) (fun b9 => (show zyR _ _ _ _ [some (.ref (43 + 3)), some (.int p7.1), some (.int p8.1), none] [] _ _ from ?_))
        · replace h := zy_ifp h b9
          exact zy_sub (show zy_le [some (.ref (43 + 3)), some (.int p7.1), some (.int p8.1), none] [some (.ref (43 + 3)), some (.int p7.1), some (.int p8.1), none] from ⟨rfl, ⟨rfl, ⟨rfl, trivial⟩⟩⟩) (zyC194_37 hd hg192 hg193 hg194 hg195 hg196 hg197 h)
        · replace h := zy_ifn h b9
          refine zy_2 rfl rfl (show zyR _ _ _ _ [some (.ref (43 + 3)), some (.int p7.1), some (.int p8.1), none] [.int p7.1] _ _ from ?_)
          obtain ⟨rfl, rfl⟩ := zy_pi h
          exact zy_4 rfl ⟨rfl, rfl⟩
end
section
/-! PART 41.25: methods as functions. Made by wip/v4/dcp.py. -/
/-! NineOpinionsModel.sums()I, over what it calls -/
noncomputable def zyF195_73 (g192 : zy_S → Option (Int32 × zy_S)) (g193 : zy_S → Option (Int32 × zy_S)) (g194 : zy_S → Option (Int32 × zy_S)) (g195 : zy_S → Option (Int32 × zy_S)) (g196 : zy_S → Option (Int32 × zy_S)) (g197 : zy_S → Option (Int32 × zy_S)) (k5 : Int32 → zy_S → Option (Int32 × zy_S)) (y0 : Int32) (s : zy_S) : Option (Int32 × zy_S) :=
k5 y0 s
theorem zyC195_73 {X : zx_X} {d : Nat} {g192 : zy_S → Option (Int32 × zy_S)} {g193 : zy_S → Option (Int32 × zy_S)} {g194 : zy_S → Option (Int32 × zy_S)} {g195 : zy_S → Option (Int32 × zy_S)} {g196 : zy_S → Option (Int32 × zy_S)} {g197 : zy_S → Option (Int32 × zy_S)} {k5 : Int32 → zy_S → Option (Int32 × zy_S)} (hd : 1 ≤ d) (hg192 : ∀  (s : zy_S) (r : Int32) (s' : zy_S), g192 s = some (r, s') → zyR X d 192 0 [some (.ref (43 + 3)), none, none] [] s (zyE (some (.int r)) s')) (hg193 : ∀  (s : zy_S) (r : Int32) (s' : zy_S), g193 s = some (r, s') → zyR X d 193 0 [some (.ref (43 + 3)), none, none] [] s (zyE (some (.int r)) s')) (hg194 : ∀  (s : zy_S) (r : Int32) (s' : zy_S), g194 s = some (r, s') → zyR X d 194 0 [some (.ref (43 + 3)), none, none, none] [] s (zyE (some (.int r)) s')) (hg195 : ∀  (s : zy_S) (r : Int32) (s' : zy_S), g195 s = some (r, s') → zyR X d 195 0 [some (.ref (43 + 3)), none, none, none] [] s (zyE (some (.int r)) s')) (hg196 : ∀  (s : zy_S) (r : Int32) (s' : zy_S), g196 s = some (r, s') → zyR X d 196 0 [some (.ref (43 + 3)), none, none, none] [] s (zyE (some (.int r)) s')) (hg197 : ∀  (s : zy_S) (r : Int32) (s' : zy_S), g197 s = some (r, s') → zyR X d 197 0 [some (.ref (43 + 3)), none, none, none, none] [] s (zyE (some (.int r)) s')) (hk5 : ∀ (x1 : Int32) (s : zy_S) (r : Int32) (s' : zy_S), k5 x1 s = some (r, s') → zyR X (d + 1) 195 5 [some (.ref (43 + 3)), some (.int x1), none, none] [] s (zyE (some (.int r)) s')) {y0 : Int32} {s : zy_S} {r : Int32} {s' : zy_S}  (h : zyF195_73 g192 g193 g194 g195 g196 g197 k5 y0 s = some (r, s')) : zyR X (d + 1) 195 73 [some (.ref (43 + 3)), none, none, none] [.int y0] s (zyE (some (.int r)) s') := by
  unfold zyF195_73 at h
  refine zy_23 rfl rfl (show zyR _ _ _ _ [some (.ref (43 + 3)), some (.int y0), none, none] [] _ _ from ?_)
  refine zy_6 rfl (show zyR _ _ _ _ [some (.ref (43 + 3)), some (.int y0), none, none] [] _ _ from ?_)
  exact zy_sub (show zy_le [some (.ref (43 + 3)), some (.int y0), none, none] [some (.ref (43 + 3)), some (.int y0), none, none] from ⟨rfl, ⟨rfl, trivial⟩⟩) (hk5 y0 s _ _ h)
noncomputable def zyF195_44 (g192 : zy_S → Option (Int32 × zy_S)) (g193 : zy_S → Option (Int32 × zy_S)) (g194 : zy_S → Option (Int32 × zy_S)) (g195 : zy_S → Option (Int32 × zy_S)) (g196 : zy_S → Option (Int32 × zy_S)) (g197 : zy_S → Option (Int32 × zy_S)) (k5 : Int32 → zy_S → Option (Int32 × zy_S)) (x1 : Int32) (y0 : Int32) (s : zy_S) : Option (Int32 × zy_S) :=
(g196 (zy_up s 43 13 ((s.1 43 13) + (1 : Int32)))).bind fun p1 =>
if y0 = 0 then
zyF195_73 g192 g193 g194 g195 g196 g197 k5 (x1 - p1.1) p1.2
else
zyF195_73 g192 g193 g194 g195 g196 g197 k5 (x1 + p1.1) p1.2
theorem zyC195_44 {X : zx_X} {d : Nat} {g192 : zy_S → Option (Int32 × zy_S)} {g193 : zy_S → Option (Int32 × zy_S)} {g194 : zy_S → Option (Int32 × zy_S)} {g195 : zy_S → Option (Int32 × zy_S)} {g196 : zy_S → Option (Int32 × zy_S)} {g197 : zy_S → Option (Int32 × zy_S)} {k5 : Int32 → zy_S → Option (Int32 × zy_S)} (hd : 1 ≤ d) (hg192 : ∀  (s : zy_S) (r : Int32) (s' : zy_S), g192 s = some (r, s') → zyR X d 192 0 [some (.ref (43 + 3)), none, none] [] s (zyE (some (.int r)) s')) (hg193 : ∀  (s : zy_S) (r : Int32) (s' : zy_S), g193 s = some (r, s') → zyR X d 193 0 [some (.ref (43 + 3)), none, none] [] s (zyE (some (.int r)) s')) (hg194 : ∀  (s : zy_S) (r : Int32) (s' : zy_S), g194 s = some (r, s') → zyR X d 194 0 [some (.ref (43 + 3)), none, none, none] [] s (zyE (some (.int r)) s')) (hg195 : ∀  (s : zy_S) (r : Int32) (s' : zy_S), g195 s = some (r, s') → zyR X d 195 0 [some (.ref (43 + 3)), none, none, none] [] s (zyE (some (.int r)) s')) (hg196 : ∀  (s : zy_S) (r : Int32) (s' : zy_S), g196 s = some (r, s') → zyR X d 196 0 [some (.ref (43 + 3)), none, none, none] [] s (zyE (some (.int r)) s')) (hg197 : ∀  (s : zy_S) (r : Int32) (s' : zy_S), g197 s = some (r, s') → zyR X d 197 0 [some (.ref (43 + 3)), none, none, none, none] [] s (zyE (some (.int r)) s')) (hk5 : ∀ (x1 : Int32) (s : zy_S) (r : Int32) (s' : zy_S), k5 x1 s = some (r, s') → zyR X (d + 1) 195 5 [some (.ref (43 + 3)), some (.int x1), none, none] [] s (zyE (some (.int r)) s')) {x1 : Int32} {y0 : Int32} {s : zy_S} {r : Int32} {s' : zy_S}  (h : zyF195_44 g192 g193 g194 g195 g196 g197 k5 x1 y0 s = some (r, s')) : zyR X (d + 1) 195 44 [some (.ref (43 + 3)), some (.int x1), none, none] [.int y0] s (zyE (some (.int r)) s') := by
  unfold zyF195_44 at h
  refine zy_23 rfl rfl (show zyR _ _ _ _ [some (.ref (43 + 3)), some (.int x1), some (.int y0), none] [] _ _ from ?_)
  refine zy_0 rfl rfl (show zyR _ _ _ _ [some (.ref (43 + 3)), some (.int x1), some (.int y0), none] [.ref (43 + 3)] _ _ from ?_)
  refine zy_33 rfl rfl (show zyR _ _ _ _ [some (.ref (43 + 3)), some (.int x1), some (.int y0), none] [.ref (43 + 3), .ref (43 + 3)] _ _ from ?_)
  refine zy_1 (c := 43) rfl rfl rfl (show zyR _ _ _ _ [some (.ref (43 + 3)), some (.int x1), some (.int y0), none] [.int (s.1 43 13), .ref (43 + 3)] _ _ from ?_)
  refine zy_3 rfl rfl (show zyR _ _ _ _ [some (.ref (43 + 3)), some (.int x1), some (.int y0), none] [.int (1 : Int32), .int (s.1 43 13), .ref (43 + 3)] _ _ from ?_)
  refine zy_10 rfl (show zyR _ _ _ _ [some (.ref (43 + 3)), some (.int x1), some (.int y0), none] [.int ((s.1 43 13) + (1 : Int32)), .ref (43 + 3)] _ _ from ?_)
  refine zy_52 (c := 43) rfl rfl rfl (show zyR _ _ _ _ [some (.ref (43 + 3)), some (.int x1), some (.int y0), none] [] _ _ from ?_)
  refine zy_0 rfl rfl (show zyR _ _ _ _ [some (.ref (43 + 3)), some (.int x1), some (.int y0), none] [.ref (43 + 3)] _ _ from ?_)
  obtain ⟨p1, hp1, h⟩ := zy_bind h
  refine zy_5 (c := 43) (as := []) (rest := []) (L := [some (.ref (43 + 3)), none, none, none]) (d' := d) rfl rfl rfl (Nat.le_of_ble_eq_true rfl) (by omega) rfl (Nat.le_of_ble_eq_true rfl) rfl rfl (hg196 (zy_up s 43 13 ((s.1 43 13) + (1 : Int32))) _ _ hp1) ?_
  show zyR _ _ _ _ [some (.ref (43 + 3)), some (.int x1), some (.int y0), none] [.int p1.1] _ _
  refine zy_23 rfl rfl (show zyR _ _ _ _ [some (.ref (43 + 3)), some (.int x1), some (.int y0), some (.int p1.1)] [] _ _ from ?_)
  refine zy_2 rfl rfl (show zyR _ _ _ _ [some (.ref (43 + 3)), some (.int x1), some (.int y0), some (.int p1.1)] [.int y0] _ _ from ?_)
  refine zy_24_0 rfl (fun b2 => (show zyR _ _ _ _ [some (.ref (43 + 3)), some (.int x1), some (.int y0), some (.int p1.1)] [] _ _ from ?_)) (fun b2 => (show zyR _ _ _ _ [some (.ref (43 + 3)), some (.int x1), some (.int y0), some (.int p1.1)] [] _ _ from ?_))
  · replace h := zy_ifp h b2
    refine zy_2 rfl rfl (show zyR _ _ _ _ [some (.ref (43 + 3)), some (.int x1), some (.int y0), some (.int p1.1)] [.int x1] _ _ from ?_)
    refine zy_2 rfl rfl (show zyR _ _ _ _ [some (.ref (43 + 3)), some (.int x1), some (.int y0), some (.int p1.1)] [.int p1.1, .int x1] _ _ from ?_)
    refine zy_11 rfl (show zyR _ _ _ _ [some (.ref (43 + 3)), some (.int x1), some (.int y0), some (.int p1.1)] [.int (x1 - p1.1)] _ _ from ?_)
    exact zy_sub (show zy_le [some (.ref (43 + 3)), none, none, none] [some (.ref (43 + 3)), some (.int x1), some (.int y0), some (.int p1.1)] from ⟨rfl, trivial⟩) (zyC195_73 hd hg192 hg193 hg194 hg195 hg196 hg197 hk5 h)
  · replace h := zy_ifn h b2
    refine zy_2 rfl rfl (show zyR _ _ _ _ [some (.ref (43 + 3)), some (.int x1), some (.int y0), some (.int p1.1)] [.int x1] _ _ from ?_)
    refine zy_2 rfl rfl (show zyR _ _ _ _ [some (.ref (43 + 3)), some (.int x1), some (.int y0), some (.int p1.1)] [.int p1.1, .int x1] _ _ from ?_)
    refine zy_10 rfl (show zyR _ _ _ _ [some (.ref (43 + 3)), some (.int x1), some (.int y0), some (.int p1.1)] [.int (x1 + p1.1)] _ _ from ?_)
    refine zy_6 rfl (show zyR _ _ _ _ [some (.ref (43 + 3)), some (.int x1), some (.int y0), some (.int p1.1)] [.int (x1 + p1.1)] _ _ from ?_)
    exact zy_sub (show zy_le [some (.ref (43 + 3)), none, none, none] [some (.ref (43 + 3)), some (.int x1), some (.int y0), some (.int p1.1)] from ⟨rfl, trivial⟩) (zyC195_73 hd hg192 hg193 hg194 hg195 hg196 hg197 hk5 h)
noncomputable def zyF195_30 (g192 : zy_S → Option (Int32 × zy_S)) (g193 : zy_S → Option (Int32 × zy_S)) (g194 : zy_S → Option (Int32 × zy_S)) (g195 : zy_S → Option (Int32 × zy_S)) (g196 : zy_S → Option (Int32 × zy_S)) (g197 : zy_S → Option (Int32 × zy_S)) (k5 : Int32 → zy_S → Option (Int32 × zy_S)) (x1 : Int32) (s : zy_S) : Option (Int32 × zy_S) :=
(zyF198 s).bind fun p3 =>
if p3.1 ≠ (43 : Int32) then
zyF195_44 g192 g193 g194 g195 g196 g197 k5 x1 (0 : Int32) p3.2
else
zyF195_44 g192 g193 g194 g195 g196 g197 k5 x1 (1 : Int32) p3.2
theorem zyC195_30 {X : zx_X} {d : Nat} {g192 : zy_S → Option (Int32 × zy_S)} {g193 : zy_S → Option (Int32 × zy_S)} {g194 : zy_S → Option (Int32 × zy_S)} {g195 : zy_S → Option (Int32 × zy_S)} {g196 : zy_S → Option (Int32 × zy_S)} {g197 : zy_S → Option (Int32 × zy_S)} {k5 : Int32 → zy_S → Option (Int32 × zy_S)} (hd : 1 ≤ d) (hg192 : ∀  (s : zy_S) (r : Int32) (s' : zy_S), g192 s = some (r, s') → zyR X d 192 0 [some (.ref (43 + 3)), none, none] [] s (zyE (some (.int r)) s')) (hg193 : ∀  (s : zy_S) (r : Int32) (s' : zy_S), g193 s = some (r, s') → zyR X d 193 0 [some (.ref (43 + 3)), none, none] [] s (zyE (some (.int r)) s')) (hg194 : ∀  (s : zy_S) (r : Int32) (s' : zy_S), g194 s = some (r, s') → zyR X d 194 0 [some (.ref (43 + 3)), none, none, none] [] s (zyE (some (.int r)) s')) (hg195 : ∀  (s : zy_S) (r : Int32) (s' : zy_S), g195 s = some (r, s') → zyR X d 195 0 [some (.ref (43 + 3)), none, none, none] [] s (zyE (some (.int r)) s')) (hg196 : ∀  (s : zy_S) (r : Int32) (s' : zy_S), g196 s = some (r, s') → zyR X d 196 0 [some (.ref (43 + 3)), none, none, none] [] s (zyE (some (.int r)) s')) (hg197 : ∀  (s : zy_S) (r : Int32) (s' : zy_S), g197 s = some (r, s') → zyR X d 197 0 [some (.ref (43 + 3)), none, none, none, none] [] s (zyE (some (.int r)) s')) (hk5 : ∀ (x1 : Int32) (s : zy_S) (r : Int32) (s' : zy_S), k5 x1 s = some (r, s') → zyR X (d + 1) 195 5 [some (.ref (43 + 3)), some (.int x1), none, none] [] s (zyE (some (.int r)) s')) {x1 : Int32} {s : zy_S} {r : Int32} {s' : zy_S}  (h : zyF195_30 g192 g193 g194 g195 g196 g197 k5 x1 s = some (r, s')) : zyR X (d + 1) 195 30 [some (.ref (43 + 3)), some (.int x1), none, none] [] s (zyE (some (.int r)) s') := by
  unfold zyF195_30 at h
  refine zy_0 rfl rfl (show zyR _ _ _ _ [some (.ref (43 + 3)), some (.int x1), none, none] [.ref (43 + 3)] _ _ from ?_)
  obtain ⟨p3, hp3, h⟩ := zy_bind h
  refine zy_5 (c := 43) (as := []) (rest := []) (L := [some (.ref (43 + 3))]) (d' := 1) rfl rfl rfl (Nat.le_of_ble_eq_true rfl) (by omega) rfl (Nat.le_of_ble_eq_true rfl) rfl rfl (zyC198 hp3) ?_
  show zyR _ _ _ _ [some (.ref (43 + 3)), some (.int x1), none, none] [.int p3.1] _ _
  refine zy_3 rfl rfl (show zyR _ _ _ _ [some (.ref (43 + 3)), some (.int x1), none, none] [.int (43 : Int32), .int p3.1] _ _ from ?_)
  refine zy_25_1 rfl (fun b4 => (show zyR _ _ _ _ [some (.ref (43 + 3)), some (.int x1), none, none] [] _ _ from ?_)) (fun b4 => (show zyR _ _ _ _ [some (.ref (43 + 3)), some (.int x1), none, none] [] _ _ from ?_))
  · replace h := zy_ifp h b4
    refine zy_3 rfl rfl (show zyR _ _ _ _ [some (.ref (43 + 3)), some (.int x1), none, none] [.int (0 : Int32)] _ _ from ?_)
    exact zy_sub (show zy_le [some (.ref (43 + 3)), some (.int x1), none, none] [some (.ref (43 + 3)), some (.int x1), none, none] from ⟨rfl, ⟨rfl, trivial⟩⟩) (zyC195_44 hd hg192 hg193 hg194 hg195 hg196 hg197 hk5 h)
  · replace h := zy_ifn h b4
    refine zy_3 rfl rfl (show zyR _ _ _ _ [some (.ref (43 + 3)), some (.int x1), none, none] [.int (1 : Int32)] _ _ from ?_)
    refine zy_6 rfl (show zyR _ _ _ _ [some (.ref (43 + 3)), some (.int x1), none, none] [.int (1 : Int32)] _ _ from ?_)
    exact zy_sub (show zy_le [some (.ref (43 + 3)), some (.int x1), none, none] [some (.ref (43 + 3)), some (.int x1), none, none] from ⟨rfl, ⟨rfl, trivial⟩⟩) (zyC195_44 hd hg192 hg193 hg194 hg195 hg196 hg197 hk5 h)
noncomputable def zyF195_5b (g192 : zy_S → Option (Int32 × zy_S)) (g193 : zy_S → Option (Int32 × zy_S)) (g194 : zy_S → Option (Int32 × zy_S)) (g195 : zy_S → Option (Int32 × zy_S)) (g196 : zy_S → Option (Int32 × zy_S)) (g197 : zy_S → Option (Int32 × zy_S)) (k5 : Int32 → zy_S → Option (Int32 × zy_S)) (x1 : Int32) (s : zy_S) : Option (Int32 × zy_S) :=
if 0 ≤ (s.1 43 15) then
some (x1, s)
else
(zyF198 s).bind fun p5 =>
if p5.1 = (43 : Int32) then
zyF195_30 g192 g193 g194 g195 g196 g197 k5 x1 p5.2
else
(zyF198 p5.2).bind fun p6 =>
if p6.1 ≠ (45 : Int32) then
some (x1, p6.2)
else
zyF195_30 g192 g193 g194 g195 g196 g197 k5 x1 p6.2
theorem zyC195_5b {X : zx_X} {d : Nat} {g192 : zy_S → Option (Int32 × zy_S)} {g193 : zy_S → Option (Int32 × zy_S)} {g194 : zy_S → Option (Int32 × zy_S)} {g195 : zy_S → Option (Int32 × zy_S)} {g196 : zy_S → Option (Int32 × zy_S)} {g197 : zy_S → Option (Int32 × zy_S)} {k5 : Int32 → zy_S → Option (Int32 × zy_S)} (hd : 1 ≤ d) (hg192 : ∀  (s : zy_S) (r : Int32) (s' : zy_S), g192 s = some (r, s') → zyR X d 192 0 [some (.ref (43 + 3)), none, none] [] s (zyE (some (.int r)) s')) (hg193 : ∀  (s : zy_S) (r : Int32) (s' : zy_S), g193 s = some (r, s') → zyR X d 193 0 [some (.ref (43 + 3)), none, none] [] s (zyE (some (.int r)) s')) (hg194 : ∀  (s : zy_S) (r : Int32) (s' : zy_S), g194 s = some (r, s') → zyR X d 194 0 [some (.ref (43 + 3)), none, none, none] [] s (zyE (some (.int r)) s')) (hg195 : ∀  (s : zy_S) (r : Int32) (s' : zy_S), g195 s = some (r, s') → zyR X d 195 0 [some (.ref (43 + 3)), none, none, none] [] s (zyE (some (.int r)) s')) (hg196 : ∀  (s : zy_S) (r : Int32) (s' : zy_S), g196 s = some (r, s') → zyR X d 196 0 [some (.ref (43 + 3)), none, none, none] [] s (zyE (some (.int r)) s')) (hg197 : ∀  (s : zy_S) (r : Int32) (s' : zy_S), g197 s = some (r, s') → zyR X d 197 0 [some (.ref (43 + 3)), none, none, none, none] [] s (zyE (some (.int r)) s')) (hk5 : ∀ (x1 : Int32) (s : zy_S) (r : Int32) (s' : zy_S), k5 x1 s = some (r, s') → zyR X (d + 1) 195 5 [some (.ref (43 + 3)), some (.int x1), none, none] [] s (zyE (some (.int r)) s')) {x1 : Int32} {s : zy_S} {r : Int32} {s' : zy_S}  (h : zyF195_5b g192 g193 g194 g195 g196 g197 k5 x1 s = some (r, s')) : zyR X (d + 1) 195 5 [some (.ref (43 + 3)), some (.int x1), none, none] [] s (zyE (some (.int r)) s') := by
  unfold zyF195_5b at h
  refine zy_0 rfl rfl (show zyR _ _ _ _ [some (.ref (43 + 3)), some (.int x1), none, none] [.ref (43 + 3)] _ _ from ?_)
  refine zy_1 (c := 43) rfl rfl rfl (show zyR _ _ _ _ [some (.ref (43 + 3)), some (.int x1), none, none] [.int (s.1 43 15)] _ _ from ?_)
  refine zy_24_3 rfl (fun b9 => (show zyR _ _ _ _ [some (.ref (43 + 3)), some (.int x1), none, none] [] _ _ from ?_)) (fun b9 => (show zyR _ _ _ _ [some (.ref (43 + 3)), some (.int x1), none, none] [] _ _ from ?_))
  · replace h := zy_ifp h b9
    refine zy_2 rfl rfl (show zyR _ _ _ _ [some (.ref (43 + 3)), some (.int x1), none, none] [.int x1] _ _ from ?_)
    obtain ⟨rfl, rfl⟩ := zy_pi h
    exact zy_4 rfl ⟨rfl, rfl⟩
  · replace h := zy_ifn h b9
    refine zy_0 rfl rfl (show zyR _ _ _ _ [some (.ref (43 + 3)), some (.int x1), none, none] [.ref (43 + 3)] _ _ from ?_)
    obtain ⟨p5, hp5, h⟩ := zy_bind h
    refine zy_5 (c := 43) (as := []) (rest := []) (L := [some (.ref (43 + 3))]) (d' := 1) rfl rfl rfl (Nat.le_of_ble_eq_true rfl) (by omega) rfl (Nat.le_of_ble_eq_true rfl) rfl rfl (zyC198 hp5) ?_
    show zyR _ _ _ _ [some (.ref (43 + 3)), some (.int x1), none, none] [.int p5.1] _ _
    refine zy_3 rfl rfl (show zyR _ _ _ _ [some (.ref (43 + 3)), some (.int x1), none, none] [.int (43 : Int32), .int p5.1] _ _ from ?_)
    refine zy_25_0 rfl (fun b8 => (show zyR _ _ _ _ [some (.ref (43 + 3)), some (.int x1), none, none] [] _ _ from ?_)) (fun b8 => (show zyR _ _ _ _ [some (.ref (43 + 3)), some (.int x1), none, none] [] _ _ from ?_))
    · replace h := zy_ifp h b8
      exact zy_sub (show zy_le [some (.ref (43 + 3)), some (.int x1), none, none] [some (.ref (43 + 3)), some (.int x1), none, none] from ⟨rfl, ⟨rfl, trivial⟩⟩) (zyC195_30 hd hg192 hg193 hg194 hg195 hg196 hg197 hk5 h)
    · replace h := zy_ifn h b8
      refine zy_0 rfl rfl (show zyR _ _ _ _ [some (.ref (43 + 3)), some (.int x1), none, none] [.ref (43 + 3)] _ _ from ?_)
      obtain ⟨p6, hp6, h⟩ := zy_bind h
      refine zy_5 (c := 43) (as := []) (rest := []) (L := [some (.ref (43 + 3))]) (d' := 1) rfl rfl rfl (Nat.le_of_ble_eq_true rfl) (by omega) rfl (Nat.le_of_ble_eq_true rfl) rfl rfl (zyC198 hp6) ?_
      show zyR _ _ _ _ [some (.ref (43 + 3)), some (.int x1), none, none] [.int p6.1] _ _
      refine zy_3 rfl rfl (show zyR _ _ _ _ [some (.ref (43 + 3)), some (.int x1), none, none] [.int (45 : Int32), .int p6.1] _ _ from ?_)
      refine zy_25_1 rfl (fun b7 => (show zyR _ _ _ _ [some (.ref (43 + 3)), some (.int x1), none, none] [] _ _ from ?_)) (fun b7 => (show zyR _ _ _ _ [some (.ref (43 + 3)), some (.int x1), none, none] [] _ _ from ?_))
      · replace h := zy_ifp h b7
        refine zy_2 rfl rfl (show zyR _ _ _ _ [some (.ref (43 + 3)), some (.int x1), none, none] [.int x1] _ _ from ?_)
        obtain ⟨rfl, rfl⟩ := zy_pi h
        exact zy_4 rfl ⟨rfl, rfl⟩
      · replace h := zy_ifn h b7
        exact zy_sub (show zy_le [some (.ref (43 + 3)), some (.int x1), none, none] [some (.ref (43 + 3)), some (.int x1), none, none] from ⟨rfl, ⟨rfl, trivial⟩⟩) (zyC195_30 hd hg192 hg193 hg194 hg195 hg196 hg197 hk5 h)
noncomputable def zyF195_5 (g192 : zy_S → Option (Int32 × zy_S)) (g193 : zy_S → Option (Int32 × zy_S)) (g194 : zy_S → Option (Int32 × zy_S)) (g195 : zy_S → Option (Int32 × zy_S)) (g196 : zy_S → Option (Int32 × zy_S)) (g197 : zy_S → Option (Int32 × zy_S))  (n : Nat) : Int32 → zy_S → Option (Int32 × zy_S) := Nat.rec (fun _ _ => none) (fun _ k5 => zyF195_5b g192 g193 g194 g195 g196 g197 k5) n
theorem zyC195_5 {X : zx_X} {d : Nat} {g192 : zy_S → Option (Int32 × zy_S)} {g193 : zy_S → Option (Int32 × zy_S)} {g194 : zy_S → Option (Int32 × zy_S)} {g195 : zy_S → Option (Int32 × zy_S)} {g196 : zy_S → Option (Int32 × zy_S)} {g197 : zy_S → Option (Int32 × zy_S)}  (hd : 1 ≤ d) (hg192 : ∀  (s : zy_S) (r : Int32) (s' : zy_S), g192 s = some (r, s') → zyR X d 192 0 [some (.ref (43 + 3)), none, none] [] s (zyE (some (.int r)) s')) (hg193 : ∀  (s : zy_S) (r : Int32) (s' : zy_S), g193 s = some (r, s') → zyR X d 193 0 [some (.ref (43 + 3)), none, none] [] s (zyE (some (.int r)) s')) (hg194 : ∀  (s : zy_S) (r : Int32) (s' : zy_S), g194 s = some (r, s') → zyR X d 194 0 [some (.ref (43 + 3)), none, none, none] [] s (zyE (some (.int r)) s')) (hg195 : ∀  (s : zy_S) (r : Int32) (s' : zy_S), g195 s = some (r, s') → zyR X d 195 0 [some (.ref (43 + 3)), none, none, none] [] s (zyE (some (.int r)) s')) (hg196 : ∀  (s : zy_S) (r : Int32) (s' : zy_S), g196 s = some (r, s') → zyR X d 196 0 [some (.ref (43 + 3)), none, none, none] [] s (zyE (some (.int r)) s')) (hg197 : ∀  (s : zy_S) (r : Int32) (s' : zy_S), g197 s = some (r, s') → zyR X d 197 0 [some (.ref (43 + 3)), none, none, none, none] [] s (zyE (some (.int r)) s'))  : ∀ (n : Nat) (x1 : Int32) (s : zy_S) (r : Int32) (s' : zy_S), zyF195_5 g192 g193 g194 g195 g196 g197 n x1 s = some (r, s') → zyR X (d + 1) 195 5 [some (.ref (43 + 3)), some (.int x1), none, none] [] s (zyE (some (.int r)) s')
  | 0, _ => by
    intro s r s'  h
    have h : (none : Option (Int32 × zy_S)) = some (r, s') := h
    cases h
  | n + 1, x1 => by
    intro s r s'  h
    exact zyC195_5b hd hg192 hg193 hg194 hg195 hg196 hg197 (k5 := zyF195_5 g192 g193 g194 g195 g196 g197 n) (fun x1 s r s'  h => zyC195_5 hd hg192 hg193 hg194 hg195 hg196 hg197 n x1 s r s'  h) h
noncomputable def zyF195_0 (g192 : zy_S → Option (Int32 × zy_S)) (g193 : zy_S → Option (Int32 × zy_S)) (g194 : zy_S → Option (Int32 × zy_S)) (g195 : zy_S → Option (Int32 × zy_S)) (g196 : zy_S → Option (Int32 × zy_S)) (g197 : zy_S → Option (Int32 × zy_S))   (s : zy_S) : Option (Int32 × zy_S) :=
(g196 s).bind fun p10 =>
zyF195_5 g192 g193 g194 g195 g196 g197 zy_fu p10.1 p10.2
theorem zyC195_0 {X : zx_X} {d : Nat} {g192 : zy_S → Option (Int32 × zy_S)} {g193 : zy_S → Option (Int32 × zy_S)} {g194 : zy_S → Option (Int32 × zy_S)} {g195 : zy_S → Option (Int32 × zy_S)} {g196 : zy_S → Option (Int32 × zy_S)} {g197 : zy_S → Option (Int32 × zy_S)}  (hd : 1 ≤ d) (hg192 : ∀  (s : zy_S) (r : Int32) (s' : zy_S), g192 s = some (r, s') → zyR X d 192 0 [some (.ref (43 + 3)), none, none] [] s (zyE (some (.int r)) s')) (hg193 : ∀  (s : zy_S) (r : Int32) (s' : zy_S), g193 s = some (r, s') → zyR X d 193 0 [some (.ref (43 + 3)), none, none] [] s (zyE (some (.int r)) s')) (hg194 : ∀  (s : zy_S) (r : Int32) (s' : zy_S), g194 s = some (r, s') → zyR X d 194 0 [some (.ref (43 + 3)), none, none, none] [] s (zyE (some (.int r)) s')) (hg195 : ∀  (s : zy_S) (r : Int32) (s' : zy_S), g195 s = some (r, s') → zyR X d 195 0 [some (.ref (43 + 3)), none, none, none] [] s (zyE (some (.int r)) s')) (hg196 : ∀  (s : zy_S) (r : Int32) (s' : zy_S), g196 s = some (r, s') → zyR X d 196 0 [some (.ref (43 + 3)), none, none, none] [] s (zyE (some (.int r)) s')) (hg197 : ∀  (s : zy_S) (r : Int32) (s' : zy_S), g197 s = some (r, s') → zyR X d 197 0 [some (.ref (43 + 3)), none, none, none, none] [] s (zyE (some (.int r)) s'))   {s : zy_S} {r : Int32} {s' : zy_S}  (h : zyF195_0 g192 g193 g194 g195 g196 g197 s = some (r, s')) : zyR X (d + 1) 195 0 [some (.ref (43 + 3)), none, none, none] [] s (zyE (some (.int r)) s') := by
  unfold zyF195_0 at h
  refine zy_0 rfl rfl (show zyR _ _ _ _ [some (.ref (43 + 3)), none, none, none] [.ref (43 + 3)] _ _ from ?_)
  obtain ⟨p10, hp10, h⟩ := zy_bind h
  refine zy_5 (c := 43) (as := []) (rest := []) (L := [some (.ref (43 + 3)), none, none, none]) (d' := d) rfl rfl rfl (Nat.le_of_ble_eq_true rfl) (by omega) rfl (Nat.le_of_ble_eq_true rfl) rfl rfl (hg196 s _ _ hp10) ?_
  show zyR _ _ _ _ [some (.ref (43 + 3)), none, none, none] [.int p10.1] _ _
  refine zy_23 rfl rfl (show zyR _ _ _ _ [some (.ref (43 + 3)), some (.int p10.1), none, none] [] _ _ from ?_)
  exact zy_sub (show zy_le [some (.ref (43 + 3)), some (.int p10.1), none, none] [some (.ref (43 + 3)), some (.int p10.1), none, none] from ⟨rfl, ⟨rfl, trivial⟩⟩) (zyC195_5 hd hg192 hg193 hg194 hg195 hg196 hg197 zy_fu p10.1 p10.2 _ _ h)
/-! NineOpinionsModel.product()I, over what it calls -/
noncomputable def zyF196_85 (g192 : zy_S → Option (Int32 × zy_S)) (g193 : zy_S → Option (Int32 × zy_S)) (g194 : zy_S → Option (Int32 × zy_S)) (g195 : zy_S → Option (Int32 × zy_S)) (g196 : zy_S → Option (Int32 × zy_S)) (g197 : zy_S → Option (Int32 × zy_S)) (k10 : Int32 → Int32 → zy_S → Option (Int32 × zy_S)) (y0 : Int32) (s : zy_S) : Option (Int32 × zy_S) :=
(zyF198 s).bind fun p1 =>
k10 y0 p1.1 p1.2
theorem zyC196_85 {X : zx_X} {d : Nat} {g192 : zy_S → Option (Int32 × zy_S)} {g193 : zy_S → Option (Int32 × zy_S)} {g194 : zy_S → Option (Int32 × zy_S)} {g195 : zy_S → Option (Int32 × zy_S)} {g196 : zy_S → Option (Int32 × zy_S)} {g197 : zy_S → Option (Int32 × zy_S)} {k10 : Int32 → Int32 → zy_S → Option (Int32 × zy_S)} (hd : 1 ≤ d) (hg192 : ∀  (s : zy_S) (r : Int32) (s' : zy_S), g192 s = some (r, s') → zyR X d 192 0 [some (.ref (43 + 3)), none, none] [] s (zyE (some (.int r)) s')) (hg193 : ∀  (s : zy_S) (r : Int32) (s' : zy_S), g193 s = some (r, s') → zyR X d 193 0 [some (.ref (43 + 3)), none, none] [] s (zyE (some (.int r)) s')) (hg194 : ∀  (s : zy_S) (r : Int32) (s' : zy_S), g194 s = some (r, s') → zyR X d 194 0 [some (.ref (43 + 3)), none, none, none] [] s (zyE (some (.int r)) s')) (hg195 : ∀  (s : zy_S) (r : Int32) (s' : zy_S), g195 s = some (r, s') → zyR X d 195 0 [some (.ref (43 + 3)), none, none, none] [] s (zyE (some (.int r)) s')) (hg196 : ∀  (s : zy_S) (r : Int32) (s' : zy_S), g196 s = some (r, s') → zyR X d 196 0 [some (.ref (43 + 3)), none, none, none] [] s (zyE (some (.int r)) s')) (hg197 : ∀  (s : zy_S) (r : Int32) (s' : zy_S), g197 s = some (r, s') → zyR X d 197 0 [some (.ref (43 + 3)), none, none, none, none] [] s (zyE (some (.int r)) s')) (hk10 : ∀ (x1 : Int32) (x2 : Int32) (s : zy_S) (r : Int32) (s' : zy_S), k10 x1 x2 s = some (r, s') → zyR X (d + 1) 196 10 [some (.ref (43 + 3)), some (.int x1), some (.int x2), none] [] s (zyE (some (.int r)) s')) {y0 : Int32} {s : zy_S} {r : Int32} {s' : zy_S}  (h : zyF196_85 g192 g193 g194 g195 g196 g197 k10 y0 s = some (r, s')) : zyR X (d + 1) 196 85 [some (.ref (43 + 3)), none, none, none] [.int y0] s (zyE (some (.int r)) s') := by
  unfold zyF196_85 at h
  refine zy_23 rfl rfl (show zyR _ _ _ _ [some (.ref (43 + 3)), some (.int y0), none, none] [] _ _ from ?_)
  refine zy_0 rfl rfl (show zyR _ _ _ _ [some (.ref (43 + 3)), some (.int y0), none, none] [.ref (43 + 3)] _ _ from ?_)
  obtain ⟨p1, hp1, h⟩ := zy_bind h
  refine zy_5 (c := 43) (as := []) (rest := []) (L := [some (.ref (43 + 3))]) (d' := 1) rfl rfl rfl (Nat.le_of_ble_eq_true rfl) (by omega) rfl (Nat.le_of_ble_eq_true rfl) rfl rfl (zyC198 hp1) ?_
  show zyR _ _ _ _ [some (.ref (43 + 3)), some (.int y0), none, none] [.int p1.1] _ _
  refine zy_23 rfl rfl (show zyR _ _ _ _ [some (.ref (43 + 3)), some (.int y0), some (.int p1.1), none] [] _ _ from ?_)
  refine zy_6 rfl (show zyR _ _ _ _ [some (.ref (43 + 3)), some (.int y0), some (.int p1.1), none] [] _ _ from ?_)
  exact zy_sub (show zy_le [some (.ref (43 + 3)), some (.int y0), some (.int p1.1), none] [some (.ref (43 + 3)), some (.int y0), some (.int p1.1), none] from ⟨rfl, ⟨rfl, ⟨rfl, trivial⟩⟩⟩) (hk10 y0 p1.1 p1.2 _ _ h)
noncomputable def zyF196_35 (g192 : zy_S → Option (Int32 × zy_S)) (g193 : zy_S → Option (Int32 × zy_S)) (g194 : zy_S → Option (Int32 × zy_S)) (g195 : zy_S → Option (Int32 × zy_S)) (g196 : zy_S → Option (Int32 × zy_S)) (g197 : zy_S → Option (Int32 × zy_S)) (k10 : Int32 → Int32 → zy_S → Option (Int32 × zy_S)) (x1 : Int32) (x2 : Int32) (s : zy_S) : Option (Int32 × zy_S) :=
(g197 (zy_up s 43 13 ((s.1 43 13) + (1 : Int32)))).bind fun p2 =>
if x2 ≠ (42 : Int32) then
if p2.1 ≠ 0 then
if x2 ≠ (47 : Int32) then
if ¬ p2.1 = 0 then
zyF196_85 g192 g193 g194 g195 g196 g197 k10 (x1 - x1 / p2.1 * p2.1) p2.2
else none
else
if ¬ p2.1 = 0 then
zyF196_85 g192 g193 g194 g195 g196 g197 k10 (x1 / p2.1) p2.2
else none
else
zyF196_85 g192 g193 g194 g195 g196 g197 k10 (0 : Int32) p2.2
else
zyF196_85 g192 g193 g194 g195 g196 g197 k10 (x1 * p2.1) p2.2
theorem zyC196_35 {X : zx_X} {d : Nat} {g192 : zy_S → Option (Int32 × zy_S)} {g193 : zy_S → Option (Int32 × zy_S)} {g194 : zy_S → Option (Int32 × zy_S)} {g195 : zy_S → Option (Int32 × zy_S)} {g196 : zy_S → Option (Int32 × zy_S)} {g197 : zy_S → Option (Int32 × zy_S)} {k10 : Int32 → Int32 → zy_S → Option (Int32 × zy_S)} (hd : 1 ≤ d) (hg192 : ∀  (s : zy_S) (r : Int32) (s' : zy_S), g192 s = some (r, s') → zyR X d 192 0 [some (.ref (43 + 3)), none, none] [] s (zyE (some (.int r)) s')) (hg193 : ∀  (s : zy_S) (r : Int32) (s' : zy_S), g193 s = some (r, s') → zyR X d 193 0 [some (.ref (43 + 3)), none, none] [] s (zyE (some (.int r)) s')) (hg194 : ∀  (s : zy_S) (r : Int32) (s' : zy_S), g194 s = some (r, s') → zyR X d 194 0 [some (.ref (43 + 3)), none, none, none] [] s (zyE (some (.int r)) s')) (hg195 : ∀  (s : zy_S) (r : Int32) (s' : zy_S), g195 s = some (r, s') → zyR X d 195 0 [some (.ref (43 + 3)), none, none, none] [] s (zyE (some (.int r)) s')) (hg196 : ∀  (s : zy_S) (r : Int32) (s' : zy_S), g196 s = some (r, s') → zyR X d 196 0 [some (.ref (43 + 3)), none, none, none] [] s (zyE (some (.int r)) s')) (hg197 : ∀  (s : zy_S) (r : Int32) (s' : zy_S), g197 s = some (r, s') → zyR X d 197 0 [some (.ref (43 + 3)), none, none, none, none] [] s (zyE (some (.int r)) s')) (hk10 : ∀ (x1 : Int32) (x2 : Int32) (s : zy_S) (r : Int32) (s' : zy_S), k10 x1 x2 s = some (r, s') → zyR X (d + 1) 196 10 [some (.ref (43 + 3)), some (.int x1), some (.int x2), none] [] s (zyE (some (.int r)) s')) {x1 : Int32} {x2 : Int32} {s : zy_S} {r : Int32} {s' : zy_S}  (h : zyF196_35 g192 g193 g194 g195 g196 g197 k10 x1 x2 s = some (r, s')) : zyR X (d + 1) 196 35 [some (.ref (43 + 3)), some (.int x1), some (.int x2), none] [] s (zyE (some (.int r)) s') := by
  unfold zyF196_35 at h
  refine zy_0 rfl rfl (show zyR _ _ _ _ [some (.ref (43 + 3)), some (.int x1), some (.int x2), none] [.ref (43 + 3)] _ _ from ?_)
  refine zy_33 rfl rfl (show zyR _ _ _ _ [some (.ref (43 + 3)), some (.int x1), some (.int x2), none] [.ref (43 + 3), .ref (43 + 3)] _ _ from ?_)
  refine zy_1 (c := 43) rfl rfl rfl (show zyR _ _ _ _ [some (.ref (43 + 3)), some (.int x1), some (.int x2), none] [.int (s.1 43 13), .ref (43 + 3)] _ _ from ?_)
  refine zy_3 rfl rfl (show zyR _ _ _ _ [some (.ref (43 + 3)), some (.int x1), some (.int x2), none] [.int (1 : Int32), .int (s.1 43 13), .ref (43 + 3)] _ _ from ?_)
  refine zy_10 rfl (show zyR _ _ _ _ [some (.ref (43 + 3)), some (.int x1), some (.int x2), none] [.int ((s.1 43 13) + (1 : Int32)), .ref (43 + 3)] _ _ from ?_)
  refine zy_52 (c := 43) rfl rfl rfl (show zyR _ _ _ _ [some (.ref (43 + 3)), some (.int x1), some (.int x2), none] [] _ _ from ?_)
  refine zy_0 rfl rfl (show zyR _ _ _ _ [some (.ref (43 + 3)), some (.int x1), some (.int x2), none] [.ref (43 + 3)] _ _ from ?_)
  obtain ⟨p2, hp2, h⟩ := zy_bind h
  refine zy_5 (c := 43) (as := []) (rest := []) (L := [some (.ref (43 + 3)), none, none, none, none]) (d' := d) rfl rfl rfl (Nat.le_of_ble_eq_true rfl) (by omega) rfl (Nat.le_of_ble_eq_true rfl) rfl rfl (hg197 (zy_up s 43 13 ((s.1 43 13) + (1 : Int32))) _ _ hp2) ?_
  show zyR _ _ _ _ [some (.ref (43 + 3)), some (.int x1), some (.int x2), none] [.int p2.1] _ _
  refine zy_23 rfl rfl (show zyR _ _ _ _ [some (.ref (43 + 3)), some (.int x1), some (.int x2), some (.int p2.1)] [] _ _ from ?_)
  refine zy_2 rfl rfl (show zyR _ _ _ _ [some (.ref (43 + 3)), some (.int x1), some (.int x2), some (.int p2.1)] [.int x2] _ _ from ?_)
  refine zy_3 rfl rfl (show zyR _ _ _ _ [some (.ref (43 + 3)), some (.int x1), some (.int x2), some (.int p2.1)] [.int (42 : Int32), .int x2] _ _ from ?_)
  refine zy_25_1 rfl (fun b7 => (show zyR _ _ _ _ [some (.ref (43 + 3)), some (.int x1), some (.int x2), some (.int p2.1)] [] _ _ from ?_)) (fun b7 => (show zyR _ _ _ _ [some (.ref (43 + 3)), some (.int x1), some (.int x2), some (.int p2.1)] [] _ _ from ?_))
  · replace h := zy_ifp h b7
    refine zy_2 rfl rfl (show zyR _ _ _ _ [some (.ref (43 + 3)), some (.int x1), some (.int x2), some (.int p2.1)] [.int p2.1] _ _ from ?_)
    refine zy_24_1 rfl (fun b6 => (show zyR _ _ _ _ [some (.ref (43 + 3)), some (.int x1), some (.int x2), some (.int p2.1)] [] _ _ from ?_)) (fun b6 => (show zyR _ _ _ _ [some (.ref (43 + 3)), some (.int x1), some (.int x2), some (.int p2.1)] [] _ _ from ?_))
    · replace h := zy_ifp h b6
      refine zy_2 rfl rfl (show zyR _ _ _ _ [some (.ref (43 + 3)), some (.int x1), some (.int x2), some (.int p2.1)] [.int x2] _ _ from ?_)
      refine zy_3 rfl rfl (show zyR _ _ _ _ [some (.ref (43 + 3)), some (.int x1), some (.int x2), some (.int p2.1)] [.int (47 : Int32), .int x2] _ _ from ?_)
      refine zy_25_1 rfl (fun b5 => (show zyR _ _ _ _ [some (.ref (43 + 3)), some (.int x1), some (.int x2), some (.int p2.1)] [] _ _ from ?_)) (fun b5 => (show zyR _ _ _ _ [some (.ref (43 + 3)), some (.int x1), some (.int x2), some (.int p2.1)] [] _ _ from ?_))
      · replace h := zy_ifp h b5
        refine zy_2 rfl rfl (show zyR _ _ _ _ [some (.ref (43 + 3)), some (.int x1), some (.int x2), some (.int p2.1)] [.int x1] _ _ from ?_)
        refine zy_2 rfl rfl (show zyR _ _ _ _ [some (.ref (43 + 3)), some (.int x1), some (.int x2), some (.int p2.1)] [.int p2.1, .int x1] _ _ from ?_)
        obtain ⟨c3, h⟩ := zy_if h
        refine zy_20 rfl c3 (show zyR _ _ _ _ [some (.ref (43 + 3)), some (.int x1), some (.int x2), some (.int p2.1)] [.int (x1 - x1 / p2.1 * p2.1)] _ _ from ?_)
        exact zy_sub (show zy_le [some (.ref (43 + 3)), none, none, none] [some (.ref (43 + 3)), some (.int x1), some (.int x2), some (.int p2.1)] from ⟨rfl, trivial⟩) (zyC196_85 hd hg192 hg193 hg194 hg195 hg196 hg197 hk10 h)
      · replace h := zy_ifn h b5
        refine zy_2 rfl rfl (show zyR _ _ _ _ [some (.ref (43 + 3)), some (.int x1), some (.int x2), some (.int p2.1)] [.int x1] _ _ from ?_)
        refine zy_2 rfl rfl (show zyR _ _ _ _ [some (.ref (43 + 3)), some (.int x1), some (.int x2), some (.int p2.1)] [.int p2.1, .int x1] _ _ from ?_)
        obtain ⟨c4, h⟩ := zy_if h
        refine zy_19 rfl c4 (show zyR _ _ _ _ [some (.ref (43 + 3)), some (.int x1), some (.int x2), some (.int p2.1)] [.int (x1 / p2.1)] _ _ from ?_)
        refine zy_6 rfl (show zyR _ _ _ _ [some (.ref (43 + 3)), some (.int x1), some (.int x2), some (.int p2.1)] [.int (x1 / p2.1)] _ _ from ?_)
        exact zy_sub (show zy_le [some (.ref (43 + 3)), none, none, none] [some (.ref (43 + 3)), some (.int x1), some (.int x2), some (.int p2.1)] from ⟨rfl, trivial⟩) (zyC196_85 hd hg192 hg193 hg194 hg195 hg196 hg197 hk10 h)
    · replace h := zy_ifn h b6
      refine zy_3 rfl rfl (show zyR _ _ _ _ [some (.ref (43 + 3)), some (.int x1), some (.int x2), some (.int p2.1)] [.int (0 : Int32)] _ _ from ?_)
      refine zy_6 rfl (show zyR _ _ _ _ [some (.ref (43 + 3)), some (.int x1), some (.int x2), some (.int p2.1)] [.int (0 : Int32)] _ _ from ?_)
      exact zy_sub (show zy_le [some (.ref (43 + 3)), none, none, none] [some (.ref (43 + 3)), some (.int x1), some (.int x2), some (.int p2.1)] from ⟨rfl, trivial⟩) (zyC196_85 hd hg192 hg193 hg194 hg195 hg196 hg197 hk10 h)
  · replace h := zy_ifn h b7
    refine zy_2 rfl rfl (show zyR _ _ _ _ [some (.ref (43 + 3)), some (.int x1), some (.int x2), some (.int p2.1)] [.int x1] _ _ from ?_)
    refine zy_2 rfl rfl (show zyR _ _ _ _ [some (.ref (43 + 3)), some (.int x1), some (.int x2), some (.int p2.1)] [.int p2.1, .int x1] _ _ from ?_)
    refine zy_12 rfl (show zyR _ _ _ _ [some (.ref (43 + 3)), some (.int x1), some (.int x2), some (.int p2.1)] [.int (x1 * p2.1)] _ _ from ?_)
    refine zy_6 rfl (show zyR _ _ _ _ [some (.ref (43 + 3)), some (.int x1), some (.int x2), some (.int p2.1)] [.int (x1 * p2.1)] _ _ from ?_)
    exact zy_sub (show zy_le [some (.ref (43 + 3)), none, none, none] [some (.ref (43 + 3)), some (.int x1), some (.int x2), some (.int p2.1)] from ⟨rfl, trivial⟩) (zyC196_85 hd hg192 hg193 hg194 hg195 hg196 hg197 hk10 h)
noncomputable def zyF196_10b (g192 : zy_S → Option (Int32 × zy_S)) (g193 : zy_S → Option (Int32 × zy_S)) (g194 : zy_S → Option (Int32 × zy_S)) (g195 : zy_S → Option (Int32 × zy_S)) (g196 : zy_S → Option (Int32 × zy_S)) (g197 : zy_S → Option (Int32 × zy_S)) (k10 : Int32 → Int32 → zy_S → Option (Int32 × zy_S)) (x1 : Int32) (x2 : Int32) (s : zy_S) : Option (Int32 × zy_S) :=
if 0 ≤ (s.1 43 15) then
some (x1, s)
else
if x2 = (42 : Int32) then
zyF196_35 g192 g193 g194 g195 g196 g197 k10 x1 x2 s
else
if x2 = (47 : Int32) then
zyF196_35 g192 g193 g194 g195 g196 g197 k10 x1 x2 s
else
if x2 ≠ (37 : Int32) then
some (x1, s)
else
zyF196_35 g192 g193 g194 g195 g196 g197 k10 x1 x2 s
theorem zyC196_10b {X : zx_X} {d : Nat} {g192 : zy_S → Option (Int32 × zy_S)} {g193 : zy_S → Option (Int32 × zy_S)} {g194 : zy_S → Option (Int32 × zy_S)} {g195 : zy_S → Option (Int32 × zy_S)} {g196 : zy_S → Option (Int32 × zy_S)} {g197 : zy_S → Option (Int32 × zy_S)} {k10 : Int32 → Int32 → zy_S → Option (Int32 × zy_S)} (hd : 1 ≤ d) (hg192 : ∀  (s : zy_S) (r : Int32) (s' : zy_S), g192 s = some (r, s') → zyR X d 192 0 [some (.ref (43 + 3)), none, none] [] s (zyE (some (.int r)) s')) (hg193 : ∀  (s : zy_S) (r : Int32) (s' : zy_S), g193 s = some (r, s') → zyR X d 193 0 [some (.ref (43 + 3)), none, none] [] s (zyE (some (.int r)) s')) (hg194 : ∀  (s : zy_S) (r : Int32) (s' : zy_S), g194 s = some (r, s') → zyR X d 194 0 [some (.ref (43 + 3)), none, none, none] [] s (zyE (some (.int r)) s')) (hg195 : ∀  (s : zy_S) (r : Int32) (s' : zy_S), g195 s = some (r, s') → zyR X d 195 0 [some (.ref (43 + 3)), none, none, none] [] s (zyE (some (.int r)) s')) (hg196 : ∀  (s : zy_S) (r : Int32) (s' : zy_S), g196 s = some (r, s') → zyR X d 196 0 [some (.ref (43 + 3)), none, none, none] [] s (zyE (some (.int r)) s')) (hg197 : ∀  (s : zy_S) (r : Int32) (s' : zy_S), g197 s = some (r, s') → zyR X d 197 0 [some (.ref (43 + 3)), none, none, none, none] [] s (zyE (some (.int r)) s')) (hk10 : ∀ (x1 : Int32) (x2 : Int32) (s : zy_S) (r : Int32) (s' : zy_S), k10 x1 x2 s = some (r, s') → zyR X (d + 1) 196 10 [some (.ref (43 + 3)), some (.int x1), some (.int x2), none] [] s (zyE (some (.int r)) s')) {x1 : Int32} {x2 : Int32} {s : zy_S} {r : Int32} {s' : zy_S}  (h : zyF196_10b g192 g193 g194 g195 g196 g197 k10 x1 x2 s = some (r, s')) : zyR X (d + 1) 196 10 [some (.ref (43 + 3)), some (.int x1), some (.int x2), none] [] s (zyE (some (.int r)) s') := by
  unfold zyF196_10b at h
  refine zy_0 rfl rfl (show zyR _ _ _ _ [some (.ref (43 + 3)), some (.int x1), some (.int x2), none] [.ref (43 + 3)] _ _ from ?_)
  refine zy_1 (c := 43) rfl rfl rfl (show zyR _ _ _ _ [some (.ref (43 + 3)), some (.int x1), some (.int x2), none] [.int (s.1 43 15)] _ _ from ?_)
  refine zy_24_3 rfl (fun b11 => (show zyR _ _ _ _ [some (.ref (43 + 3)), some (.int x1), some (.int x2), none] [] _ _ from ?_)) (fun b11 => (show zyR _ _ _ _ [some (.ref (43 + 3)), some (.int x1), some (.int x2), none] [] _ _ from ?_))
  · replace h := zy_ifp h b11
    refine zy_2 rfl rfl (show zyR _ _ _ _ [some (.ref (43 + 3)), some (.int x1), some (.int x2), none] [.int x1] _ _ from ?_)
    obtain ⟨rfl, rfl⟩ := zy_pi h
    exact zy_4 rfl ⟨rfl, rfl⟩
  · replace h := zy_ifn h b11
    refine zy_2 rfl rfl (show zyR _ _ _ _ [some (.ref (43 + 3)), some (.int x1), some (.int x2), none] [.int x2] _ _ from ?_)
    refine zy_3 rfl rfl (show zyR _ _ _ _ [some (.ref (43 + 3)), some (.int x1), some (.int x2), none] [.int (42 : Int32), .int x2] _ _ from ?_)
    refine zy_25_0 rfl (fun b10 => (show zyR _ _ _ _ [some (.ref (43 + 3)), some (.int x1), some (.int x2), none] [] _ _ from ?_)) (fun b10 => (show zyR _ _ _ _ [some (.ref (43 + 3)), some (.int x1), some (.int x2), none] [] _ _ from ?_))
    · replace h := zy_ifp h b10
      exact zy_sub (show zy_le [some (.ref (43 + 3)), some (.int x1), some (.int x2), none] [some (.ref (43 + 3)), some (.int x1), some (.int x2), none] from ⟨rfl, ⟨rfl, ⟨rfl, trivial⟩⟩⟩) (zyC196_35 hd hg192 hg193 hg194 hg195 hg196 hg197 hk10 h)
    · replace h := zy_ifn h b10
      refine zy_2 rfl rfl (show zyR _ _ _ _ [some (.ref (43 + 3)), some (.int x1), some (.int x2), none] [.int x2] _ _ from ?_)
      refine zy_3 rfl rfl (show zyR _ _ _ _ [some (.ref (43 + 3)), some (.int x1), some (.int x2), none] [.int (47 : Int32), .int x2] _ _ from ?_)
      refine zy_25_0 rfl (fun b9 => (show zyR _ _ _ _ [some (.ref (43 + 3)), some (.int x1), some (.int x2), none] [] _ _ from ?_)) (fun b9 => (show zyR _ _ _ _ [some (.ref (43 + 3)), some (.int x1), some (.int x2), none] [] _ _ from ?_))
      · replace h := zy_ifp h b9
        exact zy_sub (show zy_le [some (.ref (43 + 3)), some (.int x1), some (.int x2), none] [some (.ref (43 + 3)), some (.int x1), some (.int x2), none] from ⟨rfl, ⟨rfl, ⟨rfl, trivial⟩⟩⟩) (zyC196_35 hd hg192 hg193 hg194 hg195 hg196 hg197 hk10 h)
      · replace h := zy_ifn h b9
        refine zy_2 rfl rfl (show zyR _ _ _ _ [some (.ref (43 + 3)), some (.int x1), some (.int x2), none] [.int x2] _ _ from ?_)
        refine zy_3 rfl rfl (show zyR _ _ _ _ [some (.ref (43 + 3)), some (.int x1), some (.int x2), none] [.int (37 : Int32), .int x2] _ _ from ?_)
        refine zy_25_1 rfl (fun b8 => (show zyR _ _ _ _ [some (.ref (43 + 3)), some (.int x1), some (.int x2), none] [] _ _ from ?_)) (fun b8 => (show zyR _ _ _ _ [some (.ref (43 + 3)), some (.int x1), some (.int x2), none] [] _ _ from ?_))
        · replace h := zy_ifp h b8
          refine zy_2 rfl rfl (show zyR _ _ _ _ [some (.ref (43 + 3)), some (.int x1), some (.int x2), none] [.int x1] _ _ from ?_)
          obtain ⟨rfl, rfl⟩ := zy_pi h
          exact zy_4 rfl ⟨rfl, rfl⟩
        · replace h := zy_ifn h b8
          exact zy_sub (show zy_le [some (.ref (43 + 3)), some (.int x1), some (.int x2), none] [some (.ref (43 + 3)), some (.int x1), some (.int x2), none] from ⟨rfl, ⟨rfl, ⟨rfl, trivial⟩⟩⟩) (zyC196_35 hd hg192 hg193 hg194 hg195 hg196 hg197 hk10 h)
noncomputable def zyF196_10 (g192 : zy_S → Option (Int32 × zy_S)) (g193 : zy_S → Option (Int32 × zy_S)) (g194 : zy_S → Option (Int32 × zy_S)) (g195 : zy_S → Option (Int32 × zy_S)) (g196 : zy_S → Option (Int32 × zy_S)) (g197 : zy_S → Option (Int32 × zy_S))  (n : Nat) : Int32 → Int32 → zy_S → Option (Int32 × zy_S) := Nat.rec (fun _ _ _ => none) (fun _ k10 => zyF196_10b g192 g193 g194 g195 g196 g197 k10) n
theorem zyC196_10 {X : zx_X} {d : Nat} {g192 : zy_S → Option (Int32 × zy_S)} {g193 : zy_S → Option (Int32 × zy_S)} {g194 : zy_S → Option (Int32 × zy_S)} {g195 : zy_S → Option (Int32 × zy_S)} {g196 : zy_S → Option (Int32 × zy_S)} {g197 : zy_S → Option (Int32 × zy_S)}  (hd : 1 ≤ d) (hg192 : ∀  (s : zy_S) (r : Int32) (s' : zy_S), g192 s = some (r, s') → zyR X d 192 0 [some (.ref (43 + 3)), none, none] [] s (zyE (some (.int r)) s')) (hg193 : ∀  (s : zy_S) (r : Int32) (s' : zy_S), g193 s = some (r, s') → zyR X d 193 0 [some (.ref (43 + 3)), none, none] [] s (zyE (some (.int r)) s')) (hg194 : ∀  (s : zy_S) (r : Int32) (s' : zy_S), g194 s = some (r, s') → zyR X d 194 0 [some (.ref (43 + 3)), none, none, none] [] s (zyE (some (.int r)) s')) (hg195 : ∀  (s : zy_S) (r : Int32) (s' : zy_S), g195 s = some (r, s') → zyR X d 195 0 [some (.ref (43 + 3)), none, none, none] [] s (zyE (some (.int r)) s')) (hg196 : ∀  (s : zy_S) (r : Int32) (s' : zy_S), g196 s = some (r, s') → zyR X d 196 0 [some (.ref (43 + 3)), none, none, none] [] s (zyE (some (.int r)) s')) (hg197 : ∀  (s : zy_S) (r : Int32) (s' : zy_S), g197 s = some (r, s') → zyR X d 197 0 [some (.ref (43 + 3)), none, none, none, none] [] s (zyE (some (.int r)) s'))  : ∀ (n : Nat) (x1 : Int32) (x2 : Int32) (s : zy_S) (r : Int32) (s' : zy_S), zyF196_10 g192 g193 g194 g195 g196 g197 n x1 x2 s = some (r, s') → zyR X (d + 1) 196 10 [some (.ref (43 + 3)), some (.int x1), some (.int x2), none] [] s (zyE (some (.int r)) s')
  | 0, _, _ => by
    intro s r s'  h
    have h : (none : Option (Int32 × zy_S)) = some (r, s') := h
    cases h
  | n + 1, x1, x2 => by
    intro s r s'  h
    exact zyC196_10b hd hg192 hg193 hg194 hg195 hg196 hg197 (k10 := zyF196_10 g192 g193 g194 g195 g196 g197 n) (fun x1 x2 s r s'  h => zyC196_10 hd hg192 hg193 hg194 hg195 hg196 hg197 n x1 x2 s r s'  h) h
noncomputable def zyF196_0 (g192 : zy_S → Option (Int32 × zy_S)) (g193 : zy_S → Option (Int32 × zy_S)) (g194 : zy_S → Option (Int32 × zy_S)) (g195 : zy_S → Option (Int32 × zy_S)) (g196 : zy_S → Option (Int32 × zy_S)) (g197 : zy_S → Option (Int32 × zy_S))   (s : zy_S) : Option (Int32 × zy_S) :=
(g197 s).bind fun p12 =>
(zyF198 p12.2).bind fun p13 =>
zyF196_10 g192 g193 g194 g195 g196 g197 zy_fu p12.1 p13.1 p13.2
theorem zyC196_0 {X : zx_X} {d : Nat} {g192 : zy_S → Option (Int32 × zy_S)} {g193 : zy_S → Option (Int32 × zy_S)} {g194 : zy_S → Option (Int32 × zy_S)} {g195 : zy_S → Option (Int32 × zy_S)} {g196 : zy_S → Option (Int32 × zy_S)} {g197 : zy_S → Option (Int32 × zy_S)}  (hd : 1 ≤ d) (hg192 : ∀  (s : zy_S) (r : Int32) (s' : zy_S), g192 s = some (r, s') → zyR X d 192 0 [some (.ref (43 + 3)), none, none] [] s (zyE (some (.int r)) s')) (hg193 : ∀  (s : zy_S) (r : Int32) (s' : zy_S), g193 s = some (r, s') → zyR X d 193 0 [some (.ref (43 + 3)), none, none] [] s (zyE (some (.int r)) s')) (hg194 : ∀  (s : zy_S) (r : Int32) (s' : zy_S), g194 s = some (r, s') → zyR X d 194 0 [some (.ref (43 + 3)), none, none, none] [] s (zyE (some (.int r)) s')) (hg195 : ∀  (s : zy_S) (r : Int32) (s' : zy_S), g195 s = some (r, s') → zyR X d 195 0 [some (.ref (43 + 3)), none, none, none] [] s (zyE (some (.int r)) s')) (hg196 : ∀  (s : zy_S) (r : Int32) (s' : zy_S), g196 s = some (r, s') → zyR X d 196 0 [some (.ref (43 + 3)), none, none, none] [] s (zyE (some (.int r)) s')) (hg197 : ∀  (s : zy_S) (r : Int32) (s' : zy_S), g197 s = some (r, s') → zyR X d 197 0 [some (.ref (43 + 3)), none, none, none, none] [] s (zyE (some (.int r)) s'))   {s : zy_S} {r : Int32} {s' : zy_S}  (h : zyF196_0 g192 g193 g194 g195 g196 g197 s = some (r, s')) : zyR X (d + 1) 196 0 [some (.ref (43 + 3)), none, none, none] [] s (zyE (some (.int r)) s') := by
  unfold zyF196_0 at h
  refine zy_0 rfl rfl (show zyR _ _ _ _ [some (.ref (43 + 3)), none, none, none] [.ref (43 + 3)] _ _ from ?_)
  obtain ⟨p12, hp12, h⟩ := zy_bind h
  refine zy_5 (c := 43) (as := []) (rest := []) (L := [some (.ref (43 + 3)), none, none, none, none]) (d' := d) rfl rfl rfl (Nat.le_of_ble_eq_true rfl) (by omega) rfl (Nat.le_of_ble_eq_true rfl) rfl rfl (hg197 s _ _ hp12) ?_
  show zyR _ _ _ _ [some (.ref (43 + 3)), none, none, none] [.int p12.1] _ _
  refine zy_23 rfl rfl (show zyR _ _ _ _ [some (.ref (43 + 3)), some (.int p12.1), none, none] [] _ _ from ?_)
  refine zy_0 rfl rfl (show zyR _ _ _ _ [some (.ref (43 + 3)), some (.int p12.1), none, none] [.ref (43 + 3)] _ _ from ?_)
  obtain ⟨p13, hp13, h⟩ := zy_bind h
  refine zy_5 (c := 43) (as := []) (rest := []) (L := [some (.ref (43 + 3))]) (d' := 1) rfl rfl rfl (Nat.le_of_ble_eq_true rfl) (by omega) rfl (Nat.le_of_ble_eq_true rfl) rfl rfl (zyC198 hp13) ?_
  show zyR _ _ _ _ [some (.ref (43 + 3)), some (.int p12.1), none, none] [.int p13.1] _ _
  refine zy_23 rfl rfl (show zyR _ _ _ _ [some (.ref (43 + 3)), some (.int p12.1), some (.int p13.1), none] [] _ _ from ?_)
  exact zy_sub (show zy_le [some (.ref (43 + 3)), some (.int p12.1), some (.int p13.1), none] [some (.ref (43 + 3)), some (.int p12.1), some (.int p13.1), none] from ⟨rfl, ⟨rfl, ⟨rfl, trivial⟩⟩⟩) (zyC196_10 hd hg192 hg193 hg194 hg195 hg196 hg197 zy_fu p12.1 p13.1 p13.2 _ _ h)
end
section
/-! PART 41.26: methods as functions. Made by wip/v4/dcp.py. -/
/-! NineOpinionsModel.one()I, over what it calls -/
noncomputable def zyF197_229 (g192 : zy_S → Option (Int32 × zy_S)) (g193 : zy_S → Option (Int32 × zy_S)) (g194 : zy_S → Option (Int32 × zy_S)) (g195 : zy_S → Option (Int32 × zy_S)) (g196 : zy_S → Option (Int32 × zy_S)) (g197 : zy_S → Option (Int32 × zy_S))  (x3 : Int32) (x4 : Int32) (s : zy_S) : Option (Int32 × zy_S) :=
if x4 ≠ 0 then
some (x3, s)
else
(zyF199 s).bind fun p1 =>
some (p1.1, p1.2)
theorem zyC197_229 {X : zx_X} {d : Nat} {g192 : zy_S → Option (Int32 × zy_S)} {g193 : zy_S → Option (Int32 × zy_S)} {g194 : zy_S → Option (Int32 × zy_S)} {g195 : zy_S → Option (Int32 × zy_S)} {g196 : zy_S → Option (Int32 × zy_S)} {g197 : zy_S → Option (Int32 × zy_S)}  (hd : 2 ≤ d) (hg192 : ∀  (s : zy_S) (r : Int32) (s' : zy_S), g192 s = some (r, s') → zyR X d 192 0 [some (.ref (43 + 3)), none, none] [] s (zyE (some (.int r)) s')) (hg193 : ∀  (s : zy_S) (r : Int32) (s' : zy_S), g193 s = some (r, s') → zyR X d 193 0 [some (.ref (43 + 3)), none, none] [] s (zyE (some (.int r)) s')) (hg194 : ∀  (s : zy_S) (r : Int32) (s' : zy_S), g194 s = some (r, s') → zyR X d 194 0 [some (.ref (43 + 3)), none, none, none] [] s (zyE (some (.int r)) s')) (hg195 : ∀  (s : zy_S) (r : Int32) (s' : zy_S), g195 s = some (r, s') → zyR X d 195 0 [some (.ref (43 + 3)), none, none, none] [] s (zyE (some (.int r)) s')) (hg196 : ∀  (s : zy_S) (r : Int32) (s' : zy_S), g196 s = some (r, s') → zyR X d 196 0 [some (.ref (43 + 3)), none, none, none] [] s (zyE (some (.int r)) s')) (hg197 : ∀  (s : zy_S) (r : Int32) (s' : zy_S), g197 s = some (r, s') → zyR X d 197 0 [some (.ref (43 + 3)), none, none, none, none] [] s (zyE (some (.int r)) s'))  {x3 : Int32} {x4 : Int32} {s : zy_S} {r : Int32} {s' : zy_S}  (h : zyF197_229 g192 g193 g194 g195 g196 g197 x3 x4 s = some (r, s')) : zyR X (d + 1) 197 229 [some (.ref (43 + 3)), none, none, some (.int x3), some (.int x4)] [] s (zyE (some (.int r)) s') := by
  unfold zyF197_229 at h
  refine zy_2 rfl rfl (show zyR _ _ _ _ [some (.ref (43 + 3)), none, none, some (.int x3), some (.int x4)] [.int x4] _ _ from ?_)
  refine zy_24_1 rfl (fun b2 => (show zyR _ _ _ _ [some (.ref (43 + 3)), none, none, some (.int x3), some (.int x4)] [] _ _ from ?_)) (fun b2 => (show zyR _ _ _ _ [some (.ref (43 + 3)), none, none, some (.int x3), some (.int x4)] [] _ _ from ?_))
  · replace h := zy_ifp h b2
    refine zy_2 rfl rfl (show zyR _ _ _ _ [some (.ref (43 + 3)), none, none, some (.int x3), some (.int x4)] [.int x3] _ _ from ?_)
    obtain ⟨rfl, rfl⟩ := zy_pi h
    exact zy_4 rfl ⟨rfl, rfl⟩
  · replace h := zy_ifn h b2
    refine zy_0 rfl rfl (show zyR _ _ _ _ [some (.ref (43 + 3)), none, none, some (.int x3), some (.int x4)] [.ref (43 + 3)] _ _ from ?_)
    obtain ⟨p1, hp1, h⟩ := zy_bind h
    refine zy_5 (c := 43) (as := []) (rest := []) (L := [some (.ref (43 + 3))]) (d' := 1) rfl rfl rfl (Nat.le_of_ble_eq_true rfl) (by omega) rfl (Nat.le_of_ble_eq_true rfl) rfl rfl (zyC199 hp1) ?_
    show zyR _ _ _ _ [some (.ref (43 + 3)), none, none, some (.int x3), some (.int x4)] [.int p1.1] _ _
    refine zy_6 rfl (show zyR _ _ _ _ [some (.ref (43 + 3)), none, none, some (.int x3), some (.int x4)] [.int p1.1] _ _ from ?_)
    obtain ⟨rfl, rfl⟩ := zy_pi h
    exact zy_4 rfl ⟨rfl, rfl⟩
noncomputable def zyF197_176b (g192 : zy_S → Option (Int32 × zy_S)) (g193 : zy_S → Option (Int32 × zy_S)) (g194 : zy_S → Option (Int32 × zy_S)) (g195 : zy_S → Option (Int32 × zy_S)) (g196 : zy_S → Option (Int32 × zy_S)) (g197 : zy_S → Option (Int32 × zy_S)) (k176 : Int32 → Int32 → zy_S → Option (Int32 × zy_S)) (x3 : Int32) (x4 : Int32) (s : zy_S) : Option (Int32 × zy_S) :=
if (4 : Int32) ≤ x4 then
zyF197_229 g192 g193 g194 g195 g196 g197 x3 x4 s
else
(zyF198 s).bind fun p3 =>
if p3.1 < (48 : Int32) then
zyF197_229 g192 g193 g194 g195 g196 g197 x3 x4 p3.2
else
(zyF198 p3.2).bind fun p4 =>
if (57 : Int32) < p4.1 then
zyF197_229 g192 g193 g194 g195 g196 g197 x3 x4 p4.2
else
(zyF198 p4.2).bind fun p5 =>
k176 ((((10 : Int32) * x3) + p5.1) - (48 : Int32)) (x4 + (1 : Int32)) (zy_up p5.2 43 13 ((p5.2.1 43 13) + (1 : Int32)))
theorem zyC197_176b {X : zx_X} {d : Nat} {g192 : zy_S → Option (Int32 × zy_S)} {g193 : zy_S → Option (Int32 × zy_S)} {g194 : zy_S → Option (Int32 × zy_S)} {g195 : zy_S → Option (Int32 × zy_S)} {g196 : zy_S → Option (Int32 × zy_S)} {g197 : zy_S → Option (Int32 × zy_S)} {k176 : Int32 → Int32 → zy_S → Option (Int32 × zy_S)} (hd : 2 ≤ d) (hg192 : ∀  (s : zy_S) (r : Int32) (s' : zy_S), g192 s = some (r, s') → zyR X d 192 0 [some (.ref (43 + 3)), none, none] [] s (zyE (some (.int r)) s')) (hg193 : ∀  (s : zy_S) (r : Int32) (s' : zy_S), g193 s = some (r, s') → zyR X d 193 0 [some (.ref (43 + 3)), none, none] [] s (zyE (some (.int r)) s')) (hg194 : ∀  (s : zy_S) (r : Int32) (s' : zy_S), g194 s = some (r, s') → zyR X d 194 0 [some (.ref (43 + 3)), none, none, none] [] s (zyE (some (.int r)) s')) (hg195 : ∀  (s : zy_S) (r : Int32) (s' : zy_S), g195 s = some (r, s') → zyR X d 195 0 [some (.ref (43 + 3)), none, none, none] [] s (zyE (some (.int r)) s')) (hg196 : ∀  (s : zy_S) (r : Int32) (s' : zy_S), g196 s = some (r, s') → zyR X d 196 0 [some (.ref (43 + 3)), none, none, none] [] s (zyE (some (.int r)) s')) (hg197 : ∀  (s : zy_S) (r : Int32) (s' : zy_S), g197 s = some (r, s') → zyR X d 197 0 [some (.ref (43 + 3)), none, none, none, none] [] s (zyE (some (.int r)) s')) (hk176 : ∀ (x3 : Int32) (x4 : Int32) (s : zy_S) (r : Int32) (s' : zy_S), k176 x3 x4 s = some (r, s') → zyR X (d + 1) 197 176 [some (.ref (43 + 3)), none, none, some (.int x3), some (.int x4)] [] s (zyE (some (.int r)) s')) {x3 : Int32} {x4 : Int32} {s : zy_S} {r : Int32} {s' : zy_S}  (h : zyF197_176b g192 g193 g194 g195 g196 g197 k176 x3 x4 s = some (r, s')) : zyR X (d + 1) 197 176 [some (.ref (43 + 3)), none, none, some (.int x3), some (.int x4)] [] s (zyE (some (.int r)) s') := by
  unfold zyF197_176b at h
  refine zy_2 rfl rfl (show zyR _ _ _ _ [some (.ref (43 + 3)), none, none, some (.int x3), some (.int x4)] [.int x4] _ _ from ?_)
  refine zy_3 rfl rfl (show zyR _ _ _ _ [some (.ref (43 + 3)), none, none, some (.int x3), some (.int x4)] [.int (4 : Int32), .int x4] _ _ from ?_)
  refine zy_25_3 rfl (fun b8 => (show zyR _ _ _ _ [some (.ref (43 + 3)), none, none, some (.int x3), some (.int x4)] [] _ _ from ?_)) (fun b8 => (show zyR _ _ _ _ [some (.ref (43 + 3)), none, none, some (.int x3), some (.int x4)] [] _ _ from ?_))
  · replace h := zy_ifp h b8
    exact zy_sub (show zy_le [some (.ref (43 + 3)), none, none, some (.int x3), some (.int x4)] [some (.ref (43 + 3)), none, none, some (.int x3), some (.int x4)] from ⟨rfl, ⟨rfl, ⟨rfl, trivial⟩⟩⟩) (zyC197_229 hd hg192 hg193 hg194 hg195 hg196 hg197 h)
  · replace h := zy_ifn h b8
    refine zy_0 rfl rfl (show zyR _ _ _ _ [some (.ref (43 + 3)), none, none, some (.int x3), some (.int x4)] [.ref (43 + 3)] _ _ from ?_)
    obtain ⟨p3, hp3, h⟩ := zy_bind h
    refine zy_5 (c := 43) (as := []) (rest := []) (L := [some (.ref (43 + 3))]) (d' := 1) rfl rfl rfl (Nat.le_of_ble_eq_true rfl) (by omega) rfl (Nat.le_of_ble_eq_true rfl) rfl rfl (zyC198 hp3) ?_
    show zyR _ _ _ _ [some (.ref (43 + 3)), none, none, some (.int x3), some (.int x4)] [.int p3.1] _ _
    refine zy_3 rfl rfl (show zyR _ _ _ _ [some (.ref (43 + 3)), none, none, some (.int x3), some (.int x4)] [.int (48 : Int32), .int p3.1] _ _ from ?_)
    refine zy_25_2 rfl (fun b7 => (show zyR _ _ _ _ [some (.ref (43 + 3)), none, none, some (.int x3), some (.int x4)] [] _ _ from ?_)) (fun b7 => (show zyR _ _ _ _ [some (.ref (43 + 3)), none, none, some (.int x3), some (.int x4)] [] _ _ from ?_))
    · replace h := zy_ifp h b7
      exact zy_sub (show zy_le [some (.ref (43 + 3)), none, none, some (.int x3), some (.int x4)] [some (.ref (43 + 3)), none, none, some (.int x3), some (.int x4)] from ⟨rfl, ⟨rfl, ⟨rfl, trivial⟩⟩⟩) (zyC197_229 hd hg192 hg193 hg194 hg195 hg196 hg197 h)
    · replace h := zy_ifn h b7
      refine zy_0 rfl rfl (show zyR _ _ _ _ [some (.ref (43 + 3)), none, none, some (.int x3), some (.int x4)] [.ref (43 + 3)] _ _ from ?_)
      obtain ⟨p4, hp4, h⟩ := zy_bind h
      refine zy_5 (c := 43) (as := []) (rest := []) (L := [some (.ref (43 + 3))]) (d' := 1) rfl rfl rfl (Nat.le_of_ble_eq_true rfl) (by omega) rfl (Nat.le_of_ble_eq_true rfl) rfl rfl (zyC198 hp4) ?_
      show zyR _ _ _ _ [some (.ref (43 + 3)), none, none, some (.int x3), some (.int x4)] [.int p4.1] _ _
      refine zy_3 rfl rfl (show zyR _ _ _ _ [some (.ref (43 + 3)), none, none, some (.int x3), some (.int x4)] [.int (57 : Int32), .int p4.1] _ _ from ?_)
      refine zy_25_4 rfl (fun b6 => (show zyR _ _ _ _ [some (.ref (43 + 3)), none, none, some (.int x3), some (.int x4)] [] _ _ from ?_)) (fun b6 => (show zyR _ _ _ _ [some (.ref (43 + 3)), none, none, some (.int x3), some (.int x4)] [] _ _ from ?_))
      · replace h := zy_ifp h b6
        exact zy_sub (show zy_le [some (.ref (43 + 3)), none, none, some (.int x3), some (.int x4)] [some (.ref (43 + 3)), none, none, some (.int x3), some (.int x4)] from ⟨rfl, ⟨rfl, ⟨rfl, trivial⟩⟩⟩) (zyC197_229 hd hg192 hg193 hg194 hg195 hg196 hg197 h)
      · replace h := zy_ifn h b6
        refine zy_3 rfl rfl (show zyR _ _ _ _ [some (.ref (43 + 3)), none, none, some (.int x3), some (.int x4)] [.int (10 : Int32)] _ _ from ?_)
        refine zy_2 rfl rfl (show zyR _ _ _ _ [some (.ref (43 + 3)), none, none, some (.int x3), some (.int x4)] [.int x3, .int (10 : Int32)] _ _ from ?_)
        refine zy_12 rfl (show zyR _ _ _ _ [some (.ref (43 + 3)), none, none, some (.int x3), some (.int x4)] [.int ((10 : Int32) * x3)] _ _ from ?_)
        refine zy_0 rfl rfl (show zyR _ _ _ _ [some (.ref (43 + 3)), none, none, some (.int x3), some (.int x4)] [.ref (43 + 3), .int ((10 : Int32) * x3)] _ _ from ?_)
        obtain ⟨p5, hp5, h⟩ := zy_bind h
        refine zy_5 (c := 43) (as := []) (rest := [.int ((10 : Int32) * x3)]) (L := [some (.ref (43 + 3))]) (d' := 1) rfl rfl rfl (Nat.le_of_ble_eq_true rfl) (by omega) rfl (Nat.le_of_ble_eq_true rfl) rfl rfl (zyC198 hp5) ?_
        show zyR _ _ _ _ [some (.ref (43 + 3)), none, none, some (.int x3), some (.int x4)] [.int p5.1, .int ((10 : Int32) * x3)] _ _
        refine zy_10 rfl (show zyR _ _ _ _ [some (.ref (43 + 3)), none, none, some (.int x3), some (.int x4)] [.int (((10 : Int32) * x3) + p5.1)] _ _ from ?_)
        refine zy_3 rfl rfl (show zyR _ _ _ _ [some (.ref (43 + 3)), none, none, some (.int x3), some (.int x4)] [.int (48 : Int32), .int (((10 : Int32) * x3) + p5.1)] _ _ from ?_)
        refine zy_11 rfl (show zyR _ _ _ _ [some (.ref (43 + 3)), none, none, some (.int x3), some (.int x4)] [.int ((((10 : Int32) * x3) + p5.1) - (48 : Int32))] _ _ from ?_)
        refine zy_23 rfl rfl (show zyR _ _ _ _ [some (.ref (43 + 3)), none, none, some (.int ((((10 : Int32) * x3) + p5.1) - (48 : Int32))), some (.int x4)] [] _ _ from ?_)
        refine zy_22 rfl rfl rfl rfl (show zyR _ _ _ _ [some (.ref (43 + 3)), none, none, some (.int ((((10 : Int32) * x3) + p5.1) - (48 : Int32))), some (.int (x4 + (1 : Int32)))] [] _ _ from ?_)
        refine zy_0 rfl rfl (show zyR _ _ _ _ [some (.ref (43 + 3)), none, none, some (.int ((((10 : Int32) * x3) + p5.1) - (48 : Int32))), some (.int (x4 + (1 : Int32)))] [.ref (43 + 3)] _ _ from ?_)
        refine zy_33 rfl rfl (show zyR _ _ _ _ [some (.ref (43 + 3)), none, none, some (.int ((((10 : Int32) * x3) + p5.1) - (48 : Int32))), some (.int (x4 + (1 : Int32)))] [.ref (43 + 3), .ref (43 + 3)] _ _ from ?_)
        refine zy_1 (c := 43) rfl rfl rfl (show zyR _ _ _ _ [some (.ref (43 + 3)), none, none, some (.int ((((10 : Int32) * x3) + p5.1) - (48 : Int32))), some (.int (x4 + (1 : Int32)))] [.int (p5.2.1 43 13), .ref (43 + 3)] _ _ from ?_)
        refine zy_3 rfl rfl (show zyR _ _ _ _ [some (.ref (43 + 3)), none, none, some (.int ((((10 : Int32) * x3) + p5.1) - (48 : Int32))), some (.int (x4 + (1 : Int32)))] [.int (1 : Int32), .int (p5.2.1 43 13), .ref (43 + 3)] _ _ from ?_)
        refine zy_10 rfl (show zyR _ _ _ _ [some (.ref (43 + 3)), none, none, some (.int ((((10 : Int32) * x3) + p5.1) - (48 : Int32))), some (.int (x4 + (1 : Int32)))] [.int ((p5.2.1 43 13) + (1 : Int32)), .ref (43 + 3)] _ _ from ?_)
        refine zy_52 (c := 43) rfl rfl rfl (show zyR _ _ _ _ [some (.ref (43 + 3)), none, none, some (.int ((((10 : Int32) * x3) + p5.1) - (48 : Int32))), some (.int (x4 + (1 : Int32)))] [] _ _ from ?_)
        refine zy_6 rfl (show zyR _ _ _ _ [some (.ref (43 + 3)), none, none, some (.int ((((10 : Int32) * x3) + p5.1) - (48 : Int32))), some (.int (x4 + (1 : Int32)))] [] _ _ from ?_)
        exact zy_sub (show zy_le [some (.ref (43 + 3)), none, none, some (.int ((((10 : Int32) * x3) + p5.1) - (48 : Int32))), some (.int (x4 + (1 : Int32)))] [some (.ref (43 + 3)), none, none, some (.int ((((10 : Int32) * x3) + p5.1) - (48 : Int32))), some (.int (x4 + (1 : Int32)))] from ⟨rfl, ⟨rfl, ⟨rfl, trivial⟩⟩⟩) (hk176 ((((10 : Int32) * x3) + p5.1) - (48 : Int32)) (x4 + (1 : Int32)) (zy_up p5.2 43 13 ((p5.2.1 43 13) + (1 : Int32))) _ _ h)
noncomputable def zyF197_176 (g192 : zy_S → Option (Int32 × zy_S)) (g193 : zy_S → Option (Int32 × zy_S)) (g194 : zy_S → Option (Int32 × zy_S)) (g195 : zy_S → Option (Int32 × zy_S)) (g196 : zy_S → Option (Int32 × zy_S)) (g197 : zy_S → Option (Int32 × zy_S))  (n : Nat) : Int32 → Int32 → zy_S → Option (Int32 × zy_S) := Nat.rec (fun _ _ _ => none) (fun _ k176 => zyF197_176b g192 g193 g194 g195 g196 g197 k176) n
theorem zyC197_176 {X : zx_X} {d : Nat} {g192 : zy_S → Option (Int32 × zy_S)} {g193 : zy_S → Option (Int32 × zy_S)} {g194 : zy_S → Option (Int32 × zy_S)} {g195 : zy_S → Option (Int32 × zy_S)} {g196 : zy_S → Option (Int32 × zy_S)} {g197 : zy_S → Option (Int32 × zy_S)}  (hd : 2 ≤ d) (hg192 : ∀  (s : zy_S) (r : Int32) (s' : zy_S), g192 s = some (r, s') → zyR X d 192 0 [some (.ref (43 + 3)), none, none] [] s (zyE (some (.int r)) s')) (hg193 : ∀  (s : zy_S) (r : Int32) (s' : zy_S), g193 s = some (r, s') → zyR X d 193 0 [some (.ref (43 + 3)), none, none] [] s (zyE (some (.int r)) s')) (hg194 : ∀  (s : zy_S) (r : Int32) (s' : zy_S), g194 s = some (r, s') → zyR X d 194 0 [some (.ref (43 + 3)), none, none, none] [] s (zyE (some (.int r)) s')) (hg195 : ∀  (s : zy_S) (r : Int32) (s' : zy_S), g195 s = some (r, s') → zyR X d 195 0 [some (.ref (43 + 3)), none, none, none] [] s (zyE (some (.int r)) s')) (hg196 : ∀  (s : zy_S) (r : Int32) (s' : zy_S), g196 s = some (r, s') → zyR X d 196 0 [some (.ref (43 + 3)), none, none, none] [] s (zyE (some (.int r)) s')) (hg197 : ∀  (s : zy_S) (r : Int32) (s' : zy_S), g197 s = some (r, s') → zyR X d 197 0 [some (.ref (43 + 3)), none, none, none, none] [] s (zyE (some (.int r)) s'))  : ∀ (n : Nat) (x3 : Int32) (x4 : Int32) (s : zy_S) (r : Int32) (s' : zy_S), zyF197_176 g192 g193 g194 g195 g196 g197 n x3 x4 s = some (r, s') → zyR X (d + 1) 197 176 [some (.ref (43 + 3)), none, none, some (.int x3), some (.int x4)] [] s (zyE (some (.int r)) s')
  | 0, _, _ => by
    intro s r s'  h
    have h : (none : Option (Int32 × zy_S)) = some (r, s') := h
    cases h
  | n + 1, x3, x4 => by
    intro s r s'  h
    exact zyC197_176b hd hg192 hg193 hg194 hg195 hg196 hg197 (k176 := zyF197_176 g192 g193 g194 g195 g196 g197 n) (fun x3 x4 s r s'  h => zyC197_176 hd hg192 hg193 hg194 hg195 hg196 hg197 n x3 x4 s r s'  h) h
noncomputable def zyF197_104 (g192 : zy_S → Option (Int32 × zy_S)) (g193 : zy_S → Option (Int32 × zy_S)) (g194 : zy_S → Option (Int32 × zy_S)) (g195 : zy_S → Option (Int32 × zy_S)) (g196 : zy_S → Option (Int32 × zy_S)) (g197 : zy_S → Option (Int32 × zy_S))  (x1 : Int32) (x2 : Int32) (s : zy_S) : Option (Int32 × zy_S) :=
if x1 ≠ (40 : Int32) then
if x1 ≠ (45 : Int32) then
if x2 ≠ 0 then
some ((0 : Int32), (zy_up s 43 16 ((s.1 43 16) - (1 : Int32))))
else
some ((1 : Int32), (zy_up s 43 16 ((s.1 43 16) - (1 : Int32))))
else
some ((-x2), (zy_up s 43 16 ((s.1 43 16) - (1 : Int32))))
else
some (x2, (zy_up s 43 16 ((s.1 43 16) - (1 : Int32))))
theorem zyC197_104 {X : zx_X} {d : Nat} {g192 : zy_S → Option (Int32 × zy_S)} {g193 : zy_S → Option (Int32 × zy_S)} {g194 : zy_S → Option (Int32 × zy_S)} {g195 : zy_S → Option (Int32 × zy_S)} {g196 : zy_S → Option (Int32 × zy_S)} {g197 : zy_S → Option (Int32 × zy_S)}  (hd : 2 ≤ d) (hg192 : ∀  (s : zy_S) (r : Int32) (s' : zy_S), g192 s = some (r, s') → zyR X d 192 0 [some (.ref (43 + 3)), none, none] [] s (zyE (some (.int r)) s')) (hg193 : ∀  (s : zy_S) (r : Int32) (s' : zy_S), g193 s = some (r, s') → zyR X d 193 0 [some (.ref (43 + 3)), none, none] [] s (zyE (some (.int r)) s')) (hg194 : ∀  (s : zy_S) (r : Int32) (s' : zy_S), g194 s = some (r, s') → zyR X d 194 0 [some (.ref (43 + 3)), none, none, none] [] s (zyE (some (.int r)) s')) (hg195 : ∀  (s : zy_S) (r : Int32) (s' : zy_S), g195 s = some (r, s') → zyR X d 195 0 [some (.ref (43 + 3)), none, none, none] [] s (zyE (some (.int r)) s')) (hg196 : ∀  (s : zy_S) (r : Int32) (s' : zy_S), g196 s = some (r, s') → zyR X d 196 0 [some (.ref (43 + 3)), none, none, none] [] s (zyE (some (.int r)) s')) (hg197 : ∀  (s : zy_S) (r : Int32) (s' : zy_S), g197 s = some (r, s') → zyR X d 197 0 [some (.ref (43 + 3)), none, none, none, none] [] s (zyE (some (.int r)) s'))  {x1 : Int32} {x2 : Int32} {s : zy_S} {r : Int32} {s' : zy_S}  (h : zyF197_104 g192 g193 g194 g195 g196 g197 x1 x2 s = some (r, s')) : zyR X (d + 1) 197 104 [some (.ref (43 + 3)), some (.int x1), some (.int x2), none, none] [] s (zyE (some (.int r)) s') := by
  unfold zyF197_104 at h
  refine zy_0 rfl rfl (show zyR _ _ _ _ [some (.ref (43 + 3)), some (.int x1), some (.int x2), none, none] [.ref (43 + 3)] _ _ from ?_)
  refine zy_33 rfl rfl (show zyR _ _ _ _ [some (.ref (43 + 3)), some (.int x1), some (.int x2), none, none] [.ref (43 + 3), .ref (43 + 3)] _ _ from ?_)
  refine zy_1 (c := 43) rfl rfl rfl (show zyR _ _ _ _ [some (.ref (43 + 3)), some (.int x1), some (.int x2), none, none] [.int (s.1 43 16), .ref (43 + 3)] _ _ from ?_)
  refine zy_3 rfl rfl (show zyR _ _ _ _ [some (.ref (43 + 3)), some (.int x1), some (.int x2), none, none] [.int (1 : Int32), .int (s.1 43 16), .ref (43 + 3)] _ _ from ?_)
  refine zy_11 rfl (show zyR _ _ _ _ [some (.ref (43 + 3)), some (.int x1), some (.int x2), none, none] [.int ((s.1 43 16) - (1 : Int32)), .ref (43 + 3)] _ _ from ?_)
  refine zy_52 (c := 43) rfl rfl rfl (show zyR _ _ _ _ [some (.ref (43 + 3)), some (.int x1), some (.int x2), none, none] [] _ _ from ?_)
  refine zy_2 rfl rfl (show zyR _ _ _ _ [some (.ref (43 + 3)), some (.int x1), some (.int x2), none, none] [.int x1] _ _ from ?_)
  refine zy_3 rfl rfl (show zyR _ _ _ _ [some (.ref (43 + 3)), some (.int x1), some (.int x2), none, none] [.int (40 : Int32), .int x1] _ _ from ?_)
  refine zy_25_1 rfl (fun b11 => (show zyR _ _ _ _ [some (.ref (43 + 3)), some (.int x1), some (.int x2), none, none] [] _ _ from ?_)) (fun b11 => (show zyR _ _ _ _ [some (.ref (43 + 3)), some (.int x1), some (.int x2), none, none] [] _ _ from ?_))
  · replace h := zy_ifp h b11
    refine zy_2 rfl rfl (show zyR _ _ _ _ [some (.ref (43 + 3)), some (.int x1), some (.int x2), none, none] [.int x1] _ _ from ?_)
    refine zy_3 rfl rfl (show zyR _ _ _ _ [some (.ref (43 + 3)), some (.int x1), some (.int x2), none, none] [.int (45 : Int32), .int x1] _ _ from ?_)
    refine zy_25_1 rfl (fun b10 => (show zyR _ _ _ _ [some (.ref (43 + 3)), some (.int x1), some (.int x2), none, none] [] _ _ from ?_)) (fun b10 => (show zyR _ _ _ _ [some (.ref (43 + 3)), some (.int x1), some (.int x2), none, none] [] _ _ from ?_))
    · replace h := zy_ifp h b10
      refine zy_2 rfl rfl (show zyR _ _ _ _ [some (.ref (43 + 3)), some (.int x1), some (.int x2), none, none] [.int x2] _ _ from ?_)
      refine zy_24_1 rfl (fun b9 => (show zyR _ _ _ _ [some (.ref (43 + 3)), some (.int x1), some (.int x2), none, none] [] _ _ from ?_)) (fun b9 => (show zyR _ _ _ _ [some (.ref (43 + 3)), some (.int x1), some (.int x2), none, none] [] _ _ from ?_))
      · replace h := zy_ifp h b9
        refine zy_3 rfl rfl (show zyR _ _ _ _ [some (.ref (43 + 3)), some (.int x1), some (.int x2), none, none] [.int (0 : Int32)] _ _ from ?_)
        obtain ⟨rfl, rfl⟩ := zy_pi h
        exact zy_4 rfl ⟨rfl, rfl⟩
      · replace h := zy_ifn h b9
        refine zy_3 rfl rfl (show zyR _ _ _ _ [some (.ref (43 + 3)), some (.int x1), some (.int x2), none, none] [.int (1 : Int32)] _ _ from ?_)
        refine zy_6 rfl (show zyR _ _ _ _ [some (.ref (43 + 3)), some (.int x1), some (.int x2), none, none] [.int (1 : Int32)] _ _ from ?_)
        obtain ⟨rfl, rfl⟩ := zy_pi h
        exact zy_4 rfl ⟨rfl, rfl⟩
    · replace h := zy_ifn h b10
      refine zy_2 rfl rfl (show zyR _ _ _ _ [some (.ref (43 + 3)), some (.int x1), some (.int x2), none, none] [.int x2] _ _ from ?_)
      refine zy_21 rfl (show zyR _ _ _ _ [some (.ref (43 + 3)), some (.int x1), some (.int x2), none, none] [.int (-x2)] _ _ from ?_)
      refine zy_6 rfl (show zyR _ _ _ _ [some (.ref (43 + 3)), some (.int x1), some (.int x2), none, none] [.int (-x2)] _ _ from ?_)
      obtain ⟨rfl, rfl⟩ := zy_pi h
      exact zy_4 rfl ⟨rfl, rfl⟩
  · replace h := zy_ifn h b11
    refine zy_2 rfl rfl (show zyR _ _ _ _ [some (.ref (43 + 3)), some (.int x1), some (.int x2), none, none] [.int x2] _ _ from ?_)
    refine zy_6 rfl (show zyR _ _ _ _ [some (.ref (43 + 3)), some (.int x1), some (.int x2), none, none] [.int x2] _ _ from ?_)
    obtain ⟨rfl, rfl⟩ := zy_pi h
    exact zy_4 rfl ⟨rfl, rfl⟩
noncomputable def zyF197_83 (g192 : zy_S → Option (Int32 × zy_S)) (g193 : zy_S → Option (Int32 × zy_S)) (g194 : zy_S → Option (Int32 × zy_S)) (g195 : zy_S → Option (Int32 × zy_S)) (g196 : zy_S → Option (Int32 × zy_S)) (g197 : zy_S → Option (Int32 × zy_S))  (x1 : Int32) (y0 : Int32) (s : zy_S) : Option (Int32 × zy_S) :=
if x1 ≠ (40 : Int32) then
zyF197_104 g192 g193 g194 g195 g196 g197 x1 y0 s
else
(zyF200 (41 : Int32) s).bind fun p12 =>
if p12.1 ≠ 0 then
zyF197_104 g192 g193 g194 g195 g196 g197 x1 y0 p12.2
else
(zyF199 p12.2).bind fun p13 =>
some (p13.1, p13.2)
theorem zyC197_83 {X : zx_X} {d : Nat} {g192 : zy_S → Option (Int32 × zy_S)} {g193 : zy_S → Option (Int32 × zy_S)} {g194 : zy_S → Option (Int32 × zy_S)} {g195 : zy_S → Option (Int32 × zy_S)} {g196 : zy_S → Option (Int32 × zy_S)} {g197 : zy_S → Option (Int32 × zy_S)}  (hd : 2 ≤ d) (hg192 : ∀  (s : zy_S) (r : Int32) (s' : zy_S), g192 s = some (r, s') → zyR X d 192 0 [some (.ref (43 + 3)), none, none] [] s (zyE (some (.int r)) s')) (hg193 : ∀  (s : zy_S) (r : Int32) (s' : zy_S), g193 s = some (r, s') → zyR X d 193 0 [some (.ref (43 + 3)), none, none] [] s (zyE (some (.int r)) s')) (hg194 : ∀  (s : zy_S) (r : Int32) (s' : zy_S), g194 s = some (r, s') → zyR X d 194 0 [some (.ref (43 + 3)), none, none, none] [] s (zyE (some (.int r)) s')) (hg195 : ∀  (s : zy_S) (r : Int32) (s' : zy_S), g195 s = some (r, s') → zyR X d 195 0 [some (.ref (43 + 3)), none, none, none] [] s (zyE (some (.int r)) s')) (hg196 : ∀  (s : zy_S) (r : Int32) (s' : zy_S), g196 s = some (r, s') → zyR X d 196 0 [some (.ref (43 + 3)), none, none, none] [] s (zyE (some (.int r)) s')) (hg197 : ∀  (s : zy_S) (r : Int32) (s' : zy_S), g197 s = some (r, s') → zyR X d 197 0 [some (.ref (43 + 3)), none, none, none, none] [] s (zyE (some (.int r)) s'))  {x1 : Int32} {y0 : Int32} {s : zy_S} {r : Int32} {s' : zy_S}  (h : zyF197_83 g192 g193 g194 g195 g196 g197 x1 y0 s = some (r, s')) : zyR X (d + 1) 197 83 [some (.ref (43 + 3)), some (.int x1), none, none, none] [.int y0] s (zyE (some (.int r)) s') := by
  unfold zyF197_83 at h
  refine zy_23 rfl rfl (show zyR _ _ _ _ [some (.ref (43 + 3)), some (.int x1), some (.int y0), none, none] [] _ _ from ?_)
  refine zy_2 rfl rfl (show zyR _ _ _ _ [some (.ref (43 + 3)), some (.int x1), some (.int y0), none, none] [.int x1] _ _ from ?_)
  refine zy_3 rfl rfl (show zyR _ _ _ _ [some (.ref (43 + 3)), some (.int x1), some (.int y0), none, none] [.int (40 : Int32), .int x1] _ _ from ?_)
  refine zy_25_1 rfl (fun b15 => (show zyR _ _ _ _ [some (.ref (43 + 3)), some (.int x1), some (.int y0), none, none] [] _ _ from ?_)) (fun b15 => (show zyR _ _ _ _ [some (.ref (43 + 3)), some (.int x1), some (.int y0), none, none] [] _ _ from ?_))
  · replace h := zy_ifp h b15
    exact zy_sub (show zy_le [some (.ref (43 + 3)), some (.int x1), some (.int y0), none, none] [some (.ref (43 + 3)), some (.int x1), some (.int y0), none, none] from ⟨rfl, ⟨rfl, ⟨rfl, trivial⟩⟩⟩) (zyC197_104 hd hg192 hg193 hg194 hg195 hg196 hg197 h)
  · replace h := zy_ifn h b15
    refine zy_0 rfl rfl (show zyR _ _ _ _ [some (.ref (43 + 3)), some (.int x1), some (.int y0), none, none] [.ref (43 + 3)] _ _ from ?_)
    refine zy_3 rfl rfl (show zyR _ _ _ _ [some (.ref (43 + 3)), some (.int x1), some (.int y0), none, none] [.int (41 : Int32), .ref (43 + 3)] _ _ from ?_)
    obtain ⟨p12, hp12, h⟩ := zy_bind h
    refine zy_5 (c := 43) (as := [.int (41 : Int32)]) (rest := []) (L := [some (.ref (43 + 3)), some (.int (41 : Int32))]) (d' := 2) rfl rfl rfl (Nat.le_of_ble_eq_true rfl) (by omega) rfl (Nat.le_of_ble_eq_true rfl) rfl rfl (zyC200 hp12) ?_
    show zyR _ _ _ _ [some (.ref (43 + 3)), some (.int x1), some (.int y0), none, none] [.int p12.1] _ _
    refine zy_24_1 rfl (fun b14 => (show zyR _ _ _ _ [some (.ref (43 + 3)), some (.int x1), some (.int y0), none, none] [] _ _ from ?_)) (fun b14 => (show zyR _ _ _ _ [some (.ref (43 + 3)), some (.int x1), some (.int y0), none, none] [] _ _ from ?_))
    · replace h := zy_ifp h b14
      exact zy_sub (show zy_le [some (.ref (43 + 3)), some (.int x1), some (.int y0), none, none] [some (.ref (43 + 3)), some (.int x1), some (.int y0), none, none] from ⟨rfl, ⟨rfl, ⟨rfl, trivial⟩⟩⟩) (zyC197_104 hd hg192 hg193 hg194 hg195 hg196 hg197 h)
    · replace h := zy_ifn h b14
      refine zy_0 rfl rfl (show zyR _ _ _ _ [some (.ref (43 + 3)), some (.int x1), some (.int y0), none, none] [.ref (43 + 3)] _ _ from ?_)
      obtain ⟨p13, hp13, h⟩ := zy_bind h
      refine zy_5 (c := 43) (as := []) (rest := []) (L := [some (.ref (43 + 3))]) (d' := 1) rfl rfl rfl (Nat.le_of_ble_eq_true rfl) (by omega) rfl (Nat.le_of_ble_eq_true rfl) rfl rfl (zyC199 hp13) ?_
      show zyR _ _ _ _ [some (.ref (43 + 3)), some (.int x1), some (.int y0), none, none] [.int p13.1] _ _
      obtain ⟨rfl, rfl⟩ := zy_pi h
      exact zy_4 rfl ⟨rfl, rfl⟩
noncomputable def zyF197_32 (g192 : zy_S → Option (Int32 × zy_S)) (g193 : zy_S → Option (Int32 × zy_S)) (g194 : zy_S → Option (Int32 × zy_S)) (g195 : zy_S → Option (Int32 × zy_S)) (g196 : zy_S → Option (Int32 × zy_S)) (g197 : zy_S → Option (Int32 × zy_S))  (x1 : Int32) (s : zy_S) : Option (Int32 × zy_S) :=
if (s.1 43 16) ≠ (6 : Int32) then
if x1 ≠ (40 : Int32) then
(g197 (zy_up (zy_up s 43 16 ((s.1 43 16) + (1 : Int32))) 43 13 ((s.1 43 13) + (1 : Int32)))).bind fun p16 =>
zyF197_83 g192 g193 g194 g195 g196 g197 x1 p16.1 p16.2
else
(g192 (zy_up (zy_up s 43 16 ((s.1 43 16) + (1 : Int32))) 43 13 ((s.1 43 13) + (1 : Int32)))).bind fun p17 =>
zyF197_83 g192 g193 g194 g195 g196 g197 x1 p17.1 p17.2
else
(zyF199 s).bind fun p19 =>
some (p19.1, p19.2)
theorem zyC197_32 {X : zx_X} {d : Nat} {g192 : zy_S → Option (Int32 × zy_S)} {g193 : zy_S → Option (Int32 × zy_S)} {g194 : zy_S → Option (Int32 × zy_S)} {g195 : zy_S → Option (Int32 × zy_S)} {g196 : zy_S → Option (Int32 × zy_S)} {g197 : zy_S → Option (Int32 × zy_S)}  (hd : 2 ≤ d) (hg192 : ∀  (s : zy_S) (r : Int32) (s' : zy_S), g192 s = some (r, s') → zyR X d 192 0 [some (.ref (43 + 3)), none, none] [] s (zyE (some (.int r)) s')) (hg193 : ∀  (s : zy_S) (r : Int32) (s' : zy_S), g193 s = some (r, s') → zyR X d 193 0 [some (.ref (43 + 3)), none, none] [] s (zyE (some (.int r)) s')) (hg194 : ∀  (s : zy_S) (r : Int32) (s' : zy_S), g194 s = some (r, s') → zyR X d 194 0 [some (.ref (43 + 3)), none, none, none] [] s (zyE (some (.int r)) s')) (hg195 : ∀  (s : zy_S) (r : Int32) (s' : zy_S), g195 s = some (r, s') → zyR X d 195 0 [some (.ref (43 + 3)), none, none, none] [] s (zyE (some (.int r)) s')) (hg196 : ∀  (s : zy_S) (r : Int32) (s' : zy_S), g196 s = some (r, s') → zyR X d 196 0 [some (.ref (43 + 3)), none, none, none] [] s (zyE (some (.int r)) s')) (hg197 : ∀  (s : zy_S) (r : Int32) (s' : zy_S), g197 s = some (r, s') → zyR X d 197 0 [some (.ref (43 + 3)), none, none, none, none] [] s (zyE (some (.int r)) s'))  {x1 : Int32} {s : zy_S} {r : Int32} {s' : zy_S}  (h : zyF197_32 g192 g193 g194 g195 g196 g197 x1 s = some (r, s')) : zyR X (d + 1) 197 32 [some (.ref (43 + 3)), some (.int x1), none, none, none] [] s (zyE (some (.int r)) s') := by
  unfold zyF197_32 at h
  refine zy_0 rfl rfl (show zyR _ _ _ _ [some (.ref (43 + 3)), some (.int x1), none, none, none] [.ref (43 + 3)] _ _ from ?_)
  refine zy_1 (c := 43) rfl rfl rfl (show zyR _ _ _ _ [some (.ref (43 + 3)), some (.int x1), none, none, none] [.int (s.1 43 16)] _ _ from ?_)
  refine zy_3 rfl rfl (show zyR _ _ _ _ [some (.ref (43 + 3)), some (.int x1), none, none, none] [.int (6 : Int32), .int (s.1 43 16)] _ _ from ?_)
  refine zy_25_1 rfl (fun b20 => (show zyR _ _ _ _ [some (.ref (43 + 3)), some (.int x1), none, none, none] [] _ _ from ?_)) (fun b20 => (show zyR _ _ _ _ [some (.ref (43 + 3)), some (.int x1), none, none, none] [] _ _ from ?_))
  · replace h := zy_ifp h b20
    refine zy_0 rfl rfl (show zyR _ _ _ _ [some (.ref (43 + 3)), some (.int x1), none, none, none] [.ref (43 + 3)] _ _ from ?_)
    refine zy_33 rfl rfl (show zyR _ _ _ _ [some (.ref (43 + 3)), some (.int x1), none, none, none] [.ref (43 + 3), .ref (43 + 3)] _ _ from ?_)
    refine zy_1 (c := 43) rfl rfl rfl (show zyR _ _ _ _ [some (.ref (43 + 3)), some (.int x1), none, none, none] [.int (s.1 43 16), .ref (43 + 3)] _ _ from ?_)
    refine zy_3 rfl rfl (show zyR _ _ _ _ [some (.ref (43 + 3)), some (.int x1), none, none, none] [.int (1 : Int32), .int (s.1 43 16), .ref (43 + 3)] _ _ from ?_)
    refine zy_10 rfl (show zyR _ _ _ _ [some (.ref (43 + 3)), some (.int x1), none, none, none] [.int ((s.1 43 16) + (1 : Int32)), .ref (43 + 3)] _ _ from ?_)
    refine zy_52 (c := 43) rfl rfl rfl (show zyR _ _ _ _ [some (.ref (43 + 3)), some (.int x1), none, none, none] [] _ _ from ?_)
    refine zy_0 rfl rfl (show zyR _ _ _ _ [some (.ref (43 + 3)), some (.int x1), none, none, none] [.ref (43 + 3)] _ _ from ?_)
    refine zy_33 rfl rfl (show zyR _ _ _ _ [some (.ref (43 + 3)), some (.int x1), none, none, none] [.ref (43 + 3), .ref (43 + 3)] _ _ from ?_)
    refine zy_1 (c := 43) rfl rfl rfl (show zyR _ _ _ _ [some (.ref (43 + 3)), some (.int x1), none, none, none] [.int (s.1 43 13), .ref (43 + 3)] _ _ from ?_)
    refine zy_3 rfl rfl (show zyR _ _ _ _ [some (.ref (43 + 3)), some (.int x1), none, none, none] [.int (1 : Int32), .int (s.1 43 13), .ref (43 + 3)] _ _ from ?_)
    refine zy_10 rfl (show zyR _ _ _ _ [some (.ref (43 + 3)), some (.int x1), none, none, none] [.int ((s.1 43 13) + (1 : Int32)), .ref (43 + 3)] _ _ from ?_)
    refine zy_52 (c := 43) rfl rfl rfl (show zyR _ _ _ _ [some (.ref (43 + 3)), some (.int x1), none, none, none] [] _ _ from ?_)
    refine zy_2 rfl rfl (show zyR _ _ _ _ [some (.ref (43 + 3)), some (.int x1), none, none, none] [.int x1] _ _ from ?_)
    refine zy_3 rfl rfl (show zyR _ _ _ _ [some (.ref (43 + 3)), some (.int x1), none, none, none] [.int (40 : Int32), .int x1] _ _ from ?_)
    refine zy_25_1 rfl (fun b18 => (show zyR _ _ _ _ [some (.ref (43 + 3)), some (.int x1), none, none, none] [] _ _ from ?_)) (fun b18 => (show zyR _ _ _ _ [some (.ref (43 + 3)), some (.int x1), none, none, none] [] _ _ from ?_))
    · replace h := zy_ifp h b18
      refine zy_0 rfl rfl (show zyR _ _ _ _ [some (.ref (43 + 3)), some (.int x1), none, none, none] [.ref (43 + 3)] _ _ from ?_)
      obtain ⟨p16, hp16, h⟩ := zy_bind h
      refine zy_5 (c := 43) (as := []) (rest := []) (L := [some (.ref (43 + 3)), none, none, none, none]) (d' := d) rfl rfl rfl (Nat.le_of_ble_eq_true rfl) (by omega) rfl (Nat.le_of_ble_eq_true rfl) rfl rfl (hg197 (zy_up (zy_up s 43 16 ((s.1 43 16) + (1 : Int32))) 43 13 ((s.1 43 13) + (1 : Int32))) _ _ hp16) ?_
      show zyR _ _ _ _ [some (.ref (43 + 3)), some (.int x1), none, none, none] [.int p16.1] _ _
      exact zy_sub (show zy_le [some (.ref (43 + 3)), some (.int x1), none, none, none] [some (.ref (43 + 3)), some (.int x1), none, none, none] from ⟨rfl, ⟨rfl, trivial⟩⟩) (zyC197_83 hd hg192 hg193 hg194 hg195 hg196 hg197 h)
    · replace h := zy_ifn h b18
      refine zy_0 rfl rfl (show zyR _ _ _ _ [some (.ref (43 + 3)), some (.int x1), none, none, none] [.ref (43 + 3)] _ _ from ?_)
      obtain ⟨p17, hp17, h⟩ := zy_bind h
      refine zy_5 (c := 43) (as := []) (rest := []) (L := [some (.ref (43 + 3)), none, none]) (d' := d) rfl rfl rfl (Nat.le_of_ble_eq_true rfl) (by omega) rfl (Nat.le_of_ble_eq_true rfl) rfl rfl (hg192 (zy_up (zy_up s 43 16 ((s.1 43 16) + (1 : Int32))) 43 13 ((s.1 43 13) + (1 : Int32))) _ _ hp17) ?_
      show zyR _ _ _ _ [some (.ref (43 + 3)), some (.int x1), none, none, none] [.int p17.1] _ _
      refine zy_6 rfl (show zyR _ _ _ _ [some (.ref (43 + 3)), some (.int x1), none, none, none] [.int p17.1] _ _ from ?_)
      exact zy_sub (show zy_le [some (.ref (43 + 3)), some (.int x1), none, none, none] [some (.ref (43 + 3)), some (.int x1), none, none, none] from ⟨rfl, ⟨rfl, trivial⟩⟩) (zyC197_83 hd hg192 hg193 hg194 hg195 hg196 hg197 h)
  · replace h := zy_ifn h b20
    refine zy_0 rfl rfl (show zyR _ _ _ _ [some (.ref (43 + 3)), some (.int x1), none, none, none] [.ref (43 + 3)] _ _ from ?_)
    obtain ⟨p19, hp19, h⟩ := zy_bind h
    refine zy_5 (c := 43) (as := []) (rest := []) (L := [some (.ref (43 + 3))]) (d' := 1) rfl rfl rfl (Nat.le_of_ble_eq_true rfl) (by omega) rfl (Nat.le_of_ble_eq_true rfl) rfl rfl (zyC199 hp19) ?_
    show zyR _ _ _ _ [some (.ref (43 + 3)), some (.int x1), none, none, none] [.int p19.1] _ _
    obtain ⟨rfl, rfl⟩ := zy_pi h
    exact zy_4 rfl ⟨rfl, rfl⟩
noncomputable def zyF197_0 (g192 : zy_S → Option (Int32 × zy_S)) (g193 : zy_S → Option (Int32 × zy_S)) (g194 : zy_S → Option (Int32 × zy_S)) (g195 : zy_S → Option (Int32 × zy_S)) (g196 : zy_S → Option (Int32 × zy_S)) (g197 : zy_S → Option (Int32 × zy_S))   (s : zy_S) : Option (Int32 × zy_S) :=
if (s.1 43 15) < 0 then
(zyF198 s).bind fun p21 =>
if p21.1 = (33 : Int32) then
zyF197_32 g192 g193 g194 g195 g196 g197 p21.1 p21.2
else
if p21.1 = (45 : Int32) then
zyF197_32 g192 g193 g194 g195 g196 g197 p21.1 p21.2
else
if p21.1 ≠ (40 : Int32) then
(zyF201 p21.1 p21.2).bind fun p22 =>
if p22.1 < 0 then
zyF197_176 g192 g193 g194 g195 g196 g197 zy_fu (0 : Int32) (0 : Int32) p22.2
else
if zy_in p22.1 6 then
some ((p22.2.1 50 (p22.1).toNatClampNeg), (zy_up p22.2 43 13 ((p22.2.1 43 13) + (1 : Int32))))
else none
else
zyF197_32 g192 g193 g194 g195 g196 g197 p21.1 p21.2
else
some ((0 : Int32), s)
theorem zyC197_0 {X : zx_X} {d : Nat} {g192 : zy_S → Option (Int32 × zy_S)} {g193 : zy_S → Option (Int32 × zy_S)} {g194 : zy_S → Option (Int32 × zy_S)} {g195 : zy_S → Option (Int32 × zy_S)} {g196 : zy_S → Option (Int32 × zy_S)} {g197 : zy_S → Option (Int32 × zy_S)}  (hd : 2 ≤ d) (hg192 : ∀  (s : zy_S) (r : Int32) (s' : zy_S), g192 s = some (r, s') → zyR X d 192 0 [some (.ref (43 + 3)), none, none] [] s (zyE (some (.int r)) s')) (hg193 : ∀  (s : zy_S) (r : Int32) (s' : zy_S), g193 s = some (r, s') → zyR X d 193 0 [some (.ref (43 + 3)), none, none] [] s (zyE (some (.int r)) s')) (hg194 : ∀  (s : zy_S) (r : Int32) (s' : zy_S), g194 s = some (r, s') → zyR X d 194 0 [some (.ref (43 + 3)), none, none, none] [] s (zyE (some (.int r)) s')) (hg195 : ∀  (s : zy_S) (r : Int32) (s' : zy_S), g195 s = some (r, s') → zyR X d 195 0 [some (.ref (43 + 3)), none, none, none] [] s (zyE (some (.int r)) s')) (hg196 : ∀  (s : zy_S) (r : Int32) (s' : zy_S), g196 s = some (r, s') → zyR X d 196 0 [some (.ref (43 + 3)), none, none, none] [] s (zyE (some (.int r)) s')) (hg197 : ∀  (s : zy_S) (r : Int32) (s' : zy_S), g197 s = some (r, s') → zyR X d 197 0 [some (.ref (43 + 3)), none, none, none, none] [] s (zyE (some (.int r)) s'))   {s : zy_S} {r : Int32} {s' : zy_S}  (h : zyF197_0 g192 g193 g194 g195 g196 g197 s = some (r, s')) : zyR X (d + 1) 197 0 [some (.ref (43 + 3)), none, none, none, none] [] s (zyE (some (.int r)) s') := by
  unfold zyF197_0 at h
  refine zy_0 rfl rfl (show zyR _ _ _ _ [some (.ref (43 + 3)), none, none, none, none] [.ref (43 + 3)] _ _ from ?_)
  refine zy_1 (c := 43) rfl rfl rfl (show zyR _ _ _ _ [some (.ref (43 + 3)), none, none, none, none] [.int (s.1 43 15)] _ _ from ?_)
  refine zy_24_2 rfl (fun b28 => (show zyR _ _ _ _ [some (.ref (43 + 3)), none, none, none, none] [] _ _ from ?_)) (fun b28 => (show zyR _ _ _ _ [some (.ref (43 + 3)), none, none, none, none] [] _ _ from ?_))
  · replace h := zy_ifp h b28
    refine zy_0 rfl rfl (show zyR _ _ _ _ [some (.ref (43 + 3)), none, none, none, none] [.ref (43 + 3)] _ _ from ?_)
    obtain ⟨p21, hp21, h⟩ := zy_bind h
    refine zy_5 (c := 43) (as := []) (rest := []) (L := [some (.ref (43 + 3))]) (d' := 1) rfl rfl rfl (Nat.le_of_ble_eq_true rfl) (by omega) rfl (Nat.le_of_ble_eq_true rfl) rfl rfl (zyC198 hp21) ?_
    show zyR _ _ _ _ [some (.ref (43 + 3)), none, none, none, none] [.int p21.1] _ _
    refine zy_23 rfl rfl (show zyR _ _ _ _ [some (.ref (43 + 3)), some (.int p21.1), none, none, none] [] _ _ from ?_)
    refine zy_2 rfl rfl (show zyR _ _ _ _ [some (.ref (43 + 3)), some (.int p21.1), none, none, none] [.int p21.1] _ _ from ?_)
    refine zy_3 rfl rfl (show zyR _ _ _ _ [some (.ref (43 + 3)), some (.int p21.1), none, none, none] [.int (33 : Int32), .int p21.1] _ _ from ?_)
    refine zy_25_0 rfl (fun b27 => (show zyR _ _ _ _ [some (.ref (43 + 3)), some (.int p21.1), none, none, none] [] _ _ from ?_)) (fun b27 => (show zyR _ _ _ _ [some (.ref (43 + 3)), some (.int p21.1), none, none, none] [] _ _ from ?_))
    · replace h := zy_ifp h b27
      exact zy_sub (show zy_le [some (.ref (43 + 3)), some (.int p21.1), none, none, none] [some (.ref (43 + 3)), some (.int p21.1), none, none, none] from ⟨rfl, ⟨rfl, trivial⟩⟩) (zyC197_32 hd hg192 hg193 hg194 hg195 hg196 hg197 h)
    · replace h := zy_ifn h b27
      refine zy_2 rfl rfl (show zyR _ _ _ _ [some (.ref (43 + 3)), some (.int p21.1), none, none, none] [.int p21.1] _ _ from ?_)
      refine zy_3 rfl rfl (show zyR _ _ _ _ [some (.ref (43 + 3)), some (.int p21.1), none, none, none] [.int (45 : Int32), .int p21.1] _ _ from ?_)
      refine zy_25_0 rfl (fun b26 => (show zyR _ _ _ _ [some (.ref (43 + 3)), some (.int p21.1), none, none, none] [] _ _ from ?_)) (fun b26 => (show zyR _ _ _ _ [some (.ref (43 + 3)), some (.int p21.1), none, none, none] [] _ _ from ?_))
      · replace h := zy_ifp h b26
        exact zy_sub (show zy_le [some (.ref (43 + 3)), some (.int p21.1), none, none, none] [some (.ref (43 + 3)), some (.int p21.1), none, none, none] from ⟨rfl, ⟨rfl, trivial⟩⟩) (zyC197_32 hd hg192 hg193 hg194 hg195 hg196 hg197 h)
      · replace h := zy_ifn h b26
        refine zy_2 rfl rfl (show zyR _ _ _ _ [some (.ref (43 + 3)), some (.int p21.1), none, none, none] [.int p21.1] _ _ from ?_)
        refine zy_3 rfl rfl (show zyR _ _ _ _ [some (.ref (43 + 3)), some (.int p21.1), none, none, none] [.int (40 : Int32), .int p21.1] _ _ from ?_)
        refine zy_25_1 rfl (fun b25 => (show zyR _ _ _ _ [some (.ref (43 + 3)), some (.int p21.1), none, none, none] [] _ _ from ?_)) (fun b25 => (show zyR _ _ _ _ [some (.ref (43 + 3)), some (.int p21.1), none, none, none] [] _ _ from ?_))
        · replace h := zy_ifp h b25
          refine zy_2 rfl rfl (show zyR _ _ _ _ [some (.ref (43 + 3)), some (.int p21.1), none, none, none] [.int p21.1] _ _ from ?_)
          obtain ⟨p22, hp22, h⟩ := zy_bind h
          refine zy_60 (as := [.int p21.1]) (rest := []) (L := [some (.int p21.1)]) (d' := 1) rfl rfl (Nat.le_of_ble_eq_true rfl) (by omega) rfl (Nat.le_of_ble_eq_true rfl) rfl rfl (zyC201 hp22) ?_
          show zyR _ _ _ _ [some (.ref (43 + 3)), some (.int p21.1), none, none, none] [.int p22.1] _ _
          refine zy_23 rfl rfl (show zyR _ _ _ _ [some (.ref (43 + 3)), some (.int p21.1), some (.int p22.1), none, none] [] _ _ from ?_)
          refine zy_2 rfl rfl (show zyR _ _ _ _ [some (.ref (43 + 3)), some (.int p21.1), some (.int p22.1), none, none] [.int p22.1] _ _ from ?_)
          refine zy_24_2 rfl (fun b24 => (show zyR _ _ _ _ [some (.ref (43 + 3)), some (.int p21.1), some (.int p22.1), none, none] [] _ _ from ?_)) (fun b24 => (show zyR _ _ _ _ [some (.ref (43 + 3)), some (.int p21.1), some (.int p22.1), none, none] [] _ _ from ?_))
          · replace h := zy_ifp h b24
            refine zy_3 rfl rfl (show zyR _ _ _ _ [some (.ref (43 + 3)), some (.int p21.1), some (.int p22.1), none, none] [.int (0 : Int32)] _ _ from ?_)
            refine zy_23 rfl rfl (show zyR _ _ _ _ [some (.ref (43 + 3)), some (.int p21.1), some (.int p22.1), some (.int (0 : Int32)), none] [] _ _ from ?_)
            refine zy_3 rfl rfl (show zyR _ _ _ _ [some (.ref (43 + 3)), some (.int p21.1), some (.int p22.1), some (.int (0 : Int32)), none] [.int (0 : Int32)] _ _ from ?_)
            refine zy_23 rfl rfl (show zyR _ _ _ _ [some (.ref (43 + 3)), some (.int p21.1), some (.int p22.1), some (.int (0 : Int32)), some (.int (0 : Int32))] [] _ _ from ?_)
            exact zy_sub (show zy_le [some (.ref (43 + 3)), none, none, some (.int (0 : Int32)), some (.int (0 : Int32))] [some (.ref (43 + 3)), some (.int p21.1), some (.int p22.1), some (.int (0 : Int32)), some (.int (0 : Int32))] from ⟨rfl, ⟨rfl, ⟨rfl, trivial⟩⟩⟩) (zyC197_176 hd hg192 hg193 hg194 hg195 hg196 hg197 zy_fu (0 : Int32) (0 : Int32) p22.2 _ _ h)
          · replace h := zy_ifn h b24
            refine zy_0 rfl rfl (show zyR _ _ _ _ [some (.ref (43 + 3)), some (.int p21.1), some (.int p22.1), none, none] [.ref (43 + 3)] _ _ from ?_)
            refine zy_33 rfl rfl (show zyR _ _ _ _ [some (.ref (43 + 3)), some (.int p21.1), some (.int p22.1), none, none] [.ref (43 + 3), .ref (43 + 3)] _ _ from ?_)
            refine zy_1 (c := 43) rfl rfl rfl (show zyR _ _ _ _ [some (.ref (43 + 3)), some (.int p21.1), some (.int p22.1), none, none] [.int (p22.2.1 43 13), .ref (43 + 3)] _ _ from ?_)
            refine zy_3 rfl rfl (show zyR _ _ _ _ [some (.ref (43 + 3)), some (.int p21.1), some (.int p22.1), none, none] [.int (1 : Int32), .int (p22.2.1 43 13), .ref (43 + 3)] _ _ from ?_)
            refine zy_10 rfl (show zyR _ _ _ _ [some (.ref (43 + 3)), some (.int p21.1), some (.int p22.1), none, none] [.int ((p22.2.1 43 13) + (1 : Int32)), .ref (43 + 3)] _ _ from ?_)
            refine zy_52 (c := 43) rfl rfl rfl (show zyR _ _ _ _ [some (.ref (43 + 3)), some (.int p21.1), some (.int p22.1), none, none] [] _ _ from ?_)
            refine zy_0 rfl rfl (show zyR _ _ _ _ [some (.ref (43 + 3)), some (.int p21.1), some (.int p22.1), none, none] [.ref (43 + 3)] _ _ from ?_)
            refine zy_1r (c := 43) rfl rfl rfl (show zyR _ _ _ _ [some (.ref (43 + 3)), some (.int p21.1), some (.int p22.1), none, none] [.ref (50 + 3)] _ _ from ?_)
            refine zy_2 rfl rfl (show zyR _ _ _ _ [some (.ref (43 + 3)), some (.int p21.1), some (.int p22.1), none, none] [.int p22.1, .ref (50 + 3)] _ _ from ?_)
            obtain ⟨c23, h⟩ := zy_if h
            refine zy_26 (c := 50) rfl rfl c23 (show zyR _ _ _ _ [some (.ref (43 + 3)), some (.int p21.1), some (.int p22.1), none, none] [.int (p22.2.1 50 (p22.1).toNatClampNeg)] _ _ from ?_)
            obtain ⟨rfl, rfl⟩ := zy_pi h
            exact zy_4 rfl ⟨rfl, rfl⟩
        · replace h := zy_ifn h b25
          exact zy_sub (show zy_le [some (.ref (43 + 3)), some (.int p21.1), none, none, none] [some (.ref (43 + 3)), some (.int p21.1), none, none, none] from ⟨rfl, ⟨rfl, trivial⟩⟩) (zyC197_32 hd hg192 hg193 hg194 hg195 hg196 hg197 h)
  · replace h := zy_ifn h b28
    refine zy_3 rfl rfl (show zyR _ _ _ _ [some (.ref (43 + 3)), none, none, none, none] [.int (0 : Int32)] _ _ from ?_)
    obtain ⟨rfl, rfl⟩ := zy_pi h
    exact zy_4 rfl ⟨rfl, rfl⟩
noncomputable def zyG192 (n : Nat) : (zy_S → Option (Int32 × zy_S)) × (zy_S → Option (Int32 × zy_S)) × (zy_S → Option (Int32 × zy_S)) × (zy_S → Option (Int32 × zy_S)) × (zy_S → Option (Int32 × zy_S)) × (zy_S → Option (Int32 × zy_S)) := Nat.rec ((fun _ => none), ((fun _ => none), ((fun _ => none), ((fun _ => none), ((fun _ => none), (fun _ => none)))))) (fun _ g => ((fun  s => zyF192_0 g.1 g.2.1 g.2.2.1 g.2.2.2.1 g.2.2.2.2.1 g.2.2.2.2.2  s), ((fun  s => zyF193_0 g.1 g.2.1 g.2.2.1 g.2.2.2.1 g.2.2.2.2.1 g.2.2.2.2.2  s), ((fun  s => zyF194_0 g.1 g.2.1 g.2.2.1 g.2.2.2.1 g.2.2.2.2.1 g.2.2.2.2.2  s), ((fun  s => zyF195_0 g.1 g.2.1 g.2.2.1 g.2.2.2.1 g.2.2.2.2.1 g.2.2.2.2.2  s), ((fun  s => zyF196_0 g.1 g.2.1 g.2.2.1 g.2.2.2.1 g.2.2.2.2.1 g.2.2.2.2.2  s), (fun  s => zyF197_0 g.1 g.2.1 g.2.2.1 g.2.2.2.1 g.2.2.2.2.1 g.2.2.2.2.2  s))))))) n
theorem zyG192_s (n : Nat) : zyG192 (n + 1) = ((fun  s => zyF192_0 (zyG192 n).1 (zyG192 n).2.1 (zyG192 n).2.2.1 (zyG192 n).2.2.2.1 (zyG192 n).2.2.2.2.1 (zyG192 n).2.2.2.2.2  s), ((fun  s => zyF193_0 (zyG192 n).1 (zyG192 n).2.1 (zyG192 n).2.2.1 (zyG192 n).2.2.2.1 (zyG192 n).2.2.2.2.1 (zyG192 n).2.2.2.2.2  s), ((fun  s => zyF194_0 (zyG192 n).1 (zyG192 n).2.1 (zyG192 n).2.2.1 (zyG192 n).2.2.2.1 (zyG192 n).2.2.2.2.1 (zyG192 n).2.2.2.2.2  s), ((fun  s => zyF195_0 (zyG192 n).1 (zyG192 n).2.1 (zyG192 n).2.2.1 (zyG192 n).2.2.2.1 (zyG192 n).2.2.2.2.1 (zyG192 n).2.2.2.2.2  s), ((fun  s => zyF196_0 (zyG192 n).1 (zyG192 n).2.1 (zyG192 n).2.2.1 (zyG192 n).2.2.2.1 (zyG192 n).2.2.2.2.1 (zyG192 n).2.2.2.2.2  s), (fun  s => zyF197_0 (zyG192 n).1 (zyG192 n).2.1 (zyG192 n).2.2.1 (zyG192 n).2.2.2.1 (zyG192 n).2.2.2.2.1 (zyG192 n).2.2.2.2.2  s)))))) := rfl
theorem zyS192 (n : Nat)  (s : zy_S) : (zyG192 (n + 1)).1 s = zyF192_0 (zyG192 n).1 (zyG192 n).2.1 (zyG192 n).2.2.1 (zyG192 n).2.2.2.1 (zyG192 n).2.2.2.2.1 (zyG192 n).2.2.2.2.2 s := by
  rw [zyG192_s]
theorem zyS193 (n : Nat)  (s : zy_S) : (zyG192 (n + 1)).2.1 s = zyF193_0 (zyG192 n).1 (zyG192 n).2.1 (zyG192 n).2.2.1 (zyG192 n).2.2.2.1 (zyG192 n).2.2.2.2.1 (zyG192 n).2.2.2.2.2 s := by
  rw [zyG192_s]
theorem zyS194 (n : Nat)  (s : zy_S) : (zyG192 (n + 1)).2.2.1 s = zyF194_0 (zyG192 n).1 (zyG192 n).2.1 (zyG192 n).2.2.1 (zyG192 n).2.2.2.1 (zyG192 n).2.2.2.2.1 (zyG192 n).2.2.2.2.2 s := by
  rw [zyG192_s]
theorem zyS195 (n : Nat)  (s : zy_S) : (zyG192 (n + 1)).2.2.2.1 s = zyF195_0 (zyG192 n).1 (zyG192 n).2.1 (zyG192 n).2.2.1 (zyG192 n).2.2.2.1 (zyG192 n).2.2.2.2.1 (zyG192 n).2.2.2.2.2 s := by
  rw [zyG192_s]
theorem zyS196 (n : Nat)  (s : zy_S) : (zyG192 (n + 1)).2.2.2.2.1 s = zyF196_0 (zyG192 n).1 (zyG192 n).2.1 (zyG192 n).2.2.1 (zyG192 n).2.2.2.1 (zyG192 n).2.2.2.2.1 (zyG192 n).2.2.2.2.2 s := by
  rw [zyG192_s]
theorem zyS197 (n : Nat)  (s : zy_S) : (zyG192 (n + 1)).2.2.2.2.2 s = zyF197_0 (zyG192 n).1 (zyG192 n).2.1 (zyG192 n).2.2.1 (zyG192 n).2.2.2.1 (zyG192 n).2.2.2.2.1 (zyG192 n).2.2.2.2.2 s := by
  rw [zyG192_s]
theorem zyG192_ok {X : zx_X} : ∀ n : Nat, (∀  (s : zy_S) (r : Int32) (s' : zy_S), (zyG192 n).1 s = some (r, s') → zyR X (2 + n) 192 0 [some (.ref (43 + 3)), none, none] [] s (zyE (some (.int r)) s')) ∧ (∀  (s : zy_S) (r : Int32) (s' : zy_S), (zyG192 n).2.1 s = some (r, s') → zyR X (2 + n) 193 0 [some (.ref (43 + 3)), none, none] [] s (zyE (some (.int r)) s')) ∧ (∀  (s : zy_S) (r : Int32) (s' : zy_S), (zyG192 n).2.2.1 s = some (r, s') → zyR X (2 + n) 194 0 [some (.ref (43 + 3)), none, none, none] [] s (zyE (some (.int r)) s')) ∧ (∀  (s : zy_S) (r : Int32) (s' : zy_S), (zyG192 n).2.2.2.1 s = some (r, s') → zyR X (2 + n) 195 0 [some (.ref (43 + 3)), none, none, none] [] s (zyE (some (.int r)) s')) ∧ (∀  (s : zy_S) (r : Int32) (s' : zy_S), (zyG192 n).2.2.2.2.1 s = some (r, s') → zyR X (2 + n) 196 0 [some (.ref (43 + 3)), none, none, none] [] s (zyE (some (.int r)) s')) ∧ (∀  (s : zy_S) (r : Int32) (s' : zy_S), (zyG192 n).2.2.2.2.2 s = some (r, s') → zyR X (2 + n) 197 0 [some (.ref (43 + 3)), none, none, none, none] [] s (zyE (some (.int r)) s'))
  | 0 => by
    refine ⟨?_, ?_, ?_, ?_, ?_, ?_⟩
    · intro  s r s'  h
      have h : (none : Option (Int32 × zy_S)) = some (r, s') := h
      cases h
    · intro  s r s'  h
      have h : (none : Option (Int32 × zy_S)) = some (r, s') := h
      cases h
    · intro  s r s'  h
      have h : (none : Option (Int32 × zy_S)) = some (r, s') := h
      cases h
    · intro  s r s'  h
      have h : (none : Option (Int32 × zy_S)) = some (r, s') := h
      cases h
    · intro  s r s'  h
      have h : (none : Option (Int32 × zy_S)) = some (r, s') := h
      cases h
    · intro  s r s'  h
      have h : (none : Option (Int32 × zy_S)) = some (r, s') := h
      cases h
  | n + 1 => by
    obtain ⟨i0, i1, i2, i3, i4, i5⟩ := zyG192_ok (X := X) n
    refine ⟨?_, ?_, ?_, ?_, ?_, ?_⟩
    · intro  s r s'  h
      rw [zyS192] at h
      exact zy_sub (show zy_le [some (.ref (43 + 3)), none, none] [some (.ref (43 + 3)), none, none] from ⟨rfl, trivial⟩) (zyC192_0 (d := 2 + n) (g192 := (zyG192 n).1) (g193 := (zyG192 n).2.1) (g194 := (zyG192 n).2.2.1) (g195 := (zyG192 n).2.2.2.1) (g196 := (zyG192 n).2.2.2.2.1) (g197 := (zyG192 n).2.2.2.2.2) (by omega) i0 i1 i2 i3 i4 i5  h)
    · intro  s r s'  h
      rw [zyS193] at h
      exact zy_sub (show zy_le [some (.ref (43 + 3)), none, none] [some (.ref (43 + 3)), none, none] from ⟨rfl, trivial⟩) (zyC193_0 (d := 2 + n) (g192 := (zyG192 n).1) (g193 := (zyG192 n).2.1) (g194 := (zyG192 n).2.2.1) (g195 := (zyG192 n).2.2.2.1) (g196 := (zyG192 n).2.2.2.2.1) (g197 := (zyG192 n).2.2.2.2.2) (by omega) i0 i1 i2 i3 i4 i5  h)
    · intro  s r s'  h
      rw [zyS194] at h
      exact zy_sub (show zy_le [some (.ref (43 + 3)), none, none, none] [some (.ref (43 + 3)), none, none, none] from ⟨rfl, trivial⟩) (zyC194_0 (d := 2 + n) (g192 := (zyG192 n).1) (g193 := (zyG192 n).2.1) (g194 := (zyG192 n).2.2.1) (g195 := (zyG192 n).2.2.2.1) (g196 := (zyG192 n).2.2.2.2.1) (g197 := (zyG192 n).2.2.2.2.2) (by omega) i0 i1 i2 i3 i4 i5  h)
    · intro  s r s'  h
      rw [zyS195] at h
      exact zy_sub (show zy_le [some (.ref (43 + 3)), none, none, none] [some (.ref (43 + 3)), none, none, none] from ⟨rfl, trivial⟩) (zyC195_0 (d := 2 + n) (g192 := (zyG192 n).1) (g193 := (zyG192 n).2.1) (g194 := (zyG192 n).2.2.1) (g195 := (zyG192 n).2.2.2.1) (g196 := (zyG192 n).2.2.2.2.1) (g197 := (zyG192 n).2.2.2.2.2) (by omega) i0 i1 i2 i3 i4 i5  h)
    · intro  s r s'  h
      rw [zyS196] at h
      exact zy_sub (show zy_le [some (.ref (43 + 3)), none, none, none] [some (.ref (43 + 3)), none, none, none] from ⟨rfl, trivial⟩) (zyC196_0 (d := 2 + n) (g192 := (zyG192 n).1) (g193 := (zyG192 n).2.1) (g194 := (zyG192 n).2.2.1) (g195 := (zyG192 n).2.2.2.1) (g196 := (zyG192 n).2.2.2.2.1) (g197 := (zyG192 n).2.2.2.2.2) (by omega) i0 i1 i2 i3 i4 i5  h)
    · intro  s r s'  h
      rw [zyS197] at h
      exact zy_sub (show zy_le [some (.ref (43 + 3)), none, none, none, none] [some (.ref (43 + 3)), none, none, none, none] from ⟨rfl, trivial⟩) (zyC197_0 (d := 2 + n) (g192 := (zyG192 n).1) (g193 := (zyG192 n).2.1) (g194 := (zyG192 n).2.2.1) (g195 := (zyG192 n).2.2.2.1) (g196 := (zyG192 n).2.2.2.2.1) (g197 := (zyG192 n).2.2.2.2.2) (by omega) i0 i1 i2 i3 i4 i5  h)
noncomputable def zyF192 : zy_S → Option (Int32 × zy_S) := (zyG192 100).1
theorem zyC192 {X : zx_X}  {s : zy_S} {r : Int32} {s' : zy_S}  (h : zyF192 s = some (r, s')) : zyR X 102 192 0 [some (.ref (43 + 3)), none, none] [] s (zyE (some (.int r)) s') := (zyG192_ok (X := X) 100).1  s r s'  h
noncomputable def zyF193 : zy_S → Option (Int32 × zy_S) := (zyG192 100).2.1
theorem zyC193 {X : zx_X}  {s : zy_S} {r : Int32} {s' : zy_S}  (h : zyF193 s = some (r, s')) : zyR X 102 193 0 [some (.ref (43 + 3)), none, none] [] s (zyE (some (.int r)) s') := (zyG192_ok (X := X) 100).2.1  s r s'  h
noncomputable def zyF194 : zy_S → Option (Int32 × zy_S) := (zyG192 100).2.2.1
theorem zyC194 {X : zx_X}  {s : zy_S} {r : Int32} {s' : zy_S}  (h : zyF194 s = some (r, s')) : zyR X 102 194 0 [some (.ref (43 + 3)), none, none, none] [] s (zyE (some (.int r)) s') := (zyG192_ok (X := X) 100).2.2.1  s r s'  h
noncomputable def zyF195 : zy_S → Option (Int32 × zy_S) := (zyG192 100).2.2.2.1
theorem zyC195 {X : zx_X}  {s : zy_S} {r : Int32} {s' : zy_S}  (h : zyF195 s = some (r, s')) : zyR X 102 195 0 [some (.ref (43 + 3)), none, none, none] [] s (zyE (some (.int r)) s') := (zyG192_ok (X := X) 100).2.2.2.1  s r s'  h
noncomputable def zyF196 : zy_S → Option (Int32 × zy_S) := (zyG192 100).2.2.2.2.1
theorem zyC196 {X : zx_X}  {s : zy_S} {r : Int32} {s' : zy_S}  (h : zyF196 s = some (r, s')) : zyR X 102 196 0 [some (.ref (43 + 3)), none, none, none] [] s (zyE (some (.int r)) s') := (zyG192_ok (X := X) 100).2.2.2.2.1  s r s'  h
noncomputable def zyF197 : zy_S → Option (Int32 × zy_S) := (zyG192 100).2.2.2.2.2
theorem zyC197 {X : zx_X}  {s : zy_S} {r : Int32} {s' : zy_S}  (h : zyF197 s = some (r, s')) : zyR X 102 197 0 [some (.ref (43 + 3)), none, none, none, none] [] s (zyE (some (.int r)) s') := (zyG192_ok (X := X) 100).2.2.2.2.2  s r s'  h
end
section
/-! PART 41.27: methods as functions. Made by wip/v4/dcp.py. -/
/-! NineOpinionsModel.workOut(II)I -/
noncomputable def zyF191_96  (k33 : Int32 → Int32 → Int32 → zy_S → Option (Int32 × zy_S)) (x3 : Int32) (x4 : Int32) (s : zy_S) : Option (Int32 × zy_S) :=
(zyF200 (59 : Int32) s).bind fun p1 =>
k33 x3 x4 p1.1 p1.2
theorem zyC191_96 {X : zx_X}  {k33 : Int32 → Int32 → Int32 → zy_S → Option (Int32 × zy_S)}  (hk33 : ∀ (x3 : Int32) (x4 : Int32) (x5 : Int32) (s : zy_S) (r : Int32) (s' : zy_S), k33 x3 x4 x5 s = some (r, s') → zyR X 103 191 33 [some (.ref (43 + 3)), none, none, some (.int x3), some (.int x4), some (.int x5), none, none] [] s (zyE (some (.int r)) s')) {x3 : Int32} {x4 : Int32} {s : zy_S} {r : Int32} {s' : zy_S}  (h : zyF191_96 k33 x3 x4 s = some (r, s')) : zyR X 103 191 96 [some (.ref (43 + 3)), none, none, some (.int x3), some (.int x4), none, none, none] [] s (zyE (some (.int r)) s') := by
  unfold zyF191_96 at h
  refine zy_0 rfl rfl (show zyR _ _ _ _ [some (.ref (43 + 3)), none, none, some (.int x3), some (.int x4), none, none, none] [.ref (43 + 3)] _ _ from ?_)
  refine zy_3 rfl rfl (show zyR _ _ _ _ [some (.ref (43 + 3)), none, none, some (.int x3), some (.int x4), none, none, none] [.int (59 : Int32), .ref (43 + 3)] _ _ from ?_)
  obtain ⟨p1, hp1, h⟩ := zy_bind h
  refine zy_5 (c := 43) (as := [.int (59 : Int32)]) (rest := []) (L := [some (.ref (43 + 3)), some (.int (59 : Int32))]) (d' := 2) rfl rfl rfl (Nat.le_of_ble_eq_true rfl) (Nat.le_of_ble_eq_true rfl) rfl (Nat.le_of_ble_eq_true rfl) rfl rfl (zyC200 hp1) ?_
  show zyR _ _ _ _ [some (.ref (43 + 3)), none, none, some (.int x3), some (.int x4), none, none, none] [.int p1.1] _ _
  refine zy_23 rfl rfl (show zyR _ _ _ _ [some (.ref (43 + 3)), none, none, some (.int x3), some (.int x4), some (.int p1.1), none, none] [] _ _ from ?_)
  refine zy_6 rfl (show zyR _ _ _ _ [some (.ref (43 + 3)), none, none, some (.int x3), some (.int x4), some (.int p1.1), none, none] [] _ _ from ?_)
  exact zy_sub (show zy_le [some (.ref (43 + 3)), none, none, some (.int x3), some (.int x4), some (.int p1.1), none, none] [some (.ref (43 + 3)), none, none, some (.int x3), some (.int x4), some (.int p1.1), none, none] from ⟨rfl, ⟨rfl, ⟨rfl, ⟨rfl, trivial⟩⟩⟩⟩) (hk33 x3 x4 p1.1 p1.2 _ _ h)
noncomputable def zyF191_74  (k33 : Int32 → Int32 → Int32 → zy_S → Option (Int32 × zy_S)) (x3 : Int32) (x4 : Int32) (x6 : Int32) (x7 : Int32) (s : zy_S) : Option (Int32 × zy_S) :=
if 0 ≤ (s.1 43 15) then
zyF191_96 k33 x3 x4 s
else
if x7 = 0 then
zyF191_96 k33 x3 x4 s
else
if x3 ≠ 0 then
zyF191_96 k33 x3 x4 s
else
zyF191_96 k33 (1 : Int32) x6 s
theorem zyC191_74 {X : zx_X}  {k33 : Int32 → Int32 → Int32 → zy_S → Option (Int32 × zy_S)}  (hk33 : ∀ (x3 : Int32) (x4 : Int32) (x5 : Int32) (s : zy_S) (r : Int32) (s' : zy_S), k33 x3 x4 x5 s = some (r, s') → zyR X 103 191 33 [some (.ref (43 + 3)), none, none, some (.int x3), some (.int x4), some (.int x5), none, none] [] s (zyE (some (.int r)) s')) {x3 : Int32} {x4 : Int32} {x6 : Int32} {x7 : Int32} {s : zy_S} {r : Int32} {s' : zy_S}  (h : zyF191_74 k33 x3 x4 x6 x7 s = some (r, s')) : zyR X 103 191 74 [some (.ref (43 + 3)), none, none, some (.int x3), some (.int x4), none, some (.int x6), some (.int x7)] [] s (zyE (some (.int r)) s') := by
  unfold zyF191_74 at h
  refine zy_0 rfl rfl (show zyR _ _ _ _ [some (.ref (43 + 3)), none, none, some (.int x3), some (.int x4), none, some (.int x6), some (.int x7)] [.ref (43 + 3)] _ _ from ?_)
  refine zy_1 (c := 43) rfl rfl rfl (show zyR _ _ _ _ [some (.ref (43 + 3)), none, none, some (.int x3), some (.int x4), none, some (.int x6), some (.int x7)] [.int (s.1 43 15)] _ _ from ?_)
  refine zy_24_3 rfl (fun b4 => (show zyR _ _ _ _ [some (.ref (43 + 3)), none, none, some (.int x3), some (.int x4), none, some (.int x6), some (.int x7)] [] _ _ from ?_)) (fun b4 => (show zyR _ _ _ _ [some (.ref (43 + 3)), none, none, some (.int x3), some (.int x4), none, some (.int x6), some (.int x7)] [] _ _ from ?_))
  · replace h := zy_ifp h b4
    exact zy_sub (show zy_le [some (.ref (43 + 3)), none, none, some (.int x3), some (.int x4), none, none, none] [some (.ref (43 + 3)), none, none, some (.int x3), some (.int x4), none, some (.int x6), some (.int x7)] from ⟨rfl, ⟨rfl, ⟨rfl, trivial⟩⟩⟩) (zyC191_96 hk33 h)
  · replace h := zy_ifn h b4
    refine zy_2 rfl rfl (show zyR _ _ _ _ [some (.ref (43 + 3)), none, none, some (.int x3), some (.int x4), none, some (.int x6), some (.int x7)] [.int x7] _ _ from ?_)
    refine zy_24_0 rfl (fun b3 => (show zyR _ _ _ _ [some (.ref (43 + 3)), none, none, some (.int x3), some (.int x4), none, some (.int x6), some (.int x7)] [] _ _ from ?_)) (fun b3 => (show zyR _ _ _ _ [some (.ref (43 + 3)), none, none, some (.int x3), some (.int x4), none, some (.int x6), some (.int x7)] [] _ _ from ?_))
    · replace h := zy_ifp h b3
      exact zy_sub (show zy_le [some (.ref (43 + 3)), none, none, some (.int x3), some (.int x4), none, none, none] [some (.ref (43 + 3)), none, none, some (.int x3), some (.int x4), none, some (.int x6), some (.int x7)] from ⟨rfl, ⟨rfl, ⟨rfl, trivial⟩⟩⟩) (zyC191_96 hk33 h)
    · replace h := zy_ifn h b3
      refine zy_2 rfl rfl (show zyR _ _ _ _ [some (.ref (43 + 3)), none, none, some (.int x3), some (.int x4), none, some (.int x6), some (.int x7)] [.int x3] _ _ from ?_)
      refine zy_24_1 rfl (fun b2 => (show zyR _ _ _ _ [some (.ref (43 + 3)), none, none, some (.int x3), some (.int x4), none, some (.int x6), some (.int x7)] [] _ _ from ?_)) (fun b2 => (show zyR _ _ _ _ [some (.ref (43 + 3)), none, none, some (.int x3), some (.int x4), none, some (.int x6), some (.int x7)] [] _ _ from ?_))
      · replace h := zy_ifp h b2
        exact zy_sub (show zy_le [some (.ref (43 + 3)), none, none, some (.int x3), some (.int x4), none, none, none] [some (.ref (43 + 3)), none, none, some (.int x3), some (.int x4), none, some (.int x6), some (.int x7)] from ⟨rfl, ⟨rfl, ⟨rfl, trivial⟩⟩⟩) (zyC191_96 hk33 h)
      · replace h := zy_ifn h b2
        refine zy_3 rfl rfl (show zyR _ _ _ _ [some (.ref (43 + 3)), none, none, some (.int x3), some (.int x4), none, some (.int x6), some (.int x7)] [.int (1 : Int32)] _ _ from ?_)
        refine zy_23 rfl rfl (show zyR _ _ _ _ [some (.ref (43 + 3)), none, none, some (.int (1 : Int32)), some (.int x4), none, some (.int x6), some (.int x7)] [] _ _ from ?_)
        refine zy_2 rfl rfl (show zyR _ _ _ _ [some (.ref (43 + 3)), none, none, some (.int (1 : Int32)), some (.int x4), none, some (.int x6), some (.int x7)] [.int x6] _ _ from ?_)
        refine zy_23 rfl rfl (show zyR _ _ _ _ [some (.ref (43 + 3)), none, none, some (.int (1 : Int32)), some (.int x6), none, some (.int x6), some (.int x7)] [] _ _ from ?_)
        exact zy_sub (show zy_le [some (.ref (43 + 3)), none, none, some (.int (1 : Int32)), some (.int x6), none, none, none] [some (.ref (43 + 3)), none, none, some (.int (1 : Int32)), some (.int x6), none, some (.int x6), some (.int x7)] from ⟨rfl, ⟨rfl, ⟨rfl, trivial⟩⟩⟩) (zyC191_96 hk33 h)
noncomputable def zyF191_66  (k33 : Int32 → Int32 → Int32 → zy_S → Option (Int32 × zy_S)) (x3 : Int32) (x4 : Int32) (y0 : Int32) (s : zy_S) : Option (Int32 × zy_S) :=
(zyF192 s).bind fun p5 =>
zyF191_74 k33 x3 x4 p5.1 y0 p5.2
theorem zyC191_66 {X : zx_X}  {k33 : Int32 → Int32 → Int32 → zy_S → Option (Int32 × zy_S)}  (hk33 : ∀ (x3 : Int32) (x4 : Int32) (x5 : Int32) (s : zy_S) (r : Int32) (s' : zy_S), k33 x3 x4 x5 s = some (r, s') → zyR X 103 191 33 [some (.ref (43 + 3)), none, none, some (.int x3), some (.int x4), some (.int x5), none, none] [] s (zyE (some (.int r)) s')) {x3 : Int32} {x4 : Int32} {y0 : Int32} {s : zy_S} {r : Int32} {s' : zy_S}  (h : zyF191_66 k33 x3 x4 y0 s = some (r, s')) : zyR X 103 191 66 [some (.ref (43 + 3)), none, none, some (.int x3), some (.int x4), none, none, none] [.int y0] s (zyE (some (.int r)) s') := by
  unfold zyF191_66 at h
  refine zy_23 rfl rfl (show zyR _ _ _ _ [some (.ref (43 + 3)), none, none, some (.int x3), some (.int x4), none, none, some (.int y0)] [] _ _ from ?_)
  refine zy_0 rfl rfl (show zyR _ _ _ _ [some (.ref (43 + 3)), none, none, some (.int x3), some (.int x4), none, none, some (.int y0)] [.ref (43 + 3)] _ _ from ?_)
  obtain ⟨p5, hp5, h⟩ := zy_bind h
  refine zy_5 (c := 43) (as := []) (rest := []) (L := [some (.ref (43 + 3)), none, none]) (d' := 102) rfl rfl rfl (Nat.le_of_ble_eq_true rfl) (Nat.le_of_ble_eq_true rfl) rfl (Nat.le_of_ble_eq_true rfl) rfl rfl (zyC192 hp5) ?_
  show zyR _ _ _ _ [some (.ref (43 + 3)), none, none, some (.int x3), some (.int x4), none, none, some (.int y0)] [.int p5.1] _ _
  refine zy_23 rfl rfl (show zyR _ _ _ _ [some (.ref (43 + 3)), none, none, some (.int x3), some (.int x4), none, some (.int p5.1), some (.int y0)] [] _ _ from ?_)
  exact zy_sub (show zy_le [some (.ref (43 + 3)), none, none, some (.int x3), some (.int x4), none, some (.int p5.1), some (.int y0)] [some (.ref (43 + 3)), none, none, some (.int x3), some (.int x4), none, some (.int p5.1), some (.int y0)] from ⟨rfl, ⟨rfl, ⟨rfl, ⟨rfl, ⟨rfl, trivial⟩⟩⟩⟩⟩) (zyC191_74 hk33 h)
noncomputable def zyF191_33b  (k33 : Int32 → Int32 → Int32 → zy_S → Option (Int32 × zy_S)) (x3 : Int32) (x4 : Int32) (x5 : Int32) (s : zy_S) : Option (Int32 × zy_S) :=
if x5 = 0 then
if 0 ≤ (s.1 43 15) then
some (x4, s)
else
if (s.1 43 14) ≤ (s.1 43 13) then
some (x4, s)
else
(zyF199 s).bind fun p6 =>
some (p6.1, p6.2)
else
(zyF192 s).bind fun p9 =>
(zyF200 (63 : Int32) p9.2).bind fun p10 =>
if p10.1 = 0 then
zyF191_74 k33 x3 x4 p9.1 (1 : Int32) p10.2
else
if p9.1 = 0 then
zyF191_66 k33 x3 x4 (0 : Int32) p10.2
else
zyF191_66 k33 x3 x4 (1 : Int32) p10.2
theorem zyC191_33b {X : zx_X}  {k33 : Int32 → Int32 → Int32 → zy_S → Option (Int32 × zy_S)}  (hk33 : ∀ (x3 : Int32) (x4 : Int32) (x5 : Int32) (s : zy_S) (r : Int32) (s' : zy_S), k33 x3 x4 x5 s = some (r, s') → zyR X 103 191 33 [some (.ref (43 + 3)), none, none, some (.int x3), some (.int x4), some (.int x5), none, none] [] s (zyE (some (.int r)) s')) {x3 : Int32} {x4 : Int32} {x5 : Int32} {s : zy_S} {r : Int32} {s' : zy_S}  (h : zyF191_33b k33 x3 x4 x5 s = some (r, s')) : zyR X 103 191 33 [some (.ref (43 + 3)), none, none, some (.int x3), some (.int x4), some (.int x5), none, none] [] s (zyE (some (.int r)) s') := by
  unfold zyF191_33b at h
  refine zy_2 rfl rfl (show zyR _ _ _ _ [some (.ref (43 + 3)), none, none, some (.int x3), some (.int x4), some (.int x5), none, none] [.int x5] _ _ from ?_)
  refine zy_24_0 rfl (fun b13 => (show zyR _ _ _ _ [some (.ref (43 + 3)), none, none, some (.int x3), some (.int x4), some (.int x5), none, none] [] _ _ from ?_)) (fun b13 => (show zyR _ _ _ _ [some (.ref (43 + 3)), none, none, some (.int x3), some (.int x4), some (.int x5), none, none] [] _ _ from ?_))
  · replace h := zy_ifp h b13
    refine zy_0 rfl rfl (show zyR _ _ _ _ [some (.ref (43 + 3)), none, none, some (.int x3), some (.int x4), some (.int x5), none, none] [.ref (43 + 3)] _ _ from ?_)
    refine zy_1 (c := 43) rfl rfl rfl (show zyR _ _ _ _ [some (.ref (43 + 3)), none, none, some (.int x3), some (.int x4), some (.int x5), none, none] [.int (s.1 43 15)] _ _ from ?_)
    refine zy_24_3 rfl (fun b8 => (show zyR _ _ _ _ [some (.ref (43 + 3)), none, none, some (.int x3), some (.int x4), some (.int x5), none, none] [] _ _ from ?_)) (fun b8 => (show zyR _ _ _ _ [some (.ref (43 + 3)), none, none, some (.int x3), some (.int x4), some (.int x5), none, none] [] _ _ from ?_))
    · replace h := zy_ifp h b8
      refine zy_2 rfl rfl (show zyR _ _ _ _ [some (.ref (43 + 3)), none, none, some (.int x3), some (.int x4), some (.int x5), none, none] [.int x4] _ _ from ?_)
      obtain ⟨rfl, rfl⟩ := zy_pi h
      exact zy_4 rfl ⟨rfl, rfl⟩
    · replace h := zy_ifn h b8
      refine zy_0 rfl rfl (show zyR _ _ _ _ [some (.ref (43 + 3)), none, none, some (.int x3), some (.int x4), some (.int x5), none, none] [.ref (43 + 3)] _ _ from ?_)
      refine zy_1 (c := 43) rfl rfl rfl (show zyR _ _ _ _ [some (.ref (43 + 3)), none, none, some (.int x3), some (.int x4), some (.int x5), none, none] [.int (s.1 43 13)] _ _ from ?_)
      refine zy_0 rfl rfl (show zyR _ _ _ _ [some (.ref (43 + 3)), none, none, some (.int x3), some (.int x4), some (.int x5), none, none] [.ref (43 + 3), .int (s.1 43 13)] _ _ from ?_)
      refine zy_1 (c := 43) rfl rfl rfl (show zyR _ _ _ _ [some (.ref (43 + 3)), none, none, some (.int x3), some (.int x4), some (.int x5), none, none] [.int (s.1 43 14), .int (s.1 43 13)] _ _ from ?_)
      refine zy_25_3 rfl (fun b7 => (show zyR _ _ _ _ [some (.ref (43 + 3)), none, none, some (.int x3), some (.int x4), some (.int x5), none, none] [] _ _ from ?_)) (fun b7 => (show zyR _ _ _ _ [some (.ref (43 + 3)), none, none, some (.int x3), some (.int x4), some (.int x5), none, none] [] _ _ from ?_))
      · replace h := zy_ifp h b7
        refine zy_2 rfl rfl (show zyR _ _ _ _ [some (.ref (43 + 3)), none, none, some (.int x3), some (.int x4), some (.int x5), none, none] [.int x4] _ _ from ?_)
        obtain ⟨rfl, rfl⟩ := zy_pi h
        exact zy_4 rfl ⟨rfl, rfl⟩
      · replace h := zy_ifn h b7
        refine zy_0 rfl rfl (show zyR _ _ _ _ [some (.ref (43 + 3)), none, none, some (.int x3), some (.int x4), some (.int x5), none, none] [.ref (43 + 3)] _ _ from ?_)
        obtain ⟨p6, hp6, h⟩ := zy_bind h
        refine zy_5 (c := 43) (as := []) (rest := []) (L := [some (.ref (43 + 3))]) (d' := 1) rfl rfl rfl (Nat.le_of_ble_eq_true rfl) (Nat.le_of_ble_eq_true rfl) rfl (Nat.le_of_ble_eq_true rfl) rfl rfl (zyC199 hp6) ?_
        show zyR _ _ _ _ [some (.ref (43 + 3)), none, none, some (.int x3), some (.int x4), some (.int x5), none, none] [.int p6.1] _ _
        obtain ⟨rfl, rfl⟩ := zy_pi h
        exact zy_4 rfl ⟨rfl, rfl⟩
  · replace h := zy_ifn h b13
    refine zy_0 rfl rfl (show zyR _ _ _ _ [some (.ref (43 + 3)), none, none, some (.int x3), some (.int x4), some (.int x5), none, none] [.ref (43 + 3)] _ _ from ?_)
    obtain ⟨p9, hp9, h⟩ := zy_bind h
    refine zy_5 (c := 43) (as := []) (rest := []) (L := [some (.ref (43 + 3)), none, none]) (d' := 102) rfl rfl rfl (Nat.le_of_ble_eq_true rfl) (Nat.le_of_ble_eq_true rfl) rfl (Nat.le_of_ble_eq_true rfl) rfl rfl (zyC192 hp9) ?_
    show zyR _ _ _ _ [some (.ref (43 + 3)), none, none, some (.int x3), some (.int x4), some (.int x5), none, none] [.int p9.1] _ _
    refine zy_23 rfl rfl (show zyR _ _ _ _ [some (.ref (43 + 3)), none, none, some (.int x3), some (.int x4), some (.int x5), some (.int p9.1), none] [] _ _ from ?_)
    refine zy_3 rfl rfl (show zyR _ _ _ _ [some (.ref (43 + 3)), none, none, some (.int x3), some (.int x4), some (.int x5), some (.int p9.1), none] [.int (1 : Int32)] _ _ from ?_)
    refine zy_23 rfl rfl (show zyR _ _ _ _ [some (.ref (43 + 3)), none, none, some (.int x3), some (.int x4), some (.int x5), some (.int p9.1), some (.int (1 : Int32))] [] _ _ from ?_)
    refine zy_0 rfl rfl (show zyR _ _ _ _ [some (.ref (43 + 3)), none, none, some (.int x3), some (.int x4), some (.int x5), some (.int p9.1), some (.int (1 : Int32))] [.ref (43 + 3)] _ _ from ?_)
    refine zy_3 rfl rfl (show zyR _ _ _ _ [some (.ref (43 + 3)), none, none, some (.int x3), some (.int x4), some (.int x5), some (.int p9.1), some (.int (1 : Int32))] [.int (63 : Int32), .ref (43 + 3)] _ _ from ?_)
    obtain ⟨p10, hp10, h⟩ := zy_bind h
    refine zy_5 (c := 43) (as := [.int (63 : Int32)]) (rest := []) (L := [some (.ref (43 + 3)), some (.int (63 : Int32))]) (d' := 2) rfl rfl rfl (Nat.le_of_ble_eq_true rfl) (Nat.le_of_ble_eq_true rfl) rfl (Nat.le_of_ble_eq_true rfl) rfl rfl (zyC200 hp10) ?_
    show zyR _ _ _ _ [some (.ref (43 + 3)), none, none, some (.int x3), some (.int x4), some (.int x5), some (.int p9.1), some (.int (1 : Int32))] [.int p10.1] _ _
    refine zy_24_0 rfl (fun b12 => (show zyR _ _ _ _ [some (.ref (43 + 3)), none, none, some (.int x3), some (.int x4), some (.int x5), some (.int p9.1), some (.int (1 : Int32))] [] _ _ from ?_)) (fun b12 => (show zyR _ _ _ _ [some (.ref (43 + 3)), none, none, some (.int x3), some (.int x4), some (.int x5), some (.int p9.1), some (.int (1 : Int32))] [] _ _ from ?_))
    · replace h := zy_ifp h b12
      exact zy_sub (show zy_le [some (.ref (43 + 3)), none, none, some (.int x3), some (.int x4), none, some (.int p9.1), some (.int (1 : Int32))] [some (.ref (43 + 3)), none, none, some (.int x3), some (.int x4), some (.int x5), some (.int p9.1), some (.int (1 : Int32))] from ⟨rfl, ⟨rfl, ⟨rfl, ⟨rfl, ⟨rfl, trivial⟩⟩⟩⟩⟩) (zyC191_74 hk33 h)
    · replace h := zy_ifn h b12
      refine zy_2 rfl rfl (show zyR _ _ _ _ [some (.ref (43 + 3)), none, none, some (.int x3), some (.int x4), some (.int x5), some (.int p9.1), some (.int (1 : Int32))] [.int p9.1] _ _ from ?_)
      refine zy_24_0 rfl (fun b11 => (show zyR _ _ _ _ [some (.ref (43 + 3)), none, none, some (.int x3), some (.int x4), some (.int x5), some (.int p9.1), some (.int (1 : Int32))] [] _ _ from ?_)) (fun b11 => (show zyR _ _ _ _ [some (.ref (43 + 3)), none, none, some (.int x3), some (.int x4), some (.int x5), some (.int p9.1), some (.int (1 : Int32))] [] _ _ from ?_))
      · replace h := zy_ifp h b11
        refine zy_3 rfl rfl (show zyR _ _ _ _ [some (.ref (43 + 3)), none, none, some (.int x3), some (.int x4), some (.int x5), some (.int p9.1), some (.int (1 : Int32))] [.int (0 : Int32)] _ _ from ?_)
        exact zy_sub (show zy_le [some (.ref (43 + 3)), none, none, some (.int x3), some (.int x4), none, none, none] [some (.ref (43 + 3)), none, none, some (.int x3), some (.int x4), some (.int x5), some (.int p9.1), some (.int (1 : Int32))] from ⟨rfl, ⟨rfl, ⟨rfl, trivial⟩⟩⟩) (zyC191_66 hk33 h)
      · replace h := zy_ifn h b11
        refine zy_3 rfl rfl (show zyR _ _ _ _ [some (.ref (43 + 3)), none, none, some (.int x3), some (.int x4), some (.int x5), some (.int p9.1), some (.int (1 : Int32))] [.int (1 : Int32)] _ _ from ?_)
        refine zy_6 rfl (show zyR _ _ _ _ [some (.ref (43 + 3)), none, none, some (.int x3), some (.int x4), some (.int x5), some (.int p9.1), some (.int (1 : Int32))] [.int (1 : Int32)] _ _ from ?_)
        exact zy_sub (show zy_le [some (.ref (43 + 3)), none, none, some (.int x3), some (.int x4), none, none, none] [some (.ref (43 + 3)), none, none, some (.int x3), some (.int x4), some (.int x5), some (.int p9.1), some (.int (1 : Int32))] from ⟨rfl, ⟨rfl, ⟨rfl, trivial⟩⟩⟩) (zyC191_66 hk33 h)
noncomputable def zyF191_33   (n : Nat) : Int32 → Int32 → Int32 → zy_S → Option (Int32 × zy_S) := Nat.rec (fun _ _ _ _ => none) (fun _ k33 => zyF191_33b k33) n
theorem zyC191_33 {X : zx_X}     : ∀ (n : Nat) (x3 : Int32) (x4 : Int32) (x5 : Int32) (s : zy_S) (r : Int32) (s' : zy_S), zyF191_33 n x3 x4 x5 s = some (r, s') → zyR X 103 191 33 [some (.ref (43 + 3)), none, none, some (.int x3), some (.int x4), some (.int x5), none, none] [] s (zyE (some (.int r)) s')
  | 0, _, _, _ => by
    intro s r s'  h
    have h : (none : Option (Int32 × zy_S)) = some (r, s') := h
    cases h
  | n + 1, x3, x4, x5 => by
    intro s r s'  h
    exact zyC191_33b (k33 := zyF191_33 n) (fun x3 x4 x5 s r s'  h => zyC191_33  n x3 x4 x5 s r s'  h) h
noncomputable def zyF191   (x1 : Int32) (x2 : Int32) (s : zy_S) : Option (Int32 × zy_S) :=
zyF191_33 zy_fu (0 : Int32) (0 : Int32) (1 : Int32) (zy_up (zy_up (zy_up (zy_up (zy_up s 43 12 x1) 43 13 (0 : Int32)) 43 14 x2) 43 15 (-1 : Int32)) 43 16 (0 : Int32))
theorem zyC191 {X : zx_X}     {x1 : Int32} {x2 : Int32} {s : zy_S} {r : Int32} {s' : zy_S}  (h : zyF191 x1 x2 s = some (r, s')) : zyR X 103 191 0 [some (.ref (43 + 3)), some (.int x1), some (.int x2), none, none, none, none, none] [] s (zyE (some (.int r)) s') := by
  unfold zyF191 at h
  refine zy_0 rfl rfl (show zyR _ _ _ _ [some (.ref (43 + 3)), some (.int x1), some (.int x2), none, none, none, none, none] [.ref (43 + 3)] _ _ from ?_)
  refine zy_2 rfl rfl (show zyR _ _ _ _ [some (.ref (43 + 3)), some (.int x1), some (.int x2), none, none, none, none, none] [.int x1, .ref (43 + 3)] _ _ from ?_)
  refine zy_52 (c := 43) rfl rfl rfl (show zyR _ _ _ _ [some (.ref (43 + 3)), some (.int x1), some (.int x2), none, none, none, none, none] [] _ _ from ?_)
  refine zy_0 rfl rfl (show zyR _ _ _ _ [some (.ref (43 + 3)), some (.int x1), some (.int x2), none, none, none, none, none] [.ref (43 + 3)] _ _ from ?_)
  refine zy_3 rfl rfl (show zyR _ _ _ _ [some (.ref (43 + 3)), some (.int x1), some (.int x2), none, none, none, none, none] [.int (0 : Int32), .ref (43 + 3)] _ _ from ?_)
  refine zy_52 (c := 43) rfl rfl rfl (show zyR _ _ _ _ [some (.ref (43 + 3)), some (.int x1), some (.int x2), none, none, none, none, none] [] _ _ from ?_)
  refine zy_0 rfl rfl (show zyR _ _ _ _ [some (.ref (43 + 3)), some (.int x1), some (.int x2), none, none, none, none, none] [.ref (43 + 3)] _ _ from ?_)
  refine zy_2 rfl rfl (show zyR _ _ _ _ [some (.ref (43 + 3)), some (.int x1), some (.int x2), none, none, none, none, none] [.int x2, .ref (43 + 3)] _ _ from ?_)
  refine zy_52 (c := 43) rfl rfl rfl (show zyR _ _ _ _ [some (.ref (43 + 3)), some (.int x1), some (.int x2), none, none, none, none, none] [] _ _ from ?_)
  refine zy_0 rfl rfl (show zyR _ _ _ _ [some (.ref (43 + 3)), some (.int x1), some (.int x2), none, none, none, none, none] [.ref (43 + 3)] _ _ from ?_)
  refine zy_3 rfl rfl (show zyR _ _ _ _ [some (.ref (43 + 3)), some (.int x1), some (.int x2), none, none, none, none, none] [.int (-1 : Int32), .ref (43 + 3)] _ _ from ?_)
  refine zy_52 (c := 43) rfl rfl rfl (show zyR _ _ _ _ [some (.ref (43 + 3)), some (.int x1), some (.int x2), none, none, none, none, none] [] _ _ from ?_)
  refine zy_0 rfl rfl (show zyR _ _ _ _ [some (.ref (43 + 3)), some (.int x1), some (.int x2), none, none, none, none, none] [.ref (43 + 3)] _ _ from ?_)
  refine zy_3 rfl rfl (show zyR _ _ _ _ [some (.ref (43 + 3)), some (.int x1), some (.int x2), none, none, none, none, none] [.int (0 : Int32), .ref (43 + 3)] _ _ from ?_)
  refine zy_52 (c := 43) rfl rfl rfl (show zyR _ _ _ _ [some (.ref (43 + 3)), some (.int x1), some (.int x2), none, none, none, none, none] [] _ _ from ?_)
  refine zy_3 rfl rfl (show zyR _ _ _ _ [some (.ref (43 + 3)), some (.int x1), some (.int x2), none, none, none, none, none] [.int (0 : Int32)] _ _ from ?_)
  refine zy_23 rfl rfl (show zyR _ _ _ _ [some (.ref (43 + 3)), some (.int x1), some (.int x2), some (.int (0 : Int32)), none, none, none, none] [] _ _ from ?_)
  refine zy_3 rfl rfl (show zyR _ _ _ _ [some (.ref (43 + 3)), some (.int x1), some (.int x2), some (.int (0 : Int32)), none, none, none, none] [.int (0 : Int32)] _ _ from ?_)
  refine zy_23 rfl rfl (show zyR _ _ _ _ [some (.ref (43 + 3)), some (.int x1), some (.int x2), some (.int (0 : Int32)), some (.int (0 : Int32)), none, none, none] [] _ _ from ?_)
  refine zy_3 rfl rfl (show zyR _ _ _ _ [some (.ref (43 + 3)), some (.int x1), some (.int x2), some (.int (0 : Int32)), some (.int (0 : Int32)), none, none, none] [.int (1 : Int32)] _ _ from ?_)
  refine zy_23 rfl rfl (show zyR _ _ _ _ [some (.ref (43 + 3)), some (.int x1), some (.int x2), some (.int (0 : Int32)), some (.int (0 : Int32)), some (.int (1 : Int32)), none, none] [] _ _ from ?_)
  exact zy_sub (show zy_le [some (.ref (43 + 3)), none, none, some (.int (0 : Int32)), some (.int (0 : Int32)), some (.int (1 : Int32)), none, none] [some (.ref (43 + 3)), some (.int x1), some (.int x2), some (.int (0 : Int32)), some (.int (0 : Int32)), some (.int (1 : Int32)), none, none] from ⟨rfl, ⟨rfl, ⟨rfl, ⟨rfl, trivial⟩⟩⟩⟩) (zyC191_33 zy_fu (0 : Int32) (0 : Int32) (1 : Int32) (zy_up (zy_up (zy_up (zy_up (zy_up s 43 12 x1) 43 13 (0 : Int32)) 43 14 x2) 43 15 (-1 : Int32)) 43 16 (0 : Int32)) _ _ h)
/-! NineOpinionsModel.law()I -/
noncomputable def zyF190_37b  (k37 : Int32 → Int32 → zy_S → Option (Int32 × zy_S)) (x2 : Int32) (x3 : Int32) (s : zy_S) : Option (Int32 × zy_S) :=
if x2 ≤ x3 then
some ((1 : Int32), (zy_up s 43 11 x2))
else
if zy_in x3 120 then
if zy_in x3 120 then
k37 x2 (x3 + (1 : Int32)) (zy_up s 49 (x3).toNatClampNeg (s.1 48 (x3).toNatClampNeg))
else none
else none
theorem zyC190_37b {X : zx_X}  {k37 : Int32 → Int32 → zy_S → Option (Int32 × zy_S)}  (hk37 : ∀ (x2 : Int32) (x3 : Int32) (s : zy_S) (r : Int32) (s' : zy_S), k37 x2 x3 s = some (r, s') → zyR X 104 190 37 [some (.ref (43 + 3)), none, some (.int x2), some (.int x3)] [] s (zyE (some (.int r)) s')) {x2 : Int32} {x3 : Int32} {s : zy_S} {r : Int32} {s' : zy_S}  (h : zyF190_37b k37 x2 x3 s = some (r, s')) : zyR X 104 190 37 [some (.ref (43 + 3)), none, some (.int x2), some (.int x3)] [] s (zyE (some (.int r)) s') := by
  unfold zyF190_37b at h
  refine zy_2 rfl rfl (show zyR _ _ _ _ [some (.ref (43 + 3)), none, some (.int x2), some (.int x3)] [.int x3] _ _ from ?_)
  refine zy_2 rfl rfl (show zyR _ _ _ _ [some (.ref (43 + 3)), none, some (.int x2), some (.int x3)] [.int x2, .int x3] _ _ from ?_)
  refine zy_25_3 rfl (fun b3 => (show zyR _ _ _ _ [some (.ref (43 + 3)), none, some (.int x2), some (.int x3)] [] _ _ from ?_)) (fun b3 => (show zyR _ _ _ _ [some (.ref (43 + 3)), none, some (.int x2), some (.int x3)] [] _ _ from ?_))
  · replace h := zy_ifp h b3
    refine zy_0 rfl rfl (show zyR _ _ _ _ [some (.ref (43 + 3)), none, some (.int x2), some (.int x3)] [.ref (43 + 3)] _ _ from ?_)
    refine zy_2 rfl rfl (show zyR _ _ _ _ [some (.ref (43 + 3)), none, some (.int x2), some (.int x3)] [.int x2, .ref (43 + 3)] _ _ from ?_)
    refine zy_52 (c := 43) rfl rfl rfl (show zyR _ _ _ _ [some (.ref (43 + 3)), none, some (.int x2), some (.int x3)] [] _ _ from ?_)
    refine zy_3 rfl rfl (show zyR _ _ _ _ [some (.ref (43 + 3)), none, some (.int x2), some (.int x3)] [.int (1 : Int32)] _ _ from ?_)
    obtain ⟨rfl, rfl⟩ := zy_pi h
    exact zy_4 rfl ⟨rfl, rfl⟩
  · replace h := zy_ifn h b3
    refine zy_0 rfl rfl (show zyR _ _ _ _ [some (.ref (43 + 3)), none, some (.int x2), some (.int x3)] [.ref (43 + 3)] _ _ from ?_)
    refine zy_1r (c := 43) rfl rfl rfl (show zyR _ _ _ _ [some (.ref (43 + 3)), none, some (.int x2), some (.int x3)] [.ref (49 + 3)] _ _ from ?_)
    refine zy_2 rfl rfl (show zyR _ _ _ _ [some (.ref (43 + 3)), none, some (.int x2), some (.int x3)] [.int x3, .ref (49 + 3)] _ _ from ?_)
    refine zy_0 rfl rfl (show zyR _ _ _ _ [some (.ref (43 + 3)), none, some (.int x2), some (.int x3)] [.ref (43 + 3), .int x3, .ref (49 + 3)] _ _ from ?_)
    refine zy_1r (c := 43) rfl rfl rfl (show zyR _ _ _ _ [some (.ref (43 + 3)), none, some (.int x2), some (.int x3)] [.ref (48 + 3), .int x3, .ref (49 + 3)] _ _ from ?_)
    refine zy_2 rfl rfl (show zyR _ _ _ _ [some (.ref (43 + 3)), none, some (.int x2), some (.int x3)] [.int x3, .ref (48 + 3), .int x3, .ref (49 + 3)] _ _ from ?_)
    obtain ⟨c1, h⟩ := zy_if h
    refine zy_26 (c := 48) rfl rfl c1 (show zyR _ _ _ _ [some (.ref (43 + 3)), none, some (.int x2), some (.int x3)] [.int (s.1 48 (x3).toNatClampNeg), .int x3, .ref (49 + 3)] _ _ from ?_)
    obtain ⟨c2, h⟩ := zy_if h
    refine zy_27 (c := 49) rfl rfl c2 (show zyR _ _ _ _ [some (.ref (43 + 3)), none, some (.int x2), some (.int x3)] [] _ _ from ?_)
    refine zy_22 rfl rfl rfl rfl (show zyR _ _ _ _ [some (.ref (43 + 3)), none, some (.int x2), some (.int (x3 + (1 : Int32)))] [] _ _ from ?_)
    refine zy_6 rfl (show zyR _ _ _ _ [some (.ref (43 + 3)), none, some (.int x2), some (.int (x3 + (1 : Int32)))] [] _ _ from ?_)
    exact zy_sub (show zy_le [some (.ref (43 + 3)), none, some (.int x2), some (.int (x3 + (1 : Int32)))] [some (.ref (43 + 3)), none, some (.int x2), some (.int (x3 + (1 : Int32)))] from ⟨rfl, ⟨rfl, ⟨rfl, trivial⟩⟩⟩) (hk37 x2 (x3 + (1 : Int32)) (zy_up s 49 (x3).toNatClampNeg (s.1 48 (x3).toNatClampNeg)) _ _ h)
noncomputable def zyF190_37   (n : Nat) : Int32 → Int32 → zy_S → Option (Int32 × zy_S) := Nat.rec (fun _ _ _ => none) (fun _ k37 => zyF190_37b k37) n
theorem zyC190_37 {X : zx_X}     : ∀ (n : Nat) (x2 : Int32) (x3 : Int32) (s : zy_S) (r : Int32) (s' : zy_S), zyF190_37 n x2 x3 s = some (r, s') → zyR X 104 190 37 [some (.ref (43 + 3)), none, some (.int x2), some (.int x3)] [] s (zyE (some (.int r)) s')
  | 0, _, _ => by
    intro s r s'  h
    have h : (none : Option (Int32 × zy_S)) = some (r, s') := h
    cases h
  | n + 1, x2, x3 => by
    intro s r s'  h
    exact zyC190_37b (k37 := zyF190_37 n) (fun x2 x3 s r s'  h => zyC190_37  n x2 x3 s r s'  h) h
noncomputable def zyF190    (s : zy_S) : Option (Int32 × zy_S) :=
(zyF191 (-1 : Int32) (s.1 43 9) s).bind fun p4 =>
if (p4.2.1 43 15) < 0 then
zyF190_37 zy_fu (p4.2.1 43 9) (0 : Int32) (zy_up p4.2 43 9 (0 : Int32))
else
some (((-100 : Int32) - (p4.2.1 43 15)), (zy_up p4.2 43 9 (0 : Int32)))
theorem zyC190 {X : zx_X}      {s : zy_S} {r : Int32} {s' : zy_S}  (h : zyF190 s = some (r, s')) : zyR X 104 190 0 [some (.ref (43 + 3)), none, none, none] [] s (zyE (some (.int r)) s') := by
  unfold zyF190 at h
  refine zy_0 rfl rfl (show zyR _ _ _ _ [some (.ref (43 + 3)), none, none, none] [.ref (43 + 3)] _ _ from ?_)
  refine zy_3 rfl rfl (show zyR _ _ _ _ [some (.ref (43 + 3)), none, none, none] [.int (-1 : Int32), .ref (43 + 3)] _ _ from ?_)
  refine zy_0 rfl rfl (show zyR _ _ _ _ [some (.ref (43 + 3)), none, none, none] [.ref (43 + 3), .int (-1 : Int32), .ref (43 + 3)] _ _ from ?_)
  refine zy_1 (c := 43) rfl rfl rfl (show zyR _ _ _ _ [some (.ref (43 + 3)), none, none, none] [.int (s.1 43 9), .int (-1 : Int32), .ref (43 + 3)] _ _ from ?_)
  obtain ⟨p4, hp4, h⟩ := zy_bind h
  refine zy_5 (c := 43) (as := [.int (-1 : Int32), .int (s.1 43 9)]) (rest := []) (L := [some (.ref (43 + 3)), some (.int (-1 : Int32)), some (.int (s.1 43 9)), none, none, none, none, none]) (d' := 103) rfl rfl rfl (Nat.le_of_ble_eq_true rfl) (Nat.le_of_ble_eq_true rfl) rfl (Nat.le_of_ble_eq_true rfl) rfl rfl (zyC191 hp4) ?_
  show zyR _ _ _ _ [some (.ref (43 + 3)), none, none, none] [.int p4.1] _ _
  refine zy_23 rfl rfl (show zyR _ _ _ _ [some (.ref (43 + 3)), some (.int p4.1), none, none] [] _ _ from ?_)
  refine zy_0 rfl rfl (show zyR _ _ _ _ [some (.ref (43 + 3)), some (.int p4.1), none, none] [.ref (43 + 3)] _ _ from ?_)
  refine zy_1 (c := 43) rfl rfl rfl (show zyR _ _ _ _ [some (.ref (43 + 3)), some (.int p4.1), none, none] [.int (p4.2.1 43 9)] _ _ from ?_)
  refine zy_23 rfl rfl (show zyR _ _ _ _ [some (.ref (43 + 3)), some (.int p4.1), some (.int (p4.2.1 43 9)), none] [] _ _ from ?_)
  refine zy_0 rfl rfl (show zyR _ _ _ _ [some (.ref (43 + 3)), some (.int p4.1), some (.int (p4.2.1 43 9)), none] [.ref (43 + 3)] _ _ from ?_)
  refine zy_3 rfl rfl (show zyR _ _ _ _ [some (.ref (43 + 3)), some (.int p4.1), some (.int (p4.2.1 43 9)), none] [.int (0 : Int32), .ref (43 + 3)] _ _ from ?_)
  refine zy_52 (c := 43) rfl rfl rfl (show zyR _ _ _ _ [some (.ref (43 + 3)), some (.int p4.1), some (.int (p4.2.1 43 9)), none] [] _ _ from ?_)
  refine zy_0 rfl rfl (show zyR _ _ _ _ [some (.ref (43 + 3)), some (.int p4.1), some (.int (p4.2.1 43 9)), none] [.ref (43 + 3)] _ _ from ?_)
  refine zy_1 (c := 43) rfl rfl rfl (show zyR _ _ _ _ [some (.ref (43 + 3)), some (.int p4.1), some (.int (p4.2.1 43 9)), none] [.int (p4.2.1 43 15)] _ _ from ?_)
  refine zy_24_2 rfl (fun b5 => (show zyR _ _ _ _ [some (.ref (43 + 3)), some (.int p4.1), some (.int (p4.2.1 43 9)), none] [] _ _ from ?_)) (fun b5 => (show zyR _ _ _ _ [some (.ref (43 + 3)), some (.int p4.1), some (.int (p4.2.1 43 9)), none] [] _ _ from ?_))
  · replace h := zy_ifp h b5
    refine zy_3 rfl rfl (show zyR _ _ _ _ [some (.ref (43 + 3)), some (.int p4.1), some (.int (p4.2.1 43 9)), none] [.int (0 : Int32)] _ _ from ?_)
    refine zy_23 rfl rfl (show zyR _ _ _ _ [some (.ref (43 + 3)), some (.int p4.1), some (.int (p4.2.1 43 9)), some (.int (0 : Int32))] [] _ _ from ?_)
    exact zy_sub (show zy_le [some (.ref (43 + 3)), none, some (.int (p4.2.1 43 9)), some (.int (0 : Int32))] [some (.ref (43 + 3)), some (.int p4.1), some (.int (p4.2.1 43 9)), some (.int (0 : Int32))] from ⟨rfl, ⟨rfl, ⟨rfl, trivial⟩⟩⟩) (zyC190_37 zy_fu (p4.2.1 43 9) (0 : Int32) (zy_up p4.2 43 9 (0 : Int32)) _ _ h)
  · replace h := zy_ifn h b5
    refine zy_3 rfl rfl (show zyR _ _ _ _ [some (.ref (43 + 3)), some (.int p4.1), some (.int (p4.2.1 43 9)), none] [.int (-100 : Int32)] _ _ from ?_)
    refine zy_0 rfl rfl (show zyR _ _ _ _ [some (.ref (43 + 3)), some (.int p4.1), some (.int (p4.2.1 43 9)), none] [.ref (43 + 3), .int (-100 : Int32)] _ _ from ?_)
    refine zy_1 (c := 43) rfl rfl rfl (show zyR _ _ _ _ [some (.ref (43 + 3)), some (.int p4.1), some (.int (p4.2.1 43 9)), none] [.int (p4.2.1 43 15), .int (-100 : Int32)] _ _ from ?_)
    refine zy_11 rfl (show zyR _ _ _ _ [some (.ref (43 + 3)), some (.int p4.1), some (.int (p4.2.1 43 9)), none] [.int ((-100 : Int32) - (p4.2.1 43 15))] _ _ from ?_)
    obtain ⟨rfl, rfl⟩ := zy_pi h
    exact zy_4 rfl ⟨rfl, rfl⟩
/-! NineOpinions$Bodies.note(I)V -/
noncomputable def zyF156_19    (s : zy_S) : Option (Int32 × zy_S) :=
some ((0 : Int32), (zy_up s 27 3 ((s.1 27 3) + (1 : Int32))))
theorem zyC156_19 {X : zx_X}      {s : zy_S} {r : Int32} {s' : zy_S}  (h : zyF156_19 s = some (r, s')) : zyR X 1 156 19 [some (.ref (27 + 3)), none] [] s (zyE none s') := by
  unfold zyF156_19 at h
  refine zy_0 rfl rfl (show zyR _ _ _ _ [some (.ref (27 + 3)), none] [.ref (27 + 3)] _ _ from ?_)
  refine zy_33 rfl rfl (show zyR _ _ _ _ [some (.ref (27 + 3)), none] [.ref (27 + 3), .ref (27 + 3)] _ _ from ?_)
  refine zy_1 (c := 27) rfl rfl rfl (show zyR _ _ _ _ [some (.ref (27 + 3)), none] [.int (s.1 27 3), .ref (27 + 3)] _ _ from ?_)
  refine zy_3 rfl rfl (show zyR _ _ _ _ [some (.ref (27 + 3)), none] [.int (1 : Int32), .int (s.1 27 3), .ref (27 + 3)] _ _ from ?_)
  refine zy_10 rfl (show zyR _ _ _ _ [some (.ref (27 + 3)), none] [.int ((s.1 27 3) + (1 : Int32)), .ref (27 + 3)] _ _ from ?_)
  refine zy_52 (c := 27) rfl rfl rfl (show zyR _ _ _ _ [some (.ref (27 + 3)), none] [] _ _ from ?_)
  cases h
  exact zy_66 rfl ⟨rfl, rfl⟩
noncomputable def zyF156   (x1 : Int32) (s : zy_S) : Option (Int32 × zy_S) :=
if (24 : Int32) ≤ (s.1 27 3) then
zyF156_19 s
else
if zy_in (s.1 27 3) 24 then
zyF156_19 (zy_up s 29 ((s.1 27 3)).toNatClampNeg x1)
else none
theorem zyC156 {X : zx_X}     {x1 : Int32} {s : zy_S} {r : Int32} {s' : zy_S}  (h : zyF156 x1 s = some (r, s')) : zyR X 1 156 0 [some (.ref (27 + 3)), some (.int x1)] [] s (zyE none s') := by
  unfold zyF156 at h
  refine zy_0 rfl rfl (show zyR _ _ _ _ [some (.ref (27 + 3)), some (.int x1)] [.ref (27 + 3)] _ _ from ?_)
  refine zy_1 (c := 27) rfl rfl rfl (show zyR _ _ _ _ [some (.ref (27 + 3)), some (.int x1)] [.int (s.1 27 3)] _ _ from ?_)
  refine zy_3 rfl rfl (show zyR _ _ _ _ [some (.ref (27 + 3)), some (.int x1)] [.int (24 : Int32), .int (s.1 27 3)] _ _ from ?_)
  refine zy_25_3 rfl (fun b2 => (show zyR _ _ _ _ [some (.ref (27 + 3)), some (.int x1)] [] _ _ from ?_)) (fun b2 => (show zyR _ _ _ _ [some (.ref (27 + 3)), some (.int x1)] [] _ _ from ?_))
  · replace h := zy_ifp h b2
    exact zy_sub (show zy_le [some (.ref (27 + 3)), none] [some (.ref (27 + 3)), some (.int x1)] from ⟨rfl, trivial⟩) (zyC156_19 h)
  · replace h := zy_ifn h b2
    refine zy_0 rfl rfl (show zyR _ _ _ _ [some (.ref (27 + 3)), some (.int x1)] [.ref (27 + 3)] _ _ from ?_)
    refine zy_1r (c := 27) rfl rfl rfl (show zyR _ _ _ _ [some (.ref (27 + 3)), some (.int x1)] [.ref (29 + 3)] _ _ from ?_)
    refine zy_0 rfl rfl (show zyR _ _ _ _ [some (.ref (27 + 3)), some (.int x1)] [.ref (27 + 3), .ref (29 + 3)] _ _ from ?_)
    refine zy_1 (c := 27) rfl rfl rfl (show zyR _ _ _ _ [some (.ref (27 + 3)), some (.int x1)] [.int (s.1 27 3), .ref (29 + 3)] _ _ from ?_)
    refine zy_2 rfl rfl (show zyR _ _ _ _ [some (.ref (27 + 3)), some (.int x1)] [.int x1, .int (s.1 27 3), .ref (29 + 3)] _ _ from ?_)
    obtain ⟨c1, h⟩ := zy_if h
    refine zy_27 (c := 29) rfl rfl c1 (show zyR _ _ _ _ [some (.ref (27 + 3)), some (.int x1)] [] _ _ from ?_)
    exact zy_sub (show zy_le [some (.ref (27 + 3)), none] [some (.ref (27 + 3)), some (.int x1)] from ⟨rfl, trivial⟩) (zyC156_19 h)
end
section
/-! PART 41.28: methods as functions. Made by wip/v4/dcp.py. -/
/-! NineOpinions$Bodies.run(IIIII)I, over what it calls -/
noncomputable def zyF155_48 (g155 : Int32 → Int32 → Int32 → Int32 → Int32 → zy_S → Option (Int32 × zy_S)) (g157 : Int32 → Int32 → Int32 → Int32 → zy_S → Option (Int32 × zy_S)) (g158 : Int32 → Int32 → Int32 → Int32 → Int32 → zy_S → Option (Int32 × zy_S))  (x1 : Int32) (x3 : Int32) (x4 : Int32) (x5 : Int32) (x6 : Int32) (s : zy_S) : Option (Int32 × zy_S) :=
(zyF149 x6 s).bind fun p1 =>
if p1.1 = 0 then
some ((0 : Int32), p1.2)
else
if x5 < (40 : Int32) then
if zy_in (((4 : Int32) * x6) + x3) 32 then
(zyF156 (zs_own.getD ((((4 : Int32) * x6) + x3)).toNatClampNeg 0) p1.2).bind fun p3 =>
if zy_in x6 8 then
if 0 ≤ (zs_abv.getD (x6).toNatClampNeg 0) then
if zy_in x6 8 then
(g158 x1 (zs_own.getD ((((4 : Int32) * x6) + x3)).toNatClampNeg 0) (zs_abv.getD (x6).toNatClampNeg 0) x4 (x5 + (1 : Int32)) p3.2).bind fun p6 =>
some (p6.1, p6.2)
else none
else
(g157 x1 (zs_own.getD ((((4 : Int32) * x6) + x3)).toNatClampNeg 0) x4 (x5 + (1 : Int32)) p3.2).bind fun p7 =>
some (p7.1, p7.2)
else none
else none
else
some ((0 : Int32), p1.2)
theorem zyC155_48 {X : zx_X} {d : Nat} {g155 : Int32 → Int32 → Int32 → Int32 → Int32 → zy_S → Option (Int32 × zy_S)} {g157 : Int32 → Int32 → Int32 → Int32 → zy_S → Option (Int32 × zy_S)} {g158 : Int32 → Int32 → Int32 → Int32 → Int32 → zy_S → Option (Int32 × zy_S)}  (hd : 1 ≤ d) (hg155 : ∀ (x1 : Int32) (x2 : Int32) (x3 : Int32) (x4 : Int32) (x5 : Int32) (s : zy_S) (r : Int32) (s' : zy_S), g155 x1 x2 x3 x4 x5 s = some (r, s') → zyR X d 155 0 [some (.ref (27 + 3)), some (.int x1), some (.int x2), some (.int x3), some (.int x4), some (.int x5), none, none] [] s (zyE (some (.int r)) s')) (hg157 : ∀ (x1 : Int32) (x2 : Int32) (x3 : Int32) (x4 : Int32) (s : zy_S) (r : Int32) (s' : zy_S), g157 x1 x2 x3 x4 s = some (r, s') → zyR X d 157 0 [some (.ref (27 + 3)), some (.int x1), some (.int x2), some (.int x3), some (.int x4), none] [] s (zyE (some (.int r)) s')) (hg158 : ∀ (x1 : Int32) (x2 : Int32) (x3 : Int32) (x4 : Int32) (x5 : Int32) (s : zy_S) (r : Int32) (s' : zy_S), g158 x1 x2 x3 x4 x5 s = some (r, s') → zyR X d 158 0 [some (.ref (27 + 3)), some (.int x1), some (.int x2), some (.int x3), some (.int x4), some (.int x5), none] [] s (zyE (some (.int r)) s'))  {x1 : Int32} {x3 : Int32} {x4 : Int32} {x5 : Int32} {x6 : Int32} {s : zy_S} {r : Int32} {s' : zy_S}  (h : zyF155_48 g155 g157 g158 x1 x3 x4 x5 x6 s = some (r, s')) : zyR X (d + 1) 155 48 [some (.ref (27 + 3)), some (.int x1), none, some (.int x3), some (.int x4), some (.int x5), some (.int x6), none] [] s (zyE (some (.int r)) s') := by
  unfold zyF155_48 at h
  refine zy_2 rfl rfl (show zyR _ _ _ _ [some (.ref (27 + 3)), some (.int x1), none, some (.int x3), some (.int x4), some (.int x5), some (.int x6), none] [.int x6] _ _ from ?_)
  obtain ⟨p1, hp1, h⟩ := zy_bind h
  refine zy_60 (as := [.int x6]) (rest := []) (L := [some (.int x6)]) (d' := 1) rfl rfl (Nat.le_of_ble_eq_true rfl) (by omega) rfl (Nat.le_of_ble_eq_true rfl) rfl rfl (zyC149 hp1) ?_
  show zyR _ _ _ _ [some (.ref (27 + 3)), some (.int x1), none, some (.int x3), some (.int x4), some (.int x5), some (.int x6), none] [.int p1.1] _ _
  refine zy_24_0 rfl (fun b10 => (show zyR _ _ _ _ [some (.ref (27 + 3)), some (.int x1), none, some (.int x3), some (.int x4), some (.int x5), some (.int x6), none] [] _ _ from ?_)) (fun b10 => (show zyR _ _ _ _ [some (.ref (27 + 3)), some (.int x1), none, some (.int x3), some (.int x4), some (.int x5), some (.int x6), none] [] _ _ from ?_))
  · replace h := zy_ifp h b10
    refine zy_3 rfl rfl (show zyR _ _ _ _ [some (.ref (27 + 3)), some (.int x1), none, some (.int x3), some (.int x4), some (.int x5), some (.int x6), none] [.int (0 : Int32)] _ _ from ?_)
    obtain ⟨rfl, rfl⟩ := zy_pi h
    exact zy_4 rfl ⟨rfl, rfl⟩
  · replace h := zy_ifn h b10
    refine zy_2 rfl rfl (show zyR _ _ _ _ [some (.ref (27 + 3)), some (.int x1), none, some (.int x3), some (.int x4), some (.int x5), some (.int x6), none] [.int x5] _ _ from ?_)
    refine zy_3 rfl rfl (show zyR _ _ _ _ [some (.ref (27 + 3)), some (.int x1), none, some (.int x3), some (.int x4), some (.int x5), some (.int x6), none] [.int (40 : Int32), .int x5] _ _ from ?_)
    refine zy_25_2 rfl (fun b9 => (show zyR _ _ _ _ [some (.ref (27 + 3)), some (.int x1), none, some (.int x3), some (.int x4), some (.int x5), some (.int x6), none] [] _ _ from ?_)) (fun b9 => (show zyR _ _ _ _ [some (.ref (27 + 3)), some (.int x1), none, some (.int x3), some (.int x4), some (.int x5), some (.int x6), none] [] _ _ from ?_))
    · replace h := zy_ifp h b9
      refine zy_54 rfl rfl (show zyR _ _ _ _ [some (.ref (27 + 3)), some (.int x1), none, some (.int x3), some (.int x4), some (.int x5), some (.int x6), none] [.ref 0] _ _ from ?_)
      refine zy_3 rfl rfl (show zyR _ _ _ _ [some (.ref (27 + 3)), some (.int x1), none, some (.int x3), some (.int x4), some (.int x5), some (.int x6), none] [.int (4 : Int32), .ref 0] _ _ from ?_)
      refine zy_2 rfl rfl (show zyR _ _ _ _ [some (.ref (27 + 3)), some (.int x1), none, some (.int x3), some (.int x4), some (.int x5), some (.int x6), none] [.int x6, .int (4 : Int32), .ref 0] _ _ from ?_)
      refine zy_12 rfl (show zyR _ _ _ _ [some (.ref (27 + 3)), some (.int x1), none, some (.int x3), some (.int x4), some (.int x5), some (.int x6), none] [.int ((4 : Int32) * x6), .ref 0] _ _ from ?_)
      refine zy_2 rfl rfl (show zyR _ _ _ _ [some (.ref (27 + 3)), some (.int x1), none, some (.int x3), some (.int x4), some (.int x5), some (.int x6), none] [.int x3, .int ((4 : Int32) * x6), .ref 0] _ _ from ?_)
      refine zy_10 rfl (show zyR _ _ _ _ [some (.ref (27 + 3)), some (.int x1), none, some (.int x3), some (.int x4), some (.int x5), some (.int x6), none] [.int (((4 : Int32) * x6) + x3), .ref 0] _ _ from ?_)
      obtain ⟨c2, h⟩ := zy_if h
      refine zy_26o rfl c2 (show zyR _ _ _ _ [some (.ref (27 + 3)), some (.int x1), none, some (.int x3), some (.int x4), some (.int x5), some (.int x6), none] [.int (zs_own.getD ((((4 : Int32) * x6) + x3)).toNatClampNeg 0)] _ _ from ?_)
      refine zy_23 rfl rfl (show zyR _ _ _ _ [some (.ref (27 + 3)), some (.int x1), none, some (.int x3), some (.int x4), some (.int x5), some (.int x6), some (.int (zs_own.getD ((((4 : Int32) * x6) + x3)).toNatClampNeg 0))] [] _ _ from ?_)
      refine zy_0 rfl rfl (show zyR _ _ _ _ [some (.ref (27 + 3)), some (.int x1), none, some (.int x3), some (.int x4), some (.int x5), some (.int x6), some (.int (zs_own.getD ((((4 : Int32) * x6) + x3)).toNatClampNeg 0))] [.ref (27 + 3)] _ _ from ?_)
      refine zy_2 rfl rfl (show zyR _ _ _ _ [some (.ref (27 + 3)), some (.int x1), none, some (.int x3), some (.int x4), some (.int x5), some (.int x6), some (.int (zs_own.getD ((((4 : Int32) * x6) + x3)).toNatClampNeg 0))] [.int (zs_own.getD ((((4 : Int32) * x6) + x3)).toNatClampNeg 0), .ref (27 + 3)] _ _ from ?_)
      obtain ⟨p3, hp3, h⟩ := zy_bind h
      refine zy_5 (c := 27) (as := [.int (zs_own.getD ((((4 : Int32) * x6) + x3)).toNatClampNeg 0)]) (rest := []) (L := [some (.ref (27 + 3)), some (.int (zs_own.getD ((((4 : Int32) * x6) + x3)).toNatClampNeg 0))]) (d' := 1) rfl rfl rfl (Nat.le_of_ble_eq_true rfl) (by omega) rfl (Nat.le_of_ble_eq_true rfl) rfl rfl (zyC156 hp3) ?_
      show zyR _ _ _ _ [some (.ref (27 + 3)), some (.int x1), none, some (.int x3), some (.int x4), some (.int x5), some (.int x6), some (.int (zs_own.getD ((((4 : Int32) * x6) + x3)).toNatClampNeg 0))] [] _ _
      refine zy_54 rfl rfl (show zyR _ _ _ _ [some (.ref (27 + 3)), some (.int x1), none, some (.int x3), some (.int x4), some (.int x5), some (.int x6), some (.int (zs_own.getD ((((4 : Int32) * x6) + x3)).toNatClampNeg 0))] [.ref 1] _ _ from ?_)
      refine zy_2 rfl rfl (show zyR _ _ _ _ [some (.ref (27 + 3)), some (.int x1), none, some (.int x3), some (.int x4), some (.int x5), some (.int x6), some (.int (zs_own.getD ((((4 : Int32) * x6) + x3)).toNatClampNeg 0))] [.int x6, .ref 1] _ _ from ?_)
      obtain ⟨c4, h⟩ := zy_if h
      refine zy_26a rfl c4 (show zyR _ _ _ _ [some (.ref (27 + 3)), some (.int x1), none, some (.int x3), some (.int x4), some (.int x5), some (.int x6), some (.int (zs_own.getD ((((4 : Int32) * x6) + x3)).toNatClampNeg 0))] [.int (zs_abv.getD (x6).toNatClampNeg 0)] _ _ from ?_)
      refine zy_24_3 rfl (fun b8 => (show zyR _ _ _ _ [some (.ref (27 + 3)), some (.int x1), none, some (.int x3), some (.int x4), some (.int x5), some (.int x6), some (.int (zs_own.getD ((((4 : Int32) * x6) + x3)).toNatClampNeg 0))] [] _ _ from ?_)) (fun b8 => (show zyR _ _ _ _ [some (.ref (27 + 3)), some (.int x1), none, some (.int x3), some (.int x4), some (.int x5), some (.int x6), some (.int (zs_own.getD ((((4 : Int32) * x6) + x3)).toNatClampNeg 0))] [] _ _ from ?_))
      · replace h := zy_ifp h b8
        refine zy_0 rfl rfl (show zyR _ _ _ _ [some (.ref (27 + 3)), some (.int x1), none, some (.int x3), some (.int x4), some (.int x5), some (.int x6), some (.int (zs_own.getD ((((4 : Int32) * x6) + x3)).toNatClampNeg 0))] [.ref (27 + 3)] _ _ from ?_)
        refine zy_2 rfl rfl (show zyR _ _ _ _ [some (.ref (27 + 3)), some (.int x1), none, some (.int x3), some (.int x4), some (.int x5), some (.int x6), some (.int (zs_own.getD ((((4 : Int32) * x6) + x3)).toNatClampNeg 0))] [.int x1, .ref (27 + 3)] _ _ from ?_)
        refine zy_2 rfl rfl (show zyR _ _ _ _ [some (.ref (27 + 3)), some (.int x1), none, some (.int x3), some (.int x4), some (.int x5), some (.int x6), some (.int (zs_own.getD ((((4 : Int32) * x6) + x3)).toNatClampNeg 0))] [.int (zs_own.getD ((((4 : Int32) * x6) + x3)).toNatClampNeg 0), .int x1, .ref (27 + 3)] _ _ from ?_)
        refine zy_54 rfl rfl (show zyR _ _ _ _ [some (.ref (27 + 3)), some (.int x1), none, some (.int x3), some (.int x4), some (.int x5), some (.int x6), some (.int (zs_own.getD ((((4 : Int32) * x6) + x3)).toNatClampNeg 0))] [.ref 1, .int (zs_own.getD ((((4 : Int32) * x6) + x3)).toNatClampNeg 0), .int x1, .ref (27 + 3)] _ _ from ?_)
        refine zy_2 rfl rfl (show zyR _ _ _ _ [some (.ref (27 + 3)), some (.int x1), none, some (.int x3), some (.int x4), some (.int x5), some (.int x6), some (.int (zs_own.getD ((((4 : Int32) * x6) + x3)).toNatClampNeg 0))] [.int x6, .ref 1, .int (zs_own.getD ((((4 : Int32) * x6) + x3)).toNatClampNeg 0), .int x1, .ref (27 + 3)] _ _ from ?_)
        obtain ⟨c5, h⟩ := zy_if h
        refine zy_26a rfl c5 (show zyR _ _ _ _ [some (.ref (27 + 3)), some (.int x1), none, some (.int x3), some (.int x4), some (.int x5), some (.int x6), some (.int (zs_own.getD ((((4 : Int32) * x6) + x3)).toNatClampNeg 0))] [.int (zs_abv.getD (x6).toNatClampNeg 0), .int (zs_own.getD ((((4 : Int32) * x6) + x3)).toNatClampNeg 0), .int x1, .ref (27 + 3)] _ _ from ?_)
        refine zy_2 rfl rfl (show zyR _ _ _ _ [some (.ref (27 + 3)), some (.int x1), none, some (.int x3), some (.int x4), some (.int x5), some (.int x6), some (.int (zs_own.getD ((((4 : Int32) * x6) + x3)).toNatClampNeg 0))] [.int x4, .int (zs_abv.getD (x6).toNatClampNeg 0), .int (zs_own.getD ((((4 : Int32) * x6) + x3)).toNatClampNeg 0), .int x1, .ref (27 + 3)] _ _ from ?_)
        refine zy_2 rfl rfl (show zyR _ _ _ _ [some (.ref (27 + 3)), some (.int x1), none, some (.int x3), some (.int x4), some (.int x5), some (.int x6), some (.int (zs_own.getD ((((4 : Int32) * x6) + x3)).toNatClampNeg 0))] [.int x5, .int x4, .int (zs_abv.getD (x6).toNatClampNeg 0), .int (zs_own.getD ((((4 : Int32) * x6) + x3)).toNatClampNeg 0), .int x1, .ref (27 + 3)] _ _ from ?_)
        refine zy_3 rfl rfl (show zyR _ _ _ _ [some (.ref (27 + 3)), some (.int x1), none, some (.int x3), some (.int x4), some (.int x5), some (.int x6), some (.int (zs_own.getD ((((4 : Int32) * x6) + x3)).toNatClampNeg 0))] [.int (1 : Int32), .int x5, .int x4, .int (zs_abv.getD (x6).toNatClampNeg 0), .int (zs_own.getD ((((4 : Int32) * x6) + x3)).toNatClampNeg 0), .int x1, .ref (27 + 3)] _ _ from ?_)
        refine zy_10 rfl (show zyR _ _ _ _ [some (.ref (27 + 3)), some (.int x1), none, some (.int x3), some (.int x4), some (.int x5), some (.int x6), some (.int (zs_own.getD ((((4 : Int32) * x6) + x3)).toNatClampNeg 0))] [.int (x5 + (1 : Int32)), .int x4, .int (zs_abv.getD (x6).toNatClampNeg 0), .int (zs_own.getD ((((4 : Int32) * x6) + x3)).toNatClampNeg 0), .int x1, .ref (27 + 3)] _ _ from ?_)
        obtain ⟨p6, hp6, h⟩ := zy_bind h
        refine zy_5 (c := 27) (as := [.int x1, .int (zs_own.getD ((((4 : Int32) * x6) + x3)).toNatClampNeg 0), .int (zs_abv.getD (x6).toNatClampNeg 0), .int x4, .int (x5 + (1 : Int32))]) (rest := []) (L := [some (.ref (27 + 3)), some (.int x1), some (.int (zs_own.getD ((((4 : Int32) * x6) + x3)).toNatClampNeg 0)), some (.int (zs_abv.getD (x6).toNatClampNeg 0)), some (.int x4), some (.int (x5 + (1 : Int32))), none]) (d' := d) rfl rfl rfl (Nat.le_of_ble_eq_true rfl) (by omega) rfl (Nat.le_of_ble_eq_true rfl) rfl rfl (hg158 x1 (zs_own.getD ((((4 : Int32) * x6) + x3)).toNatClampNeg 0) (zs_abv.getD (x6).toNatClampNeg 0) x4 (x5 + (1 : Int32)) p3.2 _ _ hp6) ?_
        show zyR _ _ _ _ [some (.ref (27 + 3)), some (.int x1), none, some (.int x3), some (.int x4), some (.int x5), some (.int x6), some (.int (zs_own.getD ((((4 : Int32) * x6) + x3)).toNatClampNeg 0))] [.int p6.1] _ _
        obtain ⟨rfl, rfl⟩ := zy_pi h
        exact zy_4 rfl ⟨rfl, rfl⟩
      · replace h := zy_ifn h b8
        refine zy_0 rfl rfl (show zyR _ _ _ _ [some (.ref (27 + 3)), some (.int x1), none, some (.int x3), some (.int x4), some (.int x5), some (.int x6), some (.int (zs_own.getD ((((4 : Int32) * x6) + x3)).toNatClampNeg 0))] [.ref (27 + 3)] _ _ from ?_)
        refine zy_2 rfl rfl (show zyR _ _ _ _ [some (.ref (27 + 3)), some (.int x1), none, some (.int x3), some (.int x4), some (.int x5), some (.int x6), some (.int (zs_own.getD ((((4 : Int32) * x6) + x3)).toNatClampNeg 0))] [.int x1, .ref (27 + 3)] _ _ from ?_)
        refine zy_2 rfl rfl (show zyR _ _ _ _ [some (.ref (27 + 3)), some (.int x1), none, some (.int x3), some (.int x4), some (.int x5), some (.int x6), some (.int (zs_own.getD ((((4 : Int32) * x6) + x3)).toNatClampNeg 0))] [.int (zs_own.getD ((((4 : Int32) * x6) + x3)).toNatClampNeg 0), .int x1, .ref (27 + 3)] _ _ from ?_)
        refine zy_2 rfl rfl (show zyR _ _ _ _ [some (.ref (27 + 3)), some (.int x1), none, some (.int x3), some (.int x4), some (.int x5), some (.int x6), some (.int (zs_own.getD ((((4 : Int32) * x6) + x3)).toNatClampNeg 0))] [.int x4, .int (zs_own.getD ((((4 : Int32) * x6) + x3)).toNatClampNeg 0), .int x1, .ref (27 + 3)] _ _ from ?_)
        refine zy_2 rfl rfl (show zyR _ _ _ _ [some (.ref (27 + 3)), some (.int x1), none, some (.int x3), some (.int x4), some (.int x5), some (.int x6), some (.int (zs_own.getD ((((4 : Int32) * x6) + x3)).toNatClampNeg 0))] [.int x5, .int x4, .int (zs_own.getD ((((4 : Int32) * x6) + x3)).toNatClampNeg 0), .int x1, .ref (27 + 3)] _ _ from ?_)
        refine zy_3 rfl rfl (show zyR _ _ _ _ [some (.ref (27 + 3)), some (.int x1), none, some (.int x3), some (.int x4), some (.int x5), some (.int x6), some (.int (zs_own.getD ((((4 : Int32) * x6) + x3)).toNatClampNeg 0))] [.int (1 : Int32), .int x5, .int x4, .int (zs_own.getD ((((4 : Int32) * x6) + x3)).toNatClampNeg 0), .int x1, .ref (27 + 3)] _ _ from ?_)
        refine zy_10 rfl (show zyR _ _ _ _ [some (.ref (27 + 3)), some (.int x1), none, some (.int x3), some (.int x4), some (.int x5), some (.int x6), some (.int (zs_own.getD ((((4 : Int32) * x6) + x3)).toNatClampNeg 0))] [.int (x5 + (1 : Int32)), .int x4, .int (zs_own.getD ((((4 : Int32) * x6) + x3)).toNatClampNeg 0), .int x1, .ref (27 + 3)] _ _ from ?_)
        obtain ⟨p7, hp7, h⟩ := zy_bind h
        refine zy_5 (c := 27) (as := [.int x1, .int (zs_own.getD ((((4 : Int32) * x6) + x3)).toNatClampNeg 0), .int x4, .int (x5 + (1 : Int32))]) (rest := []) (L := [some (.ref (27 + 3)), some (.int x1), some (.int (zs_own.getD ((((4 : Int32) * x6) + x3)).toNatClampNeg 0)), some (.int x4), some (.int (x5 + (1 : Int32))), none]) (d' := d) rfl rfl rfl (Nat.le_of_ble_eq_true rfl) (by omega) rfl (Nat.le_of_ble_eq_true rfl) rfl rfl (hg157 x1 (zs_own.getD ((((4 : Int32) * x6) + x3)).toNatClampNeg 0) x4 (x5 + (1 : Int32)) p3.2 _ _ hp7) ?_
        show zyR _ _ _ _ [some (.ref (27 + 3)), some (.int x1), none, some (.int x3), some (.int x4), some (.int x5), some (.int x6), some (.int (zs_own.getD ((((4 : Int32) * x6) + x3)).toNatClampNeg 0))] [.int p7.1] _ _
        refine zy_6 rfl (show zyR _ _ _ _ [some (.ref (27 + 3)), some (.int x1), none, some (.int x3), some (.int x4), some (.int x5), some (.int x6), some (.int (zs_own.getD ((((4 : Int32) * x6) + x3)).toNatClampNeg 0))] [.int p7.1] _ _ from ?_)
        obtain ⟨rfl, rfl⟩ := zy_pi h
        exact zy_4 rfl ⟨rfl, rfl⟩
    · replace h := zy_ifn h b9
      refine zy_3 rfl rfl (show zyR _ _ _ _ [some (.ref (27 + 3)), some (.int x1), none, some (.int x3), some (.int x4), some (.int x5), some (.int x6), none] [.int (0 : Int32)] _ _ from ?_)
      obtain ⟨rfl, rfl⟩ := zy_pi h
      exact zy_4 rfl ⟨rfl, rfl⟩
noncomputable def zyF155_6b (g155 : Int32 → Int32 → Int32 → Int32 → Int32 → zy_S → Option (Int32 × zy_S)) (g157 : Int32 → Int32 → Int32 → Int32 → zy_S → Option (Int32 × zy_S)) (g158 : Int32 → Int32 → Int32 → Int32 → Int32 → zy_S → Option (Int32 × zy_S)) (k6 : Int32 → Int32 → Int32 → Int32 → Int32 → Int32 → zy_S → Option (Int32 × zy_S)) (x1 : Int32) (x3 : Int32) (x4 : Int32) (x5 : Int32) (x6 : Int32) (x7 : Int32) (s : zy_S) : Option (Int32 × zy_S) :=
if (8 : Int32) ≤ x7 then
zyF155_48 g155 g157 g158 x1 x3 x4 x5 x6 s
else
(zyF149 x6 s).bind fun p11 =>
if p11.1 = 0 then
zyF155_48 g155 g157 g158 x1 x3 x4 x5 x6 p11.2
else
if zy_in (((4 : Int32) * x6) + x3) 32 then
if (zs_own.getD ((((4 : Int32) * x6) + x3)).toNatClampNeg 0) ≠ 0 then
zyF155_48 g155 g157 g158 x1 x3 x4 x5 x6 p11.2
else
if zy_in x6 8 then
k6 x1 x3 x4 x5 (zs_abv.getD (x6).toNatClampNeg 0) (x7 + (1 : Int32)) p11.2
else none
else none
theorem zyC155_6b {X : zx_X} {d : Nat} {g155 : Int32 → Int32 → Int32 → Int32 → Int32 → zy_S → Option (Int32 × zy_S)} {g157 : Int32 → Int32 → Int32 → Int32 → zy_S → Option (Int32 × zy_S)} {g158 : Int32 → Int32 → Int32 → Int32 → Int32 → zy_S → Option (Int32 × zy_S)} {k6 : Int32 → Int32 → Int32 → Int32 → Int32 → Int32 → zy_S → Option (Int32 × zy_S)} (hd : 1 ≤ d) (hg155 : ∀ (x1 : Int32) (x2 : Int32) (x3 : Int32) (x4 : Int32) (x5 : Int32) (s : zy_S) (r : Int32) (s' : zy_S), g155 x1 x2 x3 x4 x5 s = some (r, s') → zyR X d 155 0 [some (.ref (27 + 3)), some (.int x1), some (.int x2), some (.int x3), some (.int x4), some (.int x5), none, none] [] s (zyE (some (.int r)) s')) (hg157 : ∀ (x1 : Int32) (x2 : Int32) (x3 : Int32) (x4 : Int32) (s : zy_S) (r : Int32) (s' : zy_S), g157 x1 x2 x3 x4 s = some (r, s') → zyR X d 157 0 [some (.ref (27 + 3)), some (.int x1), some (.int x2), some (.int x3), some (.int x4), none] [] s (zyE (some (.int r)) s')) (hg158 : ∀ (x1 : Int32) (x2 : Int32) (x3 : Int32) (x4 : Int32) (x5 : Int32) (s : zy_S) (r : Int32) (s' : zy_S), g158 x1 x2 x3 x4 x5 s = some (r, s') → zyR X d 158 0 [some (.ref (27 + 3)), some (.int x1), some (.int x2), some (.int x3), some (.int x4), some (.int x5), none] [] s (zyE (some (.int r)) s')) (hk6 : ∀ (x1 : Int32) (x3 : Int32) (x4 : Int32) (x5 : Int32) (x6 : Int32) (x7 : Int32) (s : zy_S) (r : Int32) (s' : zy_S), k6 x1 x3 x4 x5 x6 x7 s = some (r, s') → zyR X (d + 1) 155 6 [some (.ref (27 + 3)), some (.int x1), none, some (.int x3), some (.int x4), some (.int x5), some (.int x6), some (.int x7)] [] s (zyE (some (.int r)) s')) {x1 : Int32} {x3 : Int32} {x4 : Int32} {x5 : Int32} {x6 : Int32} {x7 : Int32} {s : zy_S} {r : Int32} {s' : zy_S}  (h : zyF155_6b g155 g157 g158 k6 x1 x3 x4 x5 x6 x7 s = some (r, s')) : zyR X (d + 1) 155 6 [some (.ref (27 + 3)), some (.int x1), none, some (.int x3), some (.int x4), some (.int x5), some (.int x6), some (.int x7)] [] s (zyE (some (.int r)) s') := by
  unfold zyF155_6b at h
  refine zy_2 rfl rfl (show zyR _ _ _ _ [some (.ref (27 + 3)), some (.int x1), none, some (.int x3), some (.int x4), some (.int x5), some (.int x6), some (.int x7)] [.int x7] _ _ from ?_)
  refine zy_3 rfl rfl (show zyR _ _ _ _ [some (.ref (27 + 3)), some (.int x1), none, some (.int x3), some (.int x4), some (.int x5), some (.int x6), some (.int x7)] [.int (8 : Int32), .int x7] _ _ from ?_)
  refine zy_25_3 rfl (fun b16 => (show zyR _ _ _ _ [some (.ref (27 + 3)), some (.int x1), none, some (.int x3), some (.int x4), some (.int x5), some (.int x6), some (.int x7)] [] _ _ from ?_)) (fun b16 => (show zyR _ _ _ _ [some (.ref (27 + 3)), some (.int x1), none, some (.int x3), some (.int x4), some (.int x5), some (.int x6), some (.int x7)] [] _ _ from ?_))
  · replace h := zy_ifp h b16
    exact zy_sub (show zy_le [some (.ref (27 + 3)), some (.int x1), none, some (.int x3), some (.int x4), some (.int x5), some (.int x6), none] [some (.ref (27 + 3)), some (.int x1), none, some (.int x3), some (.int x4), some (.int x5), some (.int x6), some (.int x7)] from ⟨rfl, ⟨rfl, ⟨rfl, ⟨rfl, ⟨rfl, ⟨rfl, trivial⟩⟩⟩⟩⟩⟩) (zyC155_48 hd hg155 hg157 hg158 h)
  · replace h := zy_ifn h b16
    refine zy_2 rfl rfl (show zyR _ _ _ _ [some (.ref (27 + 3)), some (.int x1), none, some (.int x3), some (.int x4), some (.int x5), some (.int x6), some (.int x7)] [.int x6] _ _ from ?_)
    obtain ⟨p11, hp11, h⟩ := zy_bind h
    refine zy_60 (as := [.int x6]) (rest := []) (L := [some (.int x6)]) (d' := 1) rfl rfl (Nat.le_of_ble_eq_true rfl) (by omega) rfl (Nat.le_of_ble_eq_true rfl) rfl rfl (zyC149 hp11) ?_
    show zyR _ _ _ _ [some (.ref (27 + 3)), some (.int x1), none, some (.int x3), some (.int x4), some (.int x5), some (.int x6), some (.int x7)] [.int p11.1] _ _
    refine zy_24_0 rfl (fun b15 => (show zyR _ _ _ _ [some (.ref (27 + 3)), some (.int x1), none, some (.int x3), some (.int x4), some (.int x5), some (.int x6), some (.int x7)] [] _ _ from ?_)) (fun b15 => (show zyR _ _ _ _ [some (.ref (27 + 3)), some (.int x1), none, some (.int x3), some (.int x4), some (.int x5), some (.int x6), some (.int x7)] [] _ _ from ?_))
    · replace h := zy_ifp h b15
      exact zy_sub (show zy_le [some (.ref (27 + 3)), some (.int x1), none, some (.int x3), some (.int x4), some (.int x5), some (.int x6), none] [some (.ref (27 + 3)), some (.int x1), none, some (.int x3), some (.int x4), some (.int x5), some (.int x6), some (.int x7)] from ⟨rfl, ⟨rfl, ⟨rfl, ⟨rfl, ⟨rfl, ⟨rfl, trivial⟩⟩⟩⟩⟩⟩) (zyC155_48 hd hg155 hg157 hg158 h)
    · replace h := zy_ifn h b15
      refine zy_54 rfl rfl (show zyR _ _ _ _ [some (.ref (27 + 3)), some (.int x1), none, some (.int x3), some (.int x4), some (.int x5), some (.int x6), some (.int x7)] [.ref 0] _ _ from ?_)
      refine zy_3 rfl rfl (show zyR _ _ _ _ [some (.ref (27 + 3)), some (.int x1), none, some (.int x3), some (.int x4), some (.int x5), some (.int x6), some (.int x7)] [.int (4 : Int32), .ref 0] _ _ from ?_)
      refine zy_2 rfl rfl (show zyR _ _ _ _ [some (.ref (27 + 3)), some (.int x1), none, some (.int x3), some (.int x4), some (.int x5), some (.int x6), some (.int x7)] [.int x6, .int (4 : Int32), .ref 0] _ _ from ?_)
      refine zy_12 rfl (show zyR _ _ _ _ [some (.ref (27 + 3)), some (.int x1), none, some (.int x3), some (.int x4), some (.int x5), some (.int x6), some (.int x7)] [.int ((4 : Int32) * x6), .ref 0] _ _ from ?_)
      refine zy_2 rfl rfl (show zyR _ _ _ _ [some (.ref (27 + 3)), some (.int x1), none, some (.int x3), some (.int x4), some (.int x5), some (.int x6), some (.int x7)] [.int x3, .int ((4 : Int32) * x6), .ref 0] _ _ from ?_)
      refine zy_10 rfl (show zyR _ _ _ _ [some (.ref (27 + 3)), some (.int x1), none, some (.int x3), some (.int x4), some (.int x5), some (.int x6), some (.int x7)] [.int (((4 : Int32) * x6) + x3), .ref 0] _ _ from ?_)
      obtain ⟨c12, h⟩ := zy_if h
      refine zy_26o rfl c12 (show zyR _ _ _ _ [some (.ref (27 + 3)), some (.int x1), none, some (.int x3), some (.int x4), some (.int x5), some (.int x6), some (.int x7)] [.int (zs_own.getD ((((4 : Int32) * x6) + x3)).toNatClampNeg 0)] _ _ from ?_)
      refine zy_24_1 rfl (fun b14 => (show zyR _ _ _ _ [some (.ref (27 + 3)), some (.int x1), none, some (.int x3), some (.int x4), some (.int x5), some (.int x6), some (.int x7)] [] _ _ from ?_)) (fun b14 => (show zyR _ _ _ _ [some (.ref (27 + 3)), some (.int x1), none, some (.int x3), some (.int x4), some (.int x5), some (.int x6), some (.int x7)] [] _ _ from ?_))
      · replace h := zy_ifp h b14
        exact zy_sub (show zy_le [some (.ref (27 + 3)), some (.int x1), none, some (.int x3), some (.int x4), some (.int x5), some (.int x6), none] [some (.ref (27 + 3)), some (.int x1), none, some (.int x3), some (.int x4), some (.int x5), some (.int x6), some (.int x7)] from ⟨rfl, ⟨rfl, ⟨rfl, ⟨rfl, ⟨rfl, ⟨rfl, trivial⟩⟩⟩⟩⟩⟩) (zyC155_48 hd hg155 hg157 hg158 h)
      · replace h := zy_ifn h b14
        refine zy_54 rfl rfl (show zyR _ _ _ _ [some (.ref (27 + 3)), some (.int x1), none, some (.int x3), some (.int x4), some (.int x5), some (.int x6), some (.int x7)] [.ref 1] _ _ from ?_)
        refine zy_2 rfl rfl (show zyR _ _ _ _ [some (.ref (27 + 3)), some (.int x1), none, some (.int x3), some (.int x4), some (.int x5), some (.int x6), some (.int x7)] [.int x6, .ref 1] _ _ from ?_)
        obtain ⟨c13, h⟩ := zy_if h
        refine zy_26a rfl c13 (show zyR _ _ _ _ [some (.ref (27 + 3)), some (.int x1), none, some (.int x3), some (.int x4), some (.int x5), some (.int x6), some (.int x7)] [.int (zs_abv.getD (x6).toNatClampNeg 0)] _ _ from ?_)
        refine zy_23 rfl rfl (show zyR _ _ _ _ [some (.ref (27 + 3)), some (.int x1), none, some (.int x3), some (.int x4), some (.int x5), some (.int (zs_abv.getD (x6).toNatClampNeg 0)), some (.int x7)] [] _ _ from ?_)
        refine zy_22 rfl rfl rfl rfl (show zyR _ _ _ _ [some (.ref (27 + 3)), some (.int x1), none, some (.int x3), some (.int x4), some (.int x5), some (.int (zs_abv.getD (x6).toNatClampNeg 0)), some (.int (x7 + (1 : Int32)))] [] _ _ from ?_)
        refine zy_6 rfl (show zyR _ _ _ _ [some (.ref (27 + 3)), some (.int x1), none, some (.int x3), some (.int x4), some (.int x5), some (.int (zs_abv.getD (x6).toNatClampNeg 0)), some (.int (x7 + (1 : Int32)))] [] _ _ from ?_)
        exact zy_sub (show zy_le [some (.ref (27 + 3)), some (.int x1), none, some (.int x3), some (.int x4), some (.int x5), some (.int (zs_abv.getD (x6).toNatClampNeg 0)), some (.int (x7 + (1 : Int32)))] [some (.ref (27 + 3)), some (.int x1), none, some (.int x3), some (.int x4), some (.int x5), some (.int (zs_abv.getD (x6).toNatClampNeg 0)), some (.int (x7 + (1 : Int32)))] from ⟨rfl, ⟨rfl, ⟨rfl, ⟨rfl, ⟨rfl, ⟨rfl, ⟨rfl, trivial⟩⟩⟩⟩⟩⟩⟩) (hk6 x1 x3 x4 x5 (zs_abv.getD (x6).toNatClampNeg 0) (x7 + (1 : Int32)) p11.2 _ _ h)
noncomputable def zyF155_6 (g155 : Int32 → Int32 → Int32 → Int32 → Int32 → zy_S → Option (Int32 × zy_S)) (g157 : Int32 → Int32 → Int32 → Int32 → zy_S → Option (Int32 × zy_S)) (g158 : Int32 → Int32 → Int32 → Int32 → Int32 → zy_S → Option (Int32 × zy_S))  (n : Nat) : Int32 → Int32 → Int32 → Int32 → Int32 → Int32 → zy_S → Option (Int32 × zy_S) := Nat.rec (fun _ _ _ _ _ _ _ => none) (fun _ k6 => zyF155_6b g155 g157 g158 k6) n
theorem zyC155_6 {X : zx_X} {d : Nat} {g155 : Int32 → Int32 → Int32 → Int32 → Int32 → zy_S → Option (Int32 × zy_S)} {g157 : Int32 → Int32 → Int32 → Int32 → zy_S → Option (Int32 × zy_S)} {g158 : Int32 → Int32 → Int32 → Int32 → Int32 → zy_S → Option (Int32 × zy_S)}  (hd : 1 ≤ d) (hg155 : ∀ (x1 : Int32) (x2 : Int32) (x3 : Int32) (x4 : Int32) (x5 : Int32) (s : zy_S) (r : Int32) (s' : zy_S), g155 x1 x2 x3 x4 x5 s = some (r, s') → zyR X d 155 0 [some (.ref (27 + 3)), some (.int x1), some (.int x2), some (.int x3), some (.int x4), some (.int x5), none, none] [] s (zyE (some (.int r)) s')) (hg157 : ∀ (x1 : Int32) (x2 : Int32) (x3 : Int32) (x4 : Int32) (s : zy_S) (r : Int32) (s' : zy_S), g157 x1 x2 x3 x4 s = some (r, s') → zyR X d 157 0 [some (.ref (27 + 3)), some (.int x1), some (.int x2), some (.int x3), some (.int x4), none] [] s (zyE (some (.int r)) s')) (hg158 : ∀ (x1 : Int32) (x2 : Int32) (x3 : Int32) (x4 : Int32) (x5 : Int32) (s : zy_S) (r : Int32) (s' : zy_S), g158 x1 x2 x3 x4 x5 s = some (r, s') → zyR X d 158 0 [some (.ref (27 + 3)), some (.int x1), some (.int x2), some (.int x3), some (.int x4), some (.int x5), none] [] s (zyE (some (.int r)) s'))  : ∀ (n : Nat) (x1 : Int32) (x3 : Int32) (x4 : Int32) (x5 : Int32) (x6 : Int32) (x7 : Int32) (s : zy_S) (r : Int32) (s' : zy_S), zyF155_6 g155 g157 g158 n x1 x3 x4 x5 x6 x7 s = some (r, s') → zyR X (d + 1) 155 6 [some (.ref (27 + 3)), some (.int x1), none, some (.int x3), some (.int x4), some (.int x5), some (.int x6), some (.int x7)] [] s (zyE (some (.int r)) s')
  | 0, _, _, _, _, _, _ => by
    intro s r s'  h
    have h : (none : Option (Int32 × zy_S)) = some (r, s') := h
    cases h
  | n + 1, x1, x3, x4, x5, x6, x7 => by
    intro s r s'  h
    exact zyC155_6b hd hg155 hg157 hg158 (k6 := zyF155_6 g155 g157 g158 n) (fun x1 x3 x4 x5 x6 x7 s r s'  h => zyC155_6 hd hg155 hg157 hg158 n x1 x3 x4 x5 x6 x7 s r s'  h) h
noncomputable def zyF155_0 (g155 : Int32 → Int32 → Int32 → Int32 → Int32 → zy_S → Option (Int32 × zy_S)) (g157 : Int32 → Int32 → Int32 → Int32 → zy_S → Option (Int32 × zy_S)) (g158 : Int32 → Int32 → Int32 → Int32 → Int32 → zy_S → Option (Int32 × zy_S))  (x1 : Int32) (x2 : Int32) (x3 : Int32) (x4 : Int32) (x5 : Int32) (s : zy_S) : Option (Int32 × zy_S) :=
zyF155_6 g155 g157 g158 zy_fu x1 x3 x4 x5 x2 (0 : Int32) s
theorem zyC155_0 {X : zx_X} {d : Nat} {g155 : Int32 → Int32 → Int32 → Int32 → Int32 → zy_S → Option (Int32 × zy_S)} {g157 : Int32 → Int32 → Int32 → Int32 → zy_S → Option (Int32 × zy_S)} {g158 : Int32 → Int32 → Int32 → Int32 → Int32 → zy_S → Option (Int32 × zy_S)}  (hd : 1 ≤ d) (hg155 : ∀ (x1 : Int32) (x2 : Int32) (x3 : Int32) (x4 : Int32) (x5 : Int32) (s : zy_S) (r : Int32) (s' : zy_S), g155 x1 x2 x3 x4 x5 s = some (r, s') → zyR X d 155 0 [some (.ref (27 + 3)), some (.int x1), some (.int x2), some (.int x3), some (.int x4), some (.int x5), none, none] [] s (zyE (some (.int r)) s')) (hg157 : ∀ (x1 : Int32) (x2 : Int32) (x3 : Int32) (x4 : Int32) (s : zy_S) (r : Int32) (s' : zy_S), g157 x1 x2 x3 x4 s = some (r, s') → zyR X d 157 0 [some (.ref (27 + 3)), some (.int x1), some (.int x2), some (.int x3), some (.int x4), none] [] s (zyE (some (.int r)) s')) (hg158 : ∀ (x1 : Int32) (x2 : Int32) (x3 : Int32) (x4 : Int32) (x5 : Int32) (s : zy_S) (r : Int32) (s' : zy_S), g158 x1 x2 x3 x4 x5 s = some (r, s') → zyR X d 158 0 [some (.ref (27 + 3)), some (.int x1), some (.int x2), some (.int x3), some (.int x4), some (.int x5), none] [] s (zyE (some (.int r)) s'))  {x1 : Int32} {x2 : Int32} {x3 : Int32} {x4 : Int32} {x5 : Int32} {s : zy_S} {r : Int32} {s' : zy_S}  (h : zyF155_0 g155 g157 g158 x1 x2 x3 x4 x5 s = some (r, s')) : zyR X (d + 1) 155 0 [some (.ref (27 + 3)), some (.int x1), some (.int x2), some (.int x3), some (.int x4), some (.int x5), none, none] [] s (zyE (some (.int r)) s') := by
  unfold zyF155_0 at h
  refine zy_2 rfl rfl (show zyR _ _ _ _ [some (.ref (27 + 3)), some (.int x1), some (.int x2), some (.int x3), some (.int x4), some (.int x5), none, none] [.int x2] _ _ from ?_)
  refine zy_23 rfl rfl (show zyR _ _ _ _ [some (.ref (27 + 3)), some (.int x1), some (.int x2), some (.int x3), some (.int x4), some (.int x5), some (.int x2), none] [] _ _ from ?_)
  refine zy_3 rfl rfl (show zyR _ _ _ _ [some (.ref (27 + 3)), some (.int x1), some (.int x2), some (.int x3), some (.int x4), some (.int x5), some (.int x2), none] [.int (0 : Int32)] _ _ from ?_)
  refine zy_23 rfl rfl (show zyR _ _ _ _ [some (.ref (27 + 3)), some (.int x1), some (.int x2), some (.int x3), some (.int x4), some (.int x5), some (.int x2), some (.int (0 : Int32))] [] _ _ from ?_)
  exact zy_sub (show zy_le [some (.ref (27 + 3)), some (.int x1), none, some (.int x3), some (.int x4), some (.int x5), some (.int x2), some (.int (0 : Int32))] [some (.ref (27 + 3)), some (.int x1), some (.int x2), some (.int x3), some (.int x4), some (.int x5), some (.int x2), some (.int (0 : Int32))] from ⟨rfl, ⟨rfl, ⟨rfl, ⟨rfl, ⟨rfl, ⟨rfl, ⟨rfl, trivial⟩⟩⟩⟩⟩⟩⟩) (zyC155_6 hd hg155 hg157 hg158 zy_fu x1 x3 x4 x5 x2 (0 : Int32) s _ _ h)
/-! NineOpinions$Bodies.runRoot(IIII)I, over what it calls -/
noncomputable def zyF157_0 (g155 : Int32 → Int32 → Int32 → Int32 → Int32 → zy_S → Option (Int32 × zy_S)) (g157 : Int32 → Int32 → Int32 → Int32 → zy_S → Option (Int32 × zy_S)) (g158 : Int32 → Int32 → Int32 → Int32 → Int32 → zy_S → Option (Int32 × zy_S))  (x1 : Int32) (x2 : Int32) (x3 : Int32) (x4 : Int32) (s : zy_S) : Option (Int32 × zy_S) :=
if zy_in x1 50 then
if x2 = (1 : Int32) then
some ((x3 + x1), s)
else
if x2 = (10 : Int32) then
(g155 x1 (s.1 28 (x1).toNatClampNeg) (0 : Int32) x3 x4 s).bind fun p3 =>
some ((p3.1 * (2 : Int32)), p3.2)
else
if x2 = (11 : Int32) then
some ((x3 ^^^ x1), s)
else
(g155 x1 (s.1 28 (x1).toNatClampNeg) (1 : Int32) x3 x4 s).bind fun p6 =>
(g155 x1 (s.1 28 (x1).toNatClampNeg) (2 : Int32) (1 : Int32) x4 p6.2).bind fun p7 =>
some ((p6.1 - p7.1), p7.2)
else none
theorem zyC157_0 {X : zx_X} {d : Nat} {g155 : Int32 → Int32 → Int32 → Int32 → Int32 → zy_S → Option (Int32 × zy_S)} {g157 : Int32 → Int32 → Int32 → Int32 → zy_S → Option (Int32 × zy_S)} {g158 : Int32 → Int32 → Int32 → Int32 → Int32 → zy_S → Option (Int32 × zy_S)}  (hd : 0 ≤ d) (hg155 : ∀ (x1 : Int32) (x2 : Int32) (x3 : Int32) (x4 : Int32) (x5 : Int32) (s : zy_S) (r : Int32) (s' : zy_S), g155 x1 x2 x3 x4 x5 s = some (r, s') → zyR X d 155 0 [some (.ref (27 + 3)), some (.int x1), some (.int x2), some (.int x3), some (.int x4), some (.int x5), none, none] [] s (zyE (some (.int r)) s')) (hg157 : ∀ (x1 : Int32) (x2 : Int32) (x3 : Int32) (x4 : Int32) (s : zy_S) (r : Int32) (s' : zy_S), g157 x1 x2 x3 x4 s = some (r, s') → zyR X d 157 0 [some (.ref (27 + 3)), some (.int x1), some (.int x2), some (.int x3), some (.int x4), none] [] s (zyE (some (.int r)) s')) (hg158 : ∀ (x1 : Int32) (x2 : Int32) (x3 : Int32) (x4 : Int32) (x5 : Int32) (s : zy_S) (r : Int32) (s' : zy_S), g158 x1 x2 x3 x4 x5 s = some (r, s') → zyR X d 158 0 [some (.ref (27 + 3)), some (.int x1), some (.int x2), some (.int x3), some (.int x4), some (.int x5), none] [] s (zyE (some (.int r)) s'))  {x1 : Int32} {x2 : Int32} {x3 : Int32} {x4 : Int32} {s : zy_S} {r : Int32} {s' : zy_S}  (h : zyF157_0 g155 g157 g158 x1 x2 x3 x4 s = some (r, s')) : zyR X (d + 1) 157 0 [some (.ref (27 + 3)), some (.int x1), some (.int x2), some (.int x3), some (.int x4), none] [] s (zyE (some (.int r)) s') := by
  unfold zyF157_0 at h
  refine zy_0 rfl rfl (show zyR _ _ _ _ [some (.ref (27 + 3)), some (.int x1), some (.int x2), some (.int x3), some (.int x4), none] [.ref (27 + 3)] _ _ from ?_)
  refine zy_1r (c := 27) rfl rfl rfl (show zyR _ _ _ _ [some (.ref (27 + 3)), some (.int x1), some (.int x2), some (.int x3), some (.int x4), none] [.ref (28 + 3)] _ _ from ?_)
  refine zy_2 rfl rfl (show zyR _ _ _ _ [some (.ref (27 + 3)), some (.int x1), some (.int x2), some (.int x3), some (.int x4), none] [.int x1, .ref (28 + 3)] _ _ from ?_)
  obtain ⟨c1, h⟩ := zy_if h
  refine zy_26 (c := 28) rfl rfl c1 (show zyR _ _ _ _ [some (.ref (27 + 3)), some (.int x1), some (.int x2), some (.int x3), some (.int x4), none] [.int (s.1 28 (x1).toNatClampNeg)] _ _ from ?_)
  refine zy_23 rfl rfl (show zyR _ _ _ _ [some (.ref (27 + 3)), some (.int x1), some (.int x2), some (.int x3), some (.int x4), some (.int (s.1 28 (x1).toNatClampNeg))] [] _ _ from ?_)
  refine zy_2 rfl rfl (show zyR _ _ _ _ [some (.ref (27 + 3)), some (.int x1), some (.int x2), some (.int x3), some (.int x4), some (.int (s.1 28 (x1).toNatClampNeg))] [.int x2] _ _ from ?_)
  refine zy_51 rfl (by decide) ?_
  refine zy_swp (fun b2 => (show zyR _ _ _ _ [some (.ref (27 + 3)), some (.int x1), some (.int x2), some (.int x3), some (.int x4), some (.int (s.1 28 (x1).toNatClampNeg))] [] _ _ from ?_)) (fun b2 => ?_)
  · replace h := zy_ifp h b2
    refine zy_2 rfl rfl (show zyR _ _ _ _ [some (.ref (27 + 3)), some (.int x1), some (.int x2), some (.int x3), some (.int x4), some (.int (s.1 28 (x1).toNatClampNeg))] [.int x3] _ _ from ?_)
    refine zy_2 rfl rfl (show zyR _ _ _ _ [some (.ref (27 + 3)), some (.int x1), some (.int x2), some (.int x3), some (.int x4), some (.int (s.1 28 (x1).toNatClampNeg))] [.int x1, .int x3] _ _ from ?_)
    refine zy_10 rfl (show zyR _ _ _ _ [some (.ref (27 + 3)), some (.int x1), some (.int x2), some (.int x3), some (.int x4), some (.int (s.1 28 (x1).toNatClampNeg))] [.int (x3 + x1)] _ _ from ?_)
    obtain ⟨rfl, rfl⟩ := zy_pi h
    exact zy_4 rfl ⟨rfl, rfl⟩
  replace h := zy_ifn h b2
  refine zy_swp (fun b4 => (show zyR _ _ _ _ [some (.ref (27 + 3)), some (.int x1), some (.int x2), some (.int x3), some (.int x4), some (.int (s.1 28 (x1).toNatClampNeg))] [] _ _ from ?_)) (fun b4 => ?_)
  · replace h := zy_ifp h b4
    refine zy_0 rfl rfl (show zyR _ _ _ _ [some (.ref (27 + 3)), some (.int x1), some (.int x2), some (.int x3), some (.int x4), some (.int (s.1 28 (x1).toNatClampNeg))] [.ref (27 + 3)] _ _ from ?_)
    refine zy_2 rfl rfl (show zyR _ _ _ _ [some (.ref (27 + 3)), some (.int x1), some (.int x2), some (.int x3), some (.int x4), some (.int (s.1 28 (x1).toNatClampNeg))] [.int x1, .ref (27 + 3)] _ _ from ?_)
    refine zy_2 rfl rfl (show zyR _ _ _ _ [some (.ref (27 + 3)), some (.int x1), some (.int x2), some (.int x3), some (.int x4), some (.int (s.1 28 (x1).toNatClampNeg))] [.int (s.1 28 (x1).toNatClampNeg), .int x1, .ref (27 + 3)] _ _ from ?_)
    refine zy_3 rfl rfl (show zyR _ _ _ _ [some (.ref (27 + 3)), some (.int x1), some (.int x2), some (.int x3), some (.int x4), some (.int (s.1 28 (x1).toNatClampNeg))] [.int (0 : Int32), .int (s.1 28 (x1).toNatClampNeg), .int x1, .ref (27 + 3)] _ _ from ?_)
    refine zy_2 rfl rfl (show zyR _ _ _ _ [some (.ref (27 + 3)), some (.int x1), some (.int x2), some (.int x3), some (.int x4), some (.int (s.1 28 (x1).toNatClampNeg))] [.int x3, .int (0 : Int32), .int (s.1 28 (x1).toNatClampNeg), .int x1, .ref (27 + 3)] _ _ from ?_)
    refine zy_2 rfl rfl (show zyR _ _ _ _ [some (.ref (27 + 3)), some (.int x1), some (.int x2), some (.int x3), some (.int x4), some (.int (s.1 28 (x1).toNatClampNeg))] [.int x4, .int x3, .int (0 : Int32), .int (s.1 28 (x1).toNatClampNeg), .int x1, .ref (27 + 3)] _ _ from ?_)
    obtain ⟨p3, hp3, h⟩ := zy_bind h
    refine zy_5 (c := 27) (as := [.int x1, .int (s.1 28 (x1).toNatClampNeg), .int (0 : Int32), .int x3, .int x4]) (rest := []) (L := [some (.ref (27 + 3)), some (.int x1), some (.int (s.1 28 (x1).toNatClampNeg)), some (.int (0 : Int32)), some (.int x3), some (.int x4), none, none]) (d' := d) rfl rfl rfl (Nat.le_of_ble_eq_true rfl) (by omega) rfl (Nat.le_of_ble_eq_true rfl) rfl rfl (hg155 x1 (s.1 28 (x1).toNatClampNeg) (0 : Int32) x3 x4 s _ _ hp3) ?_
    show zyR _ _ _ _ [some (.ref (27 + 3)), some (.int x1), some (.int x2), some (.int x3), some (.int x4), some (.int (s.1 28 (x1).toNatClampNeg))] [.int p3.1] _ _
    refine zy_3 rfl rfl (show zyR _ _ _ _ [some (.ref (27 + 3)), some (.int x1), some (.int x2), some (.int x3), some (.int x4), some (.int (s.1 28 (x1).toNatClampNeg))] [.int (2 : Int32), .int p3.1] _ _ from ?_)
    refine zy_12 rfl (show zyR _ _ _ _ [some (.ref (27 + 3)), some (.int x1), some (.int x2), some (.int x3), some (.int x4), some (.int (s.1 28 (x1).toNatClampNeg))] [.int (p3.1 * (2 : Int32))] _ _ from ?_)
    obtain ⟨rfl, rfl⟩ := zy_pi h
    exact zy_4 rfl ⟨rfl, rfl⟩
  replace h := zy_ifn h b4
  refine zy_swp (fun b5 => (show zyR _ _ _ _ [some (.ref (27 + 3)), some (.int x1), some (.int x2), some (.int x3), some (.int x4), some (.int (s.1 28 (x1).toNatClampNeg))] [] _ _ from ?_)) (fun b5 => ?_)
  · replace h := zy_ifp h b5
    refine zy_2 rfl rfl (show zyR _ _ _ _ [some (.ref (27 + 3)), some (.int x1), some (.int x2), some (.int x3), some (.int x4), some (.int (s.1 28 (x1).toNatClampNeg))] [.int x3] _ _ from ?_)
    refine zy_2 rfl rfl (show zyR _ _ _ _ [some (.ref (27 + 3)), some (.int x1), some (.int x2), some (.int x3), some (.int x4), some (.int (s.1 28 (x1).toNatClampNeg))] [.int x1, .int x3] _ _ from ?_)
    refine zy_15 rfl (show zyR _ _ _ _ [some (.ref (27 + 3)), some (.int x1), some (.int x2), some (.int x3), some (.int x4), some (.int (s.1 28 (x1).toNatClampNeg))] [.int (x3 ^^^ x1)] _ _ from ?_)
    obtain ⟨rfl, rfl⟩ := zy_pi h
    exact zy_4 rfl ⟨rfl, rfl⟩
  replace h := zy_ifn h b5
  show zyR _ _ _ _ [some (.ref (27 + 3)), some (.int x1), some (.int x2), some (.int x3), some (.int x4), some (.int (s.1 28 (x1).toNatClampNeg))] [] _ _
  refine zy_0 rfl rfl (show zyR _ _ _ _ [some (.ref (27 + 3)), some (.int x1), some (.int x2), some (.int x3), some (.int x4), some (.int (s.1 28 (x1).toNatClampNeg))] [.ref (27 + 3)] _ _ from ?_)
  refine zy_2 rfl rfl (show zyR _ _ _ _ [some (.ref (27 + 3)), some (.int x1), some (.int x2), some (.int x3), some (.int x4), some (.int (s.1 28 (x1).toNatClampNeg))] [.int x1, .ref (27 + 3)] _ _ from ?_)
  refine zy_2 rfl rfl (show zyR _ _ _ _ [some (.ref (27 + 3)), some (.int x1), some (.int x2), some (.int x3), some (.int x4), some (.int (s.1 28 (x1).toNatClampNeg))] [.int (s.1 28 (x1).toNatClampNeg), .int x1, .ref (27 + 3)] _ _ from ?_)
  refine zy_3 rfl rfl (show zyR _ _ _ _ [some (.ref (27 + 3)), some (.int x1), some (.int x2), some (.int x3), some (.int x4), some (.int (s.1 28 (x1).toNatClampNeg))] [.int (1 : Int32), .int (s.1 28 (x1).toNatClampNeg), .int x1, .ref (27 + 3)] _ _ from ?_)
  refine zy_2 rfl rfl (show zyR _ _ _ _ [some (.ref (27 + 3)), some (.int x1), some (.int x2), some (.int x3), some (.int x4), some (.int (s.1 28 (x1).toNatClampNeg))] [.int x3, .int (1 : Int32), .int (s.1 28 (x1).toNatClampNeg), .int x1, .ref (27 + 3)] _ _ from ?_)
  refine zy_2 rfl rfl (show zyR _ _ _ _ [some (.ref (27 + 3)), some (.int x1), some (.int x2), some (.int x3), some (.int x4), some (.int (s.1 28 (x1).toNatClampNeg))] [.int x4, .int x3, .int (1 : Int32), .int (s.1 28 (x1).toNatClampNeg), .int x1, .ref (27 + 3)] _ _ from ?_)
  obtain ⟨p6, hp6, h⟩ := zy_bind h
  refine zy_5 (c := 27) (as := [.int x1, .int (s.1 28 (x1).toNatClampNeg), .int (1 : Int32), .int x3, .int x4]) (rest := []) (L := [some (.ref (27 + 3)), some (.int x1), some (.int (s.1 28 (x1).toNatClampNeg)), some (.int (1 : Int32)), some (.int x3), some (.int x4), none, none]) (d' := d) rfl rfl rfl (Nat.le_of_ble_eq_true rfl) (by omega) rfl (Nat.le_of_ble_eq_true rfl) rfl rfl (hg155 x1 (s.1 28 (x1).toNatClampNeg) (1 : Int32) x3 x4 s _ _ hp6) ?_
  show zyR _ _ _ _ [some (.ref (27 + 3)), some (.int x1), some (.int x2), some (.int x3), some (.int x4), some (.int (s.1 28 (x1).toNatClampNeg))] [.int p6.1] _ _
  refine zy_0 rfl rfl (show zyR _ _ _ _ [some (.ref (27 + 3)), some (.int x1), some (.int x2), some (.int x3), some (.int x4), some (.int (s.1 28 (x1).toNatClampNeg))] [.ref (27 + 3), .int p6.1] _ _ from ?_)
  refine zy_2 rfl rfl (show zyR _ _ _ _ [some (.ref (27 + 3)), some (.int x1), some (.int x2), some (.int x3), some (.int x4), some (.int (s.1 28 (x1).toNatClampNeg))] [.int x1, .ref (27 + 3), .int p6.1] _ _ from ?_)
  refine zy_2 rfl rfl (show zyR _ _ _ _ [some (.ref (27 + 3)), some (.int x1), some (.int x2), some (.int x3), some (.int x4), some (.int (s.1 28 (x1).toNatClampNeg))] [.int (s.1 28 (x1).toNatClampNeg), .int x1, .ref (27 + 3), .int p6.1] _ _ from ?_)
  refine zy_3 rfl rfl (show zyR _ _ _ _ [some (.ref (27 + 3)), some (.int x1), some (.int x2), some (.int x3), some (.int x4), some (.int (s.1 28 (x1).toNatClampNeg))] [.int (2 : Int32), .int (s.1 28 (x1).toNatClampNeg), .int x1, .ref (27 + 3), .int p6.1] _ _ from ?_)
  refine zy_3 rfl rfl (show zyR _ _ _ _ [some (.ref (27 + 3)), some (.int x1), some (.int x2), some (.int x3), some (.int x4), some (.int (s.1 28 (x1).toNatClampNeg))] [.int (1 : Int32), .int (2 : Int32), .int (s.1 28 (x1).toNatClampNeg), .int x1, .ref (27 + 3), .int p6.1] _ _ from ?_)
  refine zy_2 rfl rfl (show zyR _ _ _ _ [some (.ref (27 + 3)), some (.int x1), some (.int x2), some (.int x3), some (.int x4), some (.int (s.1 28 (x1).toNatClampNeg))] [.int x4, .int (1 : Int32), .int (2 : Int32), .int (s.1 28 (x1).toNatClampNeg), .int x1, .ref (27 + 3), .int p6.1] _ _ from ?_)
  obtain ⟨p7, hp7, h⟩ := zy_bind h
  refine zy_5 (c := 27) (as := [.int x1, .int (s.1 28 (x1).toNatClampNeg), .int (2 : Int32), .int (1 : Int32), .int x4]) (rest := [.int p6.1]) (L := [some (.ref (27 + 3)), some (.int x1), some (.int (s.1 28 (x1).toNatClampNeg)), some (.int (2 : Int32)), some (.int (1 : Int32)), some (.int x4), none, none]) (d' := d) rfl rfl rfl (Nat.le_of_ble_eq_true rfl) (by omega) rfl (Nat.le_of_ble_eq_true rfl) rfl rfl (hg155 x1 (s.1 28 (x1).toNatClampNeg) (2 : Int32) (1 : Int32) x4 p6.2 _ _ hp7) ?_
  show zyR _ _ _ _ [some (.ref (27 + 3)), some (.int x1), some (.int x2), some (.int x3), some (.int x4), some (.int (s.1 28 (x1).toNatClampNeg))] [.int p7.1, .int p6.1] _ _
  refine zy_11 rfl (show zyR _ _ _ _ [some (.ref (27 + 3)), some (.int x1), some (.int x2), some (.int x3), some (.int x4), some (.int (s.1 28 (x1).toNatClampNeg))] [.int (p6.1 - p7.1)] _ _ from ?_)
  obtain ⟨rfl, rfl⟩ := zy_pi h
  exact zy_4 rfl ⟨rfl, rfl⟩
end
section
/-! PART 41.29: methods as functions. Made by wip/v4/dcp.py. -/
/-! NineOpinions$Bodies.runUnder(IIIII)I, over what it calls -/
noncomputable def zyF158_0 (g155 : Int32 → Int32 → Int32 → Int32 → Int32 → zy_S → Option (Int32 × zy_S)) (g157 : Int32 → Int32 → Int32 → Int32 → zy_S → Option (Int32 × zy_S)) (g158 : Int32 → Int32 → Int32 → Int32 → Int32 → zy_S → Option (Int32 × zy_S))  (x1 : Int32) (x2 : Int32) (x3 : Int32) (x4 : Int32) (x5 : Int32) (s : zy_S) : Option (Int32 × zy_S) :=
if zy_in x1 50 then
if x2 = (20 : Int32) then
(g155 x1 x3 (0 : Int32) x4 x5 s).bind fun p2 =>
some ((p2.1 + (3 : Int32)), p2.2)
else
if x2 = (30 : Int32) then
(g155 x1 x3 (1 : Int32) x4 x5 s).bind fun p4 =>
some ((-p4.1), p4.2)
else
if x2 = (40 : Int32) then
(g155 x1 x3 (2 : Int32) x4 x5 s).bind fun p6 =>
some ((p6.1 * (3 : Int32)), p6.2)
else
if x2 = (41 : Int32) then
(g155 x1 x3 (1 : Int32) (x4 + (1 : Int32)) x5 s).bind fun p8 =>
some (p8.1, p8.2)
else
if x2 = (50 : Int32) then
(g155 x1 x3 (2 : Int32) x4 x5 s).bind fun p10 =>
(g155 x1 (s.1 28 (x1).toNatClampNeg) (0 : Int32) (2 : Int32) x5 p10.2).bind fun p11 =>
some ((p10.1 - p11.1), p11.2)
else
if x2 = (60 : Int32) then
(g155 x1 x3 (3 : Int32) x4 x5 s).bind fun p13 =>
some ((p13.1 ^^^ (5 : Int32)), p13.2)
else
if x2 = (70 : Int32) then
(g155 x1 x3 (0 : Int32) x4 x5 s).bind fun p15 =>
some ((p15.1 * (2 : Int32)), p15.2)
else
if x2 = (80 : Int32) then
(g155 x1 x3 (1 : Int32) x4 x5 s).bind fun p17 =>
(g155 x1 (s.1 28 (x1).toNatClampNeg) (2 : Int32) (2 : Int32) x5 p17.2).bind fun p18 =>
some ((p17.1 + p18.1), p18.2)
else
(g155 x1 x3 (3 : Int32) x4 x5 s).bind fun p20 =>
some ((p20.1 - (1 : Int32)), p20.2)
else none
theorem zyC158_0 {X : zx_X} {d : Nat} {g155 : Int32 → Int32 → Int32 → Int32 → Int32 → zy_S → Option (Int32 × zy_S)} {g157 : Int32 → Int32 → Int32 → Int32 → zy_S → Option (Int32 × zy_S)} {g158 : Int32 → Int32 → Int32 → Int32 → Int32 → zy_S → Option (Int32 × zy_S)}  (hd : 0 ≤ d) (hg155 : ∀ (x1 : Int32) (x2 : Int32) (x3 : Int32) (x4 : Int32) (x5 : Int32) (s : zy_S) (r : Int32) (s' : zy_S), g155 x1 x2 x3 x4 x5 s = some (r, s') → zyR X d 155 0 [some (.ref (27 + 3)), some (.int x1), some (.int x2), some (.int x3), some (.int x4), some (.int x5), none, none] [] s (zyE (some (.int r)) s')) (hg157 : ∀ (x1 : Int32) (x2 : Int32) (x3 : Int32) (x4 : Int32) (s : zy_S) (r : Int32) (s' : zy_S), g157 x1 x2 x3 x4 s = some (r, s') → zyR X d 157 0 [some (.ref (27 + 3)), some (.int x1), some (.int x2), some (.int x3), some (.int x4), none] [] s (zyE (some (.int r)) s')) (hg158 : ∀ (x1 : Int32) (x2 : Int32) (x3 : Int32) (x4 : Int32) (x5 : Int32) (s : zy_S) (r : Int32) (s' : zy_S), g158 x1 x2 x3 x4 x5 s = some (r, s') → zyR X d 158 0 [some (.ref (27 + 3)), some (.int x1), some (.int x2), some (.int x3), some (.int x4), some (.int x5), none] [] s (zyE (some (.int r)) s'))  {x1 : Int32} {x2 : Int32} {x3 : Int32} {x4 : Int32} {x5 : Int32} {s : zy_S} {r : Int32} {s' : zy_S}  (h : zyF158_0 g155 g157 g158 x1 x2 x3 x4 x5 s = some (r, s')) : zyR X (d + 1) 158 0 [some (.ref (27 + 3)), some (.int x1), some (.int x2), some (.int x3), some (.int x4), some (.int x5), none] [] s (zyE (some (.int r)) s') := by
  unfold zyF158_0 at h
  refine zy_0 rfl rfl (show zyR _ _ _ _ [some (.ref (27 + 3)), some (.int x1), some (.int x2), some (.int x3), some (.int x4), some (.int x5), none] [.ref (27 + 3)] _ _ from ?_)
  refine zy_1r (c := 27) rfl rfl rfl (show zyR _ _ _ _ [some (.ref (27 + 3)), some (.int x1), some (.int x2), some (.int x3), some (.int x4), some (.int x5), none] [.ref (28 + 3)] _ _ from ?_)
  refine zy_2 rfl rfl (show zyR _ _ _ _ [some (.ref (27 + 3)), some (.int x1), some (.int x2), some (.int x3), some (.int x4), some (.int x5), none] [.int x1, .ref (28 + 3)] _ _ from ?_)
  obtain ⟨c1, h⟩ := zy_if h
  refine zy_26 (c := 28) rfl rfl c1 (show zyR _ _ _ _ [some (.ref (27 + 3)), some (.int x1), some (.int x2), some (.int x3), some (.int x4), some (.int x5), none] [.int (s.1 28 (x1).toNatClampNeg)] _ _ from ?_)
  refine zy_23 rfl rfl (show zyR _ _ _ _ [some (.ref (27 + 3)), some (.int x1), some (.int x2), some (.int x3), some (.int x4), some (.int x5), some (.int (s.1 28 (x1).toNatClampNeg))] [] _ _ from ?_)
  refine zy_2 rfl rfl (show zyR _ _ _ _ [some (.ref (27 + 3)), some (.int x1), some (.int x2), some (.int x3), some (.int x4), some (.int x5), some (.int (s.1 28 (x1).toNatClampNeg))] [.int x2] _ _ from ?_)
  refine zy_51 rfl (by decide) ?_
  refine zy_swp (fun b3 => (show zyR _ _ _ _ [some (.ref (27 + 3)), some (.int x1), some (.int x2), some (.int x3), some (.int x4), some (.int x5), some (.int (s.1 28 (x1).toNatClampNeg))] [] _ _ from ?_)) (fun b3 => ?_)
  · replace h := zy_ifp h b3
    refine zy_0 rfl rfl (show zyR _ _ _ _ [some (.ref (27 + 3)), some (.int x1), some (.int x2), some (.int x3), some (.int x4), some (.int x5), some (.int (s.1 28 (x1).toNatClampNeg))] [.ref (27 + 3)] _ _ from ?_)
    refine zy_2 rfl rfl (show zyR _ _ _ _ [some (.ref (27 + 3)), some (.int x1), some (.int x2), some (.int x3), some (.int x4), some (.int x5), some (.int (s.1 28 (x1).toNatClampNeg))] [.int x1, .ref (27 + 3)] _ _ from ?_)
    refine zy_2 rfl rfl (show zyR _ _ _ _ [some (.ref (27 + 3)), some (.int x1), some (.int x2), some (.int x3), some (.int x4), some (.int x5), some (.int (s.1 28 (x1).toNatClampNeg))] [.int x3, .int x1, .ref (27 + 3)] _ _ from ?_)
    refine zy_3 rfl rfl (show zyR _ _ _ _ [some (.ref (27 + 3)), some (.int x1), some (.int x2), some (.int x3), some (.int x4), some (.int x5), some (.int (s.1 28 (x1).toNatClampNeg))] [.int (0 : Int32), .int x3, .int x1, .ref (27 + 3)] _ _ from ?_)
    refine zy_2 rfl rfl (show zyR _ _ _ _ [some (.ref (27 + 3)), some (.int x1), some (.int x2), some (.int x3), some (.int x4), some (.int x5), some (.int (s.1 28 (x1).toNatClampNeg))] [.int x4, .int (0 : Int32), .int x3, .int x1, .ref (27 + 3)] _ _ from ?_)
    refine zy_2 rfl rfl (show zyR _ _ _ _ [some (.ref (27 + 3)), some (.int x1), some (.int x2), some (.int x3), some (.int x4), some (.int x5), some (.int (s.1 28 (x1).toNatClampNeg))] [.int x5, .int x4, .int (0 : Int32), .int x3, .int x1, .ref (27 + 3)] _ _ from ?_)
    obtain ⟨p2, hp2, h⟩ := zy_bind h
    refine zy_5 (c := 27) (as := [.int x1, .int x3, .int (0 : Int32), .int x4, .int x5]) (rest := []) (L := [some (.ref (27 + 3)), some (.int x1), some (.int x3), some (.int (0 : Int32)), some (.int x4), some (.int x5), none, none]) (d' := d) rfl rfl rfl (Nat.le_of_ble_eq_true rfl) (by omega) rfl (Nat.le_of_ble_eq_true rfl) rfl rfl (hg155 x1 x3 (0 : Int32) x4 x5 s _ _ hp2) ?_
    show zyR _ _ _ _ [some (.ref (27 + 3)), some (.int x1), some (.int x2), some (.int x3), some (.int x4), some (.int x5), some (.int (s.1 28 (x1).toNatClampNeg))] [.int p2.1] _ _
    refine zy_3 rfl rfl (show zyR _ _ _ _ [some (.ref (27 + 3)), some (.int x1), some (.int x2), some (.int x3), some (.int x4), some (.int x5), some (.int (s.1 28 (x1).toNatClampNeg))] [.int (3 : Int32), .int p2.1] _ _ from ?_)
    refine zy_10 rfl (show zyR _ _ _ _ [some (.ref (27 + 3)), some (.int x1), some (.int x2), some (.int x3), some (.int x4), some (.int x5), some (.int (s.1 28 (x1).toNatClampNeg))] [.int (p2.1 + (3 : Int32))] _ _ from ?_)
    obtain ⟨rfl, rfl⟩ := zy_pi h
    exact zy_4 rfl ⟨rfl, rfl⟩
  replace h := zy_ifn h b3
  refine zy_swp (fun b5 => (show zyR _ _ _ _ [some (.ref (27 + 3)), some (.int x1), some (.int x2), some (.int x3), some (.int x4), some (.int x5), some (.int (s.1 28 (x1).toNatClampNeg))] [] _ _ from ?_)) (fun b5 => ?_)
  · replace h := zy_ifp h b5
    refine zy_0 rfl rfl (show zyR _ _ _ _ [some (.ref (27 + 3)), some (.int x1), some (.int x2), some (.int x3), some (.int x4), some (.int x5), some (.int (s.1 28 (x1).toNatClampNeg))] [.ref (27 + 3)] _ _ from ?_)
    refine zy_2 rfl rfl (show zyR _ _ _ _ [some (.ref (27 + 3)), some (.int x1), some (.int x2), some (.int x3), some (.int x4), some (.int x5), some (.int (s.1 28 (x1).toNatClampNeg))] [.int x1, .ref (27 + 3)] _ _ from ?_)
    refine zy_2 rfl rfl (show zyR _ _ _ _ [some (.ref (27 + 3)), some (.int x1), some (.int x2), some (.int x3), some (.int x4), some (.int x5), some (.int (s.1 28 (x1).toNatClampNeg))] [.int x3, .int x1, .ref (27 + 3)] _ _ from ?_)
    refine zy_3 rfl rfl (show zyR _ _ _ _ [some (.ref (27 + 3)), some (.int x1), some (.int x2), some (.int x3), some (.int x4), some (.int x5), some (.int (s.1 28 (x1).toNatClampNeg))] [.int (1 : Int32), .int x3, .int x1, .ref (27 + 3)] _ _ from ?_)
    refine zy_2 rfl rfl (show zyR _ _ _ _ [some (.ref (27 + 3)), some (.int x1), some (.int x2), some (.int x3), some (.int x4), some (.int x5), some (.int (s.1 28 (x1).toNatClampNeg))] [.int x4, .int (1 : Int32), .int x3, .int x1, .ref (27 + 3)] _ _ from ?_)
    refine zy_2 rfl rfl (show zyR _ _ _ _ [some (.ref (27 + 3)), some (.int x1), some (.int x2), some (.int x3), some (.int x4), some (.int x5), some (.int (s.1 28 (x1).toNatClampNeg))] [.int x5, .int x4, .int (1 : Int32), .int x3, .int x1, .ref (27 + 3)] _ _ from ?_)
    obtain ⟨p4, hp4, h⟩ := zy_bind h
    refine zy_5 (c := 27) (as := [.int x1, .int x3, .int (1 : Int32), .int x4, .int x5]) (rest := []) (L := [some (.ref (27 + 3)), some (.int x1), some (.int x3), some (.int (1 : Int32)), some (.int x4), some (.int x5), none, none]) (d' := d) rfl rfl rfl (Nat.le_of_ble_eq_true rfl) (by omega) rfl (Nat.le_of_ble_eq_true rfl) rfl rfl (hg155 x1 x3 (1 : Int32) x4 x5 s _ _ hp4) ?_
    show zyR _ _ _ _ [some (.ref (27 + 3)), some (.int x1), some (.int x2), some (.int x3), some (.int x4), some (.int x5), some (.int (s.1 28 (x1).toNatClampNeg))] [.int p4.1] _ _
    refine zy_21 rfl (show zyR _ _ _ _ [some (.ref (27 + 3)), some (.int x1), some (.int x2), some (.int x3), some (.int x4), some (.int x5), some (.int (s.1 28 (x1).toNatClampNeg))] [.int (-p4.1)] _ _ from ?_)
    obtain ⟨rfl, rfl⟩ := zy_pi h
    exact zy_4 rfl ⟨rfl, rfl⟩
  replace h := zy_ifn h b5
  refine zy_swp (fun b7 => (show zyR _ _ _ _ [some (.ref (27 + 3)), some (.int x1), some (.int x2), some (.int x3), some (.int x4), some (.int x5), some (.int (s.1 28 (x1).toNatClampNeg))] [] _ _ from ?_)) (fun b7 => ?_)
  · replace h := zy_ifp h b7
    refine zy_0 rfl rfl (show zyR _ _ _ _ [some (.ref (27 + 3)), some (.int x1), some (.int x2), some (.int x3), some (.int x4), some (.int x5), some (.int (s.1 28 (x1).toNatClampNeg))] [.ref (27 + 3)] _ _ from ?_)
    refine zy_2 rfl rfl (show zyR _ _ _ _ [some (.ref (27 + 3)), some (.int x1), some (.int x2), some (.int x3), some (.int x4), some (.int x5), some (.int (s.1 28 (x1).toNatClampNeg))] [.int x1, .ref (27 + 3)] _ _ from ?_)
    refine zy_2 rfl rfl (show zyR _ _ _ _ [some (.ref (27 + 3)), some (.int x1), some (.int x2), some (.int x3), some (.int x4), some (.int x5), some (.int (s.1 28 (x1).toNatClampNeg))] [.int x3, .int x1, .ref (27 + 3)] _ _ from ?_)
    refine zy_3 rfl rfl (show zyR _ _ _ _ [some (.ref (27 + 3)), some (.int x1), some (.int x2), some (.int x3), some (.int x4), some (.int x5), some (.int (s.1 28 (x1).toNatClampNeg))] [.int (2 : Int32), .int x3, .int x1, .ref (27 + 3)] _ _ from ?_)
    refine zy_2 rfl rfl (show zyR _ _ _ _ [some (.ref (27 + 3)), some (.int x1), some (.int x2), some (.int x3), some (.int x4), some (.int x5), some (.int (s.1 28 (x1).toNatClampNeg))] [.int x4, .int (2 : Int32), .int x3, .int x1, .ref (27 + 3)] _ _ from ?_)
    refine zy_2 rfl rfl (show zyR _ _ _ _ [some (.ref (27 + 3)), some (.int x1), some (.int x2), some (.int x3), some (.int x4), some (.int x5), some (.int (s.1 28 (x1).toNatClampNeg))] [.int x5, .int x4, .int (2 : Int32), .int x3, .int x1, .ref (27 + 3)] _ _ from ?_)
    obtain ⟨p6, hp6, h⟩ := zy_bind h
    refine zy_5 (c := 27) (as := [.int x1, .int x3, .int (2 : Int32), .int x4, .int x5]) (rest := []) (L := [some (.ref (27 + 3)), some (.int x1), some (.int x3), some (.int (2 : Int32)), some (.int x4), some (.int x5), none, none]) (d' := d) rfl rfl rfl (Nat.le_of_ble_eq_true rfl) (by omega) rfl (Nat.le_of_ble_eq_true rfl) rfl rfl (hg155 x1 x3 (2 : Int32) x4 x5 s _ _ hp6) ?_
    show zyR _ _ _ _ [some (.ref (27 + 3)), some (.int x1), some (.int x2), some (.int x3), some (.int x4), some (.int x5), some (.int (s.1 28 (x1).toNatClampNeg))] [.int p6.1] _ _
    refine zy_3 rfl rfl (show zyR _ _ _ _ [some (.ref (27 + 3)), some (.int x1), some (.int x2), some (.int x3), some (.int x4), some (.int x5), some (.int (s.1 28 (x1).toNatClampNeg))] [.int (3 : Int32), .int p6.1] _ _ from ?_)
    refine zy_12 rfl (show zyR _ _ _ _ [some (.ref (27 + 3)), some (.int x1), some (.int x2), some (.int x3), some (.int x4), some (.int x5), some (.int (s.1 28 (x1).toNatClampNeg))] [.int (p6.1 * (3 : Int32))] _ _ from ?_)
    obtain ⟨rfl, rfl⟩ := zy_pi h
    exact zy_4 rfl ⟨rfl, rfl⟩
  replace h := zy_ifn h b7
  refine zy_swp (fun b9 => (show zyR _ _ _ _ [some (.ref (27 + 3)), some (.int x1), some (.int x2), some (.int x3), some (.int x4), some (.int x5), some (.int (s.1 28 (x1).toNatClampNeg))] [] _ _ from ?_)) (fun b9 => ?_)
  · replace h := zy_ifp h b9
    refine zy_0 rfl rfl (show zyR _ _ _ _ [some (.ref (27 + 3)), some (.int x1), some (.int x2), some (.int x3), some (.int x4), some (.int x5), some (.int (s.1 28 (x1).toNatClampNeg))] [.ref (27 + 3)] _ _ from ?_)
    refine zy_2 rfl rfl (show zyR _ _ _ _ [some (.ref (27 + 3)), some (.int x1), some (.int x2), some (.int x3), some (.int x4), some (.int x5), some (.int (s.1 28 (x1).toNatClampNeg))] [.int x1, .ref (27 + 3)] _ _ from ?_)
    refine zy_2 rfl rfl (show zyR _ _ _ _ [some (.ref (27 + 3)), some (.int x1), some (.int x2), some (.int x3), some (.int x4), some (.int x5), some (.int (s.1 28 (x1).toNatClampNeg))] [.int x3, .int x1, .ref (27 + 3)] _ _ from ?_)
    refine zy_3 rfl rfl (show zyR _ _ _ _ [some (.ref (27 + 3)), some (.int x1), some (.int x2), some (.int x3), some (.int x4), some (.int x5), some (.int (s.1 28 (x1).toNatClampNeg))] [.int (1 : Int32), .int x3, .int x1, .ref (27 + 3)] _ _ from ?_)
    refine zy_2 rfl rfl (show zyR _ _ _ _ [some (.ref (27 + 3)), some (.int x1), some (.int x2), some (.int x3), some (.int x4), some (.int x5), some (.int (s.1 28 (x1).toNatClampNeg))] [.int x4, .int (1 : Int32), .int x3, .int x1, .ref (27 + 3)] _ _ from ?_)
    refine zy_3 rfl rfl (show zyR _ _ _ _ [some (.ref (27 + 3)), some (.int x1), some (.int x2), some (.int x3), some (.int x4), some (.int x5), some (.int (s.1 28 (x1).toNatClampNeg))] [.int (1 : Int32), .int x4, .int (1 : Int32), .int x3, .int x1, .ref (27 + 3)] _ _ from ?_)
    refine zy_10 rfl (show zyR _ _ _ _ [some (.ref (27 + 3)), some (.int x1), some (.int x2), some (.int x3), some (.int x4), some (.int x5), some (.int (s.1 28 (x1).toNatClampNeg))] [.int (x4 + (1 : Int32)), .int (1 : Int32), .int x3, .int x1, .ref (27 + 3)] _ _ from ?_)
    refine zy_2 rfl rfl (show zyR _ _ _ _ [some (.ref (27 + 3)), some (.int x1), some (.int x2), some (.int x3), some (.int x4), some (.int x5), some (.int (s.1 28 (x1).toNatClampNeg))] [.int x5, .int (x4 + (1 : Int32)), .int (1 : Int32), .int x3, .int x1, .ref (27 + 3)] _ _ from ?_)
    obtain ⟨p8, hp8, h⟩ := zy_bind h
    refine zy_5 (c := 27) (as := [.int x1, .int x3, .int (1 : Int32), .int (x4 + (1 : Int32)), .int x5]) (rest := []) (L := [some (.ref (27 + 3)), some (.int x1), some (.int x3), some (.int (1 : Int32)), some (.int (x4 + (1 : Int32))), some (.int x5), none, none]) (d' := d) rfl rfl rfl (Nat.le_of_ble_eq_true rfl) (by omega) rfl (Nat.le_of_ble_eq_true rfl) rfl rfl (hg155 x1 x3 (1 : Int32) (x4 + (1 : Int32)) x5 s _ _ hp8) ?_
    show zyR _ _ _ _ [some (.ref (27 + 3)), some (.int x1), some (.int x2), some (.int x3), some (.int x4), some (.int x5), some (.int (s.1 28 (x1).toNatClampNeg))] [.int p8.1] _ _
    obtain ⟨rfl, rfl⟩ := zy_pi h
    exact zy_4 rfl ⟨rfl, rfl⟩
  replace h := zy_ifn h b9
  refine zy_swp (fun b12 => (show zyR _ _ _ _ [some (.ref (27 + 3)), some (.int x1), some (.int x2), some (.int x3), some (.int x4), some (.int x5), some (.int (s.1 28 (x1).toNatClampNeg))] [] _ _ from ?_)) (fun b12 => ?_)
  · replace h := zy_ifp h b12
    refine zy_0 rfl rfl (show zyR _ _ _ _ [some (.ref (27 + 3)), some (.int x1), some (.int x2), some (.int x3), some (.int x4), some (.int x5), some (.int (s.1 28 (x1).toNatClampNeg))] [.ref (27 + 3)] _ _ from ?_)
    refine zy_2 rfl rfl (show zyR _ _ _ _ [some (.ref (27 + 3)), some (.int x1), some (.int x2), some (.int x3), some (.int x4), some (.int x5), some (.int (s.1 28 (x1).toNatClampNeg))] [.int x1, .ref (27 + 3)] _ _ from ?_)
    refine zy_2 rfl rfl (show zyR _ _ _ _ [some (.ref (27 + 3)), some (.int x1), some (.int x2), some (.int x3), some (.int x4), some (.int x5), some (.int (s.1 28 (x1).toNatClampNeg))] [.int x3, .int x1, .ref (27 + 3)] _ _ from ?_)
    refine zy_3 rfl rfl (show zyR _ _ _ _ [some (.ref (27 + 3)), some (.int x1), some (.int x2), some (.int x3), some (.int x4), some (.int x5), some (.int (s.1 28 (x1).toNatClampNeg))] [.int (2 : Int32), .int x3, .int x1, .ref (27 + 3)] _ _ from ?_)
    refine zy_2 rfl rfl (show zyR _ _ _ _ [some (.ref (27 + 3)), some (.int x1), some (.int x2), some (.int x3), some (.int x4), some (.int x5), some (.int (s.1 28 (x1).toNatClampNeg))] [.int x4, .int (2 : Int32), .int x3, .int x1, .ref (27 + 3)] _ _ from ?_)
    refine zy_2 rfl rfl (show zyR _ _ _ _ [some (.ref (27 + 3)), some (.int x1), some (.int x2), some (.int x3), some (.int x4), some (.int x5), some (.int (s.1 28 (x1).toNatClampNeg))] [.int x5, .int x4, .int (2 : Int32), .int x3, .int x1, .ref (27 + 3)] _ _ from ?_)
    obtain ⟨p10, hp10, h⟩ := zy_bind h
    refine zy_5 (c := 27) (as := [.int x1, .int x3, .int (2 : Int32), .int x4, .int x5]) (rest := []) (L := [some (.ref (27 + 3)), some (.int x1), some (.int x3), some (.int (2 : Int32)), some (.int x4), some (.int x5), none, none]) (d' := d) rfl rfl rfl (Nat.le_of_ble_eq_true rfl) (by omega) rfl (Nat.le_of_ble_eq_true rfl) rfl rfl (hg155 x1 x3 (2 : Int32) x4 x5 s _ _ hp10) ?_
    show zyR _ _ _ _ [some (.ref (27 + 3)), some (.int x1), some (.int x2), some (.int x3), some (.int x4), some (.int x5), some (.int (s.1 28 (x1).toNatClampNeg))] [.int p10.1] _ _
    refine zy_0 rfl rfl (show zyR _ _ _ _ [some (.ref (27 + 3)), some (.int x1), some (.int x2), some (.int x3), some (.int x4), some (.int x5), some (.int (s.1 28 (x1).toNatClampNeg))] [.ref (27 + 3), .int p10.1] _ _ from ?_)
    refine zy_2 rfl rfl (show zyR _ _ _ _ [some (.ref (27 + 3)), some (.int x1), some (.int x2), some (.int x3), some (.int x4), some (.int x5), some (.int (s.1 28 (x1).toNatClampNeg))] [.int x1, .ref (27 + 3), .int p10.1] _ _ from ?_)
    refine zy_2 rfl rfl (show zyR _ _ _ _ [some (.ref (27 + 3)), some (.int x1), some (.int x2), some (.int x3), some (.int x4), some (.int x5), some (.int (s.1 28 (x1).toNatClampNeg))] [.int (s.1 28 (x1).toNatClampNeg), .int x1, .ref (27 + 3), .int p10.1] _ _ from ?_)
    refine zy_3 rfl rfl (show zyR _ _ _ _ [some (.ref (27 + 3)), some (.int x1), some (.int x2), some (.int x3), some (.int x4), some (.int x5), some (.int (s.1 28 (x1).toNatClampNeg))] [.int (0 : Int32), .int (s.1 28 (x1).toNatClampNeg), .int x1, .ref (27 + 3), .int p10.1] _ _ from ?_)
    refine zy_3 rfl rfl (show zyR _ _ _ _ [some (.ref (27 + 3)), some (.int x1), some (.int x2), some (.int x3), some (.int x4), some (.int x5), some (.int (s.1 28 (x1).toNatClampNeg))] [.int (2 : Int32), .int (0 : Int32), .int (s.1 28 (x1).toNatClampNeg), .int x1, .ref (27 + 3), .int p10.1] _ _ from ?_)
    refine zy_2 rfl rfl (show zyR _ _ _ _ [some (.ref (27 + 3)), some (.int x1), some (.int x2), some (.int x3), some (.int x4), some (.int x5), some (.int (s.1 28 (x1).toNatClampNeg))] [.int x5, .int (2 : Int32), .int (0 : Int32), .int (s.1 28 (x1).toNatClampNeg), .int x1, .ref (27 + 3), .int p10.1] _ _ from ?_)
    obtain ⟨p11, hp11, h⟩ := zy_bind h
    refine zy_5 (c := 27) (as := [.int x1, .int (s.1 28 (x1).toNatClampNeg), .int (0 : Int32), .int (2 : Int32), .int x5]) (rest := [.int p10.1]) (L := [some (.ref (27 + 3)), some (.int x1), some (.int (s.1 28 (x1).toNatClampNeg)), some (.int (0 : Int32)), some (.int (2 : Int32)), some (.int x5), none, none]) (d' := d) rfl rfl rfl (Nat.le_of_ble_eq_true rfl) (by omega) rfl (Nat.le_of_ble_eq_true rfl) rfl rfl (hg155 x1 (s.1 28 (x1).toNatClampNeg) (0 : Int32) (2 : Int32) x5 p10.2 _ _ hp11) ?_
    show zyR _ _ _ _ [some (.ref (27 + 3)), some (.int x1), some (.int x2), some (.int x3), some (.int x4), some (.int x5), some (.int (s.1 28 (x1).toNatClampNeg))] [.int p11.1, .int p10.1] _ _
    refine zy_11 rfl (show zyR _ _ _ _ [some (.ref (27 + 3)), some (.int x1), some (.int x2), some (.int x3), some (.int x4), some (.int x5), some (.int (s.1 28 (x1).toNatClampNeg))] [.int (p10.1 - p11.1)] _ _ from ?_)
    obtain ⟨rfl, rfl⟩ := zy_pi h
    exact zy_4 rfl ⟨rfl, rfl⟩
  replace h := zy_ifn h b12
  refine zy_swp (fun b14 => (show zyR _ _ _ _ [some (.ref (27 + 3)), some (.int x1), some (.int x2), some (.int x3), some (.int x4), some (.int x5), some (.int (s.1 28 (x1).toNatClampNeg))] [] _ _ from ?_)) (fun b14 => ?_)
  · replace h := zy_ifp h b14
    refine zy_0 rfl rfl (show zyR _ _ _ _ [some (.ref (27 + 3)), some (.int x1), some (.int x2), some (.int x3), some (.int x4), some (.int x5), some (.int (s.1 28 (x1).toNatClampNeg))] [.ref (27 + 3)] _ _ from ?_)
    refine zy_2 rfl rfl (show zyR _ _ _ _ [some (.ref (27 + 3)), some (.int x1), some (.int x2), some (.int x3), some (.int x4), some (.int x5), some (.int (s.1 28 (x1).toNatClampNeg))] [.int x1, .ref (27 + 3)] _ _ from ?_)
    refine zy_2 rfl rfl (show zyR _ _ _ _ [some (.ref (27 + 3)), some (.int x1), some (.int x2), some (.int x3), some (.int x4), some (.int x5), some (.int (s.1 28 (x1).toNatClampNeg))] [.int x3, .int x1, .ref (27 + 3)] _ _ from ?_)
    refine zy_3 rfl rfl (show zyR _ _ _ _ [some (.ref (27 + 3)), some (.int x1), some (.int x2), some (.int x3), some (.int x4), some (.int x5), some (.int (s.1 28 (x1).toNatClampNeg))] [.int (3 : Int32), .int x3, .int x1, .ref (27 + 3)] _ _ from ?_)
    refine zy_2 rfl rfl (show zyR _ _ _ _ [some (.ref (27 + 3)), some (.int x1), some (.int x2), some (.int x3), some (.int x4), some (.int x5), some (.int (s.1 28 (x1).toNatClampNeg))] [.int x4, .int (3 : Int32), .int x3, .int x1, .ref (27 + 3)] _ _ from ?_)
    refine zy_2 rfl rfl (show zyR _ _ _ _ [some (.ref (27 + 3)), some (.int x1), some (.int x2), some (.int x3), some (.int x4), some (.int x5), some (.int (s.1 28 (x1).toNatClampNeg))] [.int x5, .int x4, .int (3 : Int32), .int x3, .int x1, .ref (27 + 3)] _ _ from ?_)
    obtain ⟨p13, hp13, h⟩ := zy_bind h
    refine zy_5 (c := 27) (as := [.int x1, .int x3, .int (3 : Int32), .int x4, .int x5]) (rest := []) (L := [some (.ref (27 + 3)), some (.int x1), some (.int x3), some (.int (3 : Int32)), some (.int x4), some (.int x5), none, none]) (d' := d) rfl rfl rfl (Nat.le_of_ble_eq_true rfl) (by omega) rfl (Nat.le_of_ble_eq_true rfl) rfl rfl (hg155 x1 x3 (3 : Int32) x4 x5 s _ _ hp13) ?_
    show zyR _ _ _ _ [some (.ref (27 + 3)), some (.int x1), some (.int x2), some (.int x3), some (.int x4), some (.int x5), some (.int (s.1 28 (x1).toNatClampNeg))] [.int p13.1] _ _
    refine zy_3 rfl rfl (show zyR _ _ _ _ [some (.ref (27 + 3)), some (.int x1), some (.int x2), some (.int x3), some (.int x4), some (.int x5), some (.int (s.1 28 (x1).toNatClampNeg))] [.int (5 : Int32), .int p13.1] _ _ from ?_)
    refine zy_15 rfl (show zyR _ _ _ _ [some (.ref (27 + 3)), some (.int x1), some (.int x2), some (.int x3), some (.int x4), some (.int x5), some (.int (s.1 28 (x1).toNatClampNeg))] [.int (p13.1 ^^^ (5 : Int32))] _ _ from ?_)
    obtain ⟨rfl, rfl⟩ := zy_pi h
    exact zy_4 rfl ⟨rfl, rfl⟩
  replace h := zy_ifn h b14
  refine zy_swp (fun b16 => (show zyR _ _ _ _ [some (.ref (27 + 3)), some (.int x1), some (.int x2), some (.int x3), some (.int x4), some (.int x5), some (.int (s.1 28 (x1).toNatClampNeg))] [] _ _ from ?_)) (fun b16 => ?_)
  · replace h := zy_ifp h b16
    refine zy_0 rfl rfl (show zyR _ _ _ _ [some (.ref (27 + 3)), some (.int x1), some (.int x2), some (.int x3), some (.int x4), some (.int x5), some (.int (s.1 28 (x1).toNatClampNeg))] [.ref (27 + 3)] _ _ from ?_)
    refine zy_2 rfl rfl (show zyR _ _ _ _ [some (.ref (27 + 3)), some (.int x1), some (.int x2), some (.int x3), some (.int x4), some (.int x5), some (.int (s.1 28 (x1).toNatClampNeg))] [.int x1, .ref (27 + 3)] _ _ from ?_)
    refine zy_2 rfl rfl (show zyR _ _ _ _ [some (.ref (27 + 3)), some (.int x1), some (.int x2), some (.int x3), some (.int x4), some (.int x5), some (.int (s.1 28 (x1).toNatClampNeg))] [.int x3, .int x1, .ref (27 + 3)] _ _ from ?_)
    refine zy_3 rfl rfl (show zyR _ _ _ _ [some (.ref (27 + 3)), some (.int x1), some (.int x2), some (.int x3), some (.int x4), some (.int x5), some (.int (s.1 28 (x1).toNatClampNeg))] [.int (0 : Int32), .int x3, .int x1, .ref (27 + 3)] _ _ from ?_)
    refine zy_2 rfl rfl (show zyR _ _ _ _ [some (.ref (27 + 3)), some (.int x1), some (.int x2), some (.int x3), some (.int x4), some (.int x5), some (.int (s.1 28 (x1).toNatClampNeg))] [.int x4, .int (0 : Int32), .int x3, .int x1, .ref (27 + 3)] _ _ from ?_)
    refine zy_2 rfl rfl (show zyR _ _ _ _ [some (.ref (27 + 3)), some (.int x1), some (.int x2), some (.int x3), some (.int x4), some (.int x5), some (.int (s.1 28 (x1).toNatClampNeg))] [.int x5, .int x4, .int (0 : Int32), .int x3, .int x1, .ref (27 + 3)] _ _ from ?_)
    obtain ⟨p15, hp15, h⟩ := zy_bind h
    refine zy_5 (c := 27) (as := [.int x1, .int x3, .int (0 : Int32), .int x4, .int x5]) (rest := []) (L := [some (.ref (27 + 3)), some (.int x1), some (.int x3), some (.int (0 : Int32)), some (.int x4), some (.int x5), none, none]) (d' := d) rfl rfl rfl (Nat.le_of_ble_eq_true rfl) (by omega) rfl (Nat.le_of_ble_eq_true rfl) rfl rfl (hg155 x1 x3 (0 : Int32) x4 x5 s _ _ hp15) ?_
    show zyR _ _ _ _ [some (.ref (27 + 3)), some (.int x1), some (.int x2), some (.int x3), some (.int x4), some (.int x5), some (.int (s.1 28 (x1).toNatClampNeg))] [.int p15.1] _ _
    refine zy_3 rfl rfl (show zyR _ _ _ _ [some (.ref (27 + 3)), some (.int x1), some (.int x2), some (.int x3), some (.int x4), some (.int x5), some (.int (s.1 28 (x1).toNatClampNeg))] [.int (2 : Int32), .int p15.1] _ _ from ?_)
    refine zy_12 rfl (show zyR _ _ _ _ [some (.ref (27 + 3)), some (.int x1), some (.int x2), some (.int x3), some (.int x4), some (.int x5), some (.int (s.1 28 (x1).toNatClampNeg))] [.int (p15.1 * (2 : Int32))] _ _ from ?_)
    obtain ⟨rfl, rfl⟩ := zy_pi h
    exact zy_4 rfl ⟨rfl, rfl⟩
  replace h := zy_ifn h b16
  refine zy_swp (fun b19 => (show zyR _ _ _ _ [some (.ref (27 + 3)), some (.int x1), some (.int x2), some (.int x3), some (.int x4), some (.int x5), some (.int (s.1 28 (x1).toNatClampNeg))] [] _ _ from ?_)) (fun b19 => ?_)
  · replace h := zy_ifp h b19
    refine zy_0 rfl rfl (show zyR _ _ _ _ [some (.ref (27 + 3)), some (.int x1), some (.int x2), some (.int x3), some (.int x4), some (.int x5), some (.int (s.1 28 (x1).toNatClampNeg))] [.ref (27 + 3)] _ _ from ?_)
    refine zy_2 rfl rfl (show zyR _ _ _ _ [some (.ref (27 + 3)), some (.int x1), some (.int x2), some (.int x3), some (.int x4), some (.int x5), some (.int (s.1 28 (x1).toNatClampNeg))] [.int x1, .ref (27 + 3)] _ _ from ?_)
    refine zy_2 rfl rfl (show zyR _ _ _ _ [some (.ref (27 + 3)), some (.int x1), some (.int x2), some (.int x3), some (.int x4), some (.int x5), some (.int (s.1 28 (x1).toNatClampNeg))] [.int x3, .int x1, .ref (27 + 3)] _ _ from ?_)
    refine zy_3 rfl rfl (show zyR _ _ _ _ [some (.ref (27 + 3)), some (.int x1), some (.int x2), some (.int x3), some (.int x4), some (.int x5), some (.int (s.1 28 (x1).toNatClampNeg))] [.int (1 : Int32), .int x3, .int x1, .ref (27 + 3)] _ _ from ?_)
    refine zy_2 rfl rfl (show zyR _ _ _ _ [some (.ref (27 + 3)), some (.int x1), some (.int x2), some (.int x3), some (.int x4), some (.int x5), some (.int (s.1 28 (x1).toNatClampNeg))] [.int x4, .int (1 : Int32), .int x3, .int x1, .ref (27 + 3)] _ _ from ?_)
    refine zy_2 rfl rfl (show zyR _ _ _ _ [some (.ref (27 + 3)), some (.int x1), some (.int x2), some (.int x3), some (.int x4), some (.int x5), some (.int (s.1 28 (x1).toNatClampNeg))] [.int x5, .int x4, .int (1 : Int32), .int x3, .int x1, .ref (27 + 3)] _ _ from ?_)
    obtain ⟨p17, hp17, h⟩ := zy_bind h
    refine zy_5 (c := 27) (as := [.int x1, .int x3, .int (1 : Int32), .int x4, .int x5]) (rest := []) (L := [some (.ref (27 + 3)), some (.int x1), some (.int x3), some (.int (1 : Int32)), some (.int x4), some (.int x5), none, none]) (d' := d) rfl rfl rfl (Nat.le_of_ble_eq_true rfl) (by omega) rfl (Nat.le_of_ble_eq_true rfl) rfl rfl (hg155 x1 x3 (1 : Int32) x4 x5 s _ _ hp17) ?_
    show zyR _ _ _ _ [some (.ref (27 + 3)), some (.int x1), some (.int x2), some (.int x3), some (.int x4), some (.int x5), some (.int (s.1 28 (x1).toNatClampNeg))] [.int p17.1] _ _
    refine zy_0 rfl rfl (show zyR _ _ _ _ [some (.ref (27 + 3)), some (.int x1), some (.int x2), some (.int x3), some (.int x4), some (.int x5), some (.int (s.1 28 (x1).toNatClampNeg))] [.ref (27 + 3), .int p17.1] _ _ from ?_)
    refine zy_2 rfl rfl (show zyR _ _ _ _ [some (.ref (27 + 3)), some (.int x1), some (.int x2), some (.int x3), some (.int x4), some (.int x5), some (.int (s.1 28 (x1).toNatClampNeg))] [.int x1, .ref (27 + 3), .int p17.1] _ _ from ?_)
    refine zy_2 rfl rfl (show zyR _ _ _ _ [some (.ref (27 + 3)), some (.int x1), some (.int x2), some (.int x3), some (.int x4), some (.int x5), some (.int (s.1 28 (x1).toNatClampNeg))] [.int (s.1 28 (x1).toNatClampNeg), .int x1, .ref (27 + 3), .int p17.1] _ _ from ?_)
    refine zy_3 rfl rfl (show zyR _ _ _ _ [some (.ref (27 + 3)), some (.int x1), some (.int x2), some (.int x3), some (.int x4), some (.int x5), some (.int (s.1 28 (x1).toNatClampNeg))] [.int (2 : Int32), .int (s.1 28 (x1).toNatClampNeg), .int x1, .ref (27 + 3), .int p17.1] _ _ from ?_)
    refine zy_3 rfl rfl (show zyR _ _ _ _ [some (.ref (27 + 3)), some (.int x1), some (.int x2), some (.int x3), some (.int x4), some (.int x5), some (.int (s.1 28 (x1).toNatClampNeg))] [.int (2 : Int32), .int (2 : Int32), .int (s.1 28 (x1).toNatClampNeg), .int x1, .ref (27 + 3), .int p17.1] _ _ from ?_)
    refine zy_2 rfl rfl (show zyR _ _ _ _ [some (.ref (27 + 3)), some (.int x1), some (.int x2), some (.int x3), some (.int x4), some (.int x5), some (.int (s.1 28 (x1).toNatClampNeg))] [.int x5, .int (2 : Int32), .int (2 : Int32), .int (s.1 28 (x1).toNatClampNeg), .int x1, .ref (27 + 3), .int p17.1] _ _ from ?_)
    obtain ⟨p18, hp18, h⟩ := zy_bind h
    refine zy_5 (c := 27) (as := [.int x1, .int (s.1 28 (x1).toNatClampNeg), .int (2 : Int32), .int (2 : Int32), .int x5]) (rest := [.int p17.1]) (L := [some (.ref (27 + 3)), some (.int x1), some (.int (s.1 28 (x1).toNatClampNeg)), some (.int (2 : Int32)), some (.int (2 : Int32)), some (.int x5), none, none]) (d' := d) rfl rfl rfl (Nat.le_of_ble_eq_true rfl) (by omega) rfl (Nat.le_of_ble_eq_true rfl) rfl rfl (hg155 x1 (s.1 28 (x1).toNatClampNeg) (2 : Int32) (2 : Int32) x5 p17.2 _ _ hp18) ?_
    show zyR _ _ _ _ [some (.ref (27 + 3)), some (.int x1), some (.int x2), some (.int x3), some (.int x4), some (.int x5), some (.int (s.1 28 (x1).toNatClampNeg))] [.int p18.1, .int p17.1] _ _
    refine zy_10 rfl (show zyR _ _ _ _ [some (.ref (27 + 3)), some (.int x1), some (.int x2), some (.int x3), some (.int x4), some (.int x5), some (.int (s.1 28 (x1).toNatClampNeg))] [.int (p17.1 + p18.1)] _ _ from ?_)
    obtain ⟨rfl, rfl⟩ := zy_pi h
    exact zy_4 rfl ⟨rfl, rfl⟩
  replace h := zy_ifn h b19
  show zyR _ _ _ _ [some (.ref (27 + 3)), some (.int x1), some (.int x2), some (.int x3), some (.int x4), some (.int x5), some (.int (s.1 28 (x1).toNatClampNeg))] [] _ _
  refine zy_0 rfl rfl (show zyR _ _ _ _ [some (.ref (27 + 3)), some (.int x1), some (.int x2), some (.int x3), some (.int x4), some (.int x5), some (.int (s.1 28 (x1).toNatClampNeg))] [.ref (27 + 3)] _ _ from ?_)
  refine zy_2 rfl rfl (show zyR _ _ _ _ [some (.ref (27 + 3)), some (.int x1), some (.int x2), some (.int x3), some (.int x4), some (.int x5), some (.int (s.1 28 (x1).toNatClampNeg))] [.int x1, .ref (27 + 3)] _ _ from ?_)
  refine zy_2 rfl rfl (show zyR _ _ _ _ [some (.ref (27 + 3)), some (.int x1), some (.int x2), some (.int x3), some (.int x4), some (.int x5), some (.int (s.1 28 (x1).toNatClampNeg))] [.int x3, .int x1, .ref (27 + 3)] _ _ from ?_)
  refine zy_3 rfl rfl (show zyR _ _ _ _ [some (.ref (27 + 3)), some (.int x1), some (.int x2), some (.int x3), some (.int x4), some (.int x5), some (.int (s.1 28 (x1).toNatClampNeg))] [.int (3 : Int32), .int x3, .int x1, .ref (27 + 3)] _ _ from ?_)
  refine zy_2 rfl rfl (show zyR _ _ _ _ [some (.ref (27 + 3)), some (.int x1), some (.int x2), some (.int x3), some (.int x4), some (.int x5), some (.int (s.1 28 (x1).toNatClampNeg))] [.int x4, .int (3 : Int32), .int x3, .int x1, .ref (27 + 3)] _ _ from ?_)
  refine zy_2 rfl rfl (show zyR _ _ _ _ [some (.ref (27 + 3)), some (.int x1), some (.int x2), some (.int x3), some (.int x4), some (.int x5), some (.int (s.1 28 (x1).toNatClampNeg))] [.int x5, .int x4, .int (3 : Int32), .int x3, .int x1, .ref (27 + 3)] _ _ from ?_)
  obtain ⟨p20, hp20, h⟩ := zy_bind h
  refine zy_5 (c := 27) (as := [.int x1, .int x3, .int (3 : Int32), .int x4, .int x5]) (rest := []) (L := [some (.ref (27 + 3)), some (.int x1), some (.int x3), some (.int (3 : Int32)), some (.int x4), some (.int x5), none, none]) (d' := d) rfl rfl rfl (Nat.le_of_ble_eq_true rfl) (by omega) rfl (Nat.le_of_ble_eq_true rfl) rfl rfl (hg155 x1 x3 (3 : Int32) x4 x5 s _ _ hp20) ?_
  show zyR _ _ _ _ [some (.ref (27 + 3)), some (.int x1), some (.int x2), some (.int x3), some (.int x4), some (.int x5), some (.int (s.1 28 (x1).toNatClampNeg))] [.int p20.1] _ _
  refine zy_3 rfl rfl (show zyR _ _ _ _ [some (.ref (27 + 3)), some (.int x1), some (.int x2), some (.int x3), some (.int x4), some (.int x5), some (.int (s.1 28 (x1).toNatClampNeg))] [.int (1 : Int32), .int p20.1] _ _ from ?_)
  refine zy_11 rfl (show zyR _ _ _ _ [some (.ref (27 + 3)), some (.int x1), some (.int x2), some (.int x3), some (.int x4), some (.int x5), some (.int (s.1 28 (x1).toNatClampNeg))] [.int (p20.1 - (1 : Int32))] _ _ from ?_)
  obtain ⟨rfl, rfl⟩ := zy_pi h
  exact zy_4 rfl ⟨rfl, rfl⟩
noncomputable def zyG155 (n : Nat) : (Int32 → Int32 → Int32 → Int32 → Int32 → zy_S → Option (Int32 × zy_S)) × (Int32 → Int32 → Int32 → Int32 → zy_S → Option (Int32 × zy_S)) × (Int32 → Int32 → Int32 → Int32 → Int32 → zy_S → Option (Int32 × zy_S)) := Nat.rec ((fun _ _ _ _ _ _ => none), ((fun _ _ _ _ _ => none), (fun _ _ _ _ _ _ => none))) (fun _ g => ((fun x1 x2 x3 x4 x5 s => zyF155_0 g.1 g.2.1 g.2.2 x1 x2 x3 x4 x5 s), ((fun x1 x2 x3 x4 s => zyF157_0 g.1 g.2.1 g.2.2 x1 x2 x3 x4 s), (fun x1 x2 x3 x4 x5 s => zyF158_0 g.1 g.2.1 g.2.2 x1 x2 x3 x4 x5 s)))) n
theorem zyG155_s (n : Nat) : zyG155 (n + 1) = ((fun x1 x2 x3 x4 x5 s => zyF155_0 (zyG155 n).1 (zyG155 n).2.1 (zyG155 n).2.2 x1 x2 x3 x4 x5 s), ((fun x1 x2 x3 x4 s => zyF157_0 (zyG155 n).1 (zyG155 n).2.1 (zyG155 n).2.2 x1 x2 x3 x4 s), (fun x1 x2 x3 x4 x5 s => zyF158_0 (zyG155 n).1 (zyG155 n).2.1 (zyG155 n).2.2 x1 x2 x3 x4 x5 s))) := rfl
theorem zyS155 (n : Nat) (x1 : Int32) (x2 : Int32) (x3 : Int32) (x4 : Int32) (x5 : Int32) (s : zy_S) : (zyG155 (n + 1)).1 x1 x2 x3 x4 x5 s = zyF155_0 (zyG155 n).1 (zyG155 n).2.1 (zyG155 n).2.2 x1 x2 x3 x4 x5 s := by
  rw [zyG155_s]
theorem zyS157 (n : Nat) (x1 : Int32) (x2 : Int32) (x3 : Int32) (x4 : Int32) (s : zy_S) : (zyG155 (n + 1)).2.1 x1 x2 x3 x4 s = zyF157_0 (zyG155 n).1 (zyG155 n).2.1 (zyG155 n).2.2 x1 x2 x3 x4 s := by
  rw [zyG155_s]
theorem zyS158 (n : Nat) (x1 : Int32) (x2 : Int32) (x3 : Int32) (x4 : Int32) (x5 : Int32) (s : zy_S) : (zyG155 (n + 1)).2.2 x1 x2 x3 x4 x5 s = zyF158_0 (zyG155 n).1 (zyG155 n).2.1 (zyG155 n).2.2 x1 x2 x3 x4 x5 s := by
  rw [zyG155_s]
theorem zyG155_ok {X : zx_X} : ∀ n : Nat, (∀ (x1 : Int32) (x2 : Int32) (x3 : Int32) (x4 : Int32) (x5 : Int32) (s : zy_S) (r : Int32) (s' : zy_S), (zyG155 n).1 x1 x2 x3 x4 x5 s = some (r, s') → zyR X (1 + n) 155 0 [some (.ref (27 + 3)), some (.int x1), some (.int x2), some (.int x3), some (.int x4), some (.int x5), none, none] [] s (zyE (some (.int r)) s')) ∧ (∀ (x1 : Int32) (x2 : Int32) (x3 : Int32) (x4 : Int32) (s : zy_S) (r : Int32) (s' : zy_S), (zyG155 n).2.1 x1 x2 x3 x4 s = some (r, s') → zyR X (1 + n) 157 0 [some (.ref (27 + 3)), some (.int x1), some (.int x2), some (.int x3), some (.int x4), none] [] s (zyE (some (.int r)) s')) ∧ (∀ (x1 : Int32) (x2 : Int32) (x3 : Int32) (x4 : Int32) (x5 : Int32) (s : zy_S) (r : Int32) (s' : zy_S), (zyG155 n).2.2 x1 x2 x3 x4 x5 s = some (r, s') → zyR X (1 + n) 158 0 [some (.ref (27 + 3)), some (.int x1), some (.int x2), some (.int x3), some (.int x4), some (.int x5), none] [] s (zyE (some (.int r)) s'))
  | 0 => by
    refine ⟨?_, ?_, ?_⟩
    · intro x1 x2 x3 x4 x5 s r s'  h
      have h : (none : Option (Int32 × zy_S)) = some (r, s') := h
      cases h
    · intro x1 x2 x3 x4 s r s'  h
      have h : (none : Option (Int32 × zy_S)) = some (r, s') := h
      cases h
    · intro x1 x2 x3 x4 x5 s r s'  h
      have h : (none : Option (Int32 × zy_S)) = some (r, s') := h
      cases h
  | n + 1 => by
    obtain ⟨i0, i1, i2⟩ := zyG155_ok (X := X) n
    refine ⟨?_, ?_, ?_⟩
    · intro x1 x2 x3 x4 x5 s r s'  h
      rw [zyS155] at h
      exact zy_sub (show zy_le [some (.ref (27 + 3)), some (.int x1), some (.int x2), some (.int x3), some (.int x4), some (.int x5), none, none] [some (.ref (27 + 3)), some (.int x1), some (.int x2), some (.int x3), some (.int x4), some (.int x5), none, none] from ⟨rfl, ⟨rfl, ⟨rfl, ⟨rfl, ⟨rfl, ⟨rfl, trivial⟩⟩⟩⟩⟩⟩) (zyC155_0 (d := 1 + n) (g155 := (zyG155 n).1) (g157 := (zyG155 n).2.1) (g158 := (zyG155 n).2.2) (by omega) i0 i1 i2  h)
    · intro x1 x2 x3 x4 s r s'  h
      rw [zyS157] at h
      exact zy_sub (show zy_le [some (.ref (27 + 3)), some (.int x1), some (.int x2), some (.int x3), some (.int x4), none] [some (.ref (27 + 3)), some (.int x1), some (.int x2), some (.int x3), some (.int x4), none] from ⟨rfl, ⟨rfl, ⟨rfl, ⟨rfl, ⟨rfl, trivial⟩⟩⟩⟩⟩) (zyC157_0 (d := 1 + n) (g155 := (zyG155 n).1) (g157 := (zyG155 n).2.1) (g158 := (zyG155 n).2.2) (by omega) i0 i1 i2  h)
    · intro x1 x2 x3 x4 x5 s r s'  h
      rw [zyS158] at h
      exact zy_sub (show zy_le [some (.ref (27 + 3)), some (.int x1), some (.int x2), some (.int x3), some (.int x4), some (.int x5), none] [some (.ref (27 + 3)), some (.int x1), some (.int x2), some (.int x3), some (.int x4), some (.int x5), none] from ⟨rfl, ⟨rfl, ⟨rfl, ⟨rfl, ⟨rfl, ⟨rfl, trivial⟩⟩⟩⟩⟩⟩) (zyC158_0 (d := 1 + n) (g155 := (zyG155 n).1) (g157 := (zyG155 n).2.1) (g158 := (zyG155 n).2.2) (by omega) i0 i1 i2  h)
noncomputable def zyF155 : Int32 → Int32 → Int32 → Int32 → Int32 → zy_S → Option (Int32 × zy_S) := (zyG155 100).1
theorem zyC155 {X : zx_X} {x1 : Int32} {x2 : Int32} {x3 : Int32} {x4 : Int32} {x5 : Int32} {s : zy_S} {r : Int32} {s' : zy_S}  (h : zyF155 x1 x2 x3 x4 x5 s = some (r, s')) : zyR X 101 155 0 [some (.ref (27 + 3)), some (.int x1), some (.int x2), some (.int x3), some (.int x4), some (.int x5), none, none] [] s (zyE (some (.int r)) s') := (zyG155_ok (X := X) 100).1 x1 x2 x3 x4 x5 s r s'  h
noncomputable def zyF157 : Int32 → Int32 → Int32 → Int32 → zy_S → Option (Int32 × zy_S) := (zyG155 100).2.1
theorem zyC157 {X : zx_X} {x1 : Int32} {x2 : Int32} {x3 : Int32} {x4 : Int32} {s : zy_S} {r : Int32} {s' : zy_S}  (h : zyF157 x1 x2 x3 x4 s = some (r, s')) : zyR X 101 157 0 [some (.ref (27 + 3)), some (.int x1), some (.int x2), some (.int x3), some (.int x4), none] [] s (zyE (some (.int r)) s') := (zyG155_ok (X := X) 100).2.1 x1 x2 x3 x4 s r s'  h
noncomputable def zyF158 : Int32 → Int32 → Int32 → Int32 → Int32 → zy_S → Option (Int32 × zy_S) := (zyG155 100).2.2
theorem zyC158 {X : zx_X} {x1 : Int32} {x2 : Int32} {x3 : Int32} {x4 : Int32} {x5 : Int32} {s : zy_S} {r : Int32} {s' : zy_S}  (h : zyF158 x1 x2 x3 x4 x5 s = some (r, s')) : zyR X 101 158 0 [some (.ref (27 + 3)), some (.int x1), some (.int x2), some (.int x3), some (.int x4), some (.int x5), none] [] s (zyE (some (.int r)) s') := (zyG155_ok (X := X) 100).2.2 x1 x2 x3 x4 x5 s r s'  h
/-! NineOpinions$Bodies.perform(III)I -/
noncomputable def zyF153_27   (x1 : Int32) (x2 : Int32) (x3 : Int32) (y0 : Int32) (s : zy_S) : Option (Int32 × zy_S) :=
if y0 = 0 then
some ((0 : Int32), s)
else
if zy_in x1 50 then
(zyF155 x1 (s.1 28 (x1).toNatClampNeg) x2 x3 (0 : Int32) s).bind fun p2 =>
some (p2.1, p2.2)
else none
theorem zyC153_27 {X : zx_X}     {x1 : Int32} {x2 : Int32} {x3 : Int32} {y0 : Int32} {s : zy_S} {r : Int32} {s' : zy_S}  (h : zyF153_27 x1 x2 x3 y0 s = some (r, s')) : zyR X 102 153 27 [some (.ref (27 + 3)), some (.int x1), some (.int x2), some (.int x3), none] [.int y0] s (zyE (some (.int r)) s') := by
  unfold zyF153_27 at h
  refine zy_23 rfl rfl (show zyR _ _ _ _ [some (.ref (27 + 3)), some (.int x1), some (.int x2), some (.int x3), some (.int y0)] [] _ _ from ?_)
  refine zy_2 rfl rfl (show zyR _ _ _ _ [some (.ref (27 + 3)), some (.int x1), some (.int x2), some (.int x3), some (.int y0)] [.int y0] _ _ from ?_)
  refine zy_24_0 rfl (fun b3 => (show zyR _ _ _ _ [some (.ref (27 + 3)), some (.int x1), some (.int x2), some (.int x3), some (.int y0)] [] _ _ from ?_)) (fun b3 => (show zyR _ _ _ _ [some (.ref (27 + 3)), some (.int x1), some (.int x2), some (.int x3), some (.int y0)] [] _ _ from ?_))
  · replace h := zy_ifp h b3
    refine zy_3 rfl rfl (show zyR _ _ _ _ [some (.ref (27 + 3)), some (.int x1), some (.int x2), some (.int x3), some (.int y0)] [.int (0 : Int32)] _ _ from ?_)
    obtain ⟨rfl, rfl⟩ := zy_pi h
    exact zy_4 rfl ⟨rfl, rfl⟩
  · replace h := zy_ifn h b3
    refine zy_0 rfl rfl (show zyR _ _ _ _ [some (.ref (27 + 3)), some (.int x1), some (.int x2), some (.int x3), some (.int y0)] [.ref (27 + 3)] _ _ from ?_)
    refine zy_2 rfl rfl (show zyR _ _ _ _ [some (.ref (27 + 3)), some (.int x1), some (.int x2), some (.int x3), some (.int y0)] [.int x1, .ref (27 + 3)] _ _ from ?_)
    refine zy_0 rfl rfl (show zyR _ _ _ _ [some (.ref (27 + 3)), some (.int x1), some (.int x2), some (.int x3), some (.int y0)] [.ref (27 + 3), .int x1, .ref (27 + 3)] _ _ from ?_)
    refine zy_1r (c := 27) rfl rfl rfl (show zyR _ _ _ _ [some (.ref (27 + 3)), some (.int x1), some (.int x2), some (.int x3), some (.int y0)] [.ref (28 + 3), .int x1, .ref (27 + 3)] _ _ from ?_)
    refine zy_2 rfl rfl (show zyR _ _ _ _ [some (.ref (27 + 3)), some (.int x1), some (.int x2), some (.int x3), some (.int y0)] [.int x1, .ref (28 + 3), .int x1, .ref (27 + 3)] _ _ from ?_)
    obtain ⟨c1, h⟩ := zy_if h
    refine zy_26 (c := 28) rfl rfl c1 (show zyR _ _ _ _ [some (.ref (27 + 3)), some (.int x1), some (.int x2), some (.int x3), some (.int y0)] [.int (s.1 28 (x1).toNatClampNeg), .int x1, .ref (27 + 3)] _ _ from ?_)
    refine zy_2 rfl rfl (show zyR _ _ _ _ [some (.ref (27 + 3)), some (.int x1), some (.int x2), some (.int x3), some (.int y0)] [.int x2, .int (s.1 28 (x1).toNatClampNeg), .int x1, .ref (27 + 3)] _ _ from ?_)
    refine zy_2 rfl rfl (show zyR _ _ _ _ [some (.ref (27 + 3)), some (.int x1), some (.int x2), some (.int x3), some (.int y0)] [.int x3, .int x2, .int (s.1 28 (x1).toNatClampNeg), .int x1, .ref (27 + 3)] _ _ from ?_)
    refine zy_3 rfl rfl (show zyR _ _ _ _ [some (.ref (27 + 3)), some (.int x1), some (.int x2), some (.int x3), some (.int y0)] [.int (0 : Int32), .int x3, .int x2, .int (s.1 28 (x1).toNatClampNeg), .int x1, .ref (27 + 3)] _ _ from ?_)
    obtain ⟨p2, hp2, h⟩ := zy_bind h
    refine zy_5 (c := 27) (as := [.int x1, .int (s.1 28 (x1).toNatClampNeg), .int x2, .int x3, .int (0 : Int32)]) (rest := []) (L := [some (.ref (27 + 3)), some (.int x1), some (.int (s.1 28 (x1).toNatClampNeg)), some (.int x2), some (.int x3), some (.int (0 : Int32)), none, none]) (d' := 101) rfl rfl rfl (Nat.le_of_ble_eq_true rfl) (Nat.le_of_ble_eq_true rfl) rfl (Nat.le_of_ble_eq_true rfl) rfl rfl (zyC155 hp2) ?_
    show zyR _ _ _ _ [some (.ref (27 + 3)), some (.int x1), some (.int x2), some (.int x3), some (.int y0)] [.int p2.1] _ _
    refine zy_6 rfl (show zyR _ _ _ _ [some (.ref (27 + 3)), some (.int x1), some (.int x2), some (.int x3), some (.int y0)] [.int p2.1] _ _ from ?_)
    obtain ⟨rfl, rfl⟩ := zy_pi h
    exact zy_4 rfl ⟨rfl, rfl⟩
noncomputable def zyF153_26   (x1 : Int32) (x2 : Int32) (x3 : Int32) (s : zy_S) : Option (Int32 × zy_S) :=
zyF153_27 x1 x2 x3 (0 : Int32) s
theorem zyC153_26 {X : zx_X}     {x1 : Int32} {x2 : Int32} {x3 : Int32} {s : zy_S} {r : Int32} {s' : zy_S}  (h : zyF153_26 x1 x2 x3 s = some (r, s')) : zyR X 102 153 26 [some (.ref (27 + 3)), some (.int x1), some (.int x2), some (.int x3), none] [] s (zyE (some (.int r)) s') := by
  unfold zyF153_26 at h
  refine zy_3 rfl rfl (show zyR _ _ _ _ [some (.ref (27 + 3)), some (.int x1), some (.int x2), some (.int x3), none] [.int (0 : Int32)] _ _ from ?_)
  exact zy_sub (show zy_le [some (.ref (27 + 3)), some (.int x1), some (.int x2), some (.int x3), none] [some (.ref (27 + 3)), some (.int x1), some (.int x2), some (.int x3), none] from ⟨rfl, ⟨rfl, ⟨rfl, ⟨rfl, trivial⟩⟩⟩⟩) (zyC153_27 h)
noncomputable def zyF153   (x1 : Int32) (x2 : Int32) (x3 : Int32) (s : zy_S) : Option (Int32 × zy_S) :=
(zyF154 x1 (zy_up s 27 3 (0 : Int32))).bind fun p4 =>
if p4.1 = 0 then
zyF153_26 x1 x2 x3 p4.2
else
if x2 < 0 then
zyF153_26 x1 x2 x3 p4.2
else
if (4 : Int32) ≤ x2 then
zyF153_26 x1 x2 x3 p4.2
else
zyF153_27 x1 x2 x3 (1 : Int32) p4.2
theorem zyC153 {X : zx_X}     {x1 : Int32} {x2 : Int32} {x3 : Int32} {s : zy_S} {r : Int32} {s' : zy_S}  (h : zyF153 x1 x2 x3 s = some (r, s')) : zyR X 102 153 0 [some (.ref (27 + 3)), some (.int x1), some (.int x2), some (.int x3), none] [] s (zyE (some (.int r)) s') := by
  unfold zyF153 at h
  refine zy_0 rfl rfl (show zyR _ _ _ _ [some (.ref (27 + 3)), some (.int x1), some (.int x2), some (.int x3), none] [.ref (27 + 3)] _ _ from ?_)
  refine zy_3 rfl rfl (show zyR _ _ _ _ [some (.ref (27 + 3)), some (.int x1), some (.int x2), some (.int x3), none] [.int (0 : Int32), .ref (27 + 3)] _ _ from ?_)
  refine zy_52 (c := 27) rfl rfl rfl (show zyR _ _ _ _ [some (.ref (27 + 3)), some (.int x1), some (.int x2), some (.int x3), none] [] _ _ from ?_)
  refine zy_0 rfl rfl (show zyR _ _ _ _ [some (.ref (27 + 3)), some (.int x1), some (.int x2), some (.int x3), none] [.ref (27 + 3)] _ _ from ?_)
  refine zy_2 rfl rfl (show zyR _ _ _ _ [some (.ref (27 + 3)), some (.int x1), some (.int x2), some (.int x3), none] [.int x1, .ref (27 + 3)] _ _ from ?_)
  obtain ⟨p4, hp4, h⟩ := zy_bind h
  refine zy_5 (c := 27) (as := [.int x1]) (rest := []) (L := [some (.ref (27 + 3)), some (.int x1)]) (d' := 1) rfl rfl rfl (Nat.le_of_ble_eq_true rfl) (Nat.le_of_ble_eq_true rfl) rfl (Nat.le_of_ble_eq_true rfl) rfl rfl (zyC154 hp4) ?_
  show zyR _ _ _ _ [some (.ref (27 + 3)), some (.int x1), some (.int x2), some (.int x3), none] [.int p4.1] _ _
  refine zy_24_0 rfl (fun b7 => (show zyR _ _ _ _ [some (.ref (27 + 3)), some (.int x1), some (.int x2), some (.int x3), none] [] _ _ from ?_)) (fun b7 => (show zyR _ _ _ _ [some (.ref (27 + 3)), some (.int x1), some (.int x2), some (.int x3), none] [] _ _ from ?_))
  · replace h := zy_ifp h b7
    exact zy_sub (show zy_le [some (.ref (27 + 3)), some (.int x1), some (.int x2), some (.int x3), none] [some (.ref (27 + 3)), some (.int x1), some (.int x2), some (.int x3), none] from ⟨rfl, ⟨rfl, ⟨rfl, ⟨rfl, trivial⟩⟩⟩⟩) (zyC153_26 h)
  · replace h := zy_ifn h b7
    refine zy_2 rfl rfl (show zyR _ _ _ _ [some (.ref (27 + 3)), some (.int x1), some (.int x2), some (.int x3), none] [.int x2] _ _ from ?_)
    refine zy_24_2 rfl (fun b6 => (show zyR _ _ _ _ [some (.ref (27 + 3)), some (.int x1), some (.int x2), some (.int x3), none] [] _ _ from ?_)) (fun b6 => (show zyR _ _ _ _ [some (.ref (27 + 3)), some (.int x1), some (.int x2), some (.int x3), none] [] _ _ from ?_))
    · replace h := zy_ifp h b6
      exact zy_sub (show zy_le [some (.ref (27 + 3)), some (.int x1), some (.int x2), some (.int x3), none] [some (.ref (27 + 3)), some (.int x1), some (.int x2), some (.int x3), none] from ⟨rfl, ⟨rfl, ⟨rfl, ⟨rfl, trivial⟩⟩⟩⟩) (zyC153_26 h)
    · replace h := zy_ifn h b6
      refine zy_2 rfl rfl (show zyR _ _ _ _ [some (.ref (27 + 3)), some (.int x1), some (.int x2), some (.int x3), none] [.int x2] _ _ from ?_)
      refine zy_3 rfl rfl (show zyR _ _ _ _ [some (.ref (27 + 3)), some (.int x1), some (.int x2), some (.int x3), none] [.int (4 : Int32), .int x2] _ _ from ?_)
      refine zy_25_3 rfl (fun b5 => (show zyR _ _ _ _ [some (.ref (27 + 3)), some (.int x1), some (.int x2), some (.int x3), none] [] _ _ from ?_)) (fun b5 => (show zyR _ _ _ _ [some (.ref (27 + 3)), some (.int x1), some (.int x2), some (.int x3), none] [] _ _ from ?_))
      · replace h := zy_ifp h b5
        exact zy_sub (show zy_le [some (.ref (27 + 3)), some (.int x1), some (.int x2), some (.int x3), none] [some (.ref (27 + 3)), some (.int x1), some (.int x2), some (.int x3), none] from ⟨rfl, ⟨rfl, ⟨rfl, ⟨rfl, trivial⟩⟩⟩⟩) (zyC153_26 h)
      · replace h := zy_ifn h b5
        refine zy_3 rfl rfl (show zyR _ _ _ _ [some (.ref (27 + 3)), some (.int x1), some (.int x2), some (.int x3), none] [.int (1 : Int32)] _ _ from ?_)
        refine zy_6 rfl (show zyR _ _ _ _ [some (.ref (27 + 3)), some (.int x1), some (.int x2), some (.int x3), none] [.int (1 : Int32)] _ _ from ?_)
        exact zy_sub (show zy_le [some (.ref (27 + 3)), some (.int x1), some (.int x2), some (.int x3), none] [some (.ref (27 + 3)), some (.int x1), some (.int x2), some (.int x3), none] from ⟨rfl, ⟨rfl, ⟨rfl, ⟨rfl, trivial⟩⟩⟩⟩) (zyC153_27 h)
/-! NineOpinions.act(III)I -/
noncomputable def zyF152   (x1 : Int32) (x2 : Int32) (x3 : Int32) (s : zy_S) : Option (Int32 × zy_S) :=
(zyF153 x1 x2 x3 s).bind fun p1 =>
some (p1.1, p1.2)
theorem zyC152 {X : zx_X}     {x1 : Int32} {x2 : Int32} {x3 : Int32} {s : zy_S} {r : Int32} {s' : zy_S}  (h : zyF152 x1 x2 x3 s = some (r, s')) : zyR X 103 152 0 [some (.ref (0 + 3)), some (.int x1), some (.int x2), some (.int x3)] [] s (zyE (some (.int r)) s') := by
  unfold zyF152 at h
  refine zy_0 rfl rfl (show zyR _ _ _ _ [some (.ref (0 + 3)), some (.int x1), some (.int x2), some (.int x3)] [.ref (0 + 3)] _ _ from ?_)
  refine zy_1r (c := 0) rfl rfl rfl (show zyR _ _ _ _ [some (.ref (0 + 3)), some (.int x1), some (.int x2), some (.int x3)] [.ref (27 + 3)] _ _ from ?_)
  refine zy_2 rfl rfl (show zyR _ _ _ _ [some (.ref (0 + 3)), some (.int x1), some (.int x2), some (.int x3)] [.int x1, .ref (27 + 3)] _ _ from ?_)
  refine zy_2 rfl rfl (show zyR _ _ _ _ [some (.ref (0 + 3)), some (.int x1), some (.int x2), some (.int x3)] [.int x2, .int x1, .ref (27 + 3)] _ _ from ?_)
  refine zy_2 rfl rfl (show zyR _ _ _ _ [some (.ref (0 + 3)), some (.int x1), some (.int x2), some (.int x3)] [.int x3, .int x2, .int x1, .ref (27 + 3)] _ _ from ?_)
  obtain ⟨p1, hp1, h⟩ := zy_bind h
  refine zy_5 (c := 27) (as := [.int x1, .int x2, .int x3]) (rest := []) (L := [some (.ref (27 + 3)), some (.int x1), some (.int x2), some (.int x3), none]) (d' := 102) rfl rfl rfl (Nat.le_of_ble_eq_true rfl) (Nat.le_of_ble_eq_true rfl) rfl (Nat.le_of_ble_eq_true rfl) rfl rfl (zyC153 hp1) ?_
  show zyR _ _ _ _ [some (.ref (0 + 3)), some (.int x1), some (.int x2), some (.int x3)] [.int p1.1] _ _
  obtain ⟨rfl, rfl⟩ := zy_pi h
  exact zy_4 rfl ⟨rfl, rfl⟩
/-! NineOpinionsModel.runs(I)V -/
noncomputable def zyF251_19    (s : zy_S) : Option (Int32 × zy_S) :=
some ((0 : Int32), (zy_up s 43 31 ((s.1 43 31) + (1 : Int32))))
theorem zyC251_19 {X : zx_X}      {s : zy_S} {r : Int32} {s' : zy_S}  (h : zyF251_19 s = some (r, s')) : zyR X 1 251 19 [some (.ref (43 + 3)), none] [] s (zyE none s') := by
  unfold zyF251_19 at h
  refine zy_0 rfl rfl (show zyR _ _ _ _ [some (.ref (43 + 3)), none] [.ref (43 + 3)] _ _ from ?_)
  refine zy_33 rfl rfl (show zyR _ _ _ _ [some (.ref (43 + 3)), none] [.ref (43 + 3), .ref (43 + 3)] _ _ from ?_)
  refine zy_1 (c := 43) rfl rfl rfl (show zyR _ _ _ _ [some (.ref (43 + 3)), none] [.int (s.1 43 31), .ref (43 + 3)] _ _ from ?_)
  refine zy_3 rfl rfl (show zyR _ _ _ _ [some (.ref (43 + 3)), none] [.int (1 : Int32), .int (s.1 43 31), .ref (43 + 3)] _ _ from ?_)
  refine zy_10 rfl (show zyR _ _ _ _ [some (.ref (43 + 3)), none] [.int ((s.1 43 31) + (1 : Int32)), .ref (43 + 3)] _ _ from ?_)
  refine zy_52 (c := 43) rfl rfl rfl (show zyR _ _ _ _ [some (.ref (43 + 3)), none] [] _ _ from ?_)
  cases h
  exact zy_66 rfl ⟨rfl, rfl⟩
noncomputable def zyF251   (x1 : Int32) (s : zy_S) : Option (Int32 × zy_S) :=
if (24 : Int32) ≤ (s.1 43 31) then
zyF251_19 s
else
if zy_in (s.1 43 31) 24 then
zyF251_19 (zy_up s 59 ((s.1 43 31)).toNatClampNeg x1)
else none
theorem zyC251 {X : zx_X}     {x1 : Int32} {s : zy_S} {r : Int32} {s' : zy_S}  (h : zyF251 x1 s = some (r, s')) : zyR X 1 251 0 [some (.ref (43 + 3)), some (.int x1)] [] s (zyE none s') := by
  unfold zyF251 at h
  refine zy_0 rfl rfl (show zyR _ _ _ _ [some (.ref (43 + 3)), some (.int x1)] [.ref (43 + 3)] _ _ from ?_)
  refine zy_1 (c := 43) rfl rfl rfl (show zyR _ _ _ _ [some (.ref (43 + 3)), some (.int x1)] [.int (s.1 43 31)] _ _ from ?_)
  refine zy_3 rfl rfl (show zyR _ _ _ _ [some (.ref (43 + 3)), some (.int x1)] [.int (24 : Int32), .int (s.1 43 31)] _ _ from ?_)
  refine zy_25_3 rfl (fun b2 => (show zyR _ _ _ _ [some (.ref (43 + 3)), some (.int x1)] [] _ _ from ?_)) (fun b2 => (show zyR _ _ _ _ [some (.ref (43 + 3)), some (.int x1)] [] _ _ from ?_))
  · replace h := zy_ifp h b2
    exact zy_sub (show zy_le [some (.ref (43 + 3)), none] [some (.ref (43 + 3)), some (.int x1)] from ⟨rfl, trivial⟩) (zyC251_19 h)
  · replace h := zy_ifn h b2
    refine zy_0 rfl rfl (show zyR _ _ _ _ [some (.ref (43 + 3)), some (.int x1)] [.ref (43 + 3)] _ _ from ?_)
    refine zy_1r (c := 43) rfl rfl rfl (show zyR _ _ _ _ [some (.ref (43 + 3)), some (.int x1)] [.ref (59 + 3)] _ _ from ?_)
    refine zy_0 rfl rfl (show zyR _ _ _ _ [some (.ref (43 + 3)), some (.int x1)] [.ref (43 + 3), .ref (59 + 3)] _ _ from ?_)
    refine zy_1 (c := 43) rfl rfl rfl (show zyR _ _ _ _ [some (.ref (43 + 3)), some (.int x1)] [.int (s.1 43 31), .ref (59 + 3)] _ _ from ?_)
    refine zy_2 rfl rfl (show zyR _ _ _ _ [some (.ref (43 + 3)), some (.int x1)] [.int x1, .int (s.1 43 31), .ref (59 + 3)] _ _ from ?_)
    obtain ⟨c1, h⟩ := zy_if h
    refine zy_27 (c := 59) rfl rfl c1 (show zyR _ _ _ _ [some (.ref (43 + 3)), some (.int x1)] [] _ _ from ?_)
    exact zy_sub (show zy_le [some (.ref (43 + 3)), none] [some (.ref (43 + 3)), some (.int x1)] from ⟨rfl, trivial⟩) (zyC251_19 h)
end
section
/-! PART 41.30: methods as functions. Made by wip/v4/dcp.py. -/
/-! NineOpinionsModel.holdsAs(II)I, over what it calls -/
noncomputable def zyF250_16 (g250 : Int32 → Int32 → zy_S → Option (Int32 × zy_S))  (x2 : Int32) (s : zy_S) : Option (Int32 × zy_S) :=
(zyF251 (20 : Int32) s).bind fun p1 =>
(g250 (0 : Int32) x2 p1.2).bind fun p2 =>
some ((p2.1 + (3 : Int32)), p2.2)
theorem zyC250_16 {X : zx_X} {d : Nat} {g250 : Int32 → Int32 → zy_S → Option (Int32 × zy_S)}  (hd : 1 ≤ d) (hg250 : ∀ (x1 : Int32) (x2 : Int32) (s : zy_S) (r : Int32) (s' : zy_S), g250 x1 x2 s = some (r, s') → zyR X d 250 0 [some (.ref (43 + 3)), some (.int x1), some (.int x2)] [] s (zyE (some (.int r)) s'))  {x2 : Int32} {s : zy_S} {r : Int32} {s' : zy_S}  (h : zyF250_16 g250 x2 s = some (r, s')) : zyR X (d + 1) 250 16 [some (.ref (43 + 3)), none, some (.int x2)] [] s (zyE (some (.int r)) s') := by
  unfold zyF250_16 at h
  refine zy_0 rfl rfl (show zyR _ _ _ _ [some (.ref (43 + 3)), none, some (.int x2)] [.ref (43 + 3)] _ _ from ?_)
  refine zy_3 rfl rfl (show zyR _ _ _ _ [some (.ref (43 + 3)), none, some (.int x2)] [.int (20 : Int32), .ref (43 + 3)] _ _ from ?_)
  obtain ⟨p1, hp1, h⟩ := zy_bind h
  refine zy_5 (c := 43) (as := [.int (20 : Int32)]) (rest := []) (L := [some (.ref (43 + 3)), some (.int (20 : Int32))]) (d' := 1) rfl rfl rfl (Nat.le_of_ble_eq_true rfl) (by omega) rfl (Nat.le_of_ble_eq_true rfl) rfl rfl (zyC251 hp1) ?_
  show zyR _ _ _ _ [some (.ref (43 + 3)), none, some (.int x2)] [] _ _
  refine zy_0 rfl rfl (show zyR _ _ _ _ [some (.ref (43 + 3)), none, some (.int x2)] [.ref (43 + 3)] _ _ from ?_)
  refine zy_3 rfl rfl (show zyR _ _ _ _ [some (.ref (43 + 3)), none, some (.int x2)] [.int (0 : Int32), .ref (43 + 3)] _ _ from ?_)
  refine zy_2 rfl rfl (show zyR _ _ _ _ [some (.ref (43 + 3)), none, some (.int x2)] [.int x2, .int (0 : Int32), .ref (43 + 3)] _ _ from ?_)
  obtain ⟨p2, hp2, h⟩ := zy_bind h
  refine zy_5 (c := 43) (as := [.int (0 : Int32), .int x2]) (rest := []) (L := [some (.ref (43 + 3)), some (.int (0 : Int32)), some (.int x2)]) (d' := d) rfl rfl rfl (Nat.le_of_ble_eq_true rfl) (by omega) rfl (Nat.le_of_ble_eq_true rfl) rfl rfl (hg250 (0 : Int32) x2 p1.2 _ _ hp2) ?_
  show zyR _ _ _ _ [some (.ref (43 + 3)), none, some (.int x2)] [.int p2.1] _ _
  refine zy_3 rfl rfl (show zyR _ _ _ _ [some (.ref (43 + 3)), none, some (.int x2)] [.int (3 : Int32), .int p2.1] _ _ from ?_)
  refine zy_10 rfl (show zyR _ _ _ _ [some (.ref (43 + 3)), none, some (.int x2)] [.int (p2.1 + (3 : Int32))] _ _ from ?_)
  obtain ⟨rfl, rfl⟩ := zy_pi h
  exact zy_4 rfl ⟨rfl, rfl⟩
noncomputable def zyF250_0 (g250 : Int32 → Int32 → zy_S → Option (Int32 × zy_S))  (x1 : Int32) (x2 : Int32) (s : zy_S) : Option (Int32 × zy_S) :=
if x1 = (1 : Int32) then
zyF250_16 g250 x2 s
else
if x1 = (4 : Int32) then
zyF250_16 g250 x2 s
else
if x1 ≠ (7 : Int32) then
if x1 ≠ (6 : Int32) then
(zyF251 (1 : Int32) s).bind fun p3 =>
some ((x2 + (p3.2.1 43 33)), p3.2)
else
(zyF251 (70 : Int32) s).bind fun p4 =>
(g250 (0 : Int32) x2 p4.2).bind fun p5 =>
some ((p5.1 * (2 : Int32)), p5.2)
else
zyF250_16 g250 x2 s
theorem zyC250_0 {X : zx_X} {d : Nat} {g250 : Int32 → Int32 → zy_S → Option (Int32 × zy_S)}  (hd : 1 ≤ d) (hg250 : ∀ (x1 : Int32) (x2 : Int32) (s : zy_S) (r : Int32) (s' : zy_S), g250 x1 x2 s = some (r, s') → zyR X d 250 0 [some (.ref (43 + 3)), some (.int x1), some (.int x2)] [] s (zyE (some (.int r)) s'))  {x1 : Int32} {x2 : Int32} {s : zy_S} {r : Int32} {s' : zy_S}  (h : zyF250_0 g250 x1 x2 s = some (r, s')) : zyR X (d + 1) 250 0 [some (.ref (43 + 3)), some (.int x1), some (.int x2)] [] s (zyE (some (.int r)) s') := by
  unfold zyF250_0 at h
  refine zy_2 rfl rfl (show zyR _ _ _ _ [some (.ref (43 + 3)), some (.int x1), some (.int x2)] [.int x1] _ _ from ?_)
  refine zy_3 rfl rfl (show zyR _ _ _ _ [some (.ref (43 + 3)), some (.int x1), some (.int x2)] [.int (1 : Int32), .int x1] _ _ from ?_)
  refine zy_25_0 rfl (fun b9 => (show zyR _ _ _ _ [some (.ref (43 + 3)), some (.int x1), some (.int x2)] [] _ _ from ?_)) (fun b9 => (show zyR _ _ _ _ [some (.ref (43 + 3)), some (.int x1), some (.int x2)] [] _ _ from ?_))
  · replace h := zy_ifp h b9
    exact zy_sub (show zy_le [some (.ref (43 + 3)), none, some (.int x2)] [some (.ref (43 + 3)), some (.int x1), some (.int x2)] from ⟨rfl, ⟨rfl, trivial⟩⟩) (zyC250_16 hd hg250 h)
  · replace h := zy_ifn h b9
    refine zy_2 rfl rfl (show zyR _ _ _ _ [some (.ref (43 + 3)), some (.int x1), some (.int x2)] [.int x1] _ _ from ?_)
    refine zy_3 rfl rfl (show zyR _ _ _ _ [some (.ref (43 + 3)), some (.int x1), some (.int x2)] [.int (4 : Int32), .int x1] _ _ from ?_)
    refine zy_25_0 rfl (fun b8 => (show zyR _ _ _ _ [some (.ref (43 + 3)), some (.int x1), some (.int x2)] [] _ _ from ?_)) (fun b8 => (show zyR _ _ _ _ [some (.ref (43 + 3)), some (.int x1), some (.int x2)] [] _ _ from ?_))
    · replace h := zy_ifp h b8
      exact zy_sub (show zy_le [some (.ref (43 + 3)), none, some (.int x2)] [some (.ref (43 + 3)), some (.int x1), some (.int x2)] from ⟨rfl, ⟨rfl, trivial⟩⟩) (zyC250_16 hd hg250 h)
    · replace h := zy_ifn h b8
      refine zy_2 rfl rfl (show zyR _ _ _ _ [some (.ref (43 + 3)), some (.int x1), some (.int x2)] [.int x1] _ _ from ?_)
      refine zy_3 rfl rfl (show zyR _ _ _ _ [some (.ref (43 + 3)), some (.int x1), some (.int x2)] [.int (7 : Int32), .int x1] _ _ from ?_)
      refine zy_25_1 rfl (fun b7 => (show zyR _ _ _ _ [some (.ref (43 + 3)), some (.int x1), some (.int x2)] [] _ _ from ?_)) (fun b7 => (show zyR _ _ _ _ [some (.ref (43 + 3)), some (.int x1), some (.int x2)] [] _ _ from ?_))
      · replace h := zy_ifp h b7
        refine zy_2 rfl rfl (show zyR _ _ _ _ [some (.ref (43 + 3)), some (.int x1), some (.int x2)] [.int x1] _ _ from ?_)
        refine zy_3 rfl rfl (show zyR _ _ _ _ [some (.ref (43 + 3)), some (.int x1), some (.int x2)] [.int (6 : Int32), .int x1] _ _ from ?_)
        refine zy_25_1 rfl (fun b6 => (show zyR _ _ _ _ [some (.ref (43 + 3)), some (.int x1), some (.int x2)] [] _ _ from ?_)) (fun b6 => (show zyR _ _ _ _ [some (.ref (43 + 3)), some (.int x1), some (.int x2)] [] _ _ from ?_))
        · replace h := zy_ifp h b6
          refine zy_0 rfl rfl (show zyR _ _ _ _ [some (.ref (43 + 3)), some (.int x1), some (.int x2)] [.ref (43 + 3)] _ _ from ?_)
          refine zy_3 rfl rfl (show zyR _ _ _ _ [some (.ref (43 + 3)), some (.int x1), some (.int x2)] [.int (1 : Int32), .ref (43 + 3)] _ _ from ?_)
          obtain ⟨p3, hp3, h⟩ := zy_bind h
          refine zy_5 (c := 43) (as := [.int (1 : Int32)]) (rest := []) (L := [some (.ref (43 + 3)), some (.int (1 : Int32))]) (d' := 1) rfl rfl rfl (Nat.le_of_ble_eq_true rfl) (by omega) rfl (Nat.le_of_ble_eq_true rfl) rfl rfl (zyC251 hp3) ?_
          show zyR _ _ _ _ [some (.ref (43 + 3)), some (.int x1), some (.int x2)] [] _ _
          refine zy_2 rfl rfl (show zyR _ _ _ _ [some (.ref (43 + 3)), some (.int x1), some (.int x2)] [.int x2] _ _ from ?_)
          refine zy_0 rfl rfl (show zyR _ _ _ _ [some (.ref (43 + 3)), some (.int x1), some (.int x2)] [.ref (43 + 3), .int x2] _ _ from ?_)
          refine zy_1 (c := 43) rfl rfl rfl (show zyR _ _ _ _ [some (.ref (43 + 3)), some (.int x1), some (.int x2)] [.int (p3.2.1 43 33), .int x2] _ _ from ?_)
          refine zy_10 rfl (show zyR _ _ _ _ [some (.ref (43 + 3)), some (.int x1), some (.int x2)] [.int (x2 + (p3.2.1 43 33))] _ _ from ?_)
          obtain ⟨rfl, rfl⟩ := zy_pi h
          exact zy_4 rfl ⟨rfl, rfl⟩
        · replace h := zy_ifn h b6
          refine zy_0 rfl rfl (show zyR _ _ _ _ [some (.ref (43 + 3)), some (.int x1), some (.int x2)] [.ref (43 + 3)] _ _ from ?_)
          refine zy_3 rfl rfl (show zyR _ _ _ _ [some (.ref (43 + 3)), some (.int x1), some (.int x2)] [.int (70 : Int32), .ref (43 + 3)] _ _ from ?_)
          obtain ⟨p4, hp4, h⟩ := zy_bind h
          refine zy_5 (c := 43) (as := [.int (70 : Int32)]) (rest := []) (L := [some (.ref (43 + 3)), some (.int (70 : Int32))]) (d' := 1) rfl rfl rfl (Nat.le_of_ble_eq_true rfl) (by omega) rfl (Nat.le_of_ble_eq_true rfl) rfl rfl (zyC251 hp4) ?_
          show zyR _ _ _ _ [some (.ref (43 + 3)), some (.int x1), some (.int x2)] [] _ _
          refine zy_0 rfl rfl (show zyR _ _ _ _ [some (.ref (43 + 3)), some (.int x1), some (.int x2)] [.ref (43 + 3)] _ _ from ?_)
          refine zy_3 rfl rfl (show zyR _ _ _ _ [some (.ref (43 + 3)), some (.int x1), some (.int x2)] [.int (0 : Int32), .ref (43 + 3)] _ _ from ?_)
          refine zy_2 rfl rfl (show zyR _ _ _ _ [some (.ref (43 + 3)), some (.int x1), some (.int x2)] [.int x2, .int (0 : Int32), .ref (43 + 3)] _ _ from ?_)
          obtain ⟨p5, hp5, h⟩ := zy_bind h
          refine zy_5 (c := 43) (as := [.int (0 : Int32), .int x2]) (rest := []) (L := [some (.ref (43 + 3)), some (.int (0 : Int32)), some (.int x2)]) (d' := d) rfl rfl rfl (Nat.le_of_ble_eq_true rfl) (by omega) rfl (Nat.le_of_ble_eq_true rfl) rfl rfl (hg250 (0 : Int32) x2 p4.2 _ _ hp5) ?_
          show zyR _ _ _ _ [some (.ref (43 + 3)), some (.int x1), some (.int x2)] [.int p5.1] _ _
          refine zy_3 rfl rfl (show zyR _ _ _ _ [some (.ref (43 + 3)), some (.int x1), some (.int x2)] [.int (2 : Int32), .int p5.1] _ _ from ?_)
          refine zy_12 rfl (show zyR _ _ _ _ [some (.ref (43 + 3)), some (.int x1), some (.int x2)] [.int (p5.1 * (2 : Int32))] _ _ from ?_)
          obtain ⟨rfl, rfl⟩ := zy_pi h
          exact zy_4 rfl ⟨rfl, rfl⟩
      · replace h := zy_ifn h b7
        exact zy_sub (show zy_le [some (.ref (43 + 3)), none, some (.int x2)] [some (.ref (43 + 3)), some (.int x1), some (.int x2)] from ⟨rfl, ⟨rfl, trivial⟩⟩) (zyC250_16 hd hg250 h)
noncomputable def zyG250 (n : Nat) : (Int32 → Int32 → zy_S → Option (Int32 × zy_S)) := Nat.rec (fun _ _ _ => none) (fun _ g => (fun x1 x2 s => zyF250_0 g x1 x2 s)) n
theorem zyG250_s (n : Nat) : zyG250 (n + 1) = (fun x1 x2 s => zyF250_0 (zyG250 n) x1 x2 s) := rfl
theorem zyS250 (n : Nat) (x1 : Int32) (x2 : Int32) (s : zy_S) : (zyG250 (n + 1)) x1 x2 s = zyF250_0 (zyG250 n) x1 x2 s := by
  rw [zyG250_s]
theorem zyG250_ok {X : zx_X} : ∀ n : Nat, (∀ (x1 : Int32) (x2 : Int32) (s : zy_S) (r : Int32) (s' : zy_S), (zyG250 n) x1 x2 s = some (r, s') → zyR X (1 + n) 250 0 [some (.ref (43 + 3)), some (.int x1), some (.int x2)] [] s (zyE (some (.int r)) s'))
  | 0 => by
    · intro x1 x2 s r s'  h
      have h : (none : Option (Int32 × zy_S)) = some (r, s') := h
      cases h
  | n + 1 => by
    obtain i0 := zyG250_ok (X := X) n
    · intro x1 x2 s r s'  h
      rw [zyS250] at h
      exact zy_sub (show zy_le [some (.ref (43 + 3)), some (.int x1), some (.int x2)] [some (.ref (43 + 3)), some (.int x1), some (.int x2)] from ⟨rfl, ⟨rfl, ⟨rfl, trivial⟩⟩⟩) (zyC250_0 (d := 1 + n) (g250 := (zyG250 n)) (by omega) i0  h)
noncomputable def zyF250 : Int32 → Int32 → zy_S → Option (Int32 × zy_S) := (zyG250 100)
theorem zyC250 {X : zx_X} {x1 : Int32} {x2 : Int32} {s : zy_S} {r : Int32} {s' : zy_S}  (h : zyF250 x1 x2 s = some (r, s')) : zyR X 101 250 0 [some (.ref (43 + 3)), some (.int x1), some (.int x2)] [] s (zyE (some (.int r)) s') := (zyG250_ok (X := X) 100) x1 x2 s r s'  h
/-! NineOpinionsModel.tradesAs(II)I, over what it calls -/
noncomputable def zyF253_36 (g253 : Int32 → Int32 → zy_S → Option (Int32 × zy_S))  (x2 : Int32) (s : zy_S) : Option (Int32 × zy_S) :=
(zyF251 (50 : Int32) s).bind fun p1 =>
(g253 (1 : Int32) x2 p1.2).bind fun p2 =>
(zyF250 (p2.2.1 43 32) (2 : Int32) p2.2).bind fun p3 =>
some ((p2.1 - p3.1), p3.2)
theorem zyC253_36 {X : zx_X} {d : Nat} {g253 : Int32 → Int32 → zy_S → Option (Int32 × zy_S)}  (hd : 101 ≤ d) (hg253 : ∀ (x1 : Int32) (x2 : Int32) (s : zy_S) (r : Int32) (s' : zy_S), g253 x1 x2 s = some (r, s') → zyR X d 253 0 [some (.ref (43 + 3)), some (.int x1), some (.int x2), none] [] s (zyE (some (.int r)) s'))  {x2 : Int32} {s : zy_S} {r : Int32} {s' : zy_S}  (h : zyF253_36 g253 x2 s = some (r, s')) : zyR X (d + 1) 253 36 [some (.ref (43 + 3)), none, some (.int x2), none] [] s (zyE (some (.int r)) s') := by
  unfold zyF253_36 at h
  refine zy_0 rfl rfl (show zyR _ _ _ _ [some (.ref (43 + 3)), none, some (.int x2), none] [.ref (43 + 3)] _ _ from ?_)
  refine zy_3 rfl rfl (show zyR _ _ _ _ [some (.ref (43 + 3)), none, some (.int x2), none] [.int (50 : Int32), .ref (43 + 3)] _ _ from ?_)
  obtain ⟨p1, hp1, h⟩ := zy_bind h
  refine zy_5 (c := 43) (as := [.int (50 : Int32)]) (rest := []) (L := [some (.ref (43 + 3)), some (.int (50 : Int32))]) (d' := 1) rfl rfl rfl (Nat.le_of_ble_eq_true rfl) (by omega) rfl (Nat.le_of_ble_eq_true rfl) rfl rfl (zyC251 hp1) ?_
  show zyR _ _ _ _ [some (.ref (43 + 3)), none, some (.int x2), none] [] _ _
  refine zy_0 rfl rfl (show zyR _ _ _ _ [some (.ref (43 + 3)), none, some (.int x2), none] [.ref (43 + 3)] _ _ from ?_)
  refine zy_3 rfl rfl (show zyR _ _ _ _ [some (.ref (43 + 3)), none, some (.int x2), none] [.int (1 : Int32), .ref (43 + 3)] _ _ from ?_)
  refine zy_2 rfl rfl (show zyR _ _ _ _ [some (.ref (43 + 3)), none, some (.int x2), none] [.int x2, .int (1 : Int32), .ref (43 + 3)] _ _ from ?_)
  obtain ⟨p2, hp2, h⟩ := zy_bind h
  refine zy_5 (c := 43) (as := [.int (1 : Int32), .int x2]) (rest := []) (L := [some (.ref (43 + 3)), some (.int (1 : Int32)), some (.int x2), none]) (d' := d) rfl rfl rfl (Nat.le_of_ble_eq_true rfl) (by omega) rfl (Nat.le_of_ble_eq_true rfl) rfl rfl (hg253 (1 : Int32) x2 p1.2 _ _ hp2) ?_
  show zyR _ _ _ _ [some (.ref (43 + 3)), none, some (.int x2), none] [.int p2.1] _ _
  refine zy_23 rfl rfl (show zyR _ _ _ _ [some (.ref (43 + 3)), none, some (.int x2), some (.int p2.1)] [] _ _ from ?_)
  refine zy_2 rfl rfl (show zyR _ _ _ _ [some (.ref (43 + 3)), none, some (.int x2), some (.int p2.1)] [.int p2.1] _ _ from ?_)
  refine zy_0 rfl rfl (show zyR _ _ _ _ [some (.ref (43 + 3)), none, some (.int x2), some (.int p2.1)] [.ref (43 + 3), .int p2.1] _ _ from ?_)
  refine zy_0 rfl rfl (show zyR _ _ _ _ [some (.ref (43 + 3)), none, some (.int x2), some (.int p2.1)] [.ref (43 + 3), .ref (43 + 3), .int p2.1] _ _ from ?_)
  refine zy_1 (c := 43) rfl rfl rfl (show zyR _ _ _ _ [some (.ref (43 + 3)), none, some (.int x2), some (.int p2.1)] [.int (p2.2.1 43 32), .ref (43 + 3), .int p2.1] _ _ from ?_)
  refine zy_3 rfl rfl (show zyR _ _ _ _ [some (.ref (43 + 3)), none, some (.int x2), some (.int p2.1)] [.int (2 : Int32), .int (p2.2.1 43 32), .ref (43 + 3), .int p2.1] _ _ from ?_)
  obtain ⟨p3, hp3, h⟩ := zy_bind h
  refine zy_5 (c := 43) (as := [.int (p2.2.1 43 32), .int (2 : Int32)]) (rest := [.int p2.1]) (L := [some (.ref (43 + 3)), some (.int (p2.2.1 43 32)), some (.int (2 : Int32))]) (d' := 101) rfl rfl rfl (Nat.le_of_ble_eq_true rfl) (by omega) rfl (Nat.le_of_ble_eq_true rfl) rfl rfl (zyC250 hp3) ?_
  show zyR _ _ _ _ [some (.ref (43 + 3)), none, some (.int x2), some (.int p2.1)] [.int p3.1, .int p2.1] _ _
  refine zy_11 rfl (show zyR _ _ _ _ [some (.ref (43 + 3)), none, some (.int x2), some (.int p2.1)] [.int (p2.1 - p3.1)] _ _ from ?_)
  obtain ⟨rfl, rfl⟩ := zy_pi h
  exact zy_4 rfl ⟨rfl, rfl⟩
noncomputable def zyF253_10 (g253 : Int32 → Int32 → zy_S → Option (Int32 × zy_S))  (x2 : Int32) (s : zy_S) : Option (Int32 × zy_S) :=
(zyF251 (40 : Int32) s).bind fun p4 =>
(g253 (2 : Int32) x2 p4.2).bind fun p5 =>
some ((p5.1 * (3 : Int32)), p5.2)
theorem zyC253_10 {X : zx_X} {d : Nat} {g253 : Int32 → Int32 → zy_S → Option (Int32 × zy_S)}  (hd : 101 ≤ d) (hg253 : ∀ (x1 : Int32) (x2 : Int32) (s : zy_S) (r : Int32) (s' : zy_S), g253 x1 x2 s = some (r, s') → zyR X d 253 0 [some (.ref (43 + 3)), some (.int x1), some (.int x2), none] [] s (zyE (some (.int r)) s'))  {x2 : Int32} {s : zy_S} {r : Int32} {s' : zy_S}  (h : zyF253_10 g253 x2 s = some (r, s')) : zyR X (d + 1) 253 10 [some (.ref (43 + 3)), none, some (.int x2), none] [] s (zyE (some (.int r)) s') := by
  unfold zyF253_10 at h
  refine zy_0 rfl rfl (show zyR _ _ _ _ [some (.ref (43 + 3)), none, some (.int x2), none] [.ref (43 + 3)] _ _ from ?_)
  refine zy_3 rfl rfl (show zyR _ _ _ _ [some (.ref (43 + 3)), none, some (.int x2), none] [.int (40 : Int32), .ref (43 + 3)] _ _ from ?_)
  obtain ⟨p4, hp4, h⟩ := zy_bind h
  refine zy_5 (c := 43) (as := [.int (40 : Int32)]) (rest := []) (L := [some (.ref (43 + 3)), some (.int (40 : Int32))]) (d' := 1) rfl rfl rfl (Nat.le_of_ble_eq_true rfl) (by omega) rfl (Nat.le_of_ble_eq_true rfl) rfl rfl (zyC251 hp4) ?_
  show zyR _ _ _ _ [some (.ref (43 + 3)), none, some (.int x2), none] [] _ _
  refine zy_0 rfl rfl (show zyR _ _ _ _ [some (.ref (43 + 3)), none, some (.int x2), none] [.ref (43 + 3)] _ _ from ?_)
  refine zy_3 rfl rfl (show zyR _ _ _ _ [some (.ref (43 + 3)), none, some (.int x2), none] [.int (2 : Int32), .ref (43 + 3)] _ _ from ?_)
  refine zy_2 rfl rfl (show zyR _ _ _ _ [some (.ref (43 + 3)), none, some (.int x2), none] [.int x2, .int (2 : Int32), .ref (43 + 3)] _ _ from ?_)
  obtain ⟨p5, hp5, h⟩ := zy_bind h
  refine zy_5 (c := 43) (as := [.int (2 : Int32), .int x2]) (rest := []) (L := [some (.ref (43 + 3)), some (.int (2 : Int32)), some (.int x2), none]) (d' := d) rfl rfl rfl (Nat.le_of_ble_eq_true rfl) (by omega) rfl (Nat.le_of_ble_eq_true rfl) rfl rfl (hg253 (2 : Int32) x2 p4.2 _ _ hp5) ?_
  show zyR _ _ _ _ [some (.ref (43 + 3)), none, some (.int x2), none] [.int p5.1] _ _
  refine zy_3 rfl rfl (show zyR _ _ _ _ [some (.ref (43 + 3)), none, some (.int x2), none] [.int (3 : Int32), .int p5.1] _ _ from ?_)
  refine zy_12 rfl (show zyR _ _ _ _ [some (.ref (43 + 3)), none, some (.int x2), none] [.int (p5.1 * (3 : Int32))] _ _ from ?_)
  obtain ⟨rfl, rfl⟩ := zy_pi h
  exact zy_4 rfl ⟨rfl, rfl⟩
noncomputable def zyF253_0 (g253 : Int32 → Int32 → zy_S → Option (Int32 × zy_S))  (x1 : Int32) (x2 : Int32) (s : zy_S) : Option (Int32 × zy_S) :=
if x1 = (3 : Int32) then
zyF253_10 g253 x2 s
else
if x1 ≠ (5 : Int32) then
if x1 = (4 : Int32) then
zyF253_36 g253 x2 s
else
if x1 ≠ (7 : Int32) then
(zyF251 (11 : Int32) s).bind fun p6 =>
some ((x2 ^^^ (p6.2.1 43 33)), p6.2)
else
zyF253_36 g253 x2 s
else
zyF253_10 g253 x2 s
theorem zyC253_0 {X : zx_X} {d : Nat} {g253 : Int32 → Int32 → zy_S → Option (Int32 × zy_S)}  (hd : 101 ≤ d) (hg253 : ∀ (x1 : Int32) (x2 : Int32) (s : zy_S) (r : Int32) (s' : zy_S), g253 x1 x2 s = some (r, s') → zyR X d 253 0 [some (.ref (43 + 3)), some (.int x1), some (.int x2), none] [] s (zyE (some (.int r)) s'))  {x1 : Int32} {x2 : Int32} {s : zy_S} {r : Int32} {s' : zy_S}  (h : zyF253_0 g253 x1 x2 s = some (r, s')) : zyR X (d + 1) 253 0 [some (.ref (43 + 3)), some (.int x1), some (.int x2), none] [] s (zyE (some (.int r)) s') := by
  unfold zyF253_0 at h
  refine zy_2 rfl rfl (show zyR _ _ _ _ [some (.ref (43 + 3)), some (.int x1), some (.int x2), none] [.int x1] _ _ from ?_)
  refine zy_3 rfl rfl (show zyR _ _ _ _ [some (.ref (43 + 3)), some (.int x1), some (.int x2), none] [.int (3 : Int32), .int x1] _ _ from ?_)
  refine zy_25_0 rfl (fun b10 => (show zyR _ _ _ _ [some (.ref (43 + 3)), some (.int x1), some (.int x2), none] [] _ _ from ?_)) (fun b10 => (show zyR _ _ _ _ [some (.ref (43 + 3)), some (.int x1), some (.int x2), none] [] _ _ from ?_))
  · replace h := zy_ifp h b10
    exact zy_sub (show zy_le [some (.ref (43 + 3)), none, some (.int x2), none] [some (.ref (43 + 3)), some (.int x1), some (.int x2), none] from ⟨rfl, ⟨rfl, trivial⟩⟩) (zyC253_10 hd hg253 h)
  · replace h := zy_ifn h b10
    refine zy_2 rfl rfl (show zyR _ _ _ _ [some (.ref (43 + 3)), some (.int x1), some (.int x2), none] [.int x1] _ _ from ?_)
    refine zy_3 rfl rfl (show zyR _ _ _ _ [some (.ref (43 + 3)), some (.int x1), some (.int x2), none] [.int (5 : Int32), .int x1] _ _ from ?_)
    refine zy_25_1 rfl (fun b9 => (show zyR _ _ _ _ [some (.ref (43 + 3)), some (.int x1), some (.int x2), none] [] _ _ from ?_)) (fun b9 => (show zyR _ _ _ _ [some (.ref (43 + 3)), some (.int x1), some (.int x2), none] [] _ _ from ?_))
    · replace h := zy_ifp h b9
      refine zy_2 rfl rfl (show zyR _ _ _ _ [some (.ref (43 + 3)), some (.int x1), some (.int x2), none] [.int x1] _ _ from ?_)
      refine zy_3 rfl rfl (show zyR _ _ _ _ [some (.ref (43 + 3)), some (.int x1), some (.int x2), none] [.int (4 : Int32), .int x1] _ _ from ?_)
      refine zy_25_0 rfl (fun b8 => (show zyR _ _ _ _ [some (.ref (43 + 3)), some (.int x1), some (.int x2), none] [] _ _ from ?_)) (fun b8 => (show zyR _ _ _ _ [some (.ref (43 + 3)), some (.int x1), some (.int x2), none] [] _ _ from ?_))
      · replace h := zy_ifp h b8
        exact zy_sub (show zy_le [some (.ref (43 + 3)), none, some (.int x2), none] [some (.ref (43 + 3)), some (.int x1), some (.int x2), none] from ⟨rfl, ⟨rfl, trivial⟩⟩) (zyC253_36 hd hg253 h)
      · replace h := zy_ifn h b8
        refine zy_2 rfl rfl (show zyR _ _ _ _ [some (.ref (43 + 3)), some (.int x1), some (.int x2), none] [.int x1] _ _ from ?_)
        refine zy_3 rfl rfl (show zyR _ _ _ _ [some (.ref (43 + 3)), some (.int x1), some (.int x2), none] [.int (7 : Int32), .int x1] _ _ from ?_)
        refine zy_25_1 rfl (fun b7 => (show zyR _ _ _ _ [some (.ref (43 + 3)), some (.int x1), some (.int x2), none] [] _ _ from ?_)) (fun b7 => (show zyR _ _ _ _ [some (.ref (43 + 3)), some (.int x1), some (.int x2), none] [] _ _ from ?_))
        · replace h := zy_ifp h b7
          refine zy_0 rfl rfl (show zyR _ _ _ _ [some (.ref (43 + 3)), some (.int x1), some (.int x2), none] [.ref (43 + 3)] _ _ from ?_)
          refine zy_3 rfl rfl (show zyR _ _ _ _ [some (.ref (43 + 3)), some (.int x1), some (.int x2), none] [.int (11 : Int32), .ref (43 + 3)] _ _ from ?_)
          obtain ⟨p6, hp6, h⟩ := zy_bind h
          refine zy_5 (c := 43) (as := [.int (11 : Int32)]) (rest := []) (L := [some (.ref (43 + 3)), some (.int (11 : Int32))]) (d' := 1) rfl rfl rfl (Nat.le_of_ble_eq_true rfl) (by omega) rfl (Nat.le_of_ble_eq_true rfl) rfl rfl (zyC251 hp6) ?_
          show zyR _ _ _ _ [some (.ref (43 + 3)), some (.int x1), some (.int x2), none] [] _ _
          refine zy_2 rfl rfl (show zyR _ _ _ _ [some (.ref (43 + 3)), some (.int x1), some (.int x2), none] [.int x2] _ _ from ?_)
          refine zy_0 rfl rfl (show zyR _ _ _ _ [some (.ref (43 + 3)), some (.int x1), some (.int x2), none] [.ref (43 + 3), .int x2] _ _ from ?_)
          refine zy_1 (c := 43) rfl rfl rfl (show zyR _ _ _ _ [some (.ref (43 + 3)), some (.int x1), some (.int x2), none] [.int (p6.2.1 43 33), .int x2] _ _ from ?_)
          refine zy_15 rfl (show zyR _ _ _ _ [some (.ref (43 + 3)), some (.int x1), some (.int x2), none] [.int (x2 ^^^ (p6.2.1 43 33))] _ _ from ?_)
          obtain ⟨rfl, rfl⟩ := zy_pi h
          exact zy_4 rfl ⟨rfl, rfl⟩
        · replace h := zy_ifn h b7
          exact zy_sub (show zy_le [some (.ref (43 + 3)), none, some (.int x2), none] [some (.ref (43 + 3)), some (.int x1), some (.int x2), none] from ⟨rfl, ⟨rfl, trivial⟩⟩) (zyC253_36 hd hg253 h)
    · replace h := zy_ifn h b9
      exact zy_sub (show zy_le [some (.ref (43 + 3)), none, some (.int x2), none] [some (.ref (43 + 3)), some (.int x1), some (.int x2), none] from ⟨rfl, ⟨rfl, trivial⟩⟩) (zyC253_10 hd hg253 h)
noncomputable def zyG253 (n : Nat) : (Int32 → Int32 → zy_S → Option (Int32 × zy_S)) := Nat.rec (fun _ _ _ => none) (fun _ g => (fun x1 x2 s => zyF253_0 g x1 x2 s)) n
theorem zyG253_s (n : Nat) : zyG253 (n + 1) = (fun x1 x2 s => zyF253_0 (zyG253 n) x1 x2 s) := rfl
theorem zyS253 (n : Nat) (x1 : Int32) (x2 : Int32) (s : zy_S) : (zyG253 (n + 1)) x1 x2 s = zyF253_0 (zyG253 n) x1 x2 s := by
  rw [zyG253_s]
theorem zyG253_ok {X : zx_X} : ∀ n : Nat, (∀ (x1 : Int32) (x2 : Int32) (s : zy_S) (r : Int32) (s' : zy_S), (zyG253 n) x1 x2 s = some (r, s') → zyR X (101 + n) 253 0 [some (.ref (43 + 3)), some (.int x1), some (.int x2), none] [] s (zyE (some (.int r)) s'))
  | 0 => by
    · intro x1 x2 s r s'  h
      have h : (none : Option (Int32 × zy_S)) = some (r, s') := h
      cases h
  | n + 1 => by
    obtain i0 := zyG253_ok (X := X) n
    · intro x1 x2 s r s'  h
      rw [zyS253] at h
      exact zy_sub (show zy_le [some (.ref (43 + 3)), some (.int x1), some (.int x2), none] [some (.ref (43 + 3)), some (.int x1), some (.int x2), none] from ⟨rfl, ⟨rfl, ⟨rfl, trivial⟩⟩⟩) (zyC253_0 (d := 101 + n) (g253 := (zyG253 n)) (by omega) i0  h)
noncomputable def zyF253 : Int32 → Int32 → zy_S → Option (Int32 × zy_S) := (zyG253 100)
theorem zyC253 {X : zx_X} {x1 : Int32} {x2 : Int32} {s : zy_S} {r : Int32} {s' : zy_S}  (h : zyF253 x1 x2 s = some (r, s')) : zyR X 201 253 0 [some (.ref (43 + 3)), some (.int x1), some (.int x2), none] [] s (zyE (some (.int r)) s') := (zyG253_ok (X := X) 100) x1 x2 s r s'  h
/-! NineOpinionsModel.mindsAs(II)I, over what it calls -/
noncomputable def zyF252_10 (g252 : Int32 → Int32 → zy_S → Option (Int32 × zy_S))  (x2 : Int32) (s : zy_S) : Option (Int32 × zy_S) :=
(zyF251 (41 : Int32) s).bind fun p1 =>
(g252 (2 : Int32) (x2 + (1 : Int32)) p1.2).bind fun p2 =>
some (p2.1, p2.2)
theorem zyC252_10 {X : zx_X} {d : Nat} {g252 : Int32 → Int32 → zy_S → Option (Int32 × zy_S)}  (hd : 201 ≤ d) (hg252 : ∀ (x1 : Int32) (x2 : Int32) (s : zy_S) (r : Int32) (s' : zy_S), g252 x1 x2 s = some (r, s') → zyR X d 252 0 [some (.ref (43 + 3)), some (.int x1), some (.int x2), none] [] s (zyE (some (.int r)) s'))  {x2 : Int32} {s : zy_S} {r : Int32} {s' : zy_S}  (h : zyF252_10 g252 x2 s = some (r, s')) : zyR X (d + 1) 252 10 [some (.ref (43 + 3)), none, some (.int x2), none] [] s (zyE (some (.int r)) s') := by
  unfold zyF252_10 at h
  refine zy_0 rfl rfl (show zyR _ _ _ _ [some (.ref (43 + 3)), none, some (.int x2), none] [.ref (43 + 3)] _ _ from ?_)
  refine zy_3 rfl rfl (show zyR _ _ _ _ [some (.ref (43 + 3)), none, some (.int x2), none] [.int (41 : Int32), .ref (43 + 3)] _ _ from ?_)
  obtain ⟨p1, hp1, h⟩ := zy_bind h
  refine zy_5 (c := 43) (as := [.int (41 : Int32)]) (rest := []) (L := [some (.ref (43 + 3)), some (.int (41 : Int32))]) (d' := 1) rfl rfl rfl (Nat.le_of_ble_eq_true rfl) (by omega) rfl (Nat.le_of_ble_eq_true rfl) rfl rfl (zyC251 hp1) ?_
  show zyR _ _ _ _ [some (.ref (43 + 3)), none, some (.int x2), none] [] _ _
  refine zy_0 rfl rfl (show zyR _ _ _ _ [some (.ref (43 + 3)), none, some (.int x2), none] [.ref (43 + 3)] _ _ from ?_)
  refine zy_3 rfl rfl (show zyR _ _ _ _ [some (.ref (43 + 3)), none, some (.int x2), none] [.int (2 : Int32), .ref (43 + 3)] _ _ from ?_)
  refine zy_2 rfl rfl (show zyR _ _ _ _ [some (.ref (43 + 3)), none, some (.int x2), none] [.int x2, .int (2 : Int32), .ref (43 + 3)] _ _ from ?_)
  refine zy_3 rfl rfl (show zyR _ _ _ _ [some (.ref (43 + 3)), none, some (.int x2), none] [.int (1 : Int32), .int x2, .int (2 : Int32), .ref (43 + 3)] _ _ from ?_)
  refine zy_10 rfl (show zyR _ _ _ _ [some (.ref (43 + 3)), none, some (.int x2), none] [.int (x2 + (1 : Int32)), .int (2 : Int32), .ref (43 + 3)] _ _ from ?_)
  obtain ⟨p2, hp2, h⟩ := zy_bind h
  refine zy_5 (c := 43) (as := [.int (2 : Int32), .int (x2 + (1 : Int32))]) (rest := []) (L := [some (.ref (43 + 3)), some (.int (2 : Int32)), some (.int (x2 + (1 : Int32))), none]) (d' := d) rfl rfl rfl (Nat.le_of_ble_eq_true rfl) (by omega) rfl (Nat.le_of_ble_eq_true rfl) rfl rfl (hg252 (2 : Int32) (x2 + (1 : Int32)) p1.2 _ _ hp2) ?_
  show zyR _ _ _ _ [some (.ref (43 + 3)), none, some (.int x2), none] [.int p2.1] _ _
  obtain ⟨rfl, rfl⟩ := zy_pi h
  exact zy_4 rfl ⟨rfl, rfl⟩
noncomputable def zyF252_0 (g252 : Int32 → Int32 → zy_S → Option (Int32 × zy_S))  (x1 : Int32) (x2 : Int32) (s : zy_S) : Option (Int32 × zy_S) :=
if x1 = (3 : Int32) then
zyF252_10 g252 x2 s
else
if x1 ≠ (5 : Int32) then
if x1 ≠ (2 : Int32) then
if x1 ≠ (7 : Int32) then
(zyF251 (10 : Int32) s).bind fun p3 =>
(zyF250 (p3.2.1 43 32) x2 p3.2).bind fun p4 =>
some ((p4.1 * (2 : Int32)), p4.2)
else
(zyF251 (80 : Int32) s).bind fun p5 =>
(g252 (4 : Int32) x2 p5.2).bind fun p6 =>
(zyF253 (p6.2.1 43 32) (2 : Int32) p6.2).bind fun p7 =>
some ((p6.1 + p7.1), p7.2)
else
(zyF251 (30 : Int32) s).bind fun p9 =>
(g252 (0 : Int32) x2 p9.2).bind fun p10 =>
some ((-p10.1), p10.2)
else
zyF252_10 g252 x2 s
theorem zyC252_0 {X : zx_X} {d : Nat} {g252 : Int32 → Int32 → zy_S → Option (Int32 × zy_S)}  (hd : 201 ≤ d) (hg252 : ∀ (x1 : Int32) (x2 : Int32) (s : zy_S) (r : Int32) (s' : zy_S), g252 x1 x2 s = some (r, s') → zyR X d 252 0 [some (.ref (43 + 3)), some (.int x1), some (.int x2), none] [] s (zyE (some (.int r)) s'))  {x1 : Int32} {x2 : Int32} {s : zy_S} {r : Int32} {s' : zy_S}  (h : zyF252_0 g252 x1 x2 s = some (r, s')) : zyR X (d + 1) 252 0 [some (.ref (43 + 3)), some (.int x1), some (.int x2), none] [] s (zyE (some (.int r)) s') := by
  unfold zyF252_0 at h
  refine zy_2 rfl rfl (show zyR _ _ _ _ [some (.ref (43 + 3)), some (.int x1), some (.int x2), none] [.int x1] _ _ from ?_)
  refine zy_3 rfl rfl (show zyR _ _ _ _ [some (.ref (43 + 3)), some (.int x1), some (.int x2), none] [.int (3 : Int32), .int x1] _ _ from ?_)
  refine zy_25_0 rfl (fun b13 => (show zyR _ _ _ _ [some (.ref (43 + 3)), some (.int x1), some (.int x2), none] [] _ _ from ?_)) (fun b13 => (show zyR _ _ _ _ [some (.ref (43 + 3)), some (.int x1), some (.int x2), none] [] _ _ from ?_))
  · replace h := zy_ifp h b13
    exact zy_sub (show zy_le [some (.ref (43 + 3)), none, some (.int x2), none] [some (.ref (43 + 3)), some (.int x1), some (.int x2), none] from ⟨rfl, ⟨rfl, trivial⟩⟩) (zyC252_10 hd hg252 h)
  · replace h := zy_ifn h b13
    refine zy_2 rfl rfl (show zyR _ _ _ _ [some (.ref (43 + 3)), some (.int x1), some (.int x2), none] [.int x1] _ _ from ?_)
    refine zy_3 rfl rfl (show zyR _ _ _ _ [some (.ref (43 + 3)), some (.int x1), some (.int x2), none] [.int (5 : Int32), .int x1] _ _ from ?_)
    refine zy_25_1 rfl (fun b12 => (show zyR _ _ _ _ [some (.ref (43 + 3)), some (.int x1), some (.int x2), none] [] _ _ from ?_)) (fun b12 => (show zyR _ _ _ _ [some (.ref (43 + 3)), some (.int x1), some (.int x2), none] [] _ _ from ?_))
    · replace h := zy_ifp h b12
      refine zy_2 rfl rfl (show zyR _ _ _ _ [some (.ref (43 + 3)), some (.int x1), some (.int x2), none] [.int x1] _ _ from ?_)
      refine zy_3 rfl rfl (show zyR _ _ _ _ [some (.ref (43 + 3)), some (.int x1), some (.int x2), none] [.int (2 : Int32), .int x1] _ _ from ?_)
      refine zy_25_1 rfl (fun b11 => (show zyR _ _ _ _ [some (.ref (43 + 3)), some (.int x1), some (.int x2), none] [] _ _ from ?_)) (fun b11 => (show zyR _ _ _ _ [some (.ref (43 + 3)), some (.int x1), some (.int x2), none] [] _ _ from ?_))
      · replace h := zy_ifp h b11
        refine zy_2 rfl rfl (show zyR _ _ _ _ [some (.ref (43 + 3)), some (.int x1), some (.int x2), none] [.int x1] _ _ from ?_)
        refine zy_3 rfl rfl (show zyR _ _ _ _ [some (.ref (43 + 3)), some (.int x1), some (.int x2), none] [.int (7 : Int32), .int x1] _ _ from ?_)
        refine zy_25_1 rfl (fun b8 => (show zyR _ _ _ _ [some (.ref (43 + 3)), some (.int x1), some (.int x2), none] [] _ _ from ?_)) (fun b8 => (show zyR _ _ _ _ [some (.ref (43 + 3)), some (.int x1), some (.int x2), none] [] _ _ from ?_))
        · replace h := zy_ifp h b8
          refine zy_0 rfl rfl (show zyR _ _ _ _ [some (.ref (43 + 3)), some (.int x1), some (.int x2), none] [.ref (43 + 3)] _ _ from ?_)
          refine zy_3 rfl rfl (show zyR _ _ _ _ [some (.ref (43 + 3)), some (.int x1), some (.int x2), none] [.int (10 : Int32), .ref (43 + 3)] _ _ from ?_)
          obtain ⟨p3, hp3, h⟩ := zy_bind h
          refine zy_5 (c := 43) (as := [.int (10 : Int32)]) (rest := []) (L := [some (.ref (43 + 3)), some (.int (10 : Int32))]) (d' := 1) rfl rfl rfl (Nat.le_of_ble_eq_true rfl) (by omega) rfl (Nat.le_of_ble_eq_true rfl) rfl rfl (zyC251 hp3) ?_
          show zyR _ _ _ _ [some (.ref (43 + 3)), some (.int x1), some (.int x2), none] [] _ _
          refine zy_0 rfl rfl (show zyR _ _ _ _ [some (.ref (43 + 3)), some (.int x1), some (.int x2), none] [.ref (43 + 3)] _ _ from ?_)
          refine zy_0 rfl rfl (show zyR _ _ _ _ [some (.ref (43 + 3)), some (.int x1), some (.int x2), none] [.ref (43 + 3), .ref (43 + 3)] _ _ from ?_)
          refine zy_1 (c := 43) rfl rfl rfl (show zyR _ _ _ _ [some (.ref (43 + 3)), some (.int x1), some (.int x2), none] [.int (p3.2.1 43 32), .ref (43 + 3)] _ _ from ?_)
          refine zy_2 rfl rfl (show zyR _ _ _ _ [some (.ref (43 + 3)), some (.int x1), some (.int x2), none] [.int x2, .int (p3.2.1 43 32), .ref (43 + 3)] _ _ from ?_)
          obtain ⟨p4, hp4, h⟩ := zy_bind h
          refine zy_5 (c := 43) (as := [.int (p3.2.1 43 32), .int x2]) (rest := []) (L := [some (.ref (43 + 3)), some (.int (p3.2.1 43 32)), some (.int x2)]) (d' := 101) rfl rfl rfl (Nat.le_of_ble_eq_true rfl) (by omega) rfl (Nat.le_of_ble_eq_true rfl) rfl rfl (zyC250 hp4) ?_
          show zyR _ _ _ _ [some (.ref (43 + 3)), some (.int x1), some (.int x2), none] [.int p4.1] _ _
          refine zy_3 rfl rfl (show zyR _ _ _ _ [some (.ref (43 + 3)), some (.int x1), some (.int x2), none] [.int (2 : Int32), .int p4.1] _ _ from ?_)
          refine zy_12 rfl (show zyR _ _ _ _ [some (.ref (43 + 3)), some (.int x1), some (.int x2), none] [.int (p4.1 * (2 : Int32))] _ _ from ?_)
          obtain ⟨rfl, rfl⟩ := zy_pi h
          exact zy_4 rfl ⟨rfl, rfl⟩
        · replace h := zy_ifn h b8
          refine zy_0 rfl rfl (show zyR _ _ _ _ [some (.ref (43 + 3)), some (.int x1), some (.int x2), none] [.ref (43 + 3)] _ _ from ?_)
          refine zy_3 rfl rfl (show zyR _ _ _ _ [some (.ref (43 + 3)), some (.int x1), some (.int x2), none] [.int (80 : Int32), .ref (43 + 3)] _ _ from ?_)
          obtain ⟨p5, hp5, h⟩ := zy_bind h
          refine zy_5 (c := 43) (as := [.int (80 : Int32)]) (rest := []) (L := [some (.ref (43 + 3)), some (.int (80 : Int32))]) (d' := 1) rfl rfl rfl (Nat.le_of_ble_eq_true rfl) (by omega) rfl (Nat.le_of_ble_eq_true rfl) rfl rfl (zyC251 hp5) ?_
          show zyR _ _ _ _ [some (.ref (43 + 3)), some (.int x1), some (.int x2), none] [] _ _
          refine zy_0 rfl rfl (show zyR _ _ _ _ [some (.ref (43 + 3)), some (.int x1), some (.int x2), none] [.ref (43 + 3)] _ _ from ?_)
          refine zy_3 rfl rfl (show zyR _ _ _ _ [some (.ref (43 + 3)), some (.int x1), some (.int x2), none] [.int (4 : Int32), .ref (43 + 3)] _ _ from ?_)
          refine zy_2 rfl rfl (show zyR _ _ _ _ [some (.ref (43 + 3)), some (.int x1), some (.int x2), none] [.int x2, .int (4 : Int32), .ref (43 + 3)] _ _ from ?_)
          obtain ⟨p6, hp6, h⟩ := zy_bind h
          refine zy_5 (c := 43) (as := [.int (4 : Int32), .int x2]) (rest := []) (L := [some (.ref (43 + 3)), some (.int (4 : Int32)), some (.int x2), none]) (d' := d) rfl rfl rfl (Nat.le_of_ble_eq_true rfl) (by omega) rfl (Nat.le_of_ble_eq_true rfl) rfl rfl (hg252 (4 : Int32) x2 p5.2 _ _ hp6) ?_
          show zyR _ _ _ _ [some (.ref (43 + 3)), some (.int x1), some (.int x2), none] [.int p6.1] _ _
          refine zy_23 rfl rfl (show zyR _ _ _ _ [some (.ref (43 + 3)), some (.int x1), some (.int x2), some (.int p6.1)] [] _ _ from ?_)
          refine zy_2 rfl rfl (show zyR _ _ _ _ [some (.ref (43 + 3)), some (.int x1), some (.int x2), some (.int p6.1)] [.int p6.1] _ _ from ?_)
          refine zy_0 rfl rfl (show zyR _ _ _ _ [some (.ref (43 + 3)), some (.int x1), some (.int x2), some (.int p6.1)] [.ref (43 + 3), .int p6.1] _ _ from ?_)
          refine zy_0 rfl rfl (show zyR _ _ _ _ [some (.ref (43 + 3)), some (.int x1), some (.int x2), some (.int p6.1)] [.ref (43 + 3), .ref (43 + 3), .int p6.1] _ _ from ?_)
          refine zy_1 (c := 43) rfl rfl rfl (show zyR _ _ _ _ [some (.ref (43 + 3)), some (.int x1), some (.int x2), some (.int p6.1)] [.int (p6.2.1 43 32), .ref (43 + 3), .int p6.1] _ _ from ?_)
          refine zy_3 rfl rfl (show zyR _ _ _ _ [some (.ref (43 + 3)), some (.int x1), some (.int x2), some (.int p6.1)] [.int (2 : Int32), .int (p6.2.1 43 32), .ref (43 + 3), .int p6.1] _ _ from ?_)
          obtain ⟨p7, hp7, h⟩ := zy_bind h
          refine zy_5 (c := 43) (as := [.int (p6.2.1 43 32), .int (2 : Int32)]) (rest := [.int p6.1]) (L := [some (.ref (43 + 3)), some (.int (p6.2.1 43 32)), some (.int (2 : Int32)), none]) (d' := 201) rfl rfl rfl (Nat.le_of_ble_eq_true rfl) (by omega) rfl (Nat.le_of_ble_eq_true rfl) rfl rfl (zyC253 hp7) ?_
          show zyR _ _ _ _ [some (.ref (43 + 3)), some (.int x1), some (.int x2), some (.int p6.1)] [.int p7.1, .int p6.1] _ _
          refine zy_10 rfl (show zyR _ _ _ _ [some (.ref (43 + 3)), some (.int x1), some (.int x2), some (.int p6.1)] [.int (p6.1 + p7.1)] _ _ from ?_)
          obtain ⟨rfl, rfl⟩ := zy_pi h
          exact zy_4 rfl ⟨rfl, rfl⟩
      · replace h := zy_ifn h b11
        refine zy_0 rfl rfl (show zyR _ _ _ _ [some (.ref (43 + 3)), some (.int x1), some (.int x2), none] [.ref (43 + 3)] _ _ from ?_)
        refine zy_3 rfl rfl (show zyR _ _ _ _ [some (.ref (43 + 3)), some (.int x1), some (.int x2), none] [.int (30 : Int32), .ref (43 + 3)] _ _ from ?_)
        obtain ⟨p9, hp9, h⟩ := zy_bind h
        refine zy_5 (c := 43) (as := [.int (30 : Int32)]) (rest := []) (L := [some (.ref (43 + 3)), some (.int (30 : Int32))]) (d' := 1) rfl rfl rfl (Nat.le_of_ble_eq_true rfl) (by omega) rfl (Nat.le_of_ble_eq_true rfl) rfl rfl (zyC251 hp9) ?_
        show zyR _ _ _ _ [some (.ref (43 + 3)), some (.int x1), some (.int x2), none] [] _ _
        refine zy_0 rfl rfl (show zyR _ _ _ _ [some (.ref (43 + 3)), some (.int x1), some (.int x2), none] [.ref (43 + 3)] _ _ from ?_)
        refine zy_3 rfl rfl (show zyR _ _ _ _ [some (.ref (43 + 3)), some (.int x1), some (.int x2), none] [.int (0 : Int32), .ref (43 + 3)] _ _ from ?_)
        refine zy_2 rfl rfl (show zyR _ _ _ _ [some (.ref (43 + 3)), some (.int x1), some (.int x2), none] [.int x2, .int (0 : Int32), .ref (43 + 3)] _ _ from ?_)
        obtain ⟨p10, hp10, h⟩ := zy_bind h
        refine zy_5 (c := 43) (as := [.int (0 : Int32), .int x2]) (rest := []) (L := [some (.ref (43 + 3)), some (.int (0 : Int32)), some (.int x2), none]) (d' := d) rfl rfl rfl (Nat.le_of_ble_eq_true rfl) (by omega) rfl (Nat.le_of_ble_eq_true rfl) rfl rfl (hg252 (0 : Int32) x2 p9.2 _ _ hp10) ?_
        show zyR _ _ _ _ [some (.ref (43 + 3)), some (.int x1), some (.int x2), none] [.int p10.1] _ _
        refine zy_21 rfl (show zyR _ _ _ _ [some (.ref (43 + 3)), some (.int x1), some (.int x2), none] [.int (-p10.1)] _ _ from ?_)
        obtain ⟨rfl, rfl⟩ := zy_pi h
        exact zy_4 rfl ⟨rfl, rfl⟩
    · replace h := zy_ifn h b12
      exact zy_sub (show zy_le [some (.ref (43 + 3)), none, some (.int x2), none] [some (.ref (43 + 3)), some (.int x1), some (.int x2), none] from ⟨rfl, ⟨rfl, trivial⟩⟩) (zyC252_10 hd hg252 h)
noncomputable def zyG252 (n : Nat) : (Int32 → Int32 → zy_S → Option (Int32 × zy_S)) := Nat.rec (fun _ _ _ => none) (fun _ g => (fun x1 x2 s => zyF252_0 g x1 x2 s)) n
theorem zyG252_s (n : Nat) : zyG252 (n + 1) = (fun x1 x2 s => zyF252_0 (zyG252 n) x1 x2 s) := rfl
theorem zyS252 (n : Nat) (x1 : Int32) (x2 : Int32) (s : zy_S) : (zyG252 (n + 1)) x1 x2 s = zyF252_0 (zyG252 n) x1 x2 s := by
  rw [zyG252_s]
theorem zyG252_ok {X : zx_X} : ∀ n : Nat, (∀ (x1 : Int32) (x2 : Int32) (s : zy_S) (r : Int32) (s' : zy_S), (zyG252 n) x1 x2 s = some (r, s') → zyR X (201 + n) 252 0 [some (.ref (43 + 3)), some (.int x1), some (.int x2), none] [] s (zyE (some (.int r)) s'))
  | 0 => by
    · intro x1 x2 s r s'  h
      have h : (none : Option (Int32 × zy_S)) = some (r, s') := h
      cases h
  | n + 1 => by
    obtain i0 := zyG252_ok (X := X) n
    · intro x1 x2 s r s'  h
      rw [zyS252] at h
      exact zy_sub (show zy_le [some (.ref (43 + 3)), some (.int x1), some (.int x2), none] [some (.ref (43 + 3)), some (.int x1), some (.int x2), none] from ⟨rfl, ⟨rfl, ⟨rfl, trivial⟩⟩⟩) (zyC252_0 (d := 201 + n) (g252 := (zyG252 n)) (by omega) i0  h)
noncomputable def zyF252 : Int32 → Int32 → zy_S → Option (Int32 × zy_S) := (zyG252 100)
theorem zyC252 {X : zx_X} {x1 : Int32} {x2 : Int32} {s : zy_S} {r : Int32} {s' : zy_S}  (h : zyF252 x1 x2 s = some (r, s')) : zyR X 301 252 0 [some (.ref (43 + 3)), some (.int x1), some (.int x2), none] [] s (zyE (some (.int r)) s') := (zyG252_ok (X := X) 100) x1 x2 s r s'  h
/-! NineOpinionsModel.tellsAs(II)I, over what it calls -/
noncomputable def zyF254_0 (g254 : Int32 → Int32 → zy_S → Option (Int32 × zy_S))  (x1 : Int32) (x2 : Int32) (s : zy_S) : Option (Int32 × zy_S) :=
if x1 ≠ (5 : Int32) then
if x1 ≠ (7 : Int32) then
(zyF251 (2 : Int32) s).bind fun p1 =>
(zyF252 (p1.2.1 43 32) x2 p1.2).bind fun p2 =>
(zyF253 (p2.2.1 43 32) (1 : Int32) p2.2).bind fun p3 =>
some ((p2.1 - p3.1), p3.2)
else
(zyF251 (81 : Int32) s).bind fun p4 =>
(g254 (4 : Int32) x2 p4.2).bind fun p5 =>
some ((p5.1 - (1 : Int32)), p5.2)
else
(zyF251 (60 : Int32) s).bind fun p7 =>
(g254 (3 : Int32) x2 p7.2).bind fun p8 =>
some ((p8.1 ^^^ (5 : Int32)), p8.2)
theorem zyC254_0 {X : zx_X} {d : Nat} {g254 : Int32 → Int32 → zy_S → Option (Int32 × zy_S)}  (hd : 301 ≤ d) (hg254 : ∀ (x1 : Int32) (x2 : Int32) (s : zy_S) (r : Int32) (s' : zy_S), g254 x1 x2 s = some (r, s') → zyR X d 254 0 [some (.ref (43 + 3)), some (.int x1), some (.int x2), none] [] s (zyE (some (.int r)) s'))  {x1 : Int32} {x2 : Int32} {s : zy_S} {r : Int32} {s' : zy_S}  (h : zyF254_0 g254 x1 x2 s = some (r, s')) : zyR X (d + 1) 254 0 [some (.ref (43 + 3)), some (.int x1), some (.int x2), none] [] s (zyE (some (.int r)) s') := by
  unfold zyF254_0 at h
  refine zy_2 rfl rfl (show zyR _ _ _ _ [some (.ref (43 + 3)), some (.int x1), some (.int x2), none] [.int x1] _ _ from ?_)
  refine zy_3 rfl rfl (show zyR _ _ _ _ [some (.ref (43 + 3)), some (.int x1), some (.int x2), none] [.int (5 : Int32), .int x1] _ _ from ?_)
  refine zy_25_1 rfl (fun b9 => (show zyR _ _ _ _ [some (.ref (43 + 3)), some (.int x1), some (.int x2), none] [] _ _ from ?_)) (fun b9 => (show zyR _ _ _ _ [some (.ref (43 + 3)), some (.int x1), some (.int x2), none] [] _ _ from ?_))
  · replace h := zy_ifp h b9
    refine zy_2 rfl rfl (show zyR _ _ _ _ [some (.ref (43 + 3)), some (.int x1), some (.int x2), none] [.int x1] _ _ from ?_)
    refine zy_3 rfl rfl (show zyR _ _ _ _ [some (.ref (43 + 3)), some (.int x1), some (.int x2), none] [.int (7 : Int32), .int x1] _ _ from ?_)
    refine zy_25_1 rfl (fun b6 => (show zyR _ _ _ _ [some (.ref (43 + 3)), some (.int x1), some (.int x2), none] [] _ _ from ?_)) (fun b6 => (show zyR _ _ _ _ [some (.ref (43 + 3)), some (.int x1), some (.int x2), none] [] _ _ from ?_))
    · replace h := zy_ifp h b6
      refine zy_0 rfl rfl (show zyR _ _ _ _ [some (.ref (43 + 3)), some (.int x1), some (.int x2), none] [.ref (43 + 3)] _ _ from ?_)
      refine zy_3 rfl rfl (show zyR _ _ _ _ [some (.ref (43 + 3)), some (.int x1), some (.int x2), none] [.int (2 : Int32), .ref (43 + 3)] _ _ from ?_)
      obtain ⟨p1, hp1, h⟩ := zy_bind h
      refine zy_5 (c := 43) (as := [.int (2 : Int32)]) (rest := []) (L := [some (.ref (43 + 3)), some (.int (2 : Int32))]) (d' := 1) rfl rfl rfl (Nat.le_of_ble_eq_true rfl) (by omega) rfl (Nat.le_of_ble_eq_true rfl) rfl rfl (zyC251 hp1) ?_
      show zyR _ _ _ _ [some (.ref (43 + 3)), some (.int x1), some (.int x2), none] [] _ _
      refine zy_0 rfl rfl (show zyR _ _ _ _ [some (.ref (43 + 3)), some (.int x1), some (.int x2), none] [.ref (43 + 3)] _ _ from ?_)
      refine zy_0 rfl rfl (show zyR _ _ _ _ [some (.ref (43 + 3)), some (.int x1), some (.int x2), none] [.ref (43 + 3), .ref (43 + 3)] _ _ from ?_)
      refine zy_1 (c := 43) rfl rfl rfl (show zyR _ _ _ _ [some (.ref (43 + 3)), some (.int x1), some (.int x2), none] [.int (p1.2.1 43 32), .ref (43 + 3)] _ _ from ?_)
      refine zy_2 rfl rfl (show zyR _ _ _ _ [some (.ref (43 + 3)), some (.int x1), some (.int x2), none] [.int x2, .int (p1.2.1 43 32), .ref (43 + 3)] _ _ from ?_)
      obtain ⟨p2, hp2, h⟩ := zy_bind h
      refine zy_5 (c := 43) (as := [.int (p1.2.1 43 32), .int x2]) (rest := []) (L := [some (.ref (43 + 3)), some (.int (p1.2.1 43 32)), some (.int x2), none]) (d' := 301) rfl rfl rfl (Nat.le_of_ble_eq_true rfl) (by omega) rfl (Nat.le_of_ble_eq_true rfl) rfl rfl (zyC252 hp2) ?_
      show zyR _ _ _ _ [some (.ref (43 + 3)), some (.int x1), some (.int x2), none] [.int p2.1] _ _
      refine zy_23 rfl rfl (show zyR _ _ _ _ [some (.ref (43 + 3)), some (.int x1), some (.int x2), some (.int p2.1)] [] _ _ from ?_)
      refine zy_2 rfl rfl (show zyR _ _ _ _ [some (.ref (43 + 3)), some (.int x1), some (.int x2), some (.int p2.1)] [.int p2.1] _ _ from ?_)
      refine zy_0 rfl rfl (show zyR _ _ _ _ [some (.ref (43 + 3)), some (.int x1), some (.int x2), some (.int p2.1)] [.ref (43 + 3), .int p2.1] _ _ from ?_)
      refine zy_0 rfl rfl (show zyR _ _ _ _ [some (.ref (43 + 3)), some (.int x1), some (.int x2), some (.int p2.1)] [.ref (43 + 3), .ref (43 + 3), .int p2.1] _ _ from ?_)
      refine zy_1 (c := 43) rfl rfl rfl (show zyR _ _ _ _ [some (.ref (43 + 3)), some (.int x1), some (.int x2), some (.int p2.1)] [.int (p2.2.1 43 32), .ref (43 + 3), .int p2.1] _ _ from ?_)
      refine zy_3 rfl rfl (show zyR _ _ _ _ [some (.ref (43 + 3)), some (.int x1), some (.int x2), some (.int p2.1)] [.int (1 : Int32), .int (p2.2.1 43 32), .ref (43 + 3), .int p2.1] _ _ from ?_)
      obtain ⟨p3, hp3, h⟩ := zy_bind h
      refine zy_5 (c := 43) (as := [.int (p2.2.1 43 32), .int (1 : Int32)]) (rest := [.int p2.1]) (L := [some (.ref (43 + 3)), some (.int (p2.2.1 43 32)), some (.int (1 : Int32)), none]) (d' := 201) rfl rfl rfl (Nat.le_of_ble_eq_true rfl) (by omega) rfl (Nat.le_of_ble_eq_true rfl) rfl rfl (zyC253 hp3) ?_
      show zyR _ _ _ _ [some (.ref (43 + 3)), some (.int x1), some (.int x2), some (.int p2.1)] [.int p3.1, .int p2.1] _ _
      refine zy_11 rfl (show zyR _ _ _ _ [some (.ref (43 + 3)), some (.int x1), some (.int x2), some (.int p2.1)] [.int (p2.1 - p3.1)] _ _ from ?_)
      obtain ⟨rfl, rfl⟩ := zy_pi h
      exact zy_4 rfl ⟨rfl, rfl⟩
    · replace h := zy_ifn h b6
      refine zy_0 rfl rfl (show zyR _ _ _ _ [some (.ref (43 + 3)), some (.int x1), some (.int x2), none] [.ref (43 + 3)] _ _ from ?_)
      refine zy_3 rfl rfl (show zyR _ _ _ _ [some (.ref (43 + 3)), some (.int x1), some (.int x2), none] [.int (81 : Int32), .ref (43 + 3)] _ _ from ?_)
      obtain ⟨p4, hp4, h⟩ := zy_bind h
      refine zy_5 (c := 43) (as := [.int (81 : Int32)]) (rest := []) (L := [some (.ref (43 + 3)), some (.int (81 : Int32))]) (d' := 1) rfl rfl rfl (Nat.le_of_ble_eq_true rfl) (by omega) rfl (Nat.le_of_ble_eq_true rfl) rfl rfl (zyC251 hp4) ?_
      show zyR _ _ _ _ [some (.ref (43 + 3)), some (.int x1), some (.int x2), none] [] _ _
      refine zy_0 rfl rfl (show zyR _ _ _ _ [some (.ref (43 + 3)), some (.int x1), some (.int x2), none] [.ref (43 + 3)] _ _ from ?_)
      refine zy_3 rfl rfl (show zyR _ _ _ _ [some (.ref (43 + 3)), some (.int x1), some (.int x2), none] [.int (4 : Int32), .ref (43 + 3)] _ _ from ?_)
      refine zy_2 rfl rfl (show zyR _ _ _ _ [some (.ref (43 + 3)), some (.int x1), some (.int x2), none] [.int x2, .int (4 : Int32), .ref (43 + 3)] _ _ from ?_)
      obtain ⟨p5, hp5, h⟩ := zy_bind h
      refine zy_5 (c := 43) (as := [.int (4 : Int32), .int x2]) (rest := []) (L := [some (.ref (43 + 3)), some (.int (4 : Int32)), some (.int x2), none]) (d' := d) rfl rfl rfl (Nat.le_of_ble_eq_true rfl) (by omega) rfl (Nat.le_of_ble_eq_true rfl) rfl rfl (hg254 (4 : Int32) x2 p4.2 _ _ hp5) ?_
      show zyR _ _ _ _ [some (.ref (43 + 3)), some (.int x1), some (.int x2), none] [.int p5.1] _ _
      refine zy_3 rfl rfl (show zyR _ _ _ _ [some (.ref (43 + 3)), some (.int x1), some (.int x2), none] [.int (1 : Int32), .int p5.1] _ _ from ?_)
      refine zy_11 rfl (show zyR _ _ _ _ [some (.ref (43 + 3)), some (.int x1), some (.int x2), none] [.int (p5.1 - (1 : Int32))] _ _ from ?_)
      obtain ⟨rfl, rfl⟩ := zy_pi h
      exact zy_4 rfl ⟨rfl, rfl⟩
  · replace h := zy_ifn h b9
    refine zy_0 rfl rfl (show zyR _ _ _ _ [some (.ref (43 + 3)), some (.int x1), some (.int x2), none] [.ref (43 + 3)] _ _ from ?_)
    refine zy_3 rfl rfl (show zyR _ _ _ _ [some (.ref (43 + 3)), some (.int x1), some (.int x2), none] [.int (60 : Int32), .ref (43 + 3)] _ _ from ?_)
    obtain ⟨p7, hp7, h⟩ := zy_bind h
    refine zy_5 (c := 43) (as := [.int (60 : Int32)]) (rest := []) (L := [some (.ref (43 + 3)), some (.int (60 : Int32))]) (d' := 1) rfl rfl rfl (Nat.le_of_ble_eq_true rfl) (by omega) rfl (Nat.le_of_ble_eq_true rfl) rfl rfl (zyC251 hp7) ?_
    show zyR _ _ _ _ [some (.ref (43 + 3)), some (.int x1), some (.int x2), none] [] _ _
    refine zy_0 rfl rfl (show zyR _ _ _ _ [some (.ref (43 + 3)), some (.int x1), some (.int x2), none] [.ref (43 + 3)] _ _ from ?_)
    refine zy_3 rfl rfl (show zyR _ _ _ _ [some (.ref (43 + 3)), some (.int x1), some (.int x2), none] [.int (3 : Int32), .ref (43 + 3)] _ _ from ?_)
    refine zy_2 rfl rfl (show zyR _ _ _ _ [some (.ref (43 + 3)), some (.int x1), some (.int x2), none] [.int x2, .int (3 : Int32), .ref (43 + 3)] _ _ from ?_)
    obtain ⟨p8, hp8, h⟩ := zy_bind h
    refine zy_5 (c := 43) (as := [.int (3 : Int32), .int x2]) (rest := []) (L := [some (.ref (43 + 3)), some (.int (3 : Int32)), some (.int x2), none]) (d' := d) rfl rfl rfl (Nat.le_of_ble_eq_true rfl) (by omega) rfl (Nat.le_of_ble_eq_true rfl) rfl rfl (hg254 (3 : Int32) x2 p7.2 _ _ hp8) ?_
    show zyR _ _ _ _ [some (.ref (43 + 3)), some (.int x1), some (.int x2), none] [.int p8.1] _ _
    refine zy_3 rfl rfl (show zyR _ _ _ _ [some (.ref (43 + 3)), some (.int x1), some (.int x2), none] [.int (5 : Int32), .int p8.1] _ _ from ?_)
    refine zy_15 rfl (show zyR _ _ _ _ [some (.ref (43 + 3)), some (.int x1), some (.int x2), none] [.int (p8.1 ^^^ (5 : Int32))] _ _ from ?_)
    obtain ⟨rfl, rfl⟩ := zy_pi h
    exact zy_4 rfl ⟨rfl, rfl⟩
noncomputable def zyG254 (n : Nat) : (Int32 → Int32 → zy_S → Option (Int32 × zy_S)) := Nat.rec (fun _ _ _ => none) (fun _ g => (fun x1 x2 s => zyF254_0 g x1 x2 s)) n
theorem zyG254_s (n : Nat) : zyG254 (n + 1) = (fun x1 x2 s => zyF254_0 (zyG254 n) x1 x2 s) := rfl
theorem zyS254 (n : Nat) (x1 : Int32) (x2 : Int32) (s : zy_S) : (zyG254 (n + 1)) x1 x2 s = zyF254_0 (zyG254 n) x1 x2 s := by
  rw [zyG254_s]
theorem zyG254_ok {X : zx_X} : ∀ n : Nat, (∀ (x1 : Int32) (x2 : Int32) (s : zy_S) (r : Int32) (s' : zy_S), (zyG254 n) x1 x2 s = some (r, s') → zyR X (301 + n) 254 0 [some (.ref (43 + 3)), some (.int x1), some (.int x2), none] [] s (zyE (some (.int r)) s'))
  | 0 => by
    · intro x1 x2 s r s'  h
      have h : (none : Option (Int32 × zy_S)) = some (r, s') := h
      cases h
  | n + 1 => by
    obtain i0 := zyG254_ok (X := X) n
    · intro x1 x2 s r s'  h
      rw [zyS254] at h
      exact zy_sub (show zy_le [some (.ref (43 + 3)), some (.int x1), some (.int x2), none] [some (.ref (43 + 3)), some (.int x1), some (.int x2), none] from ⟨rfl, ⟨rfl, ⟨rfl, trivial⟩⟩⟩) (zyC254_0 (d := 301 + n) (g254 := (zyG254 n)) (by omega) i0  h)
noncomputable def zyF254 : Int32 → Int32 → zy_S → Option (Int32 × zy_S) := (zyG254 100)
theorem zyC254 {X : zx_X} {x1 : Int32} {x2 : Int32} {s : zy_S} {r : Int32} {s' : zy_S}  (h : zyF254 x1 x2 s = some (r, s')) : zyR X 401 254 0 [some (.ref (43 + 3)), some (.int x1), some (.int x2), none] [] s (zyE (some (.int r)) s') := (zyG254_ok (X := X) 100) x1 x2 s r s'  h
end
section
/-! PART 41.31: methods as functions. Made by wip/v4/dcp.py. -/
/-! NineOpinionsModel.act(III)I -/
noncomputable def zyF248   (x1 : Int32) (x2 : Int32) (x3 : Int32) (s : zy_S) : Option (Int32 × zy_S) :=
(zyF249 x1 (zy_up s 43 31 (0 : Int32))).bind fun p1 =>
if p1.1 ≠ 0 then
if zy_in x1 50 then
if x2 = (0 : Int32) then
(zyF250 (p1.2.1 58 (x1).toNatClampNeg) x3 (zy_up (zy_up p1.2 43 32 (p1.2.1 58 (x1).toNatClampNeg)) 43 33 x1)).bind fun p3 =>
some (p3.1, p3.2)
else
if x2 = (1 : Int32) then
(zyF252 (p1.2.1 58 (x1).toNatClampNeg) x3 (zy_up (zy_up p1.2 43 32 (p1.2.1 58 (x1).toNatClampNeg)) 43 33 x1)).bind fun p5 =>
some (p5.1, p5.2)
else
if x2 = (2 : Int32) then
(zyF253 (p1.2.1 58 (x1).toNatClampNeg) x3 (zy_up (zy_up p1.2 43 32 (p1.2.1 58 (x1).toNatClampNeg)) 43 33 x1)).bind fun p7 =>
some (p7.1, p7.2)
else
if x2 = (3 : Int32) then
(zyF254 (p1.2.1 58 (x1).toNatClampNeg) x3 (zy_up (zy_up p1.2 43 32 (p1.2.1 58 (x1).toNatClampNeg)) 43 33 x1)).bind fun p9 =>
some (p9.1, p9.2)
else
some ((0 : Int32), (zy_up (zy_up p1.2 43 32 (p1.2.1 58 (x1).toNatClampNeg)) 43 33 x1))
else none
else
some ((0 : Int32), p1.2)
theorem zyC248 {X : zx_X}     {x1 : Int32} {x2 : Int32} {x3 : Int32} {s : zy_S} {r : Int32} {s' : zy_S}  (h : zyF248 x1 x2 x3 s = some (r, s')) : zyR X 402 248 0 [some (.ref (43 + 3)), some (.int x1), some (.int x2), some (.int x3)] [] s (zyE (some (.int r)) s') := by
  unfold zyF248 at h
  refine zy_0 rfl rfl (show zyR _ _ _ _ [some (.ref (43 + 3)), some (.int x1), some (.int x2), some (.int x3)] [.ref (43 + 3)] _ _ from ?_)
  refine zy_3 rfl rfl (show zyR _ _ _ _ [some (.ref (43 + 3)), some (.int x1), some (.int x2), some (.int x3)] [.int (0 : Int32), .ref (43 + 3)] _ _ from ?_)
  refine zy_52 (c := 43) rfl rfl rfl (show zyR _ _ _ _ [some (.ref (43 + 3)), some (.int x1), some (.int x2), some (.int x3)] [] _ _ from ?_)
  refine zy_0 rfl rfl (show zyR _ _ _ _ [some (.ref (43 + 3)), some (.int x1), some (.int x2), some (.int x3)] [.ref (43 + 3)] _ _ from ?_)
  refine zy_2 rfl rfl (show zyR _ _ _ _ [some (.ref (43 + 3)), some (.int x1), some (.int x2), some (.int x3)] [.int x1, .ref (43 + 3)] _ _ from ?_)
  obtain ⟨p1, hp1, h⟩ := zy_bind h
  refine zy_5 (c := 43) (as := [.int x1]) (rest := []) (L := [some (.ref (43 + 3)), some (.int x1)]) (d' := 2) rfl rfl rfl (Nat.le_of_ble_eq_true rfl) (Nat.le_of_ble_eq_true rfl) rfl (Nat.le_of_ble_eq_true rfl) rfl rfl (zyC249 hp1) ?_
  show zyR _ _ _ _ [some (.ref (43 + 3)), some (.int x1), some (.int x2), some (.int x3)] [.int p1.1] _ _
  refine zy_24_1 rfl (fun b11 => (show zyR _ _ _ _ [some (.ref (43 + 3)), some (.int x1), some (.int x2), some (.int x3)] [] _ _ from ?_)) (fun b11 => (show zyR _ _ _ _ [some (.ref (43 + 3)), some (.int x1), some (.int x2), some (.int x3)] [] _ _ from ?_))
  · replace h := zy_ifp h b11
    refine zy_0 rfl rfl (show zyR _ _ _ _ [some (.ref (43 + 3)), some (.int x1), some (.int x2), some (.int x3)] [.ref (43 + 3)] _ _ from ?_)
    refine zy_0 rfl rfl (show zyR _ _ _ _ [some (.ref (43 + 3)), some (.int x1), some (.int x2), some (.int x3)] [.ref (43 + 3), .ref (43 + 3)] _ _ from ?_)
    refine zy_1r (c := 43) rfl rfl rfl (show zyR _ _ _ _ [some (.ref (43 + 3)), some (.int x1), some (.int x2), some (.int x3)] [.ref (58 + 3), .ref (43 + 3)] _ _ from ?_)
    refine zy_2 rfl rfl (show zyR _ _ _ _ [some (.ref (43 + 3)), some (.int x1), some (.int x2), some (.int x3)] [.int x1, .ref (58 + 3), .ref (43 + 3)] _ _ from ?_)
    obtain ⟨c2, h⟩ := zy_if h
    refine zy_26 (c := 58) rfl rfl c2 (show zyR _ _ _ _ [some (.ref (43 + 3)), some (.int x1), some (.int x2), some (.int x3)] [.int (p1.2.1 58 (x1).toNatClampNeg), .ref (43 + 3)] _ _ from ?_)
    refine zy_52 (c := 43) rfl rfl rfl (show zyR _ _ _ _ [some (.ref (43 + 3)), some (.int x1), some (.int x2), some (.int x3)] [] _ _ from ?_)
    refine zy_0 rfl rfl (show zyR _ _ _ _ [some (.ref (43 + 3)), some (.int x1), some (.int x2), some (.int x3)] [.ref (43 + 3)] _ _ from ?_)
    refine zy_2 rfl rfl (show zyR _ _ _ _ [some (.ref (43 + 3)), some (.int x1), some (.int x2), some (.int x3)] [.int x1, .ref (43 + 3)] _ _ from ?_)
    refine zy_52 (c := 43) rfl rfl rfl (show zyR _ _ _ _ [some (.ref (43 + 3)), some (.int x1), some (.int x2), some (.int x3)] [] _ _ from ?_)
    refine zy_2 rfl rfl (show zyR _ _ _ _ [some (.ref (43 + 3)), some (.int x1), some (.int x2), some (.int x3)] [.int x2] _ _ from ?_)
    refine zy_50 rfl (by decide) ?_
    refine zy_swp (fun b4 => (show zyR _ _ _ _ [some (.ref (43 + 3)), some (.int x1), some (.int x2), some (.int x3)] [] _ _ from ?_)) (fun b4 => ?_)
    · replace h := zy_ifp h b4
      refine zy_0 rfl rfl (show zyR _ _ _ _ [some (.ref (43 + 3)), some (.int x1), some (.int x2), some (.int x3)] [.ref (43 + 3)] _ _ from ?_)
      refine zy_0 rfl rfl (show zyR _ _ _ _ [some (.ref (43 + 3)), some (.int x1), some (.int x2), some (.int x3)] [.ref (43 + 3), .ref (43 + 3)] _ _ from ?_)
      refine zy_1 (c := 43) rfl rfl rfl (show zyR _ _ _ _ [some (.ref (43 + 3)), some (.int x1), some (.int x2), some (.int x3)] [.int (p1.2.1 58 (x1).toNatClampNeg), .ref (43 + 3)] _ _ from ?_)
      refine zy_2 rfl rfl (show zyR _ _ _ _ [some (.ref (43 + 3)), some (.int x1), some (.int x2), some (.int x3)] [.int x3, .int (p1.2.1 58 (x1).toNatClampNeg), .ref (43 + 3)] _ _ from ?_)
      obtain ⟨p3, hp3, h⟩ := zy_bind h
      refine zy_5 (c := 43) (as := [.int (p1.2.1 58 (x1).toNatClampNeg), .int x3]) (rest := []) (L := [some (.ref (43 + 3)), some (.int (p1.2.1 58 (x1).toNatClampNeg)), some (.int x3)]) (d' := 101) rfl rfl rfl (Nat.le_of_ble_eq_true rfl) (Nat.le_of_ble_eq_true rfl) rfl (Nat.le_of_ble_eq_true rfl) rfl rfl (zyC250 hp3) ?_
      show zyR _ _ _ _ [some (.ref (43 + 3)), some (.int x1), some (.int x2), some (.int x3)] [.int p3.1] _ _
      obtain ⟨rfl, rfl⟩ := zy_pi h
      exact zy_4 rfl ⟨rfl, rfl⟩
    replace h := zy_ifn h b4
    refine zy_swp (fun b6 => (show zyR _ _ _ _ [some (.ref (43 + 3)), some (.int x1), some (.int x2), some (.int x3)] [] _ _ from ?_)) (fun b6 => ?_)
    · replace h := zy_ifp h b6
      refine zy_0 rfl rfl (show zyR _ _ _ _ [some (.ref (43 + 3)), some (.int x1), some (.int x2), some (.int x3)] [.ref (43 + 3)] _ _ from ?_)
      refine zy_0 rfl rfl (show zyR _ _ _ _ [some (.ref (43 + 3)), some (.int x1), some (.int x2), some (.int x3)] [.ref (43 + 3), .ref (43 + 3)] _ _ from ?_)
      refine zy_1 (c := 43) rfl rfl rfl (show zyR _ _ _ _ [some (.ref (43 + 3)), some (.int x1), some (.int x2), some (.int x3)] [.int (p1.2.1 58 (x1).toNatClampNeg), .ref (43 + 3)] _ _ from ?_)
      refine zy_2 rfl rfl (show zyR _ _ _ _ [some (.ref (43 + 3)), some (.int x1), some (.int x2), some (.int x3)] [.int x3, .int (p1.2.1 58 (x1).toNatClampNeg), .ref (43 + 3)] _ _ from ?_)
      obtain ⟨p5, hp5, h⟩ := zy_bind h
      refine zy_5 (c := 43) (as := [.int (p1.2.1 58 (x1).toNatClampNeg), .int x3]) (rest := []) (L := [some (.ref (43 + 3)), some (.int (p1.2.1 58 (x1).toNatClampNeg)), some (.int x3), none]) (d' := 301) rfl rfl rfl (Nat.le_of_ble_eq_true rfl) (Nat.le_of_ble_eq_true rfl) rfl (Nat.le_of_ble_eq_true rfl) rfl rfl (zyC252 hp5) ?_
      show zyR _ _ _ _ [some (.ref (43 + 3)), some (.int x1), some (.int x2), some (.int x3)] [.int p5.1] _ _
      obtain ⟨rfl, rfl⟩ := zy_pi h
      exact zy_4 rfl ⟨rfl, rfl⟩
    replace h := zy_ifn h b6
    refine zy_swp (fun b8 => (show zyR _ _ _ _ [some (.ref (43 + 3)), some (.int x1), some (.int x2), some (.int x3)] [] _ _ from ?_)) (fun b8 => ?_)
    · replace h := zy_ifp h b8
      refine zy_0 rfl rfl (show zyR _ _ _ _ [some (.ref (43 + 3)), some (.int x1), some (.int x2), some (.int x3)] [.ref (43 + 3)] _ _ from ?_)
      refine zy_0 rfl rfl (show zyR _ _ _ _ [some (.ref (43 + 3)), some (.int x1), some (.int x2), some (.int x3)] [.ref (43 + 3), .ref (43 + 3)] _ _ from ?_)
      refine zy_1 (c := 43) rfl rfl rfl (show zyR _ _ _ _ [some (.ref (43 + 3)), some (.int x1), some (.int x2), some (.int x3)] [.int (p1.2.1 58 (x1).toNatClampNeg), .ref (43 + 3)] _ _ from ?_)
      refine zy_2 rfl rfl (show zyR _ _ _ _ [some (.ref (43 + 3)), some (.int x1), some (.int x2), some (.int x3)] [.int x3, .int (p1.2.1 58 (x1).toNatClampNeg), .ref (43 + 3)] _ _ from ?_)
      obtain ⟨p7, hp7, h⟩ := zy_bind h
      refine zy_5 (c := 43) (as := [.int (p1.2.1 58 (x1).toNatClampNeg), .int x3]) (rest := []) (L := [some (.ref (43 + 3)), some (.int (p1.2.1 58 (x1).toNatClampNeg)), some (.int x3), none]) (d' := 201) rfl rfl rfl (Nat.le_of_ble_eq_true rfl) (Nat.le_of_ble_eq_true rfl) rfl (Nat.le_of_ble_eq_true rfl) rfl rfl (zyC253 hp7) ?_
      show zyR _ _ _ _ [some (.ref (43 + 3)), some (.int x1), some (.int x2), some (.int x3)] [.int p7.1] _ _
      obtain ⟨rfl, rfl⟩ := zy_pi h
      exact zy_4 rfl ⟨rfl, rfl⟩
    replace h := zy_ifn h b8
    refine zy_swp (fun b10 => (show zyR _ _ _ _ [some (.ref (43 + 3)), some (.int x1), some (.int x2), some (.int x3)] [] _ _ from ?_)) (fun b10 => ?_)
    · replace h := zy_ifp h b10
      refine zy_0 rfl rfl (show zyR _ _ _ _ [some (.ref (43 + 3)), some (.int x1), some (.int x2), some (.int x3)] [.ref (43 + 3)] _ _ from ?_)
      refine zy_0 rfl rfl (show zyR _ _ _ _ [some (.ref (43 + 3)), some (.int x1), some (.int x2), some (.int x3)] [.ref (43 + 3), .ref (43 + 3)] _ _ from ?_)
      refine zy_1 (c := 43) rfl rfl rfl (show zyR _ _ _ _ [some (.ref (43 + 3)), some (.int x1), some (.int x2), some (.int x3)] [.int (p1.2.1 58 (x1).toNatClampNeg), .ref (43 + 3)] _ _ from ?_)
      refine zy_2 rfl rfl (show zyR _ _ _ _ [some (.ref (43 + 3)), some (.int x1), some (.int x2), some (.int x3)] [.int x3, .int (p1.2.1 58 (x1).toNatClampNeg), .ref (43 + 3)] _ _ from ?_)
      obtain ⟨p9, hp9, h⟩ := zy_bind h
      refine zy_5 (c := 43) (as := [.int (p1.2.1 58 (x1).toNatClampNeg), .int x3]) (rest := []) (L := [some (.ref (43 + 3)), some (.int (p1.2.1 58 (x1).toNatClampNeg)), some (.int x3), none]) (d' := 401) rfl rfl rfl (Nat.le_of_ble_eq_true rfl) (Nat.le_of_ble_eq_true rfl) rfl (Nat.le_of_ble_eq_true rfl) rfl rfl (zyC254 hp9) ?_
      show zyR _ _ _ _ [some (.ref (43 + 3)), some (.int x1), some (.int x2), some (.int x3)] [.int p9.1] _ _
      obtain ⟨rfl, rfl⟩ := zy_pi h
      exact zy_4 rfl ⟨rfl, rfl⟩
    replace h := zy_ifn h b10
    show zyR _ _ _ _ [some (.ref (43 + 3)), some (.int x1), some (.int x2), some (.int x3)] [] _ _
    refine zy_3 rfl rfl (show zyR _ _ _ _ [some (.ref (43 + 3)), some (.int x1), some (.int x2), some (.int x3)] [.int (0 : Int32)] _ _ from ?_)
    obtain ⟨rfl, rfl⟩ := zy_pi h
    exact zy_4 rfl ⟨rfl, rfl⟩
  · replace h := zy_ifn h b11
    refine zy_3 rfl rfl (show zyR _ _ _ _ [some (.ref (43 + 3)), some (.int x1), some (.int x2), some (.int x3)] [.int (0 : Int32)] _ _ from ?_)
    obtain ⟨rfl, rfl⟩ := zy_pi h
    exact zy_4 rfl ⟨rfl, rfl⟩
/-! java/lang/Math.min(II)I -/
noncomputable def zyF68   (x0 : Int32) (x1 : Int32) (s : zy_S) : Option (Int32 × zy_S) :=
if x1 < x0 then
some (x1, s)
else
some (x0, s)
theorem zyC68 {X : zx_X}     {x0 : Int32} {x1 : Int32} {s : zy_S} {r : Int32} {s' : zy_S}  (h : zyF68 x0 x1 s = some (r, s')) : zyR X 1 68 0 [some (.int x0), some (.int x1)] [] s (zyE (some (.int r)) s') := by
  unfold zyF68 at h
  refine zy_2 rfl rfl (show zyR _ _ _ _ [some (.int x0), some (.int x1)] [.int x0] _ _ from ?_)
  refine zy_2 rfl rfl (show zyR _ _ _ _ [some (.int x0), some (.int x1)] [.int x1, .int x0] _ _ from ?_)
  refine zy_25_4 rfl (fun b1 => (show zyR _ _ _ _ [some (.int x0), some (.int x1)] [] _ _ from ?_)) (fun b1 => (show zyR _ _ _ _ [some (.int x0), some (.int x1)] [] _ _ from ?_))
  · replace h := zy_ifp h b1
    refine zy_2 rfl rfl (show zyR _ _ _ _ [some (.int x0), some (.int x1)] [.int x1] _ _ from ?_)
    obtain ⟨rfl, rfl⟩ := zy_pi h
    exact zy_4 rfl ⟨rfl, rfl⟩
  · replace h := zy_ifn h b1
    refine zy_2 rfl rfl (show zyR _ _ _ _ [some (.int x0), some (.int x1)] [.int x0] _ _ from ?_)
    refine zy_6 rfl (show zyR _ _ _ _ [some (.int x0), some (.int x1)] [.int x0] _ _ from ?_)
    obtain ⟨rfl, rfl⟩ := zy_pi h
    exact zy_4 rfl ⟨rfl, rfl⟩
/-! NineOpinions$Bodies.traced()I -/
noncomputable def zyF160    (s : zy_S) : Option (Int32 × zy_S) :=
(zyF68 (s.1 27 3) (24 : Int32) s).bind fun p1 =>
some (p1.1, p1.2)
theorem zyC160 {X : zx_X}      {s : zy_S} {r : Int32} {s' : zy_S}  (h : zyF160 s = some (r, s')) : zyR X 2 160 0 [some (.ref (27 + 3))] [] s (zyE (some (.int r)) s') := by
  unfold zyF160 at h
  refine zy_0 rfl rfl (show zyR _ _ _ _ [some (.ref (27 + 3))] [.ref (27 + 3)] _ _ from ?_)
  refine zy_1 (c := 27) rfl rfl rfl (show zyR _ _ _ _ [some (.ref (27 + 3))] [.int (s.1 27 3)] _ _ from ?_)
  refine zy_3 rfl rfl (show zyR _ _ _ _ [some (.ref (27 + 3))] [.int (24 : Int32), .int (s.1 27 3)] _ _ from ?_)
  obtain ⟨p1, hp1, h⟩ := zy_bind h
  refine zy_60 (as := [.int (s.1 27 3), .int (24 : Int32)]) (rest := []) (L := [some (.int (s.1 27 3)), some (.int (24 : Int32))]) (d' := 1) rfl rfl (Nat.le_of_ble_eq_true rfl) (Nat.le_of_ble_eq_true rfl) rfl (Nat.le_of_ble_eq_true rfl) rfl rfl (zyC68 hp1) ?_
  show zyR _ _ _ _ [some (.ref (27 + 3))] [.int p1.1] _ _
  obtain ⟨rfl, rfl⟩ := zy_pi h
  exact zy_4 rfl ⟨rfl, rfl⟩
/-! NineOpinions.trace(I)I -/
noncomputable def zyF159   (x1 : Int32) (s : zy_S) : Option (Int32 × zy_S) :=
if x1 < 0 then
some ((-1 : Int32), s)
else
(zyF160 s).bind fun p1 =>
if p1.1 ≤ x1 then
some ((-1 : Int32), p1.2)
else
if zy_in x1 24 then
some ((p1.2.1 29 (x1).toNatClampNeg), p1.2)
else none
theorem zyC159 {X : zx_X}     {x1 : Int32} {s : zy_S} {r : Int32} {s' : zy_S}  (h : zyF159 x1 s = some (r, s')) : zyR X 3 159 0 [some (.ref (0 + 3)), some (.int x1)] [] s (zyE (some (.int r)) s') := by
  unfold zyF159 at h
  refine zy_2 rfl rfl (show zyR _ _ _ _ [some (.ref (0 + 3)), some (.int x1)] [.int x1] _ _ from ?_)
  refine zy_24_2 rfl (fun b4 => (show zyR _ _ _ _ [some (.ref (0 + 3)), some (.int x1)] [] _ _ from ?_)) (fun b4 => (show zyR _ _ _ _ [some (.ref (0 + 3)), some (.int x1)] [] _ _ from ?_))
  · replace h := zy_ifp h b4
    refine zy_3 rfl rfl (show zyR _ _ _ _ [some (.ref (0 + 3)), some (.int x1)] [.int (-1 : Int32)] _ _ from ?_)
    obtain ⟨rfl, rfl⟩ := zy_pi h
    exact zy_4 rfl ⟨rfl, rfl⟩
  · replace h := zy_ifn h b4
    refine zy_2 rfl rfl (show zyR _ _ _ _ [some (.ref (0 + 3)), some (.int x1)] [.int x1] _ _ from ?_)
    refine zy_0 rfl rfl (show zyR _ _ _ _ [some (.ref (0 + 3)), some (.int x1)] [.ref (0 + 3), .int x1] _ _ from ?_)
    refine zy_1r (c := 0) rfl rfl rfl (show zyR _ _ _ _ [some (.ref (0 + 3)), some (.int x1)] [.ref (27 + 3), .int x1] _ _ from ?_)
    obtain ⟨p1, hp1, h⟩ := zy_bind h
    refine zy_5 (c := 27) (as := []) (rest := [.int x1]) (L := [some (.ref (27 + 3))]) (d' := 2) rfl rfl rfl (Nat.le_of_ble_eq_true rfl) (Nat.le_of_ble_eq_true rfl) rfl (Nat.le_of_ble_eq_true rfl) rfl rfl (zyC160 hp1) ?_
    show zyR _ _ _ _ [some (.ref (0 + 3)), some (.int x1)] [.int p1.1, .int x1] _ _
    refine zy_25_3 rfl (fun b3 => (show zyR _ _ _ _ [some (.ref (0 + 3)), some (.int x1)] [] _ _ from ?_)) (fun b3 => (show zyR _ _ _ _ [some (.ref (0 + 3)), some (.int x1)] [] _ _ from ?_))
    · replace h := zy_ifp h b3
      refine zy_3 rfl rfl (show zyR _ _ _ _ [some (.ref (0 + 3)), some (.int x1)] [.int (-1 : Int32)] _ _ from ?_)
      obtain ⟨rfl, rfl⟩ := zy_pi h
      exact zy_4 rfl ⟨rfl, rfl⟩
    · replace h := zy_ifn h b3
      refine zy_0 rfl rfl (show zyR _ _ _ _ [some (.ref (0 + 3)), some (.int x1)] [.ref (0 + 3)] _ _ from ?_)
      refine zy_1r (c := 0) rfl rfl rfl (show zyR _ _ _ _ [some (.ref (0 + 3)), some (.int x1)] [.ref (27 + 3)] _ _ from ?_)
      refine zy_1r (c := 27) rfl rfl rfl (show zyR _ _ _ _ [some (.ref (0 + 3)), some (.int x1)] [.ref (29 + 3)] _ _ from ?_)
      refine zy_2 rfl rfl (show zyR _ _ _ _ [some (.ref (0 + 3)), some (.int x1)] [.int x1, .ref (29 + 3)] _ _ from ?_)
      obtain ⟨c2, h⟩ := zy_if h
      refine zy_26 (c := 29) rfl rfl c2 (show zyR _ _ _ _ [some (.ref (0 + 3)), some (.int x1)] [.int (p1.2.1 29 (x1).toNatClampNeg)] _ _ from ?_)
      refine zy_6 rfl (show zyR _ _ _ _ [some (.ref (0 + 3)), some (.int x1)] [.int (p1.2.1 29 (x1).toNatClampNeg)] _ _ from ?_)
      obtain ⟨rfl, rfl⟩ := zy_pi h
      exact zy_4 rfl ⟨rfl, rfl⟩
/-! NineOpinionsModel.trace(I)I -/
noncomputable def zyF255   (x1 : Int32) (s : zy_S) : Option (Int32 × zy_S) :=
if x1 < 0 then
some ((-1 : Int32), s)
else
if (s.1 43 31) ≤ x1 then
some ((-1 : Int32), s)
else
if (24 : Int32) ≤ x1 then
some ((-1 : Int32), s)
else
if zy_in x1 24 then
some ((s.1 59 (x1).toNatClampNeg), s)
else none
theorem zyC255 {X : zx_X}     {x1 : Int32} {s : zy_S} {r : Int32} {s' : zy_S}  (h : zyF255 x1 s = some (r, s')) : zyR X 1 255 0 [some (.ref (43 + 3)), some (.int x1)] [] s (zyE (some (.int r)) s') := by
  unfold zyF255 at h
  refine zy_2 rfl rfl (show zyR _ _ _ _ [some (.ref (43 + 3)), some (.int x1)] [.int x1] _ _ from ?_)
  refine zy_24_2 rfl (fun b4 => (show zyR _ _ _ _ [some (.ref (43 + 3)), some (.int x1)] [] _ _ from ?_)) (fun b4 => (show zyR _ _ _ _ [some (.ref (43 + 3)), some (.int x1)] [] _ _ from ?_))
  · replace h := zy_ifp h b4
    refine zy_3 rfl rfl (show zyR _ _ _ _ [some (.ref (43 + 3)), some (.int x1)] [.int (-1 : Int32)] _ _ from ?_)
    obtain ⟨rfl, rfl⟩ := zy_pi h
    exact zy_4 rfl ⟨rfl, rfl⟩
  · replace h := zy_ifn h b4
    refine zy_2 rfl rfl (show zyR _ _ _ _ [some (.ref (43 + 3)), some (.int x1)] [.int x1] _ _ from ?_)
    refine zy_0 rfl rfl (show zyR _ _ _ _ [some (.ref (43 + 3)), some (.int x1)] [.ref (43 + 3), .int x1] _ _ from ?_)
    refine zy_1 (c := 43) rfl rfl rfl (show zyR _ _ _ _ [some (.ref (43 + 3)), some (.int x1)] [.int (s.1 43 31), .int x1] _ _ from ?_)
    refine zy_25_3 rfl (fun b3 => (show zyR _ _ _ _ [some (.ref (43 + 3)), some (.int x1)] [] _ _ from ?_)) (fun b3 => (show zyR _ _ _ _ [some (.ref (43 + 3)), some (.int x1)] [] _ _ from ?_))
    · replace h := zy_ifp h b3
      refine zy_3 rfl rfl (show zyR _ _ _ _ [some (.ref (43 + 3)), some (.int x1)] [.int (-1 : Int32)] _ _ from ?_)
      obtain ⟨rfl, rfl⟩ := zy_pi h
      exact zy_4 rfl ⟨rfl, rfl⟩
    · replace h := zy_ifn h b3
      refine zy_2 rfl rfl (show zyR _ _ _ _ [some (.ref (43 + 3)), some (.int x1)] [.int x1] _ _ from ?_)
      refine zy_3 rfl rfl (show zyR _ _ _ _ [some (.ref (43 + 3)), some (.int x1)] [.int (24 : Int32), .int x1] _ _ from ?_)
      refine zy_25_3 rfl (fun b2 => (show zyR _ _ _ _ [some (.ref (43 + 3)), some (.int x1)] [] _ _ from ?_)) (fun b2 => (show zyR _ _ _ _ [some (.ref (43 + 3)), some (.int x1)] [] _ _ from ?_))
      · replace h := zy_ifp h b2
        refine zy_3 rfl rfl (show zyR _ _ _ _ [some (.ref (43 + 3)), some (.int x1)] [.int (-1 : Int32)] _ _ from ?_)
        obtain ⟨rfl, rfl⟩ := zy_pi h
        exact zy_4 rfl ⟨rfl, rfl⟩
      · replace h := zy_ifn h b2
        refine zy_0 rfl rfl (show zyR _ _ _ _ [some (.ref (43 + 3)), some (.int x1)] [.ref (43 + 3)] _ _ from ?_)
        refine zy_1r (c := 43) rfl rfl rfl (show zyR _ _ _ _ [some (.ref (43 + 3)), some (.int x1)] [.ref (59 + 3)] _ _ from ?_)
        refine zy_2 rfl rfl (show zyR _ _ _ _ [some (.ref (43 + 3)), some (.int x1)] [.int x1, .ref (59 + 3)] _ _ from ?_)
        obtain ⟨c1, h⟩ := zy_if h
        refine zy_26 (c := 59) rfl rfl c1 (show zyR _ _ _ _ [some (.ref (43 + 3)), some (.int x1)] [.int (s.1 59 (x1).toNatClampNeg)] _ _ from ?_)
        refine zy_6 rfl (show zyR _ _ _ _ [some (.ref (43 + 3)), some (.int x1)] [.int (s.1 59 (x1).toNatClampNeg)] _ _ from ?_)
        obtain ⟨rfl, rfl⟩ := zy_pi h
        exact zy_4 rfl ⟨rfl, rfl⟩
/-! NineOpinions.count(I)I -/
noncomputable def zyF174   (x1 : Int32) (s : zy_S) : Option (Int32 × zy_S) :=
if x1 = (0 : Int32) then
some ((s.1 1 5), s)
else
if x1 = (1 : Int32) then
(zyF92 s).bind fun p2 =>
some (p2.1, p2.2)
else
if x1 = (2 : Int32) then
some ((s.1 9 2), s)
else
if x1 = (3 : Int32) then
some ((s.1 22 5), s)
else
if x1 = (4 : Int32) then
some ((s.1 27 2), s)
else
if x1 = (5 : Int32) then
some ((s.1 27 3), s)
else
some ((-1 : Int32), s)
theorem zyC174 {X : zx_X}     {x1 : Int32} {s : zy_S} {r : Int32} {s' : zy_S}  (h : zyF174 x1 s = some (r, s')) : zyR X 3 174 0 [some (.ref (0 + 3)), some (.int x1)] [] s (zyE (some (.int r)) s') := by
  unfold zyF174 at h
  refine zy_2 rfl rfl (show zyR _ _ _ _ [some (.ref (0 + 3)), some (.int x1)] [.int x1] _ _ from ?_)
  refine zy_50 rfl (by decide) ?_
  refine zy_swp (fun b1 => (show zyR _ _ _ _ [some (.ref (0 + 3)), some (.int x1)] [] _ _ from ?_)) (fun b1 => ?_)
  · replace h := zy_ifp h b1
    refine zy_0 rfl rfl (show zyR _ _ _ _ [some (.ref (0 + 3)), some (.int x1)] [.ref (0 + 3)] _ _ from ?_)
    refine zy_1r (c := 0) rfl rfl rfl (show zyR _ _ _ _ [some (.ref (0 + 3)), some (.int x1)] [.ref (1 + 3)] _ _ from ?_)
    refine zy_1 (c := 1) rfl rfl rfl (show zyR _ _ _ _ [some (.ref (0 + 3)), some (.int x1)] [.int (s.1 1 5)] _ _ from ?_)
    obtain ⟨rfl, rfl⟩ := zy_pi h
    exact zy_4 rfl ⟨rfl, rfl⟩
  replace h := zy_ifn h b1
  refine zy_swp (fun b3 => (show zyR _ _ _ _ [some (.ref (0 + 3)), some (.int x1)] [] _ _ from ?_)) (fun b3 => ?_)
  · replace h := zy_ifp h b3
    refine zy_0 rfl rfl (show zyR _ _ _ _ [some (.ref (0 + 3)), some (.int x1)] [.ref (0 + 3)] _ _ from ?_)
    refine zy_1r (c := 0) rfl rfl rfl (show zyR _ _ _ _ [some (.ref (0 + 3)), some (.int x1)] [.ref (1 + 3)] _ _ from ?_)
    obtain ⟨p2, hp2, h⟩ := zy_bind h
    refine zy_5 (c := 1) (as := []) (rest := []) (L := [some (.ref (1 + 3))]) (d' := 2) rfl rfl rfl (Nat.le_of_ble_eq_true rfl) (Nat.le_of_ble_eq_true rfl) rfl (Nat.le_of_ble_eq_true rfl) rfl rfl (zyC92 hp2) ?_
    show zyR _ _ _ _ [some (.ref (0 + 3)), some (.int x1)] [.int p2.1] _ _
    obtain ⟨rfl, rfl⟩ := zy_pi h
    exact zy_4 rfl ⟨rfl, rfl⟩
  replace h := zy_ifn h b3
  refine zy_swp (fun b4 => (show zyR _ _ _ _ [some (.ref (0 + 3)), some (.int x1)] [] _ _ from ?_)) (fun b4 => ?_)
  · replace h := zy_ifp h b4
    refine zy_0 rfl rfl (show zyR _ _ _ _ [some (.ref (0 + 3)), some (.int x1)] [.ref (0 + 3)] _ _ from ?_)
    refine zy_1r (c := 0) rfl rfl rfl (show zyR _ _ _ _ [some (.ref (0 + 3)), some (.int x1)] [.ref (9 + 3)] _ _ from ?_)
    refine zy_1 (c := 9) rfl rfl rfl (show zyR _ _ _ _ [some (.ref (0 + 3)), some (.int x1)] [.int (s.1 9 2)] _ _ from ?_)
    obtain ⟨rfl, rfl⟩ := zy_pi h
    exact zy_4 rfl ⟨rfl, rfl⟩
  replace h := zy_ifn h b4
  refine zy_swp (fun b5 => (show zyR _ _ _ _ [some (.ref (0 + 3)), some (.int x1)] [] _ _ from ?_)) (fun b5 => ?_)
  · replace h := zy_ifp h b5
    refine zy_0 rfl rfl (show zyR _ _ _ _ [some (.ref (0 + 3)), some (.int x1)] [.ref (0 + 3)] _ _ from ?_)
    refine zy_1r (c := 0) rfl rfl rfl (show zyR _ _ _ _ [some (.ref (0 + 3)), some (.int x1)] [.ref (22 + 3)] _ _ from ?_)
    refine zy_1 (c := 22) rfl rfl rfl (show zyR _ _ _ _ [some (.ref (0 + 3)), some (.int x1)] [.int (s.1 22 5)] _ _ from ?_)
    obtain ⟨rfl, rfl⟩ := zy_pi h
    exact zy_4 rfl ⟨rfl, rfl⟩
  replace h := zy_ifn h b5
  refine zy_swp (fun b6 => (show zyR _ _ _ _ [some (.ref (0 + 3)), some (.int x1)] [] _ _ from ?_)) (fun b6 => ?_)
  · replace h := zy_ifp h b6
    refine zy_0 rfl rfl (show zyR _ _ _ _ [some (.ref (0 + 3)), some (.int x1)] [.ref (0 + 3)] _ _ from ?_)
    refine zy_1r (c := 0) rfl rfl rfl (show zyR _ _ _ _ [some (.ref (0 + 3)), some (.int x1)] [.ref (27 + 3)] _ _ from ?_)
    refine zy_1 (c := 27) rfl rfl rfl (show zyR _ _ _ _ [some (.ref (0 + 3)), some (.int x1)] [.int (s.1 27 2)] _ _ from ?_)
    obtain ⟨rfl, rfl⟩ := zy_pi h
    exact zy_4 rfl ⟨rfl, rfl⟩
  replace h := zy_ifn h b6
  refine zy_swp (fun b7 => (show zyR _ _ _ _ [some (.ref (0 + 3)), some (.int x1)] [] _ _ from ?_)) (fun b7 => ?_)
  · replace h := zy_ifp h b7
    refine zy_0 rfl rfl (show zyR _ _ _ _ [some (.ref (0 + 3)), some (.int x1)] [.ref (0 + 3)] _ _ from ?_)
    refine zy_1r (c := 0) rfl rfl rfl (show zyR _ _ _ _ [some (.ref (0 + 3)), some (.int x1)] [.ref (27 + 3)] _ _ from ?_)
    refine zy_1 (c := 27) rfl rfl rfl (show zyR _ _ _ _ [some (.ref (0 + 3)), some (.int x1)] [.int (s.1 27 3)] _ _ from ?_)
    obtain ⟨rfl, rfl⟩ := zy_pi h
    exact zy_4 rfl ⟨rfl, rfl⟩
  replace h := zy_ifn h b7
  show zyR _ _ _ _ [some (.ref (0 + 3)), some (.int x1)] [] _ _
  refine zy_3 rfl rfl (show zyR _ _ _ _ [some (.ref (0 + 3)), some (.int x1)] [.int (-1 : Int32)] _ _ from ?_)
  obtain ⟨rfl, rfl⟩ := zy_pi h
  exact zy_4 rfl ⟨rfl, rfl⟩
/-! NineOpinionsModel.count(I)I -/
noncomputable def zyF266   (x1 : Int32) (s : zy_S) : Option (Int32 × zy_S) :=
if x1 = (0 : Int32) then
some ((s.1 43 6), s)
else
if x1 = (1 : Int32) then
(zyF209 (s.1 43 7) s).bind fun p2 =>
some (p2.1, p2.2)
else
if x1 = (2 : Int32) then
some ((s.1 43 9), s)
else
if x1 = (3 : Int32) then
some ((s.1 43 5), s)
else
if x1 = (4 : Int32) then
some ((s.1 43 28), s)
else
if x1 = (5 : Int32) then
some ((s.1 43 31), s)
else
some ((-1 : Int32), s)
theorem zyC266 {X : zx_X}     {x1 : Int32} {s : zy_S} {r : Int32} {s' : zy_S}  (h : zyF266 x1 s = some (r, s')) : zyR X 2 266 0 [some (.ref (43 + 3)), some (.int x1)] [] s (zyE (some (.int r)) s') := by
  unfold zyF266 at h
  refine zy_2 rfl rfl (show zyR _ _ _ _ [some (.ref (43 + 3)), some (.int x1)] [.int x1] _ _ from ?_)
  refine zy_50 rfl (by decide) ?_
  refine zy_swp (fun b1 => (show zyR _ _ _ _ [some (.ref (43 + 3)), some (.int x1)] [] _ _ from ?_)) (fun b1 => ?_)
  · replace h := zy_ifp h b1
    refine zy_0 rfl rfl (show zyR _ _ _ _ [some (.ref (43 + 3)), some (.int x1)] [.ref (43 + 3)] _ _ from ?_)
    refine zy_1 (c := 43) rfl rfl rfl (show zyR _ _ _ _ [some (.ref (43 + 3)), some (.int x1)] [.int (s.1 43 6)] _ _ from ?_)
    obtain ⟨rfl, rfl⟩ := zy_pi h
    exact zy_4 rfl ⟨rfl, rfl⟩
  replace h := zy_ifn h b1
  refine zy_swp (fun b3 => (show zyR _ _ _ _ [some (.ref (43 + 3)), some (.int x1)] [] _ _ from ?_)) (fun b3 => ?_)
  · replace h := zy_ifp h b3
    refine zy_0 rfl rfl (show zyR _ _ _ _ [some (.ref (43 + 3)), some (.int x1)] [.ref (43 + 3)] _ _ from ?_)
    refine zy_1 (c := 43) rfl rfl rfl (show zyR _ _ _ _ [some (.ref (43 + 3)), some (.int x1)] [.int (s.1 43 7)] _ _ from ?_)
    obtain ⟨p2, hp2, h⟩ := zy_bind h
    refine zy_60 (as := [.int (s.1 43 7)]) (rest := []) (L := [some (.int (s.1 43 7)), none, none]) (d' := 1) rfl rfl (Nat.le_of_ble_eq_true rfl) (Nat.le_of_ble_eq_true rfl) rfl (Nat.le_of_ble_eq_true rfl) rfl rfl (zyC209 hp2) ?_
    show zyR _ _ _ _ [some (.ref (43 + 3)), some (.int x1)] [.int p2.1] _ _
    obtain ⟨rfl, rfl⟩ := zy_pi h
    exact zy_4 rfl ⟨rfl, rfl⟩
  replace h := zy_ifn h b3
  refine zy_swp (fun b4 => (show zyR _ _ _ _ [some (.ref (43 + 3)), some (.int x1)] [] _ _ from ?_)) (fun b4 => ?_)
  · replace h := zy_ifp h b4
    refine zy_0 rfl rfl (show zyR _ _ _ _ [some (.ref (43 + 3)), some (.int x1)] [.ref (43 + 3)] _ _ from ?_)
    refine zy_1 (c := 43) rfl rfl rfl (show zyR _ _ _ _ [some (.ref (43 + 3)), some (.int x1)] [.int (s.1 43 9)] _ _ from ?_)
    obtain ⟨rfl, rfl⟩ := zy_pi h
    exact zy_4 rfl ⟨rfl, rfl⟩
  replace h := zy_ifn h b4
  refine zy_swp (fun b5 => (show zyR _ _ _ _ [some (.ref (43 + 3)), some (.int x1)] [] _ _ from ?_)) (fun b5 => ?_)
  · replace h := zy_ifp h b5
    refine zy_0 rfl rfl (show zyR _ _ _ _ [some (.ref (43 + 3)), some (.int x1)] [.ref (43 + 3)] _ _ from ?_)
    refine zy_1 (c := 43) rfl rfl rfl (show zyR _ _ _ _ [some (.ref (43 + 3)), some (.int x1)] [.int (s.1 43 5)] _ _ from ?_)
    obtain ⟨rfl, rfl⟩ := zy_pi h
    exact zy_4 rfl ⟨rfl, rfl⟩
  replace h := zy_ifn h b5
  refine zy_swp (fun b6 => (show zyR _ _ _ _ [some (.ref (43 + 3)), some (.int x1)] [] _ _ from ?_)) (fun b6 => ?_)
  · replace h := zy_ifp h b6
    refine zy_0 rfl rfl (show zyR _ _ _ _ [some (.ref (43 + 3)), some (.int x1)] [.ref (43 + 3)] _ _ from ?_)
    refine zy_1 (c := 43) rfl rfl rfl (show zyR _ _ _ _ [some (.ref (43 + 3)), some (.int x1)] [.int (s.1 43 28)] _ _ from ?_)
    obtain ⟨rfl, rfl⟩ := zy_pi h
    exact zy_4 rfl ⟨rfl, rfl⟩
  replace h := zy_ifn h b6
  refine zy_swp (fun b7 => (show zyR _ _ _ _ [some (.ref (43 + 3)), some (.int x1)] [] _ _ from ?_)) (fun b7 => ?_)
  · replace h := zy_ifp h b7
    refine zy_0 rfl rfl (show zyR _ _ _ _ [some (.ref (43 + 3)), some (.int x1)] [.ref (43 + 3)] _ _ from ?_)
    refine zy_1 (c := 43) rfl rfl rfl (show zyR _ _ _ _ [some (.ref (43 + 3)), some (.int x1)] [.int (s.1 43 31)] _ _ from ?_)
    obtain ⟨rfl, rfl⟩ := zy_pi h
    exact zy_4 rfl ⟨rfl, rfl⟩
  replace h := zy_ifn h b7
  show zyR _ _ _ _ [some (.ref (43 + 3)), some (.int x1)] [] _ _
  refine zy_3 rfl rfl (show zyR _ _ _ _ [some (.ref (43 + 3)), some (.int x1)] [.int (-1 : Int32)] _ _ from ?_)
  obtain ⟨rfl, rfl⟩ := zy_pi h
  exact zy_4 rfl ⟨rfl, rfl⟩
/-! NineOpinions$Thought.begin(II)V -/
noncomputable def zyF52   (x1 : Int32) (x2 : Int32) (s : zy_S) : Option (Int32 × zy_S) :=
some ((0 : Int32), (zy_ua (zy_up (zy_up s 12 4 x1) 12 5 x2) 13 (fun j => if j < 1536 then (-2000000000 : Int32) else (s.1 13) j)))
theorem zyC52 {X : zx_X}     {x1 : Int32} {x2 : Int32} {s : zy_S} {r : Int32} {s' : zy_S}  (h : zyF52 x1 x2 s = some (r, s')) : zyR X 1 52 0 [some (.ref (12 + 3)), some (.int x1), some (.int x2)] [] s (zyE none s') := by
  unfold zyF52 at h
  refine zy_0 rfl rfl (show zyR _ _ _ _ [some (.ref (12 + 3)), some (.int x1), some (.int x2)] [.ref (12 + 3)] _ _ from ?_)
  refine zy_2 rfl rfl (show zyR _ _ _ _ [some (.ref (12 + 3)), some (.int x1), some (.int x2)] [.int x1, .ref (12 + 3)] _ _ from ?_)
  refine zy_52 (c := 12) rfl rfl rfl (show zyR _ _ _ _ [some (.ref (12 + 3)), some (.int x1), some (.int x2)] [] _ _ from ?_)
  refine zy_0 rfl rfl (show zyR _ _ _ _ [some (.ref (12 + 3)), some (.int x1), some (.int x2)] [.ref (12 + 3)] _ _ from ?_)
  refine zy_2 rfl rfl (show zyR _ _ _ _ [some (.ref (12 + 3)), some (.int x1), some (.int x2)] [.int x2, .ref (12 + 3)] _ _ from ?_)
  refine zy_52 (c := 12) rfl rfl rfl (show zyR _ _ _ _ [some (.ref (12 + 3)), some (.int x1), some (.int x2)] [] _ _ from ?_)
  refine zy_0 rfl rfl (show zyR _ _ _ _ [some (.ref (12 + 3)), some (.int x1), some (.int x2)] [.ref (12 + 3)] _ _ from ?_)
  refine zy_1r (c := 12) rfl rfl rfl (show zyR _ _ _ _ [some (.ref (12 + 3)), some (.int x1), some (.int x2)] [.ref (13 + 3)] _ _ from ?_)
  refine zy_3c rfl rfl (show zyR _ _ _ _ [some (.ref (12 + 3)), some (.int x1), some (.int x2)] [.int (-2000000000 : Int32), .ref (13 + 3)] _ _ from ?_)
  refine zy_67 (c := 13) rfl rfl (Nat.le_of_ble_eq_true rfl) (Nat.le_of_ble_eq_true rfl) (Nat.le_of_ble_eq_true rfl) (show zyR _ _ _ _ [some (.ref (12 + 3)), some (.int x1), some (.int x2)] [] _ _ from ?_)
  cases h
  exact zy_66 rfl ⟨rfl, rfl⟩
/-! NineOpinions$Thought.placeOf(III)I -/
noncomputable def zyF56   (x0 : Int32) (x1 : Int32) (x2 : Int32) (s : zy_S) : Option (Int32 × zy_S) :=
(zyF57 x1 x0 s).bind fun p1 =>
(zyF57 (x1 &&& x2) x0 p1.2).bind fun p2 =>
some (((((256 : Int32) * x0) + ((16 : Int32) * p1.1)) + p2.1), p2.2)
theorem zyC56 {X : zx_X}     {x0 : Int32} {x1 : Int32} {x2 : Int32} {s : zy_S} {r : Int32} {s' : zy_S}  (h : zyF56 x0 x1 x2 s = some (r, s')) : zyR X 2 56 0 [some (.int x0), some (.int x1), some (.int x2)] [] s (zyE (some (.int r)) s') := by
  unfold zyF56 at h
  refine zy_3 rfl rfl (show zyR _ _ _ _ [some (.int x0), some (.int x1), some (.int x2)] [.int (256 : Int32)] _ _ from ?_)
  refine zy_2 rfl rfl (show zyR _ _ _ _ [some (.int x0), some (.int x1), some (.int x2)] [.int x0, .int (256 : Int32)] _ _ from ?_)
  refine zy_12 rfl (show zyR _ _ _ _ [some (.int x0), some (.int x1), some (.int x2)] [.int ((256 : Int32) * x0)] _ _ from ?_)
  refine zy_3 rfl rfl (show zyR _ _ _ _ [some (.int x0), some (.int x1), some (.int x2)] [.int (16 : Int32), .int ((256 : Int32) * x0)] _ _ from ?_)
  refine zy_2 rfl rfl (show zyR _ _ _ _ [some (.int x0), some (.int x1), some (.int x2)] [.int x1, .int (16 : Int32), .int ((256 : Int32) * x0)] _ _ from ?_)
  refine zy_2 rfl rfl (show zyR _ _ _ _ [some (.int x0), some (.int x1), some (.int x2)] [.int x0, .int x1, .int (16 : Int32), .int ((256 : Int32) * x0)] _ _ from ?_)
  obtain ⟨p1, hp1, h⟩ := zy_bind h
  refine zy_61 (as := [.int x1, .int x0]) (rest := [.int (16 : Int32), .int ((256 : Int32) * x0)]) (L := [some (.int x1), some (.int x0)]) (d' := 1) rfl rfl (Nat.le_of_ble_eq_true rfl) (Nat.le_of_ble_eq_true rfl) rfl (Nat.le_of_ble_eq_true rfl) rfl rfl (zyC57 hp1) ?_
  show zyR _ _ _ _ [some (.int x0), some (.int x1), some (.int x2)] [.int p1.1, .int (16 : Int32), .int ((256 : Int32) * x0)] _ _
  refine zy_12 rfl (show zyR _ _ _ _ [some (.int x0), some (.int x1), some (.int x2)] [.int ((16 : Int32) * p1.1), .int ((256 : Int32) * x0)] _ _ from ?_)
  refine zy_10 rfl (show zyR _ _ _ _ [some (.int x0), some (.int x1), some (.int x2)] [.int (((256 : Int32) * x0) + ((16 : Int32) * p1.1))] _ _ from ?_)
  refine zy_2 rfl rfl (show zyR _ _ _ _ [some (.int x0), some (.int x1), some (.int x2)] [.int x1, .int (((256 : Int32) * x0) + ((16 : Int32) * p1.1))] _ _ from ?_)
  refine zy_2 rfl rfl (show zyR _ _ _ _ [some (.int x0), some (.int x1), some (.int x2)] [.int x2, .int x1, .int (((256 : Int32) * x0) + ((16 : Int32) * p1.1))] _ _ from ?_)
  refine zy_13 rfl (show zyR _ _ _ _ [some (.int x0), some (.int x1), some (.int x2)] [.int (x1 &&& x2), .int (((256 : Int32) * x0) + ((16 : Int32) * p1.1))] _ _ from ?_)
  refine zy_2 rfl rfl (show zyR _ _ _ _ [some (.int x0), some (.int x1), some (.int x2)] [.int x0, .int (x1 &&& x2), .int (((256 : Int32) * x0) + ((16 : Int32) * p1.1))] _ _ from ?_)
  obtain ⟨p2, hp2, h⟩ := zy_bind h
  refine zy_61 (as := [.int (x1 &&& x2), .int x0]) (rest := [.int (((256 : Int32) * x0) + ((16 : Int32) * p1.1))]) (L := [some (.int (x1 &&& x2)), some (.int x0)]) (d' := 1) rfl rfl (Nat.le_of_ble_eq_true rfl) (Nat.le_of_ble_eq_true rfl) rfl (Nat.le_of_ble_eq_true rfl) rfl rfl (zyC57 hp2) ?_
  show zyR _ _ _ _ [some (.int x0), some (.int x1), some (.int x2)] [.int p2.1, .int (((256 : Int32) * x0) + ((16 : Int32) * p1.1))] _ _
  refine zy_10 rfl (show zyR _ _ _ _ [some (.int x0), some (.int x1), some (.int x2)] [.int ((((256 : Int32) * x0) + ((16 : Int32) * p1.1)) + p2.1)] _ _ from ?_)
  obtain ⟨rfl, rfl⟩ := zy_pi h
  exact zy_4 rfl ⟨rfl, rfl⟩
/-! NineOpinions$Thought.nearest(II)I -/
noncomputable def zyF61_55  (k4 : Int32 → Int32 → Int32 → Int32 → zy_S → Option (Int32 × zy_S)) (x0 : Int32) (x1 : Int32) (x3 : Int32) (y0 : Int32) (s : zy_S) : Option (Int32 × zy_S) :=
k4 x0 x1 y0 (x3 + (1 : Int32)) s
theorem zyC61_55 {X : zx_X}  {k4 : Int32 → Int32 → Int32 → Int32 → zy_S → Option (Int32 × zy_S)}  (hk4 : ∀ (x0 : Int32) (x1 : Int32) (x2 : Int32) (x3 : Int32) (s : zy_S) (r : Int32) (s' : zy_S), k4 x0 x1 x2 x3 s = some (r, s') → zyR X 2 61 4 [some (.int x0), some (.int x1), some (.int x2), some (.int x3), none] [] s (zyE (some (.int r)) s')) {x0 : Int32} {x1 : Int32} {x3 : Int32} {y0 : Int32} {s : zy_S} {r : Int32} {s' : zy_S}  (h : zyF61_55 k4 x0 x1 x3 y0 s = some (r, s')) : zyR X 2 61 55 [some (.int x0), some (.int x1), none, some (.int x3), none] [.int y0] s (zyE (some (.int r)) s') := by
  unfold zyF61_55 at h
  refine zy_23 rfl rfl (show zyR _ _ _ _ [some (.int x0), some (.int x1), some (.int y0), some (.int x3), none] [] _ _ from ?_)
  refine zy_22 rfl rfl rfl rfl (show zyR _ _ _ _ [some (.int x0), some (.int x1), some (.int y0), some (.int (x3 + (1 : Int32))), none] [] _ _ from ?_)
  refine zy_6 rfl (show zyR _ _ _ _ [some (.int x0), some (.int x1), some (.int y0), some (.int (x3 + (1 : Int32))), none] [] _ _ from ?_)
  exact zy_sub (show zy_le [some (.int x0), some (.int x1), some (.int y0), some (.int (x3 + (1 : Int32))), none] [some (.int x0), some (.int x1), some (.int y0), some (.int (x3 + (1 : Int32))), none] from ⟨rfl, ⟨rfl, ⟨rfl, ⟨rfl, trivial⟩⟩⟩⟩) (hk4 x0 x1 y0 (x3 + (1 : Int32)) s _ _ h)
noncomputable def zyF61_54  (k4 : Int32 → Int32 → Int32 → Int32 → zy_S → Option (Int32 × zy_S)) (x0 : Int32) (x1 : Int32) (x2 : Int32) (x3 : Int32) (s : zy_S) : Option (Int32 × zy_S) :=
zyF61_55 k4 x0 x1 x3 x2 s
theorem zyC61_54 {X : zx_X}  {k4 : Int32 → Int32 → Int32 → Int32 → zy_S → Option (Int32 × zy_S)}  (hk4 : ∀ (x0 : Int32) (x1 : Int32) (x2 : Int32) (x3 : Int32) (s : zy_S) (r : Int32) (s' : zy_S), k4 x0 x1 x2 x3 s = some (r, s') → zyR X 2 61 4 [some (.int x0), some (.int x1), some (.int x2), some (.int x3), none] [] s (zyE (some (.int r)) s')) {x0 : Int32} {x1 : Int32} {x2 : Int32} {x3 : Int32} {s : zy_S} {r : Int32} {s' : zy_S}  (h : zyF61_54 k4 x0 x1 x2 x3 s = some (r, s')) : zyR X 2 61 54 [some (.int x0), some (.int x1), some (.int x2), some (.int x3), none] [] s (zyE (some (.int r)) s') := by
  unfold zyF61_54 at h
  refine zy_2 rfl rfl (show zyR _ _ _ _ [some (.int x0), some (.int x1), some (.int x2), some (.int x3), none] [.int x2] _ _ from ?_)
  exact zy_sub (show zy_le [some (.int x0), some (.int x1), none, some (.int x3), none] [some (.int x0), some (.int x1), some (.int x2), some (.int x3), none] from ⟨rfl, ⟨rfl, ⟨rfl, trivial⟩⟩⟩) (zyC61_55 hk4 h)
noncomputable def zyF61_34  (k4 : Int32 → Int32 → Int32 → Int32 → zy_S → Option (Int32 × zy_S)) (x0 : Int32) (x1 : Int32) (x2 : Int32) (x3 : Int32) (y0 : Int32) (s : zy_S) : Option (Int32 × zy_S) :=
if y0 = 0 then
zyF61_54 k4 x0 x1 x2 x3 s
else
(zyF32 x1 x3 s).bind fun p1 =>
if p1.1 ≠ (1 : Int32) then
zyF61_54 k4 x0 x1 x2 x3 p1.2
else
zyF61_55 k4 x0 x1 x3 x3 p1.2
theorem zyC61_34 {X : zx_X}  {k4 : Int32 → Int32 → Int32 → Int32 → zy_S → Option (Int32 × zy_S)}  (hk4 : ∀ (x0 : Int32) (x1 : Int32) (x2 : Int32) (x3 : Int32) (s : zy_S) (r : Int32) (s' : zy_S), k4 x0 x1 x2 x3 s = some (r, s') → zyR X 2 61 4 [some (.int x0), some (.int x1), some (.int x2), some (.int x3), none] [] s (zyE (some (.int r)) s')) {x0 : Int32} {x1 : Int32} {x2 : Int32} {x3 : Int32} {y0 : Int32} {s : zy_S} {r : Int32} {s' : zy_S}  (h : zyF61_34 k4 x0 x1 x2 x3 y0 s = some (r, s')) : zyR X 2 61 34 [some (.int x0), some (.int x1), some (.int x2), some (.int x3), none] [.int y0] s (zyE (some (.int r)) s') := by
  unfold zyF61_34 at h
  refine zy_23 rfl rfl (show zyR _ _ _ _ [some (.int x0), some (.int x1), some (.int x2), some (.int x3), some (.int y0)] [] _ _ from ?_)
  refine zy_2 rfl rfl (show zyR _ _ _ _ [some (.int x0), some (.int x1), some (.int x2), some (.int x3), some (.int y0)] [.int y0] _ _ from ?_)
  refine zy_24_0 rfl (fun b3 => (show zyR _ _ _ _ [some (.int x0), some (.int x1), some (.int x2), some (.int x3), some (.int y0)] [] _ _ from ?_)) (fun b3 => (show zyR _ _ _ _ [some (.int x0), some (.int x1), some (.int x2), some (.int x3), some (.int y0)] [] _ _ from ?_))
  · replace h := zy_ifp h b3
    exact zy_sub (show zy_le [some (.int x0), some (.int x1), some (.int x2), some (.int x3), none] [some (.int x0), some (.int x1), some (.int x2), some (.int x3), some (.int y0)] from ⟨rfl, ⟨rfl, ⟨rfl, ⟨rfl, trivial⟩⟩⟩⟩) (zyC61_54 hk4 h)
  · replace h := zy_ifn h b3
    refine zy_2 rfl rfl (show zyR _ _ _ _ [some (.int x0), some (.int x1), some (.int x2), some (.int x3), some (.int y0)] [.int x1] _ _ from ?_)
    refine zy_2 rfl rfl (show zyR _ _ _ _ [some (.int x0), some (.int x1), some (.int x2), some (.int x3), some (.int y0)] [.int x3, .int x1] _ _ from ?_)
    obtain ⟨p1, hp1, h⟩ := zy_bind h
    refine zy_61 (as := [.int x1, .int x3]) (rest := []) (L := [some (.int x1), some (.int x3)]) (d' := 1) rfl rfl (Nat.le_of_ble_eq_true rfl) (Nat.le_of_ble_eq_true rfl) rfl (Nat.le_of_ble_eq_true rfl) rfl rfl (zyC32 hp1) ?_
    show zyR _ _ _ _ [some (.int x0), some (.int x1), some (.int x2), some (.int x3), some (.int y0)] [.int p1.1] _ _
    refine zy_3 rfl rfl (show zyR _ _ _ _ [some (.int x0), some (.int x1), some (.int x2), some (.int x3), some (.int y0)] [.int (1 : Int32), .int p1.1] _ _ from ?_)
    refine zy_25_1 rfl (fun b2 => (show zyR _ _ _ _ [some (.int x0), some (.int x1), some (.int x2), some (.int x3), some (.int y0)] [] _ _ from ?_)) (fun b2 => (show zyR _ _ _ _ [some (.int x0), some (.int x1), some (.int x2), some (.int x3), some (.int y0)] [] _ _ from ?_))
    · replace h := zy_ifp h b2
      exact zy_sub (show zy_le [some (.int x0), some (.int x1), some (.int x2), some (.int x3), none] [some (.int x0), some (.int x1), some (.int x2), some (.int x3), some (.int y0)] from ⟨rfl, ⟨rfl, ⟨rfl, ⟨rfl, trivial⟩⟩⟩⟩) (zyC61_54 hk4 h)
    · replace h := zy_ifn h b2
      refine zy_2 rfl rfl (show zyR _ _ _ _ [some (.int x0), some (.int x1), some (.int x2), some (.int x3), some (.int y0)] [.int x3] _ _ from ?_)
      refine zy_6 rfl (show zyR _ _ _ _ [some (.int x0), some (.int x1), some (.int x2), some (.int x3), some (.int y0)] [.int x3] _ _ from ?_)
      exact zy_sub (show zy_le [some (.int x0), some (.int x1), none, some (.int x3), none] [some (.int x0), some (.int x1), some (.int x2), some (.int x3), some (.int y0)] from ⟨rfl, ⟨rfl, ⟨rfl, trivial⟩⟩⟩) (zyC61_55 hk4 h)
noncomputable def zyF61_29  (k4 : Int32 → Int32 → Int32 → Int32 → zy_S → Option (Int32 × zy_S)) (x0 : Int32) (x1 : Int32) (x2 : Int32) (x3 : Int32) (s : zy_S) : Option (Int32 × zy_S) :=
zyF61_34 k4 x0 x1 x2 x3 (1 : Int32) s
theorem zyC61_29 {X : zx_X}  {k4 : Int32 → Int32 → Int32 → Int32 → zy_S → Option (Int32 × zy_S)}  (hk4 : ∀ (x0 : Int32) (x1 : Int32) (x2 : Int32) (x3 : Int32) (s : zy_S) (r : Int32) (s' : zy_S), k4 x0 x1 x2 x3 s = some (r, s') → zyR X 2 61 4 [some (.int x0), some (.int x1), some (.int x2), some (.int x3), none] [] s (zyE (some (.int r)) s')) {x0 : Int32} {x1 : Int32} {x2 : Int32} {x3 : Int32} {s : zy_S} {r : Int32} {s' : zy_S}  (h : zyF61_29 k4 x0 x1 x2 x3 s = some (r, s')) : zyR X 2 61 29 [some (.int x0), some (.int x1), some (.int x2), some (.int x3), none] [] s (zyE (some (.int r)) s') := by
  unfold zyF61_29 at h
  refine zy_3 rfl rfl (show zyR _ _ _ _ [some (.int x0), some (.int x1), some (.int x2), some (.int x3), none] [.int (1 : Int32)] _ _ from ?_)
  refine zy_6 rfl (show zyR _ _ _ _ [some (.int x0), some (.int x1), some (.int x2), some (.int x3), none] [.int (1 : Int32)] _ _ from ?_)
  exact zy_sub (show zy_le [some (.int x0), some (.int x1), some (.int x2), some (.int x3), none] [some (.int x0), some (.int x1), some (.int x2), some (.int x3), none] from ⟨rfl, ⟨rfl, ⟨rfl, ⟨rfl, trivial⟩⟩⟩⟩) (zyC61_34 hk4 h)
noncomputable def zyF61_4b  (k4 : Int32 → Int32 → Int32 → Int32 → zy_S → Option (Int32 × zy_S)) (x0 : Int32) (x1 : Int32) (x2 : Int32) (x3 : Int32) (s : zy_S) : Option (Int32 × zy_S) :=
if (4 : Int32) ≤ x3 then
some (x2, s)
else
if x2 = (-1 : Int32) then
zyF61_29 k4 x0 x1 x2 x3 s
else
(zyF62 (x3 - x0) s).bind fun p4 =>
(zyF62 (x2 - x0) p4.2).bind fun p5 =>
if p5.1 ≤ p4.1 then
zyF61_34 k4 x0 x1 x2 x3 (0 : Int32) p5.2
else
zyF61_29 k4 x0 x1 x2 x3 p5.2
theorem zyC61_4b {X : zx_X}  {k4 : Int32 → Int32 → Int32 → Int32 → zy_S → Option (Int32 × zy_S)}  (hk4 : ∀ (x0 : Int32) (x1 : Int32) (x2 : Int32) (x3 : Int32) (s : zy_S) (r : Int32) (s' : zy_S), k4 x0 x1 x2 x3 s = some (r, s') → zyR X 2 61 4 [some (.int x0), some (.int x1), some (.int x2), some (.int x3), none] [] s (zyE (some (.int r)) s')) {x0 : Int32} {x1 : Int32} {x2 : Int32} {x3 : Int32} {s : zy_S} {r : Int32} {s' : zy_S}  (h : zyF61_4b k4 x0 x1 x2 x3 s = some (r, s')) : zyR X 2 61 4 [some (.int x0), some (.int x1), some (.int x2), some (.int x3), none] [] s (zyE (some (.int r)) s') := by
  unfold zyF61_4b at h
  refine zy_2 rfl rfl (show zyR _ _ _ _ [some (.int x0), some (.int x1), some (.int x2), some (.int x3), none] [.int x3] _ _ from ?_)
  refine zy_3 rfl rfl (show zyR _ _ _ _ [some (.int x0), some (.int x1), some (.int x2), some (.int x3), none] [.int (4 : Int32), .int x3] _ _ from ?_)
  refine zy_25_3 rfl (fun b8 => (show zyR _ _ _ _ [some (.int x0), some (.int x1), some (.int x2), some (.int x3), none] [] _ _ from ?_)) (fun b8 => (show zyR _ _ _ _ [some (.int x0), some (.int x1), some (.int x2), some (.int x3), none] [] _ _ from ?_))
  · replace h := zy_ifp h b8
    refine zy_2 rfl rfl (show zyR _ _ _ _ [some (.int x0), some (.int x1), some (.int x2), some (.int x3), none] [.int x2] _ _ from ?_)
    obtain ⟨rfl, rfl⟩ := zy_pi h
    exact zy_4 rfl ⟨rfl, rfl⟩
  · replace h := zy_ifn h b8
    refine zy_2 rfl rfl (show zyR _ _ _ _ [some (.int x0), some (.int x1), some (.int x2), some (.int x3), none] [.int x2] _ _ from ?_)
    refine zy_3 rfl rfl (show zyR _ _ _ _ [some (.int x0), some (.int x1), some (.int x2), some (.int x3), none] [.int (-1 : Int32), .int x2] _ _ from ?_)
    refine zy_25_0 rfl (fun b7 => (show zyR _ _ _ _ [some (.int x0), some (.int x1), some (.int x2), some (.int x3), none] [] _ _ from ?_)) (fun b7 => (show zyR _ _ _ _ [some (.int x0), some (.int x1), some (.int x2), some (.int x3), none] [] _ _ from ?_))
    · replace h := zy_ifp h b7
      exact zy_sub (show zy_le [some (.int x0), some (.int x1), some (.int x2), some (.int x3), none] [some (.int x0), some (.int x1), some (.int x2), some (.int x3), none] from ⟨rfl, ⟨rfl, ⟨rfl, ⟨rfl, trivial⟩⟩⟩⟩) (zyC61_29 hk4 h)
    · replace h := zy_ifn h b7
      refine zy_2 rfl rfl (show zyR _ _ _ _ [some (.int x0), some (.int x1), some (.int x2), some (.int x3), none] [.int x3] _ _ from ?_)
      refine zy_2 rfl rfl (show zyR _ _ _ _ [some (.int x0), some (.int x1), some (.int x2), some (.int x3), none] [.int x0, .int x3] _ _ from ?_)
      refine zy_11 rfl (show zyR _ _ _ _ [some (.int x0), some (.int x1), some (.int x2), some (.int x3), none] [.int (x3 - x0)] _ _ from ?_)
      obtain ⟨p4, hp4, h⟩ := zy_bind h
      refine zy_60 (as := [.int (x3 - x0)]) (rest := []) (L := [some (.int (x3 - x0))]) (d' := 1) rfl rfl (Nat.le_of_ble_eq_true rfl) (Nat.le_of_ble_eq_true rfl) rfl (Nat.le_of_ble_eq_true rfl) rfl rfl (zyC62 hp4) ?_
      show zyR _ _ _ _ [some (.int x0), some (.int x1), some (.int x2), some (.int x3), none] [.int p4.1] _ _
      refine zy_2 rfl rfl (show zyR _ _ _ _ [some (.int x0), some (.int x1), some (.int x2), some (.int x3), none] [.int x2, .int p4.1] _ _ from ?_)
      refine zy_2 rfl rfl (show zyR _ _ _ _ [some (.int x0), some (.int x1), some (.int x2), some (.int x3), none] [.int x0, .int x2, .int p4.1] _ _ from ?_)
      refine zy_11 rfl (show zyR _ _ _ _ [some (.int x0), some (.int x1), some (.int x2), some (.int x3), none] [.int (x2 - x0), .int p4.1] _ _ from ?_)
      obtain ⟨p5, hp5, h⟩ := zy_bind h
      refine zy_60 (as := [.int (x2 - x0)]) (rest := [.int p4.1]) (L := [some (.int (x2 - x0))]) (d' := 1) rfl rfl (Nat.le_of_ble_eq_true rfl) (Nat.le_of_ble_eq_true rfl) rfl (Nat.le_of_ble_eq_true rfl) rfl rfl (zyC62 hp5) ?_
      show zyR _ _ _ _ [some (.int x0), some (.int x1), some (.int x2), some (.int x3), none] [.int p5.1, .int p4.1] _ _
      refine zy_25_3 rfl (fun b6 => (show zyR _ _ _ _ [some (.int x0), some (.int x1), some (.int x2), some (.int x3), none] [] _ _ from ?_)) (fun b6 => (show zyR _ _ _ _ [some (.int x0), some (.int x1), some (.int x2), some (.int x3), none] [] _ _ from ?_))
      · replace h := zy_ifp h b6
        refine zy_3 rfl rfl (show zyR _ _ _ _ [some (.int x0), some (.int x1), some (.int x2), some (.int x3), none] [.int (0 : Int32)] _ _ from ?_)
        exact zy_sub (show zy_le [some (.int x0), some (.int x1), some (.int x2), some (.int x3), none] [some (.int x0), some (.int x1), some (.int x2), some (.int x3), none] from ⟨rfl, ⟨rfl, ⟨rfl, ⟨rfl, trivial⟩⟩⟩⟩) (zyC61_34 hk4 h)
      · replace h := zy_ifn h b6
        exact zy_sub (show zy_le [some (.int x0), some (.int x1), some (.int x2), some (.int x3), none] [some (.int x0), some (.int x1), some (.int x2), some (.int x3), none] from ⟨rfl, ⟨rfl, ⟨rfl, ⟨rfl, trivial⟩⟩⟩⟩) (zyC61_29 hk4 h)
noncomputable def zyF61_4   (n : Nat) : Int32 → Int32 → Int32 → Int32 → zy_S → Option (Int32 × zy_S) := Nat.rec (fun _ _ _ _ _ => none) (fun _ k4 => zyF61_4b k4) n
theorem zyC61_4 {X : zx_X}     : ∀ (n : Nat) (x0 : Int32) (x1 : Int32) (x2 : Int32) (x3 : Int32) (s : zy_S) (r : Int32) (s' : zy_S), zyF61_4 n x0 x1 x2 x3 s = some (r, s') → zyR X 2 61 4 [some (.int x0), some (.int x1), some (.int x2), some (.int x3), none] [] s (zyE (some (.int r)) s')
  | 0, _, _, _, _ => by
    intro s r s'  h
    have h : (none : Option (Int32 × zy_S)) = some (r, s') := h
    cases h
  | n + 1, x0, x1, x2, x3 => by
    intro s r s'  h
    exact zyC61_4b (k4 := zyF61_4 n) (fun x0 x1 x2 x3 s r s'  h => zyC61_4  n x0 x1 x2 x3 s r s'  h) h
noncomputable def zyF61   (x0 : Int32) (x1 : Int32) (s : zy_S) : Option (Int32 × zy_S) :=
zyF61_4 zy_fu x0 x1 (-1 : Int32) (0 : Int32) s
theorem zyC61 {X : zx_X}     {x0 : Int32} {x1 : Int32} {s : zy_S} {r : Int32} {s' : zy_S}  (h : zyF61 x0 x1 s = some (r, s')) : zyR X 2 61 0 [some (.int x0), some (.int x1), none, none, none] [] s (zyE (some (.int r)) s') := by
  unfold zyF61 at h
  refine zy_3 rfl rfl (show zyR _ _ _ _ [some (.int x0), some (.int x1), none, none, none] [.int (-1 : Int32)] _ _ from ?_)
  refine zy_23 rfl rfl (show zyR _ _ _ _ [some (.int x0), some (.int x1), some (.int (-1 : Int32)), none, none] [] _ _ from ?_)
  refine zy_3 rfl rfl (show zyR _ _ _ _ [some (.int x0), some (.int x1), some (.int (-1 : Int32)), none, none] [.int (0 : Int32)] _ _ from ?_)
  refine zy_23 rfl rfl (show zyR _ _ _ _ [some (.int x0), some (.int x1), some (.int (-1 : Int32)), some (.int (0 : Int32)), none] [] _ _ from ?_)
  exact zy_sub (show zy_le [some (.int x0), some (.int x1), some (.int (-1 : Int32)), some (.int (0 : Int32)), none] [some (.int x0), some (.int x1), some (.int (-1 : Int32)), some (.int (0 : Int32)), none] from ⟨rfl, ⟨rfl, ⟨rfl, ⟨rfl, trivial⟩⟩⟩⟩) (zyC61_4 zy_fu x0 x1 (-1 : Int32) (0 : Int32) s _ _ h)
/-! NineOpinions$Law.hear(IIIIII)V -/
noncomputable def zyF64   (x1 : Int32) (x2 : Int32) (x3 : Int32) (x4 : Int32) (x5 : Int32) (x6 : Int32) (s : zy_S) : Option (Int32 × zy_S) :=
some ((0 : Int32), (zy_up (zy_up (zy_up (zy_up (zy_up (zy_up s 8 0 x1) 8 1 x2) 8 2 x3) 8 3 x4) 8 4 x5) 8 5 x6))
theorem zyC64 {X : zx_X}     {x1 : Int32} {x2 : Int32} {x3 : Int32} {x4 : Int32} {x5 : Int32} {x6 : Int32} {s : zy_S} {r : Int32} {s' : zy_S}  (h : zyF64 x1 x2 x3 x4 x5 x6 s = some (r, s')) : zyR X 1 64 0 [some (.ref (5 + 3)), some (.int x1), some (.int x2), some (.int x3), some (.int x4), some (.int x5), some (.int x6)] [] s (zyE none s') := by
  unfold zyF64 at h
  refine zy_0 rfl rfl (show zyR _ _ _ _ [some (.ref (5 + 3)), some (.int x1), some (.int x2), some (.int x3), some (.int x4), some (.int x5), some (.int x6)] [.ref (5 + 3)] _ _ from ?_)
  refine zy_1r (c := 5) rfl rfl rfl (show zyR _ _ _ _ [some (.ref (5 + 3)), some (.int x1), some (.int x2), some (.int x3), some (.int x4), some (.int x5), some (.int x6)] [.ref (8 + 3)] _ _ from ?_)
  refine zy_3 rfl rfl (show zyR _ _ _ _ [some (.ref (5 + 3)), some (.int x1), some (.int x2), some (.int x3), some (.int x4), some (.int x5), some (.int x6)] [.int (0 : Int32), .ref (8 + 3)] _ _ from ?_)
  refine zy_2 rfl rfl (show zyR _ _ _ _ [some (.ref (5 + 3)), some (.int x1), some (.int x2), some (.int x3), some (.int x4), some (.int x5), some (.int x6)] [.int x1, .int (0 : Int32), .ref (8 + 3)] _ _ from ?_)
  refine zy_27 (c := 8) rfl rfl (by decide) (show zyR _ _ _ _ [some (.ref (5 + 3)), some (.int x1), some (.int x2), some (.int x3), some (.int x4), some (.int x5), some (.int x6)] [] _ _ from ?_)
  refine zy_0 rfl rfl (show zyR _ _ _ _ [some (.ref (5 + 3)), some (.int x1), some (.int x2), some (.int x3), some (.int x4), some (.int x5), some (.int x6)] [.ref (5 + 3)] _ _ from ?_)
  refine zy_1r (c := 5) rfl rfl rfl (show zyR _ _ _ _ [some (.ref (5 + 3)), some (.int x1), some (.int x2), some (.int x3), some (.int x4), some (.int x5), some (.int x6)] [.ref (8 + 3)] _ _ from ?_)
  refine zy_3 rfl rfl (show zyR _ _ _ _ [some (.ref (5 + 3)), some (.int x1), some (.int x2), some (.int x3), some (.int x4), some (.int x5), some (.int x6)] [.int (1 : Int32), .ref (8 + 3)] _ _ from ?_)
  refine zy_2 rfl rfl (show zyR _ _ _ _ [some (.ref (5 + 3)), some (.int x1), some (.int x2), some (.int x3), some (.int x4), some (.int x5), some (.int x6)] [.int x2, .int (1 : Int32), .ref (8 + 3)] _ _ from ?_)
  refine zy_27 (c := 8) rfl rfl (by decide) (show zyR _ _ _ _ [some (.ref (5 + 3)), some (.int x1), some (.int x2), some (.int x3), some (.int x4), some (.int x5), some (.int x6)] [] _ _ from ?_)
  refine zy_0 rfl rfl (show zyR _ _ _ _ [some (.ref (5 + 3)), some (.int x1), some (.int x2), some (.int x3), some (.int x4), some (.int x5), some (.int x6)] [.ref (5 + 3)] _ _ from ?_)
  refine zy_1r (c := 5) rfl rfl rfl (show zyR _ _ _ _ [some (.ref (5 + 3)), some (.int x1), some (.int x2), some (.int x3), some (.int x4), some (.int x5), some (.int x6)] [.ref (8 + 3)] _ _ from ?_)
  refine zy_3 rfl rfl (show zyR _ _ _ _ [some (.ref (5 + 3)), some (.int x1), some (.int x2), some (.int x3), some (.int x4), some (.int x5), some (.int x6)] [.int (2 : Int32), .ref (8 + 3)] _ _ from ?_)
  refine zy_2 rfl rfl (show zyR _ _ _ _ [some (.ref (5 + 3)), some (.int x1), some (.int x2), some (.int x3), some (.int x4), some (.int x5), some (.int x6)] [.int x3, .int (2 : Int32), .ref (8 + 3)] _ _ from ?_)
  refine zy_27 (c := 8) rfl rfl (by decide) (show zyR _ _ _ _ [some (.ref (5 + 3)), some (.int x1), some (.int x2), some (.int x3), some (.int x4), some (.int x5), some (.int x6)] [] _ _ from ?_)
  refine zy_0 rfl rfl (show zyR _ _ _ _ [some (.ref (5 + 3)), some (.int x1), some (.int x2), some (.int x3), some (.int x4), some (.int x5), some (.int x6)] [.ref (5 + 3)] _ _ from ?_)
  refine zy_1r (c := 5) rfl rfl rfl (show zyR _ _ _ _ [some (.ref (5 + 3)), some (.int x1), some (.int x2), some (.int x3), some (.int x4), some (.int x5), some (.int x6)] [.ref (8 + 3)] _ _ from ?_)
  refine zy_3 rfl rfl (show zyR _ _ _ _ [some (.ref (5 + 3)), some (.int x1), some (.int x2), some (.int x3), some (.int x4), some (.int x5), some (.int x6)] [.int (3 : Int32), .ref (8 + 3)] _ _ from ?_)
  refine zy_2 rfl rfl (show zyR _ _ _ _ [some (.ref (5 + 3)), some (.int x1), some (.int x2), some (.int x3), some (.int x4), some (.int x5), some (.int x6)] [.int x4, .int (3 : Int32), .ref (8 + 3)] _ _ from ?_)
  refine zy_27 (c := 8) rfl rfl (by decide) (show zyR _ _ _ _ [some (.ref (5 + 3)), some (.int x1), some (.int x2), some (.int x3), some (.int x4), some (.int x5), some (.int x6)] [] _ _ from ?_)
  refine zy_0 rfl rfl (show zyR _ _ _ _ [some (.ref (5 + 3)), some (.int x1), some (.int x2), some (.int x3), some (.int x4), some (.int x5), some (.int x6)] [.ref (5 + 3)] _ _ from ?_)
  refine zy_1r (c := 5) rfl rfl rfl (show zyR _ _ _ _ [some (.ref (5 + 3)), some (.int x1), some (.int x2), some (.int x3), some (.int x4), some (.int x5), some (.int x6)] [.ref (8 + 3)] _ _ from ?_)
  refine zy_3 rfl rfl (show zyR _ _ _ _ [some (.ref (5 + 3)), some (.int x1), some (.int x2), some (.int x3), some (.int x4), some (.int x5), some (.int x6)] [.int (4 : Int32), .ref (8 + 3)] _ _ from ?_)
  refine zy_2 rfl rfl (show zyR _ _ _ _ [some (.ref (5 + 3)), some (.int x1), some (.int x2), some (.int x3), some (.int x4), some (.int x5), some (.int x6)] [.int x5, .int (4 : Int32), .ref (8 + 3)] _ _ from ?_)
  refine zy_27 (c := 8) rfl rfl (by decide) (show zyR _ _ _ _ [some (.ref (5 + 3)), some (.int x1), some (.int x2), some (.int x3), some (.int x4), some (.int x5), some (.int x6)] [] _ _ from ?_)
  refine zy_0 rfl rfl (show zyR _ _ _ _ [some (.ref (5 + 3)), some (.int x1), some (.int x2), some (.int x3), some (.int x4), some (.int x5), some (.int x6)] [.ref (5 + 3)] _ _ from ?_)
  refine zy_1r (c := 5) rfl rfl rfl (show zyR _ _ _ _ [some (.ref (5 + 3)), some (.int x1), some (.int x2), some (.int x3), some (.int x4), some (.int x5), some (.int x6)] [.ref (8 + 3)] _ _ from ?_)
  refine zy_3 rfl rfl (show zyR _ _ _ _ [some (.ref (5 + 3)), some (.int x1), some (.int x2), some (.int x3), some (.int x4), some (.int x5), some (.int x6)] [.int (5 : Int32), .ref (8 + 3)] _ _ from ?_)
  refine zy_2 rfl rfl (show zyR _ _ _ _ [some (.ref (5 + 3)), some (.int x1), some (.int x2), some (.int x3), some (.int x4), some (.int x5), some (.int x6)] [.int x6, .int (5 : Int32), .ref (8 + 3)] _ _ from ?_)
  refine zy_27 (c := 8) rfl rfl (by decide) (show zyR _ _ _ _ [some (.ref (5 + 3)), some (.int x1), some (.int x2), some (.int x3), some (.int x4), some (.int x5), some (.int x6)] [] _ _ from ?_)
  cases h
  exact zy_66 rfl ⟨rfl, rfl⟩
end
section
/-! PART 41.32: methods as functions. Made by wip/v4/dcp.py. -/
/-! NineOpinions$Thought.tellLaw(IIII)V -/
noncomputable def zyF59_90   (x1 : Int32) (x2 : Int32) (x3 : Int32) (x5 : Int32) (x7 : Int32) (y0 : Int32) (s : zy_S) : Option (Int32 × zy_S) :=
if zy_in x1 8 then
(zyF63 x3 s).bind fun p2 =>
(zyF64 x7 (s.1 4 (x1).toNatClampNeg) x2 y0 p2.1 x5 p2.2).bind fun p3 =>
some ((0 : Int32), p3.2)
else none
theorem zyC59_90 {X : zx_X}     {x1 : Int32} {x2 : Int32} {x3 : Int32} {x5 : Int32} {x7 : Int32} {y0 : Int32} {s : zy_S} {r : Int32} {s' : zy_S}  (h : zyF59_90 x1 x2 x3 x5 x7 y0 s = some (r, s')) : zyR X 3 59 90 [some (.ref (12 + 3)), some (.int x1), some (.int x2), some (.int x3), none, some (.int x5), none, some (.int x7), none, none] [.int y0] s (zyE none s') := by
  unfold zyF59_90 at h
  refine zy_23 rfl rfl (show zyR _ _ _ _ [some (.ref (12 + 3)), some (.int x1), some (.int x2), some (.int x3), none, some (.int x5), none, some (.int x7), none, some (.int y0)] [] _ _ from ?_)
  refine zy_0 rfl rfl (show zyR _ _ _ _ [some (.ref (12 + 3)), some (.int x1), some (.int x2), some (.int x3), none, some (.int x5), none, some (.int x7), none, some (.int y0)] [.ref (12 + 3)] _ _ from ?_)
  refine zy_1r (c := 12) rfl rfl rfl (show zyR _ _ _ _ [some (.ref (12 + 3)), some (.int x1), some (.int x2), some (.int x3), none, some (.int x5), none, some (.int x7), none, some (.int y0)] [.ref (5 + 3)] _ _ from ?_)
  refine zy_2 rfl rfl (show zyR _ _ _ _ [some (.ref (12 + 3)), some (.int x1), some (.int x2), some (.int x3), none, some (.int x5), none, some (.int x7), none, some (.int y0)] [.int x7, .ref (5 + 3)] _ _ from ?_)
  refine zy_0 rfl rfl (show zyR _ _ _ _ [some (.ref (12 + 3)), some (.int x1), some (.int x2), some (.int x3), none, some (.int x5), none, some (.int x7), none, some (.int y0)] [.ref (12 + 3), .int x7, .ref (5 + 3)] _ _ from ?_)
  refine zy_1r (c := 12) rfl rfl rfl (show zyR _ _ _ _ [some (.ref (12 + 3)), some (.int x1), some (.int x2), some (.int x3), none, some (.int x5), none, some (.int x7), none, some (.int y0)] [.ref (1 + 3), .int x7, .ref (5 + 3)] _ _ from ?_)
  refine zy_1r (c := 1) rfl rfl rfl (show zyR _ _ _ _ [some (.ref (12 + 3)), some (.int x1), some (.int x2), some (.int x3), none, some (.int x5), none, some (.int x7), none, some (.int y0)] [.ref (4 + 3), .int x7, .ref (5 + 3)] _ _ from ?_)
  refine zy_2 rfl rfl (show zyR _ _ _ _ [some (.ref (12 + 3)), some (.int x1), some (.int x2), some (.int x3), none, some (.int x5), none, some (.int x7), none, some (.int y0)] [.int x1, .ref (4 + 3), .int x7, .ref (5 + 3)] _ _ from ?_)
  obtain ⟨c1, h⟩ := zy_if h
  refine zy_26 (c := 4) rfl rfl c1 (show zyR _ _ _ _ [some (.ref (12 + 3)), some (.int x1), some (.int x2), some (.int x3), none, some (.int x5), none, some (.int x7), none, some (.int y0)] [.int (s.1 4 (x1).toNatClampNeg), .int x7, .ref (5 + 3)] _ _ from ?_)
  refine zy_2 rfl rfl (show zyR _ _ _ _ [some (.ref (12 + 3)), some (.int x1), some (.int x2), some (.int x3), none, some (.int x5), none, some (.int x7), none, some (.int y0)] [.int x2, .int (s.1 4 (x1).toNatClampNeg), .int x7, .ref (5 + 3)] _ _ from ?_)
  refine zy_2 rfl rfl (show zyR _ _ _ _ [some (.ref (12 + 3)), some (.int x1), some (.int x2), some (.int x3), none, some (.int x5), none, some (.int x7), none, some (.int y0)] [.int y0, .int x2, .int (s.1 4 (x1).toNatClampNeg), .int x7, .ref (5 + 3)] _ _ from ?_)
  refine zy_2 rfl rfl (show zyR _ _ _ _ [some (.ref (12 + 3)), some (.int x1), some (.int x2), some (.int x3), none, some (.int x5), none, some (.int x7), none, some (.int y0)] [.int x3, .int y0, .int x2, .int (s.1 4 (x1).toNatClampNeg), .int x7, .ref (5 + 3)] _ _ from ?_)
  obtain ⟨p2, hp2, h⟩ := zy_bind h
  refine zy_60 (as := [.int x3]) (rest := [.int y0, .int x2, .int (s.1 4 (x1).toNatClampNeg), .int x7, .ref (5 + 3)]) (L := [some (.int x3)]) (d' := 1) rfl rfl (Nat.le_of_ble_eq_true rfl) (Nat.le_of_ble_eq_true rfl) rfl (Nat.le_of_ble_eq_true rfl) rfl rfl (zyC63 hp2) ?_
  show zyR _ _ _ _ [some (.ref (12 + 3)), some (.int x1), some (.int x2), some (.int x3), none, some (.int x5), none, some (.int x7), none, some (.int y0)] [.int p2.1, .int y0, .int x2, .int (s.1 4 (x1).toNatClampNeg), .int x7, .ref (5 + 3)] _ _
  refine zy_2 rfl rfl (show zyR _ _ _ _ [some (.ref (12 + 3)), some (.int x1), some (.int x2), some (.int x3), none, some (.int x5), none, some (.int x7), none, some (.int y0)] [.int x5, .int p2.1, .int y0, .int x2, .int (s.1 4 (x1).toNatClampNeg), .int x7, .ref (5 + 3)] _ _ from ?_)
  obtain ⟨p3, hp3, h⟩ := zy_bind h
  refine zy_5 (c := 5) (as := [.int x7, .int (s.1 4 (x1).toNatClampNeg), .int x2, .int y0, .int p2.1, .int x5]) (rest := []) (L := [some (.ref (5 + 3)), some (.int x7), some (.int (s.1 4 (x1).toNatClampNeg)), some (.int x2), some (.int y0), some (.int p2.1), some (.int x5)]) (d' := 1) rfl rfl rfl (Nat.le_of_ble_eq_true rfl) (Nat.le_of_ble_eq_true rfl) rfl (Nat.le_of_ble_eq_true rfl) rfl rfl (zyC64 hp3) ?_
  show zyR _ _ _ _ [some (.ref (12 + 3)), some (.int x1), some (.int x2), some (.int x3), none, some (.int x5), none, some (.int x7), none, some (.int y0)] [] _ _
  cases h
  exact zy_66 rfl ⟨rfl, rfl⟩
noncomputable def zyF59_65   (x1 : Int32) (x2 : Int32) (x3 : Int32) (x5 : Int32) (x6 : Int32) (x7 : Int32) (y0 : Int32) (s : zy_S) : Option (Int32 × zy_S) :=
if y0 = 0 then
zyF59_90 x1 x2 x3 x5 x7 (0 : Int32) s
else
if zy_in (((4 : Int32) * x2) + x6) 24 then
zyF59_90 x1 x2 x3 x5 x7 (s.1 2 ((((4 : Int32) * x2) + x6)).toNatClampNeg) s
else none
theorem zyC59_65 {X : zx_X}     {x1 : Int32} {x2 : Int32} {x3 : Int32} {x5 : Int32} {x6 : Int32} {x7 : Int32} {y0 : Int32} {s : zy_S} {r : Int32} {s' : zy_S}  (h : zyF59_65 x1 x2 x3 x5 x6 x7 y0 s = some (r, s')) : zyR X 3 59 65 [some (.ref (12 + 3)), some (.int x1), some (.int x2), some (.int x3), none, some (.int x5), some (.int x6), some (.int x7), none, none] [.int y0] s (zyE none s') := by
  unfold zyF59_65 at h
  refine zy_23 rfl rfl (show zyR _ _ _ _ [some (.ref (12 + 3)), some (.int x1), some (.int x2), some (.int x3), none, some (.int x5), some (.int x6), some (.int x7), some (.int y0), none] [] _ _ from ?_)
  refine zy_2 rfl rfl (show zyR _ _ _ _ [some (.ref (12 + 3)), some (.int x1), some (.int x2), some (.int x3), none, some (.int x5), some (.int x6), some (.int x7), some (.int y0), none] [.int y0] _ _ from ?_)
  refine zy_24_0 rfl (fun b5 => (show zyR _ _ _ _ [some (.ref (12 + 3)), some (.int x1), some (.int x2), some (.int x3), none, some (.int x5), some (.int x6), some (.int x7), some (.int y0), none] [] _ _ from ?_)) (fun b5 => (show zyR _ _ _ _ [some (.ref (12 + 3)), some (.int x1), some (.int x2), some (.int x3), none, some (.int x5), some (.int x6), some (.int x7), some (.int y0), none] [] _ _ from ?_))
  · replace h := zy_ifp h b5
    refine zy_3 rfl rfl (show zyR _ _ _ _ [some (.ref (12 + 3)), some (.int x1), some (.int x2), some (.int x3), none, some (.int x5), some (.int x6), some (.int x7), some (.int y0), none] [.int (0 : Int32)] _ _ from ?_)
    exact zy_sub (show zy_le [some (.ref (12 + 3)), some (.int x1), some (.int x2), some (.int x3), none, some (.int x5), none, some (.int x7), none, none] [some (.ref (12 + 3)), some (.int x1), some (.int x2), some (.int x3), none, some (.int x5), some (.int x6), some (.int x7), some (.int y0), none] from ⟨rfl, ⟨rfl, ⟨rfl, ⟨rfl, ⟨rfl, ⟨rfl, trivial⟩⟩⟩⟩⟩⟩) (zyC59_90 h)
  · replace h := zy_ifn h b5
    refine zy_0 rfl rfl (show zyR _ _ _ _ [some (.ref (12 + 3)), some (.int x1), some (.int x2), some (.int x3), none, some (.int x5), some (.int x6), some (.int x7), some (.int y0), none] [.ref (12 + 3)] _ _ from ?_)
    refine zy_1r (c := 12) rfl rfl rfl (show zyR _ _ _ _ [some (.ref (12 + 3)), some (.int x1), some (.int x2), some (.int x3), none, some (.int x5), some (.int x6), some (.int x7), some (.int y0), none] [.ref (1 + 3)] _ _ from ?_)
    refine zy_1r (c := 1) rfl rfl rfl (show zyR _ _ _ _ [some (.ref (12 + 3)), some (.int x1), some (.int x2), some (.int x3), none, some (.int x5), some (.int x6), some (.int x7), some (.int y0), none] [.ref (2 + 3)] _ _ from ?_)
    refine zy_3 rfl rfl (show zyR _ _ _ _ [some (.ref (12 + 3)), some (.int x1), some (.int x2), some (.int x3), none, some (.int x5), some (.int x6), some (.int x7), some (.int y0), none] [.int (4 : Int32), .ref (2 + 3)] _ _ from ?_)
    refine zy_2 rfl rfl (show zyR _ _ _ _ [some (.ref (12 + 3)), some (.int x1), some (.int x2), some (.int x3), none, some (.int x5), some (.int x6), some (.int x7), some (.int y0), none] [.int x2, .int (4 : Int32), .ref (2 + 3)] _ _ from ?_)
    refine zy_12 rfl (show zyR _ _ _ _ [some (.ref (12 + 3)), some (.int x1), some (.int x2), some (.int x3), none, some (.int x5), some (.int x6), some (.int x7), some (.int y0), none] [.int ((4 : Int32) * x2), .ref (2 + 3)] _ _ from ?_)
    refine zy_2 rfl rfl (show zyR _ _ _ _ [some (.ref (12 + 3)), some (.int x1), some (.int x2), some (.int x3), none, some (.int x5), some (.int x6), some (.int x7), some (.int y0), none] [.int x6, .int ((4 : Int32) * x2), .ref (2 + 3)] _ _ from ?_)
    refine zy_10 rfl (show zyR _ _ _ _ [some (.ref (12 + 3)), some (.int x1), some (.int x2), some (.int x3), none, some (.int x5), some (.int x6), some (.int x7), some (.int y0), none] [.int (((4 : Int32) * x2) + x6), .ref (2 + 3)] _ _ from ?_)
    obtain ⟨c4, h⟩ := zy_if h
    refine zy_26 (c := 2) rfl rfl c4 (show zyR _ _ _ _ [some (.ref (12 + 3)), some (.int x1), some (.int x2), some (.int x3), none, some (.int x5), some (.int x6), some (.int x7), some (.int y0), none] [.int (s.1 2 ((((4 : Int32) * x2) + x6)).toNatClampNeg)] _ _ from ?_)
    refine zy_6 rfl (show zyR _ _ _ _ [some (.ref (12 + 3)), some (.int x1), some (.int x2), some (.int x3), none, some (.int x5), some (.int x6), some (.int x7), some (.int y0), none] [.int (s.1 2 ((((4 : Int32) * x2) + x6)).toNatClampNeg)] _ _ from ?_)
    exact zy_sub (show zy_le [some (.ref (12 + 3)), some (.int x1), some (.int x2), some (.int x3), none, some (.int x5), none, some (.int x7), none, none] [some (.ref (12 + 3)), some (.int x1), some (.int x2), some (.int x3), none, some (.int x5), some (.int x6), some (.int x7), some (.int y0), none] from ⟨rfl, ⟨rfl, ⟨rfl, ⟨rfl, ⟨rfl, ⟨rfl, trivial⟩⟩⟩⟩⟩⟩) (zyC59_90 h)
noncomputable def zyF59_64   (x1 : Int32) (x2 : Int32) (x3 : Int32) (x5 : Int32) (x6 : Int32) (x7 : Int32) (s : zy_S) : Option (Int32 × zy_S) :=
zyF59_65 x1 x2 x3 x5 x6 x7 (0 : Int32) s
theorem zyC59_64 {X : zx_X}     {x1 : Int32} {x2 : Int32} {x3 : Int32} {x5 : Int32} {x6 : Int32} {x7 : Int32} {s : zy_S} {r : Int32} {s' : zy_S}  (h : zyF59_64 x1 x2 x3 x5 x6 x7 s = some (r, s')) : zyR X 3 59 64 [some (.ref (12 + 3)), some (.int x1), some (.int x2), some (.int x3), none, some (.int x5), some (.int x6), some (.int x7), none, none] [] s (zyE none s') := by
  unfold zyF59_64 at h
  refine zy_3 rfl rfl (show zyR _ _ _ _ [some (.ref (12 + 3)), some (.int x1), some (.int x2), some (.int x3), none, some (.int x5), some (.int x6), some (.int x7), none, none] [.int (0 : Int32)] _ _ from ?_)
  exact zy_sub (show zy_le [some (.ref (12 + 3)), some (.int x1), some (.int x2), some (.int x3), none, some (.int x5), some (.int x6), some (.int x7), none, none] [some (.ref (12 + 3)), some (.int x1), some (.int x2), some (.int x3), none, some (.int x5), some (.int x6), some (.int x7), none, none] from ⟨rfl, ⟨rfl, ⟨rfl, ⟨rfl, ⟨rfl, ⟨rfl, ⟨rfl, trivial⟩⟩⟩⟩⟩⟩⟩) (zyC59_65 h)
noncomputable def zyF59_41   (x1 : Int32) (x2 : Int32) (x3 : Int32) (x4 : Int32) (x5 : Int32) (x6 : Int32) (y0 : Int32) (s : zy_S) : Option (Int32 × zy_S) :=
if x6 = (-1 : Int32) then
zyF59_64 x1 x2 x3 x5 x6 y0 s
else
(zyF32 x4 x6 s).bind fun p6 =>
if p6.1 ≠ (1 : Int32) then
zyF59_64 x1 x2 x3 x5 x6 y0 p6.2
else
zyF59_65 x1 x2 x3 x5 x6 y0 (1 : Int32) p6.2
theorem zyC59_41 {X : zx_X}     {x1 : Int32} {x2 : Int32} {x3 : Int32} {x4 : Int32} {x5 : Int32} {x6 : Int32} {y0 : Int32} {s : zy_S} {r : Int32} {s' : zy_S}  (h : zyF59_41 x1 x2 x3 x4 x5 x6 y0 s = some (r, s')) : zyR X 3 59 41 [some (.ref (12 + 3)), some (.int x1), some (.int x2), some (.int x3), some (.int x4), some (.int x5), some (.int x6), none, none, none] [.int y0] s (zyE none s') := by
  unfold zyF59_41 at h
  refine zy_23 rfl rfl (show zyR _ _ _ _ [some (.ref (12 + 3)), some (.int x1), some (.int x2), some (.int x3), some (.int x4), some (.int x5), some (.int x6), some (.int y0), none, none] [] _ _ from ?_)
  refine zy_2 rfl rfl (show zyR _ _ _ _ [some (.ref (12 + 3)), some (.int x1), some (.int x2), some (.int x3), some (.int x4), some (.int x5), some (.int x6), some (.int y0), none, none] [.int x6] _ _ from ?_)
  refine zy_3 rfl rfl (show zyR _ _ _ _ [some (.ref (12 + 3)), some (.int x1), some (.int x2), some (.int x3), some (.int x4), some (.int x5), some (.int x6), some (.int y0), none, none] [.int (-1 : Int32), .int x6] _ _ from ?_)
  refine zy_25_0 rfl (fun b8 => (show zyR _ _ _ _ [some (.ref (12 + 3)), some (.int x1), some (.int x2), some (.int x3), some (.int x4), some (.int x5), some (.int x6), some (.int y0), none, none] [] _ _ from ?_)) (fun b8 => (show zyR _ _ _ _ [some (.ref (12 + 3)), some (.int x1), some (.int x2), some (.int x3), some (.int x4), some (.int x5), some (.int x6), some (.int y0), none, none] [] _ _ from ?_))
  · replace h := zy_ifp h b8
    exact zy_sub (show zy_le [some (.ref (12 + 3)), some (.int x1), some (.int x2), some (.int x3), none, some (.int x5), some (.int x6), some (.int y0), none, none] [some (.ref (12 + 3)), some (.int x1), some (.int x2), some (.int x3), some (.int x4), some (.int x5), some (.int x6), some (.int y0), none, none] from ⟨rfl, ⟨rfl, ⟨rfl, ⟨rfl, ⟨rfl, ⟨rfl, ⟨rfl, trivial⟩⟩⟩⟩⟩⟩⟩) (zyC59_64 h)
  · replace h := zy_ifn h b8
    refine zy_2 rfl rfl (show zyR _ _ _ _ [some (.ref (12 + 3)), some (.int x1), some (.int x2), some (.int x3), some (.int x4), some (.int x5), some (.int x6), some (.int y0), none, none] [.int x4] _ _ from ?_)
    refine zy_2 rfl rfl (show zyR _ _ _ _ [some (.ref (12 + 3)), some (.int x1), some (.int x2), some (.int x3), some (.int x4), some (.int x5), some (.int x6), some (.int y0), none, none] [.int x6, .int x4] _ _ from ?_)
    obtain ⟨p6, hp6, h⟩ := zy_bind h
    refine zy_61 (as := [.int x4, .int x6]) (rest := []) (L := [some (.int x4), some (.int x6)]) (d' := 1) rfl rfl (Nat.le_of_ble_eq_true rfl) (Nat.le_of_ble_eq_true rfl) rfl (Nat.le_of_ble_eq_true rfl) rfl rfl (zyC32 hp6) ?_
    show zyR _ _ _ _ [some (.ref (12 + 3)), some (.int x1), some (.int x2), some (.int x3), some (.int x4), some (.int x5), some (.int x6), some (.int y0), none, none] [.int p6.1] _ _
    refine zy_3 rfl rfl (show zyR _ _ _ _ [some (.ref (12 + 3)), some (.int x1), some (.int x2), some (.int x3), some (.int x4), some (.int x5), some (.int x6), some (.int y0), none, none] [.int (1 : Int32), .int p6.1] _ _ from ?_)
    refine zy_25_1 rfl (fun b7 => (show zyR _ _ _ _ [some (.ref (12 + 3)), some (.int x1), some (.int x2), some (.int x3), some (.int x4), some (.int x5), some (.int x6), some (.int y0), none, none] [] _ _ from ?_)) (fun b7 => (show zyR _ _ _ _ [some (.ref (12 + 3)), some (.int x1), some (.int x2), some (.int x3), some (.int x4), some (.int x5), some (.int x6), some (.int y0), none, none] [] _ _ from ?_))
    · replace h := zy_ifp h b7
      exact zy_sub (show zy_le [some (.ref (12 + 3)), some (.int x1), some (.int x2), some (.int x3), none, some (.int x5), some (.int x6), some (.int y0), none, none] [some (.ref (12 + 3)), some (.int x1), some (.int x2), some (.int x3), some (.int x4), some (.int x5), some (.int x6), some (.int y0), none, none] from ⟨rfl, ⟨rfl, ⟨rfl, ⟨rfl, ⟨rfl, ⟨rfl, ⟨rfl, trivial⟩⟩⟩⟩⟩⟩⟩) (zyC59_64 h)
    · replace h := zy_ifn h b7
      refine zy_3 rfl rfl (show zyR _ _ _ _ [some (.ref (12 + 3)), some (.int x1), some (.int x2), some (.int x3), some (.int x4), some (.int x5), some (.int x6), some (.int y0), none, none] [.int (1 : Int32)] _ _ from ?_)
      refine zy_6 rfl (show zyR _ _ _ _ [some (.ref (12 + 3)), some (.int x1), some (.int x2), some (.int x3), some (.int x4), some (.int x5), some (.int x6), some (.int y0), none, none] [.int (1 : Int32)] _ _ from ?_)
      exact zy_sub (show zy_le [some (.ref (12 + 3)), some (.int x1), some (.int x2), some (.int x3), none, some (.int x5), some (.int x6), some (.int y0), none, none] [some (.ref (12 + 3)), some (.int x1), some (.int x2), some (.int x3), some (.int x4), some (.int x5), some (.int x6), some (.int y0), none, none] from ⟨rfl, ⟨rfl, ⟨rfl, ⟨rfl, ⟨rfl, ⟨rfl, ⟨rfl, trivial⟩⟩⟩⟩⟩⟩⟩) (zyC59_65 h)
noncomputable def zyF59   (x1 : Int32) (x2 : Int32) (x3 : Int32) (x4 : Int32) (s : zy_S) : Option (Int32 × zy_S) :=
if zy_in x1 8 then
(zyF60 (s.1 3 (x1).toNatClampNeg) x2 s).bind fun p10 =>
(zyF61 p10.1 x3 p10.2).bind fun p11 =>
if p11.1 ≠ (-1 : Int32) then
(zyF62 (p11.1 - p10.1) p11.2).bind fun p12 =>
zyF59_41 x1 x2 x3 x4 p10.1 p11.1 p12.1 p12.2
else
zyF59_41 x1 x2 x3 x4 p10.1 p11.1 (4 : Int32) p11.2
else none
theorem zyC59 {X : zx_X}     {x1 : Int32} {x2 : Int32} {x3 : Int32} {x4 : Int32} {s : zy_S} {r : Int32} {s' : zy_S}  (h : zyF59 x1 x2 x3 x4 s = some (r, s')) : zyR X 3 59 0 [some (.ref (12 + 3)), some (.int x1), some (.int x2), some (.int x3), some (.int x4), none, none, none, none, none] [] s (zyE none s') := by
  unfold zyF59 at h
  refine zy_0 rfl rfl (show zyR _ _ _ _ [some (.ref (12 + 3)), some (.int x1), some (.int x2), some (.int x3), some (.int x4), none, none, none, none, none] [.ref (12 + 3)] _ _ from ?_)
  refine zy_1r (c := 12) rfl rfl rfl (show zyR _ _ _ _ [some (.ref (12 + 3)), some (.int x1), some (.int x2), some (.int x3), some (.int x4), none, none, none, none, none] [.ref (1 + 3)] _ _ from ?_)
  refine zy_1r (c := 1) rfl rfl rfl (show zyR _ _ _ _ [some (.ref (12 + 3)), some (.int x1), some (.int x2), some (.int x3), some (.int x4), none, none, none, none, none] [.ref (3 + 3)] _ _ from ?_)
  refine zy_2 rfl rfl (show zyR _ _ _ _ [some (.ref (12 + 3)), some (.int x1), some (.int x2), some (.int x3), some (.int x4), none, none, none, none, none] [.int x1, .ref (3 + 3)] _ _ from ?_)
  obtain ⟨c9, h⟩ := zy_if h
  refine zy_26 (c := 3) rfl rfl c9 (show zyR _ _ _ _ [some (.ref (12 + 3)), some (.int x1), some (.int x2), some (.int x3), some (.int x4), none, none, none, none, none] [.int (s.1 3 (x1).toNatClampNeg)] _ _ from ?_)
  refine zy_2 rfl rfl (show zyR _ _ _ _ [some (.ref (12 + 3)), some (.int x1), some (.int x2), some (.int x3), some (.int x4), none, none, none, none, none] [.int x2, .int (s.1 3 (x1).toNatClampNeg)] _ _ from ?_)
  obtain ⟨p10, hp10, h⟩ := zy_bind h
  refine zy_61 (as := [.int (s.1 3 (x1).toNatClampNeg), .int x2]) (rest := []) (L := [some (.int (s.1 3 (x1).toNatClampNeg)), some (.int x2)]) (d' := 1) rfl rfl (Nat.le_of_ble_eq_true rfl) (Nat.le_of_ble_eq_true rfl) rfl (Nat.le_of_ble_eq_true rfl) rfl rfl (zyC60 hp10) ?_
  show zyR _ _ _ _ [some (.ref (12 + 3)), some (.int x1), some (.int x2), some (.int x3), some (.int x4), none, none, none, none, none] [.int p10.1] _ _
  refine zy_23 rfl rfl (show zyR _ _ _ _ [some (.ref (12 + 3)), some (.int x1), some (.int x2), some (.int x3), some (.int x4), some (.int p10.1), none, none, none, none] [] _ _ from ?_)
  refine zy_2 rfl rfl (show zyR _ _ _ _ [some (.ref (12 + 3)), some (.int x1), some (.int x2), some (.int x3), some (.int x4), some (.int p10.1), none, none, none, none] [.int p10.1] _ _ from ?_)
  refine zy_2 rfl rfl (show zyR _ _ _ _ [some (.ref (12 + 3)), some (.int x1), some (.int x2), some (.int x3), some (.int x4), some (.int p10.1), none, none, none, none] [.int x3, .int p10.1] _ _ from ?_)
  obtain ⟨p11, hp11, h⟩ := zy_bind h
  refine zy_60 (as := [.int p10.1, .int x3]) (rest := []) (L := [some (.int p10.1), some (.int x3), none, none, none]) (d' := 2) rfl rfl (Nat.le_of_ble_eq_true rfl) (Nat.le_of_ble_eq_true rfl) rfl (Nat.le_of_ble_eq_true rfl) rfl rfl (zyC61 hp11) ?_
  show zyR _ _ _ _ [some (.ref (12 + 3)), some (.int x1), some (.int x2), some (.int x3), some (.int x4), some (.int p10.1), none, none, none, none] [.int p11.1] _ _
  refine zy_23 rfl rfl (show zyR _ _ _ _ [some (.ref (12 + 3)), some (.int x1), some (.int x2), some (.int x3), some (.int x4), some (.int p10.1), some (.int p11.1), none, none, none] [] _ _ from ?_)
  refine zy_2 rfl rfl (show zyR _ _ _ _ [some (.ref (12 + 3)), some (.int x1), some (.int x2), some (.int x3), some (.int x4), some (.int p10.1), some (.int p11.1), none, none, none] [.int p11.1] _ _ from ?_)
  refine zy_3 rfl rfl (show zyR _ _ _ _ [some (.ref (12 + 3)), some (.int x1), some (.int x2), some (.int x3), some (.int x4), some (.int p10.1), some (.int p11.1), none, none, none] [.int (-1 : Int32), .int p11.1] _ _ from ?_)
  refine zy_25_1 rfl (fun b13 => (show zyR _ _ _ _ [some (.ref (12 + 3)), some (.int x1), some (.int x2), some (.int x3), some (.int x4), some (.int p10.1), some (.int p11.1), none, none, none] [] _ _ from ?_)) (fun b13 => (show zyR _ _ _ _ [some (.ref (12 + 3)), some (.int x1), some (.int x2), some (.int x3), some (.int x4), some (.int p10.1), some (.int p11.1), none, none, none] [] _ _ from ?_))
  · replace h := zy_ifp h b13
    refine zy_2 rfl rfl (show zyR _ _ _ _ [some (.ref (12 + 3)), some (.int x1), some (.int x2), some (.int x3), some (.int x4), some (.int p10.1), some (.int p11.1), none, none, none] [.int p11.1] _ _ from ?_)
    refine zy_2 rfl rfl (show zyR _ _ _ _ [some (.ref (12 + 3)), some (.int x1), some (.int x2), some (.int x3), some (.int x4), some (.int p10.1), some (.int p11.1), none, none, none] [.int p10.1, .int p11.1] _ _ from ?_)
    refine zy_11 rfl (show zyR _ _ _ _ [some (.ref (12 + 3)), some (.int x1), some (.int x2), some (.int x3), some (.int x4), some (.int p10.1), some (.int p11.1), none, none, none] [.int (p11.1 - p10.1)] _ _ from ?_)
    obtain ⟨p12, hp12, h⟩ := zy_bind h
    refine zy_60 (as := [.int (p11.1 - p10.1)]) (rest := []) (L := [some (.int (p11.1 - p10.1))]) (d' := 1) rfl rfl (Nat.le_of_ble_eq_true rfl) (Nat.le_of_ble_eq_true rfl) rfl (Nat.le_of_ble_eq_true rfl) rfl rfl (zyC62 hp12) ?_
    show zyR _ _ _ _ [some (.ref (12 + 3)), some (.int x1), some (.int x2), some (.int x3), some (.int x4), some (.int p10.1), some (.int p11.1), none, none, none] [.int p12.1] _ _
    exact zy_sub (show zy_le [some (.ref (12 + 3)), some (.int x1), some (.int x2), some (.int x3), some (.int x4), some (.int p10.1), some (.int p11.1), none, none, none] [some (.ref (12 + 3)), some (.int x1), some (.int x2), some (.int x3), some (.int x4), some (.int p10.1), some (.int p11.1), none, none, none] from ⟨rfl, ⟨rfl, ⟨rfl, ⟨rfl, ⟨rfl, ⟨rfl, ⟨rfl, trivial⟩⟩⟩⟩⟩⟩⟩) (zyC59_41 h)
  · replace h := zy_ifn h b13
    refine zy_3 rfl rfl (show zyR _ _ _ _ [some (.ref (12 + 3)), some (.int x1), some (.int x2), some (.int x3), some (.int x4), some (.int p10.1), some (.int p11.1), none, none, none] [.int (4 : Int32)] _ _ from ?_)
    refine zy_6 rfl (show zyR _ _ _ _ [some (.ref (12 + 3)), some (.int x1), some (.int x2), some (.int x3), some (.int x4), some (.int p10.1), some (.int p11.1), none, none, none] [.int (4 : Int32)] _ _ from ?_)
    exact zy_sub (show zy_le [some (.ref (12 + 3)), some (.int x1), some (.int x2), some (.int x3), some (.int x4), some (.int p10.1), some (.int p11.1), none, none, none] [some (.ref (12 + 3)), some (.int x1), some (.int x2), some (.int x3), some (.int x4), some (.int p10.1), some (.int p11.1), none, none, none] from ⟨rfl, ⟨rfl, ⟨rfl, ⟨rfl, ⟨rfl, ⟨rfl, ⟨rfl, trivial⟩⟩⟩⟩⟩⟩⟩) (zyC59_41 h)
/-! NineOpinions$Law.push(I)V -/
noncomputable def zyF66   (x1 : Int32) (s : zy_S) : Option (Int32 × zy_S) :=
if (128 : Int32) ≤ (s.1 5 4) then
some ((0 : Int32), s)
else
if zy_in (s.1 5 4) 128 then
some ((0 : Int32), (zy_up (zy_up s 7 ((s.1 5 4)).toNatClampNeg x1) 5 4 ((s.1 5 4) + (1 : Int32))))
else none
theorem zyC66 {X : zx_X}     {x1 : Int32} {s : zy_S} {r : Int32} {s' : zy_S}  (h : zyF66 x1 s = some (r, s')) : zyR X 1 66 0 [some (.ref (5 + 3)), some (.int x1)] [] s (zyE none s') := by
  unfold zyF66 at h
  refine zy_0 rfl rfl (show zyR _ _ _ _ [some (.ref (5 + 3)), some (.int x1)] [.ref (5 + 3)] _ _ from ?_)
  refine zy_1 (c := 5) rfl rfl rfl (show zyR _ _ _ _ [some (.ref (5 + 3)), some (.int x1)] [.int (s.1 5 4)] _ _ from ?_)
  refine zy_3 rfl rfl (show zyR _ _ _ _ [some (.ref (5 + 3)), some (.int x1)] [.int (128 : Int32), .int (s.1 5 4)] _ _ from ?_)
  refine zy_25_3 rfl (fun b2 => (show zyR _ _ _ _ [some (.ref (5 + 3)), some (.int x1)] [] _ _ from ?_)) (fun b2 => (show zyR _ _ _ _ [some (.ref (5 + 3)), some (.int x1)] [] _ _ from ?_))
  · replace h := zy_ifp h b2
    cases h
    exact zy_66 rfl ⟨rfl, rfl⟩
  · replace h := zy_ifn h b2
    refine zy_0 rfl rfl (show zyR _ _ _ _ [some (.ref (5 + 3)), some (.int x1)] [.ref (5 + 3)] _ _ from ?_)
    refine zy_1r (c := 5) rfl rfl rfl (show zyR _ _ _ _ [some (.ref (5 + 3)), some (.int x1)] [.ref (7 + 3)] _ _ from ?_)
    refine zy_0 rfl rfl (show zyR _ _ _ _ [some (.ref (5 + 3)), some (.int x1)] [.ref (5 + 3), .ref (7 + 3)] _ _ from ?_)
    refine zy_1 (c := 5) rfl rfl rfl (show zyR _ _ _ _ [some (.ref (5 + 3)), some (.int x1)] [.int (s.1 5 4), .ref (7 + 3)] _ _ from ?_)
    refine zy_2 rfl rfl (show zyR _ _ _ _ [some (.ref (5 + 3)), some (.int x1)] [.int x1, .int (s.1 5 4), .ref (7 + 3)] _ _ from ?_)
    obtain ⟨c1, h⟩ := zy_if h
    refine zy_27 (c := 7) rfl rfl c1 (show zyR _ _ _ _ [some (.ref (5 + 3)), some (.int x1)] [] _ _ from ?_)
    refine zy_0 rfl rfl (show zyR _ _ _ _ [some (.ref (5 + 3)), some (.int x1)] [.ref (5 + 3)] _ _ from ?_)
    refine zy_33 rfl rfl (show zyR _ _ _ _ [some (.ref (5 + 3)), some (.int x1)] [.ref (5 + 3), .ref (5 + 3)] _ _ from ?_)
    refine zy_1 (c := 5) rfl rfl rfl (show zyR _ _ _ _ [some (.ref (5 + 3)), some (.int x1)] [.int (s.1 5 4), .ref (5 + 3)] _ _ from ?_)
    refine zy_3 rfl rfl (show zyR _ _ _ _ [some (.ref (5 + 3)), some (.int x1)] [.int (1 : Int32), .int (s.1 5 4), .ref (5 + 3)] _ _ from ?_)
    refine zy_10 rfl (show zyR _ _ _ _ [some (.ref (5 + 3)), some (.int x1)] [.int ((s.1 5 4) + (1 : Int32)), .ref (5 + 3)] _ _ from ?_)
    refine zy_52 (c := 5) rfl rfl rfl (show zyR _ _ _ _ [some (.ref (5 + 3)), some (.int x1)] [] _ _ from ?_)
    cases h
    exact zy_66 rfl ⟨rfl, rfl⟩
/-! NineOpinions$Law.pop()I -/
noncomputable def zyF67    (s : zy_S) : Option (Int32 × zy_S) :=
if 0 < (s.1 5 4) then
if zy_in ((s.1 5 4) - (1 : Int32)) 128 then
some ((s.1 7 (((s.1 5 4) - (1 : Int32))).toNatClampNeg), (zy_up s 5 4 ((s.1 5 4) - (1 : Int32))))
else none
else
some ((0 : Int32), s)
theorem zyC67 {X : zx_X}      {s : zy_S} {r : Int32} {s' : zy_S}  (h : zyF67 s = some (r, s')) : zyR X 1 67 0 [some (.ref (5 + 3))] [] s (zyE (some (.int r)) s') := by
  unfold zyF67 at h
  refine zy_0 rfl rfl (show zyR _ _ _ _ [some (.ref (5 + 3))] [.ref (5 + 3)] _ _ from ?_)
  refine zy_1 (c := 5) rfl rfl rfl (show zyR _ _ _ _ [some (.ref (5 + 3))] [.int (s.1 5 4)] _ _ from ?_)
  refine zy_24_4 rfl (fun b2 => (show zyR _ _ _ _ [some (.ref (5 + 3))] [] _ _ from ?_)) (fun b2 => (show zyR _ _ _ _ [some (.ref (5 + 3))] [] _ _ from ?_))
  · replace h := zy_ifp h b2
    refine zy_0 rfl rfl (show zyR _ _ _ _ [some (.ref (5 + 3))] [.ref (5 + 3)] _ _ from ?_)
    refine zy_33 rfl rfl (show zyR _ _ _ _ [some (.ref (5 + 3))] [.ref (5 + 3), .ref (5 + 3)] _ _ from ?_)
    refine zy_1 (c := 5) rfl rfl rfl (show zyR _ _ _ _ [some (.ref (5 + 3))] [.int (s.1 5 4), .ref (5 + 3)] _ _ from ?_)
    refine zy_3 rfl rfl (show zyR _ _ _ _ [some (.ref (5 + 3))] [.int (1 : Int32), .int (s.1 5 4), .ref (5 + 3)] _ _ from ?_)
    refine zy_11 rfl (show zyR _ _ _ _ [some (.ref (5 + 3))] [.int ((s.1 5 4) - (1 : Int32)), .ref (5 + 3)] _ _ from ?_)
    refine zy_52 (c := 5) rfl rfl rfl (show zyR _ _ _ _ [some (.ref (5 + 3))] [] _ _ from ?_)
    refine zy_0 rfl rfl (show zyR _ _ _ _ [some (.ref (5 + 3))] [.ref (5 + 3)] _ _ from ?_)
    refine zy_1r (c := 5) rfl rfl rfl (show zyR _ _ _ _ [some (.ref (5 + 3))] [.ref (7 + 3)] _ _ from ?_)
    refine zy_0 rfl rfl (show zyR _ _ _ _ [some (.ref (5 + 3))] [.ref (5 + 3), .ref (7 + 3)] _ _ from ?_)
    refine zy_1 (c := 5) rfl rfl rfl (show zyR _ _ _ _ [some (.ref (5 + 3))] [.int ((s.1 5 4) - (1 : Int32)), .ref (7 + 3)] _ _ from ?_)
    obtain ⟨c1, h⟩ := zy_if h
    refine zy_26 (c := 7) rfl rfl c1 (show zyR _ _ _ _ [some (.ref (5 + 3))] [.int (s.1 7 (((s.1 5 4) - (1 : Int32))).toNatClampNeg)] _ _ from ?_)
    obtain ⟨rfl, rfl⟩ := zy_pi h
    exact zy_4 rfl ⟨rfl, rfl⟩
  · replace h := zy_ifn h b2
    refine zy_3 rfl rfl (show zyR _ _ _ _ [some (.ref (5 + 3))] [.int (0 : Int32)] _ _ from ?_)
    obtain ⟨rfl, rfl⟩ := zy_pi h
    exact zy_4 rfl ⟨rfl, rfl⟩
/-! java/lang/Math.max(II)I -/
noncomputable def zyF69   (x0 : Int32) (x1 : Int32) (s : zy_S) : Option (Int32 × zy_S) :=
if x0 < x1 then
some (x1, s)
else
some (x0, s)
theorem zyC69 {X : zx_X}     {x0 : Int32} {x1 : Int32} {s : zy_S} {r : Int32} {s' : zy_S}  (h : zyF69 x0 x1 s = some (r, s')) : zyR X 1 69 0 [some (.int x0), some (.int x1)] [] s (zyE (some (.int r)) s') := by
  unfold zyF69 at h
  refine zy_2 rfl rfl (show zyR _ _ _ _ [some (.int x0), some (.int x1)] [.int x0] _ _ from ?_)
  refine zy_2 rfl rfl (show zyR _ _ _ _ [some (.int x0), some (.int x1)] [.int x1, .int x0] _ _ from ?_)
  refine zy_25_2 rfl (fun b1 => (show zyR _ _ _ _ [some (.int x0), some (.int x1)] [] _ _ from ?_)) (fun b1 => (show zyR _ _ _ _ [some (.int x0), some (.int x1)] [] _ _ from ?_))
  · replace h := zy_ifp h b1
    refine zy_2 rfl rfl (show zyR _ _ _ _ [some (.int x0), some (.int x1)] [.int x1] _ _ from ?_)
    obtain ⟨rfl, rfl⟩ := zy_pi h
    exact zy_4 rfl ⟨rfl, rfl⟩
  · replace h := zy_ifn h b1
    refine zy_2 rfl rfl (show zyR _ _ _ _ [some (.int x0), some (.int x1)] [.int x0] _ _ from ?_)
    refine zy_6 rfl (show zyR _ _ _ _ [some (.int x0), some (.int x1)] [.int x0] _ _ from ?_)
    obtain ⟨rfl, rfl⟩ := zy_pi h
    exact zy_4 rfl ⟨rfl, rfl⟩
/-! NineOpinions$Law.joined(III)I -/
noncomputable def zyF71   (x0 : Int32) (x1 : Int32) (x2 : Int32) (s : zy_S) : Option (Int32 × zy_S) :=
if x1 = (38 : Int32) then
if x0 = 0 then
some ((0 : Int32), s)
else
if x2 = 0 then
some ((0 : Int32), s)
else
some ((1 : Int32), s)
else
if x1 = (42 : Int32) then
some ((x0 * x2), s)
else
if x1 = (43 : Int32) then
some ((x0 + x2), s)
else
if x1 = (45 : Int32) then
some ((x0 - x2), s)
else
if x1 = (47 : Int32) then
if x2 ≠ 0 then
if ¬ x2 = 0 then
some ((x0 / x2), s)
else none
else
some ((0 : Int32), s)
else
if x1 = (60 : Int32) then
if x2 ≤ x0 then
some ((0 : Int32), s)
else
some ((1 : Int32), s)
else
if x1 = (61 : Int32) then
if x0 ≠ x2 then
some ((0 : Int32), s)
else
some ((1 : Int32), s)
else
if x1 = (62 : Int32) then
if x0 ≤ x2 then
some ((0 : Int32), s)
else
some ((1 : Int32), s)
else
if x1 = (124 : Int32) then
if x0 ≠ 0 then
some ((1 : Int32), s)
else
if x2 = 0 then
some ((0 : Int32), s)
else
some ((1 : Int32), s)
else
if x2 ≠ 0 then
if ¬ x2 = 0 then
some ((x0 - x0 / x2 * x2), s)
else none
else
some ((0 : Int32), s)
theorem zyC71 {X : zx_X}     {x0 : Int32} {x1 : Int32} {x2 : Int32} {s : zy_S} {r : Int32} {s' : zy_S}  (h : zyF71 x0 x1 x2 s = some (r, s')) : zyR X 1 71 0 [some (.int x0), some (.int x1), some (.int x2)] [] s (zyE (some (.int r)) s') := by
  unfold zyF71 at h
  refine zy_2 rfl rfl (show zyR _ _ _ _ [some (.int x0), some (.int x1), some (.int x2)] [.int x1] _ _ from ?_)
  refine zy_51 rfl (by decide) ?_
  refine zy_swp (fun b3 => (show zyR _ _ _ _ [some (.int x0), some (.int x1), some (.int x2)] [] _ _ from ?_)) (fun b3 => ?_)
  · replace h := zy_ifp h b3
    refine zy_2 rfl rfl (show zyR _ _ _ _ [some (.int x0), some (.int x1), some (.int x2)] [.int x0] _ _ from ?_)
    refine zy_24_0 rfl (fun b2 => (show zyR _ _ _ _ [some (.int x0), some (.int x1), some (.int x2)] [] _ _ from ?_)) (fun b2 => (show zyR _ _ _ _ [some (.int x0), some (.int x1), some (.int x2)] [] _ _ from ?_))
    · replace h := zy_ifp h b2
      refine zy_3 rfl rfl (show zyR _ _ _ _ [some (.int x0), some (.int x1), some (.int x2)] [.int (0 : Int32)] _ _ from ?_)
      obtain ⟨rfl, rfl⟩ := zy_pi h
      exact zy_4 rfl ⟨rfl, rfl⟩
    · replace h := zy_ifn h b2
      refine zy_2 rfl rfl (show zyR _ _ _ _ [some (.int x0), some (.int x1), some (.int x2)] [.int x2] _ _ from ?_)
      refine zy_24_0 rfl (fun b1 => (show zyR _ _ _ _ [some (.int x0), some (.int x1), some (.int x2)] [] _ _ from ?_)) (fun b1 => (show zyR _ _ _ _ [some (.int x0), some (.int x1), some (.int x2)] [] _ _ from ?_))
      · replace h := zy_ifp h b1
        refine zy_3 rfl rfl (show zyR _ _ _ _ [some (.int x0), some (.int x1), some (.int x2)] [.int (0 : Int32)] _ _ from ?_)
        obtain ⟨rfl, rfl⟩ := zy_pi h
        exact zy_4 rfl ⟨rfl, rfl⟩
      · replace h := zy_ifn h b1
        refine zy_3 rfl rfl (show zyR _ _ _ _ [some (.int x0), some (.int x1), some (.int x2)] [.int (1 : Int32)] _ _ from ?_)
        refine zy_6 rfl (show zyR _ _ _ _ [some (.int x0), some (.int x1), some (.int x2)] [.int (1 : Int32)] _ _ from ?_)
        obtain ⟨rfl, rfl⟩ := zy_pi h
        exact zy_4 rfl ⟨rfl, rfl⟩
  replace h := zy_ifn h b3
  refine zy_swp (fun b4 => (show zyR _ _ _ _ [some (.int x0), some (.int x1), some (.int x2)] [] _ _ from ?_)) (fun b4 => ?_)
  · replace h := zy_ifp h b4
    refine zy_2 rfl rfl (show zyR _ _ _ _ [some (.int x0), some (.int x1), some (.int x2)] [.int x0] _ _ from ?_)
    refine zy_2 rfl rfl (show zyR _ _ _ _ [some (.int x0), some (.int x1), some (.int x2)] [.int x2, .int x0] _ _ from ?_)
    refine zy_12 rfl (show zyR _ _ _ _ [some (.int x0), some (.int x1), some (.int x2)] [.int (x0 * x2)] _ _ from ?_)
    obtain ⟨rfl, rfl⟩ := zy_pi h
    exact zy_4 rfl ⟨rfl, rfl⟩
  replace h := zy_ifn h b4
  refine zy_swp (fun b5 => (show zyR _ _ _ _ [some (.int x0), some (.int x1), some (.int x2)] [] _ _ from ?_)) (fun b5 => ?_)
  · replace h := zy_ifp h b5
    refine zy_2 rfl rfl (show zyR _ _ _ _ [some (.int x0), some (.int x1), some (.int x2)] [.int x0] _ _ from ?_)
    refine zy_2 rfl rfl (show zyR _ _ _ _ [some (.int x0), some (.int x1), some (.int x2)] [.int x2, .int x0] _ _ from ?_)
    refine zy_10 rfl (show zyR _ _ _ _ [some (.int x0), some (.int x1), some (.int x2)] [.int (x0 + x2)] _ _ from ?_)
    obtain ⟨rfl, rfl⟩ := zy_pi h
    exact zy_4 rfl ⟨rfl, rfl⟩
  replace h := zy_ifn h b5
  refine zy_swp (fun b6 => (show zyR _ _ _ _ [some (.int x0), some (.int x1), some (.int x2)] [] _ _ from ?_)) (fun b6 => ?_)
  · replace h := zy_ifp h b6
    refine zy_2 rfl rfl (show zyR _ _ _ _ [some (.int x0), some (.int x1), some (.int x2)] [.int x0] _ _ from ?_)
    refine zy_2 rfl rfl (show zyR _ _ _ _ [some (.int x0), some (.int x1), some (.int x2)] [.int x2, .int x0] _ _ from ?_)
    refine zy_11 rfl (show zyR _ _ _ _ [some (.int x0), some (.int x1), some (.int x2)] [.int (x0 - x2)] _ _ from ?_)
    obtain ⟨rfl, rfl⟩ := zy_pi h
    exact zy_4 rfl ⟨rfl, rfl⟩
  replace h := zy_ifn h b6
  refine zy_swp (fun b9 => (show zyR _ _ _ _ [some (.int x0), some (.int x1), some (.int x2)] [] _ _ from ?_)) (fun b9 => ?_)
  · replace h := zy_ifp h b9
    refine zy_2 rfl rfl (show zyR _ _ _ _ [some (.int x0), some (.int x1), some (.int x2)] [.int x2] _ _ from ?_)
    refine zy_24_1 rfl (fun b8 => (show zyR _ _ _ _ [some (.int x0), some (.int x1), some (.int x2)] [] _ _ from ?_)) (fun b8 => (show zyR _ _ _ _ [some (.int x0), some (.int x1), some (.int x2)] [] _ _ from ?_))
    · replace h := zy_ifp h b8
      refine zy_2 rfl rfl (show zyR _ _ _ _ [some (.int x0), some (.int x1), some (.int x2)] [.int x0] _ _ from ?_)
      refine zy_2 rfl rfl (show zyR _ _ _ _ [some (.int x0), some (.int x1), some (.int x2)] [.int x2, .int x0] _ _ from ?_)
      obtain ⟨c7, h⟩ := zy_if h
      refine zy_19 rfl c7 (show zyR _ _ _ _ [some (.int x0), some (.int x1), some (.int x2)] [.int (x0 / x2)] _ _ from ?_)
      obtain ⟨rfl, rfl⟩ := zy_pi h
      exact zy_4 rfl ⟨rfl, rfl⟩
    · replace h := zy_ifn h b8
      refine zy_3 rfl rfl (show zyR _ _ _ _ [some (.int x0), some (.int x1), some (.int x2)] [.int (0 : Int32)] _ _ from ?_)
      refine zy_6 rfl (show zyR _ _ _ _ [some (.int x0), some (.int x1), some (.int x2)] [.int (0 : Int32)] _ _ from ?_)
      obtain ⟨rfl, rfl⟩ := zy_pi h
      exact zy_4 rfl ⟨rfl, rfl⟩
  replace h := zy_ifn h b9
  refine zy_swp (fun b11 => (show zyR _ _ _ _ [some (.int x0), some (.int x1), some (.int x2)] [] _ _ from ?_)) (fun b11 => ?_)
  · replace h := zy_ifp h b11
    refine zy_2 rfl rfl (show zyR _ _ _ _ [some (.int x0), some (.int x1), some (.int x2)] [.int x0] _ _ from ?_)
    refine zy_2 rfl rfl (show zyR _ _ _ _ [some (.int x0), some (.int x1), some (.int x2)] [.int x2, .int x0] _ _ from ?_)
    refine zy_25_3 rfl (fun b10 => (show zyR _ _ _ _ [some (.int x0), some (.int x1), some (.int x2)] [] _ _ from ?_)) (fun b10 => (show zyR _ _ _ _ [some (.int x0), some (.int x1), some (.int x2)] [] _ _ from ?_))
    · replace h := zy_ifp h b10
      refine zy_3 rfl rfl (show zyR _ _ _ _ [some (.int x0), some (.int x1), some (.int x2)] [.int (0 : Int32)] _ _ from ?_)
      obtain ⟨rfl, rfl⟩ := zy_pi h
      exact zy_4 rfl ⟨rfl, rfl⟩
    · replace h := zy_ifn h b10
      refine zy_3 rfl rfl (show zyR _ _ _ _ [some (.int x0), some (.int x1), some (.int x2)] [.int (1 : Int32)] _ _ from ?_)
      refine zy_6 rfl (show zyR _ _ _ _ [some (.int x0), some (.int x1), some (.int x2)] [.int (1 : Int32)] _ _ from ?_)
      obtain ⟨rfl, rfl⟩ := zy_pi h
      exact zy_4 rfl ⟨rfl, rfl⟩
  replace h := zy_ifn h b11
  refine zy_swp (fun b13 => (show zyR _ _ _ _ [some (.int x0), some (.int x1), some (.int x2)] [] _ _ from ?_)) (fun b13 => ?_)
  · replace h := zy_ifp h b13
    refine zy_2 rfl rfl (show zyR _ _ _ _ [some (.int x0), some (.int x1), some (.int x2)] [.int x0] _ _ from ?_)
    refine zy_2 rfl rfl (show zyR _ _ _ _ [some (.int x0), some (.int x1), some (.int x2)] [.int x2, .int x0] _ _ from ?_)
    refine zy_25_1 rfl (fun b12 => (show zyR _ _ _ _ [some (.int x0), some (.int x1), some (.int x2)] [] _ _ from ?_)) (fun b12 => (show zyR _ _ _ _ [some (.int x0), some (.int x1), some (.int x2)] [] _ _ from ?_))
    · replace h := zy_ifp h b12
      refine zy_3 rfl rfl (show zyR _ _ _ _ [some (.int x0), some (.int x1), some (.int x2)] [.int (0 : Int32)] _ _ from ?_)
      obtain ⟨rfl, rfl⟩ := zy_pi h
      exact zy_4 rfl ⟨rfl, rfl⟩
    · replace h := zy_ifn h b12
      refine zy_3 rfl rfl (show zyR _ _ _ _ [some (.int x0), some (.int x1), some (.int x2)] [.int (1 : Int32)] _ _ from ?_)
      refine zy_6 rfl (show zyR _ _ _ _ [some (.int x0), some (.int x1), some (.int x2)] [.int (1 : Int32)] _ _ from ?_)
      obtain ⟨rfl, rfl⟩ := zy_pi h
      exact zy_4 rfl ⟨rfl, rfl⟩
  replace h := zy_ifn h b13
  refine zy_swp (fun b15 => (show zyR _ _ _ _ [some (.int x0), some (.int x1), some (.int x2)] [] _ _ from ?_)) (fun b15 => ?_)
  · replace h := zy_ifp h b15
    refine zy_2 rfl rfl (show zyR _ _ _ _ [some (.int x0), some (.int x1), some (.int x2)] [.int x0] _ _ from ?_)
    refine zy_2 rfl rfl (show zyR _ _ _ _ [some (.int x0), some (.int x1), some (.int x2)] [.int x2, .int x0] _ _ from ?_)
    refine zy_25_5 rfl (fun b14 => (show zyR _ _ _ _ [some (.int x0), some (.int x1), some (.int x2)] [] _ _ from ?_)) (fun b14 => (show zyR _ _ _ _ [some (.int x0), some (.int x1), some (.int x2)] [] _ _ from ?_))
    · replace h := zy_ifp h b14
      refine zy_3 rfl rfl (show zyR _ _ _ _ [some (.int x0), some (.int x1), some (.int x2)] [.int (0 : Int32)] _ _ from ?_)
      obtain ⟨rfl, rfl⟩ := zy_pi h
      exact zy_4 rfl ⟨rfl, rfl⟩
    · replace h := zy_ifn h b14
      refine zy_3 rfl rfl (show zyR _ _ _ _ [some (.int x0), some (.int x1), some (.int x2)] [.int (1 : Int32)] _ _ from ?_)
      refine zy_6 rfl (show zyR _ _ _ _ [some (.int x0), some (.int x1), some (.int x2)] [.int (1 : Int32)] _ _ from ?_)
      obtain ⟨rfl, rfl⟩ := zy_pi h
      exact zy_4 rfl ⟨rfl, rfl⟩
  replace h := zy_ifn h b15
  refine zy_swp (fun b18 => (show zyR _ _ _ _ [some (.int x0), some (.int x1), some (.int x2)] [] _ _ from ?_)) (fun b18 => ?_)
  · replace h := zy_ifp h b18
    refine zy_2 rfl rfl (show zyR _ _ _ _ [some (.int x0), some (.int x1), some (.int x2)] [.int x0] _ _ from ?_)
    refine zy_24_1 rfl (fun b17 => (show zyR _ _ _ _ [some (.int x0), some (.int x1), some (.int x2)] [] _ _ from ?_)) (fun b17 => (show zyR _ _ _ _ [some (.int x0), some (.int x1), some (.int x2)] [] _ _ from ?_))
    · replace h := zy_ifp h b17
      refine zy_3 rfl rfl (show zyR _ _ _ _ [some (.int x0), some (.int x1), some (.int x2)] [.int (1 : Int32)] _ _ from ?_)
      refine zy_6 rfl (show zyR _ _ _ _ [some (.int x0), some (.int x1), some (.int x2)] [.int (1 : Int32)] _ _ from ?_)
      obtain ⟨rfl, rfl⟩ := zy_pi h
      exact zy_4 rfl ⟨rfl, rfl⟩
    · replace h := zy_ifn h b17
      refine zy_2 rfl rfl (show zyR _ _ _ _ [some (.int x0), some (.int x1), some (.int x2)] [.int x2] _ _ from ?_)
      refine zy_24_0 rfl (fun b16 => (show zyR _ _ _ _ [some (.int x0), some (.int x1), some (.int x2)] [] _ _ from ?_)) (fun b16 => (show zyR _ _ _ _ [some (.int x0), some (.int x1), some (.int x2)] [] _ _ from ?_))
      · replace h := zy_ifp h b16
        refine zy_3 rfl rfl (show zyR _ _ _ _ [some (.int x0), some (.int x1), some (.int x2)] [.int (0 : Int32)] _ _ from ?_)
        obtain ⟨rfl, rfl⟩ := zy_pi h
        exact zy_4 rfl ⟨rfl, rfl⟩
      · replace h := zy_ifn h b16
        refine zy_3 rfl rfl (show zyR _ _ _ _ [some (.int x0), some (.int x1), some (.int x2)] [.int (1 : Int32)] _ _ from ?_)
        refine zy_6 rfl (show zyR _ _ _ _ [some (.int x0), some (.int x1), some (.int x2)] [.int (1 : Int32)] _ _ from ?_)
        obtain ⟨rfl, rfl⟩ := zy_pi h
        exact zy_4 rfl ⟨rfl, rfl⟩
  replace h := zy_ifn h b18
  show zyR _ _ _ _ [some (.int x0), some (.int x1), some (.int x2)] [] _ _
  refine zy_2 rfl rfl (show zyR _ _ _ _ [some (.int x0), some (.int x1), some (.int x2)] [.int x2] _ _ from ?_)
  refine zy_24_1 rfl (fun b20 => (show zyR _ _ _ _ [some (.int x0), some (.int x1), some (.int x2)] [] _ _ from ?_)) (fun b20 => (show zyR _ _ _ _ [some (.int x0), some (.int x1), some (.int x2)] [] _ _ from ?_))
  · replace h := zy_ifp h b20
    refine zy_2 rfl rfl (show zyR _ _ _ _ [some (.int x0), some (.int x1), some (.int x2)] [.int x0] _ _ from ?_)
    refine zy_2 rfl rfl (show zyR _ _ _ _ [some (.int x0), some (.int x1), some (.int x2)] [.int x2, .int x0] _ _ from ?_)
    obtain ⟨c19, h⟩ := zy_if h
    refine zy_20 rfl c19 (show zyR _ _ _ _ [some (.int x0), some (.int x1), some (.int x2)] [.int (x0 - x0 / x2 * x2)] _ _ from ?_)
    obtain ⟨rfl, rfl⟩ := zy_pi h
    exact zy_4 rfl ⟨rfl, rfl⟩
  · replace h := zy_ifn h b20
    refine zy_3 rfl rfl (show zyR _ _ _ _ [some (.int x0), some (.int x1), some (.int x2)] [.int (0 : Int32)] _ _ from ?_)
    refine zy_6 rfl (show zyR _ _ _ _ [some (.int x0), some (.int x1), some (.int x2)] [.int (0 : Int32)] _ _ from ?_)
    obtain ⟨rfl, rfl⟩ := zy_pi h
    exact zy_4 rfl ⟨rfl, rfl⟩
/-! NineOpinions$Law.worked(II)I -/
noncomputable def zyF70   (x1 : Int32) (x2 : Int32) (s : zy_S) : Option (Int32 × zy_S) :=
if x1 = (33 : Int32) then
if x2 ≠ 0 then
some ((0 : Int32), s)
else
some ((1 : Int32), s)
else
if x1 = (126 : Int32) then
some ((-x2), s)
else
(zyF67 s).bind fun p4 =>
(zyF71 p4.1 x1 x2 p4.2).bind fun p5 =>
some (p5.1, p5.2)
theorem zyC70 {X : zx_X}     {x1 : Int32} {x2 : Int32} {s : zy_S} {r : Int32} {s' : zy_S}  (h : zyF70 x1 x2 s = some (r, s')) : zyR X 2 70 0 [some (.ref (5 + 3)), some (.int x1), some (.int x2)] [] s (zyE (some (.int r)) s') := by
  unfold zyF70 at h
  refine zy_2 rfl rfl (show zyR _ _ _ _ [some (.ref (5 + 3)), some (.int x1), some (.int x2)] [.int x1] _ _ from ?_)
  refine zy_51 rfl (by decide) ?_
  refine zy_swp (fun b2 => (show zyR _ _ _ _ [some (.ref (5 + 3)), some (.int x1), some (.int x2)] [] _ _ from ?_)) (fun b2 => ?_)
  · replace h := zy_ifp h b2
    refine zy_2 rfl rfl (show zyR _ _ _ _ [some (.ref (5 + 3)), some (.int x1), some (.int x2)] [.int x2] _ _ from ?_)
    refine zy_24_1 rfl (fun b1 => (show zyR _ _ _ _ [some (.ref (5 + 3)), some (.int x1), some (.int x2)] [] _ _ from ?_)) (fun b1 => (show zyR _ _ _ _ [some (.ref (5 + 3)), some (.int x1), some (.int x2)] [] _ _ from ?_))
    · replace h := zy_ifp h b1
      refine zy_3 rfl rfl (show zyR _ _ _ _ [some (.ref (5 + 3)), some (.int x1), some (.int x2)] [.int (0 : Int32)] _ _ from ?_)
      obtain ⟨rfl, rfl⟩ := zy_pi h
      exact zy_4 rfl ⟨rfl, rfl⟩
    · replace h := zy_ifn h b1
      refine zy_3 rfl rfl (show zyR _ _ _ _ [some (.ref (5 + 3)), some (.int x1), some (.int x2)] [.int (1 : Int32)] _ _ from ?_)
      refine zy_6 rfl (show zyR _ _ _ _ [some (.ref (5 + 3)), some (.int x1), some (.int x2)] [.int (1 : Int32)] _ _ from ?_)
      obtain ⟨rfl, rfl⟩ := zy_pi h
      exact zy_4 rfl ⟨rfl, rfl⟩
  replace h := zy_ifn h b2
  refine zy_swp (fun b3 => (show zyR _ _ _ _ [some (.ref (5 + 3)), some (.int x1), some (.int x2)] [] _ _ from ?_)) (fun b3 => ?_)
  · replace h := zy_ifp h b3
    refine zy_2 rfl rfl (show zyR _ _ _ _ [some (.ref (5 + 3)), some (.int x1), some (.int x2)] [.int x2] _ _ from ?_)
    refine zy_21 rfl (show zyR _ _ _ _ [some (.ref (5 + 3)), some (.int x1), some (.int x2)] [.int (-x2)] _ _ from ?_)
    obtain ⟨rfl, rfl⟩ := zy_pi h
    exact zy_4 rfl ⟨rfl, rfl⟩
  replace h := zy_ifn h b3
  show zyR _ _ _ _ [some (.ref (5 + 3)), some (.int x1), some (.int x2)] [] _ _
  refine zy_0 rfl rfl (show zyR _ _ _ _ [some (.ref (5 + 3)), some (.int x1), some (.int x2)] [.ref (5 + 3)] _ _ from ?_)
  obtain ⟨p4, hp4, h⟩ := zy_bind h
  refine zy_5 (c := 5) (as := []) (rest := []) (L := [some (.ref (5 + 3))]) (d' := 1) rfl rfl rfl (Nat.le_of_ble_eq_true rfl) (Nat.le_of_ble_eq_true rfl) rfl (Nat.le_of_ble_eq_true rfl) rfl rfl (zyC67 hp4) ?_
  show zyR _ _ _ _ [some (.ref (5 + 3)), some (.int x1), some (.int x2)] [.int p4.1] _ _
  refine zy_2 rfl rfl (show zyR _ _ _ _ [some (.ref (5 + 3)), some (.int x1), some (.int x2)] [.int x1, .int p4.1] _ _ from ?_)
  refine zy_2 rfl rfl (show zyR _ _ _ _ [some (.ref (5 + 3)), some (.int x1), some (.int x2)] [.int x2, .int x1, .int p4.1] _ _ from ?_)
  obtain ⟨p5, hp5, h⟩ := zy_bind h
  refine zy_60 (as := [.int p4.1, .int x1, .int x2]) (rest := []) (L := [some (.int p4.1), some (.int x1), some (.int x2)]) (d' := 1) rfl rfl (Nat.le_of_ble_eq_true rfl) (Nat.le_of_ble_eq_true rfl) rfl (Nat.le_of_ble_eq_true rfl) rfl rfl (zyC71 hp5) ?_
  show zyR _ _ _ _ [some (.ref (5 + 3)), some (.int x1), some (.int x2)] [.int p5.1] _ _
  obtain ⟨rfl, rfl⟩ := zy_pi h
  exact zy_4 rfl ⟨rfl, rfl⟩
end
section
/-! PART 41.33: methods as functions. Made by wip/v4/dcp.py. -/
/-! NineOpinions$Law.worth()I -/
noncomputable def zyF65_145  (k23 : Int32 → Int32 → zy_S → Option (Int32 × zy_S)) (x1 : Int32) (x2 : Int32) (s : zy_S) : Option (Int32 × zy_S) :=
k23 x1 (x2 + (1 : Int32)) s
theorem zyC65_145 {X : zx_X}  {k23 : Int32 → Int32 → zy_S → Option (Int32 × zy_S)}  (hk23 : ∀ (x1 : Int32) (x2 : Int32) (s : zy_S) (r : Int32) (s' : zy_S), k23 x1 x2 s = some (r, s') → zyR X 3 65 23 [some (.ref (5 + 3)), some (.int x1), some (.int x2), none] [] s (zyE (some (.int r)) s')) {x1 : Int32} {x2 : Int32} {s : zy_S} {r : Int32} {s' : zy_S}  (h : zyF65_145 k23 x1 x2 s = some (r, s')) : zyR X 3 65 145 [some (.ref (5 + 3)), some (.int x1), some (.int x2), none] [] s (zyE (some (.int r)) s') := by
  unfold zyF65_145 at h
  refine zy_22 rfl rfl rfl rfl (show zyR _ _ _ _ [some (.ref (5 + 3)), some (.int x1), some (.int (x2 + (1 : Int32))), none] [] _ _ from ?_)
  refine zy_6 rfl (show zyR _ _ _ _ [some (.ref (5 + 3)), some (.int x1), some (.int (x2 + (1 : Int32))), none] [] _ _ from ?_)
  exact zy_sub (show zy_le [some (.ref (5 + 3)), some (.int x1), some (.int (x2 + (1 : Int32))), none] [some (.ref (5 + 3)), some (.int x1), some (.int (x2 + (1 : Int32))), none] from ⟨rfl, ⟨rfl, ⟨rfl, trivial⟩⟩⟩) (hk23 x1 (x2 + (1 : Int32)) s _ _ h)
noncomputable def zyF65_127  (k23 : Int32 → Int32 → zy_S → Option (Int32 × zy_S)) (x2 : Int32) (y0 : Int32) (s : zy_S) : Option (Int32 × zy_S) :=
zyF65_145 k23 y0 x2 s
theorem zyC65_127 {X : zx_X}  {k23 : Int32 → Int32 → zy_S → Option (Int32 × zy_S)}  (hk23 : ∀ (x1 : Int32) (x2 : Int32) (s : zy_S) (r : Int32) (s' : zy_S), k23 x1 x2 s = some (r, s') → zyR X 3 65 23 [some (.ref (5 + 3)), some (.int x1), some (.int x2), none] [] s (zyE (some (.int r)) s')) {x2 : Int32} {y0 : Int32} {s : zy_S} {r : Int32} {s' : zy_S}  (h : zyF65_127 k23 x2 y0 s = some (r, s')) : zyR X 3 65 127 [some (.ref (5 + 3)), none, some (.int x2), none] [.int y0] s (zyE (some (.int r)) s') := by
  unfold zyF65_127 at h
  refine zy_23 rfl rfl (show zyR _ _ _ _ [some (.ref (5 + 3)), some (.int y0), some (.int x2), none] [] _ _ from ?_)
  refine zy_6 rfl (show zyR _ _ _ _ [some (.ref (5 + 3)), some (.int y0), some (.int x2), none] [] _ _ from ?_)
  exact zy_sub (show zy_le [some (.ref (5 + 3)), some (.int y0), some (.int x2), none] [some (.ref (5 + 3)), some (.int y0), some (.int x2), none] from ⟨rfl, ⟨rfl, ⟨rfl, trivial⟩⟩⟩) (zyC65_145 hk23 h)
noncomputable def zyF65_83  (k23 : Int32 → Int32 → zy_S → Option (Int32 × zy_S)) (x1 : Int32) (x2 : Int32) (y0 : Int32) (s : zy_S) : Option (Int32 × zy_S) :=
(zyF66 y0 s).bind fun p1 =>
zyF65_145 k23 x1 x2 p1.2
theorem zyC65_83 {X : zx_X}  {k23 : Int32 → Int32 → zy_S → Option (Int32 × zy_S)}  (hk23 : ∀ (x1 : Int32) (x2 : Int32) (s : zy_S) (r : Int32) (s' : zy_S), k23 x1 x2 s = some (r, s') → zyR X 3 65 23 [some (.ref (5 + 3)), some (.int x1), some (.int x2), none] [] s (zyE (some (.int r)) s')) {x1 : Int32} {x2 : Int32} {y0 : Int32} {s : zy_S} {r : Int32} {s' : zy_S}  (h : zyF65_83 k23 x1 x2 y0 s = some (r, s')) : zyR X 3 65 83 [some (.ref (5 + 3)), some (.int x1), some (.int x2), none] [.int y0, .ref (5 + 3)] s (zyE (some (.int r)) s') := by
  unfold zyF65_83 at h
  obtain ⟨p1, hp1, h⟩ := zy_bind h
  refine zy_5 (c := 5) (as := [.int y0]) (rest := []) (L := [some (.ref (5 + 3)), some (.int y0)]) (d' := 1) rfl rfl rfl (Nat.le_of_ble_eq_true rfl) (Nat.le_of_ble_eq_true rfl) rfl (Nat.le_of_ble_eq_true rfl) rfl rfl (zyC66 hp1) ?_
  show zyR _ _ _ _ [some (.ref (5 + 3)), some (.int x1), some (.int x2), none] [] _ _
  refine zy_6 rfl (show zyR _ _ _ _ [some (.ref (5 + 3)), some (.int x1), some (.int x2), none] [] _ _ from ?_)
  exact zy_sub (show zy_le [some (.ref (5 + 3)), some (.int x1), some (.int x2), none] [some (.ref (5 + 3)), some (.int x1), some (.int x2), none] from ⟨rfl, ⟨rfl, ⟨rfl, trivial⟩⟩⟩) (zyC65_145 hk23 h)
noncomputable def zyF65_53  (k23 : Int32 → Int32 → zy_S → Option (Int32 × zy_S)) (x2 : Int32) (y0 : Int32) (s : zy_S) : Option (Int32 × zy_S) :=
zyF65_145 k23 y0 x2 s
theorem zyC65_53 {X : zx_X}  {k23 : Int32 → Int32 → zy_S → Option (Int32 × zy_S)}  (hk23 : ∀ (x1 : Int32) (x2 : Int32) (s : zy_S) (r : Int32) (s' : zy_S), k23 x1 x2 s = some (r, s') → zyR X 3 65 23 [some (.ref (5 + 3)), some (.int x1), some (.int x2), none] [] s (zyE (some (.int r)) s')) {x2 : Int32} {y0 : Int32} {s : zy_S} {r : Int32} {s' : zy_S}  (h : zyF65_53 k23 x2 y0 s = some (r, s')) : zyR X 3 65 53 [some (.ref (5 + 3)), none, some (.int x2), none] [.int y0] s (zyE (some (.int r)) s') := by
  unfold zyF65_53 at h
  refine zy_23 rfl rfl (show zyR _ _ _ _ [some (.ref (5 + 3)), some (.int y0), some (.int x2), none] [] _ _ from ?_)
  refine zy_6 rfl (show zyR _ _ _ _ [some (.ref (5 + 3)), some (.int y0), some (.int x2), none] [] _ _ from ?_)
  exact zy_sub (show zy_le [some (.ref (5 + 3)), some (.int y0), some (.int x2), none] [some (.ref (5 + 3)), some (.int y0), some (.int x2), none] from ⟨rfl, ⟨rfl, ⟨rfl, trivial⟩⟩⟩) (zyC65_145 hk23 h)
noncomputable def zyF65_23b  (k23 : Int32 → Int32 → zy_S → Option (Int32 × zy_S)) (x1 : Int32) (x2 : Int32) (s : zy_S) : Option (Int32 × zy_S) :=
if (s.1 5 3) ≤ x2 then
some ((0 : Int32), s)
else
if zy_in x2 128 then
if x1 = 0 then
if (s.1 6 (x2).toNatClampNeg) < 0 then
if (s.1 6 (x2).toNatClampNeg) ≠ (-59 : Int32) then
if (s.1 6 (x2).toNatClampNeg) ≠ (-63 : Int32) then
(zyF67 s).bind fun p3 =>
(zyF70 (-(s.1 6 (x2).toNatClampNeg)) p3.1 p3.2).bind fun p4 =>
(zyF66 p4.1 p4.2).bind fun p5 =>
zyF65_145 k23 x1 x2 p5.2
else
(zyF67 s).bind fun p6 =>
if p6.1 ≠ 0 then
zyF65_127 k23 x2 (0 : Int32) p6.2
else
zyF65_127 k23 x2 (1 : Int32) p6.2
else
(zyF67 s).bind fun p9 =>
(zyF68 (99 : Int32) p9.1 p9.2).bind fun p10 =>
(zyF69 (0 : Int32) p10.1 p10.2).bind fun p11 =>
some (p11.1, p11.2)
else
if (10000 : Int32) ≤ (s.1 6 (x2).toNatClampNeg) then
if zy_in ((s.1 6 (x2).toNatClampNeg) - (10000 : Int32)) 6 then
zyF65_83 k23 x1 x2 (s.1 8 (((s.1 6 (x2).toNatClampNeg) - (10000 : Int32))).toNatClampNeg) s
else none
else
zyF65_83 k23 x1 x2 (s.1 6 (x2).toNatClampNeg) s
else
if (s.1 6 (x2).toNatClampNeg) = (-59 : Int32) then
zyF65_53 k23 x2 (0 : Int32) s
else
zyF65_53 k23 x2 (1 : Int32) s
else none
theorem zyC65_23b {X : zx_X}  {k23 : Int32 → Int32 → zy_S → Option (Int32 × zy_S)}  (hk23 : ∀ (x1 : Int32) (x2 : Int32) (s : zy_S) (r : Int32) (s' : zy_S), k23 x1 x2 s = some (r, s') → zyR X 3 65 23 [some (.ref (5 + 3)), some (.int x1), some (.int x2), none] [] s (zyE (some (.int r)) s')) {x1 : Int32} {x2 : Int32} {s : zy_S} {r : Int32} {s' : zy_S}  (h : zyF65_23b k23 x1 x2 s = some (r, s')) : zyR X 3 65 23 [some (.ref (5 + 3)), some (.int x1), some (.int x2), none] [] s (zyE (some (.int r)) s') := by
  unfold zyF65_23b at h
  refine zy_2 rfl rfl (show zyR _ _ _ _ [some (.ref (5 + 3)), some (.int x1), some (.int x2), none] [.int x2] _ _ from ?_)
  refine zy_0 rfl rfl (show zyR _ _ _ _ [some (.ref (5 + 3)), some (.int x1), some (.int x2), none] [.ref (5 + 3), .int x2] _ _ from ?_)
  refine zy_1 (c := 5) rfl rfl rfl (show zyR _ _ _ _ [some (.ref (5 + 3)), some (.int x1), some (.int x2), none] [.int (s.1 5 3), .int x2] _ _ from ?_)
  refine zy_25_3 rfl (fun b18 => (show zyR _ _ _ _ [some (.ref (5 + 3)), some (.int x1), some (.int x2), none] [] _ _ from ?_)) (fun b18 => (show zyR _ _ _ _ [some (.ref (5 + 3)), some (.int x1), some (.int x2), none] [] _ _ from ?_))
  · replace h := zy_ifp h b18
    refine zy_3 rfl rfl (show zyR _ _ _ _ [some (.ref (5 + 3)), some (.int x1), some (.int x2), none] [.int (0 : Int32)] _ _ from ?_)
    obtain ⟨rfl, rfl⟩ := zy_pi h
    exact zy_4 rfl ⟨rfl, rfl⟩
  · replace h := zy_ifn h b18
    refine zy_0 rfl rfl (show zyR _ _ _ _ [some (.ref (5 + 3)), some (.int x1), some (.int x2), none] [.ref (5 + 3)] _ _ from ?_)
    refine zy_1r (c := 5) rfl rfl rfl (show zyR _ _ _ _ [some (.ref (5 + 3)), some (.int x1), some (.int x2), none] [.ref (6 + 3)] _ _ from ?_)
    refine zy_2 rfl rfl (show zyR _ _ _ _ [some (.ref (5 + 3)), some (.int x1), some (.int x2), none] [.int x2, .ref (6 + 3)] _ _ from ?_)
    obtain ⟨c2, h⟩ := zy_if h
    refine zy_26 (c := 6) rfl rfl c2 (show zyR _ _ _ _ [some (.ref (5 + 3)), some (.int x1), some (.int x2), none] [.int (s.1 6 (x2).toNatClampNeg)] _ _ from ?_)
    refine zy_23 rfl rfl (show zyR _ _ _ _ [some (.ref (5 + 3)), some (.int x1), some (.int x2), some (.int (s.1 6 (x2).toNatClampNeg))] [] _ _ from ?_)
    refine zy_2 rfl rfl (show zyR _ _ _ _ [some (.ref (5 + 3)), some (.int x1), some (.int x2), some (.int (s.1 6 (x2).toNatClampNeg))] [.int x1] _ _ from ?_)
    refine zy_24_0 rfl (fun b17 => (show zyR _ _ _ _ [some (.ref (5 + 3)), some (.int x1), some (.int x2), some (.int (s.1 6 (x2).toNatClampNeg))] [] _ _ from ?_)) (fun b17 => (show zyR _ _ _ _ [some (.ref (5 + 3)), some (.int x1), some (.int x2), some (.int (s.1 6 (x2).toNatClampNeg))] [] _ _ from ?_))
    · replace h := zy_ifp h b17
      refine zy_2 rfl rfl (show zyR _ _ _ _ [some (.ref (5 + 3)), some (.int x1), some (.int x2), some (.int (s.1 6 (x2).toNatClampNeg))] [.int (s.1 6 (x2).toNatClampNeg)] _ _ from ?_)
      refine zy_24_2 rfl (fun b15 => (show zyR _ _ _ _ [some (.ref (5 + 3)), some (.int x1), some (.int x2), some (.int (s.1 6 (x2).toNatClampNeg))] [] _ _ from ?_)) (fun b15 => (show zyR _ _ _ _ [some (.ref (5 + 3)), some (.int x1), some (.int x2), some (.int (s.1 6 (x2).toNatClampNeg))] [] _ _ from ?_))
      · replace h := zy_ifp h b15
        refine zy_2 rfl rfl (show zyR _ _ _ _ [some (.ref (5 + 3)), some (.int x1), some (.int x2), some (.int (s.1 6 (x2).toNatClampNeg))] [.int (s.1 6 (x2).toNatClampNeg)] _ _ from ?_)
        refine zy_3 rfl rfl (show zyR _ _ _ _ [some (.ref (5 + 3)), some (.int x1), some (.int x2), some (.int (s.1 6 (x2).toNatClampNeg))] [.int (-59 : Int32), .int (s.1 6 (x2).toNatClampNeg)] _ _ from ?_)
        refine zy_25_1 rfl (fun b12 => (show zyR _ _ _ _ [some (.ref (5 + 3)), some (.int x1), some (.int x2), some (.int (s.1 6 (x2).toNatClampNeg))] [] _ _ from ?_)) (fun b12 => (show zyR _ _ _ _ [some (.ref (5 + 3)), some (.int x1), some (.int x2), some (.int (s.1 6 (x2).toNatClampNeg))] [] _ _ from ?_))
        · replace h := zy_ifp h b12
          refine zy_2 rfl rfl (show zyR _ _ _ _ [some (.ref (5 + 3)), some (.int x1), some (.int x2), some (.int (s.1 6 (x2).toNatClampNeg))] [.int (s.1 6 (x2).toNatClampNeg)] _ _ from ?_)
          refine zy_3 rfl rfl (show zyR _ _ _ _ [some (.ref (5 + 3)), some (.int x1), some (.int x2), some (.int (s.1 6 (x2).toNatClampNeg))] [.int (-63 : Int32), .int (s.1 6 (x2).toNatClampNeg)] _ _ from ?_)
          refine zy_25_1 rfl (fun b8 => (show zyR _ _ _ _ [some (.ref (5 + 3)), some (.int x1), some (.int x2), some (.int (s.1 6 (x2).toNatClampNeg))] [] _ _ from ?_)) (fun b8 => (show zyR _ _ _ _ [some (.ref (5 + 3)), some (.int x1), some (.int x2), some (.int (s.1 6 (x2).toNatClampNeg))] [] _ _ from ?_))
          · replace h := zy_ifp h b8
            refine zy_0 rfl rfl (show zyR _ _ _ _ [some (.ref (5 + 3)), some (.int x1), some (.int x2), some (.int (s.1 6 (x2).toNatClampNeg))] [.ref (5 + 3)] _ _ from ?_)
            refine zy_0 rfl rfl (show zyR _ _ _ _ [some (.ref (5 + 3)), some (.int x1), some (.int x2), some (.int (s.1 6 (x2).toNatClampNeg))] [.ref (5 + 3), .ref (5 + 3)] _ _ from ?_)
            refine zy_2 rfl rfl (show zyR _ _ _ _ [some (.ref (5 + 3)), some (.int x1), some (.int x2), some (.int (s.1 6 (x2).toNatClampNeg))] [.int (s.1 6 (x2).toNatClampNeg), .ref (5 + 3), .ref (5 + 3)] _ _ from ?_)
            refine zy_21 rfl (show zyR _ _ _ _ [some (.ref (5 + 3)), some (.int x1), some (.int x2), some (.int (s.1 6 (x2).toNatClampNeg))] [.int (-(s.1 6 (x2).toNatClampNeg)), .ref (5 + 3), .ref (5 + 3)] _ _ from ?_)
            refine zy_0 rfl rfl (show zyR _ _ _ _ [some (.ref (5 + 3)), some (.int x1), some (.int x2), some (.int (s.1 6 (x2).toNatClampNeg))] [.ref (5 + 3), .int (-(s.1 6 (x2).toNatClampNeg)), .ref (5 + 3), .ref (5 + 3)] _ _ from ?_)
            obtain ⟨p3, hp3, h⟩ := zy_bind h
            refine zy_5 (c := 5) (as := []) (rest := [.int (-(s.1 6 (x2).toNatClampNeg)), .ref (5 + 3), .ref (5 + 3)]) (L := [some (.ref (5 + 3))]) (d' := 1) rfl rfl rfl (Nat.le_of_ble_eq_true rfl) (Nat.le_of_ble_eq_true rfl) rfl (Nat.le_of_ble_eq_true rfl) rfl rfl (zyC67 hp3) ?_
            show zyR _ _ _ _ [some (.ref (5 + 3)), some (.int x1), some (.int x2), some (.int (s.1 6 (x2).toNatClampNeg))] [.int p3.1, .int (-(s.1 6 (x2).toNatClampNeg)), .ref (5 + 3), .ref (5 + 3)] _ _
            obtain ⟨p4, hp4, h⟩ := zy_bind h
            refine zy_5 (c := 5) (as := [.int (-(s.1 6 (x2).toNatClampNeg)), .int p3.1]) (rest := [.ref (5 + 3)]) (L := [some (.ref (5 + 3)), some (.int (-(s.1 6 (x2).toNatClampNeg))), some (.int p3.1)]) (d' := 2) rfl rfl rfl (Nat.le_of_ble_eq_true rfl) (Nat.le_of_ble_eq_true rfl) rfl (Nat.le_of_ble_eq_true rfl) rfl rfl (zyC70 hp4) ?_
            show zyR _ _ _ _ [some (.ref (5 + 3)), some (.int x1), some (.int x2), some (.int (s.1 6 (x2).toNatClampNeg))] [.int p4.1, .ref (5 + 3)] _ _
            obtain ⟨p5, hp5, h⟩ := zy_bind h
            refine zy_5 (c := 5) (as := [.int p4.1]) (rest := []) (L := [some (.ref (5 + 3)), some (.int p4.1)]) (d' := 1) rfl rfl rfl (Nat.le_of_ble_eq_true rfl) (Nat.le_of_ble_eq_true rfl) rfl (Nat.le_of_ble_eq_true rfl) rfl rfl (zyC66 hp5) ?_
            show zyR _ _ _ _ [some (.ref (5 + 3)), some (.int x1), some (.int x2), some (.int (s.1 6 (x2).toNatClampNeg))] [] _ _
            exact zy_sub (show zy_le [some (.ref (5 + 3)), some (.int x1), some (.int x2), none] [some (.ref (5 + 3)), some (.int x1), some (.int x2), some (.int (s.1 6 (x2).toNatClampNeg))] from ⟨rfl, ⟨rfl, ⟨rfl, trivial⟩⟩⟩) (zyC65_145 hk23 h)
          · replace h := zy_ifn h b8
            refine zy_0 rfl rfl (show zyR _ _ _ _ [some (.ref (5 + 3)), some (.int x1), some (.int x2), some (.int (s.1 6 (x2).toNatClampNeg))] [.ref (5 + 3)] _ _ from ?_)
            obtain ⟨p6, hp6, h⟩ := zy_bind h
            refine zy_5 (c := 5) (as := []) (rest := []) (L := [some (.ref (5 + 3))]) (d' := 1) rfl rfl rfl (Nat.le_of_ble_eq_true rfl) (Nat.le_of_ble_eq_true rfl) rfl (Nat.le_of_ble_eq_true rfl) rfl rfl (zyC67 hp6) ?_
            show zyR _ _ _ _ [some (.ref (5 + 3)), some (.int x1), some (.int x2), some (.int (s.1 6 (x2).toNatClampNeg))] [.int p6.1] _ _
            refine zy_24_1 rfl (fun b7 => (show zyR _ _ _ _ [some (.ref (5 + 3)), some (.int x1), some (.int x2), some (.int (s.1 6 (x2).toNatClampNeg))] [] _ _ from ?_)) (fun b7 => (show zyR _ _ _ _ [some (.ref (5 + 3)), some (.int x1), some (.int x2), some (.int (s.1 6 (x2).toNatClampNeg))] [] _ _ from ?_))
            · replace h := zy_ifp h b7
              refine zy_3 rfl rfl (show zyR _ _ _ _ [some (.ref (5 + 3)), some (.int x1), some (.int x2), some (.int (s.1 6 (x2).toNatClampNeg))] [.int (0 : Int32)] _ _ from ?_)
              exact zy_sub (show zy_le [some (.ref (5 + 3)), none, some (.int x2), none] [some (.ref (5 + 3)), some (.int x1), some (.int x2), some (.int (s.1 6 (x2).toNatClampNeg))] from ⟨rfl, ⟨rfl, trivial⟩⟩) (zyC65_127 hk23 h)
            · replace h := zy_ifn h b7
              refine zy_3 rfl rfl (show zyR _ _ _ _ [some (.ref (5 + 3)), some (.int x1), some (.int x2), some (.int (s.1 6 (x2).toNatClampNeg))] [.int (1 : Int32)] _ _ from ?_)
              refine zy_6 rfl (show zyR _ _ _ _ [some (.ref (5 + 3)), some (.int x1), some (.int x2), some (.int (s.1 6 (x2).toNatClampNeg))] [.int (1 : Int32)] _ _ from ?_)
              exact zy_sub (show zy_le [some (.ref (5 + 3)), none, some (.int x2), none] [some (.ref (5 + 3)), some (.int x1), some (.int x2), some (.int (s.1 6 (x2).toNatClampNeg))] from ⟨rfl, ⟨rfl, trivial⟩⟩) (zyC65_127 hk23 h)
        · replace h := zy_ifn h b12
          refine zy_3 rfl rfl (show zyR _ _ _ _ [some (.ref (5 + 3)), some (.int x1), some (.int x2), some (.int (s.1 6 (x2).toNatClampNeg))] [.int (0 : Int32)] _ _ from ?_)
          refine zy_3 rfl rfl (show zyR _ _ _ _ [some (.ref (5 + 3)), some (.int x1), some (.int x2), some (.int (s.1 6 (x2).toNatClampNeg))] [.int (99 : Int32), .int (0 : Int32)] _ _ from ?_)
          refine zy_0 rfl rfl (show zyR _ _ _ _ [some (.ref (5 + 3)), some (.int x1), some (.int x2), some (.int (s.1 6 (x2).toNatClampNeg))] [.ref (5 + 3), .int (99 : Int32), .int (0 : Int32)] _ _ from ?_)
          obtain ⟨p9, hp9, h⟩ := zy_bind h
          refine zy_5 (c := 5) (as := []) (rest := [.int (99 : Int32), .int (0 : Int32)]) (L := [some (.ref (5 + 3))]) (d' := 1) rfl rfl rfl (Nat.le_of_ble_eq_true rfl) (Nat.le_of_ble_eq_true rfl) rfl (Nat.le_of_ble_eq_true rfl) rfl rfl (zyC67 hp9) ?_
          show zyR _ _ _ _ [some (.ref (5 + 3)), some (.int x1), some (.int x2), some (.int (s.1 6 (x2).toNatClampNeg))] [.int p9.1, .int (99 : Int32), .int (0 : Int32)] _ _
          obtain ⟨p10, hp10, h⟩ := zy_bind h
          refine zy_60 (as := [.int (99 : Int32), .int p9.1]) (rest := [.int (0 : Int32)]) (L := [some (.int (99 : Int32)), some (.int p9.1)]) (d' := 1) rfl rfl (Nat.le_of_ble_eq_true rfl) (Nat.le_of_ble_eq_true rfl) rfl (Nat.le_of_ble_eq_true rfl) rfl rfl (zyC68 hp10) ?_
          show zyR _ _ _ _ [some (.ref (5 + 3)), some (.int x1), some (.int x2), some (.int (s.1 6 (x2).toNatClampNeg))] [.int p10.1, .int (0 : Int32)] _ _
          obtain ⟨p11, hp11, h⟩ := zy_bind h
          refine zy_60 (as := [.int (0 : Int32), .int p10.1]) (rest := []) (L := [some (.int (0 : Int32)), some (.int p10.1)]) (d' := 1) rfl rfl (Nat.le_of_ble_eq_true rfl) (Nat.le_of_ble_eq_true rfl) rfl (Nat.le_of_ble_eq_true rfl) rfl rfl (zyC69 hp11) ?_
          show zyR _ _ _ _ [some (.ref (5 + 3)), some (.int x1), some (.int x2), some (.int (s.1 6 (x2).toNatClampNeg))] [.int p11.1] _ _
          obtain ⟨rfl, rfl⟩ := zy_pi h
          exact zy_4 rfl ⟨rfl, rfl⟩
      · replace h := zy_ifn h b15
        refine zy_0 rfl rfl (show zyR _ _ _ _ [some (.ref (5 + 3)), some (.int x1), some (.int x2), some (.int (s.1 6 (x2).toNatClampNeg))] [.ref (5 + 3)] _ _ from ?_)
        refine zy_2 rfl rfl (show zyR _ _ _ _ [some (.ref (5 + 3)), some (.int x1), some (.int x2), some (.int (s.1 6 (x2).toNatClampNeg))] [.int (s.1 6 (x2).toNatClampNeg), .ref (5 + 3)] _ _ from ?_)
        refine zy_3 rfl rfl (show zyR _ _ _ _ [some (.ref (5 + 3)), some (.int x1), some (.int x2), some (.int (s.1 6 (x2).toNatClampNeg))] [.int (10000 : Int32), .int (s.1 6 (x2).toNatClampNeg), .ref (5 + 3)] _ _ from ?_)
        refine zy_25_3 rfl (fun b14 => (show zyR _ _ _ _ [some (.ref (5 + 3)), some (.int x1), some (.int x2), some (.int (s.1 6 (x2).toNatClampNeg))] [.ref (5 + 3)] _ _ from ?_)) (fun b14 => (show zyR _ _ _ _ [some (.ref (5 + 3)), some (.int x1), some (.int x2), some (.int (s.1 6 (x2).toNatClampNeg))] [.ref (5 + 3)] _ _ from ?_))
        · replace h := zy_ifp h b14
          refine zy_0 rfl rfl (show zyR _ _ _ _ [some (.ref (5 + 3)), some (.int x1), some (.int x2), some (.int (s.1 6 (x2).toNatClampNeg))] [.ref (5 + 3), .ref (5 + 3)] _ _ from ?_)
          refine zy_1r (c := 5) rfl rfl rfl (show zyR _ _ _ _ [some (.ref (5 + 3)), some (.int x1), some (.int x2), some (.int (s.1 6 (x2).toNatClampNeg))] [.ref (8 + 3), .ref (5 + 3)] _ _ from ?_)
          refine zy_2 rfl rfl (show zyR _ _ _ _ [some (.ref (5 + 3)), some (.int x1), some (.int x2), some (.int (s.1 6 (x2).toNatClampNeg))] [.int (s.1 6 (x2).toNatClampNeg), .ref (8 + 3), .ref (5 + 3)] _ _ from ?_)
          refine zy_3 rfl rfl (show zyR _ _ _ _ [some (.ref (5 + 3)), some (.int x1), some (.int x2), some (.int (s.1 6 (x2).toNatClampNeg))] [.int (10000 : Int32), .int (s.1 6 (x2).toNatClampNeg), .ref (8 + 3), .ref (5 + 3)] _ _ from ?_)
          refine zy_11 rfl (show zyR _ _ _ _ [some (.ref (5 + 3)), some (.int x1), some (.int x2), some (.int (s.1 6 (x2).toNatClampNeg))] [.int ((s.1 6 (x2).toNatClampNeg) - (10000 : Int32)), .ref (8 + 3), .ref (5 + 3)] _ _ from ?_)
          obtain ⟨c13, h⟩ := zy_if h
          refine zy_26 (c := 8) rfl rfl c13 (show zyR _ _ _ _ [some (.ref (5 + 3)), some (.int x1), some (.int x2), some (.int (s.1 6 (x2).toNatClampNeg))] [.int (s.1 8 (((s.1 6 (x2).toNatClampNeg) - (10000 : Int32))).toNatClampNeg), .ref (5 + 3)] _ _ from ?_)
          exact zy_sub (show zy_le [some (.ref (5 + 3)), some (.int x1), some (.int x2), none] [some (.ref (5 + 3)), some (.int x1), some (.int x2), some (.int (s.1 6 (x2).toNatClampNeg))] from ⟨rfl, ⟨rfl, ⟨rfl, trivial⟩⟩⟩) (zyC65_83 hk23 h)
        · replace h := zy_ifn h b14
          refine zy_2 rfl rfl (show zyR _ _ _ _ [some (.ref (5 + 3)), some (.int x1), some (.int x2), some (.int (s.1 6 (x2).toNatClampNeg))] [.int (s.1 6 (x2).toNatClampNeg), .ref (5 + 3)] _ _ from ?_)
          refine zy_6 rfl (show zyR _ _ _ _ [some (.ref (5 + 3)), some (.int x1), some (.int x2), some (.int (s.1 6 (x2).toNatClampNeg))] [.int (s.1 6 (x2).toNatClampNeg), .ref (5 + 3)] _ _ from ?_)
          exact zy_sub (show zy_le [some (.ref (5 + 3)), some (.int x1), some (.int x2), none] [some (.ref (5 + 3)), some (.int x1), some (.int x2), some (.int (s.1 6 (x2).toNatClampNeg))] from ⟨rfl, ⟨rfl, ⟨rfl, trivial⟩⟩⟩) (zyC65_83 hk23 h)
    · replace h := zy_ifn h b17
      refine zy_2 rfl rfl (show zyR _ _ _ _ [some (.ref (5 + 3)), some (.int x1), some (.int x2), some (.int (s.1 6 (x2).toNatClampNeg))] [.int (s.1 6 (x2).toNatClampNeg)] _ _ from ?_)
      refine zy_3 rfl rfl (show zyR _ _ _ _ [some (.ref (5 + 3)), some (.int x1), some (.int x2), some (.int (s.1 6 (x2).toNatClampNeg))] [.int (-59 : Int32), .int (s.1 6 (x2).toNatClampNeg)] _ _ from ?_)
      refine zy_25_0 rfl (fun b16 => (show zyR _ _ _ _ [some (.ref (5 + 3)), some (.int x1), some (.int x2), some (.int (s.1 6 (x2).toNatClampNeg))] [] _ _ from ?_)) (fun b16 => (show zyR _ _ _ _ [some (.ref (5 + 3)), some (.int x1), some (.int x2), some (.int (s.1 6 (x2).toNatClampNeg))] [] _ _ from ?_))
      · replace h := zy_ifp h b16
        refine zy_3 rfl rfl (show zyR _ _ _ _ [some (.ref (5 + 3)), some (.int x1), some (.int x2), some (.int (s.1 6 (x2).toNatClampNeg))] [.int (0 : Int32)] _ _ from ?_)
        exact zy_sub (show zy_le [some (.ref (5 + 3)), none, some (.int x2), none] [some (.ref (5 + 3)), some (.int x1), some (.int x2), some (.int (s.1 6 (x2).toNatClampNeg))] from ⟨rfl, ⟨rfl, trivial⟩⟩) (zyC65_53 hk23 h)
      · replace h := zy_ifn h b16
        refine zy_3 rfl rfl (show zyR _ _ _ _ [some (.ref (5 + 3)), some (.int x1), some (.int x2), some (.int (s.1 6 (x2).toNatClampNeg))] [.int (1 : Int32)] _ _ from ?_)
        refine zy_6 rfl (show zyR _ _ _ _ [some (.ref (5 + 3)), some (.int x1), some (.int x2), some (.int (s.1 6 (x2).toNatClampNeg))] [.int (1 : Int32)] _ _ from ?_)
        exact zy_sub (show zy_le [some (.ref (5 + 3)), none, some (.int x2), none] [some (.ref (5 + 3)), some (.int x1), some (.int x2), some (.int (s.1 6 (x2).toNatClampNeg))] from ⟨rfl, ⟨rfl, trivial⟩⟩) (zyC65_53 hk23 h)
noncomputable def zyF65_23   (n : Nat) : Int32 → Int32 → zy_S → Option (Int32 × zy_S) := Nat.rec (fun _ _ _ => none) (fun _ k23 => zyF65_23b k23) n
theorem zyC65_23 {X : zx_X}     : ∀ (n : Nat) (x1 : Int32) (x2 : Int32) (s : zy_S) (r : Int32) (s' : zy_S), zyF65_23 n x1 x2 s = some (r, s') → zyR X 3 65 23 [some (.ref (5 + 3)), some (.int x1), some (.int x2), none] [] s (zyE (some (.int r)) s')
  | 0, _, _ => by
    intro s r s'  h
    have h : (none : Option (Int32 × zy_S)) = some (r, s') := h
    cases h
  | n + 1, x1, x2 => by
    intro s r s'  h
    exact zyC65_23b (k23 := zyF65_23 n) (fun x1 x2 s r s'  h => zyC65_23  n x1 x2 s r s'  h) h
noncomputable def zyF65    (s : zy_S) : Option (Int32 × zy_S) :=
if (s.1 5 3) ≠ 0 then
zyF65_23 zy_fu (0 : Int32) (0 : Int32) (zy_up s 5 4 (0 : Int32))
else
some ((s.1 8 0), s)
theorem zyC65 {X : zx_X}      {s : zy_S} {r : Int32} {s' : zy_S}  (h : zyF65 s = some (r, s')) : zyR X 3 65 0 [some (.ref (5 + 3)), none, none, none] [] s (zyE (some (.int r)) s') := by
  unfold zyF65 at h
  refine zy_0 rfl rfl (show zyR _ _ _ _ [some (.ref (5 + 3)), none, none, none] [.ref (5 + 3)] _ _ from ?_)
  refine zy_1 (c := 5) rfl rfl rfl (show zyR _ _ _ _ [some (.ref (5 + 3)), none, none, none] [.int (s.1 5 3)] _ _ from ?_)
  refine zy_24_1 rfl (fun b19 => (show zyR _ _ _ _ [some (.ref (5 + 3)), none, none, none] [] _ _ from ?_)) (fun b19 => (show zyR _ _ _ _ [some (.ref (5 + 3)), none, none, none] [] _ _ from ?_))
  · replace h := zy_ifp h b19
    refine zy_0 rfl rfl (show zyR _ _ _ _ [some (.ref (5 + 3)), none, none, none] [.ref (5 + 3)] _ _ from ?_)
    refine zy_3 rfl rfl (show zyR _ _ _ _ [some (.ref (5 + 3)), none, none, none] [.int (0 : Int32), .ref (5 + 3)] _ _ from ?_)
    refine zy_52 (c := 5) rfl rfl rfl (show zyR _ _ _ _ [some (.ref (5 + 3)), none, none, none] [] _ _ from ?_)
    refine zy_3 rfl rfl (show zyR _ _ _ _ [some (.ref (5 + 3)), none, none, none] [.int (0 : Int32)] _ _ from ?_)
    refine zy_23 rfl rfl (show zyR _ _ _ _ [some (.ref (5 + 3)), some (.int (0 : Int32)), none, none] [] _ _ from ?_)
    refine zy_3 rfl rfl (show zyR _ _ _ _ [some (.ref (5 + 3)), some (.int (0 : Int32)), none, none] [.int (0 : Int32)] _ _ from ?_)
    refine zy_23 rfl rfl (show zyR _ _ _ _ [some (.ref (5 + 3)), some (.int (0 : Int32)), some (.int (0 : Int32)), none] [] _ _ from ?_)
    exact zy_sub (show zy_le [some (.ref (5 + 3)), some (.int (0 : Int32)), some (.int (0 : Int32)), none] [some (.ref (5 + 3)), some (.int (0 : Int32)), some (.int (0 : Int32)), none] from ⟨rfl, ⟨rfl, ⟨rfl, trivial⟩⟩⟩) (zyC65_23 zy_fu (0 : Int32) (0 : Int32) (zy_up s 5 4 (0 : Int32)) _ _ h)
  · replace h := zy_ifn h b19
    refine zy_0 rfl rfl (show zyR _ _ _ _ [some (.ref (5 + 3)), none, none, none] [.ref (5 + 3)] _ _ from ?_)
    refine zy_1r (c := 5) rfl rfl rfl (show zyR _ _ _ _ [some (.ref (5 + 3)), none, none, none] [.ref (8 + 3)] _ _ from ?_)
    refine zy_3 rfl rfl (show zyR _ _ _ _ [some (.ref (5 + 3)), none, none, none] [.int (0 : Int32), .ref (8 + 3)] _ _ from ?_)
    refine zy_26 (c := 8) rfl rfl (by decide) (show zyR _ _ _ _ [some (.ref (5 + 3)), none, none, none] [.int (s.1 8 0)] _ _ from ?_)
    obtain ⟨rfl, rfl⟩ := zy_pi h
    exact zy_4 rfl ⟨rfl, rfl⟩
/-! NineOpinions$Thought.weigh(III)I -/
noncomputable def zyF58_68  (k6 : Int32 → Int32 → Int32 → Int32 → Int32 → zy_S → Option (Int32 × zy_S)) (x1 : Int32) (x2 : Int32) (x3 : Int32) (x4 : Int32) (x5 : Int32) (s : zy_S) : Option (Int32 × zy_S) :=
k6 x1 x2 x3 x4 (x5 + (1 : Int32)) s
theorem zyC58_68 {X : zx_X}  {k6 : Int32 → Int32 → Int32 → Int32 → Int32 → zy_S → Option (Int32 × zy_S)}  (hk6 : ∀ (x1 : Int32) (x2 : Int32) (x3 : Int32) (x4 : Int32) (x5 : Int32) (s : zy_S) (r : Int32) (s' : zy_S), k6 x1 x2 x3 x4 x5 s = some (r, s') → zyR X 4 58 6 [some (.ref (12 + 3)), some (.int x1), some (.int x2), some (.int x3), some (.int x4), some (.int x5), none] [] s (zyE (some (.int r)) s')) {x1 : Int32} {x2 : Int32} {x3 : Int32} {x4 : Int32} {x5 : Int32} {s : zy_S} {r : Int32} {s' : zy_S}  (h : zyF58_68 k6 x1 x2 x3 x4 x5 s = some (r, s')) : zyR X 4 58 68 [some (.ref (12 + 3)), some (.int x1), some (.int x2), some (.int x3), some (.int x4), some (.int x5), none] [] s (zyE (some (.int r)) s') := by
  unfold zyF58_68 at h
  refine zy_22 rfl rfl rfl rfl (show zyR _ _ _ _ [some (.ref (12 + 3)), some (.int x1), some (.int x2), some (.int x3), some (.int x4), some (.int (x5 + (1 : Int32))), none] [] _ _ from ?_)
  refine zy_6 rfl (show zyR _ _ _ _ [some (.ref (12 + 3)), some (.int x1), some (.int x2), some (.int x3), some (.int x4), some (.int (x5 + (1 : Int32))), none] [] _ _ from ?_)
  exact zy_sub (show zy_le [some (.ref (12 + 3)), some (.int x1), some (.int x2), some (.int x3), some (.int x4), some (.int (x5 + (1 : Int32))), none] [some (.ref (12 + 3)), some (.int x1), some (.int x2), some (.int x3), some (.int x4), some (.int (x5 + (1 : Int32))), none] from ⟨rfl, ⟨rfl, ⟨rfl, ⟨rfl, ⟨rfl, ⟨rfl, trivial⟩⟩⟩⟩⟩⟩) (hk6 x1 x2 x3 x4 (x5 + (1 : Int32)) s _ _ h)
noncomputable def zyF58_6b  (k6 : Int32 → Int32 → Int32 → Int32 → Int32 → zy_S → Option (Int32 × zy_S)) (x1 : Int32) (x2 : Int32) (x3 : Int32) (x4 : Int32) (x5 : Int32) (s : zy_S) : Option (Int32 × zy_S) :=
if (s.1 1 5) ≤ x5 then
some (x4, s)
else
(zyF32 (s.1 12 4) x5 s).bind fun p1 =>
(zyF32 (p1.2.1 12 5) x5 p1.2).bind fun p2 =>
if (p1.1 - p2.1) = 0 then
zyF58_68 k6 x1 x2 x3 x4 x5 p2.2
else
(zyF59 x5 x1 x2 x3 p2.2).bind fun p3 =>
(zyF65 p3.2).bind fun p4 =>
zyF58_68 k6 x1 x2 x3 (x4 + ((p1.1 - p2.1) * p4.1)) x5 p4.2
theorem zyC58_6b {X : zx_X}  {k6 : Int32 → Int32 → Int32 → Int32 → Int32 → zy_S → Option (Int32 × zy_S)}  (hk6 : ∀ (x1 : Int32) (x2 : Int32) (x3 : Int32) (x4 : Int32) (x5 : Int32) (s : zy_S) (r : Int32) (s' : zy_S), k6 x1 x2 x3 x4 x5 s = some (r, s') → zyR X 4 58 6 [some (.ref (12 + 3)), some (.int x1), some (.int x2), some (.int x3), some (.int x4), some (.int x5), none] [] s (zyE (some (.int r)) s')) {x1 : Int32} {x2 : Int32} {x3 : Int32} {x4 : Int32} {x5 : Int32} {s : zy_S} {r : Int32} {s' : zy_S}  (h : zyF58_6b k6 x1 x2 x3 x4 x5 s = some (r, s')) : zyR X 4 58 6 [some (.ref (12 + 3)), some (.int x1), some (.int x2), some (.int x3), some (.int x4), some (.int x5), none] [] s (zyE (some (.int r)) s') := by
  unfold zyF58_6b at h
  refine zy_2 rfl rfl (show zyR _ _ _ _ [some (.ref (12 + 3)), some (.int x1), some (.int x2), some (.int x3), some (.int x4), some (.int x5), none] [.int x5] _ _ from ?_)
  refine zy_0 rfl rfl (show zyR _ _ _ _ [some (.ref (12 + 3)), some (.int x1), some (.int x2), some (.int x3), some (.int x4), some (.int x5), none] [.ref (12 + 3), .int x5] _ _ from ?_)
  refine zy_1r (c := 12) rfl rfl rfl (show zyR _ _ _ _ [some (.ref (12 + 3)), some (.int x1), some (.int x2), some (.int x3), some (.int x4), some (.int x5), none] [.ref (1 + 3), .int x5] _ _ from ?_)
  refine zy_1 (c := 1) rfl rfl rfl (show zyR _ _ _ _ [some (.ref (12 + 3)), some (.int x1), some (.int x2), some (.int x3), some (.int x4), some (.int x5), none] [.int (s.1 1 5), .int x5] _ _ from ?_)
  refine zy_25_3 rfl (fun b6 => (show zyR _ _ _ _ [some (.ref (12 + 3)), some (.int x1), some (.int x2), some (.int x3), some (.int x4), some (.int x5), none] [] _ _ from ?_)) (fun b6 => (show zyR _ _ _ _ [some (.ref (12 + 3)), some (.int x1), some (.int x2), some (.int x3), some (.int x4), some (.int x5), none] [] _ _ from ?_))
  · replace h := zy_ifp h b6
    refine zy_2 rfl rfl (show zyR _ _ _ _ [some (.ref (12 + 3)), some (.int x1), some (.int x2), some (.int x3), some (.int x4), some (.int x5), none] [.int x4] _ _ from ?_)
    obtain ⟨rfl, rfl⟩ := zy_pi h
    exact zy_4 rfl ⟨rfl, rfl⟩
  · replace h := zy_ifn h b6
    refine zy_0 rfl rfl (show zyR _ _ _ _ [some (.ref (12 + 3)), some (.int x1), some (.int x2), some (.int x3), some (.int x4), some (.int x5), none] [.ref (12 + 3)] _ _ from ?_)
    refine zy_1 (c := 12) rfl rfl rfl (show zyR _ _ _ _ [some (.ref (12 + 3)), some (.int x1), some (.int x2), some (.int x3), some (.int x4), some (.int x5), none] [.int (s.1 12 4)] _ _ from ?_)
    refine zy_2 rfl rfl (show zyR _ _ _ _ [some (.ref (12 + 3)), some (.int x1), some (.int x2), some (.int x3), some (.int x4), some (.int x5), none] [.int x5, .int (s.1 12 4)] _ _ from ?_)
    obtain ⟨p1, hp1, h⟩ := zy_bind h
    refine zy_61 (as := [.int (s.1 12 4), .int x5]) (rest := []) (L := [some (.int (s.1 12 4)), some (.int x5)]) (d' := 1) rfl rfl (Nat.le_of_ble_eq_true rfl) (Nat.le_of_ble_eq_true rfl) rfl (Nat.le_of_ble_eq_true rfl) rfl rfl (zyC32 hp1) ?_
    show zyR _ _ _ _ [some (.ref (12 + 3)), some (.int x1), some (.int x2), some (.int x3), some (.int x4), some (.int x5), none] [.int p1.1] _ _
    refine zy_0 rfl rfl (show zyR _ _ _ _ [some (.ref (12 + 3)), some (.int x1), some (.int x2), some (.int x3), some (.int x4), some (.int x5), none] [.ref (12 + 3), .int p1.1] _ _ from ?_)
    refine zy_1 (c := 12) rfl rfl rfl (show zyR _ _ _ _ [some (.ref (12 + 3)), some (.int x1), some (.int x2), some (.int x3), some (.int x4), some (.int x5), none] [.int (p1.2.1 12 5), .int p1.1] _ _ from ?_)
    refine zy_2 rfl rfl (show zyR _ _ _ _ [some (.ref (12 + 3)), some (.int x1), some (.int x2), some (.int x3), some (.int x4), some (.int x5), none] [.int x5, .int (p1.2.1 12 5), .int p1.1] _ _ from ?_)
    obtain ⟨p2, hp2, h⟩ := zy_bind h
    refine zy_61 (as := [.int (p1.2.1 12 5), .int x5]) (rest := [.int p1.1]) (L := [some (.int (p1.2.1 12 5)), some (.int x5)]) (d' := 1) rfl rfl (Nat.le_of_ble_eq_true rfl) (Nat.le_of_ble_eq_true rfl) rfl (Nat.le_of_ble_eq_true rfl) rfl rfl (zyC32 hp2) ?_
    show zyR _ _ _ _ [some (.ref (12 + 3)), some (.int x1), some (.int x2), some (.int x3), some (.int x4), some (.int x5), none] [.int p2.1, .int p1.1] _ _
    refine zy_11 rfl (show zyR _ _ _ _ [some (.ref (12 + 3)), some (.int x1), some (.int x2), some (.int x3), some (.int x4), some (.int x5), none] [.int (p1.1 - p2.1)] _ _ from ?_)
    refine zy_23 rfl rfl (show zyR _ _ _ _ [some (.ref (12 + 3)), some (.int x1), some (.int x2), some (.int x3), some (.int x4), some (.int x5), some (.int (p1.1 - p2.1))] [] _ _ from ?_)
    refine zy_2 rfl rfl (show zyR _ _ _ _ [some (.ref (12 + 3)), some (.int x1), some (.int x2), some (.int x3), some (.int x4), some (.int x5), some (.int (p1.1 - p2.1))] [.int (p1.1 - p2.1)] _ _ from ?_)
    refine zy_24_0 rfl (fun b5 => (show zyR _ _ _ _ [some (.ref (12 + 3)), some (.int x1), some (.int x2), some (.int x3), some (.int x4), some (.int x5), some (.int (p1.1 - p2.1))] [] _ _ from ?_)) (fun b5 => (show zyR _ _ _ _ [some (.ref (12 + 3)), some (.int x1), some (.int x2), some (.int x3), some (.int x4), some (.int x5), some (.int (p1.1 - p2.1))] [] _ _ from ?_))
    · replace h := zy_ifp h b5
      exact zy_sub (show zy_le [some (.ref (12 + 3)), some (.int x1), some (.int x2), some (.int x3), some (.int x4), some (.int x5), none] [some (.ref (12 + 3)), some (.int x1), some (.int x2), some (.int x3), some (.int x4), some (.int x5), some (.int (p1.1 - p2.1))] from ⟨rfl, ⟨rfl, ⟨rfl, ⟨rfl, ⟨rfl, ⟨rfl, trivial⟩⟩⟩⟩⟩⟩) (zyC58_68 hk6 h)
    · replace h := zy_ifn h b5
      refine zy_0 rfl rfl (show zyR _ _ _ _ [some (.ref (12 + 3)), some (.int x1), some (.int x2), some (.int x3), some (.int x4), some (.int x5), some (.int (p1.1 - p2.1))] [.ref (12 + 3)] _ _ from ?_)
      refine zy_2 rfl rfl (show zyR _ _ _ _ [some (.ref (12 + 3)), some (.int x1), some (.int x2), some (.int x3), some (.int x4), some (.int x5), some (.int (p1.1 - p2.1))] [.int x5, .ref (12 + 3)] _ _ from ?_)
      refine zy_2 rfl rfl (show zyR _ _ _ _ [some (.ref (12 + 3)), some (.int x1), some (.int x2), some (.int x3), some (.int x4), some (.int x5), some (.int (p1.1 - p2.1))] [.int x1, .int x5, .ref (12 + 3)] _ _ from ?_)
      refine zy_2 rfl rfl (show zyR _ _ _ _ [some (.ref (12 + 3)), some (.int x1), some (.int x2), some (.int x3), some (.int x4), some (.int x5), some (.int (p1.1 - p2.1))] [.int x2, .int x1, .int x5, .ref (12 + 3)] _ _ from ?_)
      refine zy_2 rfl rfl (show zyR _ _ _ _ [some (.ref (12 + 3)), some (.int x1), some (.int x2), some (.int x3), some (.int x4), some (.int x5), some (.int (p1.1 - p2.1))] [.int x3, .int x2, .int x1, .int x5, .ref (12 + 3)] _ _ from ?_)
      obtain ⟨p3, hp3, h⟩ := zy_bind h
      refine zy_5 (c := 12) (as := [.int x5, .int x1, .int x2, .int x3]) (rest := []) (L := [some (.ref (12 + 3)), some (.int x5), some (.int x1), some (.int x2), some (.int x3), none, none, none, none, none]) (d' := 3) rfl rfl rfl (Nat.le_of_ble_eq_true rfl) (Nat.le_of_ble_eq_true rfl) rfl (Nat.le_of_ble_eq_true rfl) rfl rfl (zyC59 hp3) ?_
      show zyR _ _ _ _ [some (.ref (12 + 3)), some (.int x1), some (.int x2), some (.int x3), some (.int x4), some (.int x5), some (.int (p1.1 - p2.1))] [] _ _
      refine zy_2 rfl rfl (show zyR _ _ _ _ [some (.ref (12 + 3)), some (.int x1), some (.int x2), some (.int x3), some (.int x4), some (.int x5), some (.int (p1.1 - p2.1))] [.int x4] _ _ from ?_)
      refine zy_2 rfl rfl (show zyR _ _ _ _ [some (.ref (12 + 3)), some (.int x1), some (.int x2), some (.int x3), some (.int x4), some (.int x5), some (.int (p1.1 - p2.1))] [.int (p1.1 - p2.1), .int x4] _ _ from ?_)
      refine zy_0 rfl rfl (show zyR _ _ _ _ [some (.ref (12 + 3)), some (.int x1), some (.int x2), some (.int x3), some (.int x4), some (.int x5), some (.int (p1.1 - p2.1))] [.ref (12 + 3), .int (p1.1 - p2.1), .int x4] _ _ from ?_)
      refine zy_1r (c := 12) rfl rfl rfl (show zyR _ _ _ _ [some (.ref (12 + 3)), some (.int x1), some (.int x2), some (.int x3), some (.int x4), some (.int x5), some (.int (p1.1 - p2.1))] [.ref (5 + 3), .int (p1.1 - p2.1), .int x4] _ _ from ?_)
      obtain ⟨p4, hp4, h⟩ := zy_bind h
      refine zy_5 (c := 5) (as := []) (rest := [.int (p1.1 - p2.1), .int x4]) (L := [some (.ref (5 + 3)), none, none, none]) (d' := 3) rfl rfl rfl (Nat.le_of_ble_eq_true rfl) (Nat.le_of_ble_eq_true rfl) rfl (Nat.le_of_ble_eq_true rfl) rfl rfl (zyC65 hp4) ?_
      show zyR _ _ _ _ [some (.ref (12 + 3)), some (.int x1), some (.int x2), some (.int x3), some (.int x4), some (.int x5), some (.int (p1.1 - p2.1))] [.int p4.1, .int (p1.1 - p2.1), .int x4] _ _
      refine zy_12 rfl (show zyR _ _ _ _ [some (.ref (12 + 3)), some (.int x1), some (.int x2), some (.int x3), some (.int x4), some (.int x5), some (.int (p1.1 - p2.1))] [.int ((p1.1 - p2.1) * p4.1), .int x4] _ _ from ?_)
      refine zy_10 rfl (show zyR _ _ _ _ [some (.ref (12 + 3)), some (.int x1), some (.int x2), some (.int x3), some (.int x4), some (.int x5), some (.int (p1.1 - p2.1))] [.int (x4 + ((p1.1 - p2.1) * p4.1))] _ _ from ?_)
      refine zy_23 rfl rfl (show zyR _ _ _ _ [some (.ref (12 + 3)), some (.int x1), some (.int x2), some (.int x3), some (.int (x4 + ((p1.1 - p2.1) * p4.1))), some (.int x5), some (.int (p1.1 - p2.1))] [] _ _ from ?_)
      exact zy_sub (show zy_le [some (.ref (12 + 3)), some (.int x1), some (.int x2), some (.int x3), some (.int (x4 + ((p1.1 - p2.1) * p4.1))), some (.int x5), none] [some (.ref (12 + 3)), some (.int x1), some (.int x2), some (.int x3), some (.int (x4 + ((p1.1 - p2.1) * p4.1))), some (.int x5), some (.int (p1.1 - p2.1))] from ⟨rfl, ⟨rfl, ⟨rfl, ⟨rfl, ⟨rfl, ⟨rfl, trivial⟩⟩⟩⟩⟩⟩) (zyC58_68 hk6 h)
noncomputable def zyF58_6   (n : Nat) : Int32 → Int32 → Int32 → Int32 → Int32 → zy_S → Option (Int32 × zy_S) := Nat.rec (fun _ _ _ _ _ _ => none) (fun _ k6 => zyF58_6b k6) n
theorem zyC58_6 {X : zx_X}     : ∀ (n : Nat) (x1 : Int32) (x2 : Int32) (x3 : Int32) (x4 : Int32) (x5 : Int32) (s : zy_S) (r : Int32) (s' : zy_S), zyF58_6 n x1 x2 x3 x4 x5 s = some (r, s') → zyR X 4 58 6 [some (.ref (12 + 3)), some (.int x1), some (.int x2), some (.int x3), some (.int x4), some (.int x5), none] [] s (zyE (some (.int r)) s')
  | 0, _, _, _, _, _ => by
    intro s r s'  h
    have h : (none : Option (Int32 × zy_S)) = some (r, s') := h
    cases h
  | n + 1, x1, x2, x3, x4, x5 => by
    intro s r s'  h
    exact zyC58_6b (k6 := zyF58_6 n) (fun x1 x2 x3 x4 x5 s r s'  h => zyC58_6  n x1 x2 x3 x4 x5 s r s'  h) h
noncomputable def zyF58   (x1 : Int32) (x2 : Int32) (x3 : Int32) (s : zy_S) : Option (Int32 × zy_S) :=
zyF58_6 zy_fu x1 x2 x3 (0 : Int32) (0 : Int32) s
theorem zyC58 {X : zx_X}     {x1 : Int32} {x2 : Int32} {x3 : Int32} {s : zy_S} {r : Int32} {s' : zy_S}  (h : zyF58 x1 x2 x3 s = some (r, s')) : zyR X 4 58 0 [some (.ref (12 + 3)), some (.int x1), some (.int x2), some (.int x3), none, none, none] [] s (zyE (some (.int r)) s') := by
  unfold zyF58 at h
  refine zy_3 rfl rfl (show zyR _ _ _ _ [some (.ref (12 + 3)), some (.int x1), some (.int x2), some (.int x3), none, none, none] [.int (0 : Int32)] _ _ from ?_)
  refine zy_23 rfl rfl (show zyR _ _ _ _ [some (.ref (12 + 3)), some (.int x1), some (.int x2), some (.int x3), some (.int (0 : Int32)), none, none] [] _ _ from ?_)
  refine zy_3 rfl rfl (show zyR _ _ _ _ [some (.ref (12 + 3)), some (.int x1), some (.int x2), some (.int x3), some (.int (0 : Int32)), none, none] [.int (0 : Int32)] _ _ from ?_)
  refine zy_23 rfl rfl (show zyR _ _ _ _ [some (.ref (12 + 3)), some (.int x1), some (.int x2), some (.int x3), some (.int (0 : Int32)), some (.int (0 : Int32)), none] [] _ _ from ?_)
  exact zy_sub (show zy_le [some (.ref (12 + 3)), some (.int x1), some (.int x2), some (.int x3), some (.int (0 : Int32)), some (.int (0 : Int32)), none] [some (.ref (12 + 3)), some (.int x1), some (.int x2), some (.int x3), some (.int (0 : Int32)), some (.int (0 : Int32)), none] from ⟨rfl, ⟨rfl, ⟨rfl, ⟨rfl, ⟨rfl, ⟨rfl, trivial⟩⟩⟩⟩⟩⟩) (zyC58_6 zy_fu x1 x2 x3 (0 : Int32) (0 : Int32) s _ _ h)
/-! NineOpinions$Thought.onMatter(III)I -/
noncomputable def zyF55_44   (x4 : Int32) (s : zy_S) : Option (Int32 × zy_S) :=
if zy_in x4 1536 then
some ((s.1 13 (x4).toNatClampNeg), s)
else none
theorem zyC55_44 {X : zx_X}     {x4 : Int32} {s : zy_S} {r : Int32} {s' : zy_S}  (h : zyF55_44 x4 s = some (r, s')) : zyR X 5 55 44 [some (.ref (12 + 3)), none, none, none, some (.int x4)] [] s (zyE (some (.int r)) s') := by
  unfold zyF55_44 at h
  refine zy_0 rfl rfl (show zyR _ _ _ _ [some (.ref (12 + 3)), none, none, none, some (.int x4)] [.ref (12 + 3)] _ _ from ?_)
  refine zy_1r (c := 12) rfl rfl rfl (show zyR _ _ _ _ [some (.ref (12 + 3)), none, none, none, some (.int x4)] [.ref (13 + 3)] _ _ from ?_)
  refine zy_2 rfl rfl (show zyR _ _ _ _ [some (.ref (12 + 3)), none, none, none, some (.int x4)] [.int x4, .ref (13 + 3)] _ _ from ?_)
  obtain ⟨c1, h⟩ := zy_if h
  refine zy_26 (c := 13) rfl rfl c1 (show zyR _ _ _ _ [some (.ref (12 + 3)), none, none, none, some (.int x4)] [.int (s.1 13 (x4).toNatClampNeg)] _ _ from ?_)
  obtain ⟨rfl, rfl⟩ := zy_pi h
  exact zy_4 rfl ⟨rfl, rfl⟩
noncomputable def zyF55   (x1 : Int32) (x2 : Int32) (x3 : Int32) (s : zy_S) : Option (Int32 × zy_S) :=
(zyF56 x1 x2 x3 s).bind fun p2 =>
if zy_in p2.1 1536 then
if (p2.2.1 13 (p2.1).toNatClampNeg) ≠ (-2000000000 : Int32) then
zyF55_44 p2.1 p2.2
else
(zyF57 x2 x1 p2.2).bind fun p4 =>
(zyF57 (x2 &&& x3) x1 p4.2).bind fun p5 =>
(zyF58 x1 p4.1 p5.1 p5.2).bind fun p6 =>
if zy_in p2.1 1536 then
zyF55_44 p2.1 (zy_up p6.2 13 (p2.1).toNatClampNeg p6.1)
else none
else none
theorem zyC55 {X : zx_X}     {x1 : Int32} {x2 : Int32} {x3 : Int32} {s : zy_S} {r : Int32} {s' : zy_S}  (h : zyF55 x1 x2 x3 s = some (r, s')) : zyR X 5 55 0 [some (.ref (12 + 3)), some (.int x1), some (.int x2), some (.int x3), none] [] s (zyE (some (.int r)) s') := by
  unfold zyF55 at h
  refine zy_2 rfl rfl (show zyR _ _ _ _ [some (.ref (12 + 3)), some (.int x1), some (.int x2), some (.int x3), none] [.int x1] _ _ from ?_)
  refine zy_2 rfl rfl (show zyR _ _ _ _ [some (.ref (12 + 3)), some (.int x1), some (.int x2), some (.int x3), none] [.int x2, .int x1] _ _ from ?_)
  refine zy_2 rfl rfl (show zyR _ _ _ _ [some (.ref (12 + 3)), some (.int x1), some (.int x2), some (.int x3), none] [.int x3, .int x2, .int x1] _ _ from ?_)
  obtain ⟨p2, hp2, h⟩ := zy_bind h
  refine zy_60 (as := [.int x1, .int x2, .int x3]) (rest := []) (L := [some (.int x1), some (.int x2), some (.int x3)]) (d' := 2) rfl rfl (Nat.le_of_ble_eq_true rfl) (Nat.le_of_ble_eq_true rfl) rfl (Nat.le_of_ble_eq_true rfl) rfl rfl (zyC56 hp2) ?_
  show zyR _ _ _ _ [some (.ref (12 + 3)), some (.int x1), some (.int x2), some (.int x3), none] [.int p2.1] _ _
  refine zy_23 rfl rfl (show zyR _ _ _ _ [some (.ref (12 + 3)), some (.int x1), some (.int x2), some (.int x3), some (.int p2.1)] [] _ _ from ?_)
  refine zy_0 rfl rfl (show zyR _ _ _ _ [some (.ref (12 + 3)), some (.int x1), some (.int x2), some (.int x3), some (.int p2.1)] [.ref (12 + 3)] _ _ from ?_)
  refine zy_1r (c := 12) rfl rfl rfl (show zyR _ _ _ _ [some (.ref (12 + 3)), some (.int x1), some (.int x2), some (.int x3), some (.int p2.1)] [.ref (13 + 3)] _ _ from ?_)
  refine zy_2 rfl rfl (show zyR _ _ _ _ [some (.ref (12 + 3)), some (.int x1), some (.int x2), some (.int x3), some (.int p2.1)] [.int p2.1, .ref (13 + 3)] _ _ from ?_)
  obtain ⟨c3, h⟩ := zy_if h
  refine zy_26 (c := 13) rfl rfl c3 (show zyR _ _ _ _ [some (.ref (12 + 3)), some (.int x1), some (.int x2), some (.int x3), some (.int p2.1)] [.int (p2.2.1 13 (p2.1).toNatClampNeg)] _ _ from ?_)
  refine zy_3c rfl rfl (show zyR _ _ _ _ [some (.ref (12 + 3)), some (.int x1), some (.int x2), some (.int x3), some (.int p2.1)] [.int (-2000000000 : Int32), .int (p2.2.1 13 (p2.1).toNatClampNeg)] _ _ from ?_)
  refine zy_25_1 rfl (fun b8 => (show zyR _ _ _ _ [some (.ref (12 + 3)), some (.int x1), some (.int x2), some (.int x3), some (.int p2.1)] [] _ _ from ?_)) (fun b8 => (show zyR _ _ _ _ [some (.ref (12 + 3)), some (.int x1), some (.int x2), some (.int x3), some (.int p2.1)] [] _ _ from ?_))
  · replace h := zy_ifp h b8
    exact zy_sub (show zy_le [some (.ref (12 + 3)), none, none, none, some (.int p2.1)] [some (.ref (12 + 3)), some (.int x1), some (.int x2), some (.int x3), some (.int p2.1)] from ⟨rfl, ⟨rfl, trivial⟩⟩) (zyC55_44 h)
  · replace h := zy_ifn h b8
    refine zy_0 rfl rfl (show zyR _ _ _ _ [some (.ref (12 + 3)), some (.int x1), some (.int x2), some (.int x3), some (.int p2.1)] [.ref (12 + 3)] _ _ from ?_)
    refine zy_1r (c := 12) rfl rfl rfl (show zyR _ _ _ _ [some (.ref (12 + 3)), some (.int x1), some (.int x2), some (.int x3), some (.int p2.1)] [.ref (13 + 3)] _ _ from ?_)
    refine zy_2 rfl rfl (show zyR _ _ _ _ [some (.ref (12 + 3)), some (.int x1), some (.int x2), some (.int x3), some (.int p2.1)] [.int p2.1, .ref (13 + 3)] _ _ from ?_)
    refine zy_0 rfl rfl (show zyR _ _ _ _ [some (.ref (12 + 3)), some (.int x1), some (.int x2), some (.int x3), some (.int p2.1)] [.ref (12 + 3), .int p2.1, .ref (13 + 3)] _ _ from ?_)
    refine zy_2 rfl rfl (show zyR _ _ _ _ [some (.ref (12 + 3)), some (.int x1), some (.int x2), some (.int x3), some (.int p2.1)] [.int x1, .ref (12 + 3), .int p2.1, .ref (13 + 3)] _ _ from ?_)
    refine zy_2 rfl rfl (show zyR _ _ _ _ [some (.ref (12 + 3)), some (.int x1), some (.int x2), some (.int x3), some (.int p2.1)] [.int x2, .int x1, .ref (12 + 3), .int p2.1, .ref (13 + 3)] _ _ from ?_)
    refine zy_2 rfl rfl (show zyR _ _ _ _ [some (.ref (12 + 3)), some (.int x1), some (.int x2), some (.int x3), some (.int p2.1)] [.int x1, .int x2, .int x1, .ref (12 + 3), .int p2.1, .ref (13 + 3)] _ _ from ?_)
    obtain ⟨p4, hp4, h⟩ := zy_bind h
    refine zy_61 (as := [.int x2, .int x1]) (rest := [.int x1, .ref (12 + 3), .int p2.1, .ref (13 + 3)]) (L := [some (.int x2), some (.int x1)]) (d' := 1) rfl rfl (Nat.le_of_ble_eq_true rfl) (Nat.le_of_ble_eq_true rfl) rfl (Nat.le_of_ble_eq_true rfl) rfl rfl (zyC57 hp4) ?_
    show zyR _ _ _ _ [some (.ref (12 + 3)), some (.int x1), some (.int x2), some (.int x3), some (.int p2.1)] [.int p4.1, .int x1, .ref (12 + 3), .int p2.1, .ref (13 + 3)] _ _
    refine zy_2 rfl rfl (show zyR _ _ _ _ [some (.ref (12 + 3)), some (.int x1), some (.int x2), some (.int x3), some (.int p2.1)] [.int x2, .int p4.1, .int x1, .ref (12 + 3), .int p2.1, .ref (13 + 3)] _ _ from ?_)
    refine zy_2 rfl rfl (show zyR _ _ _ _ [some (.ref (12 + 3)), some (.int x1), some (.int x2), some (.int x3), some (.int p2.1)] [.int x3, .int x2, .int p4.1, .int x1, .ref (12 + 3), .int p2.1, .ref (13 + 3)] _ _ from ?_)
    refine zy_13 rfl (show zyR _ _ _ _ [some (.ref (12 + 3)), some (.int x1), some (.int x2), some (.int x3), some (.int p2.1)] [.int (x2 &&& x3), .int p4.1, .int x1, .ref (12 + 3), .int p2.1, .ref (13 + 3)] _ _ from ?_)
    refine zy_2 rfl rfl (show zyR _ _ _ _ [some (.ref (12 + 3)), some (.int x1), some (.int x2), some (.int x3), some (.int p2.1)] [.int x1, .int (x2 &&& x3), .int p4.1, .int x1, .ref (12 + 3), .int p2.1, .ref (13 + 3)] _ _ from ?_)
    obtain ⟨p5, hp5, h⟩ := zy_bind h
    refine zy_61 (as := [.int (x2 &&& x3), .int x1]) (rest := [.int p4.1, .int x1, .ref (12 + 3), .int p2.1, .ref (13 + 3)]) (L := [some (.int (x2 &&& x3)), some (.int x1)]) (d' := 1) rfl rfl (Nat.le_of_ble_eq_true rfl) (Nat.le_of_ble_eq_true rfl) rfl (Nat.le_of_ble_eq_true rfl) rfl rfl (zyC57 hp5) ?_
    show zyR _ _ _ _ [some (.ref (12 + 3)), some (.int x1), some (.int x2), some (.int x3), some (.int p2.1)] [.int p5.1, .int p4.1, .int x1, .ref (12 + 3), .int p2.1, .ref (13 + 3)] _ _
    obtain ⟨p6, hp6, h⟩ := zy_bind h
    refine zy_5 (c := 12) (as := [.int x1, .int p4.1, .int p5.1]) (rest := [.int p2.1, .ref (13 + 3)]) (L := [some (.ref (12 + 3)), some (.int x1), some (.int p4.1), some (.int p5.1), none, none, none]) (d' := 4) rfl rfl rfl (Nat.le_of_ble_eq_true rfl) (Nat.le_of_ble_eq_true rfl) rfl (Nat.le_of_ble_eq_true rfl) rfl rfl (zyC58 hp6) ?_
    show zyR _ _ _ _ [some (.ref (12 + 3)), some (.int x1), some (.int x2), some (.int x3), some (.int p2.1)] [.int p6.1, .int p2.1, .ref (13 + 3)] _ _
    obtain ⟨c7, h⟩ := zy_if h
    refine zy_27 (c := 13) rfl rfl c7 (show zyR _ _ _ _ [some (.ref (12 + 3)), some (.int x1), some (.int x2), some (.int x3), some (.int p2.1)] [] _ _ from ?_)
    exact zy_sub (show zy_le [some (.ref (12 + 3)), none, none, none, some (.int p2.1)] [some (.ref (12 + 3)), some (.int x1), some (.int x2), some (.int x3), some (.int p2.1)] from ⟨rfl, ⟨rfl, trivial⟩⟩) (zyC55_44 h)
/-! NineOpinions$Thought.inAll(II)I -/
noncomputable def zyF54_5b  (k5 : Int32 → Int32 → Int32 → Int32 → zy_S → Option (Int32 × zy_S)) (x1 : Int32) (x2 : Int32) (x3 : Int32) (x4 : Int32) (s : zy_S) : Option (Int32 × zy_S) :=
if (6 : Int32) ≤ x4 then
some (x3, s)
else
(zyF55 x4 x1 x2 s).bind fun p1 =>
k5 x1 x2 (x3 + p1.1) (x4 + (1 : Int32)) p1.2
theorem zyC54_5b {X : zx_X}  {k5 : Int32 → Int32 → Int32 → Int32 → zy_S → Option (Int32 × zy_S)}  (hk5 : ∀ (x1 : Int32) (x2 : Int32) (x3 : Int32) (x4 : Int32) (s : zy_S) (r : Int32) (s' : zy_S), k5 x1 x2 x3 x4 s = some (r, s') → zyR X 6 54 5 [some (.ref (12 + 3)), some (.int x1), some (.int x2), some (.int x3), some (.int x4)] [] s (zyE (some (.int r)) s')) {x1 : Int32} {x2 : Int32} {x3 : Int32} {x4 : Int32} {s : zy_S} {r : Int32} {s' : zy_S}  (h : zyF54_5b k5 x1 x2 x3 x4 s = some (r, s')) : zyR X 6 54 5 [some (.ref (12 + 3)), some (.int x1), some (.int x2), some (.int x3), some (.int x4)] [] s (zyE (some (.int r)) s') := by
  unfold zyF54_5b at h
  refine zy_2 rfl rfl (show zyR _ _ _ _ [some (.ref (12 + 3)), some (.int x1), some (.int x2), some (.int x3), some (.int x4)] [.int x4] _ _ from ?_)
  refine zy_3 rfl rfl (show zyR _ _ _ _ [some (.ref (12 + 3)), some (.int x1), some (.int x2), some (.int x3), some (.int x4)] [.int (6 : Int32), .int x4] _ _ from ?_)
  refine zy_25_3 rfl (fun b2 => (show zyR _ _ _ _ [some (.ref (12 + 3)), some (.int x1), some (.int x2), some (.int x3), some (.int x4)] [] _ _ from ?_)) (fun b2 => (show zyR _ _ _ _ [some (.ref (12 + 3)), some (.int x1), some (.int x2), some (.int x3), some (.int x4)] [] _ _ from ?_))
  · replace h := zy_ifp h b2
    refine zy_2 rfl rfl (show zyR _ _ _ _ [some (.ref (12 + 3)), some (.int x1), some (.int x2), some (.int x3), some (.int x4)] [.int x3] _ _ from ?_)
    obtain ⟨rfl, rfl⟩ := zy_pi h
    exact zy_4 rfl ⟨rfl, rfl⟩
  · replace h := zy_ifn h b2
    refine zy_2 rfl rfl (show zyR _ _ _ _ [some (.ref (12 + 3)), some (.int x1), some (.int x2), some (.int x3), some (.int x4)] [.int x3] _ _ from ?_)
    refine zy_0 rfl rfl (show zyR _ _ _ _ [some (.ref (12 + 3)), some (.int x1), some (.int x2), some (.int x3), some (.int x4)] [.ref (12 + 3), .int x3] _ _ from ?_)
    refine zy_2 rfl rfl (show zyR _ _ _ _ [some (.ref (12 + 3)), some (.int x1), some (.int x2), some (.int x3), some (.int x4)] [.int x4, .ref (12 + 3), .int x3] _ _ from ?_)
    refine zy_2 rfl rfl (show zyR _ _ _ _ [some (.ref (12 + 3)), some (.int x1), some (.int x2), some (.int x3), some (.int x4)] [.int x1, .int x4, .ref (12 + 3), .int x3] _ _ from ?_)
    refine zy_2 rfl rfl (show zyR _ _ _ _ [some (.ref (12 + 3)), some (.int x1), some (.int x2), some (.int x3), some (.int x4)] [.int x2, .int x1, .int x4, .ref (12 + 3), .int x3] _ _ from ?_)
    obtain ⟨p1, hp1, h⟩ := zy_bind h
    refine zy_5 (c := 12) (as := [.int x4, .int x1, .int x2]) (rest := [.int x3]) (L := [some (.ref (12 + 3)), some (.int x4), some (.int x1), some (.int x2), none]) (d' := 5) rfl rfl rfl (Nat.le_of_ble_eq_true rfl) (Nat.le_of_ble_eq_true rfl) rfl (Nat.le_of_ble_eq_true rfl) rfl rfl (zyC55 hp1) ?_
    show zyR _ _ _ _ [some (.ref (12 + 3)), some (.int x1), some (.int x2), some (.int x3), some (.int x4)] [.int p1.1, .int x3] _ _
    refine zy_10 rfl (show zyR _ _ _ _ [some (.ref (12 + 3)), some (.int x1), some (.int x2), some (.int x3), some (.int x4)] [.int (x3 + p1.1)] _ _ from ?_)
    refine zy_23 rfl rfl (show zyR _ _ _ _ [some (.ref (12 + 3)), some (.int x1), some (.int x2), some (.int (x3 + p1.1)), some (.int x4)] [] _ _ from ?_)
    refine zy_22 rfl rfl rfl rfl (show zyR _ _ _ _ [some (.ref (12 + 3)), some (.int x1), some (.int x2), some (.int (x3 + p1.1)), some (.int (x4 + (1 : Int32)))] [] _ _ from ?_)
    refine zy_6 rfl (show zyR _ _ _ _ [some (.ref (12 + 3)), some (.int x1), some (.int x2), some (.int (x3 + p1.1)), some (.int (x4 + (1 : Int32)))] [] _ _ from ?_)
    exact zy_sub (show zy_le [some (.ref (12 + 3)), some (.int x1), some (.int x2), some (.int (x3 + p1.1)), some (.int (x4 + (1 : Int32)))] [some (.ref (12 + 3)), some (.int x1), some (.int x2), some (.int (x3 + p1.1)), some (.int (x4 + (1 : Int32)))] from ⟨rfl, ⟨rfl, ⟨rfl, ⟨rfl, ⟨rfl, trivial⟩⟩⟩⟩⟩) (hk5 x1 x2 (x3 + p1.1) (x4 + (1 : Int32)) p1.2 _ _ h)
noncomputable def zyF54_5   (n : Nat) : Int32 → Int32 → Int32 → Int32 → zy_S → Option (Int32 × zy_S) := Nat.rec (fun _ _ _ _ _ => none) (fun _ k5 => zyF54_5b k5) n
theorem zyC54_5 {X : zx_X}     : ∀ (n : Nat) (x1 : Int32) (x2 : Int32) (x3 : Int32) (x4 : Int32) (s : zy_S) (r : Int32) (s' : zy_S), zyF54_5 n x1 x2 x3 x4 s = some (r, s') → zyR X 6 54 5 [some (.ref (12 + 3)), some (.int x1), some (.int x2), some (.int x3), some (.int x4)] [] s (zyE (some (.int r)) s')
  | 0, _, _, _, _ => by
    intro s r s'  h
    have h : (none : Option (Int32 × zy_S)) = some (r, s') := h
    cases h
  | n + 1, x1, x2, x3, x4 => by
    intro s r s'  h
    exact zyC54_5b (k5 := zyF54_5 n) (fun x1 x2 x3 x4 s r s'  h => zyC54_5  n x1 x2 x3 x4 s r s'  h) h
noncomputable def zyF54   (x1 : Int32) (x2 : Int32) (s : zy_S) : Option (Int32 × zy_S) :=
zyF54_5 zy_fu x1 x2 (0 : Int32) (0 : Int32) s
theorem zyC54 {X : zx_X}     {x1 : Int32} {x2 : Int32} {s : zy_S} {r : Int32} {s' : zy_S}  (h : zyF54 x1 x2 s = some (r, s')) : zyR X 6 54 0 [some (.ref (12 + 3)), some (.int x1), some (.int x2), none, none] [] s (zyE (some (.int r)) s') := by
  unfold zyF54 at h
  refine zy_3 rfl rfl (show zyR _ _ _ _ [some (.ref (12 + 3)), some (.int x1), some (.int x2), none, none] [.int (0 : Int32)] _ _ from ?_)
  refine zy_23 rfl rfl (show zyR _ _ _ _ [some (.ref (12 + 3)), some (.int x1), some (.int x2), some (.int (0 : Int32)), none] [] _ _ from ?_)
  refine zy_3 rfl rfl (show zyR _ _ _ _ [some (.ref (12 + 3)), some (.int x1), some (.int x2), some (.int (0 : Int32)), none] [.int (0 : Int32)] _ _ from ?_)
  refine zy_23 rfl rfl (show zyR _ _ _ _ [some (.ref (12 + 3)), some (.int x1), some (.int x2), some (.int (0 : Int32)), some (.int (0 : Int32))] [] _ _ from ?_)
  exact zy_sub (show zy_le [some (.ref (12 + 3)), some (.int x1), some (.int x2), some (.int (0 : Int32)), some (.int (0 : Int32))] [some (.ref (12 + 3)), some (.int x1), some (.int x2), some (.int (0 : Int32)), some (.int (0 : Int32))] from ⟨rfl, ⟨rfl, ⟨rfl, ⟨rfl, ⟨rfl, trivial⟩⟩⟩⟩⟩) (zyC54_5 zy_fu x1 x2 (0 : Int32) (0 : Int32) s _ _ h)
end
