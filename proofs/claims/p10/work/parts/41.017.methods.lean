/-! PART 41.17: methods as functions. Made by wip/v4/dcp.py. -/
/-! NineOpinions$Votes.strikable()I -/
noncomputable def zyF94_61  (k4 : Int32 → Int32 → zy_S → Option (Int32 × zy_S)) (x2 : Int32) (y0 : Int32) (y1 : Int32) (s : zy_S) : Option (Int32 × zy_S) :=
k4 (y1 ||| y0) (x2 + (1 : Int32)) s
theorem zyC94_61 {X : zx_X}  {k4 : Int32 → Int32 → zy_S → Option (Int32 × zy_S)}  (hk4 : ∀ (x1 : Int32) (x2 : Int32) (s : zy_S) (r : Int32) (s' : zy_S), k4 x1 x2 s = some (r, s') → zyR X 4 94 4 [some (.ref (16 + 3)), some (.int x1), some (.int x2), none] [] s (zyE (some (.int r)) s')) {x2 : Int32} {y0 : Int32} {y1 : Int32} {s : zy_S} {r : Int32} {s' : zy_S}  (h : zyF94_61 k4 x2 y0 y1 s = some (r, s')) : zyR X 4 94 61 [some (.ref (16 + 3)), none, some (.int x2), none] [.int y0, .int y1] s (zyE (some (.int r)) s') := by
  unfold zyF94_61 at h
  refine zy_14 rfl (show zyR _ _ _ _ [some (.ref (16 + 3)), none, some (.int x2), none] [.int (y1 ||| y0)] _ _ from ?_)
  refine zy_23 rfl rfl (show zyR _ _ _ _ [some (.ref (16 + 3)), some (.int (y1 ||| y0)), some (.int x2), none] [] _ _ from ?_)
  refine zy_22 rfl rfl rfl rfl (show zyR _ _ _ _ [some (.ref (16 + 3)), some (.int (y1 ||| y0)), some (.int (x2 + (1 : Int32))), none] [] _ _ from ?_)
  refine zy_6 rfl (show zyR _ _ _ _ [some (.ref (16 + 3)), some (.int (y1 ||| y0)), some (.int (x2 + (1 : Int32))), none] [] _ _ from ?_)
  exact zy_sub (show zy_le [some (.ref (16 + 3)), some (.int (y1 ||| y0)), some (.int (x2 + (1 : Int32))), none] [some (.ref (16 + 3)), some (.int (y1 ||| y0)), some (.int (x2 + (1 : Int32))), none] from ⟨rfl, ⟨rfl, ⟨rfl, trivial⟩⟩⟩) (hk4 (y1 ||| y0) (x2 + (1 : Int32)) s _ _ h)
noncomputable def zyF94_48  (k4 : Int32 → Int32 → zy_S → Option (Int32 × zy_S)) (x1 : Int32) (x2 : Int32) (y0 : Int32) (s : zy_S) : Option (Int32 × zy_S) :=
if y0 = 0 then
zyF94_61 k4 x2 (0 : Int32) x1 s
else
zyF94_61 k4 x2 ((1 : Int32) <<< (x2 &&& 31)) x1 s
theorem zyC94_48 {X : zx_X}  {k4 : Int32 → Int32 → zy_S → Option (Int32 × zy_S)}  (hk4 : ∀ (x1 : Int32) (x2 : Int32) (s : zy_S) (r : Int32) (s' : zy_S), k4 x1 x2 s = some (r, s') → zyR X 4 94 4 [some (.ref (16 + 3)), some (.int x1), some (.int x2), none] [] s (zyE (some (.int r)) s')) {x1 : Int32} {x2 : Int32} {y0 : Int32} {s : zy_S} {r : Int32} {s' : zy_S}  (h : zyF94_48 k4 x1 x2 y0 s = some (r, s')) : zyR X 4 94 48 [some (.ref (16 + 3)), some (.int x1), some (.int x2), none] [.int y0] s (zyE (some (.int r)) s') := by
  unfold zyF94_48 at h
  refine zy_23 rfl rfl (show zyR _ _ _ _ [some (.ref (16 + 3)), some (.int x1), some (.int x2), some (.int y0)] [] _ _ from ?_)
  refine zy_2 rfl rfl (show zyR _ _ _ _ [some (.ref (16 + 3)), some (.int x1), some (.int x2), some (.int y0)] [.int x1] _ _ from ?_)
  refine zy_2 rfl rfl (show zyR _ _ _ _ [some (.ref (16 + 3)), some (.int x1), some (.int x2), some (.int y0)] [.int y0, .int x1] _ _ from ?_)
  refine zy_24_0 rfl (fun b1 => (show zyR _ _ _ _ [some (.ref (16 + 3)), some (.int x1), some (.int x2), some (.int y0)] [.int x1] _ _ from ?_)) (fun b1 => (show zyR _ _ _ _ [some (.ref (16 + 3)), some (.int x1), some (.int x2), some (.int y0)] [.int x1] _ _ from ?_))
  · replace h := zy_ifp h b1
    refine zy_3 rfl rfl (show zyR _ _ _ _ [some (.ref (16 + 3)), some (.int x1), some (.int x2), some (.int y0)] [.int (0 : Int32), .int x1] _ _ from ?_)
    exact zy_sub (show zy_le [some (.ref (16 + 3)), none, some (.int x2), none] [some (.ref (16 + 3)), some (.int x1), some (.int x2), some (.int y0)] from ⟨rfl, ⟨rfl, trivial⟩⟩) (zyC94_61 hk4 h)
  · replace h := zy_ifn h b1
    refine zy_3 rfl rfl (show zyR _ _ _ _ [some (.ref (16 + 3)), some (.int x1), some (.int x2), some (.int y0)] [.int (1 : Int32), .int x1] _ _ from ?_)
    refine zy_2 rfl rfl (show zyR _ _ _ _ [some (.ref (16 + 3)), some (.int x1), some (.int x2), some (.int y0)] [.int x2, .int (1 : Int32), .int x1] _ _ from ?_)
    refine zy_16 rfl (show zyR _ _ _ _ [some (.ref (16 + 3)), some (.int x1), some (.int x2), some (.int y0)] [.int ((1 : Int32) <<< (x2 &&& 31)), .int x1] _ _ from ?_)
    refine zy_6 rfl (show zyR _ _ _ _ [some (.ref (16 + 3)), some (.int x1), some (.int x2), some (.int y0)] [.int ((1 : Int32) <<< (x2 &&& 31)), .int x1] _ _ from ?_)
    exact zy_sub (show zy_le [some (.ref (16 + 3)), none, some (.int x2), none] [some (.ref (16 + 3)), some (.int x1), some (.int x2), some (.int y0)] from ⟨rfl, ⟨rfl, trivial⟩⟩) (zyC94_61 hk4 h)
noncomputable def zyF94_47  (k4 : Int32 → Int32 → zy_S → Option (Int32 × zy_S)) (x1 : Int32) (x2 : Int32) (s : zy_S) : Option (Int32 × zy_S) :=
zyF94_48 k4 x1 x2 (0 : Int32) s
theorem zyC94_47 {X : zx_X}  {k4 : Int32 → Int32 → zy_S → Option (Int32 × zy_S)}  (hk4 : ∀ (x1 : Int32) (x2 : Int32) (s : zy_S) (r : Int32) (s' : zy_S), k4 x1 x2 s = some (r, s') → zyR X 4 94 4 [some (.ref (16 + 3)), some (.int x1), some (.int x2), none] [] s (zyE (some (.int r)) s')) {x1 : Int32} {x2 : Int32} {s : zy_S} {r : Int32} {s' : zy_S}  (h : zyF94_47 k4 x1 x2 s = some (r, s')) : zyR X 4 94 47 [some (.ref (16 + 3)), some (.int x1), some (.int x2), none] [] s (zyE (some (.int r)) s') := by
  unfold zyF94_47 at h
  refine zy_3 rfl rfl (show zyR _ _ _ _ [some (.ref (16 + 3)), some (.int x1), some (.int x2), none] [.int (0 : Int32)] _ _ from ?_)
  exact zy_sub (show zy_le [some (.ref (16 + 3)), some (.int x1), some (.int x2), none] [some (.ref (16 + 3)), some (.int x1), some (.int x2), none] from ⟨rfl, ⟨rfl, ⟨rfl, trivial⟩⟩⟩) (zyC94_48 hk4 h)
noncomputable def zyF94_4b  (k4 : Int32 → Int32 → zy_S → Option (Int32 × zy_S)) (x1 : Int32) (x2 : Int32) (s : zy_S) : Option (Int32 × zy_S) :=
if (24 : Int32) ≤ x2 then
some (x1, s)
else
(zyF86 x2 s).bind fun p2 =>
if p2.1 = 0 then
zyF94_47 k4 x1 x2 p2.2
else
(zyF51 p2.2).bind fun p3 =>
(zyF95 x2 p3.2).bind fun p4 =>
(zyF97 (p3.1 &&& (p4.1 ^^^ (-1 : Int32))) p4.2).bind fun p5 =>
if p5.1 = 0 then
zyF94_47 k4 x1 x2 p5.2
else
zyF94_48 k4 x1 x2 (1 : Int32) p5.2
theorem zyC94_4b {X : zx_X}  {k4 : Int32 → Int32 → zy_S → Option (Int32 × zy_S)}  (hk4 : ∀ (x1 : Int32) (x2 : Int32) (s : zy_S) (r : Int32) (s' : zy_S), k4 x1 x2 s = some (r, s') → zyR X 4 94 4 [some (.ref (16 + 3)), some (.int x1), some (.int x2), none] [] s (zyE (some (.int r)) s')) {x1 : Int32} {x2 : Int32} {s : zy_S} {r : Int32} {s' : zy_S}  (h : zyF94_4b k4 x1 x2 s = some (r, s')) : zyR X 4 94 4 [some (.ref (16 + 3)), some (.int x1), some (.int x2), none] [] s (zyE (some (.int r)) s') := by
  unfold zyF94_4b at h
  refine zy_2 rfl rfl (show zyR _ _ _ _ [some (.ref (16 + 3)), some (.int x1), some (.int x2), none] [.int x2] _ _ from ?_)
  refine zy_3 rfl rfl (show zyR _ _ _ _ [some (.ref (16 + 3)), some (.int x1), some (.int x2), none] [.int (24 : Int32), .int x2] _ _ from ?_)
  refine zy_25_3 rfl (fun b8 => (show zyR _ _ _ _ [some (.ref (16 + 3)), some (.int x1), some (.int x2), none] [] _ _ from ?_)) (fun b8 => (show zyR _ _ _ _ [some (.ref (16 + 3)), some (.int x1), some (.int x2), none] [] _ _ from ?_))
  · replace h := zy_ifp h b8
    refine zy_2 rfl rfl (show zyR _ _ _ _ [some (.ref (16 + 3)), some (.int x1), some (.int x2), none] [.int x1] _ _ from ?_)
    obtain ⟨rfl, rfl⟩ := zy_pi h
    exact zy_4 rfl ⟨rfl, rfl⟩
  · replace h := zy_ifn h b8
    refine zy_0 rfl rfl (show zyR _ _ _ _ [some (.ref (16 + 3)), some (.int x1), some (.int x2), none] [.ref (16 + 3)] _ _ from ?_)
    refine zy_1r (c := 16) rfl rfl rfl (show zyR _ _ _ _ [some (.ref (16 + 3)), some (.int x1), some (.int x2), none] [.ref (1 + 3)] _ _ from ?_)
    refine zy_2 rfl rfl (show zyR _ _ _ _ [some (.ref (16 + 3)), some (.int x1), some (.int x2), none] [.int x2, .ref (1 + 3)] _ _ from ?_)
    obtain ⟨p2, hp2, h⟩ := zy_bind h
    refine zy_5 (c := 1) (as := [.int x2]) (rest := []) (L := [some (.ref (1 + 3)), some (.int x2)]) (d' := 2) rfl rfl rfl (Nat.le_of_ble_eq_true rfl) (Nat.le_of_ble_eq_true rfl) rfl (Nat.le_of_ble_eq_true rfl) rfl rfl (zyC86 hp2) ?_
    show zyR _ _ _ _ [some (.ref (16 + 3)), some (.int x1), some (.int x2), none] [.int p2.1] _ _
    refine zy_24_0 rfl (fun b7 => (show zyR _ _ _ _ [some (.ref (16 + 3)), some (.int x1), some (.int x2), none] [] _ _ from ?_)) (fun b7 => (show zyR _ _ _ _ [some (.ref (16 + 3)), some (.int x1), some (.int x2), none] [] _ _ from ?_))
    · replace h := zy_ifp h b7
      exact zy_sub (show zy_le [some (.ref (16 + 3)), some (.int x1), some (.int x2), none] [some (.ref (16 + 3)), some (.int x1), some (.int x2), none] from ⟨rfl, ⟨rfl, ⟨rfl, trivial⟩⟩⟩) (zyC94_47 hk4 h)
    · replace h := zy_ifn h b7
      refine zy_0 rfl rfl (show zyR _ _ _ _ [some (.ref (16 + 3)), some (.int x1), some (.int x2), none] [.ref (16 + 3)] _ _ from ?_)
      refine zy_0 rfl rfl (show zyR _ _ _ _ [some (.ref (16 + 3)), some (.int x1), some (.int x2), none] [.ref (16 + 3), .ref (16 + 3)] _ _ from ?_)
      refine zy_1r (c := 16) rfl rfl rfl (show zyR _ _ _ _ [some (.ref (16 + 3)), some (.int x1), some (.int x2), none] [.ref (1 + 3), .ref (16 + 3)] _ _ from ?_)
      obtain ⟨p3, hp3, h⟩ := zy_bind h
      refine zy_5 (c := 1) (as := []) (rest := [.ref (16 + 3)]) (L := [some (.ref (1 + 3))]) (d' := 1) rfl rfl rfl (Nat.le_of_ble_eq_true rfl) (Nat.le_of_ble_eq_true rfl) rfl (Nat.le_of_ble_eq_true rfl) rfl rfl (zyC51 hp3) ?_
      show zyR _ _ _ _ [some (.ref (16 + 3)), some (.int x1), some (.int x2), none] [.int p3.1, .ref (16 + 3)] _ _
      refine zy_0 rfl rfl (show zyR _ _ _ _ [some (.ref (16 + 3)), some (.int x1), some (.int x2), none] [.ref (16 + 3), .int p3.1, .ref (16 + 3)] _ _ from ?_)
      refine zy_2 rfl rfl (show zyR _ _ _ _ [some (.ref (16 + 3)), some (.int x1), some (.int x2), none] [.int x2, .ref (16 + 3), .int p3.1, .ref (16 + 3)] _ _ from ?_)
      obtain ⟨p4, hp4, h⟩ := zy_bind h
      refine zy_5 (c := 16) (as := [.int x2]) (rest := [.int p3.1, .ref (16 + 3)]) (L := [some (.ref (16 + 3)), some (.int x2), none, none]) (d' := 3) rfl rfl rfl (Nat.le_of_ble_eq_true rfl) (Nat.le_of_ble_eq_true rfl) rfl (Nat.le_of_ble_eq_true rfl) rfl rfl (zyC95 hp4) ?_
      show zyR _ _ _ _ [some (.ref (16 + 3)), some (.int x1), some (.int x2), none] [.int p4.1, .int p3.1, .ref (16 + 3)] _ _
      refine zy_3 rfl rfl (show zyR _ _ _ _ [some (.ref (16 + 3)), some (.int x1), some (.int x2), none] [.int (-1 : Int32), .int p4.1, .int p3.1, .ref (16 + 3)] _ _ from ?_)
      refine zy_15 rfl (show zyR _ _ _ _ [some (.ref (16 + 3)), some (.int x1), some (.int x2), none] [.int (p4.1 ^^^ (-1 : Int32)), .int p3.1, .ref (16 + 3)] _ _ from ?_)
      refine zy_13 rfl (show zyR _ _ _ _ [some (.ref (16 + 3)), some (.int x1), some (.int x2), none] [.int (p3.1 &&& (p4.1 ^^^ (-1 : Int32))), .ref (16 + 3)] _ _ from ?_)
      obtain ⟨p5, hp5, h⟩ := zy_bind h
      refine zy_5 (c := 16) (as := [.int (p3.1 &&& (p4.1 ^^^ (-1 : Int32)))]) (rest := []) (L := [some (.ref (16 + 3)), some (.int (p3.1 &&& (p4.1 ^^^ (-1 : Int32))))]) (d' := 3) rfl rfl rfl (Nat.le_of_ble_eq_true rfl) (Nat.le_of_ble_eq_true rfl) rfl (Nat.le_of_ble_eq_true rfl) rfl rfl (zyC97 hp5) ?_
      show zyR _ _ _ _ [some (.ref (16 + 3)), some (.int x1), some (.int x2), none] [.int p5.1] _ _
      refine zy_24_0 rfl (fun b6 => (show zyR _ _ _ _ [some (.ref (16 + 3)), some (.int x1), some (.int x2), none] [] _ _ from ?_)) (fun b6 => (show zyR _ _ _ _ [some (.ref (16 + 3)), some (.int x1), some (.int x2), none] [] _ _ from ?_))
      · replace h := zy_ifp h b6
        exact zy_sub (show zy_le [some (.ref (16 + 3)), some (.int x1), some (.int x2), none] [some (.ref (16 + 3)), some (.int x1), some (.int x2), none] from ⟨rfl, ⟨rfl, ⟨rfl, trivial⟩⟩⟩) (zyC94_47 hk4 h)
      · replace h := zy_ifn h b6
        refine zy_3 rfl rfl (show zyR _ _ _ _ [some (.ref (16 + 3)), some (.int x1), some (.int x2), none] [.int (1 : Int32)] _ _ from ?_)
        refine zy_6 rfl (show zyR _ _ _ _ [some (.ref (16 + 3)), some (.int x1), some (.int x2), none] [.int (1 : Int32)] _ _ from ?_)
        exact zy_sub (show zy_le [some (.ref (16 + 3)), some (.int x1), some (.int x2), none] [some (.ref (16 + 3)), some (.int x1), some (.int x2), none] from ⟨rfl, ⟨rfl, ⟨rfl, trivial⟩⟩⟩) (zyC94_48 hk4 h)
noncomputable def zyF94_4   (n : Nat) : Int32 → Int32 → zy_S → Option (Int32 × zy_S) := Nat.rec (fun _ _ _ => none) (fun _ k4 => zyF94_4b k4) n
theorem zyC94_4 {X : zx_X}     : ∀ (n : Nat) (x1 : Int32) (x2 : Int32) (s : zy_S) (r : Int32) (s' : zy_S), zyF94_4 n x1 x2 s = some (r, s') → zyR X 4 94 4 [some (.ref (16 + 3)), some (.int x1), some (.int x2), none] [] s (zyE (some (.int r)) s')
  | 0, _, _ => by
    intro s r s'  h
    have h : (none : Option (Int32 × zy_S)) = some (r, s') := h
    cases h
  | n + 1, x1, x2 => by
    intro s r s'  h
    exact zyC94_4b (k4 := zyF94_4 n) (fun x1 x2 s r s'  h => zyC94_4  n x1 x2 s r s'  h) h
noncomputable def zyF94    (s : zy_S) : Option (Int32 × zy_S) :=
zyF94_4 zy_fu (0 : Int32) (0 : Int32) s
theorem zyC94 {X : zx_X}      {s : zy_S} {r : Int32} {s' : zy_S}  (h : zyF94 s = some (r, s')) : zyR X 4 94 0 [some (.ref (16 + 3)), none, none, none] [] s (zyE (some (.int r)) s') := by
  unfold zyF94 at h
  refine zy_3 rfl rfl (show zyR _ _ _ _ [some (.ref (16 + 3)), none, none, none] [.int (0 : Int32)] _ _ from ?_)
  refine zy_23 rfl rfl (show zyR _ _ _ _ [some (.ref (16 + 3)), some (.int (0 : Int32)), none, none] [] _ _ from ?_)
  refine zy_3 rfl rfl (show zyR _ _ _ _ [some (.ref (16 + 3)), some (.int (0 : Int32)), none, none] [.int (0 : Int32)] _ _ from ?_)
  refine zy_23 rfl rfl (show zyR _ _ _ _ [some (.ref (16 + 3)), some (.int (0 : Int32)), some (.int (0 : Int32)), none] [] _ _ from ?_)
  exact zy_sub (show zy_le [some (.ref (16 + 3)), some (.int (0 : Int32)), some (.int (0 : Int32)), none] [some (.ref (16 + 3)), some (.int (0 : Int32)), some (.int (0 : Int32)), none] from ⟨rfl, ⟨rfl, ⟨rfl, trivial⟩⟩⟩) (zyC94_4 zy_fu (0 : Int32) (0 : Int32) s _ _ h)
/-! NineOpinions$Votes.believed()I -/
noncomputable def zyF99_17b  (k4 : Int32 → Int32 → zy_S → Option (Int32 × zy_S)) (k17 : Int32 → Int32 → Int32 → zy_S → Option (Int32 × zy_S)) (x1 : Int32) (x2 : Int32) (x3 : Int32) (s : zy_S) : Option (Int32 × zy_S) :=
if (6 : Int32) ≤ x3 then
k4 x1 (x2 + (1 : Int32)) s
else
if zy_in x2 8 then
(zyF60 (s.1 3 (x2).toNatClampNeg) x3 s).bind fun p2 =>
k17 (x1 ||| ((1 : Int32) <<< ((((4 : Int32) * x3) + p2.1) &&& 31))) x2 (x3 + (1 : Int32)) p2.2
else none
theorem zyC99_17b {X : zx_X}  {k4 : Int32 → Int32 → zy_S → Option (Int32 × zy_S)} {k17 : Int32 → Int32 → Int32 → zy_S → Option (Int32 × zy_S)}  (hk4 : ∀ (x1 : Int32) (x2 : Int32) (s : zy_S) (r : Int32) (s' : zy_S), k4 x1 x2 s = some (r, s') → zyR X 2 99 4 [some (.ref (16 + 3)), some (.int x1), some (.int x2), none] [] s (zyE (some (.int r)) s')) (hk17 : ∀ (x1 : Int32) (x2 : Int32) (x3 : Int32) (s : zy_S) (r : Int32) (s' : zy_S), k17 x1 x2 x3 s = some (r, s') → zyR X 2 99 17 [some (.ref (16 + 3)), some (.int x1), some (.int x2), some (.int x3)] [] s (zyE (some (.int r)) s')) {x1 : Int32} {x2 : Int32} {x3 : Int32} {s : zy_S} {r : Int32} {s' : zy_S}  (h : zyF99_17b k4 k17 x1 x2 x3 s = some (r, s')) : zyR X 2 99 17 [some (.ref (16 + 3)), some (.int x1), some (.int x2), some (.int x3)] [] s (zyE (some (.int r)) s') := by
  unfold zyF99_17b at h
  refine zy_2 rfl rfl (show zyR _ _ _ _ [some (.ref (16 + 3)), some (.int x1), some (.int x2), some (.int x3)] [.int x3] _ _ from ?_)
  refine zy_3 rfl rfl (show zyR _ _ _ _ [some (.ref (16 + 3)), some (.int x1), some (.int x2), some (.int x3)] [.int (6 : Int32), .int x3] _ _ from ?_)
  refine zy_25_3 rfl (fun b3 => (show zyR _ _ _ _ [some (.ref (16 + 3)), some (.int x1), some (.int x2), some (.int x3)] [] _ _ from ?_)) (fun b3 => (show zyR _ _ _ _ [some (.ref (16 + 3)), some (.int x1), some (.int x2), some (.int x3)] [] _ _ from ?_))
  · replace h := zy_ifp h b3
    refine zy_22 rfl rfl rfl rfl (show zyR _ _ _ _ [some (.ref (16 + 3)), some (.int x1), some (.int (x2 + (1 : Int32))), some (.int x3)] [] _ _ from ?_)
    refine zy_6 rfl (show zyR _ _ _ _ [some (.ref (16 + 3)), some (.int x1), some (.int (x2 + (1 : Int32))), some (.int x3)] [] _ _ from ?_)
    exact zy_sub (show zy_le [some (.ref (16 + 3)), some (.int x1), some (.int (x2 + (1 : Int32))), none] [some (.ref (16 + 3)), some (.int x1), some (.int (x2 + (1 : Int32))), some (.int x3)] from ⟨rfl, ⟨rfl, ⟨rfl, trivial⟩⟩⟩) (hk4 x1 (x2 + (1 : Int32)) s _ _ h)
  · replace h := zy_ifn h b3
    refine zy_2 rfl rfl (show zyR _ _ _ _ [some (.ref (16 + 3)), some (.int x1), some (.int x2), some (.int x3)] [.int x1] _ _ from ?_)
    refine zy_3 rfl rfl (show zyR _ _ _ _ [some (.ref (16 + 3)), some (.int x1), some (.int x2), some (.int x3)] [.int (1 : Int32), .int x1] _ _ from ?_)
    refine zy_3 rfl rfl (show zyR _ _ _ _ [some (.ref (16 + 3)), some (.int x1), some (.int x2), some (.int x3)] [.int (4 : Int32), .int (1 : Int32), .int x1] _ _ from ?_)
    refine zy_2 rfl rfl (show zyR _ _ _ _ [some (.ref (16 + 3)), some (.int x1), some (.int x2), some (.int x3)] [.int x3, .int (4 : Int32), .int (1 : Int32), .int x1] _ _ from ?_)
    refine zy_12 rfl (show zyR _ _ _ _ [some (.ref (16 + 3)), some (.int x1), some (.int x2), some (.int x3)] [.int ((4 : Int32) * x3), .int (1 : Int32), .int x1] _ _ from ?_)
    refine zy_0 rfl rfl (show zyR _ _ _ _ [some (.ref (16 + 3)), some (.int x1), some (.int x2), some (.int x3)] [.ref (16 + 3), .int ((4 : Int32) * x3), .int (1 : Int32), .int x1] _ _ from ?_)
    refine zy_1r (c := 16) rfl rfl rfl (show zyR _ _ _ _ [some (.ref (16 + 3)), some (.int x1), some (.int x2), some (.int x3)] [.ref (1 + 3), .int ((4 : Int32) * x3), .int (1 : Int32), .int x1] _ _ from ?_)
    refine zy_1r (c := 1) rfl rfl rfl (show zyR _ _ _ _ [some (.ref (16 + 3)), some (.int x1), some (.int x2), some (.int x3)] [.ref (3 + 3), .int ((4 : Int32) * x3), .int (1 : Int32), .int x1] _ _ from ?_)
    refine zy_2 rfl rfl (show zyR _ _ _ _ [some (.ref (16 + 3)), some (.int x1), some (.int x2), some (.int x3)] [.int x2, .ref (3 + 3), .int ((4 : Int32) * x3), .int (1 : Int32), .int x1] _ _ from ?_)
    obtain ⟨c1, h⟩ := zy_if h
    refine zy_26 (c := 3) rfl rfl c1 (show zyR _ _ _ _ [some (.ref (16 + 3)), some (.int x1), some (.int x2), some (.int x3)] [.int (s.1 3 (x2).toNatClampNeg), .int ((4 : Int32) * x3), .int (1 : Int32), .int x1] _ _ from ?_)
    refine zy_2 rfl rfl (show zyR _ _ _ _ [some (.ref (16 + 3)), some (.int x1), some (.int x2), some (.int x3)] [.int x3, .int (s.1 3 (x2).toNatClampNeg), .int ((4 : Int32) * x3), .int (1 : Int32), .int x1] _ _ from ?_)
    obtain ⟨p2, hp2, h⟩ := zy_bind h
    refine zy_61 (as := [.int (s.1 3 (x2).toNatClampNeg), .int x3]) (rest := [.int ((4 : Int32) * x3), .int (1 : Int32), .int x1]) (L := [some (.int (s.1 3 (x2).toNatClampNeg)), some (.int x3)]) (d' := 1) rfl rfl (Nat.le_of_ble_eq_true rfl) (Nat.le_of_ble_eq_true rfl) rfl (Nat.le_of_ble_eq_true rfl) rfl rfl (zyC60 hp2) ?_
    show zyR _ _ _ _ [some (.ref (16 + 3)), some (.int x1), some (.int x2), some (.int x3)] [.int p2.1, .int ((4 : Int32) * x3), .int (1 : Int32), .int x1] _ _
    refine zy_10 rfl (show zyR _ _ _ _ [some (.ref (16 + 3)), some (.int x1), some (.int x2), some (.int x3)] [.int (((4 : Int32) * x3) + p2.1), .int (1 : Int32), .int x1] _ _ from ?_)
    refine zy_16 rfl (show zyR _ _ _ _ [some (.ref (16 + 3)), some (.int x1), some (.int x2), some (.int x3)] [.int ((1 : Int32) <<< ((((4 : Int32) * x3) + p2.1) &&& 31)), .int x1] _ _ from ?_)
    refine zy_14 rfl (show zyR _ _ _ _ [some (.ref (16 + 3)), some (.int x1), some (.int x2), some (.int x3)] [.int (x1 ||| ((1 : Int32) <<< ((((4 : Int32) * x3) + p2.1) &&& 31)))] _ _ from ?_)
    refine zy_23 rfl rfl (show zyR _ _ _ _ [some (.ref (16 + 3)), some (.int (x1 ||| ((1 : Int32) <<< ((((4 : Int32) * x3) + p2.1) &&& 31)))), some (.int x2), some (.int x3)] [] _ _ from ?_)
    refine zy_22 rfl rfl rfl rfl (show zyR _ _ _ _ [some (.ref (16 + 3)), some (.int (x1 ||| ((1 : Int32) <<< ((((4 : Int32) * x3) + p2.1) &&& 31)))), some (.int x2), some (.int (x3 + (1 : Int32)))] [] _ _ from ?_)
    refine zy_6 rfl (show zyR _ _ _ _ [some (.ref (16 + 3)), some (.int (x1 ||| ((1 : Int32) <<< ((((4 : Int32) * x3) + p2.1) &&& 31)))), some (.int x2), some (.int (x3 + (1 : Int32)))] [] _ _ from ?_)
    exact zy_sub (show zy_le [some (.ref (16 + 3)), some (.int (x1 ||| ((1 : Int32) <<< ((((4 : Int32) * x3) + p2.1) &&& 31)))), some (.int x2), some (.int (x3 + (1 : Int32)))] [some (.ref (16 + 3)), some (.int (x1 ||| ((1 : Int32) <<< ((((4 : Int32) * x3) + p2.1) &&& 31)))), some (.int x2), some (.int (x3 + (1 : Int32)))] from ⟨rfl, ⟨rfl, ⟨rfl, ⟨rfl, trivial⟩⟩⟩⟩) (hk17 (x1 ||| ((1 : Int32) <<< ((((4 : Int32) * x3) + p2.1) &&& 31))) x2 (x3 + (1 : Int32)) p2.2 _ _ h)
noncomputable def zyF99_17  (k4 : Int32 → Int32 → zy_S → Option (Int32 × zy_S)) (n : Nat) : Int32 → Int32 → Int32 → zy_S → Option (Int32 × zy_S) := Nat.rec (fun _ _ _ _ => none) (fun _ k17 => zyF99_17b k4 k17) n
theorem zyC99_17 {X : zx_X}  {k4 : Int32 → Int32 → zy_S → Option (Int32 × zy_S)}  (hk4 : ∀ (x1 : Int32) (x2 : Int32) (s : zy_S) (r : Int32) (s' : zy_S), k4 x1 x2 s = some (r, s') → zyR X 2 99 4 [some (.ref (16 + 3)), some (.int x1), some (.int x2), none] [] s (zyE (some (.int r)) s')) : ∀ (n : Nat) (x1 : Int32) (x2 : Int32) (x3 : Int32) (s : zy_S) (r : Int32) (s' : zy_S), zyF99_17 k4 n x1 x2 x3 s = some (r, s') → zyR X 2 99 17 [some (.ref (16 + 3)), some (.int x1), some (.int x2), some (.int x3)] [] s (zyE (some (.int r)) s')
  | 0, _, _, _ => by
    intro s r s'  h
    have h : (none : Option (Int32 × zy_S)) = some (r, s') := h
    cases h
  | n + 1, x1, x2, x3 => by
    intro s r s'  h
    exact zyC99_17b (k17 := zyF99_17 k4 n) hk4 (fun x1 x2 x3 s r s'  h => zyC99_17 hk4 n x1 x2 x3 s r s'  h) h
noncomputable def zyF99_4b  (k4 : Int32 → Int32 → zy_S → Option (Int32 × zy_S)) (x1 : Int32) (x2 : Int32) (s : zy_S) : Option (Int32 × zy_S) :=
if (s.1 1 5) ≤ x2 then
some (x1, s)
else
zyF99_17 k4 zy_fu x1 x2 (0 : Int32) s
theorem zyC99_4b {X : zx_X}  {k4 : Int32 → Int32 → zy_S → Option (Int32 × zy_S)}  (hk4 : ∀ (x1 : Int32) (x2 : Int32) (s : zy_S) (r : Int32) (s' : zy_S), k4 x1 x2 s = some (r, s') → zyR X 2 99 4 [some (.ref (16 + 3)), some (.int x1), some (.int x2), none] [] s (zyE (some (.int r)) s')) {x1 : Int32} {x2 : Int32} {s : zy_S} {r : Int32} {s' : zy_S}  (h : zyF99_4b k4 x1 x2 s = some (r, s')) : zyR X 2 99 4 [some (.ref (16 + 3)), some (.int x1), some (.int x2), none] [] s (zyE (some (.int r)) s') := by
  unfold zyF99_4b at h
  refine zy_2 rfl rfl (show zyR _ _ _ _ [some (.ref (16 + 3)), some (.int x1), some (.int x2), none] [.int x2] _ _ from ?_)
  refine zy_0 rfl rfl (show zyR _ _ _ _ [some (.ref (16 + 3)), some (.int x1), some (.int x2), none] [.ref (16 + 3), .int x2] _ _ from ?_)
  refine zy_1r (c := 16) rfl rfl rfl (show zyR _ _ _ _ [some (.ref (16 + 3)), some (.int x1), some (.int x2), none] [.ref (1 + 3), .int x2] _ _ from ?_)
  refine zy_1 (c := 1) rfl rfl rfl (show zyR _ _ _ _ [some (.ref (16 + 3)), some (.int x1), some (.int x2), none] [.int (s.1 1 5), .int x2] _ _ from ?_)
  refine zy_25_3 rfl (fun b4 => (show zyR _ _ _ _ [some (.ref (16 + 3)), some (.int x1), some (.int x2), none] [] _ _ from ?_)) (fun b4 => (show zyR _ _ _ _ [some (.ref (16 + 3)), some (.int x1), some (.int x2), none] [] _ _ from ?_))
  · replace h := zy_ifp h b4
    refine zy_2 rfl rfl (show zyR _ _ _ _ [some (.ref (16 + 3)), some (.int x1), some (.int x2), none] [.int x1] _ _ from ?_)
    obtain ⟨rfl, rfl⟩ := zy_pi h
    exact zy_4 rfl ⟨rfl, rfl⟩
  · replace h := zy_ifn h b4
    refine zy_3 rfl rfl (show zyR _ _ _ _ [some (.ref (16 + 3)), some (.int x1), some (.int x2), none] [.int (0 : Int32)] _ _ from ?_)
    refine zy_23 rfl rfl (show zyR _ _ _ _ [some (.ref (16 + 3)), some (.int x1), some (.int x2), some (.int (0 : Int32))] [] _ _ from ?_)
    exact zy_sub (show zy_le [some (.ref (16 + 3)), some (.int x1), some (.int x2), some (.int (0 : Int32))] [some (.ref (16 + 3)), some (.int x1), some (.int x2), some (.int (0 : Int32))] from ⟨rfl, ⟨rfl, ⟨rfl, ⟨rfl, trivial⟩⟩⟩⟩) (zyC99_17 hk4 zy_fu x1 x2 (0 : Int32) s _ _ h)
noncomputable def zyF99_4   (n : Nat) : Int32 → Int32 → zy_S → Option (Int32 × zy_S) := Nat.rec (fun _ _ _ => none) (fun _ k4 => zyF99_4b k4) n
theorem zyC99_4 {X : zx_X}     : ∀ (n : Nat) (x1 : Int32) (x2 : Int32) (s : zy_S) (r : Int32) (s' : zy_S), zyF99_4 n x1 x2 s = some (r, s') → zyR X 2 99 4 [some (.ref (16 + 3)), some (.int x1), some (.int x2), none] [] s (zyE (some (.int r)) s')
  | 0, _, _ => by
    intro s r s'  h
    have h : (none : Option (Int32 × zy_S)) = some (r, s') := h
    cases h
  | n + 1, x1, x2 => by
    intro s r s'  h
    exact zyC99_4b (k4 := zyF99_4 n) (fun x1 x2 s r s'  h => zyC99_4  n x1 x2 s r s'  h) h
noncomputable def zyF99    (s : zy_S) : Option (Int32 × zy_S) :=
zyF99_4 zy_fu (0 : Int32) (0 : Int32) s
theorem zyC99 {X : zx_X}      {s : zy_S} {r : Int32} {s' : zy_S}  (h : zyF99 s = some (r, s')) : zyR X 2 99 0 [some (.ref (16 + 3)), none, none, none] [] s (zyE (some (.int r)) s') := by
  unfold zyF99 at h
  refine zy_3 rfl rfl (show zyR _ _ _ _ [some (.ref (16 + 3)), none, none, none] [.int (0 : Int32)] _ _ from ?_)
  refine zy_23 rfl rfl (show zyR _ _ _ _ [some (.ref (16 + 3)), some (.int (0 : Int32)), none, none] [] _ _ from ?_)
  refine zy_3 rfl rfl (show zyR _ _ _ _ [some (.ref (16 + 3)), some (.int (0 : Int32)), none, none] [.int (0 : Int32)] _ _ from ?_)
  refine zy_23 rfl rfl (show zyR _ _ _ _ [some (.ref (16 + 3)), some (.int (0 : Int32)), some (.int (0 : Int32)), none] [] _ _ from ?_)
  exact zy_sub (show zy_le [some (.ref (16 + 3)), some (.int (0 : Int32)), some (.int (0 : Int32)), none] [some (.ref (16 + 3)), some (.int (0 : Int32)), some (.int (0 : Int32)), none] from ⟨rfl, ⟨rfl, ⟨rfl, trivial⟩⟩⟩) (zyC99_4 zy_fu (0 : Int32) (0 : Int32) s _ _ h)
/-! NineOpinions.lines(I)I -/
noncomputable def zyF93   (x1 : Int32) (s : zy_S) : Option (Int32 × zy_S) :=
if x1 = (0 : Int32) then
(zyF94 s).bind fun p1 =>
some (p1.1, p1.2)
else
if x1 = (1 : Int32) then
(zyF99 s).bind fun p3 =>
some (((s.1 1 3) &&& (p3.1 ^^^ (-1 : Int32))), p3.2)
else
if x1 = (2 : Int32) then
(zyF99 s).bind fun p5 =>
some ((p5.1 &&& ((p5.2.1 1 3) ^^^ (-1 : Int32))), p5.2)
else
some ((-1 : Int32), s)
theorem zyC93 {X : zx_X}     {x1 : Int32} {s : zy_S} {r : Int32} {s' : zy_S}  (h : zyF93 x1 s = some (r, s')) : zyR X 5 93 0 [some (.ref (0 + 3)), some (.int x1)] [] s (zyE (some (.int r)) s') := by
  unfold zyF93 at h
  refine zy_2 rfl rfl (show zyR _ _ _ _ [some (.ref (0 + 3)), some (.int x1)] [.int x1] _ _ from ?_)
  refine zy_50 rfl (by decide) ?_
  refine zy_swp (fun b2 => (show zyR _ _ _ _ [some (.ref (0 + 3)), some (.int x1)] [] _ _ from ?_)) (fun b2 => ?_)
  · replace h := zy_ifp h b2
    refine zy_0 rfl rfl (show zyR _ _ _ _ [some (.ref (0 + 3)), some (.int x1)] [.ref (0 + 3)] _ _ from ?_)
    refine zy_1r (c := 0) rfl rfl rfl (show zyR _ _ _ _ [some (.ref (0 + 3)), some (.int x1)] [.ref (16 + 3)] _ _ from ?_)
    obtain ⟨p1, hp1, h⟩ := zy_bind h
    refine zy_5 (c := 16) (as := []) (rest := []) (L := [some (.ref (16 + 3)), none, none, none]) (d' := 4) rfl rfl rfl (Nat.le_of_ble_eq_true rfl) (Nat.le_of_ble_eq_true rfl) rfl (Nat.le_of_ble_eq_true rfl) rfl rfl (zyC94 hp1) ?_
    show zyR _ _ _ _ [some (.ref (0 + 3)), some (.int x1)] [.int p1.1] _ _
    obtain ⟨rfl, rfl⟩ := zy_pi h
    exact zy_4 rfl ⟨rfl, rfl⟩
  replace h := zy_ifn h b2
  refine zy_swp (fun b4 => (show zyR _ _ _ _ [some (.ref (0 + 3)), some (.int x1)] [] _ _ from ?_)) (fun b4 => ?_)
  · replace h := zy_ifp h b4
    refine zy_0 rfl rfl (show zyR _ _ _ _ [some (.ref (0 + 3)), some (.int x1)] [.ref (0 + 3)] _ _ from ?_)
    refine zy_1r (c := 0) rfl rfl rfl (show zyR _ _ _ _ [some (.ref (0 + 3)), some (.int x1)] [.ref (1 + 3)] _ _ from ?_)
    refine zy_1 (c := 1) rfl rfl rfl (show zyR _ _ _ _ [some (.ref (0 + 3)), some (.int x1)] [.int (s.1 1 3)] _ _ from ?_)
    refine zy_0 rfl rfl (show zyR _ _ _ _ [some (.ref (0 + 3)), some (.int x1)] [.ref (0 + 3), .int (s.1 1 3)] _ _ from ?_)
    refine zy_1r (c := 0) rfl rfl rfl (show zyR _ _ _ _ [some (.ref (0 + 3)), some (.int x1)] [.ref (16 + 3), .int (s.1 1 3)] _ _ from ?_)
    obtain ⟨p3, hp3, h⟩ := zy_bind h
    refine zy_5 (c := 16) (as := []) (rest := [.int (s.1 1 3)]) (L := [some (.ref (16 + 3)), none, none, none]) (d' := 2) rfl rfl rfl (Nat.le_of_ble_eq_true rfl) (Nat.le_of_ble_eq_true rfl) rfl (Nat.le_of_ble_eq_true rfl) rfl rfl (zyC99 hp3) ?_
    show zyR _ _ _ _ [some (.ref (0 + 3)), some (.int x1)] [.int p3.1, .int (s.1 1 3)] _ _
    refine zy_3 rfl rfl (show zyR _ _ _ _ [some (.ref (0 + 3)), some (.int x1)] [.int (-1 : Int32), .int p3.1, .int (s.1 1 3)] _ _ from ?_)
    refine zy_15 rfl (show zyR _ _ _ _ [some (.ref (0 + 3)), some (.int x1)] [.int (p3.1 ^^^ (-1 : Int32)), .int (s.1 1 3)] _ _ from ?_)
    refine zy_13 rfl (show zyR _ _ _ _ [some (.ref (0 + 3)), some (.int x1)] [.int ((s.1 1 3) &&& (p3.1 ^^^ (-1 : Int32)))] _ _ from ?_)
    obtain ⟨rfl, rfl⟩ := zy_pi h
    exact zy_4 rfl ⟨rfl, rfl⟩
  replace h := zy_ifn h b4
  refine zy_swp (fun b6 => (show zyR _ _ _ _ [some (.ref (0 + 3)), some (.int x1)] [] _ _ from ?_)) (fun b6 => ?_)
  · replace h := zy_ifp h b6
    refine zy_0 rfl rfl (show zyR _ _ _ _ [some (.ref (0 + 3)), some (.int x1)] [.ref (0 + 3)] _ _ from ?_)
    refine zy_1r (c := 0) rfl rfl rfl (show zyR _ _ _ _ [some (.ref (0 + 3)), some (.int x1)] [.ref (16 + 3)] _ _ from ?_)
    obtain ⟨p5, hp5, h⟩ := zy_bind h
    refine zy_5 (c := 16) (as := []) (rest := []) (L := [some (.ref (16 + 3)), none, none, none]) (d' := 2) rfl rfl rfl (Nat.le_of_ble_eq_true rfl) (Nat.le_of_ble_eq_true rfl) rfl (Nat.le_of_ble_eq_true rfl) rfl rfl (zyC99 hp5) ?_
    show zyR _ _ _ _ [some (.ref (0 + 3)), some (.int x1)] [.int p5.1] _ _
    refine zy_0 rfl rfl (show zyR _ _ _ _ [some (.ref (0 + 3)), some (.int x1)] [.ref (0 + 3), .int p5.1] _ _ from ?_)
    refine zy_1r (c := 0) rfl rfl rfl (show zyR _ _ _ _ [some (.ref (0 + 3)), some (.int x1)] [.ref (1 + 3), .int p5.1] _ _ from ?_)
    refine zy_1 (c := 1) rfl rfl rfl (show zyR _ _ _ _ [some (.ref (0 + 3)), some (.int x1)] [.int (p5.2.1 1 3), .int p5.1] _ _ from ?_)
    refine zy_3 rfl rfl (show zyR _ _ _ _ [some (.ref (0 + 3)), some (.int x1)] [.int (-1 : Int32), .int (p5.2.1 1 3), .int p5.1] _ _ from ?_)
    refine zy_15 rfl (show zyR _ _ _ _ [some (.ref (0 + 3)), some (.int x1)] [.int ((p5.2.1 1 3) ^^^ (-1 : Int32)), .int p5.1] _ _ from ?_)
    refine zy_13 rfl (show zyR _ _ _ _ [some (.ref (0 + 3)), some (.int x1)] [.int (p5.1 &&& ((p5.2.1 1 3) ^^^ (-1 : Int32)))] _ _ from ?_)
    obtain ⟨rfl, rfl⟩ := zy_pi h
    exact zy_4 rfl ⟨rfl, rfl⟩
  replace h := zy_ifn h b6
  show zyR _ _ _ _ [some (.ref (0 + 3)), some (.int x1)] [] _ _
  refine zy_3 rfl rfl (show zyR _ _ _ _ [some (.ref (0 + 3)), some (.int x1)] [.int (-1 : Int32)] _ _ from ?_)
  obtain ⟨rfl, rfl⟩ := zy_pi h
  exact zy_4 rfl ⟨rfl, rfl⟩
/-! NineOpinionsModel.mayStrike(II)Z -/
noncomputable def zyF221_66  (k8 : Int32 → Int32 → Int32 → Int32 → Int32 → zy_S → Option (Int32 × zy_S)) (x1 : Int32) (x2 : Int32) (x4 : Int32) (x5 : Int32) (y0 : Int32) (y1 : Int32) (s : zy_S) : Option (Int32 × zy_S) :=
k8 x1 x2 (y1 + y0) x4 (x5 + (1 : Int32)) s
theorem zyC221_66 {X : zx_X}  {k8 : Int32 → Int32 → Int32 → Int32 → Int32 → zy_S → Option (Int32 × zy_S)}  (hk8 : ∀ (x1 : Int32) (x2 : Int32) (x3 : Int32) (x4 : Int32) (x5 : Int32) (s : zy_S) (r : Int32) (s' : zy_S), k8 x1 x2 x3 x4 x5 s = some (r, s') → zyR X 4 221 8 [some (.ref (43 + 3)), some (.int x1), some (.int x2), some (.int x3), some (.int x4), some (.int x5)] [] s (zyE (some (.int r)) s')) {x1 : Int32} {x2 : Int32} {x4 : Int32} {x5 : Int32} {y0 : Int32} {y1 : Int32} {s : zy_S} {r : Int32} {s' : zy_S}  (h : zyF221_66 k8 x1 x2 x4 x5 y0 y1 s = some (r, s')) : zyR X 4 221 66 [some (.ref (43 + 3)), some (.int x1), some (.int x2), none, some (.int x4), some (.int x5)] [.int y0, .int y1] s (zyE (some (.int r)) s') := by
  unfold zyF221_66 at h
  refine zy_10 rfl (show zyR _ _ _ _ [some (.ref (43 + 3)), some (.int x1), some (.int x2), none, some (.int x4), some (.int x5)] [.int (y1 + y0)] _ _ from ?_)
  refine zy_23 rfl rfl (show zyR _ _ _ _ [some (.ref (43 + 3)), some (.int x1), some (.int x2), some (.int (y1 + y0)), some (.int x4), some (.int x5)] [] _ _ from ?_)
  refine zy_22 rfl rfl rfl rfl (show zyR _ _ _ _ [some (.ref (43 + 3)), some (.int x1), some (.int x2), some (.int (y1 + y0)), some (.int x4), some (.int (x5 + (1 : Int32)))] [] _ _ from ?_)
  refine zy_6 rfl (show zyR _ _ _ _ [some (.ref (43 + 3)), some (.int x1), some (.int x2), some (.int (y1 + y0)), some (.int x4), some (.int (x5 + (1 : Int32)))] [] _ _ from ?_)
  exact zy_sub (show zy_le [some (.ref (43 + 3)), some (.int x1), some (.int x2), some (.int (y1 + y0)), some (.int x4), some (.int (x5 + (1 : Int32)))] [some (.ref (43 + 3)), some (.int x1), some (.int x2), some (.int (y1 + y0)), some (.int x4), some (.int (x5 + (1 : Int32)))] from ⟨rfl, ⟨rfl, ⟨rfl, ⟨rfl, ⟨rfl, ⟨rfl, trivial⟩⟩⟩⟩⟩⟩) (hk8 x1 x2 (y1 + y0) x4 (x5 + (1 : Int32)) s _ _ h)
noncomputable def zyF221_52  (k8 : Int32 → Int32 → Int32 → Int32 → Int32 → zy_S → Option (Int32 × zy_S)) (x1 : Int32) (x2 : Int32) (x4 : Int32) (x5 : Int32) (y0 : Int32) (s : zy_S) : Option (Int32 × zy_S) :=
if zy_in ((8 : Int32) + x5) 41 then
zyF221_66 k8 x1 x2 x4 x5 (s.1 44 (((8 : Int32) + x5)).toNatClampNeg) y0 s
else none
theorem zyC221_52 {X : zx_X}  {k8 : Int32 → Int32 → Int32 → Int32 → Int32 → zy_S → Option (Int32 × zy_S)}  (hk8 : ∀ (x1 : Int32) (x2 : Int32) (x3 : Int32) (x4 : Int32) (x5 : Int32) (s : zy_S) (r : Int32) (s' : zy_S), k8 x1 x2 x3 x4 x5 s = some (r, s') → zyR X 4 221 8 [some (.ref (43 + 3)), some (.int x1), some (.int x2), some (.int x3), some (.int x4), some (.int x5)] [] s (zyE (some (.int r)) s')) {x1 : Int32} {x2 : Int32} {x4 : Int32} {x5 : Int32} {y0 : Int32} {s : zy_S} {r : Int32} {s' : zy_S}  (h : zyF221_52 k8 x1 x2 x4 x5 y0 s = some (r, s')) : zyR X 4 221 52 [some (.ref (43 + 3)), some (.int x1), some (.int x2), none, some (.int x4), some (.int x5)] [.int y0] s (zyE (some (.int r)) s') := by
  unfold zyF221_52 at h
  refine zy_0 rfl rfl (show zyR _ _ _ _ [some (.ref (43 + 3)), some (.int x1), some (.int x2), none, some (.int x4), some (.int x5)] [.ref (43 + 3), .int y0] _ _ from ?_)
  refine zy_1r (c := 43) rfl rfl rfl (show zyR _ _ _ _ [some (.ref (43 + 3)), some (.int x1), some (.int x2), none, some (.int x4), some (.int x5)] [.ref (44 + 3), .int y0] _ _ from ?_)
  refine zy_3 rfl rfl (show zyR _ _ _ _ [some (.ref (43 + 3)), some (.int x1), some (.int x2), none, some (.int x4), some (.int x5)] [.int (8 : Int32), .ref (44 + 3), .int y0] _ _ from ?_)
  refine zy_2 rfl rfl (show zyR _ _ _ _ [some (.ref (43 + 3)), some (.int x1), some (.int x2), none, some (.int x4), some (.int x5)] [.int x5, .int (8 : Int32), .ref (44 + 3), .int y0] _ _ from ?_)
  refine zy_10 rfl (show zyR _ _ _ _ [some (.ref (43 + 3)), some (.int x1), some (.int x2), none, some (.int x4), some (.int x5)] [.int ((8 : Int32) + x5), .ref (44 + 3), .int y0] _ _ from ?_)
  obtain ⟨c1, h⟩ := zy_if h
  refine zy_26 (c := 44) rfl rfl c1 (show zyR _ _ _ _ [some (.ref (43 + 3)), some (.int x1), some (.int x2), none, some (.int x4), some (.int x5)] [.int (s.1 44 (((8 : Int32) + x5)).toNatClampNeg), .int y0] _ _ from ?_)
  refine zy_6 rfl (show zyR _ _ _ _ [some (.ref (43 + 3)), some (.int x1), some (.int x2), none, some (.int x4), some (.int x5)] [.int (s.1 44 (((8 : Int32) + x5)).toNatClampNeg), .int y0] _ _ from ?_)
  exact zy_sub (show zy_le [some (.ref (43 + 3)), some (.int x1), some (.int x2), none, some (.int x4), some (.int x5)] [some (.ref (43 + 3)), some (.int x1), some (.int x2), none, some (.int x4), some (.int x5)] from ⟨rfl, ⟨rfl, ⟨rfl, ⟨rfl, ⟨rfl, trivial⟩⟩⟩⟩⟩) (zyC221_66 hk8 h)
noncomputable def zyF221_8b  (k8 : Int32 → Int32 → Int32 → Int32 → Int32 → zy_S → Option (Int32 × zy_S)) (x1 : Int32) (x2 : Int32) (x3 : Int32) (x4 : Int32) (x5 : Int32) (s : zy_S) : Option (Int32 × zy_S) :=
if (s.1 43 6) ≤ x5 then
if ((2 : Int32) * x3) ≤ x4 then
some ((0 : Int32), s)
else
some ((1 : Int32), s)
else
if zy_in ((8 : Int32) + x5) 41 then
(zyF222 x5 x1 s).bind fun p4 =>
if p4.1 = 0 then
zyF221_52 k8 x1 x2 (x4 + (s.1 44 (((8 : Int32) + x5)).toNatClampNeg)) x5 x3 p4.2
else
(zyF208 x2 x5 p4.2).bind fun p5 =>
if p5.1 = 0 then
zyF221_66 k8 x1 x2 (x4 + (s.1 44 (((8 : Int32) + x5)).toNatClampNeg)) x5 (0 : Int32) x3 p5.2
else
zyF221_52 k8 x1 x2 (x4 + (s.1 44 (((8 : Int32) + x5)).toNatClampNeg)) x5 x3 p5.2
else none
theorem zyC221_8b {X : zx_X}  {k8 : Int32 → Int32 → Int32 → Int32 → Int32 → zy_S → Option (Int32 × zy_S)}  (hk8 : ∀ (x1 : Int32) (x2 : Int32) (x3 : Int32) (x4 : Int32) (x5 : Int32) (s : zy_S) (r : Int32) (s' : zy_S), k8 x1 x2 x3 x4 x5 s = some (r, s') → zyR X 4 221 8 [some (.ref (43 + 3)), some (.int x1), some (.int x2), some (.int x3), some (.int x4), some (.int x5)] [] s (zyE (some (.int r)) s')) {x1 : Int32} {x2 : Int32} {x3 : Int32} {x4 : Int32} {x5 : Int32} {s : zy_S} {r : Int32} {s' : zy_S}  (h : zyF221_8b k8 x1 x2 x3 x4 x5 s = some (r, s')) : zyR X 4 221 8 [some (.ref (43 + 3)), some (.int x1), some (.int x2), some (.int x3), some (.int x4), some (.int x5)] [] s (zyE (some (.int r)) s') := by
  unfold zyF221_8b at h
  refine zy_2 rfl rfl (show zyR _ _ _ _ [some (.ref (43 + 3)), some (.int x1), some (.int x2), some (.int x3), some (.int x4), some (.int x5)] [.int x5] _ _ from ?_)
  refine zy_0 rfl rfl (show zyR _ _ _ _ [some (.ref (43 + 3)), some (.int x1), some (.int x2), some (.int x3), some (.int x4), some (.int x5)] [.ref (43 + 3), .int x5] _ _ from ?_)
  refine zy_1 (c := 43) rfl rfl rfl (show zyR _ _ _ _ [some (.ref (43 + 3)), some (.int x1), some (.int x2), some (.int x3), some (.int x4), some (.int x5)] [.int (s.1 43 6), .int x5] _ _ from ?_)
  refine zy_25_3 rfl (fun b8 => (show zyR _ _ _ _ [some (.ref (43 + 3)), some (.int x1), some (.int x2), some (.int x3), some (.int x4), some (.int x5)] [] _ _ from ?_)) (fun b8 => (show zyR _ _ _ _ [some (.ref (43 + 3)), some (.int x1), some (.int x2), some (.int x3), some (.int x4), some (.int x5)] [] _ _ from ?_))
  · replace h := zy_ifp h b8
    refine zy_3 rfl rfl (show zyR _ _ _ _ [some (.ref (43 + 3)), some (.int x1), some (.int x2), some (.int x3), some (.int x4), some (.int x5)] [.int (2 : Int32)] _ _ from ?_)
    refine zy_2 rfl rfl (show zyR _ _ _ _ [some (.ref (43 + 3)), some (.int x1), some (.int x2), some (.int x3), some (.int x4), some (.int x5)] [.int x3, .int (2 : Int32)] _ _ from ?_)
    refine zy_12 rfl (show zyR _ _ _ _ [some (.ref (43 + 3)), some (.int x1), some (.int x2), some (.int x3), some (.int x4), some (.int x5)] [.int ((2 : Int32) * x3)] _ _ from ?_)
    refine zy_2 rfl rfl (show zyR _ _ _ _ [some (.ref (43 + 3)), some (.int x1), some (.int x2), some (.int x3), some (.int x4), some (.int x5)] [.int x4, .int ((2 : Int32) * x3)] _ _ from ?_)
    refine zy_25_5 rfl (fun b2 => (show zyR _ _ _ _ [some (.ref (43 + 3)), some (.int x1), some (.int x2), some (.int x3), some (.int x4), some (.int x5)] [] _ _ from ?_)) (fun b2 => (show zyR _ _ _ _ [some (.ref (43 + 3)), some (.int x1), some (.int x2), some (.int x3), some (.int x4), some (.int x5)] [] _ _ from ?_))
    · replace h := zy_ifp h b2
      refine zy_3 rfl rfl (show zyR _ _ _ _ [some (.ref (43 + 3)), some (.int x1), some (.int x2), some (.int x3), some (.int x4), some (.int x5)] [.int (0 : Int32)] _ _ from ?_)
      cases h
      exact zy_4b rfl ⟨rfl, rfl⟩ (Or.inl rfl)
    · replace h := zy_ifn h b2
      refine zy_3 rfl rfl (show zyR _ _ _ _ [some (.ref (43 + 3)), some (.int x1), some (.int x2), some (.int x3), some (.int x4), some (.int x5)] [.int (1 : Int32)] _ _ from ?_)
      refine zy_6 rfl (show zyR _ _ _ _ [some (.ref (43 + 3)), some (.int x1), some (.int x2), some (.int x3), some (.int x4), some (.int x5)] [.int (1 : Int32)] _ _ from ?_)
      cases h
      exact zy_4b rfl ⟨rfl, rfl⟩ (Or.inr rfl)
  · replace h := zy_ifn h b8
    refine zy_2 rfl rfl (show zyR _ _ _ _ [some (.ref (43 + 3)), some (.int x1), some (.int x2), some (.int x3), some (.int x4), some (.int x5)] [.int x4] _ _ from ?_)
    refine zy_0 rfl rfl (show zyR _ _ _ _ [some (.ref (43 + 3)), some (.int x1), some (.int x2), some (.int x3), some (.int x4), some (.int x5)] [.ref (43 + 3), .int x4] _ _ from ?_)
    refine zy_1r (c := 43) rfl rfl rfl (show zyR _ _ _ _ [some (.ref (43 + 3)), some (.int x1), some (.int x2), some (.int x3), some (.int x4), some (.int x5)] [.ref (44 + 3), .int x4] _ _ from ?_)
    refine zy_3 rfl rfl (show zyR _ _ _ _ [some (.ref (43 + 3)), some (.int x1), some (.int x2), some (.int x3), some (.int x4), some (.int x5)] [.int (8 : Int32), .ref (44 + 3), .int x4] _ _ from ?_)
    refine zy_2 rfl rfl (show zyR _ _ _ _ [some (.ref (43 + 3)), some (.int x1), some (.int x2), some (.int x3), some (.int x4), some (.int x5)] [.int x5, .int (8 : Int32), .ref (44 + 3), .int x4] _ _ from ?_)
    refine zy_10 rfl (show zyR _ _ _ _ [some (.ref (43 + 3)), some (.int x1), some (.int x2), some (.int x3), some (.int x4), some (.int x5)] [.int ((8 : Int32) + x5), .ref (44 + 3), .int x4] _ _ from ?_)
    obtain ⟨c3, h⟩ := zy_if h
    refine zy_26 (c := 44) rfl rfl c3 (show zyR _ _ _ _ [some (.ref (43 + 3)), some (.int x1), some (.int x2), some (.int x3), some (.int x4), some (.int x5)] [.int (s.1 44 (((8 : Int32) + x5)).toNatClampNeg), .int x4] _ _ from ?_)
    refine zy_10 rfl (show zyR _ _ _ _ [some (.ref (43 + 3)), some (.int x1), some (.int x2), some (.int x3), some (.int x4), some (.int x5)] [.int (x4 + (s.1 44 (((8 : Int32) + x5)).toNatClampNeg))] _ _ from ?_)
    refine zy_23 rfl rfl (show zyR _ _ _ _ [some (.ref (43 + 3)), some (.int x1), some (.int x2), some (.int x3), some (.int (x4 + (s.1 44 (((8 : Int32) + x5)).toNatClampNeg))), some (.int x5)] [] _ _ from ?_)
    refine zy_2 rfl rfl (show zyR _ _ _ _ [some (.ref (43 + 3)), some (.int x1), some (.int x2), some (.int x3), some (.int (x4 + (s.1 44 (((8 : Int32) + x5)).toNatClampNeg))), some (.int x5)] [.int x3] _ _ from ?_)
    refine zy_0 rfl rfl (show zyR _ _ _ _ [some (.ref (43 + 3)), some (.int x1), some (.int x2), some (.int x3), some (.int (x4 + (s.1 44 (((8 : Int32) + x5)).toNatClampNeg))), some (.int x5)] [.ref (43 + 3), .int x3] _ _ from ?_)
    refine zy_2 rfl rfl (show zyR _ _ _ _ [some (.ref (43 + 3)), some (.int x1), some (.int x2), some (.int x3), some (.int (x4 + (s.1 44 (((8 : Int32) + x5)).toNatClampNeg))), some (.int x5)] [.int x5, .ref (43 + 3), .int x3] _ _ from ?_)
    refine zy_2 rfl rfl (show zyR _ _ _ _ [some (.ref (43 + 3)), some (.int x1), some (.int x2), some (.int x3), some (.int (x4 + (s.1 44 (((8 : Int32) + x5)).toNatClampNeg))), some (.int x5)] [.int x1, .int x5, .ref (43 + 3), .int x3] _ _ from ?_)
    obtain ⟨p4, hp4, h⟩ := zy_bind h
    refine zy_5 (c := 43) (as := [.int x5, .int x1]) (rest := [.int x3]) (L := [some (.ref (43 + 3)), some (.int x5), some (.int x1)]) (d' := 3) rfl rfl rfl (Nat.le_of_ble_eq_true rfl) (Nat.le_of_ble_eq_true rfl) rfl (Nat.le_of_ble_eq_true rfl) rfl rfl (zyC222 hp4) ?_
    show zyR _ _ _ _ [some (.ref (43 + 3)), some (.int x1), some (.int x2), some (.int x3), some (.int (x4 + (s.1 44 (((8 : Int32) + x5)).toNatClampNeg))), some (.int x5)] [.int p4.1, .int x3] _ _
    refine zy_24_0 rfl (fun b7 => (show zyR _ _ _ _ [some (.ref (43 + 3)), some (.int x1), some (.int x2), some (.int x3), some (.int (x4 + (s.1 44 (((8 : Int32) + x5)).toNatClampNeg))), some (.int x5)] [.int x3] _ _ from ?_)) (fun b7 => (show zyR _ _ _ _ [some (.ref (43 + 3)), some (.int x1), some (.int x2), some (.int x3), some (.int (x4 + (s.1 44 (((8 : Int32) + x5)).toNatClampNeg))), some (.int x5)] [.int x3] _ _ from ?_))
    · replace h := zy_ifp h b7
      exact zy_sub (show zy_le [some (.ref (43 + 3)), some (.int x1), some (.int x2), none, some (.int (x4 + (s.1 44 (((8 : Int32) + x5)).toNatClampNeg))), some (.int x5)] [some (.ref (43 + 3)), some (.int x1), some (.int x2), some (.int x3), some (.int (x4 + (s.1 44 (((8 : Int32) + x5)).toNatClampNeg))), some (.int x5)] from ⟨rfl, ⟨rfl, ⟨rfl, ⟨rfl, ⟨rfl, trivial⟩⟩⟩⟩⟩) (zyC221_52 hk8 h)
    · replace h := zy_ifn h b7
      refine zy_2 rfl rfl (show zyR _ _ _ _ [some (.ref (43 + 3)), some (.int x1), some (.int x2), some (.int x3), some (.int (x4 + (s.1 44 (((8 : Int32) + x5)).toNatClampNeg))), some (.int x5)] [.int x2, .int x3] _ _ from ?_)
      refine zy_2 rfl rfl (show zyR _ _ _ _ [some (.ref (43 + 3)), some (.int x1), some (.int x2), some (.int x3), some (.int (x4 + (s.1 44 (((8 : Int32) + x5)).toNatClampNeg))), some (.int x5)] [.int x5, .int x2, .int x3] _ _ from ?_)
      obtain ⟨p5, hp5, h⟩ := zy_bind h
      refine zy_60 (as := [.int x2, .int x5]) (rest := [.int x3]) (L := [some (.int x2), some (.int x5)]) (d' := 1) rfl rfl (Nat.le_of_ble_eq_true rfl) (Nat.le_of_ble_eq_true rfl) rfl (Nat.le_of_ble_eq_true rfl) rfl rfl (zyC208 hp5) ?_
      show zyR _ _ _ _ [some (.ref (43 + 3)), some (.int x1), some (.int x2), some (.int x3), some (.int (x4 + (s.1 44 (((8 : Int32) + x5)).toNatClampNeg))), some (.int x5)] [.int p5.1, .int x3] _ _
      refine zy_24_0 rfl (fun b6 => (show zyR _ _ _ _ [some (.ref (43 + 3)), some (.int x1), some (.int x2), some (.int x3), some (.int (x4 + (s.1 44 (((8 : Int32) + x5)).toNatClampNeg))), some (.int x5)] [.int x3] _ _ from ?_)) (fun b6 => (show zyR _ _ _ _ [some (.ref (43 + 3)), some (.int x1), some (.int x2), some (.int x3), some (.int (x4 + (s.1 44 (((8 : Int32) + x5)).toNatClampNeg))), some (.int x5)] [.int x3] _ _ from ?_))
      · replace h := zy_ifp h b6
        refine zy_3 rfl rfl (show zyR _ _ _ _ [some (.ref (43 + 3)), some (.int x1), some (.int x2), some (.int x3), some (.int (x4 + (s.1 44 (((8 : Int32) + x5)).toNatClampNeg))), some (.int x5)] [.int (0 : Int32), .int x3] _ _ from ?_)
        exact zy_sub (show zy_le [some (.ref (43 + 3)), some (.int x1), some (.int x2), none, some (.int (x4 + (s.1 44 (((8 : Int32) + x5)).toNatClampNeg))), some (.int x5)] [some (.ref (43 + 3)), some (.int x1), some (.int x2), some (.int x3), some (.int (x4 + (s.1 44 (((8 : Int32) + x5)).toNatClampNeg))), some (.int x5)] from ⟨rfl, ⟨rfl, ⟨rfl, ⟨rfl, ⟨rfl, trivial⟩⟩⟩⟩⟩) (zyC221_66 hk8 h)
      · replace h := zy_ifn h b6
        exact zy_sub (show zy_le [some (.ref (43 + 3)), some (.int x1), some (.int x2), none, some (.int (x4 + (s.1 44 (((8 : Int32) + x5)).toNatClampNeg))), some (.int x5)] [some (.ref (43 + 3)), some (.int x1), some (.int x2), some (.int x3), some (.int (x4 + (s.1 44 (((8 : Int32) + x5)).toNatClampNeg))), some (.int x5)] from ⟨rfl, ⟨rfl, ⟨rfl, ⟨rfl, ⟨rfl, trivial⟩⟩⟩⟩⟩) (zyC221_52 hk8 h)
noncomputable def zyF221_8   (n : Nat) : Int32 → Int32 → Int32 → Int32 → Int32 → zy_S → Option (Int32 × zy_S) := Nat.rec (fun _ _ _ _ _ _ => none) (fun _ k8 => zyF221_8b k8) n
theorem zyC221_8 {X : zx_X}     : ∀ (n : Nat) (x1 : Int32) (x2 : Int32) (x3 : Int32) (x4 : Int32) (x5 : Int32) (s : zy_S) (r : Int32) (s' : zy_S), zyF221_8 n x1 x2 x3 x4 x5 s = some (r, s') → zyR X 4 221 8 [some (.ref (43 + 3)), some (.int x1), some (.int x2), some (.int x3), some (.int x4), some (.int x5)] [] s (zyE (some (.int r)) s')
  | 0, _, _, _, _, _ => by
    intro s r s'  h
    have h : (none : Option (Int32 × zy_S)) = some (r, s') := h
    cases h
  | n + 1, x1, x2, x3, x4, x5 => by
    intro s r s'  h
    exact zyC221_8b (k8 := zyF221_8 n) (fun x1 x2 x3 x4 x5 s r s'  h => zyC221_8  n x1 x2 x3 x4 x5 s r s'  h) h
noncomputable def zyF221   (x1 : Int32) (x2 : Int32) (s : zy_S) : Option (Int32 × zy_S) :=
zyF221_8 zy_fu x1 x2 (0 : Int32) (0 : Int32) (0 : Int32) s
theorem zyC221 {X : zx_X}     {x1 : Int32} {x2 : Int32} {s : zy_S} {r : Int32} {s' : zy_S}  (h : zyF221 x1 x2 s = some (r, s')) : zyR X 4 221 0 [some (.ref (43 + 3)), some (.int x1), some (.int x2), none, none, none] [] s (zyE (some (.int r)) s') := by
  unfold zyF221 at h
  refine zy_3 rfl rfl (show zyR _ _ _ _ [some (.ref (43 + 3)), some (.int x1), some (.int x2), none, none, none] [.int (0 : Int32)] _ _ from ?_)
  refine zy_23 rfl rfl (show zyR _ _ _ _ [some (.ref (43 + 3)), some (.int x1), some (.int x2), some (.int (0 : Int32)), none, none] [] _ _ from ?_)
  refine zy_3 rfl rfl (show zyR _ _ _ _ [some (.ref (43 + 3)), some (.int x1), some (.int x2), some (.int (0 : Int32)), none, none] [.int (0 : Int32)] _ _ from ?_)
  refine zy_23 rfl rfl (show zyR _ _ _ _ [some (.ref (43 + 3)), some (.int x1), some (.int x2), some (.int (0 : Int32)), some (.int (0 : Int32)), none] [] _ _ from ?_)
  refine zy_3 rfl rfl (show zyR _ _ _ _ [some (.ref (43 + 3)), some (.int x1), some (.int x2), some (.int (0 : Int32)), some (.int (0 : Int32)), none] [.int (0 : Int32)] _ _ from ?_)
  refine zy_23 rfl rfl (show zyR _ _ _ _ [some (.ref (43 + 3)), some (.int x1), some (.int x2), some (.int (0 : Int32)), some (.int (0 : Int32)), some (.int (0 : Int32))] [] _ _ from ?_)
  exact zy_sub (show zy_le [some (.ref (43 + 3)), some (.int x1), some (.int x2), some (.int (0 : Int32)), some (.int (0 : Int32)), some (.int (0 : Int32))] [some (.ref (43 + 3)), some (.int x1), some (.int x2), some (.int (0 : Int32)), some (.int (0 : Int32)), some (.int (0 : Int32))] from ⟨rfl, ⟨rfl, ⟨rfl, ⟨rfl, ⟨rfl, ⟨rfl, trivial⟩⟩⟩⟩⟩⟩) (zyC221_8 zy_fu x1 x2 (0 : Int32) (0 : Int32) (0 : Int32) s _ _ h)
/-! NineOpinionsModel.believers(I)I -/
noncomputable def zyF223_29  (k4 : Int32 → Int32 → Int32 → zy_S → Option (Int32 × zy_S)) (x1 : Int32) (x3 : Int32) (y0 : Int32) (y1 : Int32) (s : zy_S) : Option (Int32 × zy_S) :=
k4 x1 (y1 ||| y0) (x3 + (1 : Int32)) s
theorem zyC223_29 {X : zx_X}  {k4 : Int32 → Int32 → Int32 → zy_S → Option (Int32 × zy_S)}  (hk4 : ∀ (x1 : Int32) (x2 : Int32) (x3 : Int32) (s : zy_S) (r : Int32) (s' : zy_S), k4 x1 x2 x3 s = some (r, s') → zyR X 4 223 4 [some (.ref (43 + 3)), some (.int x1), some (.int x2), some (.int x3)] [] s (zyE (some (.int r)) s')) {x1 : Int32} {x3 : Int32} {y0 : Int32} {y1 : Int32} {s : zy_S} {r : Int32} {s' : zy_S}  (h : zyF223_29 k4 x1 x3 y0 y1 s = some (r, s')) : zyR X 4 223 29 [some (.ref (43 + 3)), some (.int x1), none, some (.int x3)] [.int y0, .int y1] s (zyE (some (.int r)) s') := by
  unfold zyF223_29 at h
  refine zy_14 rfl (show zyR _ _ _ _ [some (.ref (43 + 3)), some (.int x1), none, some (.int x3)] [.int (y1 ||| y0)] _ _ from ?_)
  refine zy_23 rfl rfl (show zyR _ _ _ _ [some (.ref (43 + 3)), some (.int x1), some (.int (y1 ||| y0)), some (.int x3)] [] _ _ from ?_)
  refine zy_22 rfl rfl rfl rfl (show zyR _ _ _ _ [some (.ref (43 + 3)), some (.int x1), some (.int (y1 ||| y0)), some (.int (x3 + (1 : Int32)))] [] _ _ from ?_)
  refine zy_6 rfl (show zyR _ _ _ _ [some (.ref (43 + 3)), some (.int x1), some (.int (y1 ||| y0)), some (.int (x3 + (1 : Int32)))] [] _ _ from ?_)
  exact zy_sub (show zy_le [some (.ref (43 + 3)), some (.int x1), some (.int (y1 ||| y0)), some (.int (x3 + (1 : Int32)))] [some (.ref (43 + 3)), some (.int x1), some (.int (y1 ||| y0)), some (.int (x3 + (1 : Int32)))] from ⟨rfl, ⟨rfl, ⟨rfl, ⟨rfl, trivial⟩⟩⟩⟩) (hk4 x1 (y1 ||| y0) (x3 + (1 : Int32)) s _ _ h)
noncomputable def zyF223_4b  (k4 : Int32 → Int32 → Int32 → zy_S → Option (Int32 × zy_S)) (x1 : Int32) (x2 : Int32) (x3 : Int32) (s : zy_S) : Option (Int32 × zy_S) :=
if (s.1 43 6) ≤ x3 then
some (x2, s)
else
(zyF222 x3 x1 s).bind fun p1 =>
if p1.1 = 0 then
zyF223_29 k4 x1 x3 (0 : Int32) x2 p1.2
else
zyF223_29 k4 x1 x3 ((1 : Int32) <<< (x3 &&& 31)) x2 p1.2
theorem zyC223_4b {X : zx_X}  {k4 : Int32 → Int32 → Int32 → zy_S → Option (Int32 × zy_S)}  (hk4 : ∀ (x1 : Int32) (x2 : Int32) (x3 : Int32) (s : zy_S) (r : Int32) (s' : zy_S), k4 x1 x2 x3 s = some (r, s') → zyR X 4 223 4 [some (.ref (43 + 3)), some (.int x1), some (.int x2), some (.int x3)] [] s (zyE (some (.int r)) s')) {x1 : Int32} {x2 : Int32} {x3 : Int32} {s : zy_S} {r : Int32} {s' : zy_S}  (h : zyF223_4b k4 x1 x2 x3 s = some (r, s')) : zyR X 4 223 4 [some (.ref (43 + 3)), some (.int x1), some (.int x2), some (.int x3)] [] s (zyE (some (.int r)) s') := by
  unfold zyF223_4b at h
  refine zy_2 rfl rfl (show zyR _ _ _ _ [some (.ref (43 + 3)), some (.int x1), some (.int x2), some (.int x3)] [.int x3] _ _ from ?_)
  refine zy_0 rfl rfl (show zyR _ _ _ _ [some (.ref (43 + 3)), some (.int x1), some (.int x2), some (.int x3)] [.ref (43 + 3), .int x3] _ _ from ?_)
  refine zy_1 (c := 43) rfl rfl rfl (show zyR _ _ _ _ [some (.ref (43 + 3)), some (.int x1), some (.int x2), some (.int x3)] [.int (s.1 43 6), .int x3] _ _ from ?_)
  refine zy_25_3 rfl (fun b3 => (show zyR _ _ _ _ [some (.ref (43 + 3)), some (.int x1), some (.int x2), some (.int x3)] [] _ _ from ?_)) (fun b3 => (show zyR _ _ _ _ [some (.ref (43 + 3)), some (.int x1), some (.int x2), some (.int x3)] [] _ _ from ?_))
  · replace h := zy_ifp h b3
    refine zy_2 rfl rfl (show zyR _ _ _ _ [some (.ref (43 + 3)), some (.int x1), some (.int x2), some (.int x3)] [.int x2] _ _ from ?_)
    obtain ⟨rfl, rfl⟩ := zy_pi h
    exact zy_4 rfl ⟨rfl, rfl⟩
  · replace h := zy_ifn h b3
    refine zy_2 rfl rfl (show zyR _ _ _ _ [some (.ref (43 + 3)), some (.int x1), some (.int x2), some (.int x3)] [.int x2] _ _ from ?_)
    refine zy_0 rfl rfl (show zyR _ _ _ _ [some (.ref (43 + 3)), some (.int x1), some (.int x2), some (.int x3)] [.ref (43 + 3), .int x2] _ _ from ?_)
    refine zy_2 rfl rfl (show zyR _ _ _ _ [some (.ref (43 + 3)), some (.int x1), some (.int x2), some (.int x3)] [.int x3, .ref (43 + 3), .int x2] _ _ from ?_)
    refine zy_2 rfl rfl (show zyR _ _ _ _ [some (.ref (43 + 3)), some (.int x1), some (.int x2), some (.int x3)] [.int x1, .int x3, .ref (43 + 3), .int x2] _ _ from ?_)
    obtain ⟨p1, hp1, h⟩ := zy_bind h
    refine zy_5 (c := 43) (as := [.int x3, .int x1]) (rest := [.int x2]) (L := [some (.ref (43 + 3)), some (.int x3), some (.int x1)]) (d' := 3) rfl rfl rfl (Nat.le_of_ble_eq_true rfl) (Nat.le_of_ble_eq_true rfl) rfl (Nat.le_of_ble_eq_true rfl) rfl rfl (zyC222 hp1) ?_
    show zyR _ _ _ _ [some (.ref (43 + 3)), some (.int x1), some (.int x2), some (.int x3)] [.int p1.1, .int x2] _ _
    refine zy_24_0 rfl (fun b2 => (show zyR _ _ _ _ [some (.ref (43 + 3)), some (.int x1), some (.int x2), some (.int x3)] [.int x2] _ _ from ?_)) (fun b2 => (show zyR _ _ _ _ [some (.ref (43 + 3)), some (.int x1), some (.int x2), some (.int x3)] [.int x2] _ _ from ?_))
    · replace h := zy_ifp h b2
      refine zy_3 rfl rfl (show zyR _ _ _ _ [some (.ref (43 + 3)), some (.int x1), some (.int x2), some (.int x3)] [.int (0 : Int32), .int x2] _ _ from ?_)
      exact zy_sub (show zy_le [some (.ref (43 + 3)), some (.int x1), none, some (.int x3)] [some (.ref (43 + 3)), some (.int x1), some (.int x2), some (.int x3)] from ⟨rfl, ⟨rfl, ⟨rfl, trivial⟩⟩⟩) (zyC223_29 hk4 h)
    · replace h := zy_ifn h b2
      refine zy_3 rfl rfl (show zyR _ _ _ _ [some (.ref (43 + 3)), some (.int x1), some (.int x2), some (.int x3)] [.int (1 : Int32), .int x2] _ _ from ?_)
      refine zy_2 rfl rfl (show zyR _ _ _ _ [some (.ref (43 + 3)), some (.int x1), some (.int x2), some (.int x3)] [.int x3, .int (1 : Int32), .int x2] _ _ from ?_)
      refine zy_16 rfl (show zyR _ _ _ _ [some (.ref (43 + 3)), some (.int x1), some (.int x2), some (.int x3)] [.int ((1 : Int32) <<< (x3 &&& 31)), .int x2] _ _ from ?_)
      refine zy_6 rfl (show zyR _ _ _ _ [some (.ref (43 + 3)), some (.int x1), some (.int x2), some (.int x3)] [.int ((1 : Int32) <<< (x3 &&& 31)), .int x2] _ _ from ?_)
      exact zy_sub (show zy_le [some (.ref (43 + 3)), some (.int x1), none, some (.int x3)] [some (.ref (43 + 3)), some (.int x1), some (.int x2), some (.int x3)] from ⟨rfl, ⟨rfl, ⟨rfl, trivial⟩⟩⟩) (zyC223_29 hk4 h)
noncomputable def zyF223_4   (n : Nat) : Int32 → Int32 → Int32 → zy_S → Option (Int32 × zy_S) := Nat.rec (fun _ _ _ _ => none) (fun _ k4 => zyF223_4b k4) n
theorem zyC223_4 {X : zx_X}     : ∀ (n : Nat) (x1 : Int32) (x2 : Int32) (x3 : Int32) (s : zy_S) (r : Int32) (s' : zy_S), zyF223_4 n x1 x2 x3 s = some (r, s') → zyR X 4 223 4 [some (.ref (43 + 3)), some (.int x1), some (.int x2), some (.int x3)] [] s (zyE (some (.int r)) s')
  | 0, _, _, _ => by
    intro s r s'  h
    have h : (none : Option (Int32 × zy_S)) = some (r, s') := h
    cases h
  | n + 1, x1, x2, x3 => by
    intro s r s'  h
    exact zyC223_4b (k4 := zyF223_4 n) (fun x1 x2 x3 s r s'  h => zyC223_4  n x1 x2 x3 s r s'  h) h
noncomputable def zyF223   (x1 : Int32) (s : zy_S) : Option (Int32 × zy_S) :=
zyF223_4 zy_fu x1 (0 : Int32) (0 : Int32) s
theorem zyC223 {X : zx_X}     {x1 : Int32} {s : zy_S} {r : Int32} {s' : zy_S}  (h : zyF223 x1 s = some (r, s')) : zyR X 4 223 0 [some (.ref (43 + 3)), some (.int x1), none, none] [] s (zyE (some (.int r)) s') := by
  unfold zyF223 at h
  refine zy_3 rfl rfl (show zyR _ _ _ _ [some (.ref (43 + 3)), some (.int x1), none, none] [.int (0 : Int32)] _ _ from ?_)
  refine zy_23 rfl rfl (show zyR _ _ _ _ [some (.ref (43 + 3)), some (.int x1), some (.int (0 : Int32)), none] [] _ _ from ?_)
  refine zy_3 rfl rfl (show zyR _ _ _ _ [some (.ref (43 + 3)), some (.int x1), some (.int (0 : Int32)), none] [.int (0 : Int32)] _ _ from ?_)
  refine zy_23 rfl rfl (show zyR _ _ _ _ [some (.ref (43 + 3)), some (.int x1), some (.int (0 : Int32)), some (.int (0 : Int32))] [] _ _ from ?_)
  exact zy_sub (show zy_le [some (.ref (43 + 3)), some (.int x1), some (.int (0 : Int32)), some (.int (0 : Int32))] [some (.ref (43 + 3)), some (.int x1), some (.int (0 : Int32)), some (.int (0 : Int32))] from ⟨rfl, ⟨rfl, ⟨rfl, ⟨rfl, trivial⟩⟩⟩⟩) (zyC223_4 zy_fu x1 (0 : Int32) (0 : Int32) s _ _ h)
