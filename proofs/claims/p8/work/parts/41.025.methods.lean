/-! PART 41.25: methods as functions. Made by wip/v4/dcp.py. -/
/-! NineOpinionsModel.image()I -/
noncomputable def zyF245_80b  (k80 : Int32 → zy_S → Option (Int32 × zy_S)) (x1 : Int32) (s : zy_S) : Option (Int32 × zy_S) :=
if (5 : Int32) ≤ x1 then
(zyF209 (s.1 43 7) s).bind fun p1 =>
some (p1.1, p1.2)
else
if zy_in x1 5 then
if zy_in x1 5 then
k80 (x1 + (1 : Int32)) (zy_up s 57 (x1).toNatClampNeg (s.1 54 (x1).toNatClampNeg))
else none
else none
theorem zyC245_80b {X : zx_X}  {k80 : Int32 → zy_S → Option (Int32 × zy_S)}  (hk80 : ∀ (x1 : Int32) (s : zy_S) (r : Int32) (s' : zy_S), k80 x1 s = some (r, s') → zyR X 2 245 80 [some (.ref (43 + 3)), some (.int x1)] [] s (zyE (some (.int r)) s')) {x1 : Int32} {s : zy_S} {r : Int32} {s' : zy_S}  (h : zyF245_80b k80 x1 s = some (r, s')) : zyR X 2 245 80 [some (.ref (43 + 3)), some (.int x1)] [] s (zyE (some (.int r)) s') := by
  unfold zyF245_80b at h
  refine zy_2 rfl rfl (show zyR _ _ _ _ [some (.ref (43 + 3)), some (.int x1)] [.int x1] _ _ from ?_)
  refine zy_3 rfl rfl (show zyR _ _ _ _ [some (.ref (43 + 3)), some (.int x1)] [.int (5 : Int32), .int x1] _ _ from ?_)
  refine zy_25_3 rfl (fun b4 => (show zyR _ _ _ _ [some (.ref (43 + 3)), some (.int x1)] [] _ _ from ?_)) (fun b4 => (show zyR _ _ _ _ [some (.ref (43 + 3)), some (.int x1)] [] _ _ from ?_))
  · replace h := zy_ifp h b4
    refine zy_0 rfl rfl (show zyR _ _ _ _ [some (.ref (43 + 3)), some (.int x1)] [.ref (43 + 3)] _ _ from ?_)
    refine zy_1 (c := 43) rfl rfl rfl (show zyR _ _ _ _ [some (.ref (43 + 3)), some (.int x1)] [.int (s.1 43 7)] _ _ from ?_)
    obtain ⟨p1, hp1, h⟩ := zy_bind h
    refine zy_60 (as := [.int (s.1 43 7)]) (rest := []) (L := [some (.int (s.1 43 7)), none, none]) (d' := 1) rfl rfl (Nat.le_of_ble_eq_true rfl) (Nat.le_of_ble_eq_true rfl) rfl (Nat.le_of_ble_eq_true rfl) rfl rfl (zyC209 hp1) ?_
    show zyR _ _ _ _ [some (.ref (43 + 3)), some (.int x1)] [.int p1.1] _ _
    obtain ⟨rfl, rfl⟩ := zy_pi h
    exact zy_4 rfl ⟨rfl, rfl⟩
  · replace h := zy_ifn h b4
    refine zy_0 rfl rfl (show zyR _ _ _ _ [some (.ref (43 + 3)), some (.int x1)] [.ref (43 + 3)] _ _ from ?_)
    refine zy_1r (c := 43) rfl rfl rfl (show zyR _ _ _ _ [some (.ref (43 + 3)), some (.int x1)] [.ref (57 + 3)] _ _ from ?_)
    refine zy_2 rfl rfl (show zyR _ _ _ _ [some (.ref (43 + 3)), some (.int x1)] [.int x1, .ref (57 + 3)] _ _ from ?_)
    refine zy_0 rfl rfl (show zyR _ _ _ _ [some (.ref (43 + 3)), some (.int x1)] [.ref (43 + 3), .int x1, .ref (57 + 3)] _ _ from ?_)
    refine zy_1r (c := 43) rfl rfl rfl (show zyR _ _ _ _ [some (.ref (43 + 3)), some (.int x1)] [.ref (54 + 3), .int x1, .ref (57 + 3)] _ _ from ?_)
    refine zy_2 rfl rfl (show zyR _ _ _ _ [some (.ref (43 + 3)), some (.int x1)] [.int x1, .ref (54 + 3), .int x1, .ref (57 + 3)] _ _ from ?_)
    obtain ⟨c2, h⟩ := zy_if h
    refine zy_26 (c := 54) rfl rfl c2 (show zyR _ _ _ _ [some (.ref (43 + 3)), some (.int x1)] [.int (s.1 54 (x1).toNatClampNeg), .int x1, .ref (57 + 3)] _ _ from ?_)
    obtain ⟨c3, h⟩ := zy_if h
    refine zy_27 (c := 57) rfl rfl c3 (show zyR _ _ _ _ [some (.ref (43 + 3)), some (.int x1)] [] _ _ from ?_)
    refine zy_22 rfl rfl rfl rfl (show zyR _ _ _ _ [some (.ref (43 + 3)), some (.int (x1 + (1 : Int32)))] [] _ _ from ?_)
    refine zy_6 rfl (show zyR _ _ _ _ [some (.ref (43 + 3)), some (.int (x1 + (1 : Int32)))] [] _ _ from ?_)
    exact zy_sub (show zy_le [some (.ref (43 + 3)), some (.int (x1 + (1 : Int32)))] [some (.ref (43 + 3)), some (.int (x1 + (1 : Int32)))] from ⟨rfl, ⟨rfl, trivial⟩⟩) (hk80 (x1 + (1 : Int32)) (zy_up s 57 (x1).toNatClampNeg (s.1 54 (x1).toNatClampNeg)) _ _ h)
noncomputable def zyF245_80   (n : Nat) : Int32 → zy_S → Option (Int32 × zy_S) := Nat.rec (fun _ _ => none) (fun _ k80 => zyF245_80b k80) n
theorem zyC245_80 {X : zx_X}     : ∀ (n : Nat) (x1 : Int32) (s : zy_S) (r : Int32) (s' : zy_S), zyF245_80 n x1 s = some (r, s') → zyR X 2 245 80 [some (.ref (43 + 3)), some (.int x1)] [] s (zyE (some (.int r)) s')
  | 0, _ => by
    intro s r s'  h
    have h : (none : Option (Int32 × zy_S)) = some (r, s') := h
    cases h
  | n + 1, x1 => by
    intro s r s'  h
    exact zyC245_80b (k80 := zyF245_80 n) (fun x1 s r s'  h => zyC245_80  n x1 s r s'  h) h
noncomputable def zyF245_51b  (k51 : Int32 → zy_S → Option (Int32 × zy_S)) (x1 : Int32) (s : zy_S) : Option (Int32 × zy_S) :=
if (24 : Int32) ≤ x1 then
zyF245_80 zy_fu (0 : Int32) s
else
if zy_in ((16 : Int32) + x1) 41 then
if zy_in x1 24 then
k51 (x1 + (1 : Int32)) (zy_up s 56 (x1).toNatClampNeg (s.1 44 (((16 : Int32) + x1)).toNatClampNeg))
else none
else none
theorem zyC245_51b {X : zx_X}  {k51 : Int32 → zy_S → Option (Int32 × zy_S)}  (hk51 : ∀ (x1 : Int32) (s : zy_S) (r : Int32) (s' : zy_S), k51 x1 s = some (r, s') → zyR X 2 245 51 [some (.ref (43 + 3)), some (.int x1)] [] s (zyE (some (.int r)) s')) {x1 : Int32} {s : zy_S} {r : Int32} {s' : zy_S}  (h : zyF245_51b k51 x1 s = some (r, s')) : zyR X 2 245 51 [some (.ref (43 + 3)), some (.int x1)] [] s (zyE (some (.int r)) s') := by
  unfold zyF245_51b at h
  refine zy_2 rfl rfl (show zyR _ _ _ _ [some (.ref (43 + 3)), some (.int x1)] [.int x1] _ _ from ?_)
  refine zy_3 rfl rfl (show zyR _ _ _ _ [some (.ref (43 + 3)), some (.int x1)] [.int (24 : Int32), .int x1] _ _ from ?_)
  refine zy_25_3 rfl (fun b7 => (show zyR _ _ _ _ [some (.ref (43 + 3)), some (.int x1)] [] _ _ from ?_)) (fun b7 => (show zyR _ _ _ _ [some (.ref (43 + 3)), some (.int x1)] [] _ _ from ?_))
  · replace h := zy_ifp h b7
    refine zy_3 rfl rfl (show zyR _ _ _ _ [some (.ref (43 + 3)), some (.int x1)] [.int (0 : Int32)] _ _ from ?_)
    refine zy_23 rfl rfl (show zyR _ _ _ _ [some (.ref (43 + 3)), some (.int (0 : Int32))] [] _ _ from ?_)
    exact zy_sub (show zy_le [some (.ref (43 + 3)), some (.int (0 : Int32))] [some (.ref (43 + 3)), some (.int (0 : Int32))] from ⟨rfl, ⟨rfl, trivial⟩⟩) (zyC245_80 zy_fu (0 : Int32) s _ _ h)
  · replace h := zy_ifn h b7
    refine zy_0 rfl rfl (show zyR _ _ _ _ [some (.ref (43 + 3)), some (.int x1)] [.ref (43 + 3)] _ _ from ?_)
    refine zy_1r (c := 43) rfl rfl rfl (show zyR _ _ _ _ [some (.ref (43 + 3)), some (.int x1)] [.ref (56 + 3)] _ _ from ?_)
    refine zy_2 rfl rfl (show zyR _ _ _ _ [some (.ref (43 + 3)), some (.int x1)] [.int x1, .ref (56 + 3)] _ _ from ?_)
    refine zy_0 rfl rfl (show zyR _ _ _ _ [some (.ref (43 + 3)), some (.int x1)] [.ref (43 + 3), .int x1, .ref (56 + 3)] _ _ from ?_)
    refine zy_1r (c := 43) rfl rfl rfl (show zyR _ _ _ _ [some (.ref (43 + 3)), some (.int x1)] [.ref (44 + 3), .int x1, .ref (56 + 3)] _ _ from ?_)
    refine zy_3 rfl rfl (show zyR _ _ _ _ [some (.ref (43 + 3)), some (.int x1)] [.int (16 : Int32), .ref (44 + 3), .int x1, .ref (56 + 3)] _ _ from ?_)
    refine zy_2 rfl rfl (show zyR _ _ _ _ [some (.ref (43 + 3)), some (.int x1)] [.int x1, .int (16 : Int32), .ref (44 + 3), .int x1, .ref (56 + 3)] _ _ from ?_)
    refine zy_10 rfl (show zyR _ _ _ _ [some (.ref (43 + 3)), some (.int x1)] [.int ((16 : Int32) + x1), .ref (44 + 3), .int x1, .ref (56 + 3)] _ _ from ?_)
    obtain ⟨c5, h⟩ := zy_if h
    refine zy_26 (c := 44) rfl rfl c5 (show zyR _ _ _ _ [some (.ref (43 + 3)), some (.int x1)] [.int (s.1 44 (((16 : Int32) + x1)).toNatClampNeg), .int x1, .ref (56 + 3)] _ _ from ?_)
    obtain ⟨c6, h⟩ := zy_if h
    refine zy_27 (c := 56) rfl rfl c6 (show zyR _ _ _ _ [some (.ref (43 + 3)), some (.int x1)] [] _ _ from ?_)
    refine zy_22 rfl rfl rfl rfl (show zyR _ _ _ _ [some (.ref (43 + 3)), some (.int (x1 + (1 : Int32)))] [] _ _ from ?_)
    refine zy_6 rfl (show zyR _ _ _ _ [some (.ref (43 + 3)), some (.int (x1 + (1 : Int32)))] [] _ _ from ?_)
    exact zy_sub (show zy_le [some (.ref (43 + 3)), some (.int (x1 + (1 : Int32)))] [some (.ref (43 + 3)), some (.int (x1 + (1 : Int32)))] from ⟨rfl, ⟨rfl, trivial⟩⟩) (hk51 (x1 + (1 : Int32)) (zy_up s 56 (x1).toNatClampNeg (s.1 44 (((16 : Int32) + x1)).toNatClampNeg)) _ _ h)
noncomputable def zyF245_51   (n : Nat) : Int32 → zy_S → Option (Int32 × zy_S) := Nat.rec (fun _ _ => none) (fun _ k51 => zyF245_51b k51) n
theorem zyC245_51 {X : zx_X}     : ∀ (n : Nat) (x1 : Int32) (s : zy_S) (r : Int32) (s' : zy_S), zyF245_51 n x1 s = some (r, s') → zyR X 2 245 51 [some (.ref (43 + 3)), some (.int x1)] [] s (zyE (some (.int r)) s')
  | 0, _ => by
    intro s r s'  h
    have h : (none : Option (Int32 × zy_S)) = some (r, s') := h
    cases h
  | n + 1, x1 => by
    intro s r s'  h
    exact zyC245_51b (k51 := zyF245_51 n) (fun x1 s r s'  h => zyC245_51  n x1 s r s'  h) h
noncomputable def zyF245_23b  (k23 : Int32 → zy_S → Option (Int32 × zy_S)) (x1 : Int32) (s : zy_S) : Option (Int32 × zy_S) :=
if (s.1 43 6) ≤ x1 then
zyF245_51 zy_fu (0 : Int32) s
else
if zy_in x1 41 then
if zy_in x1 8 then
k23 (x1 + (1 : Int32)) (zy_up s 55 (x1).toNatClampNeg (s.1 44 (x1).toNatClampNeg))
else none
else none
theorem zyC245_23b {X : zx_X}  {k23 : Int32 → zy_S → Option (Int32 × zy_S)}  (hk23 : ∀ (x1 : Int32) (s : zy_S) (r : Int32) (s' : zy_S), k23 x1 s = some (r, s') → zyR X 2 245 23 [some (.ref (43 + 3)), some (.int x1)] [] s (zyE (some (.int r)) s')) {x1 : Int32} {s : zy_S} {r : Int32} {s' : zy_S}  (h : zyF245_23b k23 x1 s = some (r, s')) : zyR X 2 245 23 [some (.ref (43 + 3)), some (.int x1)] [] s (zyE (some (.int r)) s') := by
  unfold zyF245_23b at h
  refine zy_2 rfl rfl (show zyR _ _ _ _ [some (.ref (43 + 3)), some (.int x1)] [.int x1] _ _ from ?_)
  refine zy_0 rfl rfl (show zyR _ _ _ _ [some (.ref (43 + 3)), some (.int x1)] [.ref (43 + 3), .int x1] _ _ from ?_)
  refine zy_1 (c := 43) rfl rfl rfl (show zyR _ _ _ _ [some (.ref (43 + 3)), some (.int x1)] [.int (s.1 43 6), .int x1] _ _ from ?_)
  refine zy_25_3 rfl (fun b10 => (show zyR _ _ _ _ [some (.ref (43 + 3)), some (.int x1)] [] _ _ from ?_)) (fun b10 => (show zyR _ _ _ _ [some (.ref (43 + 3)), some (.int x1)] [] _ _ from ?_))
  · replace h := zy_ifp h b10
    refine zy_3 rfl rfl (show zyR _ _ _ _ [some (.ref (43 + 3)), some (.int x1)] [.int (0 : Int32)] _ _ from ?_)
    refine zy_23 rfl rfl (show zyR _ _ _ _ [some (.ref (43 + 3)), some (.int (0 : Int32))] [] _ _ from ?_)
    exact zy_sub (show zy_le [some (.ref (43 + 3)), some (.int (0 : Int32))] [some (.ref (43 + 3)), some (.int (0 : Int32))] from ⟨rfl, ⟨rfl, trivial⟩⟩) (zyC245_51 zy_fu (0 : Int32) s _ _ h)
  · replace h := zy_ifn h b10
    refine zy_0 rfl rfl (show zyR _ _ _ _ [some (.ref (43 + 3)), some (.int x1)] [.ref (43 + 3)] _ _ from ?_)
    refine zy_1r (c := 43) rfl rfl rfl (show zyR _ _ _ _ [some (.ref (43 + 3)), some (.int x1)] [.ref (55 + 3)] _ _ from ?_)
    refine zy_2 rfl rfl (show zyR _ _ _ _ [some (.ref (43 + 3)), some (.int x1)] [.int x1, .ref (55 + 3)] _ _ from ?_)
    refine zy_0 rfl rfl (show zyR _ _ _ _ [some (.ref (43 + 3)), some (.int x1)] [.ref (43 + 3), .int x1, .ref (55 + 3)] _ _ from ?_)
    refine zy_1r (c := 43) rfl rfl rfl (show zyR _ _ _ _ [some (.ref (43 + 3)), some (.int x1)] [.ref (44 + 3), .int x1, .ref (55 + 3)] _ _ from ?_)
    refine zy_2 rfl rfl (show zyR _ _ _ _ [some (.ref (43 + 3)), some (.int x1)] [.int x1, .ref (44 + 3), .int x1, .ref (55 + 3)] _ _ from ?_)
    obtain ⟨c8, h⟩ := zy_if h
    refine zy_26 (c := 44) rfl rfl c8 (show zyR _ _ _ _ [some (.ref (43 + 3)), some (.int x1)] [.int (s.1 44 (x1).toNatClampNeg), .int x1, .ref (55 + 3)] _ _ from ?_)
    obtain ⟨c9, h⟩ := zy_if h
    refine zy_27 (c := 55) rfl rfl c9 (show zyR _ _ _ _ [some (.ref (43 + 3)), some (.int x1)] [] _ _ from ?_)
    refine zy_22 rfl rfl rfl rfl (show zyR _ _ _ _ [some (.ref (43 + 3)), some (.int (x1 + (1 : Int32)))] [] _ _ from ?_)
    refine zy_6 rfl (show zyR _ _ _ _ [some (.ref (43 + 3)), some (.int (x1 + (1 : Int32)))] [] _ _ from ?_)
    exact zy_sub (show zy_le [some (.ref (43 + 3)), some (.int (x1 + (1 : Int32)))] [some (.ref (43 + 3)), some (.int (x1 + (1 : Int32)))] from ⟨rfl, ⟨rfl, trivial⟩⟩) (hk23 (x1 + (1 : Int32)) (zy_up s 55 (x1).toNatClampNeg (s.1 44 (x1).toNatClampNeg)) _ _ h)
noncomputable def zyF245_23   (n : Nat) : Int32 → zy_S → Option (Int32 × zy_S) := Nat.rec (fun _ _ => none) (fun _ k23 => zyF245_23b k23) n
theorem zyC245_23 {X : zx_X}     : ∀ (n : Nat) (x1 : Int32) (s : zy_S) (r : Int32) (s' : zy_S), zyF245_23 n x1 s = some (r, s') → zyR X 2 245 23 [some (.ref (43 + 3)), some (.int x1)] [] s (zyE (some (.int r)) s')
  | 0, _ => by
    intro s r s'  h
    have h : (none : Option (Int32 × zy_S)) = some (r, s') := h
    cases h
  | n + 1, x1 => by
    intro s r s'  h
    exact zyC245_23b (k23 := zyF245_23 n) (fun x1 s r s'  h => zyC245_23  n x1 s r s'  h) h
noncomputable def zyF245    (s : zy_S) : Option (Int32 × zy_S) :=
zyF245_23 zy_fu (0 : Int32) (zy_up (zy_up (zy_up s 43 22 (1 : Int32)) 43 23 (s.1 43 6)) 43 24 (s.1 43 7))
theorem zyC245 {X : zx_X}      {s : zy_S} {r : Int32} {s' : zy_S}  (h : zyF245 s = some (r, s')) : zyR X 2 245 0 [some (.ref (43 + 3)), none] [] s (zyE (some (.int r)) s') := by
  unfold zyF245 at h
  refine zy_0 rfl rfl (show zyR _ _ _ _ [some (.ref (43 + 3)), none] [.ref (43 + 3)] _ _ from ?_)
  refine zy_3 rfl rfl (show zyR _ _ _ _ [some (.ref (43 + 3)), none] [.int (1 : Int32), .ref (43 + 3)] _ _ from ?_)
  refine zy_52b (c := 43) rfl rfl rfl (Or.inr rfl) (show zyR _ _ _ _ [some (.ref (43 + 3)), none] [] _ _ from ?_)
  refine zy_0 rfl rfl (show zyR _ _ _ _ [some (.ref (43 + 3)), none] [.ref (43 + 3)] _ _ from ?_)
  refine zy_0 rfl rfl (show zyR _ _ _ _ [some (.ref (43 + 3)), none] [.ref (43 + 3), .ref (43 + 3)] _ _ from ?_)
  refine zy_1 (c := 43) rfl rfl rfl (show zyR _ _ _ _ [some (.ref (43 + 3)), none] [.int (s.1 43 6), .ref (43 + 3)] _ _ from ?_)
  refine zy_52 (c := 43) rfl rfl rfl (show zyR _ _ _ _ [some (.ref (43 + 3)), none] [] _ _ from ?_)
  refine zy_0 rfl rfl (show zyR _ _ _ _ [some (.ref (43 + 3)), none] [.ref (43 + 3)] _ _ from ?_)
  refine zy_0 rfl rfl (show zyR _ _ _ _ [some (.ref (43 + 3)), none] [.ref (43 + 3), .ref (43 + 3)] _ _ from ?_)
  refine zy_1 (c := 43) rfl rfl rfl (show zyR _ _ _ _ [some (.ref (43 + 3)), none] [.int (s.1 43 7), .ref (43 + 3)] _ _ from ?_)
  refine zy_52 (c := 43) rfl rfl rfl (show zyR _ _ _ _ [some (.ref (43 + 3)), none] [] _ _ from ?_)
  refine zy_3 rfl rfl (show zyR _ _ _ _ [some (.ref (43 + 3)), none] [.int (0 : Int32)] _ _ from ?_)
  refine zy_23 rfl rfl (show zyR _ _ _ _ [some (.ref (43 + 3)), some (.int (0 : Int32))] [] _ _ from ?_)
  exact zy_sub (show zy_le [some (.ref (43 + 3)), some (.int (0 : Int32))] [some (.ref (43 + 3)), some (.int (0 : Int32))] from ⟨rfl, ⟨rfl, trivial⟩⟩) (zyC245_23 zy_fu (0 : Int32) (zy_up (zy_up (zy_up s 43 22 (1 : Int32)) 43 23 (s.1 43 6)) 43 24 (s.1 43 7)) _ _ h)
