/-! PART 41.119: methods as functions. Made by wip/v4/dcp.py. -/
/-! NineOpinions$Thought.sumUpLeast()V -/
noncomputable def zyF78_31b  (k23 : Int32 → zy_S → Option (Int32 × zy_S)) (k31 : Int32 → Int32 → zy_S → Option (Int32 × zy_S)) (x1 : Int32) (x2 : Int32) (s : zy_S) : Option (Int32 × zy_S) :=
if (9 : Int32) < x2 then
k23 (x1 + (1 : Int32)) s
else
(zyF79 x1 x2 s).bind fun p1 =>
(zyF80 x1 p1.1 x2 p1.2).bind fun p2 =>
if zy_in (((10 : Int32) * (x1 + (1 : Int32))) + x2) 70 then
k31 x1 (x2 + (1 : Int32)) (zy_up p2.2 14 ((((10 : Int32) * (x1 + (1 : Int32))) + x2)).toNatClampNeg p2.1)
else none
theorem zyC78_31b {X : zx_X}  {k23 : Int32 → zy_S → Option (Int32 × zy_S)} {k31 : Int32 → Int32 → zy_S → Option (Int32 × zy_S)}  (hk23 : ∀ (x1 : Int32) (s : zy_S) (r : Int32) (s' : zy_S), k23 x1 s = some (r, s') → zyR X 5 78 23 [some (.ref (12 + 3)), some (.int x1), none] [] s (zyE none s')) (hk31 : ∀ (x1 : Int32) (x2 : Int32) (s : zy_S) (r : Int32) (s' : zy_S), k31 x1 x2 s = some (r, s') → zyR X 5 78 31 [some (.ref (12 + 3)), some (.int x1), some (.int x2)] [] s (zyE none s')) {x1 : Int32} {x2 : Int32} {s : zy_S} {r : Int32} {s' : zy_S}  (h : zyF78_31b k23 k31 x1 x2 s = some (r, s')) : zyR X 5 78 31 [some (.ref (12 + 3)), some (.int x1), some (.int x2)] [] s (zyE none s') := by
  unfold zyF78_31b at h
  refine zy_2 rfl rfl (show zyR _ _ _ _ [some (.ref (12 + 3)), some (.int x1), some (.int x2)] [.int x2] _ _ from ?_)
  refine zy_3 rfl rfl (show zyR _ _ _ _ [some (.ref (12 + 3)), some (.int x1), some (.int x2)] [.int (9 : Int32), .int x2] _ _ from ?_)
  refine zy_25_4 rfl (fun b4 => (show zyR _ _ _ _ [some (.ref (12 + 3)), some (.int x1), some (.int x2)] [] _ _ from ?_)) (fun b4 => (show zyR _ _ _ _ [some (.ref (12 + 3)), some (.int x1), some (.int x2)] [] _ _ from ?_))
  · replace h := zy_ifp h b4
    refine zy_22 rfl rfl rfl rfl (show zyR _ _ _ _ [some (.ref (12 + 3)), some (.int (x1 + (1 : Int32))), some (.int x2)] [] _ _ from ?_)
    refine zy_6 rfl (show zyR _ _ _ _ [some (.ref (12 + 3)), some (.int (x1 + (1 : Int32))), some (.int x2)] [] _ _ from ?_)
    exact zy_sub (show zy_le [some (.ref (12 + 3)), some (.int (x1 + (1 : Int32))), none] [some (.ref (12 + 3)), some (.int (x1 + (1 : Int32))), some (.int x2)] from ⟨rfl, ⟨rfl, trivial⟩⟩) (hk23 (x1 + (1 : Int32)) s _ _ h)
  · replace h := zy_ifn h b4
    refine zy_0 rfl rfl (show zyR _ _ _ _ [some (.ref (12 + 3)), some (.int x1), some (.int x2)] [.ref (12 + 3)] _ _ from ?_)
    refine zy_1r (c := 12) rfl rfl rfl (show zyR _ _ _ _ [some (.ref (12 + 3)), some (.int x1), some (.int x2)] [.ref (14 + 3)] _ _ from ?_)
    refine zy_3 rfl rfl (show zyR _ _ _ _ [some (.ref (12 + 3)), some (.int x1), some (.int x2)] [.int (10 : Int32), .ref (14 + 3)] _ _ from ?_)
    refine zy_2 rfl rfl (show zyR _ _ _ _ [some (.ref (12 + 3)), some (.int x1), some (.int x2)] [.int x1, .int (10 : Int32), .ref (14 + 3)] _ _ from ?_)
    refine zy_3 rfl rfl (show zyR _ _ _ _ [some (.ref (12 + 3)), some (.int x1), some (.int x2)] [.int (1 : Int32), .int x1, .int (10 : Int32), .ref (14 + 3)] _ _ from ?_)
    refine zy_10 rfl (show zyR _ _ _ _ [some (.ref (12 + 3)), some (.int x1), some (.int x2)] [.int (x1 + (1 : Int32)), .int (10 : Int32), .ref (14 + 3)] _ _ from ?_)
    refine zy_12 rfl (show zyR _ _ _ _ [some (.ref (12 + 3)), some (.int x1), some (.int x2)] [.int ((10 : Int32) * (x1 + (1 : Int32))), .ref (14 + 3)] _ _ from ?_)
    refine zy_2 rfl rfl (show zyR _ _ _ _ [some (.ref (12 + 3)), some (.int x1), some (.int x2)] [.int x2, .int ((10 : Int32) * (x1 + (1 : Int32))), .ref (14 + 3)] _ _ from ?_)
    refine zy_10 rfl (show zyR _ _ _ _ [some (.ref (12 + 3)), some (.int x1), some (.int x2)] [.int (((10 : Int32) * (x1 + (1 : Int32))) + x2), .ref (14 + 3)] _ _ from ?_)
    refine zy_0 rfl rfl (show zyR _ _ _ _ [some (.ref (12 + 3)), some (.int x1), some (.int x2)] [.ref (12 + 3), .int (((10 : Int32) * (x1 + (1 : Int32))) + x2), .ref (14 + 3)] _ _ from ?_)
    refine zy_2 rfl rfl (show zyR _ _ _ _ [some (.ref (12 + 3)), some (.int x1), some (.int x2)] [.int x1, .ref (12 + 3), .int (((10 : Int32) * (x1 + (1 : Int32))) + x2), .ref (14 + 3)] _ _ from ?_)
    refine zy_0 rfl rfl (show zyR _ _ _ _ [some (.ref (12 + 3)), some (.int x1), some (.int x2)] [.ref (12 + 3), .int x1, .ref (12 + 3), .int (((10 : Int32) * (x1 + (1 : Int32))) + x2), .ref (14 + 3)] _ _ from ?_)
    refine zy_2 rfl rfl (show zyR _ _ _ _ [some (.ref (12 + 3)), some (.int x1), some (.int x2)] [.int x1, .ref (12 + 3), .int x1, .ref (12 + 3), .int (((10 : Int32) * (x1 + (1 : Int32))) + x2), .ref (14 + 3)] _ _ from ?_)
    refine zy_2 rfl rfl (show zyR _ _ _ _ [some (.ref (12 + 3)), some (.int x1), some (.int x2)] [.int x2, .int x1, .ref (12 + 3), .int x1, .ref (12 + 3), .int (((10 : Int32) * (x1 + (1 : Int32))) + x2), .ref (14 + 3)] _ _ from ?_)
    obtain ⟨p1, hp1, h⟩ := zy_bind h
    refine zy_5 (c := 12) (as := [.int x1, .int x2]) (rest := [.int x1, .ref (12 + 3), .int (((10 : Int32) * (x1 + (1 : Int32))) + x2), .ref (14 + 3)]) (L := [some (.ref (12 + 3)), some (.int x1), some (.int x2), none, none, none]) (d' := 4) rfl rfl rfl (Nat.le_of_ble_eq_true rfl) (Nat.le_of_ble_eq_true rfl) rfl (Nat.le_of_ble_eq_true rfl) rfl rfl (zyC79 hp1) ?_
    show zyR _ _ _ _ [some (.ref (12 + 3)), some (.int x1), some (.int x2)] [.int p1.1, .int x1, .ref (12 + 3), .int (((10 : Int32) * (x1 + (1 : Int32))) + x2), .ref (14 + 3)] _ _
    refine zy_2 rfl rfl (show zyR _ _ _ _ [some (.ref (12 + 3)), some (.int x1), some (.int x2)] [.int x2, .int p1.1, .int x1, .ref (12 + 3), .int (((10 : Int32) * (x1 + (1 : Int32))) + x2), .ref (14 + 3)] _ _ from ?_)
    obtain ⟨p2, hp2, h⟩ := zy_bind h
    refine zy_5 (c := 12) (as := [.int x1, .int p1.1, .int x2]) (rest := [.int (((10 : Int32) * (x1 + (1 : Int32))) + x2), .ref (14 + 3)]) (L := [some (.ref (12 + 3)), some (.int x1), some (.int p1.1), some (.int x2), none]) (d' := 3) rfl rfl rfl (Nat.le_of_ble_eq_true rfl) (Nat.le_of_ble_eq_true rfl) rfl (Nat.le_of_ble_eq_true rfl) rfl rfl (zyC80 hp2) ?_
    show zyR _ _ _ _ [some (.ref (12 + 3)), some (.int x1), some (.int x2)] [.int p2.1, .int (((10 : Int32) * (x1 + (1 : Int32))) + x2), .ref (14 + 3)] _ _
    obtain ⟨c3, h⟩ := zy_if h
    refine zy_27 (c := 14) rfl rfl c3 (show zyR _ _ _ _ [some (.ref (12 + 3)), some (.int x1), some (.int x2)] [] _ _ from ?_)
    refine zy_22 rfl rfl rfl rfl (show zyR _ _ _ _ [some (.ref (12 + 3)), some (.int x1), some (.int (x2 + (1 : Int32)))] [] _ _ from ?_)
    refine zy_6 rfl (show zyR _ _ _ _ [some (.ref (12 + 3)), some (.int x1), some (.int (x2 + (1 : Int32)))] [] _ _ from ?_)
    exact zy_sub (show zy_le [some (.ref (12 + 3)), some (.int x1), some (.int (x2 + (1 : Int32)))] [some (.ref (12 + 3)), some (.int x1), some (.int (x2 + (1 : Int32)))] from ⟨rfl, ⟨rfl, ⟨rfl, trivial⟩⟩⟩) (hk31 x1 (x2 + (1 : Int32)) (zy_up p2.2 14 ((((10 : Int32) * (x1 + (1 : Int32))) + x2)).toNatClampNeg p2.1) _ _ h)
noncomputable def zyF78_31  (k23 : Int32 → zy_S → Option (Int32 × zy_S)) (n : Nat) : Int32 → Int32 → zy_S → Option (Int32 × zy_S) := Nat.rec (fun _ _ _ => none) (fun _ k31 => zyF78_31b k23 k31) n
theorem zyC78_31 {X : zx_X}  {k23 : Int32 → zy_S → Option (Int32 × zy_S)}  (hk23 : ∀ (x1 : Int32) (s : zy_S) (r : Int32) (s' : zy_S), k23 x1 s = some (r, s') → zyR X 5 78 23 [some (.ref (12 + 3)), some (.int x1), none] [] s (zyE none s')) : ∀ (n : Nat) (x1 : Int32) (x2 : Int32) (s : zy_S) (r : Int32) (s' : zy_S), zyF78_31 k23 n x1 x2 s = some (r, s') → zyR X 5 78 31 [some (.ref (12 + 3)), some (.int x1), some (.int x2)] [] s (zyE none s')
  | 0, _, _ => by
    intro s r s'  h
    have h : (none : Option (Int32 × zy_S)) = some (r, s') := h
    cases h
  | n + 1, x1, x2 => by
    intro s r s'  h
    exact zyC78_31b (k31 := zyF78_31 k23 n) hk23 (fun x1 x2 s r s'  h => zyC78_31 hk23 n x1 x2 s r s'  h) h
noncomputable def zyF78_23b  (k23 : Int32 → zy_S → Option (Int32 × zy_S)) (x1 : Int32) (s : zy_S) : Option (Int32 × zy_S) :=
if (6 : Int32) ≤ x1 then
some ((0 : Int32), s)
else
zyF78_31 k23 zy_fu x1 (0 : Int32) s
theorem zyC78_23b {X : zx_X}  {k23 : Int32 → zy_S → Option (Int32 × zy_S)}  (hk23 : ∀ (x1 : Int32) (s : zy_S) (r : Int32) (s' : zy_S), k23 x1 s = some (r, s') → zyR X 5 78 23 [some (.ref (12 + 3)), some (.int x1), none] [] s (zyE none s')) {x1 : Int32} {s : zy_S} {r : Int32} {s' : zy_S}  (h : zyF78_23b k23 x1 s = some (r, s')) : zyR X 5 78 23 [some (.ref (12 + 3)), some (.int x1), none] [] s (zyE none s') := by
  unfold zyF78_23b at h
  refine zy_2 rfl rfl (show zyR _ _ _ _ [some (.ref (12 + 3)), some (.int x1), none] [.int x1] _ _ from ?_)
  refine zy_3 rfl rfl (show zyR _ _ _ _ [some (.ref (12 + 3)), some (.int x1), none] [.int (6 : Int32), .int x1] _ _ from ?_)
  refine zy_25_3 rfl (fun b5 => (show zyR _ _ _ _ [some (.ref (12 + 3)), some (.int x1), none] [] _ _ from ?_)) (fun b5 => (show zyR _ _ _ _ [some (.ref (12 + 3)), some (.int x1), none] [] _ _ from ?_))
  · replace h := zy_ifp h b5
    cases h
    exact zy_66 rfl ⟨rfl, rfl⟩
  · replace h := zy_ifn h b5
    refine zy_3 rfl rfl (show zyR _ _ _ _ [some (.ref (12 + 3)), some (.int x1), none] [.int (0 : Int32)] _ _ from ?_)
    refine zy_23 rfl rfl (show zyR _ _ _ _ [some (.ref (12 + 3)), some (.int x1), some (.int (0 : Int32))] [] _ _ from ?_)
    exact zy_sub (show zy_le [some (.ref (12 + 3)), some (.int x1), some (.int (0 : Int32))] [some (.ref (12 + 3)), some (.int x1), some (.int (0 : Int32))] from ⟨rfl, ⟨rfl, ⟨rfl, trivial⟩⟩⟩) (zyC78_31 hk23 zy_fu x1 (0 : Int32) s _ _ h)
noncomputable def zyF78_23   (n : Nat) : Int32 → zy_S → Option (Int32 × zy_S) := Nat.rec (fun _ _ => none) (fun _ k23 => zyF78_23b k23) n
theorem zyC78_23 {X : zx_X}     : ∀ (n : Nat) (x1 : Int32) (s : zy_S) (r : Int32) (s' : zy_S), zyF78_23 n x1 s = some (r, s') → zyR X 5 78 23 [some (.ref (12 + 3)), some (.int x1), none] [] s (zyE none s')
  | 0, _ => by
    intro s r s'  h
    have h : (none : Option (Int32 × zy_S)) = some (r, s') := h
    cases h
  | n + 1, x1 => by
    intro s r s'  h
    exact zyC78_23b (k23 := zyF78_23 n) (fun x1 s r s'  h => zyC78_23  n x1 s r s'  h) h
noncomputable def zyF78_2b  (k2 : Int32 → zy_S → Option (Int32 × zy_S)) (x1 : Int32) (s : zy_S) : Option (Int32 × zy_S) :=
if (9 : Int32) < x1 then
zyF78_23 zy_fu (0 : Int32) s
else
if zy_in x1 70 then
k2 (x1 + (1 : Int32)) (zy_up s 14 (x1).toNatClampNeg (0 : Int32))
else none
theorem zyC78_2b {X : zx_X}  {k2 : Int32 → zy_S → Option (Int32 × zy_S)}  (hk2 : ∀ (x1 : Int32) (s : zy_S) (r : Int32) (s' : zy_S), k2 x1 s = some (r, s') → zyR X 5 78 2 [some (.ref (12 + 3)), some (.int x1), none] [] s (zyE none s')) {x1 : Int32} {s : zy_S} {r : Int32} {s' : zy_S}  (h : zyF78_2b k2 x1 s = some (r, s')) : zyR X 5 78 2 [some (.ref (12 + 3)), some (.int x1), none] [] s (zyE none s') := by
  unfold zyF78_2b at h
  refine zy_2 rfl rfl (show zyR _ _ _ _ [some (.ref (12 + 3)), some (.int x1), none] [.int x1] _ _ from ?_)
  refine zy_3 rfl rfl (show zyR _ _ _ _ [some (.ref (12 + 3)), some (.int x1), none] [.int (9 : Int32), .int x1] _ _ from ?_)
  refine zy_25_4 rfl (fun b7 => (show zyR _ _ _ _ [some (.ref (12 + 3)), some (.int x1), none] [] _ _ from ?_)) (fun b7 => (show zyR _ _ _ _ [some (.ref (12 + 3)), some (.int x1), none] [] _ _ from ?_))
  · replace h := zy_ifp h b7
    refine zy_3 rfl rfl (show zyR _ _ _ _ [some (.ref (12 + 3)), some (.int x1), none] [.int (0 : Int32)] _ _ from ?_)
    refine zy_23 rfl rfl (show zyR _ _ _ _ [some (.ref (12 + 3)), some (.int (0 : Int32)), none] [] _ _ from ?_)
    exact zy_sub (show zy_le [some (.ref (12 + 3)), some (.int (0 : Int32)), none] [some (.ref (12 + 3)), some (.int (0 : Int32)), none] from ⟨rfl, ⟨rfl, trivial⟩⟩) (zyC78_23 zy_fu (0 : Int32) s _ _ h)
  · replace h := zy_ifn h b7
    refine zy_0 rfl rfl (show zyR _ _ _ _ [some (.ref (12 + 3)), some (.int x1), none] [.ref (12 + 3)] _ _ from ?_)
    refine zy_1r (c := 12) rfl rfl rfl (show zyR _ _ _ _ [some (.ref (12 + 3)), some (.int x1), none] [.ref (14 + 3)] _ _ from ?_)
    refine zy_2 rfl rfl (show zyR _ _ _ _ [some (.ref (12 + 3)), some (.int x1), none] [.int x1, .ref (14 + 3)] _ _ from ?_)
    refine zy_3 rfl rfl (show zyR _ _ _ _ [some (.ref (12 + 3)), some (.int x1), none] [.int (0 : Int32), .int x1, .ref (14 + 3)] _ _ from ?_)
    obtain ⟨c6, h⟩ := zy_if h
    refine zy_27 (c := 14) rfl rfl c6 (show zyR _ _ _ _ [some (.ref (12 + 3)), some (.int x1), none] [] _ _ from ?_)
    refine zy_22 rfl rfl rfl rfl (show zyR _ _ _ _ [some (.ref (12 + 3)), some (.int (x1 + (1 : Int32))), none] [] _ _ from ?_)
    refine zy_6 rfl (show zyR _ _ _ _ [some (.ref (12 + 3)), some (.int (x1 + (1 : Int32))), none] [] _ _ from ?_)
    exact zy_sub (show zy_le [some (.ref (12 + 3)), some (.int (x1 + (1 : Int32))), none] [some (.ref (12 + 3)), some (.int (x1 + (1 : Int32))), none] from ⟨rfl, ⟨rfl, trivial⟩⟩) (hk2 (x1 + (1 : Int32)) (zy_up s 14 (x1).toNatClampNeg (0 : Int32)) _ _ h)
noncomputable def zyF78_2   (n : Nat) : Int32 → zy_S → Option (Int32 × zy_S) := Nat.rec (fun _ _ => none) (fun _ k2 => zyF78_2b k2) n
theorem zyC78_2 {X : zx_X}     : ∀ (n : Nat) (x1 : Int32) (s : zy_S) (r : Int32) (s' : zy_S), zyF78_2 n x1 s = some (r, s') → zyR X 5 78 2 [some (.ref (12 + 3)), some (.int x1), none] [] s (zyE none s')
  | 0, _ => by
    intro s r s'  h
    have h : (none : Option (Int32 × zy_S)) = some (r, s') := h
    cases h
  | n + 1, x1 => by
    intro s r s'  h
    exact zyC78_2b (k2 := zyF78_2 n) (fun x1 s r s'  h => zyC78_2  n x1 s r s'  h) h
noncomputable def zyF78    (s : zy_S) : Option (Int32 × zy_S) :=
zyF78_2 zy_fu (0 : Int32) s
theorem zyC78 {X : zx_X}      {s : zy_S} {r : Int32} {s' : zy_S}  (h : zyF78 s = some (r, s')) : zyR X 5 78 0 [some (.ref (12 + 3)), none, none] [] s (zyE none s') := by
  unfold zyF78 at h
  refine zy_3 rfl rfl (show zyR _ _ _ _ [some (.ref (12 + 3)), none, none] [.int (0 : Int32)] _ _ from ?_)
  refine zy_23 rfl rfl (show zyR _ _ _ _ [some (.ref (12 + 3)), some (.int (0 : Int32)), none] [] _ _ from ?_)
  exact zy_sub (show zy_le [some (.ref (12 + 3)), some (.int (0 : Int32)), none] [some (.ref (12 + 3)), some (.int (0 : Int32)), none] from ⟨rfl, ⟨rfl, trivial⟩⟩) (zyC78_2 zy_fu (0 : Int32) s _ _ h)
