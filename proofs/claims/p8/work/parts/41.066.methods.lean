/-! PART 41.66: methods as functions. Made by wip/v4/dcp.py. -/
/-! NineOpinions.writersOf(LNineOpinions$Shelf;)I -/
noncomputable def zyF117_41  (k4 : Nat → Int32 → Int32 → zy_S → Option (Int32 × zy_S)) (x1 : Nat) (x3 : Int32) (y0 : Int32) (y1 : Int32) (s : zy_S) : Option (Int32 × zy_S) :=
k4 x1 (y1 ||| y0) (x3 + (1 : Int32)) s
theorem zyC117_41 {X : zx_X}  {k4 : Nat → Int32 → Int32 → zy_S → Option (Int32 × zy_S)}  (hk4 : ∀ (x1 : Nat) (x2 : Int32) (x3 : Int32) (s : zy_S) (r : Int32) (s' : zy_S) (hs_x1 : zy_isSh x1), k4 x1 x2 x3 s = some (r, s') → zyR X 5 117 4 [some (.ref (0 + 3)), some (.ref (x1 + 3)), some (.int x2), some (.int x3)] [] s (zyE (some (.int r)) s')) {x1 : Nat} {x3 : Int32} {y0 : Int32} {y1 : Int32} {s : zy_S} {r : Int32} {s' : zy_S} (hs_x1 : zy_isSh x1) (h : zyF117_41 k4 x1 x3 y0 y1 s = some (r, s')) : zyR X 5 117 41 [some (.ref (0 + 3)), some (.ref (x1 + 3)), none, some (.int x3)] [.int y0, .int y1] s (zyE (some (.int r)) s') := by
  unfold zyF117_41 at h
  refine zy_14 rfl (show zyR _ _ _ _ [some (.ref (0 + 3)), some (.ref (x1 + 3)), none, some (.int x3)] [.int (y1 ||| y0)] _ _ from ?_)
  refine zy_23 rfl rfl (show zyR _ _ _ _ [some (.ref (0 + 3)), some (.ref (x1 + 3)), some (.int (y1 ||| y0)), some (.int x3)] [] _ _ from ?_)
  refine zy_22 rfl rfl rfl rfl (show zyR _ _ _ _ [some (.ref (0 + 3)), some (.ref (x1 + 3)), some (.int (y1 ||| y0)), some (.int (x3 + (1 : Int32)))] [] _ _ from ?_)
  refine zy_6 rfl (show zyR _ _ _ _ [some (.ref (0 + 3)), some (.ref (x1 + 3)), some (.int (y1 ||| y0)), some (.int (x3 + (1 : Int32)))] [] _ _ from ?_)
  exact zy_sub (show zy_le [some (.ref (0 + 3)), some (.ref (x1 + 3)), some (.int (y1 ||| y0)), some (.int (x3 + (1 : Int32)))] [some (.ref (0 + 3)), some (.ref (x1 + 3)), some (.int (y1 ||| y0)), some (.int (x3 + (1 : Int32)))] from ⟨rfl, ⟨rfl, ⟨rfl, ⟨rfl, trivial⟩⟩⟩⟩) (hk4 x1 (y1 ||| y0) (x3 + (1 : Int32)) s _ _ hs_x1 h)
noncomputable def zyF117_4b  (k4 : Nat → Int32 → Int32 → zy_S → Option (Int32 × zy_S)) (x1 : Nat) (x2 : Int32) (x3 : Int32) (s : zy_S) : Option (Int32 × zy_S) :=
if (s.1 1 5) ≤ x3 then
some (x2, s)
else
if zy_in x3 8 then
(zyF108 x1 (s.1 3 (x3).toNatClampNeg) s).bind fun p2 =>
if p2.1 ≠ (-2 : Int32) then
zyF117_41 k4 x1 x3 (0 : Int32) x2 p2.2
else
zyF117_41 k4 x1 x3 ((1 : Int32) <<< (x3 &&& 31)) x2 p2.2
else none
theorem zyC117_4b {X : zx_X}  {k4 : Nat → Int32 → Int32 → zy_S → Option (Int32 × zy_S)}  (hk4 : ∀ (x1 : Nat) (x2 : Int32) (x3 : Int32) (s : zy_S) (r : Int32) (s' : zy_S) (hs_x1 : zy_isSh x1), k4 x1 x2 x3 s = some (r, s') → zyR X 5 117 4 [some (.ref (0 + 3)), some (.ref (x1 + 3)), some (.int x2), some (.int x3)] [] s (zyE (some (.int r)) s')) {x1 : Nat} {x2 : Int32} {x3 : Int32} {s : zy_S} {r : Int32} {s' : zy_S} (hs_x1 : zy_isSh x1) (h : zyF117_4b k4 x1 x2 x3 s = some (r, s')) : zyR X 5 117 4 [some (.ref (0 + 3)), some (.ref (x1 + 3)), some (.int x2), some (.int x3)] [] s (zyE (some (.int r)) s') := by
  unfold zyF117_4b at h
  refine zy_2 rfl rfl (show zyR _ _ _ _ [some (.ref (0 + 3)), some (.ref (x1 + 3)), some (.int x2), some (.int x3)] [.int x3] _ _ from ?_)
  refine zy_0 rfl rfl (show zyR _ _ _ _ [some (.ref (0 + 3)), some (.ref (x1 + 3)), some (.int x2), some (.int x3)] [.ref (0 + 3), .int x3] _ _ from ?_)
  refine zy_1r (c := 0) rfl rfl rfl (show zyR _ _ _ _ [some (.ref (0 + 3)), some (.ref (x1 + 3)), some (.int x2), some (.int x3)] [.ref (1 + 3), .int x3] _ _ from ?_)
  refine zy_1 (c := 1) rfl rfl rfl (show zyR _ _ _ _ [some (.ref (0 + 3)), some (.ref (x1 + 3)), some (.int x2), some (.int x3)] [.int (s.1 1 5), .int x3] _ _ from ?_)
  refine zy_25_3 rfl (fun b4 => (show zyR _ _ _ _ [some (.ref (0 + 3)), some (.ref (x1 + 3)), some (.int x2), some (.int x3)] [] _ _ from ?_)) (fun b4 => (show zyR _ _ _ _ [some (.ref (0 + 3)), some (.ref (x1 + 3)), some (.int x2), some (.int x3)] [] _ _ from ?_))
  · replace h := zy_ifp h b4
    refine zy_2 rfl rfl (show zyR _ _ _ _ [some (.ref (0 + 3)), some (.ref (x1 + 3)), some (.int x2), some (.int x3)] [.int x2] _ _ from ?_)
    obtain ⟨rfl, rfl⟩ := zy_pi h
    exact zy_4 rfl ⟨rfl, rfl⟩
  · replace h := zy_ifn h b4
    refine zy_2 rfl rfl (show zyR _ _ _ _ [some (.ref (0 + 3)), some (.ref (x1 + 3)), some (.int x2), some (.int x3)] [.int x2] _ _ from ?_)
    refine zy_0 rfl rfl (show zyR _ _ _ _ [some (.ref (0 + 3)), some (.ref (x1 + 3)), some (.int x2), some (.int x3)] [.ref (x1 + 3), .int x2] _ _ from ?_)
    refine zy_0 rfl rfl (show zyR _ _ _ _ [some (.ref (0 + 3)), some (.ref (x1 + 3)), some (.int x2), some (.int x3)] [.ref (0 + 3), .ref (x1 + 3), .int x2] _ _ from ?_)
    refine zy_1r (c := 0) rfl rfl rfl (show zyR _ _ _ _ [some (.ref (0 + 3)), some (.ref (x1 + 3)), some (.int x2), some (.int x3)] [.ref (1 + 3), .ref (x1 + 3), .int x2] _ _ from ?_)
    refine zy_1r (c := 1) rfl rfl rfl (show zyR _ _ _ _ [some (.ref (0 + 3)), some (.ref (x1 + 3)), some (.int x2), some (.int x3)] [.ref (3 + 3), .ref (x1 + 3), .int x2] _ _ from ?_)
    refine zy_2 rfl rfl (show zyR _ _ _ _ [some (.ref (0 + 3)), some (.ref (x1 + 3)), some (.int x2), some (.int x3)] [.int x3, .ref (3 + 3), .ref (x1 + 3), .int x2] _ _ from ?_)
    obtain ⟨c1, h⟩ := zy_if h
    refine zy_26 (c := 3) rfl rfl c1 (show zyR _ _ _ _ [some (.ref (0 + 3)), some (.ref (x1 + 3)), some (.int x2), some (.int x3)] [.int (s.1 3 (x3).toNatClampNeg), .ref (x1 + 3), .int x2] _ _ from ?_)
    obtain ⟨p2, hp2, h⟩ := zy_bind h
    refine zy_60 (as := [.ref (x1 + 3), .int (s.1 3 (x3).toNatClampNeg)]) (rest := [.int x2]) (L := [some (.ref (x1 + 3)), some (.int (s.1 3 (x3).toNatClampNeg)), none, none]) (d' := 4) rfl rfl (Nat.le_of_ble_eq_true rfl) (Nat.le_of_ble_eq_true rfl) rfl (Nat.le_of_ble_eq_true rfl) rfl rfl (zyC108 hs_x1 hp2) ?_
    show zyR _ _ _ _ [some (.ref (0 + 3)), some (.ref (x1 + 3)), some (.int x2), some (.int x3)] [.int p2.1, .int x2] _ _
    refine zy_3 rfl rfl (show zyR _ _ _ _ [some (.ref (0 + 3)), some (.ref (x1 + 3)), some (.int x2), some (.int x3)] [.int (-2 : Int32), .int p2.1, .int x2] _ _ from ?_)
    refine zy_25_1 rfl (fun b3 => (show zyR _ _ _ _ [some (.ref (0 + 3)), some (.ref (x1 + 3)), some (.int x2), some (.int x3)] [.int x2] _ _ from ?_)) (fun b3 => (show zyR _ _ _ _ [some (.ref (0 + 3)), some (.ref (x1 + 3)), some (.int x2), some (.int x3)] [.int x2] _ _ from ?_))
    · replace h := zy_ifp h b3
      refine zy_3 rfl rfl (show zyR _ _ _ _ [some (.ref (0 + 3)), some (.ref (x1 + 3)), some (.int x2), some (.int x3)] [.int (0 : Int32), .int x2] _ _ from ?_)
      exact zy_sub (show zy_le [some (.ref (0 + 3)), some (.ref (x1 + 3)), none, some (.int x3)] [some (.ref (0 + 3)), some (.ref (x1 + 3)), some (.int x2), some (.int x3)] from ⟨rfl, ⟨rfl, ⟨rfl, trivial⟩⟩⟩) (zyC117_41 hk4 hs_x1 h)
    · replace h := zy_ifn h b3
      refine zy_3 rfl rfl (show zyR _ _ _ _ [some (.ref (0 + 3)), some (.ref (x1 + 3)), some (.int x2), some (.int x3)] [.int (1 : Int32), .int x2] _ _ from ?_)
      refine zy_2 rfl rfl (show zyR _ _ _ _ [some (.ref (0 + 3)), some (.ref (x1 + 3)), some (.int x2), some (.int x3)] [.int x3, .int (1 : Int32), .int x2] _ _ from ?_)
      refine zy_16 rfl (show zyR _ _ _ _ [some (.ref (0 + 3)), some (.ref (x1 + 3)), some (.int x2), some (.int x3)] [.int ((1 : Int32) <<< (x3 &&& 31)), .int x2] _ _ from ?_)
      refine zy_6 rfl (show zyR _ _ _ _ [some (.ref (0 + 3)), some (.ref (x1 + 3)), some (.int x2), some (.int x3)] [.int ((1 : Int32) <<< (x3 &&& 31)), .int x2] _ _ from ?_)
      exact zy_sub (show zy_le [some (.ref (0 + 3)), some (.ref (x1 + 3)), none, some (.int x3)] [some (.ref (0 + 3)), some (.ref (x1 + 3)), some (.int x2), some (.int x3)] from ⟨rfl, ⟨rfl, ⟨rfl, trivial⟩⟩⟩) (zyC117_41 hk4 hs_x1 h)
noncomputable def zyF117_4   (n : Nat) : Nat → Int32 → Int32 → zy_S → Option (Int32 × zy_S) := Nat.rec (fun _ _ _ _ => none) (fun _ k4 => zyF117_4b k4) n
theorem zyC117_4 {X : zx_X}     : ∀ (n : Nat) (x1 : Nat) (x2 : Int32) (x3 : Int32) (s : zy_S) (r : Int32) (s' : zy_S) (hs_x1 : zy_isSh x1), zyF117_4 n x1 x2 x3 s = some (r, s') → zyR X 5 117 4 [some (.ref (0 + 3)), some (.ref (x1 + 3)), some (.int x2), some (.int x3)] [] s (zyE (some (.int r)) s')
  | 0, _, _, _ => by
    intro s r s' hs_x1 h
    have h : (none : Option (Int32 × zy_S)) = some (r, s') := h
    cases h
  | n + 1, x1, x2, x3 => by
    intro s r s' hs_x1 h
    exact zyC117_4b (k4 := zyF117_4 n) (fun x1 x2 x3 s r s' hs_x1 h => zyC117_4  n x1 x2 x3 s r s' hs_x1 h) hs_x1 h
noncomputable def zyF117   (x1 : Nat) (s : zy_S) : Option (Int32 × zy_S) :=
zyF117_4 zy_fu x1 (0 : Int32) (0 : Int32) s
theorem zyC117 {X : zx_X}     {x1 : Nat} {s : zy_S} {r : Int32} {s' : zy_S} (hs_x1 : zy_isSh x1) (h : zyF117 x1 s = some (r, s')) : zyR X 5 117 0 [some (.ref (0 + 3)), some (.ref (x1 + 3)), none, none] [] s (zyE (some (.int r)) s') := by
  unfold zyF117 at h
  refine zy_3 rfl rfl (show zyR _ _ _ _ [some (.ref (0 + 3)), some (.ref (x1 + 3)), none, none] [.int (0 : Int32)] _ _ from ?_)
  refine zy_23 rfl rfl (show zyR _ _ _ _ [some (.ref (0 + 3)), some (.ref (x1 + 3)), some (.int (0 : Int32)), none] [] _ _ from ?_)
  refine zy_3 rfl rfl (show zyR _ _ _ _ [some (.ref (0 + 3)), some (.ref (x1 + 3)), some (.int (0 : Int32)), none] [.int (0 : Int32)] _ _ from ?_)
  refine zy_23 rfl rfl (show zyR _ _ _ _ [some (.ref (0 + 3)), some (.ref (x1 + 3)), some (.int (0 : Int32)), some (.int (0 : Int32))] [] _ _ from ?_)
  exact zy_sub (show zy_le [some (.ref (0 + 3)), some (.ref (x1 + 3)), some (.int (0 : Int32)), some (.int (0 : Int32))] [some (.ref (0 + 3)), some (.ref (x1 + 3)), some (.int (0 : Int32)), some (.int (0 : Int32))] from ⟨rfl, ⟨rfl, ⟨rfl, ⟨rfl, trivial⟩⟩⟩⟩) (zyC117_4 zy_fu x1 (0 : Int32) (0 : Int32) s _ _ hs_x1 h)
