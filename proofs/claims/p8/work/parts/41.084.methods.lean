/-! PART 41.84: methods as functions. Made by wip/v4/dcp.py. -/
/-! NineOpinionsModel.law()I -/
noncomputable def zyF190_37b  (k37 : Int32 → Int32 → zy_S → Option (Int32 × zy_S)) (x2 : Int32) (x3 : Int32) (s : zy_S) : Option (Int32 × zy_S) :=
if x2 ≤ x3 then
some ((1 : Int32), (zy_up s 43 11 x2))
else
if zy_in x3 120 then
if zy_in x3 120 then
k37 x2 (x3 + (1 : Int32)) (zy_up s 49 (x3).toNatClampNeg (s.1 48 (x3).toNatClampNeg))
else none
else none
theorem zyC190_37b {X : zx_X}  {k37 : Int32 → Int32 → zy_S → Option (Int32 × zy_S)}  (hk37 : ∀ (x2 : Int32) (x3 : Int32) (s : zy_S) (r : Int32) (s' : zy_S), k37 x2 x3 s = some (r, s') → zyR X 104 190 37 [some (.ref (43 + 3)), none, some (.int x2), some (.int x3)] [] s (zyE (some (.int r)) s')) {x2 : Int32} {x3 : Int32} {s : zy_S} {r : Int32} {s' : zy_S}  (h : zyF190_37b k37 x2 x3 s = some (r, s')) : zyR X 104 190 37 [some (.ref (43 + 3)), none, some (.int x2), some (.int x3)] [] s (zyE (some (.int r)) s') := by
  unfold zyF190_37b at h
  refine zy_2 rfl rfl (show zyR _ _ _ _ [some (.ref (43 + 3)), none, some (.int x2), some (.int x3)] [.int x3] _ _ from ?_)
  refine zy_2 rfl rfl (show zyR _ _ _ _ [some (.ref (43 + 3)), none, some (.int x2), some (.int x3)] [.int x2, .int x3] _ _ from ?_)
  refine zy_25_3 rfl (fun b3 => (show zyR _ _ _ _ [some (.ref (43 + 3)), none, some (.int x2), some (.int x3)] [] _ _ from ?_)) (fun b3 => (show zyR _ _ _ _ [some (.ref (43 + 3)), none, some (.int x2), some (.int x3)] [] _ _ from ?_))
  · replace h := zy_ifp h b3
    refine zy_0 rfl rfl (show zyR _ _ _ _ [some (.ref (43 + 3)), none, some (.int x2), some (.int x3)] [.ref (43 + 3)] _ _ from ?_)
    refine zy_2 rfl rfl (show zyR _ _ _ _ [some (.ref (43 + 3)), none, some (.int x2), some (.int x3)] [.int x2, .ref (43 + 3)] _ _ from ?_)
    refine zy_52 (c := 43) rfl rfl rfl (show zyR _ _ _ _ [some (.ref (43 + 3)), none, some (.int x2), some (.int x3)] [] _ _ from ?_)
    refine zy_3 rfl rfl (show zyR _ _ _ _ [some (.ref (43 + 3)), none, some (.int x2), some (.int x3)] [.int (1 : Int32)] _ _ from ?_)
    obtain ⟨rfl, rfl⟩ := zy_pi h
    exact zy_4 rfl ⟨rfl, rfl⟩
  · replace h := zy_ifn h b3
    refine zy_0 rfl rfl (show zyR _ _ _ _ [some (.ref (43 + 3)), none, some (.int x2), some (.int x3)] [.ref (43 + 3)] _ _ from ?_)
    refine zy_1r (c := 43) rfl rfl rfl (show zyR _ _ _ _ [some (.ref (43 + 3)), none, some (.int x2), some (.int x3)] [.ref (49 + 3)] _ _ from ?_)
    refine zy_2 rfl rfl (show zyR _ _ _ _ [some (.ref (43 + 3)), none, some (.int x2), some (.int x3)] [.int x3, .ref (49 + 3)] _ _ from ?_)
    refine zy_0 rfl rfl (show zyR _ _ _ _ [some (.ref (43 + 3)), none, some (.int x2), some (.int x3)] [.ref (43 + 3), .int x3, .ref (49 + 3)] _ _ from ?_)
    refine zy_1r (c := 43) rfl rfl rfl (show zyR _ _ _ _ [some (.ref (43 + 3)), none, some (.int x2), some (.int x3)] [.ref (48 + 3), .int x3, .ref (49 + 3)] _ _ from ?_)
    refine zy_2 rfl rfl (show zyR _ _ _ _ [some (.ref (43 + 3)), none, some (.int x2), some (.int x3)] [.int x3, .ref (48 + 3), .int x3, .ref (49 + 3)] _ _ from ?_)
    obtain ⟨c1, h⟩ := zy_if h
    refine zy_26 (c := 48) rfl rfl c1 (show zyR _ _ _ _ [some (.ref (43 + 3)), none, some (.int x2), some (.int x3)] [.int (s.1 48 (x3).toNatClampNeg), .int x3, .ref (49 + 3)] _ _ from ?_)
    obtain ⟨c2, h⟩ := zy_if h
    refine zy_27 (c := 49) rfl rfl c2 (show zyR _ _ _ _ [some (.ref (43 + 3)), none, some (.int x2), some (.int x3)] [] _ _ from ?_)
    refine zy_22 rfl rfl rfl rfl (show zyR _ _ _ _ [some (.ref (43 + 3)), none, some (.int x2), some (.int (x3 + (1 : Int32)))] [] _ _ from ?_)
    refine zy_6 rfl (show zyR _ _ _ _ [some (.ref (43 + 3)), none, some (.int x2), some (.int (x3 + (1 : Int32)))] [] _ _ from ?_)
    exact zy_sub (show zy_le [some (.ref (43 + 3)), none, some (.int x2), some (.int (x3 + (1 : Int32)))] [some (.ref (43 + 3)), none, some (.int x2), some (.int (x3 + (1 : Int32)))] from ⟨rfl, ⟨rfl, ⟨rfl, trivial⟩⟩⟩) (hk37 x2 (x3 + (1 : Int32)) (zy_up s 49 (x3).toNatClampNeg (s.1 48 (x3).toNatClampNeg)) _ _ h)
noncomputable def zyF190_37   (n : Nat) : Int32 → Int32 → zy_S → Option (Int32 × zy_S) := Nat.rec (fun _ _ _ => none) (fun _ k37 => zyF190_37b k37) n
theorem zyC190_37 {X : zx_X}     : ∀ (n : Nat) (x2 : Int32) (x3 : Int32) (s : zy_S) (r : Int32) (s' : zy_S), zyF190_37 n x2 x3 s = some (r, s') → zyR X 104 190 37 [some (.ref (43 + 3)), none, some (.int x2), some (.int x3)] [] s (zyE (some (.int r)) s')
  | 0, _, _ => by
    intro s r s'  h
    have h : (none : Option (Int32 × zy_S)) = some (r, s') := h
    cases h
  | n + 1, x2, x3 => by
    intro s r s'  h
    exact zyC190_37b (k37 := zyF190_37 n) (fun x2 x3 s r s'  h => zyC190_37  n x2 x3 s r s'  h) h
noncomputable def zyF190    (s : zy_S) : Option (Int32 × zy_S) :=
(zyF191 (-1 : Int32) (s.1 43 9) s).bind fun p4 =>
if (p4.2.1 43 15) < 0 then
zyF190_37 zy_fu (p4.2.1 43 9) (0 : Int32) (zy_up p4.2 43 9 (0 : Int32))
else
some (((-100 : Int32) - (p4.2.1 43 15)), (zy_up p4.2 43 9 (0 : Int32)))
theorem zyC190 {X : zx_X}      {s : zy_S} {r : Int32} {s' : zy_S}  (h : zyF190 s = some (r, s')) : zyR X 104 190 0 [some (.ref (43 + 3)), none, none, none] [] s (zyE (some (.int r)) s') := by
  unfold zyF190 at h
  refine zy_0 rfl rfl (show zyR _ _ _ _ [some (.ref (43 + 3)), none, none, none] [.ref (43 + 3)] _ _ from ?_)
  refine zy_3 rfl rfl (show zyR _ _ _ _ [some (.ref (43 + 3)), none, none, none] [.int (-1 : Int32), .ref (43 + 3)] _ _ from ?_)
  refine zy_0 rfl rfl (show zyR _ _ _ _ [some (.ref (43 + 3)), none, none, none] [.ref (43 + 3), .int (-1 : Int32), .ref (43 + 3)] _ _ from ?_)
  refine zy_1 (c := 43) rfl rfl rfl (show zyR _ _ _ _ [some (.ref (43 + 3)), none, none, none] [.int (s.1 43 9), .int (-1 : Int32), .ref (43 + 3)] _ _ from ?_)
  obtain ⟨p4, hp4, h⟩ := zy_bind h
  refine zy_5 (c := 43) (as := [.int (-1 : Int32), .int (s.1 43 9)]) (rest := []) (L := [some (.ref (43 + 3)), some (.int (-1 : Int32)), some (.int (s.1 43 9)), none, none, none, none, none]) (d' := 103) rfl rfl rfl (Nat.le_of_ble_eq_true rfl) (Nat.le_of_ble_eq_true rfl) rfl (Nat.le_of_ble_eq_true rfl) rfl rfl (zyC191 hp4) ?_
  show zyR _ _ _ _ [some (.ref (43 + 3)), none, none, none] [.int p4.1] _ _
  refine zy_23 rfl rfl (show zyR _ _ _ _ [some (.ref (43 + 3)), some (.int p4.1), none, none] [] _ _ from ?_)
  refine zy_0 rfl rfl (show zyR _ _ _ _ [some (.ref (43 + 3)), some (.int p4.1), none, none] [.ref (43 + 3)] _ _ from ?_)
  refine zy_1 (c := 43) rfl rfl rfl (show zyR _ _ _ _ [some (.ref (43 + 3)), some (.int p4.1), none, none] [.int (p4.2.1 43 9)] _ _ from ?_)
  refine zy_23 rfl rfl (show zyR _ _ _ _ [some (.ref (43 + 3)), some (.int p4.1), some (.int (p4.2.1 43 9)), none] [] _ _ from ?_)
  refine zy_0 rfl rfl (show zyR _ _ _ _ [some (.ref (43 + 3)), some (.int p4.1), some (.int (p4.2.1 43 9)), none] [.ref (43 + 3)] _ _ from ?_)
  refine zy_3 rfl rfl (show zyR _ _ _ _ [some (.ref (43 + 3)), some (.int p4.1), some (.int (p4.2.1 43 9)), none] [.int (0 : Int32), .ref (43 + 3)] _ _ from ?_)
  refine zy_52 (c := 43) rfl rfl rfl (show zyR _ _ _ _ [some (.ref (43 + 3)), some (.int p4.1), some (.int (p4.2.1 43 9)), none] [] _ _ from ?_)
  refine zy_0 rfl rfl (show zyR _ _ _ _ [some (.ref (43 + 3)), some (.int p4.1), some (.int (p4.2.1 43 9)), none] [.ref (43 + 3)] _ _ from ?_)
  refine zy_1 (c := 43) rfl rfl rfl (show zyR _ _ _ _ [some (.ref (43 + 3)), some (.int p4.1), some (.int (p4.2.1 43 9)), none] [.int (p4.2.1 43 15)] _ _ from ?_)
  refine zy_24_2 rfl (fun b5 => (show zyR _ _ _ _ [some (.ref (43 + 3)), some (.int p4.1), some (.int (p4.2.1 43 9)), none] [] _ _ from ?_)) (fun b5 => (show zyR _ _ _ _ [some (.ref (43 + 3)), some (.int p4.1), some (.int (p4.2.1 43 9)), none] [] _ _ from ?_))
  · replace h := zy_ifp h b5
    refine zy_3 rfl rfl (show zyR _ _ _ _ [some (.ref (43 + 3)), some (.int p4.1), some (.int (p4.2.1 43 9)), none] [.int (0 : Int32)] _ _ from ?_)
    refine zy_23 rfl rfl (show zyR _ _ _ _ [some (.ref (43 + 3)), some (.int p4.1), some (.int (p4.2.1 43 9)), some (.int (0 : Int32))] [] _ _ from ?_)
    exact zy_sub (show zy_le [some (.ref (43 + 3)), none, some (.int (p4.2.1 43 9)), some (.int (0 : Int32))] [some (.ref (43 + 3)), some (.int p4.1), some (.int (p4.2.1 43 9)), some (.int (0 : Int32))] from ⟨rfl, ⟨rfl, ⟨rfl, trivial⟩⟩⟩) (zyC190_37 zy_fu (p4.2.1 43 9) (0 : Int32) (zy_up p4.2 43 9 (0 : Int32)) _ _ h)
  · replace h := zy_ifn h b5
    refine zy_3 rfl rfl (show zyR _ _ _ _ [some (.ref (43 + 3)), some (.int p4.1), some (.int (p4.2.1 43 9)), none] [.int (-100 : Int32)] _ _ from ?_)
    refine zy_0 rfl rfl (show zyR _ _ _ _ [some (.ref (43 + 3)), some (.int p4.1), some (.int (p4.2.1 43 9)), none] [.ref (43 + 3), .int (-100 : Int32)] _ _ from ?_)
    refine zy_1 (c := 43) rfl rfl rfl (show zyR _ _ _ _ [some (.ref (43 + 3)), some (.int p4.1), some (.int (p4.2.1 43 9)), none] [.int (p4.2.1 43 15), .int (-100 : Int32)] _ _ from ?_)
    refine zy_11 rfl (show zyR _ _ _ _ [some (.ref (43 + 3)), some (.int p4.1), some (.int (p4.2.1 43 9)), none] [.int ((-100 : Int32) - (p4.2.1 43 15))] _ _ from ?_)
    obtain ⟨rfl, rfl⟩ := zy_pi h
    exact zy_4 rfl ⟨rfl, rfl⟩
/-! NineOpinions$Bodies.note(I)V -/
noncomputable def zyF156_19    (s : zy_S) : Option (Int32 × zy_S) :=
some ((0 : Int32), (zy_up s 27 3 ((s.1 27 3) + (1 : Int32))))
theorem zyC156_19 {X : zx_X}      {s : zy_S} {r : Int32} {s' : zy_S}  (h : zyF156_19 s = some (r, s')) : zyR X 1 156 19 [some (.ref (27 + 3)), none] [] s (zyE none s') := by
  unfold zyF156_19 at h
  refine zy_0 rfl rfl (show zyR _ _ _ _ [some (.ref (27 + 3)), none] [.ref (27 + 3)] _ _ from ?_)
  refine zy_33 rfl rfl (show zyR _ _ _ _ [some (.ref (27 + 3)), none] [.ref (27 + 3), .ref (27 + 3)] _ _ from ?_)
  refine zy_1 (c := 27) rfl rfl rfl (show zyR _ _ _ _ [some (.ref (27 + 3)), none] [.int (s.1 27 3), .ref (27 + 3)] _ _ from ?_)
  refine zy_3 rfl rfl (show zyR _ _ _ _ [some (.ref (27 + 3)), none] [.int (1 : Int32), .int (s.1 27 3), .ref (27 + 3)] _ _ from ?_)
  refine zy_10 rfl (show zyR _ _ _ _ [some (.ref (27 + 3)), none] [.int ((s.1 27 3) + (1 : Int32)), .ref (27 + 3)] _ _ from ?_)
  refine zy_52 (c := 27) rfl rfl rfl (show zyR _ _ _ _ [some (.ref (27 + 3)), none] [] _ _ from ?_)
  cases h
  exact zy_66 rfl ⟨rfl, rfl⟩
noncomputable def zyF156   (x1 : Int32) (s : zy_S) : Option (Int32 × zy_S) :=
if (24 : Int32) ≤ (s.1 27 3) then
zyF156_19 s
else
if zy_in (s.1 27 3) 24 then
zyF156_19 (zy_up s 29 ((s.1 27 3)).toNatClampNeg x1)
else none
theorem zyC156 {X : zx_X}     {x1 : Int32} {s : zy_S} {r : Int32} {s' : zy_S}  (h : zyF156 x1 s = some (r, s')) : zyR X 1 156 0 [some (.ref (27 + 3)), some (.int x1)] [] s (zyE none s') := by
  unfold zyF156 at h
  refine zy_0 rfl rfl (show zyR _ _ _ _ [some (.ref (27 + 3)), some (.int x1)] [.ref (27 + 3)] _ _ from ?_)
  refine zy_1 (c := 27) rfl rfl rfl (show zyR _ _ _ _ [some (.ref (27 + 3)), some (.int x1)] [.int (s.1 27 3)] _ _ from ?_)
  refine zy_3 rfl rfl (show zyR _ _ _ _ [some (.ref (27 + 3)), some (.int x1)] [.int (24 : Int32), .int (s.1 27 3)] _ _ from ?_)
  refine zy_25_3 rfl (fun b2 => (show zyR _ _ _ _ [some (.ref (27 + 3)), some (.int x1)] [] _ _ from ?_)) (fun b2 => (show zyR _ _ _ _ [some (.ref (27 + 3)), some (.int x1)] [] _ _ from ?_))
  · replace h := zy_ifp h b2
    exact zy_sub (show zy_le [some (.ref (27 + 3)), none] [some (.ref (27 + 3)), some (.int x1)] from ⟨rfl, trivial⟩) (zyC156_19 h)
  · replace h := zy_ifn h b2
    refine zy_0 rfl rfl (show zyR _ _ _ _ [some (.ref (27 + 3)), some (.int x1)] [.ref (27 + 3)] _ _ from ?_)
    refine zy_1r (c := 27) rfl rfl rfl (show zyR _ _ _ _ [some (.ref (27 + 3)), some (.int x1)] [.ref (29 + 3)] _ _ from ?_)
    refine zy_0 rfl rfl (show zyR _ _ _ _ [some (.ref (27 + 3)), some (.int x1)] [.ref (27 + 3), .ref (29 + 3)] _ _ from ?_)
    refine zy_1 (c := 27) rfl rfl rfl (show zyR _ _ _ _ [some (.ref (27 + 3)), some (.int x1)] [.int (s.1 27 3), .ref (29 + 3)] _ _ from ?_)
    refine zy_2 rfl rfl (show zyR _ _ _ _ [some (.ref (27 + 3)), some (.int x1)] [.int x1, .int (s.1 27 3), .ref (29 + 3)] _ _ from ?_)
    obtain ⟨c1, h⟩ := zy_if h
    refine zy_27 (c := 29) rfl rfl c1 (show zyR _ _ _ _ [some (.ref (27 + 3)), some (.int x1)] [] _ _ from ?_)
    exact zy_sub (show zy_le [some (.ref (27 + 3)), none] [some (.ref (27 + 3)), some (.int x1)] from ⟨rfl, trivial⟩) (zyC156_19 h)
