/-! PART 41.20: methods as functions. Made by wip/v4/dcp.py. -/
/-! NineOpinionsModel.becomes(II)I -/
noncomputable def zyF187_97   (x1 : Int32) (x2 : Int32) (x3 : Int32) (s : zy_S) : Option (Int32 × zy_S) :=
if zy_in (s.1 43 5) 40 then
if zy_in (s.1 43 5) 40 then
if zy_in (s.1 43 5) 40 then
if zy_in x1 41 then
some (x3, (zy_up (zy_up (zy_up (zy_up (zy_up (zy_up s 45 ((s.1 43 5)).toNatClampNeg x1) 46 ((s.1 43 5)).toNatClampNeg x3) 47 ((s.1 43 5)).toNatClampNeg x2) 43 5 ((s.1 43 5) + (1 : Int32))) 43 4 ((s.1 43 5) + (1 : Int32))) 44 (x1).toNatClampNeg x2))
else none
else none
else none
else none
theorem zyC187_97 {X : zx_X}     {x1 : Int32} {x2 : Int32} {x3 : Int32} {s : zy_S} {r : Int32} {s' : zy_S}  (h : zyF187_97 x1 x2 x3 s = some (r, s')) : zyR X 1 187 97 [some (.ref (43 + 3)), some (.int x1), some (.int x2), some (.int x3), none] [] s (zyE (some (.int r)) s') := by
  unfold zyF187_97 at h
  refine zy_0 rfl rfl (show zyR _ _ _ _ [some (.ref (43 + 3)), some (.int x1), some (.int x2), some (.int x3), none] [.ref (43 + 3)] _ _ from ?_)
  refine zy_1r (c := 43) rfl rfl rfl (show zyR _ _ _ _ [some (.ref (43 + 3)), some (.int x1), some (.int x2), some (.int x3), none] [.ref (45 + 3)] _ _ from ?_)
  refine zy_0 rfl rfl (show zyR _ _ _ _ [some (.ref (43 + 3)), some (.int x1), some (.int x2), some (.int x3), none] [.ref (43 + 3), .ref (45 + 3)] _ _ from ?_)
  refine zy_1 (c := 43) rfl rfl rfl (show zyR _ _ _ _ [some (.ref (43 + 3)), some (.int x1), some (.int x2), some (.int x3), none] [.int (s.1 43 5), .ref (45 + 3)] _ _ from ?_)
  refine zy_2 rfl rfl (show zyR _ _ _ _ [some (.ref (43 + 3)), some (.int x1), some (.int x2), some (.int x3), none] [.int x1, .int (s.1 43 5), .ref (45 + 3)] _ _ from ?_)
  obtain ⟨c1, h⟩ := zy_if h
  refine zy_27 (c := 45) rfl rfl c1 (show zyR _ _ _ _ [some (.ref (43 + 3)), some (.int x1), some (.int x2), some (.int x3), none] [] _ _ from ?_)
  refine zy_0 rfl rfl (show zyR _ _ _ _ [some (.ref (43 + 3)), some (.int x1), some (.int x2), some (.int x3), none] [.ref (43 + 3)] _ _ from ?_)
  refine zy_1r (c := 43) rfl rfl rfl (show zyR _ _ _ _ [some (.ref (43 + 3)), some (.int x1), some (.int x2), some (.int x3), none] [.ref (46 + 3)] _ _ from ?_)
  refine zy_0 rfl rfl (show zyR _ _ _ _ [some (.ref (43 + 3)), some (.int x1), some (.int x2), some (.int x3), none] [.ref (43 + 3), .ref (46 + 3)] _ _ from ?_)
  refine zy_1 (c := 43) rfl rfl rfl (show zyR _ _ _ _ [some (.ref (43 + 3)), some (.int x1), some (.int x2), some (.int x3), none] [.int (s.1 43 5), .ref (46 + 3)] _ _ from ?_)
  refine zy_2 rfl rfl (show zyR _ _ _ _ [some (.ref (43 + 3)), some (.int x1), some (.int x2), some (.int x3), none] [.int x3, .int (s.1 43 5), .ref (46 + 3)] _ _ from ?_)
  obtain ⟨c2, h⟩ := zy_if h
  refine zy_27 (c := 46) rfl rfl c2 (show zyR _ _ _ _ [some (.ref (43 + 3)), some (.int x1), some (.int x2), some (.int x3), none] [] _ _ from ?_)
  refine zy_0 rfl rfl (show zyR _ _ _ _ [some (.ref (43 + 3)), some (.int x1), some (.int x2), some (.int x3), none] [.ref (43 + 3)] _ _ from ?_)
  refine zy_1r (c := 43) rfl rfl rfl (show zyR _ _ _ _ [some (.ref (43 + 3)), some (.int x1), some (.int x2), some (.int x3), none] [.ref (47 + 3)] _ _ from ?_)
  refine zy_0 rfl rfl (show zyR _ _ _ _ [some (.ref (43 + 3)), some (.int x1), some (.int x2), some (.int x3), none] [.ref (43 + 3), .ref (47 + 3)] _ _ from ?_)
  refine zy_1 (c := 43) rfl rfl rfl (show zyR _ _ _ _ [some (.ref (43 + 3)), some (.int x1), some (.int x2), some (.int x3), none] [.int (s.1 43 5), .ref (47 + 3)] _ _ from ?_)
  refine zy_2 rfl rfl (show zyR _ _ _ _ [some (.ref (43 + 3)), some (.int x1), some (.int x2), some (.int x3), none] [.int x2, .int (s.1 43 5), .ref (47 + 3)] _ _ from ?_)
  obtain ⟨c3, h⟩ := zy_if h
  refine zy_27 (c := 47) rfl rfl c3 (show zyR _ _ _ _ [some (.ref (43 + 3)), some (.int x1), some (.int x2), some (.int x3), none] [] _ _ from ?_)
  refine zy_0 rfl rfl (show zyR _ _ _ _ [some (.ref (43 + 3)), some (.int x1), some (.int x2), some (.int x3), none] [.ref (43 + 3)] _ _ from ?_)
  refine zy_33 rfl rfl (show zyR _ _ _ _ [some (.ref (43 + 3)), some (.int x1), some (.int x2), some (.int x3), none] [.ref (43 + 3), .ref (43 + 3)] _ _ from ?_)
  refine zy_1 (c := 43) rfl rfl rfl (show zyR _ _ _ _ [some (.ref (43 + 3)), some (.int x1), some (.int x2), some (.int x3), none] [.int (s.1 43 5), .ref (43 + 3)] _ _ from ?_)
  refine zy_3 rfl rfl (show zyR _ _ _ _ [some (.ref (43 + 3)), some (.int x1), some (.int x2), some (.int x3), none] [.int (1 : Int32), .int (s.1 43 5), .ref (43 + 3)] _ _ from ?_)
  refine zy_10 rfl (show zyR _ _ _ _ [some (.ref (43 + 3)), some (.int x1), some (.int x2), some (.int x3), none] [.int ((s.1 43 5) + (1 : Int32)), .ref (43 + 3)] _ _ from ?_)
  refine zy_52 (c := 43) rfl rfl rfl (show zyR _ _ _ _ [some (.ref (43 + 3)), some (.int x1), some (.int x2), some (.int x3), none] [] _ _ from ?_)
  refine zy_0 rfl rfl (show zyR _ _ _ _ [some (.ref (43 + 3)), some (.int x1), some (.int x2), some (.int x3), none] [.ref (43 + 3)] _ _ from ?_)
  refine zy_0 rfl rfl (show zyR _ _ _ _ [some (.ref (43 + 3)), some (.int x1), some (.int x2), some (.int x3), none] [.ref (43 + 3), .ref (43 + 3)] _ _ from ?_)
  refine zy_1 (c := 43) rfl rfl rfl (show zyR _ _ _ _ [some (.ref (43 + 3)), some (.int x1), some (.int x2), some (.int x3), none] [.int ((s.1 43 5) + (1 : Int32)), .ref (43 + 3)] _ _ from ?_)
  refine zy_52 (c := 43) rfl rfl rfl (show zyR _ _ _ _ [some (.ref (43 + 3)), some (.int x1), some (.int x2), some (.int x3), none] [] _ _ from ?_)
  refine zy_0 rfl rfl (show zyR _ _ _ _ [some (.ref (43 + 3)), some (.int x1), some (.int x2), some (.int x3), none] [.ref (43 + 3)] _ _ from ?_)
  refine zy_1r (c := 43) rfl rfl rfl (show zyR _ _ _ _ [some (.ref (43 + 3)), some (.int x1), some (.int x2), some (.int x3), none] [.ref (44 + 3)] _ _ from ?_)
  refine zy_2 rfl rfl (show zyR _ _ _ _ [some (.ref (43 + 3)), some (.int x1), some (.int x2), some (.int x3), none] [.int x1, .ref (44 + 3)] _ _ from ?_)
  refine zy_2 rfl rfl (show zyR _ _ _ _ [some (.ref (43 + 3)), some (.int x1), some (.int x2), some (.int x3), none] [.int x2, .int x1, .ref (44 + 3)] _ _ from ?_)
  obtain ⟨c4, h⟩ := zy_if h
  refine zy_27 (c := 44) rfl rfl c4 (show zyR _ _ _ _ [some (.ref (43 + 3)), some (.int x1), some (.int x2), some (.int x3), none] [] _ _ from ?_)
  refine zy_2 rfl rfl (show zyR _ _ _ _ [some (.ref (43 + 3)), some (.int x1), some (.int x2), some (.int x3), none] [.int x3] _ _ from ?_)
  obtain ⟨rfl, rfl⟩ := zy_pi h
  exact zy_4 rfl ⟨rfl, rfl⟩
noncomputable def zyF187_26b  (k26 : Int32 → Int32 → Int32 → Int32 → zy_S → Option (Int32 × zy_S)) (x1 : Int32) (x2 : Int32) (x3 : Int32) (x4 : Int32) (s : zy_S) : Option (Int32 × zy_S) :=
if (40 : Int32) ≤ x4 then
zyF187_97 x1 x2 x3 (zy_up s 43 5 ((s.1 43 5) - (1 : Int32)))
else
if zy_in x4 40 then
if zy_in (x4 - (1 : Int32)) 40 then
if zy_in x4 40 then
if zy_in (x4 - (1 : Int32)) 40 then
if zy_in x4 40 then
if zy_in (x4 - (1 : Int32)) 40 then
k26 x1 x2 x3 (x4 + (1 : Int32)) (zy_up (zy_up (zy_up s 45 ((x4 - (1 : Int32))).toNatClampNeg (s.1 45 (x4).toNatClampNeg)) 46 ((x4 - (1 : Int32))).toNatClampNeg (s.1 46 (x4).toNatClampNeg)) 47 ((x4 - (1 : Int32))).toNatClampNeg (s.1 47 (x4).toNatClampNeg))
else none
else none
else none
else none
else none
else none
theorem zyC187_26b {X : zx_X}  {k26 : Int32 → Int32 → Int32 → Int32 → zy_S → Option (Int32 × zy_S)}  (hk26 : ∀ (x1 : Int32) (x2 : Int32) (x3 : Int32) (x4 : Int32) (s : zy_S) (r : Int32) (s' : zy_S), k26 x1 x2 x3 x4 s = some (r, s') → zyR X 1 187 26 [some (.ref (43 + 3)), some (.int x1), some (.int x2), some (.int x3), some (.int x4)] [] s (zyE (some (.int r)) s')) {x1 : Int32} {x2 : Int32} {x3 : Int32} {x4 : Int32} {s : zy_S} {r : Int32} {s' : zy_S}  (h : zyF187_26b k26 x1 x2 x3 x4 s = some (r, s')) : zyR X 1 187 26 [some (.ref (43 + 3)), some (.int x1), some (.int x2), some (.int x3), some (.int x4)] [] s (zyE (some (.int r)) s') := by
  unfold zyF187_26b at h
  refine zy_2 rfl rfl (show zyR _ _ _ _ [some (.ref (43 + 3)), some (.int x1), some (.int x2), some (.int x3), some (.int x4)] [.int x4] _ _ from ?_)
  refine zy_3 rfl rfl (show zyR _ _ _ _ [some (.ref (43 + 3)), some (.int x1), some (.int x2), some (.int x3), some (.int x4)] [.int (40 : Int32), .int x4] _ _ from ?_)
  refine zy_25_3 rfl (fun b11 => (show zyR _ _ _ _ [some (.ref (43 + 3)), some (.int x1), some (.int x2), some (.int x3), some (.int x4)] [] _ _ from ?_)) (fun b11 => (show zyR _ _ _ _ [some (.ref (43 + 3)), some (.int x1), some (.int x2), some (.int x3), some (.int x4)] [] _ _ from ?_))
  · replace h := zy_ifp h b11
    refine zy_0 rfl rfl (show zyR _ _ _ _ [some (.ref (43 + 3)), some (.int x1), some (.int x2), some (.int x3), some (.int x4)] [.ref (43 + 3)] _ _ from ?_)
    refine zy_33 rfl rfl (show zyR _ _ _ _ [some (.ref (43 + 3)), some (.int x1), some (.int x2), some (.int x3), some (.int x4)] [.ref (43 + 3), .ref (43 + 3)] _ _ from ?_)
    refine zy_1 (c := 43) rfl rfl rfl (show zyR _ _ _ _ [some (.ref (43 + 3)), some (.int x1), some (.int x2), some (.int x3), some (.int x4)] [.int (s.1 43 5), .ref (43 + 3)] _ _ from ?_)
    refine zy_3 rfl rfl (show zyR _ _ _ _ [some (.ref (43 + 3)), some (.int x1), some (.int x2), some (.int x3), some (.int x4)] [.int (1 : Int32), .int (s.1 43 5), .ref (43 + 3)] _ _ from ?_)
    refine zy_11 rfl (show zyR _ _ _ _ [some (.ref (43 + 3)), some (.int x1), some (.int x2), some (.int x3), some (.int x4)] [.int ((s.1 43 5) - (1 : Int32)), .ref (43 + 3)] _ _ from ?_)
    refine zy_52 (c := 43) rfl rfl rfl (show zyR _ _ _ _ [some (.ref (43 + 3)), some (.int x1), some (.int x2), some (.int x3), some (.int x4)] [] _ _ from ?_)
    exact zy_sub (show zy_le [some (.ref (43 + 3)), some (.int x1), some (.int x2), some (.int x3), none] [some (.ref (43 + 3)), some (.int x1), some (.int x2), some (.int x3), some (.int x4)] from ⟨rfl, ⟨rfl, ⟨rfl, ⟨rfl, trivial⟩⟩⟩⟩) (zyC187_97 h)
  · replace h := zy_ifn h b11
    refine zy_0 rfl rfl (show zyR _ _ _ _ [some (.ref (43 + 3)), some (.int x1), some (.int x2), some (.int x3), some (.int x4)] [.ref (43 + 3)] _ _ from ?_)
    refine zy_1r (c := 43) rfl rfl rfl (show zyR _ _ _ _ [some (.ref (43 + 3)), some (.int x1), some (.int x2), some (.int x3), some (.int x4)] [.ref (45 + 3)] _ _ from ?_)
    refine zy_2 rfl rfl (show zyR _ _ _ _ [some (.ref (43 + 3)), some (.int x1), some (.int x2), some (.int x3), some (.int x4)] [.int x4, .ref (45 + 3)] _ _ from ?_)
    refine zy_3 rfl rfl (show zyR _ _ _ _ [some (.ref (43 + 3)), some (.int x1), some (.int x2), some (.int x3), some (.int x4)] [.int (1 : Int32), .int x4, .ref (45 + 3)] _ _ from ?_)
    refine zy_11 rfl (show zyR _ _ _ _ [some (.ref (43 + 3)), some (.int x1), some (.int x2), some (.int x3), some (.int x4)] [.int (x4 - (1 : Int32)), .ref (45 + 3)] _ _ from ?_)
    refine zy_0 rfl rfl (show zyR _ _ _ _ [some (.ref (43 + 3)), some (.int x1), some (.int x2), some (.int x3), some (.int x4)] [.ref (43 + 3), .int (x4 - (1 : Int32)), .ref (45 + 3)] _ _ from ?_)
    refine zy_1r (c := 43) rfl rfl rfl (show zyR _ _ _ _ [some (.ref (43 + 3)), some (.int x1), some (.int x2), some (.int x3), some (.int x4)] [.ref (45 + 3), .int (x4 - (1 : Int32)), .ref (45 + 3)] _ _ from ?_)
    refine zy_2 rfl rfl (show zyR _ _ _ _ [some (.ref (43 + 3)), some (.int x1), some (.int x2), some (.int x3), some (.int x4)] [.int x4, .ref (45 + 3), .int (x4 - (1 : Int32)), .ref (45 + 3)] _ _ from ?_)
    obtain ⟨c5, h⟩ := zy_if h
    refine zy_26 (c := 45) rfl rfl c5 (show zyR _ _ _ _ [some (.ref (43 + 3)), some (.int x1), some (.int x2), some (.int x3), some (.int x4)] [.int (s.1 45 (x4).toNatClampNeg), .int (x4 - (1 : Int32)), .ref (45 + 3)] _ _ from ?_)
    obtain ⟨c6, h⟩ := zy_if h
    refine zy_27 (c := 45) rfl rfl c6 (show zyR _ _ _ _ [some (.ref (43 + 3)), some (.int x1), some (.int x2), some (.int x3), some (.int x4)] [] _ _ from ?_)
    refine zy_0 rfl rfl (show zyR _ _ _ _ [some (.ref (43 + 3)), some (.int x1), some (.int x2), some (.int x3), some (.int x4)] [.ref (43 + 3)] _ _ from ?_)
    refine zy_1r (c := 43) rfl rfl rfl (show zyR _ _ _ _ [some (.ref (43 + 3)), some (.int x1), some (.int x2), some (.int x3), some (.int x4)] [.ref (46 + 3)] _ _ from ?_)
    refine zy_2 rfl rfl (show zyR _ _ _ _ [some (.ref (43 + 3)), some (.int x1), some (.int x2), some (.int x3), some (.int x4)] [.int x4, .ref (46 + 3)] _ _ from ?_)
    refine zy_3 rfl rfl (show zyR _ _ _ _ [some (.ref (43 + 3)), some (.int x1), some (.int x2), some (.int x3), some (.int x4)] [.int (1 : Int32), .int x4, .ref (46 + 3)] _ _ from ?_)
    refine zy_11 rfl (show zyR _ _ _ _ [some (.ref (43 + 3)), some (.int x1), some (.int x2), some (.int x3), some (.int x4)] [.int (x4 - (1 : Int32)), .ref (46 + 3)] _ _ from ?_)
    refine zy_0 rfl rfl (show zyR _ _ _ _ [some (.ref (43 + 3)), some (.int x1), some (.int x2), some (.int x3), some (.int x4)] [.ref (43 + 3), .int (x4 - (1 : Int32)), .ref (46 + 3)] _ _ from ?_)
    refine zy_1r (c := 43) rfl rfl rfl (show zyR _ _ _ _ [some (.ref (43 + 3)), some (.int x1), some (.int x2), some (.int x3), some (.int x4)] [.ref (46 + 3), .int (x4 - (1 : Int32)), .ref (46 + 3)] _ _ from ?_)
    refine zy_2 rfl rfl (show zyR _ _ _ _ [some (.ref (43 + 3)), some (.int x1), some (.int x2), some (.int x3), some (.int x4)] [.int x4, .ref (46 + 3), .int (x4 - (1 : Int32)), .ref (46 + 3)] _ _ from ?_)
    obtain ⟨c7, h⟩ := zy_if h
    refine zy_26 (c := 46) rfl rfl c7 (show zyR _ _ _ _ [some (.ref (43 + 3)), some (.int x1), some (.int x2), some (.int x3), some (.int x4)] [.int (s.1 46 (x4).toNatClampNeg), .int (x4 - (1 : Int32)), .ref (46 + 3)] _ _ from ?_)
    obtain ⟨c8, h⟩ := zy_if h
    refine zy_27 (c := 46) rfl rfl c8 (show zyR _ _ _ _ [some (.ref (43 + 3)), some (.int x1), some (.int x2), some (.int x3), some (.int x4)] [] _ _ from ?_)
    refine zy_0 rfl rfl (show zyR _ _ _ _ [some (.ref (43 + 3)), some (.int x1), some (.int x2), some (.int x3), some (.int x4)] [.ref (43 + 3)] _ _ from ?_)
    refine zy_1r (c := 43) rfl rfl rfl (show zyR _ _ _ _ [some (.ref (43 + 3)), some (.int x1), some (.int x2), some (.int x3), some (.int x4)] [.ref (47 + 3)] _ _ from ?_)
    refine zy_2 rfl rfl (show zyR _ _ _ _ [some (.ref (43 + 3)), some (.int x1), some (.int x2), some (.int x3), some (.int x4)] [.int x4, .ref (47 + 3)] _ _ from ?_)
    refine zy_3 rfl rfl (show zyR _ _ _ _ [some (.ref (43 + 3)), some (.int x1), some (.int x2), some (.int x3), some (.int x4)] [.int (1 : Int32), .int x4, .ref (47 + 3)] _ _ from ?_)
    refine zy_11 rfl (show zyR _ _ _ _ [some (.ref (43 + 3)), some (.int x1), some (.int x2), some (.int x3), some (.int x4)] [.int (x4 - (1 : Int32)), .ref (47 + 3)] _ _ from ?_)
    refine zy_0 rfl rfl (show zyR _ _ _ _ [some (.ref (43 + 3)), some (.int x1), some (.int x2), some (.int x3), some (.int x4)] [.ref (43 + 3), .int (x4 - (1 : Int32)), .ref (47 + 3)] _ _ from ?_)
    refine zy_1r (c := 43) rfl rfl rfl (show zyR _ _ _ _ [some (.ref (43 + 3)), some (.int x1), some (.int x2), some (.int x3), some (.int x4)] [.ref (47 + 3), .int (x4 - (1 : Int32)), .ref (47 + 3)] _ _ from ?_)
    refine zy_2 rfl rfl (show zyR _ _ _ _ [some (.ref (43 + 3)), some (.int x1), some (.int x2), some (.int x3), some (.int x4)] [.int x4, .ref (47 + 3), .int (x4 - (1 : Int32)), .ref (47 + 3)] _ _ from ?_)
    obtain ⟨c9, h⟩ := zy_if h
    refine zy_26 (c := 47) rfl rfl c9 (show zyR _ _ _ _ [some (.ref (43 + 3)), some (.int x1), some (.int x2), some (.int x3), some (.int x4)] [.int (s.1 47 (x4).toNatClampNeg), .int (x4 - (1 : Int32)), .ref (47 + 3)] _ _ from ?_)
    obtain ⟨c10, h⟩ := zy_if h
    refine zy_27 (c := 47) rfl rfl c10 (show zyR _ _ _ _ [some (.ref (43 + 3)), some (.int x1), some (.int x2), some (.int x3), some (.int x4)] [] _ _ from ?_)
    refine zy_22 rfl rfl rfl rfl (show zyR _ _ _ _ [some (.ref (43 + 3)), some (.int x1), some (.int x2), some (.int x3), some (.int (x4 + (1 : Int32)))] [] _ _ from ?_)
    refine zy_6 rfl (show zyR _ _ _ _ [some (.ref (43 + 3)), some (.int x1), some (.int x2), some (.int x3), some (.int (x4 + (1 : Int32)))] [] _ _ from ?_)
    exact zy_sub (show zy_le [some (.ref (43 + 3)), some (.int x1), some (.int x2), some (.int x3), some (.int (x4 + (1 : Int32)))] [some (.ref (43 + 3)), some (.int x1), some (.int x2), some (.int x3), some (.int (x4 + (1 : Int32)))] from ⟨rfl, ⟨rfl, ⟨rfl, ⟨rfl, ⟨rfl, trivial⟩⟩⟩⟩⟩) (hk26 x1 x2 x3 (x4 + (1 : Int32)) (zy_up (zy_up (zy_up s 45 ((x4 - (1 : Int32))).toNatClampNeg (s.1 45 (x4).toNatClampNeg)) 46 ((x4 - (1 : Int32))).toNatClampNeg (s.1 46 (x4).toNatClampNeg)) 47 ((x4 - (1 : Int32))).toNatClampNeg (s.1 47 (x4).toNatClampNeg)) _ _ h)
noncomputable def zyF187_26   (n : Nat) : Int32 → Int32 → Int32 → Int32 → zy_S → Option (Int32 × zy_S) := Nat.rec (fun _ _ _ _ _ => none) (fun _ k26 => zyF187_26b k26) n
theorem zyC187_26 {X : zx_X}     : ∀ (n : Nat) (x1 : Int32) (x2 : Int32) (x3 : Int32) (x4 : Int32) (s : zy_S) (r : Int32) (s' : zy_S), zyF187_26 n x1 x2 x3 x4 s = some (r, s') → zyR X 1 187 26 [some (.ref (43 + 3)), some (.int x1), some (.int x2), some (.int x3), some (.int x4)] [] s (zyE (some (.int r)) s')
  | 0, _, _, _, _ => by
    intro s r s'  h
    have h : (none : Option (Int32 × zy_S)) = some (r, s') := h
    cases h
  | n + 1, x1, x2, x3, x4 => by
    intro s r s'  h
    exact zyC187_26b (k26 := zyF187_26 n) (fun x1 x2 x3 x4 s r s'  h => zyC187_26  n x1 x2 x3 x4 s r s'  h) h
noncomputable def zyF187   (x1 : Int32) (x2 : Int32) (s : zy_S) : Option (Int32 × zy_S) :=
if zy_in x1 41 then
if (s.1 44 (x1).toNatClampNeg) ≠ x2 then
if (s.1 43 5) ≠ (40 : Int32) then
zyF187_97 x1 x2 (s.1 44 (x1).toNatClampNeg) s
else
zyF187_26 zy_fu x1 x2 (s.1 44 (x1).toNatClampNeg) (1 : Int32) s
else
some ((s.1 44 (x1).toNatClampNeg), s)
else none
theorem zyC187 {X : zx_X}     {x1 : Int32} {x2 : Int32} {s : zy_S} {r : Int32} {s' : zy_S}  (h : zyF187 x1 x2 s = some (r, s')) : zyR X 1 187 0 [some (.ref (43 + 3)), some (.int x1), some (.int x2), none, none] [] s (zyE (some (.int r)) s') := by
  unfold zyF187 at h
  refine zy_0 rfl rfl (show zyR _ _ _ _ [some (.ref (43 + 3)), some (.int x1), some (.int x2), none, none] [.ref (43 + 3)] _ _ from ?_)
  refine zy_1r (c := 43) rfl rfl rfl (show zyR _ _ _ _ [some (.ref (43 + 3)), some (.int x1), some (.int x2), none, none] [.ref (44 + 3)] _ _ from ?_)
  refine zy_2 rfl rfl (show zyR _ _ _ _ [some (.ref (43 + 3)), some (.int x1), some (.int x2), none, none] [.int x1, .ref (44 + 3)] _ _ from ?_)
  obtain ⟨c12, h⟩ := zy_if h
  refine zy_26 (c := 44) rfl rfl c12 (show zyR _ _ _ _ [some (.ref (43 + 3)), some (.int x1), some (.int x2), none, none] [.int (s.1 44 (x1).toNatClampNeg)] _ _ from ?_)
  refine zy_23 rfl rfl (show zyR _ _ _ _ [some (.ref (43 + 3)), some (.int x1), some (.int x2), some (.int (s.1 44 (x1).toNatClampNeg)), none] [] _ _ from ?_)
  refine zy_2 rfl rfl (show zyR _ _ _ _ [some (.ref (43 + 3)), some (.int x1), some (.int x2), some (.int (s.1 44 (x1).toNatClampNeg)), none] [.int (s.1 44 (x1).toNatClampNeg)] _ _ from ?_)
  refine zy_2 rfl rfl (show zyR _ _ _ _ [some (.ref (43 + 3)), some (.int x1), some (.int x2), some (.int (s.1 44 (x1).toNatClampNeg)), none] [.int x2, .int (s.1 44 (x1).toNatClampNeg)] _ _ from ?_)
  refine zy_25_1 rfl (fun b14 => (show zyR _ _ _ _ [some (.ref (43 + 3)), some (.int x1), some (.int x2), some (.int (s.1 44 (x1).toNatClampNeg)), none] [] _ _ from ?_)) (fun b14 => (show zyR _ _ _ _ [some (.ref (43 + 3)), some (.int x1), some (.int x2), some (.int (s.1 44 (x1).toNatClampNeg)), none] [] _ _ from ?_))
  · replace h := zy_ifp h b14
    refine zy_0 rfl rfl (show zyR _ _ _ _ [some (.ref (43 + 3)), some (.int x1), some (.int x2), some (.int (s.1 44 (x1).toNatClampNeg)), none] [.ref (43 + 3)] _ _ from ?_)
    refine zy_1 (c := 43) rfl rfl rfl (show zyR _ _ _ _ [some (.ref (43 + 3)), some (.int x1), some (.int x2), some (.int (s.1 44 (x1).toNatClampNeg)), none] [.int (s.1 43 5)] _ _ from ?_)
    refine zy_3 rfl rfl (show zyR _ _ _ _ [some (.ref (43 + 3)), some (.int x1), some (.int x2), some (.int (s.1 44 (x1).toNatClampNeg)), none] [.int (40 : Int32), .int (s.1 43 5)] _ _ from ?_)
    refine zy_25_1 rfl (fun b13 => (show zyR _ _ _ _ [some (.ref (43 + 3)), some (.int x1), some (.int x2), some (.int (s.1 44 (x1).toNatClampNeg)), none] [] _ _ from ?_)) (fun b13 => (show zyR _ _ _ _ [some (.ref (43 + 3)), some (.int x1), some (.int x2), some (.int (s.1 44 (x1).toNatClampNeg)), none] [] _ _ from ?_))
    · replace h := zy_ifp h b13
      exact zy_sub (show zy_le [some (.ref (43 + 3)), some (.int x1), some (.int x2), some (.int (s.1 44 (x1).toNatClampNeg)), none] [some (.ref (43 + 3)), some (.int x1), some (.int x2), some (.int (s.1 44 (x1).toNatClampNeg)), none] from ⟨rfl, ⟨rfl, ⟨rfl, ⟨rfl, trivial⟩⟩⟩⟩) (zyC187_97 h)
    · replace h := zy_ifn h b13
      refine zy_3 rfl rfl (show zyR _ _ _ _ [some (.ref (43 + 3)), some (.int x1), some (.int x2), some (.int (s.1 44 (x1).toNatClampNeg)), none] [.int (1 : Int32)] _ _ from ?_)
      refine zy_23 rfl rfl (show zyR _ _ _ _ [some (.ref (43 + 3)), some (.int x1), some (.int x2), some (.int (s.1 44 (x1).toNatClampNeg)), some (.int (1 : Int32))] [] _ _ from ?_)
      exact zy_sub (show zy_le [some (.ref (43 + 3)), some (.int x1), some (.int x2), some (.int (s.1 44 (x1).toNatClampNeg)), some (.int (1 : Int32))] [some (.ref (43 + 3)), some (.int x1), some (.int x2), some (.int (s.1 44 (x1).toNatClampNeg)), some (.int (1 : Int32))] from ⟨rfl, ⟨rfl, ⟨rfl, ⟨rfl, ⟨rfl, trivial⟩⟩⟩⟩⟩) (zyC187_26 zy_fu x1 x2 (s.1 44 (x1).toNatClampNeg) (1 : Int32) s _ _ h)
  · replace h := zy_ifn h b14
    refine zy_2 rfl rfl (show zyR _ _ _ _ [some (.ref (43 + 3)), some (.int x1), some (.int x2), some (.int (s.1 44 (x1).toNatClampNeg)), none] [.int (s.1 44 (x1).toNatClampNeg)] _ _ from ?_)
    obtain ⟨rfl, rfl⟩ := zy_pi h
    exact zy_4 rfl ⟨rfl, rfl⟩
