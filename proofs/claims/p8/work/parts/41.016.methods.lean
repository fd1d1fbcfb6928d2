/-! PART 41.16: methods as functions. Made by wip/v4/dcp.py. -/
/-! NineOpinionsModel.undo()I -/
noncomputable def zyF176    (s : zy_S) : Option (Int32 × zy_S) :=
if (s.1 43 5) ≠ 0 then
if zy_in ((s.1 43 5) - (1 : Int32)) 40 then
if zy_in ((s.1 43 5) - (1 : Int32)) 40 then
if zy_in (s.1 45 (((s.1 43 5) - (1 : Int32))).toNatClampNeg) 41 then
some (((s.1 43 5) - (1 : Int32)), (zy_up (zy_up s 43 5 ((s.1 43 5) - (1 : Int32))) 44 ((s.1 45 (((s.1 43 5) - (1 : Int32))).toNatClampNeg)).toNatClampNeg (s.1 46 (((s.1 43 5) - (1 : Int32))).toNatClampNeg)))
else none
else none
else none
else
some ((-5 : Int32), s)
theorem zyC176 {X : zx_X}      {s : zy_S} {r : Int32} {s' : zy_S}  (h : zyF176 s = some (r, s')) : zyR X 1 176 0 [some (.ref (43 + 3))] [] s (zyE (some (.int r)) s') := by
  unfold zyF176 at h
  refine zy_0 rfl rfl (show zyR _ _ _ _ [some (.ref (43 + 3))] [.ref (43 + 3)] _ _ from ?_)
  refine zy_1 (c := 43) rfl rfl rfl (show zyR _ _ _ _ [some (.ref (43 + 3))] [.int (s.1 43 5)] _ _ from ?_)
  refine zy_24_1 rfl (fun b4 => (show zyR _ _ _ _ [some (.ref (43 + 3))] [] _ _ from ?_)) (fun b4 => (show zyR _ _ _ _ [some (.ref (43 + 3))] [] _ _ from ?_))
  · replace h := zy_ifp h b4
    refine zy_0 rfl rfl (show zyR _ _ _ _ [some (.ref (43 + 3))] [.ref (43 + 3)] _ _ from ?_)
    refine zy_33 rfl rfl (show zyR _ _ _ _ [some (.ref (43 + 3))] [.ref (43 + 3), .ref (43 + 3)] _ _ from ?_)
    refine zy_1 (c := 43) rfl rfl rfl (show zyR _ _ _ _ [some (.ref (43 + 3))] [.int (s.1 43 5), .ref (43 + 3)] _ _ from ?_)
    refine zy_3 rfl rfl (show zyR _ _ _ _ [some (.ref (43 + 3))] [.int (1 : Int32), .int (s.1 43 5), .ref (43 + 3)] _ _ from ?_)
    refine zy_11 rfl (show zyR _ _ _ _ [some (.ref (43 + 3))] [.int ((s.1 43 5) - (1 : Int32)), .ref (43 + 3)] _ _ from ?_)
    refine zy_52 (c := 43) rfl rfl rfl (show zyR _ _ _ _ [some (.ref (43 + 3))] [] _ _ from ?_)
    refine zy_0 rfl rfl (show zyR _ _ _ _ [some (.ref (43 + 3))] [.ref (43 + 3)] _ _ from ?_)
    refine zy_1r (c := 43) rfl rfl rfl (show zyR _ _ _ _ [some (.ref (43 + 3))] [.ref (44 + 3)] _ _ from ?_)
    refine zy_0 rfl rfl (show zyR _ _ _ _ [some (.ref (43 + 3))] [.ref (43 + 3), .ref (44 + 3)] _ _ from ?_)
    refine zy_1r (c := 43) rfl rfl rfl (show zyR _ _ _ _ [some (.ref (43 + 3))] [.ref (45 + 3), .ref (44 + 3)] _ _ from ?_)
    refine zy_0 rfl rfl (show zyR _ _ _ _ [some (.ref (43 + 3))] [.ref (43 + 3), .ref (45 + 3), .ref (44 + 3)] _ _ from ?_)
    refine zy_1 (c := 43) rfl rfl rfl (show zyR _ _ _ _ [some (.ref (43 + 3))] [.int ((s.1 43 5) - (1 : Int32)), .ref (45 + 3), .ref (44 + 3)] _ _ from ?_)
    obtain ⟨c1, h⟩ := zy_if h
    refine zy_26 (c := 45) rfl rfl c1 (show zyR _ _ _ _ [some (.ref (43 + 3))] [.int (s.1 45 (((s.1 43 5) - (1 : Int32))).toNatClampNeg), .ref (44 + 3)] _ _ from ?_)
    refine zy_0 rfl rfl (show zyR _ _ _ _ [some (.ref (43 + 3))] [.ref (43 + 3), .int (s.1 45 (((s.1 43 5) - (1 : Int32))).toNatClampNeg), .ref (44 + 3)] _ _ from ?_)
    refine zy_1r (c := 43) rfl rfl rfl (show zyR _ _ _ _ [some (.ref (43 + 3))] [.ref (46 + 3), .int (s.1 45 (((s.1 43 5) - (1 : Int32))).toNatClampNeg), .ref (44 + 3)] _ _ from ?_)
    refine zy_0 rfl rfl (show zyR _ _ _ _ [some (.ref (43 + 3))] [.ref (43 + 3), .ref (46 + 3), .int (s.1 45 (((s.1 43 5) - (1 : Int32))).toNatClampNeg), .ref (44 + 3)] _ _ from ?_)
    refine zy_1 (c := 43) rfl rfl rfl (show zyR _ _ _ _ [some (.ref (43 + 3))] [.int ((s.1 43 5) - (1 : Int32)), .ref (46 + 3), .int (s.1 45 (((s.1 43 5) - (1 : Int32))).toNatClampNeg), .ref (44 + 3)] _ _ from ?_)
    obtain ⟨c2, h⟩ := zy_if h
    refine zy_26 (c := 46) rfl rfl c2 (show zyR _ _ _ _ [some (.ref (43 + 3))] [.int (s.1 46 (((s.1 43 5) - (1 : Int32))).toNatClampNeg), .int (s.1 45 (((s.1 43 5) - (1 : Int32))).toNatClampNeg), .ref (44 + 3)] _ _ from ?_)
    obtain ⟨c3, h⟩ := zy_if h
    refine zy_27 (c := 44) rfl rfl c3 (show zyR _ _ _ _ [some (.ref (43 + 3))] [] _ _ from ?_)
    refine zy_0 rfl rfl (show zyR _ _ _ _ [some (.ref (43 + 3))] [.ref (43 + 3)] _ _ from ?_)
    refine zy_1 (c := 43) rfl rfl rfl (show zyR _ _ _ _ [some (.ref (43 + 3))] [.int ((s.1 43 5) - (1 : Int32))] _ _ from ?_)
    obtain ⟨rfl, rfl⟩ := zy_pi h
    exact zy_4 rfl ⟨rfl, rfl⟩
  · replace h := zy_ifn h b4
    refine zy_3 rfl rfl (show zyR _ _ _ _ [some (.ref (43 + 3))] [.int (-5 : Int32)] _ _ from ?_)
    obtain ⟨rfl, rfl⟩ := zy_pi h
    exact zy_4 rfl ⟨rfl, rfl⟩
/-! NineOpinionsModel.redo()I -/
noncomputable def zyF177    (s : zy_S) : Option (Int32 × zy_S) :=
if (s.1 43 5) ≠ (s.1 43 4) then
if zy_in (s.1 43 5) 40 then
if zy_in (s.1 43 5) 40 then
if zy_in (s.1 45 ((s.1 43 5)).toNatClampNeg) 41 then
some (((s.1 43 4) - ((s.1 43 5) + (1 : Int32))), (zy_up (zy_up s 44 ((s.1 45 ((s.1 43 5)).toNatClampNeg)).toNatClampNeg (s.1 47 ((s.1 43 5)).toNatClampNeg)) 43 5 ((s.1 43 5) + (1 : Int32))))
else none
else none
else none
else
some ((-5 : Int32), s)
theorem zyC177 {X : zx_X}      {s : zy_S} {r : Int32} {s' : zy_S}  (h : zyF177 s = some (r, s')) : zyR X 1 177 0 [some (.ref (43 + 3))] [] s (zyE (some (.int r)) s') := by
  unfold zyF177 at h
  refine zy_0 rfl rfl (show zyR _ _ _ _ [some (.ref (43 + 3))] [.ref (43 + 3)] _ _ from ?_)
  refine zy_1 (c := 43) rfl rfl rfl (show zyR _ _ _ _ [some (.ref (43 + 3))] [.int (s.1 43 5)] _ _ from ?_)
  refine zy_0 rfl rfl (show zyR _ _ _ _ [some (.ref (43 + 3))] [.ref (43 + 3), .int (s.1 43 5)] _ _ from ?_)
  refine zy_1 (c := 43) rfl rfl rfl (show zyR _ _ _ _ [some (.ref (43 + 3))] [.int (s.1 43 4), .int (s.1 43 5)] _ _ from ?_)
  refine zy_25_1 rfl (fun b4 => (show zyR _ _ _ _ [some (.ref (43 + 3))] [] _ _ from ?_)) (fun b4 => (show zyR _ _ _ _ [some (.ref (43 + 3))] [] _ _ from ?_))
  · replace h := zy_ifp h b4
    refine zy_0 rfl rfl (show zyR _ _ _ _ [some (.ref (43 + 3))] [.ref (43 + 3)] _ _ from ?_)
    refine zy_1r (c := 43) rfl rfl rfl (show zyR _ _ _ _ [some (.ref (43 + 3))] [.ref (44 + 3)] _ _ from ?_)
    refine zy_0 rfl rfl (show zyR _ _ _ _ [some (.ref (43 + 3))] [.ref (43 + 3), .ref (44 + 3)] _ _ from ?_)
    refine zy_1r (c := 43) rfl rfl rfl (show zyR _ _ _ _ [some (.ref (43 + 3))] [.ref (45 + 3), .ref (44 + 3)] _ _ from ?_)
    refine zy_0 rfl rfl (show zyR _ _ _ _ [some (.ref (43 + 3))] [.ref (43 + 3), .ref (45 + 3), .ref (44 + 3)] _ _ from ?_)
    refine zy_1 (c := 43) rfl rfl rfl (show zyR _ _ _ _ [some (.ref (43 + 3))] [.int (s.1 43 5), .ref (45 + 3), .ref (44 + 3)] _ _ from ?_)
    obtain ⟨c1, h⟩ := zy_if h
    refine zy_26 (c := 45) rfl rfl c1 (show zyR _ _ _ _ [some (.ref (43 + 3))] [.int (s.1 45 ((s.1 43 5)).toNatClampNeg), .ref (44 + 3)] _ _ from ?_)
    refine zy_0 rfl rfl (show zyR _ _ _ _ [some (.ref (43 + 3))] [.ref (43 + 3), .int (s.1 45 ((s.1 43 5)).toNatClampNeg), .ref (44 + 3)] _ _ from ?_)
    refine zy_1r (c := 43) rfl rfl rfl (show zyR _ _ _ _ [some (.ref (43 + 3))] [.ref (47 + 3), .int (s.1 45 ((s.1 43 5)).toNatClampNeg), .ref (44 + 3)] _ _ from ?_)
    refine zy_0 rfl rfl (show zyR _ _ _ _ [some (.ref (43 + 3))] [.ref (43 + 3), .ref (47 + 3), .int (s.1 45 ((s.1 43 5)).toNatClampNeg), .ref (44 + 3)] _ _ from ?_)
    refine zy_1 (c := 43) rfl rfl rfl (show zyR _ _ _ _ [some (.ref (43 + 3))] [.int (s.1 43 5), .ref (47 + 3), .int (s.1 45 ((s.1 43 5)).toNatClampNeg), .ref (44 + 3)] _ _ from ?_)
    obtain ⟨c2, h⟩ := zy_if h
    refine zy_26 (c := 47) rfl rfl c2 (show zyR _ _ _ _ [some (.ref (43 + 3))] [.int (s.1 47 ((s.1 43 5)).toNatClampNeg), .int (s.1 45 ((s.1 43 5)).toNatClampNeg), .ref (44 + 3)] _ _ from ?_)
    obtain ⟨c3, h⟩ := zy_if h
    refine zy_27 (c := 44) rfl rfl c3 (show zyR _ _ _ _ [some (.ref (43 + 3))] [] _ _ from ?_)
    refine zy_0 rfl rfl (show zyR _ _ _ _ [some (.ref (43 + 3))] [.ref (43 + 3)] _ _ from ?_)
    refine zy_33 rfl rfl (show zyR _ _ _ _ [some (.ref (43 + 3))] [.ref (43 + 3), .ref (43 + 3)] _ _ from ?_)
    refine zy_1 (c := 43) rfl rfl rfl (show zyR _ _ _ _ [some (.ref (43 + 3))] [.int (s.1 43 5), .ref (43 + 3)] _ _ from ?_)
    refine zy_3 rfl rfl (show zyR _ _ _ _ [some (.ref (43 + 3))] [.int (1 : Int32), .int (s.1 43 5), .ref (43 + 3)] _ _ from ?_)
    refine zy_10 rfl (show zyR _ _ _ _ [some (.ref (43 + 3))] [.int ((s.1 43 5) + (1 : Int32)), .ref (43 + 3)] _ _ from ?_)
    refine zy_52 (c := 43) rfl rfl rfl (show zyR _ _ _ _ [some (.ref (43 + 3))] [] _ _ from ?_)
    refine zy_0 rfl rfl (show zyR _ _ _ _ [some (.ref (43 + 3))] [.ref (43 + 3)] _ _ from ?_)
    refine zy_1 (c := 43) rfl rfl rfl (show zyR _ _ _ _ [some (.ref (43 + 3))] [.int (s.1 43 4)] _ _ from ?_)
    refine zy_0 rfl rfl (show zyR _ _ _ _ [some (.ref (43 + 3))] [.ref (43 + 3), .int (s.1 43 4)] _ _ from ?_)
    refine zy_1 (c := 43) rfl rfl rfl (show zyR _ _ _ _ [some (.ref (43 + 3))] [.int ((s.1 43 5) + (1 : Int32)), .int (s.1 43 4)] _ _ from ?_)
    refine zy_11 rfl (show zyR _ _ _ _ [some (.ref (43 + 3))] [.int ((s.1 43 4) - ((s.1 43 5) + (1 : Int32)))] _ _ from ?_)
    obtain ⟨rfl, rfl⟩ := zy_pi h
    exact zy_4 rfl ⟨rfl, rfl⟩
  · replace h := zy_ifn h b4
    refine zy_3 rfl rfl (show zyR _ _ _ _ [some (.ref (43 + 3))] [.int (-5 : Int32)] _ _ from ?_)
    obtain ⟨rfl, rfl⟩ := zy_pi h
    exact zy_4 rfl ⟨rfl, rfl⟩
/-! NineOpinionsModel.within(JJJ)Z -/
noncomputable def zyF179   (x0 : Int64) (x2 : Int64) (x4 : Int64) (s : zy_S) : Option (Int32 × zy_S) :=
if (lg_cmp x0 x2) < 0 then
some ((0 : Int32), s)
else
if 0 < (lg_cmp x0 x4) then
some ((0 : Int32), s)
else
some ((1 : Int32), s)
theorem zyC179 {X : zx_X}     {x0 : Int64} {x2 : Int64} {x4 : Int64} {s : zy_S} {r : Int32} {s' : zy_S}  (h : zyF179 x0 x2 x4 s = some (r, s')) : zyR X 1 179 0 [some (.long x0), none, some (.long x2), none, some (.long x4), none] [] s (zyE (some (.int r)) s') := by
  unfold zyF179 at h
  refine zy_37 rfl rfl (show zyR _ _ _ _ [some (.long x0), none, some (.long x2), none, some (.long x4), none] [.long x0] _ _ from ?_)
  refine zy_37 rfl rfl (show zyR _ _ _ _ [some (.long x0), none, some (.long x2), none, some (.long x4), none] [.long x2, .long x0] _ _ from ?_)
  refine zy_44 rfl (show zyR _ _ _ _ [some (.long x0), none, some (.long x2), none, some (.long x4), none] [.int (lg_cmp x0 x2)] _ _ from ?_)
  refine zy_24_2 rfl (fun b2 => (show zyR _ _ _ _ [some (.long x0), none, some (.long x2), none, some (.long x4), none] [] _ _ from ?_)) (fun b2 => (show zyR _ _ _ _ [some (.long x0), none, some (.long x2), none, some (.long x4), none] [] _ _ from ?_))
  · replace h := zy_ifp h b2
    refine zy_3 rfl rfl (show zyR _ _ _ _ [some (.long x0), none, some (.long x2), none, some (.long x4), none] [.int (0 : Int32)] _ _ from ?_)
    cases h
    exact zy_4b rfl ⟨rfl, rfl⟩ (Or.inl rfl)
  · replace h := zy_ifn h b2
    refine zy_37 rfl rfl (show zyR _ _ _ _ [some (.long x0), none, some (.long x2), none, some (.long x4), none] [.long x0] _ _ from ?_)
    refine zy_37 rfl rfl (show zyR _ _ _ _ [some (.long x0), none, some (.long x2), none, some (.long x4), none] [.long x4, .long x0] _ _ from ?_)
    refine zy_44 rfl (show zyR _ _ _ _ [some (.long x0), none, some (.long x2), none, some (.long x4), none] [.int (lg_cmp x0 x4)] _ _ from ?_)
    refine zy_24_4 rfl (fun b1 => (show zyR _ _ _ _ [some (.long x0), none, some (.long x2), none, some (.long x4), none] [] _ _ from ?_)) (fun b1 => (show zyR _ _ _ _ [some (.long x0), none, some (.long x2), none, some (.long x4), none] [] _ _ from ?_))
    · replace h := zy_ifp h b1
      refine zy_3 rfl rfl (show zyR _ _ _ _ [some (.long x0), none, some (.long x2), none, some (.long x4), none] [.int (0 : Int32)] _ _ from ?_)
      cases h
      exact zy_4b rfl ⟨rfl, rfl⟩ (Or.inl rfl)
    · replace h := zy_ifn h b1
      refine zy_3 rfl rfl (show zyR _ _ _ _ [some (.long x0), none, some (.long x2), none, some (.long x4), none] [.int (1 : Int32)] _ _ from ?_)
      refine zy_6 rfl (show zyR _ _ _ _ [some (.long x0), none, some (.long x2), none, some (.long x4), none] [.int (1 : Int32)] _ _ from ?_)
      cases h
      exact zy_4b rfl ⟨rfl, rfl⟩ (Or.inr rfl)
/-! NineOpinionsModel.adds(II)V -/
noncomputable def zyF180   (x1 : Int32) (x2 : Int32) (s : zy_S) : Option (Int32 × zy_S) :=
if zy_in (s.1 43 6) 41 then
if zy_in ((8 : Int32) + (s.1 43 6)) 41 then
some ((0 : Int32), (zy_up (zy_up (zy_up s 44 ((s.1 43 6)).toNatClampNeg x1) 44 (((8 : Int32) + (s.1 43 6))).toNatClampNeg x2) 43 6 ((s.1 43 6) + (1 : Int32))))
else none
else none
theorem zyC180 {X : zx_X}     {x1 : Int32} {x2 : Int32} {s : zy_S} {r : Int32} {s' : zy_S}  (h : zyF180 x1 x2 s = some (r, s')) : zyR X 1 180 0 [some (.ref (43 + 3)), some (.int x1), some (.int x2)] [] s (zyE none s') := by
  unfold zyF180 at h
  refine zy_0 rfl rfl (show zyR _ _ _ _ [some (.ref (43 + 3)), some (.int x1), some (.int x2)] [.ref (43 + 3)] _ _ from ?_)
  refine zy_1r (c := 43) rfl rfl rfl (show zyR _ _ _ _ [some (.ref (43 + 3)), some (.int x1), some (.int x2)] [.ref (44 + 3)] _ _ from ?_)
  refine zy_0 rfl rfl (show zyR _ _ _ _ [some (.ref (43 + 3)), some (.int x1), some (.int x2)] [.ref (43 + 3), .ref (44 + 3)] _ _ from ?_)
  refine zy_1 (c := 43) rfl rfl rfl (show zyR _ _ _ _ [some (.ref (43 + 3)), some (.int x1), some (.int x2)] [.int (s.1 43 6), .ref (44 + 3)] _ _ from ?_)
  refine zy_2 rfl rfl (show zyR _ _ _ _ [some (.ref (43 + 3)), some (.int x1), some (.int x2)] [.int x1, .int (s.1 43 6), .ref (44 + 3)] _ _ from ?_)
  obtain ⟨c1, h⟩ := zy_if h
  refine zy_27 (c := 44) rfl rfl c1 (show zyR _ _ _ _ [some (.ref (43 + 3)), some (.int x1), some (.int x2)] [] _ _ from ?_)
  refine zy_0 rfl rfl (show zyR _ _ _ _ [some (.ref (43 + 3)), some (.int x1), some (.int x2)] [.ref (43 + 3)] _ _ from ?_)
  refine zy_1r (c := 43) rfl rfl rfl (show zyR _ _ _ _ [some (.ref (43 + 3)), some (.int x1), some (.int x2)] [.ref (44 + 3)] _ _ from ?_)
  refine zy_3 rfl rfl (show zyR _ _ _ _ [some (.ref (43 + 3)), some (.int x1), some (.int x2)] [.int (8 : Int32), .ref (44 + 3)] _ _ from ?_)
  refine zy_0 rfl rfl (show zyR _ _ _ _ [some (.ref (43 + 3)), some (.int x1), some (.int x2)] [.ref (43 + 3), .int (8 : Int32), .ref (44 + 3)] _ _ from ?_)
  refine zy_1 (c := 43) rfl rfl rfl (show zyR _ _ _ _ [some (.ref (43 + 3)), some (.int x1), some (.int x2)] [.int (s.1 43 6), .int (8 : Int32), .ref (44 + 3)] _ _ from ?_)
  refine zy_10 rfl (show zyR _ _ _ _ [some (.ref (43 + 3)), some (.int x1), some (.int x2)] [.int ((8 : Int32) + (s.1 43 6)), .ref (44 + 3)] _ _ from ?_)
  refine zy_2 rfl rfl (show zyR _ _ _ _ [some (.ref (43 + 3)), some (.int x1), some (.int x2)] [.int x2, .int ((8 : Int32) + (s.1 43 6)), .ref (44 + 3)] _ _ from ?_)
  obtain ⟨c2, h⟩ := zy_if h
  refine zy_27 (c := 44) rfl rfl c2 (show zyR _ _ _ _ [some (.ref (43 + 3)), some (.int x1), some (.int x2)] [] _ _ from ?_)
  refine zy_0 rfl rfl (show zyR _ _ _ _ [some (.ref (43 + 3)), some (.int x1), some (.int x2)] [.ref (43 + 3)] _ _ from ?_)
  refine zy_33 rfl rfl (show zyR _ _ _ _ [some (.ref (43 + 3)), some (.int x1), some (.int x2)] [.ref (43 + 3), .ref (43 + 3)] _ _ from ?_)
  refine zy_1 (c := 43) rfl rfl rfl (show zyR _ _ _ _ [some (.ref (43 + 3)), some (.int x1), some (.int x2)] [.int (s.1 43 6), .ref (43 + 3)] _ _ from ?_)
  refine zy_3 rfl rfl (show zyR _ _ _ _ [some (.ref (43 + 3)), some (.int x1), some (.int x2)] [.int (1 : Int32), .int (s.1 43 6), .ref (43 + 3)] _ _ from ?_)
  refine zy_10 rfl (show zyR _ _ _ _ [some (.ref (43 + 3)), some (.int x1), some (.int x2)] [.int ((s.1 43 6) + (1 : Int32)), .ref (43 + 3)] _ _ from ?_)
  refine zy_52 (c := 43) rfl rfl rfl (show zyR _ _ _ _ [some (.ref (43 + 3)), some (.int x1), some (.int x2)] [] _ _ from ?_)
  cases h
  exact zy_66 rfl ⟨rfl, rfl⟩
/-! NineOpinionsModel.person(I)I -/
noncomputable def zyF178   (x1 : Int32) (s : zy_S) : Option (Int32 × zy_S) :=
(zyF179 (x1).toInt64 (0 : Int64) (4095 : Int64) s).bind fun p1 =>
if p1.1 ≠ 0 then
if (p1.2.1 43 6) ≠ (8 : Int32) then
(zyF180 x1 (1 : Int32) p1.2).bind fun p2 =>
some (((p2.2.1 43 6) - (1 : Int32)), p2.2)
else
some ((-3 : Int32), p1.2)
else
some ((-1 : Int32), p1.2)
theorem zyC178 {X : zx_X}     {x1 : Int32} {s : zy_S} {r : Int32} {s' : zy_S}  (h : zyF178 x1 s = some (r, s')) : zyR X 2 178 0 [some (.ref (43 + 3)), some (.int x1)] [] s (zyE (some (.int r)) s') := by
  unfold zyF178 at h
  refine zy_2 rfl rfl (show zyR _ _ _ _ [some (.ref (43 + 3)), some (.int x1)] [.int x1] _ _ from ?_)
  refine zy_40 rfl (show zyR _ _ _ _ [some (.ref (43 + 3)), some (.int x1)] [.long (x1).toInt64] _ _ from ?_)
  refine zy_36 rfl rfl (show zyR _ _ _ _ [some (.ref (43 + 3)), some (.int x1)] [.long (0 : Int64), .long (x1).toInt64] _ _ from ?_)
  refine zy_36c rfl rfl (show zyR _ _ _ _ [some (.ref (43 + 3)), some (.int x1)] [.long (4095 : Int64), .long (0 : Int64), .long (x1).toInt64] _ _ from ?_)
  obtain ⟨p1, hp1, h⟩ := zy_bind h
  refine zy_60 (as := [.long (x1).toInt64, .long (0 : Int64), .long (4095 : Int64)]) (rest := []) (L := [some (.long (x1).toInt64), none, some (.long (0 : Int64)), none, some (.long (4095 : Int64)), none]) (d' := 1) rfl rfl (Nat.le_of_ble_eq_true rfl) (Nat.le_of_ble_eq_true rfl) rfl (Nat.le_of_ble_eq_true rfl) rfl rfl (zyC179 hp1) ?_
  show zyR _ _ _ _ [some (.ref (43 + 3)), some (.int x1)] [.int p1.1] _ _
  refine zy_24_1 rfl (fun b4 => (show zyR _ _ _ _ [some (.ref (43 + 3)), some (.int x1)] [] _ _ from ?_)) (fun b4 => (show zyR _ _ _ _ [some (.ref (43 + 3)), some (.int x1)] [] _ _ from ?_))
  · replace h := zy_ifp h b4
    refine zy_0 rfl rfl (show zyR _ _ _ _ [some (.ref (43 + 3)), some (.int x1)] [.ref (43 + 3)] _ _ from ?_)
    refine zy_1 (c := 43) rfl rfl rfl (show zyR _ _ _ _ [some (.ref (43 + 3)), some (.int x1)] [.int (p1.2.1 43 6)] _ _ from ?_)
    refine zy_3 rfl rfl (show zyR _ _ _ _ [some (.ref (43 + 3)), some (.int x1)] [.int (8 : Int32), .int (p1.2.1 43 6)] _ _ from ?_)
    refine zy_25_1 rfl (fun b3 => (show zyR _ _ _ _ [some (.ref (43 + 3)), some (.int x1)] [] _ _ from ?_)) (fun b3 => (show zyR _ _ _ _ [some (.ref (43 + 3)), some (.int x1)] [] _ _ from ?_))
    · replace h := zy_ifp h b3
      refine zy_0 rfl rfl (show zyR _ _ _ _ [some (.ref (43 + 3)), some (.int x1)] [.ref (43 + 3)] _ _ from ?_)
      refine zy_2 rfl rfl (show zyR _ _ _ _ [some (.ref (43 + 3)), some (.int x1)] [.int x1, .ref (43 + 3)] _ _ from ?_)
      refine zy_3 rfl rfl (show zyR _ _ _ _ [some (.ref (43 + 3)), some (.int x1)] [.int (1 : Int32), .int x1, .ref (43 + 3)] _ _ from ?_)
      obtain ⟨p2, hp2, h⟩ := zy_bind h
      refine zy_5 (c := 43) (as := [.int x1, .int (1 : Int32)]) (rest := []) (L := [some (.ref (43 + 3)), some (.int x1), some (.int (1 : Int32))]) (d' := 1) rfl rfl rfl (Nat.le_of_ble_eq_true rfl) (Nat.le_of_ble_eq_true rfl) rfl (Nat.le_of_ble_eq_true rfl) rfl rfl (zyC180 hp2) ?_
      show zyR _ _ _ _ [some (.ref (43 + 3)), some (.int x1)] [] _ _
      refine zy_0 rfl rfl (show zyR _ _ _ _ [some (.ref (43 + 3)), some (.int x1)] [.ref (43 + 3)] _ _ from ?_)
      refine zy_1 (c := 43) rfl rfl rfl (show zyR _ _ _ _ [some (.ref (43 + 3)), some (.int x1)] [.int (p2.2.1 43 6)] _ _ from ?_)
      refine zy_3 rfl rfl (show zyR _ _ _ _ [some (.ref (43 + 3)), some (.int x1)] [.int (1 : Int32), .int (p2.2.1 43 6)] _ _ from ?_)
      refine zy_11 rfl (show zyR _ _ _ _ [some (.ref (43 + 3)), some (.int x1)] [.int ((p2.2.1 43 6) - (1 : Int32))] _ _ from ?_)
      obtain ⟨rfl, rfl⟩ := zy_pi h
      exact zy_4 rfl ⟨rfl, rfl⟩
    · replace h := zy_ifn h b3
      refine zy_3 rfl rfl (show zyR _ _ _ _ [some (.ref (43 + 3)), some (.int x1)] [.int (-3 : Int32)] _ _ from ?_)
      obtain ⟨rfl, rfl⟩ := zy_pi h
      exact zy_4 rfl ⟨rfl, rfl⟩
  · replace h := zy_ifn h b4
    refine zy_3 rfl rfl (show zyR _ _ _ _ [some (.ref (43 + 3)), some (.int x1)] [.int (-1 : Int32)] _ _ from ?_)
    obtain ⟨rfl, rfl⟩ := zy_pi h
    exact zy_4 rfl ⟨rfl, rfl⟩
