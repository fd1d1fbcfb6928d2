/-! PART 41.05: methods as functions. Made by wip/v4/dcp.py. -/
/-! NineOpinionsModel.adds(II)V -/
noncomputable def zyF180   (x1 : Int32) (x2 : Int32) (s : zy_S) : Option (Int32 × zy_S) :=
if zy_in (s.1 43 6) 41 then
if zy_in ((8 : Int32) + (s.1 43 6)) 41 then
some ((0 : Int32), (zy_up (zy_up (zy_up s 44 ((s.1 43 6)).toNatClampNeg x1) 44 (((8 : Int32) + (s.1 43 6))).toNatClampNeg x2) 43 6 ((s.1 43 6) + (1 : Int32))))
else none
else none
theorem zyC180 {X : zx_X}     {x1 : Int32} {x2 : Int32} {s : zy_S} {r : Int32} {s' : zy_S}  (h : zyF180 x1 x2 s = some (r, s')) : zyR X 1 180 0 [some (.ref (43 + 3)), some (.int x1), some (.int x2)] [] s (zyE none s') := by
  unfold zyF180 at h
  refine zy_0 rfl rfl (show zyR _ _ _ _ [some (.ref (43 + 3)), some (.int x1), some (.int x2)] [.ref (43 + 3)] _ _ from ?_)
  refine zy_1r (c := 43) rfl rfl rfl (show zyR _ _ _ _ [some (.ref (43 + 3)), some (.int x1), some (.int x2)] [.ref (44 + 3)] _ _ from ?_)
  refine zy_0 rfl rfl (show zyR _ _ _ _ [some (.ref (43 + 3)), some (.int x1), some (.int x2)] [.ref (43 + 3), .ref (44 + 3)] _ _ from ?_)
  refine zy_1 (c := 43) rfl rfl rfl (show zyR _ _ _ _ [some (.ref (43 + 3)), some (.int x1), some (.int x2)] [.int (s.1 43 6), .ref (44 + 3)] _ _ from ?_)
  refine zy_2 rfl rfl (show zyR _ _ _ _ [some (.ref (43 + 3)), some (.int x1), some (.int x2)] [.int x1, .int (s.1 43 6), .ref (44 + 3)] _ _ from ?_)
  obtain ⟨c1, h⟩ := zy_if h
  refine zy_27 (c := 44) rfl rfl c1 (show zyR _ _ _ _ [some (.ref (43 + 3)), some (.int x1), some (.int x2)] [] _ _ from ?_)
  refine zy_0 rfl rfl (show zyR _ _ _ _ [some (.ref (43 + 3)), some (.int x1), some (.int x2)] [.ref (43 + 3)] _ _ from ?_)
  refine zy_1r (c := 43) rfl rfl rfl (show zyR _ _ _ _ [some (.ref (43 + 3)), some (.int x1), some (.int x2)] [.ref (44 + 3)] _ _ from ?_)
  refine zy_3 rfl rfl (show zyR _ _ _ _ [some (.ref (43 + 3)), some (.int x1), some (.int x2)] [.int (8 : Int32), .ref (44 + 3)] _ _ from ?_)
  refine zy_0 rfl rfl (show zyR _ _ _ _ [some (.ref (43 + 3)), some (.int x1), some (.int x2)] [.ref (43 + 3), .int (8 : Int32), .ref (44 + 3)] _ _ from ?_)
  refine zy_1 (c := 43) rfl rfl rfl (show zyR _ _ _ _ [some (.ref (43 + 3)), some (.int x1), some (.int x2)] [.int (s.1 43 6), .int (8 : Int32), .ref (44 + 3)] _ _ from ?_)
  refine zy_10 rfl (show zyR _ _ _ _ [some (.ref (43 + 3)), some (.int x1), some (.int x2)] [.int ((8 : Int32) + (s.1 43 6)), .ref (44 + 3)] _ _ from ?_)
  refine zy_2 rfl rfl (show zyR _ _ _ _ [some (.ref (43 + 3)), some (.int x1), some (.int x2)] [.int x2, .int ((8 : Int32) + (s.1 43 6)), .ref (44 + 3)] _ _ from ?_)
  obtain ⟨c2, h⟩ := zy_if h
  refine zy_27 (c := 44) rfl rfl c2 (show zyR _ _ _ _ [some (.ref (43 + 3)), some (.int x1), some (.int x2)] [] _ _ from ?_)
  refine zy_0 rfl rfl (show zyR _ _ _ _ [some (.ref (43 + 3)), some (.int x1), some (.int x2)] [.ref (43 + 3)] _ _ from ?_)
  refine zy_33 rfl rfl (show zyR _ _ _ _ [some (.ref (43 + 3)), some (.int x1), some (.int x2)] [.ref (43 + 3), .ref (43 + 3)] _ _ from ?_)
  refine zy_1 (c := 43) rfl rfl rfl (show zyR _ _ _ _ [some (.ref (43 + 3)), some (.int x1), some (.int x2)] [.int (s.1 43 6), .ref (43 + 3)] _ _ from ?_)
  refine zy_3 rfl rfl (show zyR _ _ _ _ [some (.ref (43 + 3)), some (.int x1), some (.int x2)] [.int (1 : Int32), .int (s.1 43 6), .ref (43 + 3)] _ _ from ?_)
  refine zy_10 rfl (show zyR _ _ _ _ [some (.ref (43 + 3)), some (.int x1), some (.int x2)] [.int ((s.1 43 6) + (1 : Int32)), .ref (43 + 3)] _ _ from ?_)
  refine zy_52 (c := 43) rfl rfl rfl (show zyR _ _ _ _ [some (.ref (43 + 3)), some (.int x1), some (.int x2)] [] _ _ from ?_)
  cases h
  exact zy_66 rfl ⟨rfl, rfl⟩
/-! NineOpinionsModel.person(I)I -/
noncomputable def zyF178   (x1 : Int32) (s : zy_S) : Option (Int32 × zy_S) :=
(zyF179 (x1).toInt64 (0 : Int64) (4095 : Int64) s).bind fun p1 =>
if p1.1 ≠ 0 then
if (p1.2.1 43 6) ≠ (8 : Int32) then
(zyF180 x1 (1 : Int32) p1.2).bind fun p2 =>
some (((p2.2.1 43 6) - (1 : Int32)), p2.2)
else
some ((-3 : Int32), p1.2)
else
some ((-1 : Int32), p1.2)
theorem zyC178 {X : zx_X}     {x1 : Int32} {s : zy_S} {r : Int32} {s' : zy_S}  (h : zyF178 x1 s = some (r, s')) : zyR X 2 178 0 [some (.ref (43 + 3)), some (.int x1)] [] s (zyE (some (.int r)) s') := by
  unfold zyF178 at h
  refine zy_2 rfl rfl (show zyR _ _ _ _ [some (.ref (43 + 3)), some (.int x1)] [.int x1] _ _ from ?_)
  refine zy_40 rfl (show zyR _ _ _ _ [some (.ref (43 + 3)), some (.int x1)] [.long (x1).toInt64] _ _ from ?_)
  refine zy_36 rfl rfl (show zyR _ _ _ _ [some (.ref (43 + 3)), some (.int x1)] [.long (0 : Int64), .long (x1).toInt64] _ _ from ?_)
  refine zy_36c rfl rfl (show zyR _ _ _ _ [some (.ref (43 + 3)), some (.int x1)] [.long (4095 : Int64), .long (0 : Int64), .long (x1).toInt64] _ _ from ?_)
  obtain ⟨p1, hp1, h⟩ := zy_bind h
  refine zy_60 (as := [.long (x1).toInt64, .long (0 : Int64), .long (4095 : Int64)]) (rest := []) (L := [some (.long (x1).toInt64), none, some (.long (0 : Int64)), none, some (.long (4095 : Int64)), none]) (d' := 1) rfl rfl (Nat.le_of_ble_eq_true rfl) (Nat.le_of_ble_eq_true rfl) rfl (Nat.le_of_ble_eq_true rfl) rfl rfl (zyC179 hp1) ?_
  show zyR _ _ _ _ [some (.ref (43 + 3)), some (.int x1)] [.int p1.1] _ _
  refine zy_24_1 rfl (fun b4 => (show zyR _ _ _ _ [some (.ref (43 + 3)), some (.int x1)] [] _ _ from ?_)) (fun b4 => (show zyR _ _ _ _ [some (.ref (43 + 3)), some (.int x1)] [] _ _ from ?_))
  · replace h := zy_ifp h b4
    refine zy_0 rfl rfl (show zyR _ _ _ _ [some (.ref (43 + 3)), some (.int x1)] [.ref (43 + 3)] _ _ from ?_)
    refine zy_1 (c := 43) rfl rfl rfl (show zyR _ _ _ _ [some (.ref (43 + 3)), some (.int x1)] [.int (p1.2.1 43 6)] _ _ from ?_)
    refine zy_3 rfl rfl (show zyR _ _ _ _ [some (.ref (43 + 3)), some (.int x1)] [.int (8 : Int32), .int (p1.2.1 43 6)] _ _ from ?_)
    refine zy_25_1 rfl (fun b3 => (show zyR _ _ _ _ [some (.ref (43 + 3)), some (.int x1)] [] _ _ from ?_)) (fun b3 => (show zyR _ _ _ _ [some (.ref (43 + 3)), some (.int x1)] [] _ _ from ?_))
    · replace h := zy_ifp h b3
      refine zy_0 rfl rfl (show zyR _ _ _ _ [some (.ref (43 + 3)), some (.int x1)] [.ref (43 + 3)] _ _ from ?_)
      refine zy_2 rfl rfl (show zyR _ _ _ _ [some (.ref (43 + 3)), some (.int x1)] [.int x1, .ref (43 + 3)] _ _ from ?_)
      refine zy_3 rfl rfl (show zyR _ _ _ _ [some (.ref (43 + 3)), some (.int x1)] [.int (1 : Int32), .int x1, .ref (43 + 3)] _ _ from ?_)
      obtain ⟨p2, hp2, h⟩ := zy_bind h
      refine zy_5 (c := 43) (as := [.int x1, .int (1 : Int32)]) (rest := []) (L := [some (.ref (43 + 3)), some (.int x1), some (.int (1 : Int32))]) (d' := 1) rfl rfl rfl (Nat.le_of_ble_eq_true rfl) (Nat.le_of_ble_eq_true rfl) rfl (Nat.le_of_ble_eq_true rfl) rfl rfl (zyC180 hp2) ?_
      show zyR _ _ _ _ [some (.ref (43 + 3)), some (.int x1)] [] _ _
      refine zy_0 rfl rfl (show zyR _ _ _ _ [some (.ref (43 + 3)), some (.int x1)] [.ref (43 + 3)] _ _ from ?_)
      refine zy_1 (c := 43) rfl rfl rfl (show zyR _ _ _ _ [some (.ref (43 + 3)), some (.int x1)] [.int (p2.2.1 43 6)] _ _ from ?_)
      refine zy_3 rfl rfl (show zyR _ _ _ _ [some (.ref (43 + 3)), some (.int x1)] [.int (1 : Int32), .int (p2.2.1 43 6)] _ _ from ?_)
      refine zy_11 rfl (show zyR _ _ _ _ [some (.ref (43 + 3)), some (.int x1)] [.int ((p2.2.1 43 6) - (1 : Int32))] _ _ from ?_)
      obtain ⟨rfl, rfl⟩ := zy_pi h
      exact zy_4 rfl ⟨rfl, rfl⟩
    · replace h := zy_ifn h b3
      refine zy_3 rfl rfl (show zyR _ _ _ _ [some (.ref (43 + 3)), some (.int x1)] [.int (-3 : Int32)] _ _ from ?_)
      obtain ⟨rfl, rfl⟩ := zy_pi h
      exact zy_4 rfl ⟨rfl, rfl⟩
  · replace h := zy_ifn h b4
    refine zy_3 rfl rfl (show zyR _ _ _ _ [some (.ref (43 + 3)), some (.int x1)] [.int (-1 : Int32)] _ _ from ?_)
    obtain ⟨rfl, rfl⟩ := zy_pi h
    exact zy_4 rfl ⟨rfl, rfl⟩
/-! NineOpinionsModel.isShelf(I)Z -/
noncomputable def zyF182   (x0 : Int32) (s : zy_S) : Option (Int32 × zy_S) :=
(zyF179 (x0).toInt64 (0 : Int64) (5 : Int64) s).bind fun p1 =>
if p1.1 = 0 ∨ p1.1 = 1 then
some (p1.1, p1.2)
else none
theorem zyC182 {X : zx_X}     {x0 : Int32} {s : zy_S} {r : Int32} {s' : zy_S}  (h : zyF182 x0 s = some (r, s')) : zyR X 2 182 0 [some (.int x0)] [] s (zyE (some (.int r)) s') := by
  unfold zyF182 at h
  refine zy_2 rfl rfl (show zyR _ _ _ _ [some (.int x0)] [.int x0] _ _ from ?_)
  refine zy_40 rfl (show zyR _ _ _ _ [some (.int x0)] [.long (x0).toInt64] _ _ from ?_)
  refine zy_36 rfl rfl (show zyR _ _ _ _ [some (.int x0)] [.long (0 : Int64), .long (x0).toInt64] _ _ from ?_)
  refine zy_36c rfl rfl (show zyR _ _ _ _ [some (.int x0)] [.long (5 : Int64), .long (0 : Int64), .long (x0).toInt64] _ _ from ?_)
  obtain ⟨p1, hp1, h⟩ := zy_bind h
  refine zy_60 (as := [.long (x0).toInt64, .long (0 : Int64), .long (5 : Int64)]) (rest := []) (L := [some (.long (x0).toInt64), none, some (.long (0 : Int64)), none, some (.long (5 : Int64)), none]) (d' := 1) rfl rfl (Nat.le_of_ble_eq_true rfl) (Nat.le_of_ble_eq_true rfl) rfl (Nat.le_of_ble_eq_true rfl) rfl rfl (zyC179 hp1) ?_
  show zyR _ _ _ _ [some (.int x0)] [.int p1.1] _ _
  obtain ⟨c2, h⟩ := zy_if h
  cases h
  exact zy_4b rfl ⟨rfl, rfl⟩ c2
/-! NineOpinionsModel.people(III)I -/
noncomputable def zyF181_204  (k69 : Int32 → Int32 → Int32 → Int32 → Int32 → zy_S → Option (Int32 × zy_S)) (x1 : Int32) (x2 : Int32) (x3 : Int32) (x4 : Int32) (x5 : Int32) (s : zy_S) : Option (Int32 × zy_S) :=
k69 x1 x2 x3 x4 x5 s
theorem zyC181_204 {X : zx_X}  {k69 : Int32 → Int32 → Int32 → Int32 → Int32 → zy_S → Option (Int32 × zy_S)}  (hk69 : ∀ (x1 : Int32) (x2 : Int32) (x3 : Int32) (x4 : Int32) (x5 : Int32) (s : zy_S) (r : Int32) (s' : zy_S), k69 x1 x2 x3 x4 x5 s = some (r, s') → zyR X 3 181 69 [some (.ref (43 + 3)), some (.int x1), some (.int x2), some (.int x3), some (.int x4), some (.int x5), none] [] s (zyE (some (.int r)) s')) {x1 : Int32} {x2 : Int32} {x3 : Int32} {x4 : Int32} {x5 : Int32} {s : zy_S} {r : Int32} {s' : zy_S}  (h : zyF181_204 k69 x1 x2 x3 x4 x5 s = some (r, s')) : zyR X 3 181 204 [some (.ref (43 + 3)), some (.int x1), some (.int x2), some (.int x3), some (.int x4), some (.int x5), none] [] s (zyE (some (.int r)) s') := by
  unfold zyF181_204 at h
  refine zy_6 rfl (show zyR _ _ _ _ [some (.ref (43 + 3)), some (.int x1), some (.int x2), some (.int x3), some (.int x4), some (.int x5), none] [] _ _ from ?_)
  exact zy_sub (show zy_le [some (.ref (43 + 3)), some (.int x1), some (.int x2), some (.int x3), some (.int x4), some (.int x5), none] [some (.ref (43 + 3)), some (.int x1), some (.int x2), some (.int x3), some (.int x4), some (.int x5), none] from ⟨rfl, ⟨rfl, ⟨rfl, ⟨rfl, ⟨rfl, ⟨rfl, trivial⟩⟩⟩⟩⟩⟩) (hk69 x1 x2 x3 x4 x5 s _ _ h)
noncomputable def zyF181_172  (k69 : Int32 → Int32 → Int32 → Int32 → Int32 → zy_S → Option (Int32 × zy_S)) (x1 : Int32) (x2 : Int32) (x3 : Int32) (x4 : Int32) (x6 : Int32) (y0 : Int32) (s : zy_S) : Option (Int32 × zy_S) :=
if y0 = 0 then
zyF181_204 k69 x1 x2 x3 x4 y0 s
else
if zy_in x6 360 then
if zy_in (x6 + (1 : Int32)) 360 then
(zyF180 ((s.2.1 62 (x6).toNatClampNeg)).toInt32 ((s.2.1 62 ((x6 + (1 : Int32))).toNatClampNeg)).toInt32 s).bind fun p3 =>
zyF181_204 k69 x1 x2 x3 (x4 + (1 : Int32)) y0 p3.2
else none
else none
theorem zyC181_172 {X : zx_X}  {k69 : Int32 → Int32 → Int32 → Int32 → Int32 → zy_S → Option (Int32 × zy_S)}  (hk69 : ∀ (x1 : Int32) (x2 : Int32) (x3 : Int32) (x4 : Int32) (x5 : Int32) (s : zy_S) (r : Int32) (s' : zy_S), k69 x1 x2 x3 x4 x5 s = some (r, s') → zyR X 3 181 69 [some (.ref (43 + 3)), some (.int x1), some (.int x2), some (.int x3), some (.int x4), some (.int x5), none] [] s (zyE (some (.int r)) s')) {x1 : Int32} {x2 : Int32} {x3 : Int32} {x4 : Int32} {x6 : Int32} {y0 : Int32} {s : zy_S} {r : Int32} {s' : zy_S}  (h : zyF181_172 k69 x1 x2 x3 x4 x6 y0 s = some (r, s')) : zyR X 3 181 172 [some (.ref (43 + 3)), some (.int x1), some (.int x2), some (.int x3), some (.int x4), none, some (.int x6)] [.int y0] s (zyE (some (.int r)) s') := by
  unfold zyF181_172 at h
  refine zy_23 rfl rfl (show zyR _ _ _ _ [some (.ref (43 + 3)), some (.int x1), some (.int x2), some (.int x3), some (.int x4), some (.int y0), some (.int x6)] [] _ _ from ?_)
  refine zy_2 rfl rfl (show zyR _ _ _ _ [some (.ref (43 + 3)), some (.int x1), some (.int x2), some (.int x3), some (.int x4), some (.int y0), some (.int x6)] [.int y0] _ _ from ?_)
  refine zy_24_0 rfl (fun b4 => (show zyR _ _ _ _ [some (.ref (43 + 3)), some (.int x1), some (.int x2), some (.int x3), some (.int x4), some (.int y0), some (.int x6)] [] _ _ from ?_)) (fun b4 => (show zyR _ _ _ _ [some (.ref (43 + 3)), some (.int x1), some (.int x2), some (.int x3), some (.int x4), some (.int y0), some (.int x6)] [] _ _ from ?_))
  · replace h := zy_ifp h b4
    exact zy_sub (show zy_le [some (.ref (43 + 3)), some (.int x1), some (.int x2), some (.int x3), some (.int x4), some (.int y0), none] [some (.ref (43 + 3)), some (.int x1), some (.int x2), some (.int x3), some (.int x4), some (.int y0), some (.int x6)] from ⟨rfl, ⟨rfl, ⟨rfl, ⟨rfl, ⟨rfl, ⟨rfl, trivial⟩⟩⟩⟩⟩⟩) (zyC181_204 hk69 h)
  · replace h := zy_ifn h b4
    refine zy_0 rfl rfl (show zyR _ _ _ _ [some (.ref (43 + 3)), some (.int x1), some (.int x2), some (.int x3), some (.int x4), some (.int y0), some (.int x6)] [.ref (43 + 3)] _ _ from ?_)
    refine zy_0 rfl rfl (show zyR _ _ _ _ [some (.ref (43 + 3)), some (.int x1), some (.int x2), some (.int x3), some (.int x4), some (.int y0), some (.int x6)] [.ref (43 + 3), .ref (43 + 3)] _ _ from ?_)
    refine zy_1r (c := 43) rfl rfl rfl (show zyR _ _ _ _ [some (.ref (43 + 3)), some (.int x1), some (.int x2), some (.int x3), some (.int x4), some (.int y0), some (.int x6)] [.ref (62 + 3), .ref (43 + 3)] _ _ from ?_)
    refine zy_2 rfl rfl (show zyR _ _ _ _ [some (.ref (43 + 3)), some (.int x1), some (.int x2), some (.int x3), some (.int x4), some (.int y0), some (.int x6)] [.int x6, .ref (62 + 3), .ref (43 + 3)] _ _ from ?_)
    obtain ⟨c1, h⟩ := zy_if h
    refine zy_30 (c := 62) rfl rfl c1 (show zyR _ _ _ _ [some (.ref (43 + 3)), some (.int x1), some (.int x2), some (.int x3), some (.int x4), some (.int y0), some (.int x6)] [.long (s.2.1 62 (x6).toNatClampNeg), .ref (43 + 3)] _ _ from ?_)
    refine zy_41 rfl (show zyR _ _ _ _ [some (.ref (43 + 3)), some (.int x1), some (.int x2), some (.int x3), some (.int x4), some (.int y0), some (.int x6)] [.int ((s.2.1 62 (x6).toNatClampNeg)).toInt32, .ref (43 + 3)] _ _ from ?_)
    refine zy_0 rfl rfl (show zyR _ _ _ _ [some (.ref (43 + 3)), some (.int x1), some (.int x2), some (.int x3), some (.int x4), some (.int y0), some (.int x6)] [.ref (43 + 3), .int ((s.2.1 62 (x6).toNatClampNeg)).toInt32, .ref (43 + 3)] _ _ from ?_)
    refine zy_1r (c := 43) rfl rfl rfl (show zyR _ _ _ _ [some (.ref (43 + 3)), some (.int x1), some (.int x2), some (.int x3), some (.int x4), some (.int y0), some (.int x6)] [.ref (62 + 3), .int ((s.2.1 62 (x6).toNatClampNeg)).toInt32, .ref (43 + 3)] _ _ from ?_)
    refine zy_2 rfl rfl (show zyR _ _ _ _ [some (.ref (43 + 3)), some (.int x1), some (.int x2), some (.int x3), some (.int x4), some (.int y0), some (.int x6)] [.int x6, .ref (62 + 3), .int ((s.2.1 62 (x6).toNatClampNeg)).toInt32, .ref (43 + 3)] _ _ from ?_)
    refine zy_3 rfl rfl (show zyR _ _ _ _ [some (.ref (43 + 3)), some (.int x1), some (.int x2), some (.int x3), some (.int x4), some (.int y0), some (.int x6)] [.int (1 : Int32), .int x6, .ref (62 + 3), .int ((s.2.1 62 (x6).toNatClampNeg)).toInt32, .ref (43 + 3)] _ _ from ?_)
    refine zy_10 rfl (show zyR _ _ _ _ [some (.ref (43 + 3)), some (.int x1), some (.int x2), some (.int x3), some (.int x4), some (.int y0), some (.int x6)] [.int (x6 + (1 : Int32)), .ref (62 + 3), .int ((s.2.1 62 (x6).toNatClampNeg)).toInt32, .ref (43 + 3)] _ _ from ?_)
    obtain ⟨c2, h⟩ := zy_if h
    refine zy_30 (c := 62) rfl rfl c2 (show zyR _ _ _ _ [some (.ref (43 + 3)), some (.int x1), some (.int x2), some (.int x3), some (.int x4), some (.int y0), some (.int x6)] [.long (s.2.1 62 ((x6 + (1 : Int32))).toNatClampNeg), .int ((s.2.1 62 (x6).toNatClampNeg)).toInt32, .ref (43 + 3)] _ _ from ?_)
    refine zy_41 rfl (show zyR _ _ _ _ [some (.ref (43 + 3)), some (.int x1), some (.int x2), some (.int x3), some (.int x4), some (.int y0), some (.int x6)] [.int ((s.2.1 62 ((x6 + (1 : Int32))).toNatClampNeg)).toInt32, .int ((s.2.1 62 (x6).toNatClampNeg)).toInt32, .ref (43 + 3)] _ _ from ?_)
    obtain ⟨p3, hp3, h⟩ := zy_bind h
    refine zy_5 (c := 43) (as := [.int ((s.2.1 62 (x6).toNatClampNeg)).toInt32, .int ((s.2.1 62 ((x6 + (1 : Int32))).toNatClampNeg)).toInt32]) (rest := []) (L := [some (.ref (43 + 3)), some (.int ((s.2.1 62 (x6).toNatClampNeg)).toInt32), some (.int ((s.2.1 62 ((x6 + (1 : Int32))).toNatClampNeg)).toInt32)]) (d' := 1) rfl rfl rfl (Nat.le_of_ble_eq_true rfl) (Nat.le_of_ble_eq_true rfl) rfl (Nat.le_of_ble_eq_true rfl) rfl rfl (zyC180 hp3) ?_
    show zyR _ _ _ _ [some (.ref (43 + 3)), some (.int x1), some (.int x2), some (.int x3), some (.int x4), some (.int y0), some (.int x6)] [] _ _
    refine zy_22 rfl rfl rfl rfl (show zyR _ _ _ _ [some (.ref (43 + 3)), some (.int x1), some (.int x2), some (.int x3), some (.int (x4 + (1 : Int32))), some (.int y0), some (.int x6)] [] _ _ from ?_)
    exact zy_sub (show zy_le [some (.ref (43 + 3)), some (.int x1), some (.int x2), some (.int x3), some (.int (x4 + (1 : Int32))), some (.int y0), none] [some (.ref (43 + 3)), some (.int x1), some (.int x2), some (.int x3), some (.int (x4 + (1 : Int32))), some (.int y0), some (.int x6)] from ⟨rfl, ⟨rfl, ⟨rfl, ⟨rfl, ⟨rfl, ⟨rfl, trivial⟩⟩⟩⟩⟩⟩) (zyC181_204 hk69 h)
noncomputable def zyF181_171  (k69 : Int32 → Int32 → Int32 → Int32 → Int32 → zy_S → Option (Int32 × zy_S)) (x1 : Int32) (x2 : Int32) (x3 : Int32) (x4 : Int32) (x6 : Int32) (s : zy_S) : Option (Int32 × zy_S) :=
zyF181_172 k69 x1 x2 x3 x4 x6 (0 : Int32) s
theorem zyC181_171 {X : zx_X}  {k69 : Int32 → Int32 → Int32 → Int32 → Int32 → zy_S → Option (Int32 × zy_S)}  (hk69 : ∀ (x1 : Int32) (x2 : Int32) (x3 : Int32) (x4 : Int32) (x5 : Int32) (s : zy_S) (r : Int32) (s' : zy_S), k69 x1 x2 x3 x4 x5 s = some (r, s') → zyR X 3 181 69 [some (.ref (43 + 3)), some (.int x1), some (.int x2), some (.int x3), some (.int x4), some (.int x5), none] [] s (zyE (some (.int r)) s')) {x1 : Int32} {x2 : Int32} {x3 : Int32} {x4 : Int32} {x6 : Int32} {s : zy_S} {r : Int32} {s' : zy_S}  (h : zyF181_171 k69 x1 x2 x3 x4 x6 s = some (r, s')) : zyR X 3 181 171 [some (.ref (43 + 3)), some (.int x1), some (.int x2), some (.int x3), some (.int x4), none, some (.int x6)] [] s (zyE (some (.int r)) s') := by
  unfold zyF181_171 at h
  refine zy_3 rfl rfl (show zyR _ _ _ _ [some (.ref (43 + 3)), some (.int x1), some (.int x2), some (.int x3), some (.int x4), none, some (.int x6)] [.int (0 : Int32)] _ _ from ?_)
  exact zy_sub (show zy_le [some (.ref (43 + 3)), some (.int x1), some (.int x2), some (.int x3), some (.int x4), none, some (.int x6)] [some (.ref (43 + 3)), some (.int x1), some (.int x2), some (.int x3), some (.int x4), none, some (.int x6)] from ⟨rfl, ⟨rfl, ⟨rfl, ⟨rfl, ⟨rfl, ⟨rfl, trivial⟩⟩⟩⟩⟩⟩) (zyC181_172 hk69 h)
noncomputable def zyF181_111  (k69 : Int32 → Int32 → Int32 → Int32 → Int32 → zy_S → Option (Int32 × zy_S)) (x1 : Int32) (x2 : Int32) (x3 : Int32) (x4 : Int32) (y0 : Int32) (s : zy_S) : Option (Int32 × zy_S) :=
if y0 = 0 then
zyF181_171 k69 x1 x2 x3 x4 ((((60 : Int32) * x1) + x2) + ((2 : Int32) * x4)) s
else
if zy_in ((((60 : Int32) * x1) + x2) + ((2 : Int32) * x4)) 360 then
(zyF179 (s.2.1 62 (((((60 : Int32) * x1) + x2) + ((2 : Int32) * x4))).toNatClampNeg) (0 : Int64) (4095 : Int64) s).bind fun p6 =>
if p6.1 = 0 then
zyF181_171 k69 x1 x2 x3 x4 ((((60 : Int32) * x1) + x2) + ((2 : Int32) * x4)) p6.2
else
if zy_in (((((60 : Int32) * x1) + x2) + ((2 : Int32) * x4)) + (1 : Int32)) 360 then
(zyF179 (p6.2.2.1 62 ((((((60 : Int32) * x1) + x2) + ((2 : Int32) * x4)) + (1 : Int32))).toNatClampNeg) (0 : Int64) (9 : Int64) p6.2).bind fun p8 =>
if p8.1 = 0 then
zyF181_171 k69 x1 x2 x3 x4 ((((60 : Int32) * x1) + x2) + ((2 : Int32) * x4)) p8.2
else
zyF181_172 k69 x1 x2 x3 x4 ((((60 : Int32) * x1) + x2) + ((2 : Int32) * x4)) (1 : Int32) p8.2
else none
else none
theorem zyC181_111 {X : zx_X}  {k69 : Int32 → Int32 → Int32 → Int32 → Int32 → zy_S → Option (Int32 × zy_S)}  (hk69 : ∀ (x1 : Int32) (x2 : Int32) (x3 : Int32) (x4 : Int32) (x5 : Int32) (s : zy_S) (r : Int32) (s' : zy_S), k69 x1 x2 x3 x4 x5 s = some (r, s') → zyR X 3 181 69 [some (.ref (43 + 3)), some (.int x1), some (.int x2), some (.int x3), some (.int x4), some (.int x5), none] [] s (zyE (some (.int r)) s')) {x1 : Int32} {x2 : Int32} {x3 : Int32} {x4 : Int32} {y0 : Int32} {s : zy_S} {r : Int32} {s' : zy_S}  (h : zyF181_111 k69 x1 x2 x3 x4 y0 s = some (r, s')) : zyR X 3 181 111 [some (.ref (43 + 3)), some (.int x1), some (.int x2), some (.int x3), some (.int x4), none, none] [.int y0] s (zyE (some (.int r)) s') := by
  unfold zyF181_111 at h
  refine zy_23 rfl rfl (show zyR _ _ _ _ [some (.ref (43 + 3)), some (.int x1), some (.int x2), some (.int x3), some (.int x4), some (.int y0), none] [] _ _ from ?_)
  refine zy_3 rfl rfl (show zyR _ _ _ _ [some (.ref (43 + 3)), some (.int x1), some (.int x2), some (.int x3), some (.int x4), some (.int y0), none] [.int (60 : Int32)] _ _ from ?_)
  refine zy_2 rfl rfl (show zyR _ _ _ _ [some (.ref (43 + 3)), some (.int x1), some (.int x2), some (.int x3), some (.int x4), some (.int y0), none] [.int x1, .int (60 : Int32)] _ _ from ?_)
  refine zy_12 rfl (show zyR _ _ _ _ [some (.ref (43 + 3)), some (.int x1), some (.int x2), some (.int x3), some (.int x4), some (.int y0), none] [.int ((60 : Int32) * x1)] _ _ from ?_)
  refine zy_2 rfl rfl (show zyR _ _ _ _ [some (.ref (43 + 3)), some (.int x1), some (.int x2), some (.int x3), some (.int x4), some (.int y0), none] [.int x2, .int ((60 : Int32) * x1)] _ _ from ?_)
  refine zy_10 rfl (show zyR _ _ _ _ [some (.ref (43 + 3)), some (.int x1), some (.int x2), some (.int x3), some (.int x4), some (.int y0), none] [.int (((60 : Int32) * x1) + x2)] _ _ from ?_)
  refine zy_3 rfl rfl (show zyR _ _ _ _ [some (.ref (43 + 3)), some (.int x1), some (.int x2), some (.int x3), some (.int x4), some (.int y0), none] [.int (2 : Int32), .int (((60 : Int32) * x1) + x2)] _ _ from ?_)
  refine zy_2 rfl rfl (show zyR _ _ _ _ [some (.ref (43 + 3)), some (.int x1), some (.int x2), some (.int x3), some (.int x4), some (.int y0), none] [.int x4, .int (2 : Int32), .int (((60 : Int32) * x1) + x2)] _ _ from ?_)
  refine zy_12 rfl (show zyR _ _ _ _ [some (.ref (43 + 3)), some (.int x1), some (.int x2), some (.int x3), some (.int x4), some (.int y0), none] [.int ((2 : Int32) * x4), .int (((60 : Int32) * x1) + x2)] _ _ from ?_)
  refine zy_10 rfl (show zyR _ _ _ _ [some (.ref (43 + 3)), some (.int x1), some (.int x2), some (.int x3), some (.int x4), some (.int y0), none] [.int ((((60 : Int32) * x1) + x2) + ((2 : Int32) * x4))] _ _ from ?_)
  refine zy_23 rfl rfl (show zyR _ _ _ _ [some (.ref (43 + 3)), some (.int x1), some (.int x2), some (.int x3), some (.int x4), some (.int y0), some (.int ((((60 : Int32) * x1) + x2) + ((2 : Int32) * x4)))] [] _ _ from ?_)
  refine zy_2 rfl rfl (show zyR _ _ _ _ [some (.ref (43 + 3)), some (.int x1), some (.int x2), some (.int x3), some (.int x4), some (.int y0), some (.int ((((60 : Int32) * x1) + x2) + ((2 : Int32) * x4)))] [.int y0] _ _ from ?_)
  refine zy_24_0 rfl (fun b11 => (show zyR _ _ _ _ [some (.ref (43 + 3)), some (.int x1), some (.int x2), some (.int x3), some (.int x4), some (.int y0), some (.int ((((60 : Int32) * x1) + x2) + ((2 : Int32) * x4)))] [] _ _ from ?_)) (fun b11 => (show zyR _ _ _ _ [some (.ref (43 + 3)), some (.int x1), some (.int x2), some (.int x3), some (.int x4), some (.int y0), some (.int ((((60 : Int32) * x1) + x2) + ((2 : Int32) * x4)))] [] _ _ from ?_))
  · replace h := zy_ifp h b11
    exact zy_sub (show zy_le [some (.ref (43 + 3)), some (.int x1), some (.int x2), some (.int x3), some (.int x4), none, some (.int ((((60 : Int32) * x1) + x2) + ((2 : Int32) * x4)))] [some (.ref (43 + 3)), some (.int x1), some (.int x2), some (.int x3), some (.int x4), some (.int y0), some (.int ((((60 : Int32) * x1) + x2) + ((2 : Int32) * x4)))] from ⟨rfl, ⟨rfl, ⟨rfl, ⟨rfl, ⟨rfl, ⟨rfl, trivial⟩⟩⟩⟩⟩⟩) (zyC181_171 hk69 h)
  · replace h := zy_ifn h b11
    refine zy_0 rfl rfl (show zyR _ _ _ _ [some (.ref (43 + 3)), some (.int x1), some (.int x2), some (.int x3), some (.int x4), some (.int y0), some (.int ((((60 : Int32) * x1) + x2) + ((2 : Int32) * x4)))] [.ref (43 + 3)] _ _ from ?_)
    refine zy_1r (c := 43) rfl rfl rfl (show zyR _ _ _ _ [some (.ref (43 + 3)), some (.int x1), some (.int x2), some (.int x3), some (.int x4), some (.int y0), some (.int ((((60 : Int32) * x1) + x2) + ((2 : Int32) * x4)))] [.ref (62 + 3)] _ _ from ?_)
    refine zy_2 rfl rfl (show zyR _ _ _ _ [some (.ref (43 + 3)), some (.int x1), some (.int x2), some (.int x3), some (.int x4), some (.int y0), some (.int ((((60 : Int32) * x1) + x2) + ((2 : Int32) * x4)))] [.int ((((60 : Int32) * x1) + x2) + ((2 : Int32) * x4)), .ref (62 + 3)] _ _ from ?_)
    obtain ⟨c5, h⟩ := zy_if h
    refine zy_30 (c := 62) rfl rfl c5 (show zyR _ _ _ _ [some (.ref (43 + 3)), some (.int x1), some (.int x2), some (.int x3), some (.int x4), some (.int y0), some (.int ((((60 : Int32) * x1) + x2) + ((2 : Int32) * x4)))] [.long (s.2.1 62 (((((60 : Int32) * x1) + x2) + ((2 : Int32) * x4))).toNatClampNeg)] _ _ from ?_)
    refine zy_36 rfl rfl (show zyR _ _ _ _ [some (.ref (43 + 3)), some (.int x1), some (.int x2), some (.int x3), some (.int x4), some (.int y0), some (.int ((((60 : Int32) * x1) + x2) + ((2 : Int32) * x4)))] [.long (0 : Int64), .long (s.2.1 62 (((((60 : Int32) * x1) + x2) + ((2 : Int32) * x4))).toNatClampNeg)] _ _ from ?_)
    refine zy_36c rfl rfl (show zyR _ _ _ _ [some (.ref (43 + 3)), some (.int x1), some (.int x2), some (.int x3), some (.int x4), some (.int y0), some (.int ((((60 : Int32) * x1) + x2) + ((2 : Int32) * x4)))] [.long (4095 : Int64), .long (0 : Int64), .long (s.2.1 62 (((((60 : Int32) * x1) + x2) + ((2 : Int32) * x4))).toNatClampNeg)] _ _ from ?_)
    obtain ⟨p6, hp6, h⟩ := zy_bind h
    refine zy_60 (as := [.long (s.2.1 62 (((((60 : Int32) * x1) + x2) + ((2 : Int32) * x4))).toNatClampNeg), .long (0 : Int64), .long (4095 : Int64)]) (rest := []) (L := [some (.long (s.2.1 62 (((((60 : Int32) * x1) + x2) + ((2 : Int32) * x4))).toNatClampNeg)), none, some (.long (0 : Int64)), none, some (.long (4095 : Int64)), none]) (d' := 1) rfl rfl (Nat.le_of_ble_eq_true rfl) (Nat.le_of_ble_eq_true rfl) rfl (Nat.le_of_ble_eq_true rfl) rfl rfl (zyC179 hp6) ?_
    show zyR _ _ _ _ [some (.ref (43 + 3)), some (.int x1), some (.int x2), some (.int x3), some (.int x4), some (.int y0), some (.int ((((60 : Int32) * x1) + x2) + ((2 : Int32) * x4)))] [.int p6.1] _ _
    refine zy_24_0 rfl (fun b10 => (show zyR _ _ _ _ [some (.ref (43 + 3)), some (.int x1), some (.int x2), some (.int x3), some (.int x4), some (.int y0), some (.int ((((60 : Int32) * x1) + x2) + ((2 : Int32) * x4)))] [] _ _ from ?_)) (fun b10 => (show zyR _ _ _ _ [some (.ref (43 + 3)), some (.int x1), some (.int x2), some (.int x3), some (.int x4), some (.int y0), some (.int ((((60 : Int32) * x1) + x2) + ((2 : Int32) * x4)))] [] _ _ from ?_))
    · replace h := zy_ifp h b10
      exact zy_sub (show zy_le [some (.ref (43 + 3)), some (.int x1), some (.int x2), some (.int x3), some (.int x4), none, some (.int ((((60 : Int32) * x1) + x2) + ((2 : Int32) * x4)))] [some (.ref (43 + 3)), some (.int x1), some (.int x2), some (.int x3), some (.int x4), some (.int y0), some (.int ((((60 : Int32) * x1) + x2) + ((2 : Int32) * x4)))] from ⟨rfl, ⟨rfl, ⟨rfl, ⟨rfl, ⟨rfl, ⟨rfl, trivial⟩⟩⟩⟩⟩⟩) (zyC181_171 hk69 h)
    · replace h := zy_ifn h b10
      refine zy_0 rfl rfl (show zyR _ _ _ _ [some (.ref (43 + 3)), some (.int x1), some (.int x2), some (.int x3), some (.int x4), some (.int y0), some (.int ((((60 : Int32) * x1) + x2) + ((2 : Int32) * x4)))] [.ref (43 + 3)] _ _ from ?_)
      refine zy_1r (c := 43) rfl rfl rfl (show zyR _ _ _ _ [some (.ref (43 + 3)), some (.int x1), some (.int x2), some (.int x3), some (.int x4), some (.int y0), some (.int ((((60 : Int32) * x1) + x2) + ((2 : Int32) * x4)))] [.ref (62 + 3)] _ _ from ?_)
      refine zy_2 rfl rfl (show zyR _ _ _ _ [some (.ref (43 + 3)), some (.int x1), some (.int x2), some (.int x3), some (.int x4), some (.int y0), some (.int ((((60 : Int32) * x1) + x2) + ((2 : Int32) * x4)))] [.int ((((60 : Int32) * x1) + x2) + ((2 : Int32) * x4)), .ref (62 + 3)] _ _ from ?_)
      refine zy_3 rfl rfl (show zyR _ _ _ _ [some (.ref (43 + 3)), some (.int x1), some (.int x2), some (.int x3), some (.int x4), some (.int y0), some (.int ((((60 : Int32) * x1) + x2) + ((2 : Int32) * x4)))] [.int (1 : Int32), .int ((((60 : Int32) * x1) + x2) + ((2 : Int32) * x4)), .ref (62 + 3)] _ _ from ?_)
      refine zy_10 rfl (show zyR _ _ _ _ [some (.ref (43 + 3)), some (.int x1), some (.int x2), some (.int x3), some (.int x4), some (.int y0), some (.int ((((60 : Int32) * x1) + x2) + ((2 : Int32) * x4)))] [.int (((((60 : Int32) * x1) + x2) + ((2 : Int32) * x4)) + (1 : Int32)), .ref (62 + 3)] _ _ from ?_)
      obtain ⟨c7, h⟩ := zy_if h
      refine zy_30 (c := 62) rfl rfl c7 (show zyR _ _ _ _ [some (.ref (43 + 3)), some (.int x1), some (.int x2), some (.int x3), some (.int x4), some (.int y0), some (.int ((((60 : Int32) * x1) + x2) + ((2 : Int32) * x4)))] [.long (p6.2.2.1 62 ((((((60 : Int32) * x1) + x2) + ((2 : Int32) * x4)) + (1 : Int32))).toNatClampNeg)] _ _ from ?_)
      refine zy_36 rfl rfl (show zyR _ _ _ _ [some (.ref (43 + 3)), some (.int x1), some (.int x2), some (.int x3), some (.int x4), some (.int y0), some (.int ((((60 : Int32) * x1) + x2) + ((2 : Int32) * x4)))] [.long (0 : Int64), .long (p6.2.2.1 62 ((((((60 : Int32) * x1) + x2) + ((2 : Int32) * x4)) + (1 : Int32))).toNatClampNeg)] _ _ from ?_)
      refine zy_36c rfl rfl (show zyR _ _ _ _ [some (.ref (43 + 3)), some (.int x1), some (.int x2), some (.int x3), some (.int x4), some (.int y0), some (.int ((((60 : Int32) * x1) + x2) + ((2 : Int32) * x4)))] [.long (9 : Int64), .long (0 : Int64), .long (p6.2.2.1 62 ((((((60 : Int32) * x1) + x2) + ((2 : Int32) * x4)) + (1 : Int32))).toNatClampNeg)] _ _ from ?_)
      obtain ⟨p8, hp8, h⟩ := zy_bind h
      refine zy_60 (as := [.long (p6.2.2.1 62 ((((((60 : Int32) * x1) + x2) + ((2 : Int32) * x4)) + (1 : Int32))).toNatClampNeg), .long (0 : Int64), .long (9 : Int64)]) (rest := []) (L := [some (.long (p6.2.2.1 62 ((((((60 : Int32) * x1) + x2) + ((2 : Int32) * x4)) + (1 : Int32))).toNatClampNeg)), none, some (.long (0 : Int64)), none, some (.long (9 : Int64)), none]) (d' := 1) rfl rfl (Nat.le_of_ble_eq_true rfl) (Nat.le_of_ble_eq_true rfl) rfl (Nat.le_of_ble_eq_true rfl) rfl rfl (zyC179 hp8) ?_
      show zyR _ _ _ _ [some (.ref (43 + 3)), some (.int x1), some (.int x2), some (.int x3), some (.int x4), some (.int y0), some (.int ((((60 : Int32) * x1) + x2) + ((2 : Int32) * x4)))] [.int p8.1] _ _
      refine zy_24_0 rfl (fun b9 => (show zyR _ _ _ _ [some (.ref (43 + 3)), some (.int x1), some (.int x2), some (.int x3), some (.int x4), some (.int y0), some (.int ((((60 : Int32) * x1) + x2) + ((2 : Int32) * x4)))] [] _ _ from ?_)) (fun b9 => (show zyR _ _ _ _ [some (.ref (43 + 3)), some (.int x1), some (.int x2), some (.int x3), some (.int x4), some (.int y0), some (.int ((((60 : Int32) * x1) + x2) + ((2 : Int32) * x4)))] [] _ _ from ?_))
      · replace h := zy_ifp h b9
        exact zy_sub (show zy_le [some (.ref (43 + 3)), some (.int x1), some (.int x2), some (.int x3), some (.int x4), none, some (.int ((((60 : Int32) * x1) + x2) + ((2 : Int32) * x4)))] [some (.ref (43 + 3)), some (.int x1), some (.int x2), some (.int x3), some (.int x4), some (.int y0), some (.int ((((60 : Int32) * x1) + x2) + ((2 : Int32) * x4)))] from ⟨rfl, ⟨rfl, ⟨rfl, ⟨rfl, ⟨rfl, ⟨rfl, trivial⟩⟩⟩⟩⟩⟩) (zyC181_171 hk69 h)
      · replace h := zy_ifn h b9
        refine zy_3 rfl rfl (show zyR _ _ _ _ [some (.ref (43 + 3)), some (.int x1), some (.int x2), some (.int x3), some (.int x4), some (.int y0), some (.int ((((60 : Int32) * x1) + x2) + ((2 : Int32) * x4)))] [.int (1 : Int32)] _ _ from ?_)
        refine zy_6 rfl (show zyR _ _ _ _ [some (.ref (43 + 3)), some (.int x1), some (.int x2), some (.int x3), some (.int x4), some (.int y0), some (.int ((((60 : Int32) * x1) + x2) + ((2 : Int32) * x4)))] [.int (1 : Int32)] _ _ from ?_)
        exact zy_sub (show zy_le [some (.ref (43 + 3)), some (.int x1), some (.int x2), some (.int x3), some (.int x4), none, some (.int ((((60 : Int32) * x1) + x2) + ((2 : Int32) * x4)))] [some (.ref (43 + 3)), some (.int x1), some (.int x2), some (.int x3), some (.int x4), some (.int y0), some (.int ((((60 : Int32) * x1) + x2) + ((2 : Int32) * x4)))] from ⟨rfl, ⟨rfl, ⟨rfl, ⟨rfl, ⟨rfl, ⟨rfl, trivial⟩⟩⟩⟩⟩⟩) (zyC181_172 hk69 h)
noncomputable def zyF181_110  (k69 : Int32 → Int32 → Int32 → Int32 → Int32 → zy_S → Option (Int32 × zy_S)) (x1 : Int32) (x2 : Int32) (x3 : Int32) (x4 : Int32) (s : zy_S) : Option (Int32 × zy_S) :=
zyF181_111 k69 x1 x2 x3 x4 (0 : Int32) s
theorem zyC181_110 {X : zx_X}  {k69 : Int32 → Int32 → Int32 → Int32 → Int32 → zy_S → Option (Int32 × zy_S)}  (hk69 : ∀ (x1 : Int32) (x2 : Int32) (x3 : Int32) (x4 : Int32) (x5 : Int32) (s : zy_S) (r : Int32) (s' : zy_S), k69 x1 x2 x3 x4 x5 s = some (r, s') → zyR X 3 181 69 [some (.ref (43 + 3)), some (.int x1), some (.int x2), some (.int x3), some (.int x4), some (.int x5), none] [] s (zyE (some (.int r)) s')) {x1 : Int32} {x2 : Int32} {x3 : Int32} {x4 : Int32} {s : zy_S} {r : Int32} {s' : zy_S}  (h : zyF181_110 k69 x1 x2 x3 x4 s = some (r, s')) : zyR X 3 181 110 [some (.ref (43 + 3)), some (.int x1), some (.int x2), some (.int x3), some (.int x4), none, none] [] s (zyE (some (.int r)) s') := by
  unfold zyF181_110 at h
  refine zy_3 rfl rfl (show zyR _ _ _ _ [some (.ref (43 + 3)), some (.int x1), some (.int x2), some (.int x3), some (.int x4), none, none] [.int (0 : Int32)] _ _ from ?_)
  exact zy_sub (show zy_le [some (.ref (43 + 3)), some (.int x1), some (.int x2), some (.int x3), some (.int x4), none, none] [some (.ref (43 + 3)), some (.int x1), some (.int x2), some (.int x3), some (.int x4), none, none] from ⟨rfl, ⟨rfl, ⟨rfl, ⟨rfl, ⟨rfl, trivial⟩⟩⟩⟩⟩) (zyC181_111 hk69 h)
noncomputable def zyF181_69b  (k69 : Int32 → Int32 → Int32 → Int32 → Int32 → zy_S → Option (Int32 × zy_S)) (x1 : Int32) (x2 : Int32) (x3 : Int32) (x4 : Int32) (x5 : Int32) (s : zy_S) : Option (Int32 × zy_S) :=
if x5 = 0 then
some (x4, s)
else
if x3 ≤ x4 then
some (x4, s)
else
if zy_in x1 6 then
if (((s.1 61 (x1).toNatClampNeg) - (2 : Int32)) - ((2 : Int32) * x4)) < x2 then
zyF181_110 k69 x1 x2 x3 x4 s
else
if (8 : Int32) ≤ (s.1 43 6) then
zyF181_110 k69 x1 x2 x3 x4 s
else
zyF181_111 k69 x1 x2 x3 x4 (1 : Int32) s
else none
theorem zyC181_69b {X : zx_X}  {k69 : Int32 → Int32 → Int32 → Int32 → Int32 → zy_S → Option (Int32 × zy_S)}  (hk69 : ∀ (x1 : Int32) (x2 : Int32) (x3 : Int32) (x4 : Int32) (x5 : Int32) (s : zy_S) (r : Int32) (s' : zy_S), k69 x1 x2 x3 x4 x5 s = some (r, s') → zyR X 3 181 69 [some (.ref (43 + 3)), some (.int x1), some (.int x2), some (.int x3), some (.int x4), some (.int x5), none] [] s (zyE (some (.int r)) s')) {x1 : Int32} {x2 : Int32} {x3 : Int32} {x4 : Int32} {x5 : Int32} {s : zy_S} {r : Int32} {s' : zy_S}  (h : zyF181_69b k69 x1 x2 x3 x4 x5 s = some (r, s')) : zyR X 3 181 69 [some (.ref (43 + 3)), some (.int x1), some (.int x2), some (.int x3), some (.int x4), some (.int x5), none] [] s (zyE (some (.int r)) s') := by
  unfold zyF181_69b at h
  refine zy_2 rfl rfl (show zyR _ _ _ _ [some (.ref (43 + 3)), some (.int x1), some (.int x2), some (.int x3), some (.int x4), some (.int x5), none] [.int x5] _ _ from ?_)
  refine zy_24_0 rfl (fun b16 => (show zyR _ _ _ _ [some (.ref (43 + 3)), some (.int x1), some (.int x2), some (.int x3), some (.int x4), some (.int x5), none] [] _ _ from ?_)) (fun b16 => (show zyR _ _ _ _ [some (.ref (43 + 3)), some (.int x1), some (.int x2), some (.int x3), some (.int x4), some (.int x5), none] [] _ _ from ?_))
  · replace h := zy_ifp h b16
    refine zy_2 rfl rfl (show zyR _ _ _ _ [some (.ref (43 + 3)), some (.int x1), some (.int x2), some (.int x3), some (.int x4), some (.int x5), none] [.int x4] _ _ from ?_)
    obtain ⟨rfl, rfl⟩ := zy_pi h
    exact zy_4 rfl ⟨rfl, rfl⟩
  · replace h := zy_ifn h b16
    refine zy_2 rfl rfl (show zyR _ _ _ _ [some (.ref (43 + 3)), some (.int x1), some (.int x2), some (.int x3), some (.int x4), some (.int x5), none] [.int x4] _ _ from ?_)
    refine zy_2 rfl rfl (show zyR _ _ _ _ [some (.ref (43 + 3)), some (.int x1), some (.int x2), some (.int x3), some (.int x4), some (.int x5), none] [.int x3, .int x4] _ _ from ?_)
    refine zy_25_3 rfl (fun b15 => (show zyR _ _ _ _ [some (.ref (43 + 3)), some (.int x1), some (.int x2), some (.int x3), some (.int x4), some (.int x5), none] [] _ _ from ?_)) (fun b15 => (show zyR _ _ _ _ [some (.ref (43 + 3)), some (.int x1), some (.int x2), some (.int x3), some (.int x4), some (.int x5), none] [] _ _ from ?_))
    · replace h := zy_ifp h b15
      refine zy_2 rfl rfl (show zyR _ _ _ _ [some (.ref (43 + 3)), some (.int x1), some (.int x2), some (.int x3), some (.int x4), some (.int x5), none] [.int x4] _ _ from ?_)
      obtain ⟨rfl, rfl⟩ := zy_pi h
      exact zy_4 rfl ⟨rfl, rfl⟩
    · replace h := zy_ifn h b15
      refine zy_2 rfl rfl (show zyR _ _ _ _ [some (.ref (43 + 3)), some (.int x1), some (.int x2), some (.int x3), some (.int x4), some (.int x5), none] [.int x2] _ _ from ?_)
      refine zy_0 rfl rfl (show zyR _ _ _ _ [some (.ref (43 + 3)), some (.int x1), some (.int x2), some (.int x3), some (.int x4), some (.int x5), none] [.ref (43 + 3), .int x2] _ _ from ?_)
      refine zy_1r (c := 43) rfl rfl rfl (show zyR _ _ _ _ [some (.ref (43 + 3)), some (.int x1), some (.int x2), some (.int x3), some (.int x4), some (.int x5), none] [.ref (61 + 3), .int x2] _ _ from ?_)
      refine zy_2 rfl rfl (show zyR _ _ _ _ [some (.ref (43 + 3)), some (.int x1), some (.int x2), some (.int x3), some (.int x4), some (.int x5), none] [.int x1, .ref (61 + 3), .int x2] _ _ from ?_)
      obtain ⟨c12, h⟩ := zy_if h
      refine zy_26 (c := 61) rfl rfl c12 (show zyR _ _ _ _ [some (.ref (43 + 3)), some (.int x1), some (.int x2), some (.int x3), some (.int x4), some (.int x5), none] [.int (s.1 61 (x1).toNatClampNeg), .int x2] _ _ from ?_)
      refine zy_3 rfl rfl (show zyR _ _ _ _ [some (.ref (43 + 3)), some (.int x1), some (.int x2), some (.int x3), some (.int x4), some (.int x5), none] [.int (2 : Int32), .int (s.1 61 (x1).toNatClampNeg), .int x2] _ _ from ?_)
      refine zy_11 rfl (show zyR _ _ _ _ [some (.ref (43 + 3)), some (.int x1), some (.int x2), some (.int x3), some (.int x4), some (.int x5), none] [.int ((s.1 61 (x1).toNatClampNeg) - (2 : Int32)), .int x2] _ _ from ?_)
      refine zy_3 rfl rfl (show zyR _ _ _ _ [some (.ref (43 + 3)), some (.int x1), some (.int x2), some (.int x3), some (.int x4), some (.int x5), none] [.int (2 : Int32), .int ((s.1 61 (x1).toNatClampNeg) - (2 : Int32)), .int x2] _ _ from ?_)
      refine zy_2 rfl rfl (show zyR _ _ _ _ [some (.ref (43 + 3)), some (.int x1), some (.int x2), some (.int x3), some (.int x4), some (.int x5), none] [.int x4, .int (2 : Int32), .int ((s.1 61 (x1).toNatClampNeg) - (2 : Int32)), .int x2] _ _ from ?_)
      refine zy_12 rfl (show zyR _ _ _ _ [some (.ref (43 + 3)), some (.int x1), some (.int x2), some (.int x3), some (.int x4), some (.int x5), none] [.int ((2 : Int32) * x4), .int ((s.1 61 (x1).toNatClampNeg) - (2 : Int32)), .int x2] _ _ from ?_)
      refine zy_11 rfl (show zyR _ _ _ _ [some (.ref (43 + 3)), some (.int x1), some (.int x2), some (.int x3), some (.int x4), some (.int x5), none] [.int (((s.1 61 (x1).toNatClampNeg) - (2 : Int32)) - ((2 : Int32) * x4)), .int x2] _ _ from ?_)
      refine zy_25_4 rfl (fun b14 => (show zyR _ _ _ _ [some (.ref (43 + 3)), some (.int x1), some (.int x2), some (.int x3), some (.int x4), some (.int x5), none] [] _ _ from ?_)) (fun b14 => (show zyR _ _ _ _ [some (.ref (43 + 3)), some (.int x1), some (.int x2), some (.int x3), some (.int x4), some (.int x5), none] [] _ _ from ?_))
      · replace h := zy_ifp h b14
        exact zy_sub (show zy_le [some (.ref (43 + 3)), some (.int x1), some (.int x2), some (.int x3), some (.int x4), none, none] [some (.ref (43 + 3)), some (.int x1), some (.int x2), some (.int x3), some (.int x4), some (.int x5), none] from ⟨rfl, ⟨rfl, ⟨rfl, ⟨rfl, ⟨rfl, trivial⟩⟩⟩⟩⟩) (zyC181_110 hk69 h)
      · replace h := zy_ifn h b14
        refine zy_0 rfl rfl (show zyR _ _ _ _ [some (.ref (43 + 3)), some (.int x1), some (.int x2), some (.int x3), some (.int x4), some (.int x5), none] [.ref (43 + 3)] _ _ from ?_)
        refine zy_1 (c := 43) rfl rfl rfl (show zyR _ _ _ _ [some (.ref (43 + 3)), some (.int x1), some (.int x2), some (.int x3), some (.int x4), some (.int x5), none] [.int (s.1 43 6)] _ _ from ?_)
        refine zy_3 rfl rfl (show zyR _ _ _ _ [some (.ref (43 + 3)), some (.int x1), some (.int x2), some (.int x3), some (.int x4), some (.int x5), none] [.int (8 : Int32), .int (s.1 43 6)] _ _ from ?_)
        refine zy_25_3 rfl (fun b13 => (show zyR _ _ _ _ [some (.ref (43 + 3)), some (.int x1), some (.int x2), some (.int x3), some (.int x4), some (.int x5), none] [] _ _ from ?_)) (fun b13 => (show zyR _ _ _ _ [some (.ref (43 + 3)), some (.int x1), some (.int x2), some (.int x3), some (.int x4), some (.int x5), none] [] _ _ from ?_))
        · replace h := zy_ifp h b13
          exact zy_sub (show zy_le [some (.ref (43 + 3)), some (.int x1), some (.int x2), some (.int x3), some (.int x4), none, none] [some (.ref (43 + 3)), some (.int x1), some (.int x2), some (.int x3), some (.int x4), some (.int x5), none] from ⟨rfl, ⟨rfl, ⟨rfl, ⟨rfl, ⟨rfl, trivial⟩⟩⟩⟩⟩) (zyC181_110 hk69 h)
        · replace h := zy_ifn h b13
          refine zy_3 rfl rfl (show zyR _ _ _ _ [some (.ref (43 + 3)), some (.int x1), some (.int x2), some (.int x3), some (.int x4), some (.int x5), none] [.int (1 : Int32)] _ _ from ?_)
          refine zy_6 rfl (show zyR _ _ _ _ [some (.ref (43 + 3)), some (.int x1), some (.int x2), some (.int x3), some (.int x4), some (.int x5), none] [.int (1 : Int32)] _ _ from ?_)
          exact zy_sub (show zy_le [some (.ref (43 + 3)), some (.int x1), some (.int x2), some (.int x3), some (.int x4), none, none] [some (.ref (43 + 3)), some (.int x1), some (.int x2), some (.int x3), some (.int x4), some (.int x5), none] from ⟨rfl, ⟨rfl, ⟨rfl, ⟨rfl, ⟨rfl, trivial⟩⟩⟩⟩⟩) (zyC181_111 hk69 h)
noncomputable def zyF181_69   (n : Nat) : Int32 → Int32 → Int32 → Int32 → Int32 → zy_S → Option (Int32 × zy_S) := Nat.rec (fun _ _ _ _ _ _ => none) (fun _ k69 => zyF181_69b k69) n
theorem zyC181_69 {X : zx_X}     : ∀ (n : Nat) (x1 : Int32) (x2 : Int32) (x3 : Int32) (x4 : Int32) (x5 : Int32) (s : zy_S) (r : Int32) (s' : zy_S), zyF181_69 n x1 x2 x3 x4 x5 s = some (r, s') → zyR X 3 181 69 [some (.ref (43 + 3)), some (.int x1), some (.int x2), some (.int x3), some (.int x4), some (.int x5), none] [] s (zyE (some (.int r)) s')
  | 0, _, _, _, _, _ => by
    intro s r s'  h
    have h : (none : Option (Int32 × zy_S)) = some (r, s') := h
    cases h
  | n + 1, x1, x2, x3, x4, x5 => by
    intro s r s'  h
    exact zyC181_69b (k69 := zyF181_69 n) (fun x1 x2 x3 x4 x5 s r s'  h => zyC181_69  n x1 x2 x3 x4 x5 s r s'  h) h
noncomputable def zyF181_67   (x1 : Int32) (x2 : Int32) (x3 : Int32) (x4 : Int32) (y0 : Int32) (s : zy_S) : Option (Int32 × zy_S) :=
zyF181_69 zy_fu x1 x2 x3 x4 y0 s
theorem zyC181_67 {X : zx_X}     {x1 : Int32} {x2 : Int32} {x3 : Int32} {x4 : Int32} {y0 : Int32} {s : zy_S} {r : Int32} {s' : zy_S}  (h : zyF181_67 x1 x2 x3 x4 y0 s = some (r, s')) : zyR X 3 181 67 [some (.ref (43 + 3)), some (.int x1), some (.int x2), some (.int x3), some (.int x4), none, none] [.int y0] s (zyE (some (.int r)) s') := by
  unfold zyF181_67 at h
  refine zy_23 rfl rfl (show zyR _ _ _ _ [some (.ref (43 + 3)), some (.int x1), some (.int x2), some (.int x3), some (.int x4), some (.int y0), none] [] _ _ from ?_)
  exact zy_sub (show zy_le [some (.ref (43 + 3)), some (.int x1), some (.int x2), some (.int x3), some (.int x4), some (.int y0), none] [some (.ref (43 + 3)), some (.int x1), some (.int x2), some (.int x3), some (.int x4), some (.int y0), none] from ⟨rfl, ⟨rfl, ⟨rfl, ⟨rfl, ⟨rfl, ⟨rfl, trivial⟩⟩⟩⟩⟩⟩) (zyC181_69 zy_fu x1 x2 x3 x4 y0 s _ _ h)
noncomputable def zyF181_66   (x1 : Int32) (x2 : Int32) (x3 : Int32) (x4 : Int32) (s : zy_S) : Option (Int32 × zy_S) :=
zyF181_67 x1 x2 x3 x4 (0 : Int32) s
theorem zyC181_66 {X : zx_X}     {x1 : Int32} {x2 : Int32} {x3 : Int32} {x4 : Int32} {s : zy_S} {r : Int32} {s' : zy_S}  (h : zyF181_66 x1 x2 x3 x4 s = some (r, s')) : zyR X 3 181 66 [some (.ref (43 + 3)), some (.int x1), some (.int x2), some (.int x3), some (.int x4), none, none] [] s (zyE (some (.int r)) s') := by
  unfold zyF181_66 at h
  refine zy_3 rfl rfl (show zyR _ _ _ _ [some (.ref (43 + 3)), some (.int x1), some (.int x2), some (.int x3), some (.int x4), none, none] [.int (0 : Int32)] _ _ from ?_)
  exact zy_sub (show zy_le [some (.ref (43 + 3)), some (.int x1), some (.int x2), some (.int x3), some (.int x4), none, none] [some (.ref (43 + 3)), some (.int x1), some (.int x2), some (.int x3), some (.int x4), none, none] from ⟨rfl, ⟨rfl, ⟨rfl, ⟨rfl, ⟨rfl, trivial⟩⟩⟩⟩⟩) (zyC181_67 h)
noncomputable def zyF181_44   (x1 : Int32) (x2 : Int32) (x3 : Int32) (s : zy_S) : Option (Int32 × zy_S) :=
if zy_in x1 6 then
if (s.1 60 (x1).toNatClampNeg) ≠ (51 : Int32) then
zyF181_66 x1 x2 x3 (0 : Int32) s
else
if x2 < 0 then
zyF181_66 x1 x2 x3 (0 : Int32) s
else
zyF181_67 x1 x2 x3 (0 : Int32) (1 : Int32) s
else none
theorem zyC181_44 {X : zx_X}     {x1 : Int32} {x2 : Int32} {x3 : Int32} {s : zy_S} {r : Int32} {s' : zy_S}  (h : zyF181_44 x1 x2 x3 s = some (r, s')) : zyR X 3 181 44 [some (.ref (43 + 3)), some (.int x1), some (.int x2), some (.int x3), none, none, none] [] s (zyE (some (.int r)) s') := by
  unfold zyF181_44 at h
  refine zy_3 rfl rfl (show zyR _ _ _ _ [some (.ref (43 + 3)), some (.int x1), some (.int x2), some (.int x3), none, none, none] [.int (0 : Int32)] _ _ from ?_)
  refine zy_23 rfl rfl (show zyR _ _ _ _ [some (.ref (43 + 3)), some (.int x1), some (.int x2), some (.int x3), some (.int (0 : Int32)), none, none] [] _ _ from ?_)
  refine zy_0 rfl rfl (show zyR _ _ _ _ [some (.ref (43 + 3)), some (.int x1), some (.int x2), some (.int x3), some (.int (0 : Int32)), none, none] [.ref (43 + 3)] _ _ from ?_)
  refine zy_1r (c := 43) rfl rfl rfl (show zyR _ _ _ _ [some (.ref (43 + 3)), some (.int x1), some (.int x2), some (.int x3), some (.int (0 : Int32)), none, none] [.ref (60 + 3)] _ _ from ?_)
  refine zy_2 rfl rfl (show zyR _ _ _ _ [some (.ref (43 + 3)), some (.int x1), some (.int x2), some (.int x3), some (.int (0 : Int32)), none, none] [.int x1, .ref (60 + 3)] _ _ from ?_)
  obtain ⟨c17, h⟩ := zy_if h
  refine zy_26 (c := 60) rfl rfl c17 (show zyR _ _ _ _ [some (.ref (43 + 3)), some (.int x1), some (.int x2), some (.int x3), some (.int (0 : Int32)), none, none] [.int (s.1 60 (x1).toNatClampNeg)] _ _ from ?_)
  refine zy_3 rfl rfl (show zyR _ _ _ _ [some (.ref (43 + 3)), some (.int x1), some (.int x2), some (.int x3), some (.int (0 : Int32)), none, none] [.int (51 : Int32), .int (s.1 60 (x1).toNatClampNeg)] _ _ from ?_)
  refine zy_25_1 rfl (fun b19 => (show zyR _ _ _ _ [some (.ref (43 + 3)), some (.int x1), some (.int x2), some (.int x3), some (.int (0 : Int32)), none, none] [] _ _ from ?_)) (fun b19 => (show zyR _ _ _ _ [some (.ref (43 + 3)), some (.int x1), some (.int x2), some (.int x3), some (.int (0 : Int32)), none, none] [] _ _ from ?_))
  · replace h := zy_ifp h b19
    exact zy_sub (show zy_le [some (.ref (43 + 3)), some (.int x1), some (.int x2), some (.int x3), some (.int (0 : Int32)), none, none] [some (.ref (43 + 3)), some (.int x1), some (.int x2), some (.int x3), some (.int (0 : Int32)), none, none] from ⟨rfl, ⟨rfl, ⟨rfl, ⟨rfl, ⟨rfl, trivial⟩⟩⟩⟩⟩) (zyC181_66 h)
  · replace h := zy_ifn h b19
    refine zy_2 rfl rfl (show zyR _ _ _ _ [some (.ref (43 + 3)), some (.int x1), some (.int x2), some (.int x3), some (.int (0 : Int32)), none, none] [.int x2] _ _ from ?_)
    refine zy_24_2 rfl (fun b18 => (show zyR _ _ _ _ [some (.ref (43 + 3)), some (.int x1), some (.int x2), some (.int x3), some (.int (0 : Int32)), none, none] [] _ _ from ?_)) (fun b18 => (show zyR _ _ _ _ [some (.ref (43 + 3)), some (.int x1), some (.int x2), some (.int x3), some (.int (0 : Int32)), none, none] [] _ _ from ?_))
    · replace h := zy_ifp h b18
      exact zy_sub (show zy_le [some (.ref (43 + 3)), some (.int x1), some (.int x2), some (.int x3), some (.int (0 : Int32)), none, none] [some (.ref (43 + 3)), some (.int x1), some (.int x2), some (.int x3), some (.int (0 : Int32)), none, none] from ⟨rfl, ⟨rfl, ⟨rfl, ⟨rfl, ⟨rfl, trivial⟩⟩⟩⟩⟩) (zyC181_66 h)
    · replace h := zy_ifn h b18
      refine zy_3 rfl rfl (show zyR _ _ _ _ [some (.ref (43 + 3)), some (.int x1), some (.int x2), some (.int x3), some (.int (0 : Int32)), none, none] [.int (1 : Int32)] _ _ from ?_)
      refine zy_6 rfl (show zyR _ _ _ _ [some (.ref (43 + 3)), some (.int x1), some (.int x2), some (.int x3), some (.int (0 : Int32)), none, none] [.int (1 : Int32)] _ _ from ?_)
      exact zy_sub (show zy_le [some (.ref (43 + 3)), some (.int x1), some (.int x2), some (.int x3), some (.int (0 : Int32)), none, none] [some (.ref (43 + 3)), some (.int x1), some (.int x2), some (.int x3), some (.int (0 : Int32)), none, none] from ⟨rfl, ⟨rfl, ⟨rfl, ⟨rfl, ⟨rfl, trivial⟩⟩⟩⟩⟩) (zyC181_67 h)
noncomputable def zyF181   (x1 : Int32) (x2 : Int32) (x3 : Int32) (s : zy_S) : Option (Int32 × zy_S) :=
(zyF182 x1 s).bind fun p20 =>
if p20.1 = 0 then
some ((-1 : Int32), p20.2)
else
(zyF179 (x3).toInt64 (1 : Int64) (8 : Int64) p20.2).bind fun p21 =>
if p21.1 ≠ 0 then
if zy_in x1 6 then
if (p21.2.1 60 (x1).toNatClampNeg) < 0 then
zyF181_44 x1 x2 x3 p21.2
else
if zy_in x1 6 then
if (p21.2.1 60 (x1).toNatClampNeg) = (51 : Int32) then
zyF181_44 x1 x2 x3 p21.2
else
some ((-12 : Int32), p21.2)
else none
else none
else
some ((-1 : Int32), p21.2)
theorem zyC181 {X : zx_X}     {x1 : Int32} {x2 : Int32} {x3 : Int32} {s : zy_S} {r : Int32} {s' : zy_S}  (h : zyF181 x1 x2 x3 s = some (r, s')) : zyR X 3 181 0 [some (.ref (43 + 3)), some (.int x1), some (.int x2), some (.int x3), none, none, none] [] s (zyE (some (.int r)) s') := by
  unfold zyF181 at h
  refine zy_2 rfl rfl (show zyR _ _ _ _ [some (.ref (43 + 3)), some (.int x1), some (.int x2), some (.int x3), none, none, none] [.int x1] _ _ from ?_)
  obtain ⟨p20, hp20, h⟩ := zy_bind h
  refine zy_60 (as := [.int x1]) (rest := []) (L := [some (.int x1)]) (d' := 2) rfl rfl (Nat.le_of_ble_eq_true rfl) (Nat.le_of_ble_eq_true rfl) rfl (Nat.le_of_ble_eq_true rfl) rfl rfl (zyC182 hp20) ?_
  show zyR _ _ _ _ [some (.ref (43 + 3)), some (.int x1), some (.int x2), some (.int x3), none, none, none] [.int p20.1] _ _
  refine zy_24_0 rfl (fun b27 => (show zyR _ _ _ _ [some (.ref (43 + 3)), some (.int x1), some (.int x2), some (.int x3), none, none, none] [] _ _ from ?_)) (fun b27 => (show zyR _ _ _ _ [some (.ref (43 + 3)), some (.int x1), some (.int x2), some (.int x3), none, none, none] [] _ _ from ?_))
  · replace h := zy_ifp h b27
    refine zy_3 rfl rfl (show zyR _ _ _ _ [some (.ref (43 + 3)), some (.int x1), some (.int x2), some (.int x3), none, none, none] [.int (-1 : Int32)] _ _ from ?_)
    obtain ⟨rfl, rfl⟩ := zy_pi h
    exact zy_4 rfl ⟨rfl, rfl⟩
  · replace h := zy_ifn h b27
    refine zy_2 rfl rfl (show zyR _ _ _ _ [some (.ref (43 + 3)), some (.int x1), some (.int x2), some (.int x3), none, none, none] [.int x3] _ _ from ?_)
    refine zy_40 rfl (show zyR _ _ _ _ [some (.ref (43 + 3)), some (.int x1), some (.int x2), some (.int x3), none, none, none] [.long (x3).toInt64] _ _ from ?_)
    refine zy_36 rfl rfl (show zyR _ _ _ _ [some (.ref (43 + 3)), some (.int x1), some (.int x2), some (.int x3), none, none, none] [.long (1 : Int64), .long (x3).toInt64] _ _ from ?_)
    refine zy_36c rfl rfl (show zyR _ _ _ _ [some (.ref (43 + 3)), some (.int x1), some (.int x2), some (.int x3), none, none, none] [.long (8 : Int64), .long (1 : Int64), .long (x3).toInt64] _ _ from ?_)
    obtain ⟨p21, hp21, h⟩ := zy_bind h
    refine zy_60 (as := [.long (x3).toInt64, .long (1 : Int64), .long (8 : Int64)]) (rest := []) (L := [some (.long (x3).toInt64), none, some (.long (1 : Int64)), none, some (.long (8 : Int64)), none]) (d' := 1) rfl rfl (Nat.le_of_ble_eq_true rfl) (Nat.le_of_ble_eq_true rfl) rfl (Nat.le_of_ble_eq_true rfl) rfl rfl (zyC179 hp21) ?_
    show zyR _ _ _ _ [some (.ref (43 + 3)), some (.int x1), some (.int x2), some (.int x3), none, none, none] [.int p21.1] _ _
    refine zy_24_1 rfl (fun b26 => (show zyR _ _ _ _ [some (.ref (43 + 3)), some (.int x1), some (.int x2), some (.int x3), none, none, none] [] _ _ from ?_)) (fun b26 => (show zyR _ _ _ _ [some (.ref (43 + 3)), some (.int x1), some (.int x2), some (.int x3), none, none, none] [] _ _ from ?_))
    · replace h := zy_ifp h b26
      refine zy_0 rfl rfl (show zyR _ _ _ _ [some (.ref (43 + 3)), some (.int x1), some (.int x2), some (.int x3), none, none, none] [.ref (43 + 3)] _ _ from ?_)
      refine zy_1r (c := 43) rfl rfl rfl (show zyR _ _ _ _ [some (.ref (43 + 3)), some (.int x1), some (.int x2), some (.int x3), none, none, none] [.ref (60 + 3)] _ _ from ?_)
      refine zy_2 rfl rfl (show zyR _ _ _ _ [some (.ref (43 + 3)), some (.int x1), some (.int x2), some (.int x3), none, none, none] [.int x1, .ref (60 + 3)] _ _ from ?_)
      obtain ⟨c22, h⟩ := zy_if h
      refine zy_26 (c := 60) rfl rfl c22 (show zyR _ _ _ _ [some (.ref (43 + 3)), some (.int x1), some (.int x2), some (.int x3), none, none, none] [.int (p21.2.1 60 (x1).toNatClampNeg)] _ _ from ?_)
      refine zy_24_2 rfl (fun b25 => (show zyR _ _ _ _ [some (.ref (43 + 3)), some (.int x1), some (.int x2), some (.int x3), none, none, none] [] _ _ from ?_)) (fun b25 => (show zyR _ _ _ _ [some (.ref (43 + 3)), some (.int x1), some (.int x2), some (.int x3), none, none, none] [] _ _ from ?_))
      · replace h := zy_ifp h b25
        exact zy_sub (show zy_le [some (.ref (43 + 3)), some (.int x1), some (.int x2), some (.int x3), none, none, none] [some (.ref (43 + 3)), some (.int x1), some (.int x2), some (.int x3), none, none, none] from ⟨rfl, ⟨rfl, ⟨rfl, ⟨rfl, trivial⟩⟩⟩⟩) (zyC181_44 h)
      · replace h := zy_ifn h b25
        refine zy_0 rfl rfl (show zyR _ _ _ _ [some (.ref (43 + 3)), some (.int x1), some (.int x2), some (.int x3), none, none, none] [.ref (43 + 3)] _ _ from ?_)
        refine zy_1r (c := 43) rfl rfl rfl (show zyR _ _ _ _ [some (.ref (43 + 3)), some (.int x1), some (.int x2), some (.int x3), none, none, none] [.ref (60 + 3)] _ _ from ?_)
        refine zy_2 rfl rfl (show zyR _ _ _ _ [some (.ref (43 + 3)), some (.int x1), some (.int x2), some (.int x3), none, none, none] [.int x1, .ref (60 + 3)] _ _ from ?_)
        obtain ⟨c23, h⟩ := zy_if h
        refine zy_26 (c := 60) rfl rfl c23 (show zyR _ _ _ _ [some (.ref (43 + 3)), some (.int x1), some (.int x2), some (.int x3), none, none, none] [.int (p21.2.1 60 (x1).toNatClampNeg)] _ _ from ?_)
        refine zy_3 rfl rfl (show zyR _ _ _ _ [some (.ref (43 + 3)), some (.int x1), some (.int x2), some (.int x3), none, none, none] [.int (51 : Int32), .int (p21.2.1 60 (x1).toNatClampNeg)] _ _ from ?_)
        refine zy_25_0 rfl (fun b24 => (show zyR _ _ _ _ [some (.ref (43 + 3)), some (.int x1), some (.int x2), some (.int x3), none, none, none] [] _ _ from ?_)) (fun b24 => (show zyR _ _ _ _ [some (.ref (43 + 3)), some (.int x1), some (.int x2), some (.int x3), none, none, none] [] _ _ from ?_))
        · replace h := zy_ifp h b24
          exact zy_sub (show zy_le [some (.ref (43 + 3)), some (.int x1), some (.int x2), some (.int x3), none, none, none] [some (.ref (43 + 3)), some (.int x1), some (.int x2), some (.int x3), none, none, none] from ⟨rfl, ⟨rfl, ⟨rfl, ⟨rfl, trivial⟩⟩⟩⟩) (zyC181_44 h)
        · replace h := zy_ifn h b24
          refine zy_3 rfl rfl (show zyR _ _ _ _ [some (.ref (43 + 3)), some (.int x1), some (.int x2), some (.int x3), none, none, none] [.int (-12 : Int32)] _ _ from ?_)
          obtain ⟨rfl, rfl⟩ := zy_pi h
          exact zy_4 rfl ⟨rfl, rfl⟩
    · replace h := zy_ifn h b26
      refine zy_3 rfl rfl (show zyR _ _ _ _ [some (.ref (43 + 3)), some (.int x1), some (.int x2), some (.int x3), none, none, none] [.int (-1 : Int32)] _ _ from ?_)
      obtain ⟨rfl, rfl⟩ := zy_pi h
      exact zy_4 rfl ⟨rfl, rfl⟩
/-! NineOpinionsModel.isOne(J)Z -/
noncomputable def zyF185   (x1 : Int64) (s : zy_S) : Option (Int32 × zy_S) :=
(zyF179 x1 (0 : Int64) (((s.1 43 6) - (1 : Int32))).toInt64 s).bind fun p1 =>
if p1.1 = 0 ∨ p1.1 = 1 then
some (p1.1, p1.2)
else none
theorem zyC185 {X : zx_X}     {x1 : Int64} {s : zy_S} {r : Int32} {s' : zy_S}  (h : zyF185 x1 s = some (r, s')) : zyR X 2 185 0 [some (.ref (43 + 3)), some (.long x1), none] [] s (zyE (some (.int r)) s') := by
  unfold zyF185 at h
  refine zy_37 rfl rfl (show zyR _ _ _ _ [some (.ref (43 + 3)), some (.long x1), none] [.long x1] _ _ from ?_)
  refine zy_36 rfl rfl (show zyR _ _ _ _ [some (.ref (43 + 3)), some (.long x1), none] [.long (0 : Int64), .long x1] _ _ from ?_)
  refine zy_0 rfl rfl (show zyR _ _ _ _ [some (.ref (43 + 3)), some (.long x1), none] [.ref (43 + 3), .long (0 : Int64), .long x1] _ _ from ?_)
  refine zy_1 (c := 43) rfl rfl rfl (show zyR _ _ _ _ [some (.ref (43 + 3)), some (.long x1), none] [.int (s.1 43 6), .long (0 : Int64), .long x1] _ _ from ?_)
  refine zy_3 rfl rfl (show zyR _ _ _ _ [some (.ref (43 + 3)), some (.long x1), none] [.int (1 : Int32), .int (s.1 43 6), .long (0 : Int64), .long x1] _ _ from ?_)
  refine zy_11 rfl (show zyR _ _ _ _ [some (.ref (43 + 3)), some (.long x1), none] [.int ((s.1 43 6) - (1 : Int32)), .long (0 : Int64), .long x1] _ _ from ?_)
  refine zy_40 rfl (show zyR _ _ _ _ [some (.ref (43 + 3)), some (.long x1), none] [.long (((s.1 43 6) - (1 : Int32))).toInt64, .long (0 : Int64), .long x1] _ _ from ?_)
  obtain ⟨p1, hp1, h⟩ := zy_bind h
  refine zy_60 (as := [.long x1, .long (0 : Int64), .long (((s.1 43 6) - (1 : Int32))).toInt64]) (rest := []) (L := [some (.long x1), none, some (.long (0 : Int64)), none, some (.long (((s.1 43 6) - (1 : Int32))).toInt64), none]) (d' := 1) rfl rfl (Nat.le_of_ble_eq_true rfl) (Nat.le_of_ble_eq_true rfl) rfl (Nat.le_of_ble_eq_true rfl) rfl rfl (zyC179 hp1) ?_
  show zyR _ _ _ _ [some (.ref (43 + 3)), some (.long x1), none] [.int p1.1] _ _
  obtain ⟨c2, h⟩ := zy_if h
  cases h
  exact zy_4b rfl ⟨rfl, rfl⟩ c2
/-! NineOpinionsModel.isLine(J)Z -/
noncomputable def zyF186   (x0 : Int64) (s : zy_S) : Option (Int32 × zy_S) :=
(zyF179 x0 (0 : Int64) (23 : Int64) s).bind fun p1 =>
if p1.1 = 0 ∨ p1.1 = 1 then
some (p1.1, p1.2)
else none
theorem zyC186 {X : zx_X}     {x0 : Int64} {s : zy_S} {r : Int32} {s' : zy_S}  (h : zyF186 x0 s = some (r, s')) : zyR X 2 186 0 [some (.long x0), none] [] s (zyE (some (.int r)) s') := by
  unfold zyF186 at h
  refine zy_37 rfl rfl (show zyR _ _ _ _ [some (.long x0), none] [.long x0] _ _ from ?_)
  refine zy_36 rfl rfl (show zyR _ _ _ _ [some (.long x0), none] [.long (0 : Int64), .long x0] _ _ from ?_)
  refine zy_36c rfl rfl (show zyR _ _ _ _ [some (.long x0), none] [.long (23 : Int64), .long (0 : Int64), .long x0] _ _ from ?_)
  obtain ⟨p1, hp1, h⟩ := zy_bind h
  refine zy_60 (as := [.long x0, .long (0 : Int64), .long (23 : Int64)]) (rest := []) (L := [some (.long x0), none, some (.long (0 : Int64)), none, some (.long (23 : Int64)), none]) (d' := 1) rfl rfl (Nat.le_of_ble_eq_true rfl) (Nat.le_of_ble_eq_true rfl) rfl (Nat.le_of_ble_eq_true rfl) rfl rfl (zyC179 hp1) ?_
  show zyR _ _ _ _ [some (.long x0), none] [.int p1.1] _ _
  obtain ⟨c2, h⟩ := zy_if h
  cases h
  exact zy_4b rfl ⟨rfl, rfl⟩ c2
