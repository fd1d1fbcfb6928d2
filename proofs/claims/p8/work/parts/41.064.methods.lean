/-! PART 41.64: methods as functions. Made by wip/v4/dcp.py. -/
/-! NineOpinionsModel.fitsView(III)Z -/
noncomputable def zyF232_96  (k3 : Int32 → Int32 → Int32 → Int32 → zy_S → Option (Int32 × zy_S)) (x1 : Int32) (x2 : Int32) (x3 : Int32) (x4 : Int32) (s : zy_S) : Option (Int32 × zy_S) :=
k3 x1 x2 x3 (x4 + (1 : Int32)) s
theorem zyC232_96 {X : zx_X}  {k3 : Int32 → Int32 → Int32 → Int32 → zy_S → Option (Int32 × zy_S)}  (hk3 : ∀ (x1 : Int32) (x2 : Int32) (x3 : Int32) (x4 : Int32) (s : zy_S) (r : Int32) (s' : zy_S), k3 x1 x2 x3 x4 s = some (r, s') → zyR X 3 232 3 [some (.ref (43 + 3)), some (.int x1), some (.int x2), some (.int x3), some (.int x4), none] [] s (zyE (some (.int r)) s')) {x1 : Int32} {x2 : Int32} {x3 : Int32} {x4 : Int32} {s : zy_S} {r : Int32} {s' : zy_S}  (h : zyF232_96 k3 x1 x2 x3 x4 s = some (r, s')) : zyR X 3 232 96 [some (.ref (43 + 3)), some (.int x1), some (.int x2), some (.int x3), some (.int x4), none] [] s (zyE (some (.int r)) s') := by
  unfold zyF232_96 at h
  refine zy_22 rfl rfl rfl rfl (show zyR _ _ _ _ [some (.ref (43 + 3)), some (.int x1), some (.int x2), some (.int x3), some (.int (x4 + (1 : Int32))), none] [] _ _ from ?_)
  refine zy_6 rfl (show zyR _ _ _ _ [some (.ref (43 + 3)), some (.int x1), some (.int x2), some (.int x3), some (.int (x4 + (1 : Int32))), none] [] _ _ from ?_)
  exact zy_sub (show zy_le [some (.ref (43 + 3)), some (.int x1), some (.int x2), some (.int x3), some (.int (x4 + (1 : Int32))), none] [some (.ref (43 + 3)), some (.int x1), some (.int x2), some (.int x3), some (.int (x4 + (1 : Int32))), none] from ⟨rfl, ⟨rfl, ⟨rfl, ⟨rfl, ⟨rfl, trivial⟩⟩⟩⟩⟩) (hk3 x1 x2 x3 (x4 + (1 : Int32)) s _ _ h)
noncomputable def zyF232_90  (k3 : Int32 → Int32 → Int32 → Int32 → zy_S → Option (Int32 × zy_S)) (x1 : Int32) (x2 : Int32) (x3 : Int32) (x4 : Int32) (y0 : Int64) (y1 : Int64) (s : zy_S) : Option (Int32 × zy_S) :=
if (lg_cmp y1 y0) = 0 then
zyF232_96 k3 x1 x2 x3 x4 s
else
some ((0 : Int32), s)
theorem zyC232_90 {X : zx_X}  {k3 : Int32 → Int32 → Int32 → Int32 → zy_S → Option (Int32 × zy_S)}  (hk3 : ∀ (x1 : Int32) (x2 : Int32) (x3 : Int32) (x4 : Int32) (s : zy_S) (r : Int32) (s' : zy_S), k3 x1 x2 x3 x4 s = some (r, s') → zyR X 3 232 3 [some (.ref (43 + 3)), some (.int x1), some (.int x2), some (.int x3), some (.int x4), none] [] s (zyE (some (.int r)) s')) {x1 : Int32} {x2 : Int32} {x3 : Int32} {x4 : Int32} {y0 : Int64} {y1 : Int64} {s : zy_S} {r : Int32} {s' : zy_S}  (h : zyF232_90 k3 x1 x2 x3 x4 y0 y1 s = some (r, s')) : zyR X 3 232 90 [some (.ref (43 + 3)), some (.int x1), some (.int x2), some (.int x3), some (.int x4), none] [.long y0, .long y1] s (zyE (some (.int r)) s') := by
  unfold zyF232_90 at h
  refine zy_44 rfl (show zyR _ _ _ _ [some (.ref (43 + 3)), some (.int x1), some (.int x2), some (.int x3), some (.int x4), none] [.int (lg_cmp y1 y0)] _ _ from ?_)
  refine zy_24_0 rfl (fun b1 => (show zyR _ _ _ _ [some (.ref (43 + 3)), some (.int x1), some (.int x2), some (.int x3), some (.int x4), none] [] _ _ from ?_)) (fun b1 => (show zyR _ _ _ _ [some (.ref (43 + 3)), some (.int x1), some (.int x2), some (.int x3), some (.int x4), none] [] _ _ from ?_))
  · replace h := zy_ifp h b1
    exact zy_sub (show zy_le [some (.ref (43 + 3)), some (.int x1), some (.int x2), some (.int x3), some (.int x4), none] [some (.ref (43 + 3)), some (.int x1), some (.int x2), some (.int x3), some (.int x4), none] from ⟨rfl, ⟨rfl, ⟨rfl, ⟨rfl, ⟨rfl, trivial⟩⟩⟩⟩⟩) (zyC232_96 hk3 h)
  · replace h := zy_ifn h b1
    refine zy_3 rfl rfl (show zyR _ _ _ _ [some (.ref (43 + 3)), some (.int x1), some (.int x2), some (.int x3), some (.int x4), none] [.int (0 : Int32)] _ _ from ?_)
    cases h
    exact zy_4b rfl ⟨rfl, rfl⟩ (Or.inl rfl)
noncomputable def zyF232_3b  (k3 : Int32 → Int32 → Int32 → Int32 → zy_S → Option (Int32 × zy_S)) (x1 : Int32) (x2 : Int32) (x3 : Int32) (x4 : Int32) (s : zy_S) : Option (Int32 × zy_S) :=
if zy_in x1 6 then
if (s.1 61 (x1).toNatClampNeg) ≤ (((2 : Int32) * x4) + (1 : Int32)) then
some ((1 : Int32), s)
else
if zy_in (((60 : Int32) * x1) + ((2 : Int32) * x4)) 360 then
(zyF186 (s.2.1 62 ((((60 : Int32) * x1) + ((2 : Int32) * x4))).toNatClampNeg) s).bind fun p4 =>
if p4.1 = 0 then
zyF232_96 k3 x1 x2 x3 x4 p4.2
else
if zy_in (((60 : Int32) * x1) + ((2 : Int32) * x4)) 360 then
if (lg_cmp ((p4.2.2.1 62 ((((60 : Int32) * x1) + ((2 : Int32) * x4))).toNatClampNeg) / (4 : Int64)) (x2).toInt64) ≠ 0 then
zyF232_96 k3 x1 x2 x3 x4 p4.2
else
if zy_in ((((60 : Int32) * x1) + ((2 : Int32) * x4)) + (1 : Int32)) 360 then
if zy_in (((60 : Int32) * x1) + ((2 : Int32) * x4)) 360 then
if (lg_cmp ((p4.2.2.1 62 ((((60 : Int32) * x1) + ((2 : Int32) * x4))).toNatClampNeg) - (p4.2.2.1 62 ((((60 : Int32) * x1) + ((2 : Int32) * x4))).toNatClampNeg) / (4 : Int64) * (4 : Int64)) (x3).toInt64) ≠ 0 then
zyF232_90 k3 x1 x2 x3 x4 (1 : Int64) (p4.2.2.1 62 (((((60 : Int32) * x1) + ((2 : Int32) * x4)) + (1 : Int32))).toNatClampNeg) p4.2
else
zyF232_90 k3 x1 x2 x3 x4 (0 : Int64) (p4.2.2.1 62 (((((60 : Int32) * x1) + ((2 : Int32) * x4)) + (1 : Int32))).toNatClampNeg) p4.2
else none
else none
else none
else none
else none
theorem zyC232_3b {X : zx_X}  {k3 : Int32 → Int32 → Int32 → Int32 → zy_S → Option (Int32 × zy_S)}  (hk3 : ∀ (x1 : Int32) (x2 : Int32) (x3 : Int32) (x4 : Int32) (s : zy_S) (r : Int32) (s' : zy_S), k3 x1 x2 x3 x4 s = some (r, s') → zyR X 3 232 3 [some (.ref (43 + 3)), some (.int x1), some (.int x2), some (.int x3), some (.int x4), none] [] s (zyE (some (.int r)) s')) {x1 : Int32} {x2 : Int32} {x3 : Int32} {x4 : Int32} {s : zy_S} {r : Int32} {s' : zy_S}  (h : zyF232_3b k3 x1 x2 x3 x4 s = some (r, s')) : zyR X 3 232 3 [some (.ref (43 + 3)), some (.int x1), some (.int x2), some (.int x3), some (.int x4), none] [] s (zyE (some (.int r)) s') := by
  unfold zyF232_3b at h
  refine zy_3 rfl rfl (show zyR _ _ _ _ [some (.ref (43 + 3)), some (.int x1), some (.int x2), some (.int x3), some (.int x4), none] [.int (2 : Int32)] _ _ from ?_)
  refine zy_2 rfl rfl (show zyR _ _ _ _ [some (.ref (43 + 3)), some (.int x1), some (.int x2), some (.int x3), some (.int x4), none] [.int x4, .int (2 : Int32)] _ _ from ?_)
  refine zy_12 rfl (show zyR _ _ _ _ [some (.ref (43 + 3)), some (.int x1), some (.int x2), some (.int x3), some (.int x4), none] [.int ((2 : Int32) * x4)] _ _ from ?_)
  refine zy_3 rfl rfl (show zyR _ _ _ _ [some (.ref (43 + 3)), some (.int x1), some (.int x2), some (.int x3), some (.int x4), none] [.int (1 : Int32), .int ((2 : Int32) * x4)] _ _ from ?_)
  refine zy_10 rfl (show zyR _ _ _ _ [some (.ref (43 + 3)), some (.int x1), some (.int x2), some (.int x3), some (.int x4), none] [.int (((2 : Int32) * x4) + (1 : Int32))] _ _ from ?_)
  refine zy_0 rfl rfl (show zyR _ _ _ _ [some (.ref (43 + 3)), some (.int x1), some (.int x2), some (.int x3), some (.int x4), none] [.ref (43 + 3), .int (((2 : Int32) * x4) + (1 : Int32))] _ _ from ?_)
  refine zy_1r (c := 43) rfl rfl rfl (show zyR _ _ _ _ [some (.ref (43 + 3)), some (.int x1), some (.int x2), some (.int x3), some (.int x4), none] [.ref (61 + 3), .int (((2 : Int32) * x4) + (1 : Int32))] _ _ from ?_)
  refine zy_2 rfl rfl (show zyR _ _ _ _ [some (.ref (43 + 3)), some (.int x1), some (.int x2), some (.int x3), some (.int x4), none] [.int x1, .ref (61 + 3), .int (((2 : Int32) * x4) + (1 : Int32))] _ _ from ?_)
  obtain ⟨c2, h⟩ := zy_if h
  refine zy_26 (c := 61) rfl rfl c2 (show zyR _ _ _ _ [some (.ref (43 + 3)), some (.int x1), some (.int x2), some (.int x3), some (.int x4), none] [.int (s.1 61 (x1).toNatClampNeg), .int (((2 : Int32) * x4) + (1 : Int32))] _ _ from ?_)
  refine zy_25_3 rfl (fun b11 => (show zyR _ _ _ _ [some (.ref (43 + 3)), some (.int x1), some (.int x2), some (.int x3), some (.int x4), none] [] _ _ from ?_)) (fun b11 => (show zyR _ _ _ _ [some (.ref (43 + 3)), some (.int x1), some (.int x2), some (.int x3), some (.int x4), none] [] _ _ from ?_))
  · replace h := zy_ifp h b11
    refine zy_3 rfl rfl (show zyR _ _ _ _ [some (.ref (43 + 3)), some (.int x1), some (.int x2), some (.int x3), some (.int x4), none] [.int (1 : Int32)] _ _ from ?_)
    cases h
    exact zy_4b rfl ⟨rfl, rfl⟩ (Or.inr rfl)
  · replace h := zy_ifn h b11
    refine zy_3 rfl rfl (show zyR _ _ _ _ [some (.ref (43 + 3)), some (.int x1), some (.int x2), some (.int x3), some (.int x4), none] [.int (60 : Int32)] _ _ from ?_)
    refine zy_2 rfl rfl (show zyR _ _ _ _ [some (.ref (43 + 3)), some (.int x1), some (.int x2), some (.int x3), some (.int x4), none] [.int x1, .int (60 : Int32)] _ _ from ?_)
    refine zy_12 rfl (show zyR _ _ _ _ [some (.ref (43 + 3)), some (.int x1), some (.int x2), some (.int x3), some (.int x4), none] [.int ((60 : Int32) * x1)] _ _ from ?_)
    refine zy_3 rfl rfl (show zyR _ _ _ _ [some (.ref (43 + 3)), some (.int x1), some (.int x2), some (.int x3), some (.int x4), none] [.int (2 : Int32), .int ((60 : Int32) * x1)] _ _ from ?_)
    refine zy_2 rfl rfl (show zyR _ _ _ _ [some (.ref (43 + 3)), some (.int x1), some (.int x2), some (.int x3), some (.int x4), none] [.int x4, .int (2 : Int32), .int ((60 : Int32) * x1)] _ _ from ?_)
    refine zy_12 rfl (show zyR _ _ _ _ [some (.ref (43 + 3)), some (.int x1), some (.int x2), some (.int x3), some (.int x4), none] [.int ((2 : Int32) * x4), .int ((60 : Int32) * x1)] _ _ from ?_)
    refine zy_10 rfl (show zyR _ _ _ _ [some (.ref (43 + 3)), some (.int x1), some (.int x2), some (.int x3), some (.int x4), none] [.int (((60 : Int32) * x1) + ((2 : Int32) * x4))] _ _ from ?_)
    refine zy_23 rfl rfl (show zyR _ _ _ _ [some (.ref (43 + 3)), some (.int x1), some (.int x2), some (.int x3), some (.int x4), some (.int (((60 : Int32) * x1) + ((2 : Int32) * x4)))] [] _ _ from ?_)
    refine zy_0 rfl rfl (show zyR _ _ _ _ [some (.ref (43 + 3)), some (.int x1), some (.int x2), some (.int x3), some (.int x4), some (.int (((60 : Int32) * x1) + ((2 : Int32) * x4)))] [.ref (43 + 3)] _ _ from ?_)
    refine zy_1r (c := 43) rfl rfl rfl (show zyR _ _ _ _ [some (.ref (43 + 3)), some (.int x1), some (.int x2), some (.int x3), some (.int x4), some (.int (((60 : Int32) * x1) + ((2 : Int32) * x4)))] [.ref (62 + 3)] _ _ from ?_)
    refine zy_2 rfl rfl (show zyR _ _ _ _ [some (.ref (43 + 3)), some (.int x1), some (.int x2), some (.int x3), some (.int x4), some (.int (((60 : Int32) * x1) + ((2 : Int32) * x4)))] [.int (((60 : Int32) * x1) + ((2 : Int32) * x4)), .ref (62 + 3)] _ _ from ?_)
    obtain ⟨c3, h⟩ := zy_if h
    refine zy_30 (c := 62) rfl rfl c3 (show zyR _ _ _ _ [some (.ref (43 + 3)), some (.int x1), some (.int x2), some (.int x3), some (.int x4), some (.int (((60 : Int32) * x1) + ((2 : Int32) * x4)))] [.long (s.2.1 62 ((((60 : Int32) * x1) + ((2 : Int32) * x4))).toNatClampNeg)] _ _ from ?_)
    obtain ⟨p4, hp4, h⟩ := zy_bind h
    refine zy_60 (as := [.long (s.2.1 62 ((((60 : Int32) * x1) + ((2 : Int32) * x4))).toNatClampNeg)]) (rest := []) (L := [some (.long (s.2.1 62 ((((60 : Int32) * x1) + ((2 : Int32) * x4))).toNatClampNeg)), none]) (d' := 2) rfl rfl (Nat.le_of_ble_eq_true rfl) (Nat.le_of_ble_eq_true rfl) rfl (Nat.le_of_ble_eq_true rfl) rfl rfl (zyC186 hp4) ?_
    show zyR _ _ _ _ [some (.ref (43 + 3)), some (.int x1), some (.int x2), some (.int x3), some (.int x4), some (.int (((60 : Int32) * x1) + ((2 : Int32) * x4)))] [.int p4.1] _ _
    refine zy_24_0 rfl (fun b10 => (show zyR _ _ _ _ [some (.ref (43 + 3)), some (.int x1), some (.int x2), some (.int x3), some (.int x4), some (.int (((60 : Int32) * x1) + ((2 : Int32) * x4)))] [] _ _ from ?_)) (fun b10 => (show zyR _ _ _ _ [some (.ref (43 + 3)), some (.int x1), some (.int x2), some (.int x3), some (.int x4), some (.int (((60 : Int32) * x1) + ((2 : Int32) * x4)))] [] _ _ from ?_))
    · replace h := zy_ifp h b10
      exact zy_sub (show zy_le [some (.ref (43 + 3)), some (.int x1), some (.int x2), some (.int x3), some (.int x4), none] [some (.ref (43 + 3)), some (.int x1), some (.int x2), some (.int x3), some (.int x4), some (.int (((60 : Int32) * x1) + ((2 : Int32) * x4)))] from ⟨rfl, ⟨rfl, ⟨rfl, ⟨rfl, ⟨rfl, trivial⟩⟩⟩⟩⟩) (zyC232_96 hk3 h)
    · replace h := zy_ifn h b10
      refine zy_0 rfl rfl (show zyR _ _ _ _ [some (.ref (43 + 3)), some (.int x1), some (.int x2), some (.int x3), some (.int x4), some (.int (((60 : Int32) * x1) + ((2 : Int32) * x4)))] [.ref (43 + 3)] _ _ from ?_)
      refine zy_1r (c := 43) rfl rfl rfl (show zyR _ _ _ _ [some (.ref (43 + 3)), some (.int x1), some (.int x2), some (.int x3), some (.int x4), some (.int (((60 : Int32) * x1) + ((2 : Int32) * x4)))] [.ref (62 + 3)] _ _ from ?_)
      refine zy_2 rfl rfl (show zyR _ _ _ _ [some (.ref (43 + 3)), some (.int x1), some (.int x2), some (.int x3), some (.int x4), some (.int (((60 : Int32) * x1) + ((2 : Int32) * x4)))] [.int (((60 : Int32) * x1) + ((2 : Int32) * x4)), .ref (62 + 3)] _ _ from ?_)
      obtain ⟨c5, h⟩ := zy_if h
      refine zy_30 (c := 62) rfl rfl c5 (show zyR _ _ _ _ [some (.ref (43 + 3)), some (.int x1), some (.int x2), some (.int x3), some (.int x4), some (.int (((60 : Int32) * x1) + ((2 : Int32) * x4)))] [.long (p4.2.2.1 62 ((((60 : Int32) * x1) + ((2 : Int32) * x4))).toNatClampNeg)] _ _ from ?_)
      refine zy_36c rfl rfl (show zyR _ _ _ _ [some (.ref (43 + 3)), some (.int x1), some (.int x2), some (.int x3), some (.int x4), some (.int (((60 : Int32) * x1) + ((2 : Int32) * x4)))] [.long (4 : Int64), .long (p4.2.2.1 62 ((((60 : Int32) * x1) + ((2 : Int32) * x4))).toNatClampNeg)] _ _ from ?_)
      refine zy_48 rfl (by decide) (show zyR _ _ _ _ [some (.ref (43 + 3)), some (.int x1), some (.int x2), some (.int x3), some (.int x4), some (.int (((60 : Int32) * x1) + ((2 : Int32) * x4)))] [.long ((p4.2.2.1 62 ((((60 : Int32) * x1) + ((2 : Int32) * x4))).toNatClampNeg) / (4 : Int64))] _ _ from ?_)
      refine zy_2 rfl rfl (show zyR _ _ _ _ [some (.ref (43 + 3)), some (.int x1), some (.int x2), some (.int x3), some (.int x4), some (.int (((60 : Int32) * x1) + ((2 : Int32) * x4)))] [.int x2, .long ((p4.2.2.1 62 ((((60 : Int32) * x1) + ((2 : Int32) * x4))).toNatClampNeg) / (4 : Int64))] _ _ from ?_)
      refine zy_40 rfl (show zyR _ _ _ _ [some (.ref (43 + 3)), some (.int x1), some (.int x2), some (.int x3), some (.int x4), some (.int (((60 : Int32) * x1) + ((2 : Int32) * x4)))] [.long (x2).toInt64, .long ((p4.2.2.1 62 ((((60 : Int32) * x1) + ((2 : Int32) * x4))).toNatClampNeg) / (4 : Int64))] _ _ from ?_)
      refine zy_44 rfl (show zyR _ _ _ _ [some (.ref (43 + 3)), some (.int x1), some (.int x2), some (.int x3), some (.int x4), some (.int (((60 : Int32) * x1) + ((2 : Int32) * x4)))] [.int (lg_cmp ((p4.2.2.1 62 ((((60 : Int32) * x1) + ((2 : Int32) * x4))).toNatClampNeg) / (4 : Int64)) (x2).toInt64)] _ _ from ?_)
      refine zy_24_1 rfl (fun b9 => (show zyR _ _ _ _ [some (.ref (43 + 3)), some (.int x1), some (.int x2), some (.int x3), some (.int x4), some (.int (((60 : Int32) * x1) + ((2 : Int32) * x4)))] [] _ _ from ?_)) (fun b9 => (show zyR _ _ _ _ [some (.ref (43 + 3)), some (.int x1), some (.int x2), some (.int x3), some (.int x4), some (.int (((60 : Int32) * x1) + ((2 : Int32) * x4)))] [] _ _ from ?_))
      · replace h := zy_ifp h b9
        exact zy_sub (show zy_le [some (.ref (43 + 3)), some (.int x1), some (.int x2), some (.int x3), some (.int x4), none] [some (.ref (43 + 3)), some (.int x1), some (.int x2), some (.int x3), some (.int x4), some (.int (((60 : Int32) * x1) + ((2 : Int32) * x4)))] from ⟨rfl, ⟨rfl, ⟨rfl, ⟨rfl, ⟨rfl, trivial⟩⟩⟩⟩⟩) (zyC232_96 hk3 h)
      · replace h := zy_ifn h b9
        refine zy_0 rfl rfl (show zyR _ _ _ _ [some (.ref (43 + 3)), some (.int x1), some (.int x2), some (.int x3), some (.int x4), some (.int (((60 : Int32) * x1) + ((2 : Int32) * x4)))] [.ref (43 + 3)] _ _ from ?_)
        refine zy_1r (c := 43) rfl rfl rfl (show zyR _ _ _ _ [some (.ref (43 + 3)), some (.int x1), some (.int x2), some (.int x3), some (.int x4), some (.int (((60 : Int32) * x1) + ((2 : Int32) * x4)))] [.ref (62 + 3)] _ _ from ?_)
        refine zy_2 rfl rfl (show zyR _ _ _ _ [some (.ref (43 + 3)), some (.int x1), some (.int x2), some (.int x3), some (.int x4), some (.int (((60 : Int32) * x1) + ((2 : Int32) * x4)))] [.int (((60 : Int32) * x1) + ((2 : Int32) * x4)), .ref (62 + 3)] _ _ from ?_)
        refine zy_3 rfl rfl (show zyR _ _ _ _ [some (.ref (43 + 3)), some (.int x1), some (.int x2), some (.int x3), some (.int x4), some (.int (((60 : Int32) * x1) + ((2 : Int32) * x4)))] [.int (1 : Int32), .int (((60 : Int32) * x1) + ((2 : Int32) * x4)), .ref (62 + 3)] _ _ from ?_)
        refine zy_10 rfl (show zyR _ _ _ _ [some (.ref (43 + 3)), some (.int x1), some (.int x2), some (.int x3), some (.int x4), some (.int (((60 : Int32) * x1) + ((2 : Int32) * x4)))] [.int ((((60 : Int32) * x1) + ((2 : Int32) * x4)) + (1 : Int32)), .ref (62 + 3)] _ _ from ?_)
        obtain ⟨c6, h⟩ := zy_if h
        refine zy_30 (c := 62) rfl rfl c6 (show zyR _ _ _ _ [some (.ref (43 + 3)), some (.int x1), some (.int x2), some (.int x3), some (.int x4), some (.int (((60 : Int32) * x1) + ((2 : Int32) * x4)))] [.long (p4.2.2.1 62 (((((60 : Int32) * x1) + ((2 : Int32) * x4)) + (1 : Int32))).toNatClampNeg)] _ _ from ?_)
        refine zy_0 rfl rfl (show zyR _ _ _ _ [some (.ref (43 + 3)), some (.int x1), some (.int x2), some (.int x3), some (.int x4), some (.int (((60 : Int32) * x1) + ((2 : Int32) * x4)))] [.ref (43 + 3), .long (p4.2.2.1 62 (((((60 : Int32) * x1) + ((2 : Int32) * x4)) + (1 : Int32))).toNatClampNeg)] _ _ from ?_)
        refine zy_1r (c := 43) rfl rfl rfl (show zyR _ _ _ _ [some (.ref (43 + 3)), some (.int x1), some (.int x2), some (.int x3), some (.int x4), some (.int (((60 : Int32) * x1) + ((2 : Int32) * x4)))] [.ref (62 + 3), .long (p4.2.2.1 62 (((((60 : Int32) * x1) + ((2 : Int32) * x4)) + (1 : Int32))).toNatClampNeg)] _ _ from ?_)
        refine zy_2 rfl rfl (show zyR _ _ _ _ [some (.ref (43 + 3)), some (.int x1), some (.int x2), some (.int x3), some (.int x4), some (.int (((60 : Int32) * x1) + ((2 : Int32) * x4)))] [.int (((60 : Int32) * x1) + ((2 : Int32) * x4)), .ref (62 + 3), .long (p4.2.2.1 62 (((((60 : Int32) * x1) + ((2 : Int32) * x4)) + (1 : Int32))).toNatClampNeg)] _ _ from ?_)
        obtain ⟨c7, h⟩ := zy_if h
        refine zy_30 (c := 62) rfl rfl c7 (show zyR _ _ _ _ [some (.ref (43 + 3)), some (.int x1), some (.int x2), some (.int x3), some (.int x4), some (.int (((60 : Int32) * x1) + ((2 : Int32) * x4)))] [.long (p4.2.2.1 62 ((((60 : Int32) * x1) + ((2 : Int32) * x4))).toNatClampNeg), .long (p4.2.2.1 62 (((((60 : Int32) * x1) + ((2 : Int32) * x4)) + (1 : Int32))).toNatClampNeg)] _ _ from ?_)
        refine zy_36c rfl rfl (show zyR _ _ _ _ [some (.ref (43 + 3)), some (.int x1), some (.int x2), some (.int x3), some (.int x4), some (.int (((60 : Int32) * x1) + ((2 : Int32) * x4)))] [.long (4 : Int64), .long (p4.2.2.1 62 ((((60 : Int32) * x1) + ((2 : Int32) * x4))).toNatClampNeg), .long (p4.2.2.1 62 (((((60 : Int32) * x1) + ((2 : Int32) * x4)) + (1 : Int32))).toNatClampNeg)] _ _ from ?_)
        refine zy_49 rfl (by decide) (show zyR _ _ _ _ [some (.ref (43 + 3)), some (.int x1), some (.int x2), some (.int x3), some (.int x4), some (.int (((60 : Int32) * x1) + ((2 : Int32) * x4)))] [.long ((p4.2.2.1 62 ((((60 : Int32) * x1) + ((2 : Int32) * x4))).toNatClampNeg) - (p4.2.2.1 62 ((((60 : Int32) * x1) + ((2 : Int32) * x4))).toNatClampNeg) / (4 : Int64) * (4 : Int64)), .long (p4.2.2.1 62 (((((60 : Int32) * x1) + ((2 : Int32) * x4)) + (1 : Int32))).toNatClampNeg)] _ _ from ?_)
        refine zy_2 rfl rfl (show zyR _ _ _ _ [some (.ref (43 + 3)), some (.int x1), some (.int x2), some (.int x3), some (.int x4), some (.int (((60 : Int32) * x1) + ((2 : Int32) * x4)))] [.int x3, .long ((p4.2.2.1 62 ((((60 : Int32) * x1) + ((2 : Int32) * x4))).toNatClampNeg) - (p4.2.2.1 62 ((((60 : Int32) * x1) + ((2 : Int32) * x4))).toNatClampNeg) / (4 : Int64) * (4 : Int64)), .long (p4.2.2.1 62 (((((60 : Int32) * x1) + ((2 : Int32) * x4)) + (1 : Int32))).toNatClampNeg)] _ _ from ?_)
        refine zy_40 rfl (show zyR _ _ _ _ [some (.ref (43 + 3)), some (.int x1), some (.int x2), some (.int x3), some (.int x4), some (.int (((60 : Int32) * x1) + ((2 : Int32) * x4)))] [.long (x3).toInt64, .long ((p4.2.2.1 62 ((((60 : Int32) * x1) + ((2 : Int32) * x4))).toNatClampNeg) - (p4.2.2.1 62 ((((60 : Int32) * x1) + ((2 : Int32) * x4))).toNatClampNeg) / (4 : Int64) * (4 : Int64)), .long (p4.2.2.1 62 (((((60 : Int32) * x1) + ((2 : Int32) * x4)) + (1 : Int32))).toNatClampNeg)] _ _ from ?_)
        refine zy_44 rfl (show zyR _ _ _ _ [some (.ref (43 + 3)), some (.int x1), some (.int x2), some (.int x3), some (.int x4), some (.int (((60 : Int32) * x1) + ((2 : Int32) * x4)))] [.int (lg_cmp ((p4.2.2.1 62 ((((60 : Int32) * x1) + ((2 : Int32) * x4))).toNatClampNeg) - (p4.2.2.1 62 ((((60 : Int32) * x1) + ((2 : Int32) * x4))).toNatClampNeg) / (4 : Int64) * (4 : Int64)) (x3).toInt64), .long (p4.2.2.1 62 (((((60 : Int32) * x1) + ((2 : Int32) * x4)) + (1 : Int32))).toNatClampNeg)] _ _ from ?_)
        refine zy_24_1 rfl (fun b8 => (show zyR _ _ _ _ [some (.ref (43 + 3)), some (.int x1), some (.int x2), some (.int x3), some (.int x4), some (.int (((60 : Int32) * x1) + ((2 : Int32) * x4)))] [.long (p4.2.2.1 62 (((((60 : Int32) * x1) + ((2 : Int32) * x4)) + (1 : Int32))).toNatClampNeg)] _ _ from ?_)) (fun b8 => (show zyR _ _ _ _ [some (.ref (43 + 3)), some (.int x1), some (.int x2), some (.int x3), some (.int x4), some (.int (((60 : Int32) * x1) + ((2 : Int32) * x4)))] [.long (p4.2.2.1 62 (((((60 : Int32) * x1) + ((2 : Int32) * x4)) + (1 : Int32))).toNatClampNeg)] _ _ from ?_))
        · replace h := zy_ifp h b8
          refine zy_36 rfl rfl (show zyR _ _ _ _ [some (.ref (43 + 3)), some (.int x1), some (.int x2), some (.int x3), some (.int x4), some (.int (((60 : Int32) * x1) + ((2 : Int32) * x4)))] [.long (1 : Int64), .long (p4.2.2.1 62 (((((60 : Int32) * x1) + ((2 : Int32) * x4)) + (1 : Int32))).toNatClampNeg)] _ _ from ?_)
          exact zy_sub (show zy_le [some (.ref (43 + 3)), some (.int x1), some (.int x2), some (.int x3), some (.int x4), none] [some (.ref (43 + 3)), some (.int x1), some (.int x2), some (.int x3), some (.int x4), some (.int (((60 : Int32) * x1) + ((2 : Int32) * x4)))] from ⟨rfl, ⟨rfl, ⟨rfl, ⟨rfl, ⟨rfl, trivial⟩⟩⟩⟩⟩) (zyC232_90 hk3 h)
        · replace h := zy_ifn h b8
          refine zy_36 rfl rfl (show zyR _ _ _ _ [some (.ref (43 + 3)), some (.int x1), some (.int x2), some (.int x3), some (.int x4), some (.int (((60 : Int32) * x1) + ((2 : Int32) * x4)))] [.long (0 : Int64), .long (p4.2.2.1 62 (((((60 : Int32) * x1) + ((2 : Int32) * x4)) + (1 : Int32))).toNatClampNeg)] _ _ from ?_)
          refine zy_6 rfl (show zyR _ _ _ _ [some (.ref (43 + 3)), some (.int x1), some (.int x2), some (.int x3), some (.int x4), some (.int (((60 : Int32) * x1) + ((2 : Int32) * x4)))] [.long (0 : Int64), .long (p4.2.2.1 62 (((((60 : Int32) * x1) + ((2 : Int32) * x4)) + (1 : Int32))).toNatClampNeg)] _ _ from ?_)
          exact zy_sub (show zy_le [some (.ref (43 + 3)), some (.int x1), some (.int x2), some (.int x3), some (.int x4), none] [some (.ref (43 + 3)), some (.int x1), some (.int x2), some (.int x3), some (.int x4), some (.int (((60 : Int32) * x1) + ((2 : Int32) * x4)))] from ⟨rfl, ⟨rfl, ⟨rfl, ⟨rfl, ⟨rfl, trivial⟩⟩⟩⟩⟩) (zyC232_90 hk3 h)
noncomputable def zyF232_3   (n : Nat) : Int32 → Int32 → Int32 → Int32 → zy_S → Option (Int32 × zy_S) := Nat.rec (fun _ _ _ _ _ => none) (fun _ k3 => zyF232_3b k3) n
theorem zyC232_3 {X : zx_X}     : ∀ (n : Nat) (x1 : Int32) (x2 : Int32) (x3 : Int32) (x4 : Int32) (s : zy_S) (r : Int32) (s' : zy_S), zyF232_3 n x1 x2 x3 x4 s = some (r, s') → zyR X 3 232 3 [some (.ref (43 + 3)), some (.int x1), some (.int x2), some (.int x3), some (.int x4), none] [] s (zyE (some (.int r)) s')
  | 0, _, _, _, _ => by
    intro s r s'  h
    have h : (none : Option (Int32 × zy_S)) = some (r, s') := h
    cases h
  | n + 1, x1, x2, x3, x4 => by
    intro s r s'  h
    exact zyC232_3b (k3 := zyF232_3 n) (fun x1 x2 x3 x4 s r s'  h => zyC232_3  n x1 x2 x3 x4 s r s'  h) h
noncomputable def zyF232   (x1 : Int32) (x2 : Int32) (x3 : Int32) (s : zy_S) : Option (Int32 × zy_S) :=
zyF232_3 zy_fu x1 x2 x3 (0 : Int32) s
theorem zyC232 {X : zx_X}     {x1 : Int32} {x2 : Int32} {x3 : Int32} {s : zy_S} {r : Int32} {s' : zy_S}  (h : zyF232 x1 x2 x3 s = some (r, s')) : zyR X 3 232 0 [some (.ref (43 + 3)), some (.int x1), some (.int x2), some (.int x3), none, none] [] s (zyE (some (.int r)) s') := by
  unfold zyF232 at h
  refine zy_3 rfl rfl (show zyR _ _ _ _ [some (.ref (43 + 3)), some (.int x1), some (.int x2), some (.int x3), none, none] [.int (0 : Int32)] _ _ from ?_)
  refine zy_23 rfl rfl (show zyR _ _ _ _ [some (.ref (43 + 3)), some (.int x1), some (.int x2), some (.int x3), some (.int (0 : Int32)), none] [] _ _ from ?_)
  exact zy_sub (show zy_le [some (.ref (43 + 3)), some (.int x1), some (.int x2), some (.int x3), some (.int (0 : Int32)), none] [some (.ref (43 + 3)), some (.int x1), some (.int x2), some (.int x3), some (.int (0 : Int32)), none] from ⟨rfl, ⟨rfl, ⟨rfl, ⟨rfl, ⟨rfl, trivial⟩⟩⟩⟩⟩) (zyC232_3 zy_fu x1 x2 x3 (0 : Int32) s _ _ h)
