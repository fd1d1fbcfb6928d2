/-! PART 41.39: methods as functions. Made by wip/v4/dcp.py. -/
/-! NineOpinionsModel.firstFalse(II)I -/
noncomputable def zyF230_92  (k2 : Int32 → Int32 → Int32 → zy_S → Option (Int32 × zy_S)) (x1 : Int32) (x2 : Int32) (x3 : Int32) (y0 : Int64) (y1 : Int64) (s : zy_S) : Option (Int32 × zy_S) :=
if (lg_cmp y1 y0) = 0 then
k2 x1 x2 (x3 + (1 : Int32)) s
else
some (x3, s)
theorem zyC230_92 {X : zx_X}  {k2 : Int32 → Int32 → Int32 → zy_S → Option (Int32 × zy_S)}  (hk2 : ∀ (x1 : Int32) (x2 : Int32) (x3 : Int32) (s : zy_S) (r : Int32) (s' : zy_S), k2 x1 x2 x3 s = some (r, s') → zyR X 3 230 2 [some (.ref (43 + 3)), some (.int x1), some (.int x2), some (.int x3), none, none] [] s (zyE (some (.int r)) s')) {x1 : Int32} {x2 : Int32} {x3 : Int32} {y0 : Int64} {y1 : Int64} {s : zy_S} {r : Int32} {s' : zy_S}  (h : zyF230_92 k2 x1 x2 x3 y0 y1 s = some (r, s')) : zyR X 3 230 92 [some (.ref (43 + 3)), some (.int x1), some (.int x2), some (.int x3), none, none] [.long y0, .long y1] s (zyE (some (.int r)) s') := by
  unfold zyF230_92 at h
  refine zy_44 rfl (show zyR _ _ _ _ [some (.ref (43 + 3)), some (.int x1), some (.int x2), some (.int x3), none, none] [.int (lg_cmp y1 y0)] _ _ from ?_)
  refine zy_24_0 rfl (fun b1 => (show zyR _ _ _ _ [some (.ref (43 + 3)), some (.int x1), some (.int x2), some (.int x3), none, none] [] _ _ from ?_)) (fun b1 => (show zyR _ _ _ _ [some (.ref (43 + 3)), some (.int x1), some (.int x2), some (.int x3), none, none] [] _ _ from ?_))
  · replace h := zy_ifp h b1
    refine zy_22 rfl rfl rfl rfl (show zyR _ _ _ _ [some (.ref (43 + 3)), some (.int x1), some (.int x2), some (.int (x3 + (1 : Int32))), none, none] [] _ _ from ?_)
    refine zy_6 rfl (show zyR _ _ _ _ [some (.ref (43 + 3)), some (.int x1), some (.int x2), some (.int (x3 + (1 : Int32))), none, none] [] _ _ from ?_)
    exact zy_sub (show zy_le [some (.ref (43 + 3)), some (.int x1), some (.int x2), some (.int (x3 + (1 : Int32))), none, none] [some (.ref (43 + 3)), some (.int x1), some (.int x2), some (.int (x3 + (1 : Int32))), none, none] from ⟨rfl, ⟨rfl, ⟨rfl, ⟨rfl, trivial⟩⟩⟩⟩) (hk2 x1 x2 (x3 + (1 : Int32)) s _ _ h)
  · replace h := zy_ifn h b1
    refine zy_2 rfl rfl (show zyR _ _ _ _ [some (.ref (43 + 3)), some (.int x1), some (.int x2), some (.int x3), none, none] [.int x3] _ _ from ?_)
    obtain ⟨rfl, rfl⟩ := zy_pi h
    exact zy_4 rfl ⟨rfl, rfl⟩
noncomputable def zyF230_2b  (k2 : Int32 → Int32 → Int32 → zy_S → Option (Int32 × zy_S)) (x1 : Int32) (x2 : Int32) (x3 : Int32) (s : zy_S) : Option (Int32 × zy_S) :=
if zy_in x1 6 then
if (s.1 61 (x1).toNatClampNeg) ≤ ((2 : Int32) * x3) then
some ((-2 : Int32), s)
else
if zy_in x1 6 then
if (s.1 61 (x1).toNatClampNeg) ≤ (((2 : Int32) * x3) + (1 : Int32)) then
some (x3, s)
else
if zy_in (((60 : Int32) * x1) + ((2 : Int32) * x3)) 360 then
(zyF186 (s.2.1 62 ((((60 : Int32) * x1) + ((2 : Int32) * x3))).toNatClampNeg) s).bind fun p5 =>
if p5.1 ≠ 0 then
if zy_in (((60 : Int32) * x1) + ((2 : Int32) * x3)) 360 then
if zy_in ((((60 : Int32) * x1) + ((2 : Int32) * x3)) + (1 : Int32)) 360 then
(zyF206 x2 (((p5.2.2.1 62 ((((60 : Int32) * x1) + ((2 : Int32) * x3))).toNatClampNeg)).toInt32 / (4 : Int32)) p5.2).bind fun p8 =>
if p8.1 ≠ (((p5.2.2.1 62 ((((60 : Int32) * x1) + ((2 : Int32) * x3))).toNatClampNeg)).toInt32 - ((p5.2.2.1 62 ((((60 : Int32) * x1) + ((2 : Int32) * x3))).toNatClampNeg)).toInt32 / (4 : Int32) * (4 : Int32)) then
zyF230_92 k2 x1 x2 x3 (1 : Int64) (p5.2.2.1 62 (((((60 : Int32) * x1) + ((2 : Int32) * x3)) + (1 : Int32))).toNatClampNeg) p8.2
else
zyF230_92 k2 x1 x2 x3 (0 : Int64) (p5.2.2.1 62 (((((60 : Int32) * x1) + ((2 : Int32) * x3)) + (1 : Int32))).toNatClampNeg) p8.2
else none
else none
else
some (x3, p5.2)
else none
else none
else none
theorem zyC230_2b {X : zx_X}  {k2 : Int32 → Int32 → Int32 → zy_S → Option (Int32 × zy_S)}  (hk2 : ∀ (x1 : Int32) (x2 : Int32) (x3 : Int32) (s : zy_S) (r : Int32) (s' : zy_S), k2 x1 x2 x3 s = some (r, s') → zyR X 3 230 2 [some (.ref (43 + 3)), some (.int x1), some (.int x2), some (.int x3), none, none] [] s (zyE (some (.int r)) s')) {x1 : Int32} {x2 : Int32} {x3 : Int32} {s : zy_S} {r : Int32} {s' : zy_S}  (h : zyF230_2b k2 x1 x2 x3 s = some (r, s')) : zyR X 3 230 2 [some (.ref (43 + 3)), some (.int x1), some (.int x2), some (.int x3), none, none] [] s (zyE (some (.int r)) s') := by
  unfold zyF230_2b at h
  refine zy_3 rfl rfl (show zyR _ _ _ _ [some (.ref (43 + 3)), some (.int x1), some (.int x2), some (.int x3), none, none] [.int (2 : Int32)] _ _ from ?_)
  refine zy_2 rfl rfl (show zyR _ _ _ _ [some (.ref (43 + 3)), some (.int x1), some (.int x2), some (.int x3), none, none] [.int x3, .int (2 : Int32)] _ _ from ?_)
  refine zy_12 rfl (show zyR _ _ _ _ [some (.ref (43 + 3)), some (.int x1), some (.int x2), some (.int x3), none, none] [.int ((2 : Int32) * x3)] _ _ from ?_)
  refine zy_0 rfl rfl (show zyR _ _ _ _ [some (.ref (43 + 3)), some (.int x1), some (.int x2), some (.int x3), none, none] [.ref (43 + 3), .int ((2 : Int32) * x3)] _ _ from ?_)
  refine zy_1r (c := 43) rfl rfl rfl (show zyR _ _ _ _ [some (.ref (43 + 3)), some (.int x1), some (.int x2), some (.int x3), none, none] [.ref (61 + 3), .int ((2 : Int32) * x3)] _ _ from ?_)
  refine zy_2 rfl rfl (show zyR _ _ _ _ [some (.ref (43 + 3)), some (.int x1), some (.int x2), some (.int x3), none, none] [.int x1, .ref (61 + 3), .int ((2 : Int32) * x3)] _ _ from ?_)
  obtain ⟨c2, h⟩ := zy_if h
  refine zy_26 (c := 61) rfl rfl c2 (show zyR _ _ _ _ [some (.ref (43 + 3)), some (.int x1), some (.int x2), some (.int x3), none, none] [.int (s.1 61 (x1).toNatClampNeg), .int ((2 : Int32) * x3)] _ _ from ?_)
  refine zy_25_3 rfl (fun b12 => (show zyR _ _ _ _ [some (.ref (43 + 3)), some (.int x1), some (.int x2), some (.int x3), none, none] [] _ _ from ?_)) (fun b12 => (show zyR _ _ _ _ [some (.ref (43 + 3)), some (.int x1), some (.int x2), some (.int x3), none, none] [] _ _ from ?_))
  · replace h := zy_ifp h b12
    refine zy_3 rfl rfl (show zyR _ _ _ _ [some (.ref (43 + 3)), some (.int x1), some (.int x2), some (.int x3), none, none] [.int (-2 : Int32)] _ _ from ?_)
    obtain ⟨rfl, rfl⟩ := zy_pi h
    exact zy_4 rfl ⟨rfl, rfl⟩
  · replace h := zy_ifn h b12
    refine zy_3 rfl rfl (show zyR _ _ _ _ [some (.ref (43 + 3)), some (.int x1), some (.int x2), some (.int x3), none, none] [.int (60 : Int32)] _ _ from ?_)
    refine zy_2 rfl rfl (show zyR _ _ _ _ [some (.ref (43 + 3)), some (.int x1), some (.int x2), some (.int x3), none, none] [.int x1, .int (60 : Int32)] _ _ from ?_)
    refine zy_12 rfl (show zyR _ _ _ _ [some (.ref (43 + 3)), some (.int x1), some (.int x2), some (.int x3), none, none] [.int ((60 : Int32) * x1)] _ _ from ?_)
    refine zy_3 rfl rfl (show zyR _ _ _ _ [some (.ref (43 + 3)), some (.int x1), some (.int x2), some (.int x3), none, none] [.int (2 : Int32), .int ((60 : Int32) * x1)] _ _ from ?_)
    refine zy_2 rfl rfl (show zyR _ _ _ _ [some (.ref (43 + 3)), some (.int x1), some (.int x2), some (.int x3), none, none] [.int x3, .int (2 : Int32), .int ((60 : Int32) * x1)] _ _ from ?_)
    refine zy_12 rfl (show zyR _ _ _ _ [some (.ref (43 + 3)), some (.int x1), some (.int x2), some (.int x3), none, none] [.int ((2 : Int32) * x3), .int ((60 : Int32) * x1)] _ _ from ?_)
    refine zy_10 rfl (show zyR _ _ _ _ [some (.ref (43 + 3)), some (.int x1), some (.int x2), some (.int x3), none, none] [.int (((60 : Int32) * x1) + ((2 : Int32) * x3))] _ _ from ?_)
    refine zy_23 rfl rfl (show zyR _ _ _ _ [some (.ref (43 + 3)), some (.int x1), some (.int x2), some (.int x3), some (.int (((60 : Int32) * x1) + ((2 : Int32) * x3))), none] [] _ _ from ?_)
    refine zy_3 rfl rfl (show zyR _ _ _ _ [some (.ref (43 + 3)), some (.int x1), some (.int x2), some (.int x3), some (.int (((60 : Int32) * x1) + ((2 : Int32) * x3))), none] [.int (2 : Int32)] _ _ from ?_)
    refine zy_2 rfl rfl (show zyR _ _ _ _ [some (.ref (43 + 3)), some (.int x1), some (.int x2), some (.int x3), some (.int (((60 : Int32) * x1) + ((2 : Int32) * x3))), none] [.int x3, .int (2 : Int32)] _ _ from ?_)
    refine zy_12 rfl (show zyR _ _ _ _ [some (.ref (43 + 3)), some (.int x1), some (.int x2), some (.int x3), some (.int (((60 : Int32) * x1) + ((2 : Int32) * x3))), none] [.int ((2 : Int32) * x3)] _ _ from ?_)
    refine zy_3 rfl rfl (show zyR _ _ _ _ [some (.ref (43 + 3)), some (.int x1), some (.int x2), some (.int x3), some (.int (((60 : Int32) * x1) + ((2 : Int32) * x3))), none] [.int (1 : Int32), .int ((2 : Int32) * x3)] _ _ from ?_)
    refine zy_10 rfl (show zyR _ _ _ _ [some (.ref (43 + 3)), some (.int x1), some (.int x2), some (.int x3), some (.int (((60 : Int32) * x1) + ((2 : Int32) * x3))), none] [.int (((2 : Int32) * x3) + (1 : Int32))] _ _ from ?_)
    refine zy_0 rfl rfl (show zyR _ _ _ _ [some (.ref (43 + 3)), some (.int x1), some (.int x2), some (.int x3), some (.int (((60 : Int32) * x1) + ((2 : Int32) * x3))), none] [.ref (43 + 3), .int (((2 : Int32) * x3) + (1 : Int32))] _ _ from ?_)
    refine zy_1r (c := 43) rfl rfl rfl (show zyR _ _ _ _ [some (.ref (43 + 3)), some (.int x1), some (.int x2), some (.int x3), some (.int (((60 : Int32) * x1) + ((2 : Int32) * x3))), none] [.ref (61 + 3), .int (((2 : Int32) * x3) + (1 : Int32))] _ _ from ?_)
    refine zy_2 rfl rfl (show zyR _ _ _ _ [some (.ref (43 + 3)), some (.int x1), some (.int x2), some (.int x3), some (.int (((60 : Int32) * x1) + ((2 : Int32) * x3))), none] [.int x1, .ref (61 + 3), .int (((2 : Int32) * x3) + (1 : Int32))] _ _ from ?_)
    obtain ⟨c3, h⟩ := zy_if h
    refine zy_26 (c := 61) rfl rfl c3 (show zyR _ _ _ _ [some (.ref (43 + 3)), some (.int x1), some (.int x2), some (.int x3), some (.int (((60 : Int32) * x1) + ((2 : Int32) * x3))), none] [.int (s.1 61 (x1).toNatClampNeg), .int (((2 : Int32) * x3) + (1 : Int32))] _ _ from ?_)
    refine zy_25_3 rfl (fun b11 => (show zyR _ _ _ _ [some (.ref (43 + 3)), some (.int x1), some (.int x2), some (.int x3), some (.int (((60 : Int32) * x1) + ((2 : Int32) * x3))), none] [] _ _ from ?_)) (fun b11 => (show zyR _ _ _ _ [some (.ref (43 + 3)), some (.int x1), some (.int x2), some (.int x3), some (.int (((60 : Int32) * x1) + ((2 : Int32) * x3))), none] [] _ _ from ?_))
    · replace h := zy_ifp h b11
      refine zy_2 rfl rfl (show zyR _ _ _ _ [some (.ref (43 + 3)), some (.int x1), some (.int x2), some (.int x3), some (.int (((60 : Int32) * x1) + ((2 : Int32) * x3))), none] [.int x3] _ _ from ?_)
      obtain ⟨rfl, rfl⟩ := zy_pi h
      exact zy_4 rfl ⟨rfl, rfl⟩
    · replace h := zy_ifn h b11
      refine zy_0 rfl rfl (show zyR _ _ _ _ [some (.ref (43 + 3)), some (.int x1), some (.int x2), some (.int x3), some (.int (((60 : Int32) * x1) + ((2 : Int32) * x3))), none] [.ref (43 + 3)] _ _ from ?_)
      refine zy_1r (c := 43) rfl rfl rfl (show zyR _ _ _ _ [some (.ref (43 + 3)), some (.int x1), some (.int x2), some (.int x3), some (.int (((60 : Int32) * x1) + ((2 : Int32) * x3))), none] [.ref (62 + 3)] _ _ from ?_)
      refine zy_2 rfl rfl (show zyR _ _ _ _ [some (.ref (43 + 3)), some (.int x1), some (.int x2), some (.int x3), some (.int (((60 : Int32) * x1) + ((2 : Int32) * x3))), none] [.int (((60 : Int32) * x1) + ((2 : Int32) * x3)), .ref (62 + 3)] _ _ from ?_)
      obtain ⟨c4, h⟩ := zy_if h
      refine zy_30 (c := 62) rfl rfl c4 (show zyR _ _ _ _ [some (.ref (43 + 3)), some (.int x1), some (.int x2), some (.int x3), some (.int (((60 : Int32) * x1) + ((2 : Int32) * x3))), none] [.long (s.2.1 62 ((((60 : Int32) * x1) + ((2 : Int32) * x3))).toNatClampNeg)] _ _ from ?_)
      obtain ⟨p5, hp5, h⟩ := zy_bind h
      refine zy_60 (as := [.long (s.2.1 62 ((((60 : Int32) * x1) + ((2 : Int32) * x3))).toNatClampNeg)]) (rest := []) (L := [some (.long (s.2.1 62 ((((60 : Int32) * x1) + ((2 : Int32) * x3))).toNatClampNeg)), none]) (d' := 2) rfl rfl (Nat.le_of_ble_eq_true rfl) (Nat.le_of_ble_eq_true rfl) rfl (Nat.le_of_ble_eq_true rfl) rfl rfl (zyC186 hp5) ?_
      show zyR _ _ _ _ [some (.ref (43 + 3)), some (.int x1), some (.int x2), some (.int x3), some (.int (((60 : Int32) * x1) + ((2 : Int32) * x3))), none] [.int p5.1] _ _
      refine zy_24_1 rfl (fun b10 => (show zyR _ _ _ _ [some (.ref (43 + 3)), some (.int x1), some (.int x2), some (.int x3), some (.int (((60 : Int32) * x1) + ((2 : Int32) * x3))), none] [] _ _ from ?_)) (fun b10 => (show zyR _ _ _ _ [some (.ref (43 + 3)), some (.int x1), some (.int x2), some (.int x3), some (.int (((60 : Int32) * x1) + ((2 : Int32) * x3))), none] [] _ _ from ?_))
      · replace h := zy_ifp h b10
        refine zy_0 rfl rfl (show zyR _ _ _ _ [some (.ref (43 + 3)), some (.int x1), some (.int x2), some (.int x3), some (.int (((60 : Int32) * x1) + ((2 : Int32) * x3))), none] [.ref (43 + 3)] _ _ from ?_)
        refine zy_1r (c := 43) rfl rfl rfl (show zyR _ _ _ _ [some (.ref (43 + 3)), some (.int x1), some (.int x2), some (.int x3), some (.int (((60 : Int32) * x1) + ((2 : Int32) * x3))), none] [.ref (62 + 3)] _ _ from ?_)
        refine zy_2 rfl rfl (show zyR _ _ _ _ [some (.ref (43 + 3)), some (.int x1), some (.int x2), some (.int x3), some (.int (((60 : Int32) * x1) + ((2 : Int32) * x3))), none] [.int (((60 : Int32) * x1) + ((2 : Int32) * x3)), .ref (62 + 3)] _ _ from ?_)
        obtain ⟨c6, h⟩ := zy_if h
        refine zy_30 (c := 62) rfl rfl c6 (show zyR _ _ _ _ [some (.ref (43 + 3)), some (.int x1), some (.int x2), some (.int x3), some (.int (((60 : Int32) * x1) + ((2 : Int32) * x3))), none] [.long (p5.2.2.1 62 ((((60 : Int32) * x1) + ((2 : Int32) * x3))).toNatClampNeg)] _ _ from ?_)
        refine zy_41 rfl (show zyR _ _ _ _ [some (.ref (43 + 3)), some (.int x1), some (.int x2), some (.int x3), some (.int (((60 : Int32) * x1) + ((2 : Int32) * x3))), none] [.int ((p5.2.2.1 62 ((((60 : Int32) * x1) + ((2 : Int32) * x3))).toNatClampNeg)).toInt32] _ _ from ?_)
        refine zy_23 rfl rfl (show zyR _ _ _ _ [some (.ref (43 + 3)), some (.int x1), some (.int x2), some (.int x3), some (.int (((60 : Int32) * x1) + ((2 : Int32) * x3))), some (.int ((p5.2.2.1 62 ((((60 : Int32) * x1) + ((2 : Int32) * x3))).toNatClampNeg)).toInt32)] [] _ _ from ?_)
        refine zy_0 rfl rfl (show zyR _ _ _ _ [some (.ref (43 + 3)), some (.int x1), some (.int x2), some (.int x3), some (.int (((60 : Int32) * x1) + ((2 : Int32) * x3))), some (.int ((p5.2.2.1 62 ((((60 : Int32) * x1) + ((2 : Int32) * x3))).toNatClampNeg)).toInt32)] [.ref (43 + 3)] _ _ from ?_)
        refine zy_1r (c := 43) rfl rfl rfl (show zyR _ _ _ _ [some (.ref (43 + 3)), some (.int x1), some (.int x2), some (.int x3), some (.int (((60 : Int32) * x1) + ((2 : Int32) * x3))), some (.int ((p5.2.2.1 62 ((((60 : Int32) * x1) + ((2 : Int32) * x3))).toNatClampNeg)).toInt32)] [.ref (62 + 3)] _ _ from ?_)
        refine zy_2 rfl rfl (show zyR _ _ _ _ [some (.ref (43 + 3)), some (.int x1), some (.int x2), some (.int x3), some (.int (((60 : Int32) * x1) + ((2 : Int32) * x3))), some (.int ((p5.2.2.1 62 ((((60 : Int32) * x1) + ((2 : Int32) * x3))).toNatClampNeg)).toInt32)] [.int (((60 : Int32) * x1) + ((2 : Int32) * x3)), .ref (62 + 3)] _ _ from ?_)
        refine zy_3 rfl rfl (show zyR _ _ _ _ [some (.ref (43 + 3)), some (.int x1), some (.int x2), some (.int x3), some (.int (((60 : Int32) * x1) + ((2 : Int32) * x3))), some (.int ((p5.2.2.1 62 ((((60 : Int32) * x1) + ((2 : Int32) * x3))).toNatClampNeg)).toInt32)] [.int (1 : Int32), .int (((60 : Int32) * x1) + ((2 : Int32) * x3)), .ref (62 + 3)] _ _ from ?_)
        refine zy_10 rfl (show zyR _ _ _ _ [some (.ref (43 + 3)), some (.int x1), some (.int x2), some (.int x3), some (.int (((60 : Int32) * x1) + ((2 : Int32) * x3))), some (.int ((p5.2.2.1 62 ((((60 : Int32) * x1) + ((2 : Int32) * x3))).toNatClampNeg)).toInt32)] [.int ((((60 : Int32) * x1) + ((2 : Int32) * x3)) + (1 : Int32)), .ref (62 + 3)] _ _ from ?_)
        obtain ⟨c7, h⟩ := zy_if h
        refine zy_30 (c := 62) rfl rfl c7 (show zyR _ _ _ _ [some (.ref (43 + 3)), some (.int x1), some (.int x2), some (.int x3), some (.int (((60 : Int32) * x1) + ((2 : Int32) * x3))), some (.int ((p5.2.2.1 62 ((((60 : Int32) * x1) + ((2 : Int32) * x3))).toNatClampNeg)).toInt32)] [.long (p5.2.2.1 62 (((((60 : Int32) * x1) + ((2 : Int32) * x3)) + (1 : Int32))).toNatClampNeg)] _ _ from ?_)
        refine zy_2 rfl rfl (show zyR _ _ _ _ [some (.ref (43 + 3)), some (.int x1), some (.int x2), some (.int x3), some (.int (((60 : Int32) * x1) + ((2 : Int32) * x3))), some (.int ((p5.2.2.1 62 ((((60 : Int32) * x1) + ((2 : Int32) * x3))).toNatClampNeg)).toInt32)] [.int x2, .long (p5.2.2.1 62 (((((60 : Int32) * x1) + ((2 : Int32) * x3)) + (1 : Int32))).toNatClampNeg)] _ _ from ?_)
        refine zy_2 rfl rfl (show zyR _ _ _ _ [some (.ref (43 + 3)), some (.int x1), some (.int x2), some (.int x3), some (.int (((60 : Int32) * x1) + ((2 : Int32) * x3))), some (.int ((p5.2.2.1 62 ((((60 : Int32) * x1) + ((2 : Int32) * x3))).toNatClampNeg)).toInt32)] [.int ((p5.2.2.1 62 ((((60 : Int32) * x1) + ((2 : Int32) * x3))).toNatClampNeg)).toInt32, .int x2, .long (p5.2.2.1 62 (((((60 : Int32) * x1) + ((2 : Int32) * x3)) + (1 : Int32))).toNatClampNeg)] _ _ from ?_)
        refine zy_3 rfl rfl (show zyR _ _ _ _ [some (.ref (43 + 3)), some (.int x1), some (.int x2), some (.int x3), some (.int (((60 : Int32) * x1) + ((2 : Int32) * x3))), some (.int ((p5.2.2.1 62 ((((60 : Int32) * x1) + ((2 : Int32) * x3))).toNatClampNeg)).toInt32)] [.int (4 : Int32), .int ((p5.2.2.1 62 ((((60 : Int32) * x1) + ((2 : Int32) * x3))).toNatClampNeg)).toInt32, .int x2, .long (p5.2.2.1 62 (((((60 : Int32) * x1) + ((2 : Int32) * x3)) + (1 : Int32))).toNatClampNeg)] _ _ from ?_)
        refine zy_19 rfl (by decide) (show zyR _ _ _ _ [some (.ref (43 + 3)), some (.int x1), some (.int x2), some (.int x3), some (.int (((60 : Int32) * x1) + ((2 : Int32) * x3))), some (.int ((p5.2.2.1 62 ((((60 : Int32) * x1) + ((2 : Int32) * x3))).toNatClampNeg)).toInt32)] [.int (((p5.2.2.1 62 ((((60 : Int32) * x1) + ((2 : Int32) * x3))).toNatClampNeg)).toInt32 / (4 : Int32)), .int x2, .long (p5.2.2.1 62 (((((60 : Int32) * x1) + ((2 : Int32) * x3)) + (1 : Int32))).toNatClampNeg)] _ _ from ?_)
        obtain ⟨p8, hp8, h⟩ := zy_bind h
        refine zy_60 (as := [.int x2, .int (((p5.2.2.1 62 ((((60 : Int32) * x1) + ((2 : Int32) * x3))).toNatClampNeg)).toInt32 / (4 : Int32))]) (rest := [.long (p5.2.2.1 62 (((((60 : Int32) * x1) + ((2 : Int32) * x3)) + (1 : Int32))).toNatClampNeg)]) (L := [some (.int x2), some (.int (((p5.2.2.1 62 ((((60 : Int32) * x1) + ((2 : Int32) * x3))).toNatClampNeg)).toInt32 / (4 : Int32)))]) (d' := 1) rfl rfl (Nat.le_of_ble_eq_true rfl) (Nat.le_of_ble_eq_true rfl) rfl (Nat.le_of_ble_eq_true rfl) rfl rfl (zyC206 hp8) ?_
        show zyR _ _ _ _ [some (.ref (43 + 3)), some (.int x1), some (.int x2), some (.int x3), some (.int (((60 : Int32) * x1) + ((2 : Int32) * x3))), some (.int ((p5.2.2.1 62 ((((60 : Int32) * x1) + ((2 : Int32) * x3))).toNatClampNeg)).toInt32)] [.int p8.1, .long (p5.2.2.1 62 (((((60 : Int32) * x1) + ((2 : Int32) * x3)) + (1 : Int32))).toNatClampNeg)] _ _
        refine zy_2 rfl rfl (show zyR _ _ _ _ [some (.ref (43 + 3)), some (.int x1), some (.int x2), some (.int x3), some (.int (((60 : Int32) * x1) + ((2 : Int32) * x3))), some (.int ((p5.2.2.1 62 ((((60 : Int32) * x1) + ((2 : Int32) * x3))).toNatClampNeg)).toInt32)] [.int ((p5.2.2.1 62 ((((60 : Int32) * x1) + ((2 : Int32) * x3))).toNatClampNeg)).toInt32, .int p8.1, .long (p5.2.2.1 62 (((((60 : Int32) * x1) + ((2 : Int32) * x3)) + (1 : Int32))).toNatClampNeg)] _ _ from ?_)
        refine zy_3 rfl rfl (show zyR _ _ _ _ [some (.ref (43 + 3)), some (.int x1), some (.int x2), some (.int x3), some (.int (((60 : Int32) * x1) + ((2 : Int32) * x3))), some (.int ((p5.2.2.1 62 ((((60 : Int32) * x1) + ((2 : Int32) * x3))).toNatClampNeg)).toInt32)] [.int (4 : Int32), .int ((p5.2.2.1 62 ((((60 : Int32) * x1) + ((2 : Int32) * x3))).toNatClampNeg)).toInt32, .int p8.1, .long (p5.2.2.1 62 (((((60 : Int32) * x1) + ((2 : Int32) * x3)) + (1 : Int32))).toNatClampNeg)] _ _ from ?_)
        refine zy_20 rfl (by decide) (show zyR _ _ _ _ [some (.ref (43 + 3)), some (.int x1), some (.int x2), some (.int x3), some (.int (((60 : Int32) * x1) + ((2 : Int32) * x3))), some (.int ((p5.2.2.1 62 ((((60 : Int32) * x1) + ((2 : Int32) * x3))).toNatClampNeg)).toInt32)] [.int (((p5.2.2.1 62 ((((60 : Int32) * x1) + ((2 : Int32) * x3))).toNatClampNeg)).toInt32 - ((p5.2.2.1 62 ((((60 : Int32) * x1) + ((2 : Int32) * x3))).toNatClampNeg)).toInt32 / (4 : Int32) * (4 : Int32)), .int p8.1, .long (p5.2.2.1 62 (((((60 : Int32) * x1) + ((2 : Int32) * x3)) + (1 : Int32))).toNatClampNeg)] _ _ from ?_)
        refine zy_25_1 rfl (fun b9 => (show zyR _ _ _ _ [some (.ref (43 + 3)), some (.int x1), some (.int x2), some (.int x3), some (.int (((60 : Int32) * x1) + ((2 : Int32) * x3))), some (.int ((p5.2.2.1 62 ((((60 : Int32) * x1) + ((2 : Int32) * x3))).toNatClampNeg)).toInt32)] [.long (p5.2.2.1 62 (((((60 : Int32) * x1) + ((2 : Int32) * x3)) + (1 : Int32))).toNatClampNeg)] _ _ from ?_)) (fun b9 => (show zyR _ _ _ _ [some (.ref (43 + 3)), some (.int x1), some (.int x2), some (.int x3), some (.int (((60 : Int32) * x1) + ((2 : Int32) * x3))), some (.int ((p5.2.2.1 62 ((((60 : Int32) * x1) + ((2 : Int32) * x3))).toNatClampNeg)).toInt32)] [.long (p5.2.2.1 62 (((((60 : Int32) * x1) + ((2 : Int32) * x3)) + (1 : Int32))).toNatClampNeg)] _ _ from ?_))
        · replace h := zy_ifp h b9
          refine zy_36 rfl rfl (show zyR _ _ _ _ [some (.ref (43 + 3)), some (.int x1), some (.int x2), some (.int x3), some (.int (((60 : Int32) * x1) + ((2 : Int32) * x3))), some (.int ((p5.2.2.1 62 ((((60 : Int32) * x1) + ((2 : Int32) * x3))).toNatClampNeg)).toInt32)] [.long (1 : Int64), .long (p5.2.2.1 62 (((((60 : Int32) * x1) + ((2 : Int32) * x3)) + (1 : Int32))).toNatClampNeg)] _ _ from ?_)
          exact zy_sub (show zy_le [some (.ref (43 + 3)), some (.int x1), some (.int x2), some (.int x3), none, none] [some (.ref (43 + 3)), some (.int x1), some (.int x2), some (.int x3), some (.int (((60 : Int32) * x1) + ((2 : Int32) * x3))), some (.int ((p5.2.2.1 62 ((((60 : Int32) * x1) + ((2 : Int32) * x3))).toNatClampNeg)).toInt32)] from ⟨rfl, ⟨rfl, ⟨rfl, ⟨rfl, trivial⟩⟩⟩⟩) (zyC230_92 hk2 h)
        · replace h := zy_ifn h b9
          refine zy_36 rfl rfl (show zyR _ _ _ _ [some (.ref (43 + 3)), some (.int x1), some (.int x2), some (.int x3), some (.int (((60 : Int32) * x1) + ((2 : Int32) * x3))), some (.int ((p5.2.2.1 62 ((((60 : Int32) * x1) + ((2 : Int32) * x3))).toNatClampNeg)).toInt32)] [.long (0 : Int64), .long (p5.2.2.1 62 (((((60 : Int32) * x1) + ((2 : Int32) * x3)) + (1 : Int32))).toNatClampNeg)] _ _ from ?_)
          refine zy_6 rfl (show zyR _ _ _ _ [some (.ref (43 + 3)), some (.int x1), some (.int x2), some (.int x3), some (.int (((60 : Int32) * x1) + ((2 : Int32) * x3))), some (.int ((p5.2.2.1 62 ((((60 : Int32) * x1) + ((2 : Int32) * x3))).toNatClampNeg)).toInt32)] [.long (0 : Int64), .long (p5.2.2.1 62 (((((60 : Int32) * x1) + ((2 : Int32) * x3)) + (1 : Int32))).toNatClampNeg)] _ _ from ?_)
          exact zy_sub (show zy_le [some (.ref (43 + 3)), some (.int x1), some (.int x2), some (.int x3), none, none] [some (.ref (43 + 3)), some (.int x1), some (.int x2), some (.int x3), some (.int (((60 : Int32) * x1) + ((2 : Int32) * x3))), some (.int ((p5.2.2.1 62 ((((60 : Int32) * x1) + ((2 : Int32) * x3))).toNatClampNeg)).toInt32)] from ⟨rfl, ⟨rfl, ⟨rfl, ⟨rfl, trivial⟩⟩⟩⟩) (zyC230_92 hk2 h)
      · replace h := zy_ifn h b10
        refine zy_2 rfl rfl (show zyR _ _ _ _ [some (.ref (43 + 3)), some (.int x1), some (.int x2), some (.int x3), some (.int (((60 : Int32) * x1) + ((2 : Int32) * x3))), none] [.int x3] _ _ from ?_)
        obtain ⟨rfl, rfl⟩ := zy_pi h
        exact zy_4 rfl ⟨rfl, rfl⟩
noncomputable def zyF230_2   (n : Nat) : Int32 → Int32 → Int32 → zy_S → Option (Int32 × zy_S) := Nat.rec (fun _ _ _ _ => none) (fun _ k2 => zyF230_2b k2) n
theorem zyC230_2 {X : zx_X}     : ∀ (n : Nat) (x1 : Int32) (x2 : Int32) (x3 : Int32) (s : zy_S) (r : Int32) (s' : zy_S), zyF230_2 n x1 x2 x3 s = some (r, s') → zyR X 3 230 2 [some (.ref (43 + 3)), some (.int x1), some (.int x2), some (.int x3), none, none] [] s (zyE (some (.int r)) s')
  | 0, _, _, _ => by
    intro s r s'  h
    have h : (none : Option (Int32 × zy_S)) = some (r, s') := h
    cases h
  | n + 1, x1, x2, x3 => by
    intro s r s'  h
    exact zyC230_2b (k2 := zyF230_2 n) (fun x1 x2 x3 s r s'  h => zyC230_2  n x1 x2 x3 s r s'  h) h
noncomputable def zyF230   (x1 : Int32) (x2 : Int32) (s : zy_S) : Option (Int32 × zy_S) :=
zyF230_2 zy_fu x1 x2 (0 : Int32) s
theorem zyC230 {X : zx_X}     {x1 : Int32} {x2 : Int32} {s : zy_S} {r : Int32} {s' : zy_S}  (h : zyF230 x1 x2 s = some (r, s')) : zyR X 3 230 0 [some (.ref (43 + 3)), some (.int x1), some (.int x2), none, none, none] [] s (zyE (some (.int r)) s') := by
  unfold zyF230 at h
  refine zy_3 rfl rfl (show zyR _ _ _ _ [some (.ref (43 + 3)), some (.int x1), some (.int x2), none, none, none] [.int (0 : Int32)] _ _ from ?_)
  refine zy_23 rfl rfl (show zyR _ _ _ _ [some (.ref (43 + 3)), some (.int x1), some (.int x2), some (.int (0 : Int32)), none, none] [] _ _ from ?_)
  exact zy_sub (show zy_le [some (.ref (43 + 3)), some (.int x1), some (.int x2), some (.int (0 : Int32)), none, none] [some (.ref (43 + 3)), some (.int x1), some (.int x2), some (.int (0 : Int32)), none, none] from ⟨rfl, ⟨rfl, ⟨rfl, ⟨rfl, trivial⟩⟩⟩⟩) (zyC230_2 zy_fu x1 x2 (0 : Int32) s _ _ h)
