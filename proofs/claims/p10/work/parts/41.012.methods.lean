/-! PART 41.12: methods as functions. Made by wip/v4/dcp.py. -/
/-! NineOpinionsModel.firstFalse(II)I -/
noncomputable def zyF230_92  (k2 : Int32 → Int32 → Int32 → zy_S → Option (Int32 × zy_S)) (x1 : Int32) (x2 : Int32) (x3 : Int32) (y0 : Int64) (y1 : Int64) (s : zy_S) : Option (Int32 × zy_S) :=
if (lg_cmp y1 y0) = 0 then
k2 x1 x2 (x3 + (1 : Int32)) s
else
some (x3, s)
theorem zyC230_92 {X : zx_X}  {k2 : Int32 → Int32 → Int32 → zy_S → Option (Int32 × zy_S)}  (hk2 : ∀ (x1 : Int32) (x2 : Int32) (x3 : Int32) (s : zy_S) (r : Int32) (s' : zy_S), k2 x1 x2 x3 s = some (r, s') → zyR X 3 230 2 [some (.ref (43 + 3)), some (.int x1), some (.int x2), some (.int x3), none, none] [] s (zyE (some (.int r)) s')) {x1 : Int32} {x2 : Int32} {x3 : Int32} {y0 : Int64} {y1 : Int64} {s : zy_S} {r : Int32} {s' : zy_S}  (h : zyF230_92 k2 x1 x2 x3 y0 y1 s = some (r, s')) : zyR X 3 230 92 [some (.ref (43 + 3)), some (.int x1), some (.int x2), some (.int x3), none, none] [.long y0, .long y1] s (zyE (some (.int r)) s') := by
  unfold zyF230_92 at h
  refine zy_44 rfl (show zyR _ _ _ _ [some (.ref (43 + 3)), some (.int x1), some (.int x2), some (.int x3), none, none] [.int (lg_cmp y1 y0)] _ _ from ?_)
  refine zy_24_0 rfl (fun b1 => (show zyR _ _ _ _ [some (.ref (43 + 3)), some (.int x1), some (.int x2), some (.int x3), none, none] [] _ _ from ?_)) (fun b1 => (show zyR _ _ _ _ [some (.ref (43 + 3)), some (.int x1), some (.int x2), some (.int x3), none, none] [] _ _ from ?_))
  · replace h := zy_ifp h b1
    refine zy_22 rfl rfl rfl rfl (show zyR _ _ _ _ [some (.ref (43 + 3)), some (.int x1), some (.int x2), some (.int (x3 + (1 : Int32))), none, none] [] _ _ from ?_)
    refine zy_6 rfl (show zyR _ _ _ _ [some (.ref (43 + 3)), some (.int x1), some (.int x2), some (.int (x3 + (1 : Int32))), none, none] [] _ _ from ?_)
    exact zy_sub (show zy_le [some (.ref (43 + 3)), some (.int x1), some (.int x2), some (.int (x3 + (1 : Int32))), none, none] [some (.ref (43 + 3)), some (.int x1), some (.int x2), some (.int (x3 + (1 : Int32))), none, none] from ⟨rfl, ⟨rfl, ⟨rfl, ⟨rfl, trivial⟩⟩⟩⟩) (hk2 x1 x2 (x3 + (1 : Int32)) s _ _ h)
  · replace h := zy_ifn h b1
    refine zy_2 rfl rfl (show zyR _ _ _ _ [some (.ref (43 + 3)), some (.int x1), some (.int x2), some (.int x3), none, none] [.int x3] _ _ from ?_)
    obtain ⟨rfl, rfl⟩ := zy_pi h
    exact zy_4 rfl ⟨rfl, rfl⟩
noncomputable def zyF230_2b  (k2 : Int32 → Int32 → Int32 → zy_S → Option (Int32 × zy_S)) (x1 : Int32) (x2 : Int32) (x3 : Int32) (s : zy_S) : Option (Int32 × zy_S) :=
if zy_in x1 6 then
if (s.1 61 (x1).toNatClampNeg) ≤ ((2 : Int32) * x3) then
some ((-2 : Int32), s)
else
if zy_in x1 6 then
if (s.1 61 (x1).toNatClampNeg) ≤ (((2 : Int32) * x3) + (1 : Int32)) then
some (x3, s)
else
if zy_in (((60 : Int32) * x1) + ((2 : Int32) * x3)) 360 then
(zyF186 (s.2.1 62 ((((60 : Int32) * x1) + ((2 : Int32) * x3))).toNatClampNeg) s).bind fun p5 =>
if p5.1 ≠ 0 then
if zy_in (((60 : Int32) * x1) + ((2 : Int32) * x3)) 360 then
if zy_in ((((60 : Int32) * x1) + ((2 : Int32) * x3)) + (1 : Int32)) 360 then
(zyF206 x2 (((p5.2.2.1 62 ((((60 : Int32) * x1) + ((2 : Int32) * x3))).toNatClampNeg)).toInt32 / (4 : Int32)) p5.2).bind fun p8 =>
if p8.1 ≠ (((p5.2.2.1 62 ((((60 : Int32) * x1) + ((2 : Int32) * x3))).toNatClampNeg)).toInt32 - ((p5.2.2.1 62 ((((60 : Int32) * x1) + ((2 : Int32) * x3))).toNatClampNeg)).toInt32 / (4 : Int32) * (4 : Int32)) then
zyF230_92 k2 x1 x2 x3 (1 : Int64) (p5.2.2.1 62 (((((60 : Int32) * x1) + ((2 : Int32) * x3)) + (1 : Int32))).toNatClampNeg) p8.2
else
zyF230_92 k2 x1 x2 x3 (0 : Int64) (p5.2.2.1 62 (((((60 : Int32) * x1) + ((2 : Int32) * x3)) + (1 : Int32))).toNatClampNeg) p8.2
else none
else none
else
some (x3, p5.2)
else none
else none
else none
theorem zyC230_2b {X : zx_X}  {k2 : Int32 → Int32 → Int32 → zy_S → Option (Int32 × zy_S)}  (hk2 : ∀ (x1 : Int32) (x2 : Int32) (x3 : Int32) (s : zy_S) (r : Int32) (s' : zy_S), k2 x1 x2 x3 s = some (r, s') → zyR X 3 230 2 [some (.ref (43 + 3)), some (.int x1), some (.int x2), some (.int x3), none, none] [] s (zyE (some (.int r)) s')) {x1 : Int32} {x2 : Int32} {x3 : Int32} {s : zy_S} {r : Int32} {s' : zy_S}  (h : zyF230_2b k2 x1 x2 x3 s = some (r, s')) : zyR X 3 230 2 [some (.ref (43 + 3)), some (.int x1), some (.int x2), some (.int x3), none, none] [] s (zyE (some (.int r)) s') := by
  unfold zyF230_2b at h
  refine zy_3 rfl rfl (show zyR _ _ _ _ [some (.ref (43 + 3)), some (.int x1), some (.int x2), some (.int x3), none, none] [.int (2 : Int32)] _ _ from ?_)
  refine zy_2 rfl rfl (show zyR _ _ _ _ [some (.ref (43 + 3)), some (.int x1), some (.int x2), some (.int x3), none, none] [.int x3, .int (2 : Int32)] _ _ from ?_)
  refine zy_12 rfl (show zyR _ _ _ _ [some (.ref (43 + 3)), some (.int x1), some (.int x2), some (.int x3), none, none] [.int ((2 : Int32) * x3)] _ _ from ?_)
  refine zy_0 rfl rfl (show zyR _ _ _ _ [some (.ref (43 + 3)), some (.int x1), some (.int x2), some (.int x3), none, none] [.ref (43 + 3), .int ((2 : Int32) * x3)] _ _ from ?_)
  refine zy_1r (c := 43) rfl rfl rfl (show zyR _ _ _ _ [some (.ref (43 + 3)), some (.int x1), some (.int x2), some (.int x3), none, none] [.ref (61 + 3), .int ((2 : Int32) * x3)] _ _ from ?_)
  refine zy_2 rfl rfl (show zyR _ _ _ _ [some (.ref (43 + 3)), some (.int x1), some (.int x2), some (.int x3), none, none] [.int x1, .ref (61 + 3), .int ((2 : Int32) * x3)] _ _ from ?_)
  obtain ⟨c2, h⟩ := zy_if h
  refine zy_26 (c := 61) rfl rfl c2 (show zyR _ _ _ _ [some (.ref (43 + 3)), some (.int x1), some (.int x2), some (.int x3), none, none] [.int (s.1 61 (x1).toNatClampNeg), .int ((2 : Int32) * x3)] _ _ from ?_)
  refine zy_25_3 rfl (fun b12 => (show zyR _ _ _ _ [some (.ref (43 + 3)), some (.int x1), some (.int x2), some (.int x3), none, none] [] _ _ from ?_)) (fun b12 => (show zyR _ _ _ _ [some (.ref (43 + 3)), some (.int x1), some (.int x2), some (.int x3), none, none] [] _ _ from ?_))
  · replace h := zy_ifp h b12
    refine zy_3 rfl rfl (show zyR _ _ _ _ [some (.ref (43 + 3)), some (.int x1), some (.int x2), some (.int x3), none, none] [.int (-2 : Int32)] _ _ from ?_)
    obtain ⟨rfl, rfl⟩ := zy_pi h
    exact zy_4 rfl ⟨rfl, rfl⟩
  · replace h := zy_ifn h b12
    refine zy_3 rfl rfl (show zyR _ _ _ _ [some (.ref (43 + 3)), some (.int x1), some (.int x2), some (.int x3), none, none] [.int (60 : Int32)] _ _ from ?_)
    refine zy_2 rfl rfl (show zyR _ _ _ _ [some (.ref (43 + 3)), some (.int x1), some (.int x2), some (.int x3), none, none] [.int x1, .int (60 : Int32)] _ _ from ?_)
    refine zy_12 rfl (show zyR _ _ _ _ [some (.ref (43 + 3)), some (.int x1), some (.int x2), some (.int x3), none, none] [.int ((60 : Int32) * x1)] _ _ from ?_)
    refine zy_3 rfl rfl (show zyR _ _ _ _ [some (.ref (43 + 3)), some (.int x1), some (.int x2), some (.int x3), none, none] [.int (2 : Int32), .int ((60 : Int32) * x1)] _ _ from ?_)
    refine zy_2 rfl rfl (show zyR _ _ _ _ [some (.ref (43 + 3)), some (.int x1), some (.int x2), some (.int x3), none, none] [.int x3, .int (2 : Int32), .int ((60 : Int32) * x1)] _ _ from ?_)
    refine zy_12 rfl (show zyR _ _ _ _ [some (.ref (43 + 3)), some (.int x1), some (.int x2), some (.int x3), none, none] [.int ((2 : Int32) * x3), .int ((60 : Int32) * x1)] _ _ from ?_)
    refine zy_10 rfl (show zyR _ _ _ _ [some (.ref (43 + 3)), some (.int x1), some (.int x2), some (.int x3), none, none] [.int (((60 : Int32) * x1) + ((2 : Int32) * x3))] _ _ from ?_)
    refine zy_23 rfl rfl (show zyR _ _ _ _ [some (.ref (43 + 3)), some (.int x1), some (.int x2), some (.int x3), some (.int (((60 : Int32) * x1) + ((2 : Int32) * x3))), none] [] _ _ from ?_)
    refine zy_3 rfl rfl (show zyR _ _ _ _ [some (.ref (43 + 3)), some (.int x1), some (.int x2), some (.int x3), some (.int (((60 : Int32) * x1) + ((2 : Int32) * x3))), none] [.int (2 : Int32)] _ _ from ?_)
    refine zy_2 rfl rfl (show zyR _ _ _ _ [some (.ref (43 + 3)), some (.int x1), some (.int x2), some (.int x3), some (.int (((60 : Int32) * x1) + ((2 : Int32) * x3))), none] [.int x3, .int (2 : Int32)] _ _ from ?_)
    refine zy_12 rfl (show zyR _ _ _ _ [some (.ref (43 + 3)), some (.int x1), some (.int x2), some (.int x3), some (.int (((60 : Int32) * x1) + ((2 : Int32) * x3))), none] [.int ((2 : Int32) * x3)] _ _ from ?_)
    refine zy_3 rfl rfl (show zyR _ _ _ _ [some (.ref (43 + 3)), some (.int x1), some (.int x2), some (.int x3), some (.int (((60 : Int32) * x1) + ((2 : Int32) * x3))), none] [.int (1 : Int32), .int ((2 : Int32) * x3)] _ _ from ?_)
    refine zy_10 rfl (show zyR _ _ _ _ [some (.ref (43 + 3)), some (.int x1), some (.int x2), some (.int x3), some (.int (((60 : Int32) * x1) + ((2 : Int32) * x3))), none] [.int (((2 : Int32) * x3) + (1 : Int32))] _ _ from ?_)
    refine zy_0 rfl rfl (show zyR _ _ _ _ [some (.ref (43 + 3)), some (.int x1), some (.int x2), some (.int x3), some (.int (((60 : Int32) * x1) + ((2 : Int32) * x3))), none] [.ref (43 + 3), .int (((2 : Int32) * x3) + (1 : Int32))] _ _ from ?_)
    refine zy_1r (c := 43) rfl rfl rfl (show zyR _ _ _ _ [some (.ref (43 + 3)), some (.int x1), some (.int x2), some (.int x3), some (.int (((60 : Int32) * x1) + ((2 : Int32) * x3))), none] [.ref (61 + 3), .int (((2 : Int32) * x3) + (1 : Int32))] _ _ from ?_)
    refine zy_2 rfl rfl (show zyR _ _ _ _ [some (.ref (43 + 3)), some (.int x1), some (.int x2), some (.int x3), some (.int (((60 : Int32) * x1) + ((2 : Int32) * x3))), none] [.int x1, .ref (61 + 3), .int (((2 : Int32) * x3) + (1 : Int32))] _ _ from ?_)
    obtain ⟨c3, h⟩ := zy_if h
    refine zy_26 (c := 61) rfl rfl c3 (show zyR _ _ _ _ [some (.ref (43 + 3)), some (.int x1), some (.int x2), some (.int x3), some (.int (((60 : Int32) * x1) + ((2 : Int32) * x3))), none] [.int (s.1 61 (x1).toNatClampNeg), .int (((2 : Int32) * x3) + (1 : Int32))] _ _ from ?_)
    refine zy_25_3 rfl (fun b11 => (show zyR _ _ _ _ [some (.ref (43 + 3)), some (.int x1), some (.int x2), some (.int x3), some (.int (((60 : Int32) * x1) + ((2 : Int32) * x3))), none] [] _ _ from ?_)) (fun b11 => (show zyR _ _ _ _ [some (.ref (43 + 3)), some (.int x1), some (.int x2), some (.int x3), some (.int (((60 : Int32) * x1) + ((2 : Int32) * x3))), none] [] _ _ from ?_))
    · replace h := zy_ifp h b11
      refine zy_2 rfl rfl (show zyR _ _ _ _ [some (.ref (43 + 3)), some (.int x1), some (.int x2), some (.int x3), some (.int (((60 : Int32) * x1) + ((2 : Int32) * x3))), none] [.int x3] _ _ from ?_)
      obtain ⟨rfl, rfl⟩ := zy_pi h
      exact zy_4 rfl ⟨rfl, rfl⟩
    · replace h := zy_ifn h b11
      refine zy_0 rfl rfl (show zyR _ _ _ _ [some (.ref (43 + 3)), some (.int x1), some (.int x2), some (.int x3), some (.int (((60 : Int32) * x1) + ((2 : Int32) * x3))), none] [.ref (43 + 3)] _ _ from ?_)
      refine zy_1r (c := 43) rfl rfl rfl (show zyR _ _ _ _ [some (.ref (43 + 3)), some (.int x1), some (.int x2), some (.int x3), some (.int (((60 : Int32) * x1) + ((2 : Int32) * x3))), none] [.ref (62 + 3)] _ _ from ?_)
      refine zy_2 rfl rfl (show zyR _ _ _ _ [some (.ref (43 + 3)), some (.int x1), some (.int x2), some (.int x3), some (.int (((60 : Int32) * x1) + ((2 : Int32) * x3))), none] [.int (((60 : Int32) * x1) + ((2 : Int32) * x3)), .ref (62 + 3)] _ _ from ?_)
      obtain ⟨c4, h⟩ := zy_if h
      refine zy_30 (c := 62) rfl rfl c4 (show zyR _ _ _ _ [some (.ref (43 + 3)), some (.int x1), some (.int x2), some (.int x3), some (.int (((60 : Int32) * x1) + ((2 : Int32) * x3))), none] [.long (s.2.1 62 ((((60 : Int32) * x1) + ((2 : Int32) * x3))).toNatClampNeg)] _ _ from ?_)
      obtain ⟨p5, hp5, h⟩ := zy_bind h
      refine zy_60 (as := [.long (s.2.1 62 ((((60 : Int32) * x1) + ((2 : Int32) * x3))).toNatClampNeg)]) (rest := []) (L := [some (.long (s.2.1 62 ((((60 : Int32) * x1) + ((2 : Int32) * x3))).toNatClampNeg)), none]) (d' := 2) rfl rfl (Nat.le_of_ble_eq_true rfl) (Nat.le_of_ble_eq_true rfl) rfl (Nat.le_of_ble_eq_true rfl) rfl rfl (zyC186 hp5) ?_
      show zyR _ _ _ _ [some (.ref (43 + 3)), some (.int x1), some (.int x2), some (.int x3), some (.int (((60 : Int32) * x1) + ((2 : Int32) * x3))), none] [.int p5.1] _ _
      refine zy_24_1 rfl (fun b10 => (show zyR _ _ _ _ [some (.ref (43 + 3)), some (.int x1), some (.int x2), some (.int x3), some (.int (((60 : Int32) * x1) + ((2 : Int32) * x3))), none] [] _ _ from ?_)) (fun b10 => (show zyR _ _ _ _ [some (.ref (43 + 3)), some (.int x1), some (.int x2), some (.int x3), some (.int (((60 : Int32) * x1) + ((2 : Int32) * x3))), none] [] _ _ from ?_))
      · replace h := zy_ifp h b10
        refine zy_0 rfl rfl (show zyR _ _ _ _ [some (.ref (43 + 3)), some (.int x1), some (.int x2), some (.int x3), some (.int (((60 : Int32) * x1) + ((2 : Int32) * x3))), none] [.ref (43 + 3)] _ _ from ?_)
        refine zy_1r (c := 43) rfl rfl rfl (show zyR _ _ _ _ [some (.ref (43 + 3)), some (.int x1), some (.int x2), some (.int x3), some (.int (((60 : Int32) * x1) + ((2 : Int32) * x3))), none] [.ref (62 + 3)] _ _ from ?_)
        refine zy_2 rfl rfl (show zyR _ _ _ _ [some (.ref (43 + 3)), some (.int x1), some (.int x2), some (.int x3), some (.int (((60 : Int32) * x1) + ((2 : Int32) * x3))), none] [.int (((60 : Int32) * x1) + ((2 : Int32) * x3)), .ref (62 + 3)] _ _ from ?_)
        obtain ⟨c6, h⟩ := zy_if h
        refine zy_30 (c := 62) rfl rfl c6 (show zyR _ _ _ _ [some (.ref (43 + 3)), some (.int x1), some (.int x2), some (.int x3), some (.int (((60 : Int32) * x1) + ((2 : Int32) * x3))), none] [.long (p5.2.2.1 62 ((((60 : Int32) * x1) + ((2 : Int32) * x3))).toNatClampNeg)] _ _ from ?_)
        refine zy_41 rfl (show zyR _ _ _ _ [some (.ref (43 + 3)), some (.int x1), some (.int x2), some (.int x3), some (.int (((60 : Int32) * x1) + ((2 : Int32) * x3))), none] [.int ((p5.2.2.1 62 ((((60 : Int32) * x1) + ((2 : Int32) * x3))).toNatClampNeg)).toInt32] _ _ from ?_)
        refine zy_23 rfl rfl (show zyR _ _ _ _ [some (.ref (43 + 3)), some (.int x1), some (.int x2), some (.int x3), some (.int (((60 : Int32) * x1) + ((2 : Int32) * x3))), some (.int ((p5.2.2.1 62 ((((60 : Int32) * x1) + ((2 : Int32) * x3))).toNatClampNeg)).toInt32)] [] _ _ from ?_)
        refine zy_0 rfl rfl (show zyR _ _ _ _ [some (.ref (43 + 3)), some (.int x1), some (.int x2), some (.int x3), some (.int (((60 : Int32) * x1) + ((2 : Int32) * x3))), some (.int ((p5.2.2.1 62 ((((60 : Int32) * x1) + ((2 : Int32) * x3))).toNatClampNeg)).toInt32)] [.ref (43 + 3)] _ _ from ?_)
        refine zy_1r (c := 43) rfl rfl rfl (show zyR _ _ _ _ [some (.ref (43 + 3)), some (.int x1), some (.int x2), some (.int x3), some (.int (((60 : Int32) * x1) + ((2 : Int32) * x3))), some (.int ((p5.2.2.1 62 ((((60 : Int32) * x1) + ((2 : Int32) * x3))).toNatClampNeg)).toInt32)] [.ref (62 + 3)] _ _ from ?_)
        refine zy_2 rfl rfl (show zyR _ _ _ _ [some (.ref (43 + 3)), some (.int x1), some (.int x2), some (.int x3), some (.int (((60 : Int32) * x1) + ((2 : Int32) * x3))), some (.int ((p5.2.2.1 62 ((((60 : Int32) * x1) + ((2 : Int32) * x3))).toNatClampNeg)).toInt32)] [.int (((60 : Int32) * x1) + ((2 : Int32) * x3)), .ref (62 + 3)] _ _ from ?_)
        refine zy_3 rfl rfl (show zyR _ _ _ _ [some (.ref (43 + 3)), some (.int x1), some (.int x2), some (.int x3), some (.int (((60 : Int32) * x1) + ((2 : Int32) * x3))), some (.int ((p5.2.2.1 62 ((((60 : Int32) * x1) + ((2 : Int32) * x3))).toNatClampNeg)).toInt32)] [.int (1 : Int32), .int (((60 : Int32) * x1) + ((2 : Int32) * x3)), .ref (62 + 3)] _ _ from ?_)
        refine zy_10 rfl (show zyR _ _ _ _ [some (.ref (43 + 3)), some (.int x1), some (.int x2), some (.int x3), some (.int (((60 : Int32) * x1) + ((2 : Int32) * x3))), some (.int ((p5.2.2.1 62 ((((60 : Int32) * x1) + ((2 : Int32) * x3))).toNatClampNeg)).toInt32)] [.int ((((60 : Int32) * x1) + ((2 : Int32) * x3)) + (1 : Int32)), .ref (62 + 3)] _ _ from ?_)
        obtain ⟨c7, h⟩ := zy_if h
        refine zy_30 (c := 62) rfl rfl c7 (show zyR _ _ _ _ [some (.ref (43 + 3)), some (.int x1), some (.int x2), some (.int x3), some (.int (((60 : Int32) * x1) + ((2 : Int32) * x3))), some (.int ((p5.2.2.1 62 ((((60 : Int32) * x1) + ((2 : Int32) * x3))).toNatClampNeg)).toInt32)] [.long (p5.2.2.1 62 (((((60 : Int32) * x1) + ((2 : Int32) * x3)) + (1 : Int32))).toNatClampNeg)] _ _ from ?_)
        refine zy_2 rfl rfl (show zyR _ _ _ _ [some (.ref (43 + 3)), some (.int x1), some (.int x2), some (.int x3), some (.int (((60 : Int32) * x1) + ((2 : Int32) * x3))), some (.int ((p5.2.2.1 62 ((((60 : Int32) * x1) + ((2 : Int32) * x3))).toNatClampNeg)).toInt32)] [.int x2, .long (p5.2.2.1 62 (((((60 : Int32) * x1) + ((2 : Int32) * x3)) + (1 : Int32))).toNatClampNeg)] _ _ from ?_)
        refine zy_2 rfl rfl (show zyR _ _ _ _ [some (.ref (43 + 3)), some (.int x1), some (.int x2), some (.int x3), some (.int (((60 : Int32) * x1) + ((2 : Int32) * x3))), some (.int ((p5.2.2.1 62 ((((60 : Int32) * x1) + ((2 : Int32) * x3))).toNatClampNeg)).toInt32)] [.int ((p5.2.2.1 62 ((((60 : Int32) * x1) + ((2 : Int32) * x3))).toNatClampNeg)).toInt32, .int x2, .long (p5.2.2.1 62 (((((60 : Int32) * x1) + ((2 : Int32) * x3)) + (1 : Int32))).toNatClampNeg)] _ _ from ?_)
        refine zy_3 rfl rfl (show zyR _ _ _ _ [some (.ref (43 + 3)), some (.int x1), some (.int x2), some (.int x3), some (.int (((60 : Int32) * x1) + ((2 : Int32) * x3))), some (.int ((p5.2.2.1 62 ((((60 : Int32) * x1) + ((2 : Int32) * x3))).toNatClampNeg)).toInt32)] [.int (4 : Int32), .int ((p5.2.2.1 62 ((((60 : Int32) * x1) + ((2 : Int32) * x3))).toNatClampNeg)).toInt32, .int x2, .long (p5.2.2.1 62 (((((60 : Int32) * x1) + ((2 : Int32) * x3)) + (1 : Int32))).toNatClampNeg)] _ _ from ?_)
        refine zy_19 rfl (by decide) (show zyR _ _ _ _ [some (.ref (43 + 3)), some (.int x1), some (.int x2), some (.int x3), some (.int (((60 : Int32) * x1) + ((2 : Int32) * x3))), some (.int ((p5.2.2.1 62 ((((60 : Int32) * x1) + ((2 : Int32) * x3))).toNatClampNeg)).toInt32)] [.int (((p5.2.2.1 62 ((((60 : Int32) * x1) + ((2 : Int32) * x3))).toNatClampNeg)).toInt32 / (4 : Int32)), .int x2, .long (p5.2.2.1 62 (((((60 : Int32) * x1) + ((2 : Int32) * x3)) + (1 : Int32))).toNatClampNeg)] _ _ from ?_)
        obtain ⟨p8, hp8, h⟩ := zy_bind h
        refine zy_60 (as := [.int x2, .int (((p5.2.2.1 62 ((((60 : Int32) * x1) + ((2 : Int32) * x3))).toNatClampNeg)).toInt32 / (4 : Int32))]) (rest := [.long (p5.2.2.1 62 (((((60 : Int32) * x1) + ((2 : Int32) * x3)) + (1 : Int32))).toNatClampNeg)]) (L := [some (.int x2), some (.int (((p5.2.2.1 62 ((((60 : Int32) * x1) + ((2 : Int32) * x3))).toNatClampNeg)).toInt32 / (4 : Int32)))]) (d' := 1) rfl rfl (Nat.le_of_ble_eq_true rfl) (Nat.le_of_ble_eq_true rfl) rfl (Nat.le_of_ble_eq_true rfl) rfl rfl (zyC206 hp8) ?_
        show zyR _ _ _ _ [some (.ref (43 + 3)), some (.int x1), some (.int x2), some (.int x3), some (.int (((60 : Int32) * x1) + ((2 : Int32) * x3))), some (.int ((p5.2.2.1 62 ((((60 : Int32) * x1) + ((2 : Int32) * x3))).toNatClampNeg)).toInt32)] [.int p8.1, .long (p5.2.2.1 62 (((((60 : Int32) * x1) + ((2 : Int32) * x3)) + (1 : Int32))).toNatClampNeg)] _ _
        refine zy_2 rfl rfl (show zyR _ _ _ _ [some (.ref (43 + 3)), some (.int x1), some (.int x2), some (.int x3), some (.int (((60 : Int32) * x1) + ((2 : Int32) * x3))), some (.int ((p5.2.2.1 62 ((((60 : Int32) * x1) + ((2 : Int32) * x3))).toNatClampNeg)).toInt32)] [.int ((p5.2.2.1 62 ((((60 : Int32) * x1) + ((2 : Int32) * x3))).toNatClampNeg)).toInt32, .int p8.1, .long (p5.2.2.1 62 (((((60 : Int32) * x1) + ((2 : Int32) * x3)) + (1 : Int32))).toNatClampNeg)] _ _ from ?_)
        refine zy_3 rfl rfl (show zyR _ _ _ _ [some (.ref (43 + 3)), some (.int x1), some (.int x2), some (.int x3), some (.int (((60 : Int32) * x1) + ((2 : Int32) * x3))), some (.int ((p5.2.2.1 62 ((((60 : Int32) * x1) + ((2 : Int32) * x3))).toNatClampNeg)).toInt32)] [.int (4 : Int32), .int ((p5.2.2.1 62 ((((60 : Int32) * x1) + ((2 : Int32) * x3))).toNatClampNeg)).toInt32, .int p8.1, .long (p5.2.2.1 62 (((((60 : Int32) * x1) + ((2 : Int32) * x3)) + (1 : Int32))).toNatClampNeg)] _ _ from ?_)
        refine zy_20 rfl (by decide) (show zyR _ _ _ _ [some (.ref (43 + 3)), some (.int x1), some (.int x2), some (.int x3), some (.int (((60 : Int32) * x1) + ((2 : Int32) * x3))), some (.int ((p5.2.2.1 62 ((((60 : Int32) * x1) + ((2 : Int32) * x3))).toNatClampNeg)).toInt32)] [.int (((p5.2.2.1 62 ((((60 : Int32) * x1) + ((2 : Int32) * x3))).toNatClampNeg)).toInt32 - ((p5.2.2.1 62 ((((60 : Int32) * x1) + ((2 : Int32) * x3))).toNatClampNeg)).toInt32 / (4 : Int32) * (4 : Int32)), .int p8.1, .long (p5.2.2.1 62 (((((60 : Int32) * x1) + ((2 : Int32) * x3)) + (1 : Int32))).toNatClampNeg)] _ _ from ?_)
        refine zy_25_1 rfl (fun b9 => (show zyR _ _ _ _ [some (.ref (43 + 3)), some (.int x1), some (.int x2), some (.int x3), some (.int (((60 : Int32) * x1) + ((2 : Int32) * x3))), some (.int ((p5.2.2.1 62 ((((60 : Int32) * x1) + ((2 : Int32) * x3))).toNatClampNeg)).toInt32)] [.long (p5.2.2.1 62 (((((60 : Int32) * x1) + ((2 : Int32) * x3)) + (1 : Int32))).toNatClampNeg)] _ _ from ?_)) (fun b9 => (show zyR _ _ _ _ [some (.ref (43 + 3)), some (.int x1), some (.int x2), some (.int x3), some (.int (((60 : Int32) * x1) + ((2 : Int32) * x3))), some (.int ((p5.2.2.1 62 ((((60 : Int32) * x1) + ((2 : Int32) * x3))).toNatClampNeg)).toInt32)] [.long (p5.2.2.1 62 (((((60 : Int32) * x1) + ((2 : Int32) * x3)) + (1 : Int32))).toNatClampNeg)] _ _ from ?_))
        · replace h := zy_ifp h b9
          refine zy_36 rfl rfl (show zyR _ _ _ _ [some (.ref (43 + 3)), some (.int x1), some (.int x2), some (.int x3), some (.int (((60 : Int32) * x1) + ((2 : Int32) * x3))), some (.int ((p5.2.2.1 62 ((((60 : Int32) * x1) + ((2 : Int32) * x3))).toNatClampNeg)).toInt32)] [.long (1 : Int64), .long (p5.2.2.1 62 (((((60 : Int32) * x1) + ((2 : Int32) * x3)) + (1 : Int32))).toNatClampNeg)] _ _ from ?_)
          exact zy_sub (show zy_le [some (.ref (43 + 3)), some (.int x1), some (.int x2), some (.int x3), none, none] [some (.ref (43 + 3)), some (.int x1), some (.int x2), some (.int x3), some (.int (((60 : Int32) * x1) + ((2 : Int32) * x3))), some (.int ((p5.2.2.1 62 ((((60 : Int32) * x1) + ((2 : Int32) * x3))).toNatClampNeg)).toInt32)] from ⟨rfl, ⟨rfl, ⟨rfl, ⟨rfl, trivial⟩⟩⟩⟩) (zyC230_92 hk2 h)
        · replace h := zy_ifn h b9
          refine zy_36 rfl rfl (show zyR _ _ _ _ [some (.ref (43 + 3)), some (.int x1), some (.int x2), some (.int x3), some (.int (((60 : Int32) * x1) + ((2 : Int32) * x3))), some (.int ((p5.2.2.1 62 ((((60 : Int32) * x1) + ((2 : Int32) * x3))).toNatClampNeg)).toInt32)] [.long (0 : Int64), .long (p5.2.2.1 62 (((((60 : Int32) * x1) + ((2 : Int32) * x3)) + (1 : Int32))).toNatClampNeg)] _ _ from ?_)
          refine zy_6 rfl (show zyR _ _ _ _ [some (.ref (43 + 3)), some (.int x1), some (.int x2), some (.int x3), some (.int (((60 : Int32) * x1) + ((2 : Int32) * x3))), some (.int ((p5.2.2.1 62 ((((60 : Int32) * x1) + ((2 : Int32) * x3))).toNatClampNeg)).toInt32)] [.long (0 : Int64), .long (p5.2.2.1 62 (((((60 : Int32) * x1) + ((2 : Int32) * x3)) + (1 : Int32))).toNatClampNeg)] _ _ from ?_)
          exact zy_sub (show zy_le [some (.ref (43 + 3)), some (.int x1), some (.int x2), some (.int x3), none, none] [some (.ref (43 + 3)), some (.int x1), some (.int x2), some (.int x3), some (.int (((60 : Int32) * x1) + ((2 : Int32) * x3))), some (.int ((p5.2.2.1 62 ((((60 : Int32) * x1) + ((2 : Int32) * x3))).toNatClampNeg)).toInt32)] from ⟨rfl, ⟨rfl, ⟨rfl, ⟨rfl, trivial⟩⟩⟩⟩) (zyC230_92 hk2 h)
      · replace h := zy_ifn h b10
        refine zy_2 rfl rfl (show zyR _ _ _ _ [some (.ref (43 + 3)), some (.int x1), some (.int x2), some (.int x3), some (.int (((60 : Int32) * x1) + ((2 : Int32) * x3))), none] [.int x3] _ _ from ?_)
        obtain ⟨rfl, rfl⟩ := zy_pi h
        exact zy_4 rfl ⟨rfl, rfl⟩
noncomputable def zyF230_2   (n : Nat) : Int32 → Int32 → Int32 → zy_S → Option (Int32 × zy_S) := Nat.rec (fun _ _ _ _ => none) (fun _ k2 => zyF230_2b k2) n
theorem zyC230_2 {X : zx_X}     : ∀ (n : Nat) (x1 : Int32) (x2 : Int32) (x3 : Int32) (s : zy_S) (r : Int32) (s' : zy_S), zyF230_2 n x1 x2 x3 s = some (r, s') → zyR X 3 230 2 [some (.ref (43 + 3)), some (.int x1), some (.int x2), some (.int x3), none, none] [] s (zyE (some (.int r)) s')
  | 0, _, _, _ => by
    intro s r s'  h
    have h : (none : Option (Int32 × zy_S)) = some (r, s') := h
    cases h
  | n + 1, x1, x2, x3 => by
    intro s r s'  h
    exact zyC230_2b (k2 := zyF230_2 n) (fun x1 x2 x3 s r s'  h => zyC230_2  n x1 x2 x3 s r s'  h) h
noncomputable def zyF230   (x1 : Int32) (x2 : Int32) (s : zy_S) : Option (Int32 × zy_S) :=
zyF230_2 zy_fu x1 x2 (0 : Int32) s
theorem zyC230 {X : zx_X}     {x1 : Int32} {x2 : Int32} {s : zy_S} {r : Int32} {s' : zy_S}  (h : zyF230 x1 x2 s = some (r, s')) : zyR X 3 230 0 [some (.ref (43 + 3)), some (.int x1), some (.int x2), none, none, none] [] s (zyE (some (.int r)) s') := by
  unfold zyF230 at h
  refine zy_3 rfl rfl (show zyR _ _ _ _ [some (.ref (43 + 3)), some (.int x1), some (.int x2), none, none, none] [.int (0 : Int32)] _ _ from ?_)
  refine zy_23 rfl rfl (show zyR _ _ _ _ [some (.ref (43 + 3)), some (.int x1), some (.int x2), some (.int (0 : Int32)), none, none] [] _ _ from ?_)
  exact zy_sub (show zy_le [some (.ref (43 + 3)), some (.int x1), some (.int x2), some (.int (0 : Int32)), none, none] [some (.ref (43 + 3)), some (.int x1), some (.int x2), some (.int (0 : Int32)), none, none] from ⟨rfl, ⟨rfl, ⟨rfl, ⟨rfl, trivial⟩⟩⟩⟩) (zyC230_2 zy_fu x1 x2 (0 : Int32) s _ _ h)
/-! NineOpinionsModel.judge(II)I -/
noncomputable def zyF228   (x1 : Int32) (x2 : Int32) (s : zy_S) : Option (Int32 × zy_S) :=
(zyF229 x1 s).bind fun p1 =>
if p1.1 = (-1 : Int32) then
some ((-1 : Int32), p1.2)
else
(zyF185 (x2).toInt64 p1.2).bind fun p2 =>
if p2.1 ≠ 0 then
(zyF229 x1 p2.2).bind fun p3 =>
if 0 ≤ p3.1 then
if zy_in x2 41 then
(zyF230 x1 (p3.2.1 44 (x2).toNatClampNeg) p3.2).bind fun p5 =>
some (p5.1, p5.2)
else none
else
(zyF229 x1 p3.2).bind fun p6 =>
some (p6.1, p6.2)
else
some ((-1 : Int32), p2.2)
theorem zyC228 {X : zx_X}     {x1 : Int32} {x2 : Int32} {s : zy_S} {r : Int32} {s' : zy_S}  (h : zyF228 x1 x2 s = some (r, s')) : zyR X 4 228 0 [some (.ref (43 + 3)), some (.int x1), some (.int x2)] [] s (zyE (some (.int r)) s') := by
  unfold zyF228 at h
  refine zy_0 rfl rfl (show zyR _ _ _ _ [some (.ref (43 + 3)), some (.int x1), some (.int x2)] [.ref (43 + 3)] _ _ from ?_)
  refine zy_2 rfl rfl (show zyR _ _ _ _ [some (.ref (43 + 3)), some (.int x1), some (.int x2)] [.int x1, .ref (43 + 3)] _ _ from ?_)
  obtain ⟨p1, hp1, h⟩ := zy_bind h
  refine zy_5 (c := 43) (as := [.int x1]) (rest := []) (L := [some (.ref (43 + 3)), some (.int x1)]) (d' := 3) rfl rfl rfl (Nat.le_of_ble_eq_true rfl) (Nat.le_of_ble_eq_true rfl) rfl (Nat.le_of_ble_eq_true rfl) rfl rfl (zyC229 hp1) ?_
  show zyR _ _ _ _ [some (.ref (43 + 3)), some (.int x1), some (.int x2)] [.int p1.1] _ _
  refine zy_3 rfl rfl (show zyR _ _ _ _ [some (.ref (43 + 3)), some (.int x1), some (.int x2)] [.int (-1 : Int32), .int p1.1] _ _ from ?_)
  refine zy_25_0 rfl (fun b9 => (show zyR _ _ _ _ [some (.ref (43 + 3)), some (.int x1), some (.int x2)] [] _ _ from ?_)) (fun b9 => (show zyR _ _ _ _ [some (.ref (43 + 3)), some (.int x1), some (.int x2)] [] _ _ from ?_))
  · replace h := zy_ifp h b9
    refine zy_3 rfl rfl (show zyR _ _ _ _ [some (.ref (43 + 3)), some (.int x1), some (.int x2)] [.int (-1 : Int32)] _ _ from ?_)
    refine zy_6 rfl (show zyR _ _ _ _ [some (.ref (43 + 3)), some (.int x1), some (.int x2)] [.int (-1 : Int32)] _ _ from ?_)
    obtain ⟨rfl, rfl⟩ := zy_pi h
    exact zy_4 rfl ⟨rfl, rfl⟩
  · replace h := zy_ifn h b9
    refine zy_0 rfl rfl (show zyR _ _ _ _ [some (.ref (43 + 3)), some (.int x1), some (.int x2)] [.ref (43 + 3)] _ _ from ?_)
    refine zy_2 rfl rfl (show zyR _ _ _ _ [some (.ref (43 + 3)), some (.int x1), some (.int x2)] [.int x2, .ref (43 + 3)] _ _ from ?_)
    refine zy_40 rfl (show zyR _ _ _ _ [some (.ref (43 + 3)), some (.int x1), some (.int x2)] [.long (x2).toInt64, .ref (43 + 3)] _ _ from ?_)
    obtain ⟨p2, hp2, h⟩ := zy_bind h
    refine zy_5 (c := 43) (as := [.long (x2).toInt64]) (rest := []) (L := [some (.ref (43 + 3)), some (.long (x2).toInt64), none]) (d' := 2) rfl rfl rfl (Nat.le_of_ble_eq_true rfl) (Nat.le_of_ble_eq_true rfl) rfl (Nat.le_of_ble_eq_true rfl) rfl rfl (zyC185 hp2) ?_
    show zyR _ _ _ _ [some (.ref (43 + 3)), some (.int x1), some (.int x2)] [.int p2.1] _ _
    refine zy_24_1 rfl (fun b8 => (show zyR _ _ _ _ [some (.ref (43 + 3)), some (.int x1), some (.int x2)] [] _ _ from ?_)) (fun b8 => (show zyR _ _ _ _ [some (.ref (43 + 3)), some (.int x1), some (.int x2)] [] _ _ from ?_))
    · replace h := zy_ifp h b8
      refine zy_0 rfl rfl (show zyR _ _ _ _ [some (.ref (43 + 3)), some (.int x1), some (.int x2)] [.ref (43 + 3)] _ _ from ?_)
      refine zy_2 rfl rfl (show zyR _ _ _ _ [some (.ref (43 + 3)), some (.int x1), some (.int x2)] [.int x1, .ref (43 + 3)] _ _ from ?_)
      obtain ⟨p3, hp3, h⟩ := zy_bind h
      refine zy_5 (c := 43) (as := [.int x1]) (rest := []) (L := [some (.ref (43 + 3)), some (.int x1)]) (d' := 3) rfl rfl rfl (Nat.le_of_ble_eq_true rfl) (Nat.le_of_ble_eq_true rfl) rfl (Nat.le_of_ble_eq_true rfl) rfl rfl (zyC229 hp3) ?_
      show zyR _ _ _ _ [some (.ref (43 + 3)), some (.int x1), some (.int x2)] [.int p3.1] _ _
      refine zy_24_3 rfl (fun b7 => (show zyR _ _ _ _ [some (.ref (43 + 3)), some (.int x1), some (.int x2)] [] _ _ from ?_)) (fun b7 => (show zyR _ _ _ _ [some (.ref (43 + 3)), some (.int x1), some (.int x2)] [] _ _ from ?_))
      · replace h := zy_ifp h b7
        refine zy_0 rfl rfl (show zyR _ _ _ _ [some (.ref (43 + 3)), some (.int x1), some (.int x2)] [.ref (43 + 3)] _ _ from ?_)
        refine zy_2 rfl rfl (show zyR _ _ _ _ [some (.ref (43 + 3)), some (.int x1), some (.int x2)] [.int x1, .ref (43 + 3)] _ _ from ?_)
        refine zy_0 rfl rfl (show zyR _ _ _ _ [some (.ref (43 + 3)), some (.int x1), some (.int x2)] [.ref (43 + 3), .int x1, .ref (43 + 3)] _ _ from ?_)
        refine zy_1r (c := 43) rfl rfl rfl (show zyR _ _ _ _ [some (.ref (43 + 3)), some (.int x1), some (.int x2)] [.ref (44 + 3), .int x1, .ref (43 + 3)] _ _ from ?_)
        refine zy_2 rfl rfl (show zyR _ _ _ _ [some (.ref (43 + 3)), some (.int x1), some (.int x2)] [.int x2, .ref (44 + 3), .int x1, .ref (43 + 3)] _ _ from ?_)
        obtain ⟨c4, h⟩ := zy_if h
        refine zy_26 (c := 44) rfl rfl c4 (show zyR _ _ _ _ [some (.ref (43 + 3)), some (.int x1), some (.int x2)] [.int (p3.2.1 44 (x2).toNatClampNeg), .int x1, .ref (43 + 3)] _ _ from ?_)
        obtain ⟨p5, hp5, h⟩ := zy_bind h
        refine zy_5 (c := 43) (as := [.int x1, .int (p3.2.1 44 (x2).toNatClampNeg)]) (rest := []) (L := [some (.ref (43 + 3)), some (.int x1), some (.int (p3.2.1 44 (x2).toNatClampNeg)), none, none, none]) (d' := 3) rfl rfl rfl (Nat.le_of_ble_eq_true rfl) (Nat.le_of_ble_eq_true rfl) rfl (Nat.le_of_ble_eq_true rfl) rfl rfl (zyC230 hp5) ?_
        show zyR _ _ _ _ [some (.ref (43 + 3)), some (.int x1), some (.int x2)] [.int p5.1] _ _
        obtain ⟨rfl, rfl⟩ := zy_pi h
        exact zy_4 rfl ⟨rfl, rfl⟩
      · replace h := zy_ifn h b7
        refine zy_0 rfl rfl (show zyR _ _ _ _ [some (.ref (43 + 3)), some (.int x1), some (.int x2)] [.ref (43 + 3)] _ _ from ?_)
        refine zy_2 rfl rfl (show zyR _ _ _ _ [some (.ref (43 + 3)), some (.int x1), some (.int x2)] [.int x1, .ref (43 + 3)] _ _ from ?_)
        obtain ⟨p6, hp6, h⟩ := zy_bind h
        refine zy_5 (c := 43) (as := [.int x1]) (rest := []) (L := [some (.ref (43 + 3)), some (.int x1)]) (d' := 3) rfl rfl rfl (Nat.le_of_ble_eq_true rfl) (Nat.le_of_ble_eq_true rfl) rfl (Nat.le_of_ble_eq_true rfl) rfl rfl (zyC229 hp6) ?_
        show zyR _ _ _ _ [some (.ref (43 + 3)), some (.int x1), some (.int x2)] [.int p6.1] _ _
        refine zy_6 rfl (show zyR _ _ _ _ [some (.ref (43 + 3)), some (.int x1), some (.int x2)] [.int p6.1] _ _ from ?_)
        obtain ⟨rfl, rfl⟩ := zy_pi h
        exact zy_4 rfl ⟨rfl, rfl⟩
    · replace h := zy_ifn h b8
      refine zy_3 rfl rfl (show zyR _ _ _ _ [some (.ref (43 + 3)), some (.int x1), some (.int x2)] [.int (-1 : Int32)] _ _ from ?_)
      refine zy_6 rfl (show zyR _ _ _ _ [some (.ref (43 + 3)), some (.int x1), some (.int x2)] [.int (-1 : Int32)] _ _ from ?_)
      obtain ⟨rfl, rfl⟩ := zy_pi h
      exact zy_4 rfl ⟨rfl, rfl⟩
/-! NineOpinions.isOneOfTwo(I)Z -/
noncomputable def zyF84   (x0 : Int32) (s : zy_S) : Option (Int32 × zy_S) :=
if x0 = 0 then
some ((1 : Int32), s)
else
if x0 ≠ (1 : Int32) then
some ((0 : Int32), s)
else
some ((1 : Int32), s)
theorem zyC84 {X : zx_X}     {x0 : Int32} {s : zy_S} {r : Int32} {s' : zy_S}  (h : zyF84 x0 s = some (r, s')) : zyR X 1 84 0 [some (.int x0)] [] s (zyE (some (.int r)) s') := by
  unfold zyF84 at h
  refine zy_2 rfl rfl (show zyR _ _ _ _ [some (.int x0)] [.int x0] _ _ from ?_)
  refine zy_24_0 rfl (fun b2 => (show zyR _ _ _ _ [some (.int x0)] [] _ _ from ?_)) (fun b2 => (show zyR _ _ _ _ [some (.int x0)] [] _ _ from ?_))
  · replace h := zy_ifp h b2
    refine zy_3 rfl rfl (show zyR _ _ _ _ [some (.int x0)] [.int (1 : Int32)] _ _ from ?_)
    refine zy_6 rfl (show zyR _ _ _ _ [some (.int x0)] [.int (1 : Int32)] _ _ from ?_)
    cases h
    exact zy_4b rfl ⟨rfl, rfl⟩ (Or.inr rfl)
  · replace h := zy_ifn h b2
    refine zy_2 rfl rfl (show zyR _ _ _ _ [some (.int x0)] [.int x0] _ _ from ?_)
    refine zy_3 rfl rfl (show zyR _ _ _ _ [some (.int x0)] [.int (1 : Int32), .int x0] _ _ from ?_)
    refine zy_25_1 rfl (fun b1 => (show zyR _ _ _ _ [some (.int x0)] [] _ _ from ?_)) (fun b1 => (show zyR _ _ _ _ [some (.int x0)] [] _ _ from ?_))
    · replace h := zy_ifp h b1
      refine zy_3 rfl rfl (show zyR _ _ _ _ [some (.int x0)] [.int (0 : Int32)] _ _ from ?_)
      cases h
      exact zy_4b rfl ⟨rfl, rfl⟩ (Or.inl rfl)
    · replace h := zy_ifn h b1
      refine zy_3 rfl rfl (show zyR _ _ _ _ [some (.int x0)] [.int (1 : Int32)] _ _ from ?_)
      refine zy_6 rfl (show zyR _ _ _ _ [some (.int x0)] [.int (1 : Int32)] _ _ from ?_)
      cases h
      exact zy_4b rfl ⟨rfl, rfl⟩ (Or.inr rfl)
/-! java/lang/Math.abs(I)I -/
noncomputable def zyF62   (x0 : Int32) (s : zy_S) : Option (Int32 × zy_S) :=
if 0 ≤ x0 then
some (x0, s)
else
some ((-x0), s)
theorem zyC62 {X : zx_X}     {x0 : Int32} {s : zy_S} {r : Int32} {s' : zy_S}  (h : zyF62 x0 s = some (r, s')) : zyR X 1 62 0 [some (.int x0)] [] s (zyE (some (.int r)) s') := by
  unfold zyF62 at h
  refine zy_2 rfl rfl (show zyR _ _ _ _ [some (.int x0)] [.int x0] _ _ from ?_)
  refine zy_24_3 rfl (fun b1 => (show zyR _ _ _ _ [some (.int x0)] [] _ _ from ?_)) (fun b1 => (show zyR _ _ _ _ [some (.int x0)] [] _ _ from ?_))
  · replace h := zy_ifp h b1
    refine zy_2 rfl rfl (show zyR _ _ _ _ [some (.int x0)] [.int x0] _ _ from ?_)
    obtain ⟨rfl, rfl⟩ := zy_pi h
    exact zy_4 rfl ⟨rfl, rfl⟩
  · replace h := zy_ifn h b1
    refine zy_2 rfl rfl (show zyR _ _ _ _ [some (.int x0)] [.int x0] _ _ from ?_)
    refine zy_21 rfl (show zyR _ _ _ _ [some (.int x0)] [.int (-x0)] _ _ from ?_)
    refine zy_6 rfl (show zyR _ _ _ _ [some (.int x0)] [.int (-x0)] _ _ from ?_)
    obtain ⟨rfl, rfl⟩ := zy_pi h
    exact zy_4 rfl ⟨rfl, rfl⟩
/-! NineOpinions$Votes.apartOn(III)I -/
noncomputable def zyF121   (x1 : Int32) (x2 : Int32) (x3 : Int32) (s : zy_S) : Option (Int32 × zy_S) :=
if zy_in x2 8 then
(zyF60 (s.1 3 (x2).toNatClampNeg) x1 s).bind fun p2 =>
if zy_in x3 8 then
(zyF60 (p2.2.1 3 (x3).toNatClampNeg) x1 p2.2).bind fun p4 =>
(zyF62 (p2.1 - p4.1) p4.2).bind fun p5 =>
some (p5.1, p5.2)
else none
else none
theorem zyC121 {X : zx_X}     {x1 : Int32} {x2 : Int32} {x3 : Int32} {s : zy_S} {r : Int32} {s' : zy_S}  (h : zyF121 x1 x2 x3 s = some (r, s')) : zyR X 2 121 0 [some (.ref (16 + 3)), some (.int x1), some (.int x2), some (.int x3)] [] s (zyE (some (.int r)) s') := by
  unfold zyF121 at h
  refine zy_0 rfl rfl (show zyR _ _ _ _ [some (.ref (16 + 3)), some (.int x1), some (.int x2), some (.int x3)] [.ref (16 + 3)] _ _ from ?_)
  refine zy_1r (c := 16) rfl rfl rfl (show zyR _ _ _ _ [some (.ref (16 + 3)), some (.int x1), some (.int x2), some (.int x3)] [.ref (1 + 3)] _ _ from ?_)
  refine zy_1r (c := 1) rfl rfl rfl (show zyR _ _ _ _ [some (.ref (16 + 3)), some (.int x1), some (.int x2), some (.int x3)] [.ref (3 + 3)] _ _ from ?_)
  refine zy_2 rfl rfl (show zyR _ _ _ _ [some (.ref (16 + 3)), some (.int x1), some (.int x2), some (.int x3)] [.int x2, .ref (3 + 3)] _ _ from ?_)
  obtain ⟨c1, h⟩ := zy_if h
  refine zy_26 (c := 3) rfl rfl c1 (show zyR _ _ _ _ [some (.ref (16 + 3)), some (.int x1), some (.int x2), some (.int x3)] [.int (s.1 3 (x2).toNatClampNeg)] _ _ from ?_)
  refine zy_2 rfl rfl (show zyR _ _ _ _ [some (.ref (16 + 3)), some (.int x1), some (.int x2), some (.int x3)] [.int x1, .int (s.1 3 (x2).toNatClampNeg)] _ _ from ?_)
  obtain ⟨p2, hp2, h⟩ := zy_bind h
  refine zy_61 (as := [.int (s.1 3 (x2).toNatClampNeg), .int x1]) (rest := []) (L := [some (.int (s.1 3 (x2).toNatClampNeg)), some (.int x1)]) (d' := 1) rfl rfl (Nat.le_of_ble_eq_true rfl) (Nat.le_of_ble_eq_true rfl) rfl (Nat.le_of_ble_eq_true rfl) rfl rfl (zyC60 hp2) ?_
  show zyR _ _ _ _ [some (.ref (16 + 3)), some (.int x1), some (.int x2), some (.int x3)] [.int p2.1] _ _
  refine zy_0 rfl rfl (show zyR _ _ _ _ [some (.ref (16 + 3)), some (.int x1), some (.int x2), some (.int x3)] [.ref (16 + 3), .int p2.1] _ _ from ?_)
  refine zy_1r (c := 16) rfl rfl rfl (show zyR _ _ _ _ [some (.ref (16 + 3)), some (.int x1), some (.int x2), some (.int x3)] [.ref (1 + 3), .int p2.1] _ _ from ?_)
  refine zy_1r (c := 1) rfl rfl rfl (show zyR _ _ _ _ [some (.ref (16 + 3)), some (.int x1), some (.int x2), some (.int x3)] [.ref (3 + 3), .int p2.1] _ _ from ?_)
  refine zy_2 rfl rfl (show zyR _ _ _ _ [some (.ref (16 + 3)), some (.int x1), some (.int x2), some (.int x3)] [.int x3, .ref (3 + 3), .int p2.1] _ _ from ?_)
  obtain ⟨c3, h⟩ := zy_if h
  refine zy_26 (c := 3) rfl rfl c3 (show zyR _ _ _ _ [some (.ref (16 + 3)), some (.int x1), some (.int x2), some (.int x3)] [.int (p2.2.1 3 (x3).toNatClampNeg), .int p2.1] _ _ from ?_)
  refine zy_2 rfl rfl (show zyR _ _ _ _ [some (.ref (16 + 3)), some (.int x1), some (.int x2), some (.int x3)] [.int x1, .int (p2.2.1 3 (x3).toNatClampNeg), .int p2.1] _ _ from ?_)
  obtain ⟨p4, hp4, h⟩ := zy_bind h
  refine zy_61 (as := [.int (p2.2.1 3 (x3).toNatClampNeg), .int x1]) (rest := [.int p2.1]) (L := [some (.int (p2.2.1 3 (x3).toNatClampNeg)), some (.int x1)]) (d' := 1) rfl rfl (Nat.le_of_ble_eq_true rfl) (Nat.le_of_ble_eq_true rfl) rfl (Nat.le_of_ble_eq_true rfl) rfl rfl (zyC60 hp4) ?_
  show zyR _ _ _ _ [some (.ref (16 + 3)), some (.int x1), some (.int x2), some (.int x3)] [.int p4.1, .int p2.1] _ _
  refine zy_11 rfl (show zyR _ _ _ _ [some (.ref (16 + 3)), some (.int x1), some (.int x2), some (.int x3)] [.int (p2.1 - p4.1)] _ _ from ?_)
  obtain ⟨p5, hp5, h⟩ := zy_bind h
  refine zy_60 (as := [.int (p2.1 - p4.1)]) (rest := []) (L := [some (.int (p2.1 - p4.1))]) (d' := 1) rfl rfl (Nat.le_of_ble_eq_true rfl) (Nat.le_of_ble_eq_true rfl) rfl (Nat.le_of_ble_eq_true rfl) rfl rfl (zyC62 hp5) ?_
  show zyR _ _ _ _ [some (.ref (16 + 3)), some (.int x1), some (.int x2), some (.int x3)] [.int p5.1] _ _
  obtain ⟨rfl, rfl⟩ := zy_pi h
  exact zy_4 rfl ⟨rfl, rfl⟩
/-! NineOpinions$Votes.sameViews(II)I -/
noncomputable def zyF120_29  (k5 : Int32 → Int32 → Int32 → Int32 → zy_S → Option (Int32 × zy_S)) (x1 : Int32) (x2 : Int32) (x4 : Int32) (y0 : Int32) (y1 : Int32) (s : zy_S) : Option (Int32 × zy_S) :=
k5 x1 x2 (y1 + y0) (x4 + (1 : Int32)) s
theorem zyC120_29 {X : zx_X}  {k5 : Int32 → Int32 → Int32 → Int32 → zy_S → Option (Int32 × zy_S)}  (hk5 : ∀ (x1 : Int32) (x2 : Int32) (x3 : Int32) (x4 : Int32) (s : zy_S) (r : Int32) (s' : zy_S), k5 x1 x2 x3 x4 s = some (r, s') → zyR X 3 120 5 [some (.ref (16 + 3)), some (.int x1), some (.int x2), some (.int x3), some (.int x4)] [] s (zyE (some (.int r)) s')) {x1 : Int32} {x2 : Int32} {x4 : Int32} {y0 : Int32} {y1 : Int32} {s : zy_S} {r : Int32} {s' : zy_S}  (h : zyF120_29 k5 x1 x2 x4 y0 y1 s = some (r, s')) : zyR X 3 120 29 [some (.ref (16 + 3)), some (.int x1), some (.int x2), none, some (.int x4)] [.int y0, .int y1] s (zyE (some (.int r)) s') := by
  unfold zyF120_29 at h
  refine zy_10 rfl (show zyR _ _ _ _ [some (.ref (16 + 3)), some (.int x1), some (.int x2), none, some (.int x4)] [.int (y1 + y0)] _ _ from ?_)
  refine zy_23 rfl rfl (show zyR _ _ _ _ [some (.ref (16 + 3)), some (.int x1), some (.int x2), some (.int (y1 + y0)), some (.int x4)] [] _ _ from ?_)
  refine zy_22 rfl rfl rfl rfl (show zyR _ _ _ _ [some (.ref (16 + 3)), some (.int x1), some (.int x2), some (.int (y1 + y0)), some (.int (x4 + (1 : Int32)))] [] _ _ from ?_)
  refine zy_6 rfl (show zyR _ _ _ _ [some (.ref (16 + 3)), some (.int x1), some (.int x2), some (.int (y1 + y0)), some (.int (x4 + (1 : Int32)))] [] _ _ from ?_)
  exact zy_sub (show zy_le [some (.ref (16 + 3)), some (.int x1), some (.int x2), some (.int (y1 + y0)), some (.int (x4 + (1 : Int32)))] [some (.ref (16 + 3)), some (.int x1), some (.int x2), some (.int (y1 + y0)), some (.int (x4 + (1 : Int32)))] from ⟨rfl, ⟨rfl, ⟨rfl, ⟨rfl, ⟨rfl, trivial⟩⟩⟩⟩⟩) (hk5 x1 x2 (y1 + y0) (x4 + (1 : Int32)) s _ _ h)
noncomputable def zyF120_5b  (k5 : Int32 → Int32 → Int32 → Int32 → zy_S → Option (Int32 × zy_S)) (x1 : Int32) (x2 : Int32) (x3 : Int32) (x4 : Int32) (s : zy_S) : Option (Int32 × zy_S) :=
if (6 : Int32) ≤ x4 then
some (x3, s)
else
(zyF121 x4 x1 x2 s).bind fun p1 =>
if p1.1 ≠ 0 then
zyF120_29 k5 x1 x2 x4 (0 : Int32) x3 p1.2
else
zyF120_29 k5 x1 x2 x4 (1 : Int32) x3 p1.2
theorem zyC120_5b {X : zx_X}  {k5 : Int32 → Int32 → Int32 → Int32 → zy_S → Option (Int32 × zy_S)}  (hk5 : ∀ (x1 : Int32) (x2 : Int32) (x3 : Int32) (x4 : Int32) (s : zy_S) (r : Int32) (s' : zy_S), k5 x1 x2 x3 x4 s = some (r, s') → zyR X 3 120 5 [some (.ref (16 + 3)), some (.int x1), some (.int x2), some (.int x3), some (.int x4)] [] s (zyE (some (.int r)) s')) {x1 : Int32} {x2 : Int32} {x3 : Int32} {x4 : Int32} {s : zy_S} {r : Int32} {s' : zy_S}  (h : zyF120_5b k5 x1 x2 x3 x4 s = some (r, s')) : zyR X 3 120 5 [some (.ref (16 + 3)), some (.int x1), some (.int x2), some (.int x3), some (.int x4)] [] s (zyE (some (.int r)) s') := by
  unfold zyF120_5b at h
  refine zy_2 rfl rfl (show zyR _ _ _ _ [some (.ref (16 + 3)), some (.int x1), some (.int x2), some (.int x3), some (.int x4)] [.int x4] _ _ from ?_)
  refine zy_3 rfl rfl (show zyR _ _ _ _ [some (.ref (16 + 3)), some (.int x1), some (.int x2), some (.int x3), some (.int x4)] [.int (6 : Int32), .int x4] _ _ from ?_)
  refine zy_25_3 rfl (fun b3 => (show zyR _ _ _ _ [some (.ref (16 + 3)), some (.int x1), some (.int x2), some (.int x3), some (.int x4)] [] _ _ from ?_)) (fun b3 => (show zyR _ _ _ _ [some (.ref (16 + 3)), some (.int x1), some (.int x2), some (.int x3), some (.int x4)] [] _ _ from ?_))
  · replace h := zy_ifp h b3
    refine zy_2 rfl rfl (show zyR _ _ _ _ [some (.ref (16 + 3)), some (.int x1), some (.int x2), some (.int x3), some (.int x4)] [.int x3] _ _ from ?_)
    obtain ⟨rfl, rfl⟩ := zy_pi h
    exact zy_4 rfl ⟨rfl, rfl⟩
  · replace h := zy_ifn h b3
    refine zy_2 rfl rfl (show zyR _ _ _ _ [some (.ref (16 + 3)), some (.int x1), some (.int x2), some (.int x3), some (.int x4)] [.int x3] _ _ from ?_)
    refine zy_0 rfl rfl (show zyR _ _ _ _ [some (.ref (16 + 3)), some (.int x1), some (.int x2), some (.int x3), some (.int x4)] [.ref (16 + 3), .int x3] _ _ from ?_)
    refine zy_2 rfl rfl (show zyR _ _ _ _ [some (.ref (16 + 3)), some (.int x1), some (.int x2), some (.int x3), some (.int x4)] [.int x4, .ref (16 + 3), .int x3] _ _ from ?_)
    refine zy_2 rfl rfl (show zyR _ _ _ _ [some (.ref (16 + 3)), some (.int x1), some (.int x2), some (.int x3), some (.int x4)] [.int x1, .int x4, .ref (16 + 3), .int x3] _ _ from ?_)
    refine zy_2 rfl rfl (show zyR _ _ _ _ [some (.ref (16 + 3)), some (.int x1), some (.int x2), some (.int x3), some (.int x4)] [.int x2, .int x1, .int x4, .ref (16 + 3), .int x3] _ _ from ?_)
    obtain ⟨p1, hp1, h⟩ := zy_bind h
    refine zy_5 (c := 16) (as := [.int x4, .int x1, .int x2]) (rest := [.int x3]) (L := [some (.ref (16 + 3)), some (.int x4), some (.int x1), some (.int x2)]) (d' := 2) rfl rfl rfl (Nat.le_of_ble_eq_true rfl) (Nat.le_of_ble_eq_true rfl) rfl (Nat.le_of_ble_eq_true rfl) rfl rfl (zyC121 hp1) ?_
    show zyR _ _ _ _ [some (.ref (16 + 3)), some (.int x1), some (.int x2), some (.int x3), some (.int x4)] [.int p1.1, .int x3] _ _
    refine zy_24_1 rfl (fun b2 => (show zyR _ _ _ _ [some (.ref (16 + 3)), some (.int x1), some (.int x2), some (.int x3), some (.int x4)] [.int x3] _ _ from ?_)) (fun b2 => (show zyR _ _ _ _ [some (.ref (16 + 3)), some (.int x1), some (.int x2), some (.int x3), some (.int x4)] [.int x3] _ _ from ?_))
    · replace h := zy_ifp h b2
      refine zy_3 rfl rfl (show zyR _ _ _ _ [some (.ref (16 + 3)), some (.int x1), some (.int x2), some (.int x3), some (.int x4)] [.int (0 : Int32), .int x3] _ _ from ?_)
      exact zy_sub (show zy_le [some (.ref (16 + 3)), some (.int x1), some (.int x2), none, some (.int x4)] [some (.ref (16 + 3)), some (.int x1), some (.int x2), some (.int x3), some (.int x4)] from ⟨rfl, ⟨rfl, ⟨rfl, ⟨rfl, trivial⟩⟩⟩⟩) (zyC120_29 hk5 h)
    · replace h := zy_ifn h b2
      refine zy_3 rfl rfl (show zyR _ _ _ _ [some (.ref (16 + 3)), some (.int x1), some (.int x2), some (.int x3), some (.int x4)] [.int (1 : Int32), .int x3] _ _ from ?_)
      refine zy_6 rfl (show zyR _ _ _ _ [some (.ref (16 + 3)), some (.int x1), some (.int x2), some (.int x3), some (.int x4)] [.int (1 : Int32), .int x3] _ _ from ?_)
      exact zy_sub (show zy_le [some (.ref (16 + 3)), some (.int x1), some (.int x2), none, some (.int x4)] [some (.ref (16 + 3)), some (.int x1), some (.int x2), some (.int x3), some (.int x4)] from ⟨rfl, ⟨rfl, ⟨rfl, ⟨rfl, trivial⟩⟩⟩⟩) (zyC120_29 hk5 h)
noncomputable def zyF120_5   (n : Nat) : Int32 → Int32 → Int32 → Int32 → zy_S → Option (Int32 × zy_S) := Nat.rec (fun _ _ _ _ _ => none) (fun _ k5 => zyF120_5b k5) n
theorem zyC120_5 {X : zx_X}     : ∀ (n : Nat) (x1 : Int32) (x2 : Int32) (x3 : Int32) (x4 : Int32) (s : zy_S) (r : Int32) (s' : zy_S), zyF120_5 n x1 x2 x3 x4 s = some (r, s') → zyR X 3 120 5 [some (.ref (16 + 3)), some (.int x1), some (.int x2), some (.int x3), some (.int x4)] [] s (zyE (some (.int r)) s')
  | 0, _, _, _, _ => by
    intro s r s'  h
    have h : (none : Option (Int32 × zy_S)) = some (r, s') := h
    cases h
  | n + 1, x1, x2, x3, x4 => by
    intro s r s'  h
    exact zyC120_5b (k5 := zyF120_5 n) (fun x1 x2 x3 x4 s r s'  h => zyC120_5  n x1 x2 x3 x4 s r s'  h) h
noncomputable def zyF120   (x1 : Int32) (x2 : Int32) (s : zy_S) : Option (Int32 × zy_S) :=
zyF120_5 zy_fu x1 x2 (0 : Int32) (0 : Int32) s
theorem zyC120 {X : zx_X}     {x1 : Int32} {x2 : Int32} {s : zy_S} {r : Int32} {s' : zy_S}  (h : zyF120 x1 x2 s = some (r, s')) : zyR X 3 120 0 [some (.ref (16 + 3)), some (.int x1), some (.int x2), none, none] [] s (zyE (some (.int r)) s') := by
  unfold zyF120 at h
  refine zy_3 rfl rfl (show zyR _ _ _ _ [some (.ref (16 + 3)), some (.int x1), some (.int x2), none, none] [.int (0 : Int32)] _ _ from ?_)
  refine zy_23 rfl rfl (show zyR _ _ _ _ [some (.ref (16 + 3)), some (.int x1), some (.int x2), some (.int (0 : Int32)), none] [] _ _ from ?_)
  refine zy_3 rfl rfl (show zyR _ _ _ _ [some (.ref (16 + 3)), some (.int x1), some (.int x2), some (.int (0 : Int32)), none] [.int (0 : Int32)] _ _ from ?_)
  refine zy_23 rfl rfl (show zyR _ _ _ _ [some (.ref (16 + 3)), some (.int x1), some (.int x2), some (.int (0 : Int32)), some (.int (0 : Int32))] [] _ _ from ?_)
  exact zy_sub (show zy_le [some (.ref (16 + 3)), some (.int x1), some (.int x2), some (.int (0 : Int32)), some (.int (0 : Int32))] [some (.ref (16 + 3)), some (.int x1), some (.int x2), some (.int (0 : Int32)), some (.int (0 : Int32))] from ⟨rfl, ⟨rfl, ⟨rfl, ⟨rfl, ⟨rfl, trivial⟩⟩⟩⟩⟩) (zyC120_5 zy_fu x1 x2 (0 : Int32) (0 : Int32) s _ _ h)
/-! NineOpinions$Votes.apart(II)I -/
noncomputable def zyF122_5b  (k5 : Int32 → Int32 → Int32 → Int32 → zy_S → Option (Int32 × zy_S)) (x1 : Int32) (x2 : Int32) (x3 : Int32) (x4 : Int32) (s : zy_S) : Option (Int32 × zy_S) :=
if (6 : Int32) ≤ x4 then
some (x3, s)
else
(zyF121 x4 x1 x2 s).bind fun p1 =>
k5 x1 x2 (x3 + p1.1) (x4 + (1 : Int32)) p1.2
theorem zyC122_5b {X : zx_X}  {k5 : Int32 → Int32 → Int32 → Int32 → zy_S → Option (Int32 × zy_S)}  (hk5 : ∀ (x1 : Int32) (x2 : Int32) (x3 : Int32) (x4 : Int32) (s : zy_S) (r : Int32) (s' : zy_S), k5 x1 x2 x3 x4 s = some (r, s') → zyR X 3 122 5 [some (.ref (16 + 3)), some (.int x1), some (.int x2), some (.int x3), some (.int x4)] [] s (zyE (some (.int r)) s')) {x1 : Int32} {x2 : Int32} {x3 : Int32} {x4 : Int32} {s : zy_S} {r : Int32} {s' : zy_S}  (h : zyF122_5b k5 x1 x2 x3 x4 s = some (r, s')) : zyR X 3 122 5 [some (.ref (16 + 3)), some (.int x1), some (.int x2), some (.int x3), some (.int x4)] [] s (zyE (some (.int r)) s') := by
  unfold zyF122_5b at h
  refine zy_2 rfl rfl (show zyR _ _ _ _ [some (.ref (16 + 3)), some (.int x1), some (.int x2), some (.int x3), some (.int x4)] [.int x4] _ _ from ?_)
  refine zy_3 rfl rfl (show zyR _ _ _ _ [some (.ref (16 + 3)), some (.int x1), some (.int x2), some (.int x3), some (.int x4)] [.int (6 : Int32), .int x4] _ _ from ?_)
  refine zy_25_3 rfl (fun b2 => (show zyR _ _ _ _ [some (.ref (16 + 3)), some (.int x1), some (.int x2), some (.int x3), some (.int x4)] [] _ _ from ?_)) (fun b2 => (show zyR _ _ _ _ [some (.ref (16 + 3)), some (.int x1), some (.int x2), some (.int x3), some (.int x4)] [] _ _ from ?_))
  · replace h := zy_ifp h b2
    refine zy_2 rfl rfl (show zyR _ _ _ _ [some (.ref (16 + 3)), some (.int x1), some (.int x2), some (.int x3), some (.int x4)] [.int x3] _ _ from ?_)
    obtain ⟨rfl, rfl⟩ := zy_pi h
    exact zy_4 rfl ⟨rfl, rfl⟩
  · replace h := zy_ifn h b2
    refine zy_2 rfl rfl (show zyR _ _ _ _ [some (.ref (16 + 3)), some (.int x1), some (.int x2), some (.int x3), some (.int x4)] [.int x3] _ _ from ?_)
    refine zy_0 rfl rfl (show zyR _ _ _ _ [some (.ref (16 + 3)), some (.int x1), some (.int x2), some (.int x3), some (.int x4)] [.ref (16 + 3), .int x3] _ _ from ?_)
    refine zy_2 rfl rfl (show zyR _ _ _ _ [some (.ref (16 + 3)), some (.int x1), some (.int x2), some (.int x3), some (.int x4)] [.int x4, .ref (16 + 3), .int x3] _ _ from ?_)
    refine zy_2 rfl rfl (show zyR _ _ _ _ [some (.ref (16 + 3)), some (.int x1), some (.int x2), some (.int x3), some (.int x4)] [.int x1, .int x4, .ref (16 + 3), .int x3] _ _ from ?_)
    refine zy_2 rfl rfl (show zyR _ _ _ _ [some (.ref (16 + 3)), some (.int x1), some (.int x2), some (.int x3), some (.int x4)] [.int x2, .int x1, .int x4, .ref (16 + 3), .int x3] _ _ from ?_)
    obtain ⟨p1, hp1, h⟩ := zy_bind h
    refine zy_5 (c := 16) (as := [.int x4, .int x1, .int x2]) (rest := [.int x3]) (L := [some (.ref (16 + 3)), some (.int x4), some (.int x1), some (.int x2)]) (d' := 2) rfl rfl rfl (Nat.le_of_ble_eq_true rfl) (Nat.le_of_ble_eq_true rfl) rfl (Nat.le_of_ble_eq_true rfl) rfl rfl (zyC121 hp1) ?_
    show zyR _ _ _ _ [some (.ref (16 + 3)), some (.int x1), some (.int x2), some (.int x3), some (.int x4)] [.int p1.1, .int x3] _ _
    refine zy_10 rfl (show zyR _ _ _ _ [some (.ref (16 + 3)), some (.int x1), some (.int x2), some (.int x3), some (.int x4)] [.int (x3 + p1.1)] _ _ from ?_)
    refine zy_23 rfl rfl (show zyR _ _ _ _ [some (.ref (16 + 3)), some (.int x1), some (.int x2), some (.int (x3 + p1.1)), some (.int x4)] [] _ _ from ?_)
    refine zy_22 rfl rfl rfl rfl (show zyR _ _ _ _ [some (.ref (16 + 3)), some (.int x1), some (.int x2), some (.int (x3 + p1.1)), some (.int (x4 + (1 : Int32)))] [] _ _ from ?_)
    refine zy_6 rfl (show zyR _ _ _ _ [some (.ref (16 + 3)), some (.int x1), some (.int x2), some (.int (x3 + p1.1)), some (.int (x4 + (1 : Int32)))] [] _ _ from ?_)
    exact zy_sub (show zy_le [some (.ref (16 + 3)), some (.int x1), some (.int x2), some (.int (x3 + p1.1)), some (.int (x4 + (1 : Int32)))] [some (.ref (16 + 3)), some (.int x1), some (.int x2), some (.int (x3 + p1.1)), some (.int (x4 + (1 : Int32)))] from ⟨rfl, ⟨rfl, ⟨rfl, ⟨rfl, ⟨rfl, trivial⟩⟩⟩⟩⟩) (hk5 x1 x2 (x3 + p1.1) (x4 + (1 : Int32)) p1.2 _ _ h)
noncomputable def zyF122_5   (n : Nat) : Int32 → Int32 → Int32 → Int32 → zy_S → Option (Int32 × zy_S) := Nat.rec (fun _ _ _ _ _ => none) (fun _ k5 => zyF122_5b k5) n
theorem zyC122_5 {X : zx_X}     : ∀ (n : Nat) (x1 : Int32) (x2 : Int32) (x3 : Int32) (x4 : Int32) (s : zy_S) (r : Int32) (s' : zy_S), zyF122_5 n x1 x2 x3 x4 s = some (r, s') → zyR X 3 122 5 [some (.ref (16 + 3)), some (.int x1), some (.int x2), some (.int x3), some (.int x4)] [] s (zyE (some (.int r)) s')
  | 0, _, _, _, _ => by
    intro s r s'  h
    have h : (none : Option (Int32 × zy_S)) = some (r, s') := h
    cases h
  | n + 1, x1, x2, x3, x4 => by
    intro s r s'  h
    exact zyC122_5b (k5 := zyF122_5 n) (fun x1 x2 x3 x4 s r s'  h => zyC122_5  n x1 x2 x3 x4 s r s'  h) h
noncomputable def zyF122   (x1 : Int32) (x2 : Int32) (s : zy_S) : Option (Int32 × zy_S) :=
zyF122_5 zy_fu x1 x2 (0 : Int32) (0 : Int32) s
theorem zyC122 {X : zx_X}     {x1 : Int32} {x2 : Int32} {s : zy_S} {r : Int32} {s' : zy_S}  (h : zyF122 x1 x2 s = some (r, s')) : zyR X 3 122 0 [some (.ref (16 + 3)), some (.int x1), some (.int x2), none, none] [] s (zyE (some (.int r)) s') := by
  unfold zyF122 at h
  refine zy_3 rfl rfl (show zyR _ _ _ _ [some (.ref (16 + 3)), some (.int x1), some (.int x2), none, none] [.int (0 : Int32)] _ _ from ?_)
  refine zy_23 rfl rfl (show zyR _ _ _ _ [some (.ref (16 + 3)), some (.int x1), some (.int x2), some (.int (0 : Int32)), none] [] _ _ from ?_)
  refine zy_3 rfl rfl (show zyR _ _ _ _ [some (.ref (16 + 3)), some (.int x1), some (.int x2), some (.int (0 : Int32)), none] [.int (0 : Int32)] _ _ from ?_)
  refine zy_23 rfl rfl (show zyR _ _ _ _ [some (.ref (16 + 3)), some (.int x1), some (.int x2), some (.int (0 : Int32)), some (.int (0 : Int32))] [] _ _ from ?_)
  exact zy_sub (show zy_le [some (.ref (16 + 3)), some (.int x1), some (.int x2), some (.int (0 : Int32)), some (.int (0 : Int32))] [some (.ref (16 + 3)), some (.int x1), some (.int x2), some (.int (0 : Int32)), some (.int (0 : Int32))] from ⟨rfl, ⟨rfl, ⟨rfl, ⟨rfl, ⟨rfl, trivial⟩⟩⟩⟩⟩) (zyC122_5 zy_fu x1 x2 (0 : Int32) (0 : Int32) s _ _ h)
