/-! PART 41.20: methods as functions. Made by wip/v4/dcp.py. -/
/-! NineOpinions.believes(III)I -/
noncomputable def zyF112   (x1 : Int32) (x2 : Int32) (x3 : Int32) (s : zy_S) : Option (Int32 × zy_S) :=
(zyF18 x1 s).bind fun p1 =>
if p1.1 = 0 then
some ((-1 : Int32), p1.2)
else
if x2 < 0 then
some ((-1 : Int32), p1.2)
else
if (6 : Int32) ≤ x2 then
some ((-1 : Int32), p1.2)
else
(zyF84 x3 p1.2).bind fun p2 =>
if p2.1 ≠ 0 then
if zy_in x1 6 then
if zy_Wb p2.2 then
(zyF107 (zy_sh (x1).toNatClampNeg) (0 : Int32) p2.2).bind fun p5 =>
if p5.1 = 0 then
if zy_in x1 6 then
if zy_Wb p5.2 then
(zyF113 (zy_sh (x1).toNatClampNeg) x2 p5.2).bind fun p8 =>
if x3 ≠ 0 then
(zyF115 p8.1 p8.2).bind fun p9 =>
some (p9.1, p9.2)
else
(zyF63 p8.1 p8.2).bind fun p10 =>
some (p10.1, p10.2)
else none
else none
else
some (p5.1, p5.2)
else none
else none
else
some ((-1 : Int32), p2.2)
theorem zyC112 {X : zx_X}     {x1 : Int32} {x2 : Int32} {x3 : Int32} {s : zy_S} {r : Int32} {s' : zy_S}  (h : zyF112 x1 x2 x3 s = some (r, s')) : zyR X 6 112 0 [some (.ref (0 + 3)), some (.int x1), some (.int x2), some (.int x3), none, none] [] s (zyE (some (.int r)) s') := by
  unfold zyF112 at h
  refine zy_2 rfl rfl (show zyR _ _ _ _ [some (.ref (0 + 3)), some (.int x1), some (.int x2), some (.int x3), none, none] [.int x1] _ _ from ?_)
  obtain ⟨p1, hp1, h⟩ := zy_bind h
  refine zy_60 (as := [.int x1]) (rest := []) (L := [some (.int x1)]) (d' := 1) rfl rfl (Nat.le_of_ble_eq_true rfl) (Nat.le_of_ble_eq_true rfl) rfl (Nat.le_of_ble_eq_true rfl) rfl rfl (zyC18 hp1) ?_
  show zyR _ _ _ _ [some (.ref (0 + 3)), some (.int x1), some (.int x2), some (.int x3), none, none] [.int p1.1] _ _
  refine zy_24_0 rfl (fun b16 => (show zyR _ _ _ _ [some (.ref (0 + 3)), some (.int x1), some (.int x2), some (.int x3), none, none] [] _ _ from ?_)) (fun b16 => (show zyR _ _ _ _ [some (.ref (0 + 3)), some (.int x1), some (.int x2), some (.int x3), none, none] [] _ _ from ?_))
  · replace h := zy_ifp h b16
    refine zy_3 rfl rfl (show zyR _ _ _ _ [some (.ref (0 + 3)), some (.int x1), some (.int x2), some (.int x3), none, none] [.int (-1 : Int32)] _ _ from ?_)
    obtain ⟨rfl, rfl⟩ := zy_pi h
    exact zy_4 rfl ⟨rfl, rfl⟩
  · replace h := zy_ifn h b16
    refine zy_2 rfl rfl (show zyR _ _ _ _ [some (.ref (0 + 3)), some (.int x1), some (.int x2), some (.int x3), none, none] [.int x2] _ _ from ?_)
    refine zy_24_2 rfl (fun b15 => (show zyR _ _ _ _ [some (.ref (0 + 3)), some (.int x1), some (.int x2), some (.int x3), none, none] [] _ _ from ?_)) (fun b15 => (show zyR _ _ _ _ [some (.ref (0 + 3)), some (.int x1), some (.int x2), some (.int x3), none, none] [] _ _ from ?_))
    · replace h := zy_ifp h b15
      refine zy_3 rfl rfl (show zyR _ _ _ _ [some (.ref (0 + 3)), some (.int x1), some (.int x2), some (.int x3), none, none] [.int (-1 : Int32)] _ _ from ?_)
      obtain ⟨rfl, rfl⟩ := zy_pi h
      exact zy_4 rfl ⟨rfl, rfl⟩
    · replace h := zy_ifn h b15
      refine zy_2 rfl rfl (show zyR _ _ _ _ [some (.ref (0 + 3)), some (.int x1), some (.int x2), some (.int x3), none, none] [.int x2] _ _ from ?_)
      refine zy_3 rfl rfl (show zyR _ _ _ _ [some (.ref (0 + 3)), some (.int x1), some (.int x2), some (.int x3), none, none] [.int (6 : Int32), .int x2] _ _ from ?_)
      refine zy_25_3 rfl (fun b14 => (show zyR _ _ _ _ [some (.ref (0 + 3)), some (.int x1), some (.int x2), some (.int x3), none, none] [] _ _ from ?_)) (fun b14 => (show zyR _ _ _ _ [some (.ref (0 + 3)), some (.int x1), some (.int x2), some (.int x3), none, none] [] _ _ from ?_))
      · replace h := zy_ifp h b14
        refine zy_3 rfl rfl (show zyR _ _ _ _ [some (.ref (0 + 3)), some (.int x1), some (.int x2), some (.int x3), none, none] [.int (-1 : Int32)] _ _ from ?_)
        obtain ⟨rfl, rfl⟩ := zy_pi h
        exact zy_4 rfl ⟨rfl, rfl⟩
      · replace h := zy_ifn h b14
        refine zy_2 rfl rfl (show zyR _ _ _ _ [some (.ref (0 + 3)), some (.int x1), some (.int x2), some (.int x3), none, none] [.int x3] _ _ from ?_)
        obtain ⟨p2, hp2, h⟩ := zy_bind h
        refine zy_60 (as := [.int x3]) (rest := []) (L := [some (.int x3)]) (d' := 1) rfl rfl (Nat.le_of_ble_eq_true rfl) (Nat.le_of_ble_eq_true rfl) rfl (Nat.le_of_ble_eq_true rfl) rfl rfl (zyC84 hp2) ?_
        show zyR _ _ _ _ [some (.ref (0 + 3)), some (.int x1), some (.int x2), some (.int x3), none, none] [.int p2.1] _ _
        refine zy_24_1 rfl (fun b13 => (show zyR _ _ _ _ [some (.ref (0 + 3)), some (.int x1), some (.int x2), some (.int x3), none, none] [] _ _ from ?_)) (fun b13 => (show zyR _ _ _ _ [some (.ref (0 + 3)), some (.int x1), some (.int x2), some (.int x3), none, none] [] _ _ from ?_))
        · replace h := zy_ifp h b13
          refine zy_0 rfl rfl (show zyR _ _ _ _ [some (.ref (0 + 3)), some (.int x1), some (.int x2), some (.int x3), none, none] [.ref (0 + 3)] _ _ from ?_)
          refine zy_1r (c := 0) rfl rfl rfl (show zyR _ _ _ _ [some (.ref (0 + 3)), some (.int x1), some (.int x2), some (.int x3), none, none] [.ref (30 + 3)] _ _ from ?_)
          refine zy_2 rfl rfl (show zyR _ _ _ _ [some (.ref (0 + 3)), some (.int x1), some (.int x2), some (.int x3), none, none] [.int x1, .ref (30 + 3)] _ _ from ?_)
          obtain ⟨c3, h⟩ := zy_if h
          obtain ⟨c4, h⟩ := zy_if h
          refine zy_28 rfl (zy_Wb_g c4) c3 (show zyR _ _ _ _ [some (.ref (0 + 3)), some (.int x1), some (.int x2), some (.int x3), none, none] [.ref ((zy_sh (x1).toNatClampNeg) + 3)] _ _ from ?_)
          refine zy_3 rfl rfl (show zyR _ _ _ _ [some (.ref (0 + 3)), some (.int x1), some (.int x2), some (.int x3), none, none] [.int (0 : Int32), .ref ((zy_sh (x1).toNatClampNeg) + 3)] _ _ from ?_)
          obtain ⟨p5, hp5, h⟩ := zy_bind h
          refine zy_5 (c := (zy_sh (x1).toNatClampNeg)) (as := [.int (0 : Int32)]) (rest := []) (L := [some (.ref ((zy_sh (x1).toNatClampNeg) + 3)), some (.int (0 : Int32))]) (d' := 3) rfl rfl (zy_isSh_of (zy_in_lt c3)).1 (Nat.le_of_ble_eq_true rfl) (Nat.le_of_ble_eq_true rfl) rfl (Nat.le_of_ble_eq_true rfl) rfl rfl (zyC107 (zy_isSh_of (zy_in_lt c3)) hp5) ?_
          show zyR _ _ _ _ [some (.ref (0 + 3)), some (.int x1), some (.int x2), some (.int x3), none, none] [.int p5.1] _ _
          refine zy_23 rfl rfl (show zyR _ _ _ _ [some (.ref (0 + 3)), some (.int x1), some (.int x2), some (.int x3), some (.int p5.1), none] [] _ _ from ?_)
          refine zy_2 rfl rfl (show zyR _ _ _ _ [some (.ref (0 + 3)), some (.int x1), some (.int x2), some (.int x3), some (.int p5.1), none] [.int p5.1] _ _ from ?_)
          refine zy_24_0 rfl (fun b12 => (show zyR _ _ _ _ [some (.ref (0 + 3)), some (.int x1), some (.int x2), some (.int x3), some (.int p5.1), none] [] _ _ from ?_)) (fun b12 => (show zyR _ _ _ _ [some (.ref (0 + 3)), some (.int x1), some (.int x2), some (.int x3), some (.int p5.1), none] [] _ _ from ?_))
          · replace h := zy_ifp h b12
            refine zy_0 rfl rfl (show zyR _ _ _ _ [some (.ref (0 + 3)), some (.int x1), some (.int x2), some (.int x3), some (.int p5.1), none] [.ref (0 + 3)] _ _ from ?_)
            refine zy_1r (c := 0) rfl rfl rfl (show zyR _ _ _ _ [some (.ref (0 + 3)), some (.int x1), some (.int x2), some (.int x3), some (.int p5.1), none] [.ref (30 + 3)] _ _ from ?_)
            refine zy_2 rfl rfl (show zyR _ _ _ _ [some (.ref (0 + 3)), some (.int x1), some (.int x2), some (.int x3), some (.int p5.1), none] [.int x1, .ref (30 + 3)] _ _ from ?_)
            obtain ⟨c6, h⟩ := zy_if h
            obtain ⟨c7, h⟩ := zy_if h
            refine zy_28 rfl (zy_Wb_g c7) c6 (show zyR _ _ _ _ [some (.ref (0 + 3)), some (.int x1), some (.int x2), some (.int x3), some (.int p5.1), none] [.ref ((zy_sh (x1).toNatClampNeg) + 3)] _ _ from ?_)
            refine zy_2 rfl rfl (show zyR _ _ _ _ [some (.ref (0 + 3)), some (.int x1), some (.int x2), some (.int x3), some (.int p5.1), none] [.int x2, .ref ((zy_sh (x1).toNatClampNeg) + 3)] _ _ from ?_)
            obtain ⟨p8, hp8, h⟩ := zy_bind h
            refine zy_60 (as := [.ref ((zy_sh (x1).toNatClampNeg) + 3), .int x2]) (rest := []) (L := [some (.ref ((zy_sh (x1).toNatClampNeg) + 3)), some (.int x2), none, none]) (d' := 5) rfl rfl (Nat.le_of_ble_eq_true rfl) (Nat.le_of_ble_eq_true rfl) rfl (Nat.le_of_ble_eq_true rfl) rfl rfl (zyC113 (zy_isSh_of (zy_in_lt c6)) hp8) ?_
            show zyR _ _ _ _ [some (.ref (0 + 3)), some (.int x1), some (.int x2), some (.int x3), some (.int p5.1), none] [.int p8.1] _ _
            refine zy_23 rfl rfl (show zyR _ _ _ _ [some (.ref (0 + 3)), some (.int x1), some (.int x2), some (.int x3), some (.int p5.1), some (.int p8.1)] [] _ _ from ?_)
            refine zy_2 rfl rfl (show zyR _ _ _ _ [some (.ref (0 + 3)), some (.int x1), some (.int x2), some (.int x3), some (.int p5.1), some (.int p8.1)] [.int x3] _ _ from ?_)
            refine zy_24_1 rfl (fun b11 => (show zyR _ _ _ _ [some (.ref (0 + 3)), some (.int x1), some (.int x2), some (.int x3), some (.int p5.1), some (.int p8.1)] [] _ _ from ?_)) (fun b11 => (show zyR _ _ _ _ [some (.ref (0 + 3)), some (.int x1), some (.int x2), some (.int x3), some (.int p5.1), some (.int p8.1)] [] _ _ from ?_))
            · replace h := zy_ifp h b11
              refine zy_2 rfl rfl (show zyR _ _ _ _ [some (.ref (0 + 3)), some (.int x1), some (.int x2), some (.int x3), some (.int p5.1), some (.int p8.1)] [.int p8.1] _ _ from ?_)
              obtain ⟨p9, hp9, h⟩ := zy_bind h
              refine zy_60 (as := [.int p8.1]) (rest := []) (L := [some (.int p8.1), none]) (d' := 2) rfl rfl (Nat.le_of_ble_eq_true rfl) (Nat.le_of_ble_eq_true rfl) rfl (Nat.le_of_ble_eq_true rfl) rfl rfl (zyC115 hp9) ?_
              show zyR _ _ _ _ [some (.ref (0 + 3)), some (.int x1), some (.int x2), some (.int x3), some (.int p5.1), some (.int p8.1)] [.int p9.1] _ _
              obtain ⟨rfl, rfl⟩ := zy_pi h
              exact zy_4 rfl ⟨rfl, rfl⟩
            · replace h := zy_ifn h b11
              refine zy_2 rfl rfl (show zyR _ _ _ _ [some (.ref (0 + 3)), some (.int x1), some (.int x2), some (.int x3), some (.int p5.1), some (.int p8.1)] [.int p8.1] _ _ from ?_)
              obtain ⟨p10, hp10, h⟩ := zy_bind h
              refine zy_60 (as := [.int p8.1]) (rest := []) (L := [some (.int p8.1)]) (d' := 1) rfl rfl (Nat.le_of_ble_eq_true rfl) (Nat.le_of_ble_eq_true rfl) rfl (Nat.le_of_ble_eq_true rfl) rfl rfl (zyC63 hp10) ?_
              show zyR _ _ _ _ [some (.ref (0 + 3)), some (.int x1), some (.int x2), some (.int x3), some (.int p5.1), some (.int p8.1)] [.int p10.1] _ _
              obtain ⟨rfl, rfl⟩ := zy_pi h
              exact zy_4 rfl ⟨rfl, rfl⟩
          · replace h := zy_ifn h b12
            refine zy_2 rfl rfl (show zyR _ _ _ _ [some (.ref (0 + 3)), some (.int x1), some (.int x2), some (.int x3), some (.int p5.1), none] [.int p5.1] _ _ from ?_)
            obtain ⟨rfl, rfl⟩ := zy_pi h
            exact zy_4 rfl ⟨rfl, rfl⟩
        · replace h := zy_ifn h b13
          refine zy_3 rfl rfl (show zyR _ _ _ _ [some (.ref (0 + 3)), some (.int x1), some (.int x2), some (.int x3), none, none] [.int (-1 : Int32)] _ _ from ?_)
          obtain ⟨rfl, rfl⟩ := zy_pi h
          exact zy_4 rfl ⟨rfl, rfl⟩
/-! NineOpinionsModel.fitsView(III)Z -/
noncomputable def zyF232_96  (k3 : Int32 → Int32 → Int32 → Int32 → zy_S → Option (Int32 × zy_S)) (x1 : Int32) (x2 : Int32) (x3 : Int32) (x4 : Int32) (s : zy_S) : Option (Int32 × zy_S) :=
k3 x1 x2 x3 (x4 + (1 : Int32)) s
theorem zyC232_96 {X : zx_X}  {k3 : Int32 → Int32 → Int32 → Int32 → zy_S → Option (Int32 × zy_S)}  (hk3 : ∀ (x1 : Int32) (x2 : Int32) (x3 : Int32) (x4 : Int32) (s : zy_S) (r : Int32) (s' : zy_S), k3 x1 x2 x3 x4 s = some (r, s') → zyR X 3 232 3 [some (.ref (43 + 3)), some (.int x1), some (.int x2), some (.int x3), some (.int x4), none] [] s (zyE (some (.int r)) s')) {x1 : Int32} {x2 : Int32} {x3 : Int32} {x4 : Int32} {s : zy_S} {r : Int32} {s' : zy_S}  (h : zyF232_96 k3 x1 x2 x3 x4 s = some (r, s')) : zyR X 3 232 96 [some (.ref (43 + 3)), some (.int x1), some (.int x2), some (.int x3), some (.int x4), none] [] s (zyE (some (.int r)) s') := by
  unfold zyF232_96 at h
  refine zy_22 rfl rfl rfl rfl (show zyR _ _ _ _ [some (.ref (43 + 3)), some (.int x1), some (.int x2), some (.int x3), some (.int (x4 + (1 : Int32))), none] [] _ _ from ?_)
  refine zy_6 rfl (show zyR _ _ _ _ [some (.ref (43 + 3)), some (.int x1), some (.int x2), some (.int x3), some (.int (x4 + (1 : Int32))), none] [] _ _ from ?_)
  exact zy_sub (show zy_le [some (.ref (43 + 3)), some (.int x1), some (.int x2), some (.int x3), some (.int (x4 + (1 : Int32))), none] [some (.ref (43 + 3)), some (.int x1), some (.int x2), some (.int x3), some (.int (x4 + (1 : Int32))), none] from ⟨rfl, ⟨rfl, ⟨rfl, ⟨rfl, ⟨rfl, trivial⟩⟩⟩⟩⟩) (hk3 x1 x2 x3 (x4 + (1 : Int32)) s _ _ h)
noncomputable def zyF232_90  (k3 : Int32 → Int32 → Int32 → Int32 → zy_S → Option (Int32 × zy_S)) (x1 : Int32) (x2 : Int32) (x3 : Int32) (x4 : Int32) (y0 : Int64) (y1 : Int64) (s : zy_S) : Option (Int32 × zy_S) :=
if (lg_cmp y1 y0) = 0 then
zyF232_96 k3 x1 x2 x3 x4 s
else
some ((0 : Int32), s)
theorem zyC232_90 {X : zx_X}  {k3 : Int32 → Int32 → Int32 → Int32 → zy_S → Option (Int32 × zy_S)}  (hk3 : ∀ (x1 : Int32) (x2 : Int32) (x3 : Int32) (x4 : Int32) (s : zy_S) (r : Int32) (s' : zy_S), k3 x1 x2 x3 x4 s = some (r, s') → zyR X 3 232 3 [some (.ref (43 + 3)), some (.int x1), some (.int x2), some (.int x3), some (.int x4), none] [] s (zyE (some (.int r)) s')) {x1 : Int32} {x2 : Int32} {x3 : Int32} {x4 : Int32} {y0 : Int64} {y1 : Int64} {s : zy_S} {r : Int32} {s' : zy_S}  (h : zyF232_90 k3 x1 x2 x3 x4 y0 y1 s = some (r, s')) : zyR X 3 232 90 [some (.ref (43 + 3)), some (.int x1), some (.int x2), some (.int x3), some (.int x4), none] [.long y0, .long y1] s (zyE (some (.int r)) s') := by
  unfold zyF232_90 at h
  refine zy_44 rfl (show zyR _ _ _ _ [some (.ref (43 + 3)), some (.int x1), some (.int x2), some (.int x3), some (.int x4), none] [.int (lg_cmp y1 y0)] _ _ from ?_)
  refine zy_24_0 rfl (fun b1 => (show zyR _ _ _ _ [some (.ref (43 + 3)), some (.int x1), some (.int x2), some (.int x3), some (.int x4), none] [] _ _ from ?_)) (fun b1 => (show zyR _ _ _ _ [some (.ref (43 + 3)), some (.int x1), some (.int x2), some (.int x3), some (.int x4), none] [] _ _ from ?_))
  · replace h := zy_ifp h b1
    exact zy_sub (show zy_le [some (.ref (43 + 3)), some (.int x1), some (.int x2), some (.int x3), some (.int x4), none] [some (.ref (43 + 3)), some (.int x1), some (.int x2), some (.int x3), some (.int x4), none] from ⟨rfl, ⟨rfl, ⟨rfl, ⟨rfl, ⟨rfl, trivial⟩⟩⟩⟩⟩) (zyC232_96 hk3 h)
  · replace h := zy_ifn h b1
    refine zy_3 rfl rfl (show zyR _ _ _ _ [some (.ref (43 + 3)), some (.int x1), some (.int x2), some (.int x3), some (.int x4), none] [.int (0 : Int32)] _ _ from ?_)
    cases h
    exact zy_4b rfl ⟨rfl, rfl⟩ (Or.inl rfl)
noncomputable def zyF232_3b  (k3 : Int32 → Int32 → Int32 → Int32 → zy_S → Option (Int32 × zy_S)) (x1 : Int32) (x2 : Int32) (x3 : Int32) (x4 : Int32) (s : zy_S) : Option (Int32 × zy_S) :=
if zy_in x1 6 then
if (s.1 61 (x1).toNatClampNeg) ≤ (((2 : Int32) * x4) + (1 : Int32)) then
some ((1 : Int32), s)
else
if zy_in (((60 : Int32) * x1) + ((2 : Int32) * x4)) 360 then
(zyF186 (s.2.1 62 ((((60 : Int32) * x1) + ((2 : Int32) * x4))).toNatClampNeg) s).bind fun p4 =>
if p4.1 = 0 then
zyF232_96 k3 x1 x2 x3 x4 p4.2
else
if zy_in (((60 : Int32) * x1) + ((2 : Int32) * x4)) 360 then
if (lg_cmp ((p4.2.2.1 62 ((((60 : Int32) * x1) + ((2 : Int32) * x4))).toNatClampNeg) / (4 : Int64)) (x2).toInt64) ≠ 0 then
zyF232_96 k3 x1 x2 x3 x4 p4.2
else
if zy_in ((((60 : Int32) * x1) + ((2 : Int32) * x4)) + (1 : Int32)) 360 then
if zy_in (((60 : Int32) * x1) + ((2 : Int32) * x4)) 360 then
if (lg_cmp ((p4.2.2.1 62 ((((60 : Int32) * x1) + ((2 : Int32) * x4))).toNatClampNeg) - (p4.2.2.1 62 ((((60 : Int32) * x1) + ((2 : Int32) * x4))).toNatClampNeg) / (4 : Int64) * (4 : Int64)) (x3).toInt64) ≠ 0 then
zyF232_90 k3 x1 x2 x3 x4 (1 : Int64) (p4.2.2.1 62 (((((60 : Int32) * x1) + ((2 : Int32) * x4)) + (1 : Int32))).toNatClampNeg) p4.2
else
zyF232_90 k3 x1 x2 x3 x4 (0 : Int64) (p4.2.2.1 62 (((((60 : Int32) * x1) + ((2 : Int32) * x4)) + (1 : Int32))).toNatClampNeg) p4.2
else none
else none
else none
else none
else none
theorem zyC232_3b {X : zx_X}  {k3 : Int32 → Int32 → Int32 → Int32 → zy_S → Option (Int32 × zy_S)}  (hk3 : ∀ (x1 : Int32) (x2 : Int32) (x3 : Int32) (x4 : Int32) (s : zy_S) (r : Int32) (s' : zy_S), k3 x1 x2 x3 x4 s = some (r, s') → zyR X 3 232 3 [some (.ref (43 + 3)), some (.int x1), some (.int x2), some (.int x3), some (.int x4), none] [] s (zyE (some (.int r)) s')) {x1 : Int32} {x2 : Int32} {x3 : Int32} {x4 : Int32} {s : zy_S} {r : Int32} {s' : zy_S}  (h : zyF232_3b k3 x1 x2 x3 x4 s = some (r, s')) : zyR X 3 232 3 [some (.ref (43 + 3)), some (.int x1), some (.int x2), some (.int x3), some (.int x4), none] [] s (zyE (some (.int r)) s') := by
  unfold zyF232_3b at h
  refine zy_3 rfl rfl (show zyR _ _ _ _ [some (.ref (43 + 3)), some (.int x1), some (.int x2), some (.int x3), some (.int x4), none] [.int (2 : Int32)] _ _ from ?_)
  refine zy_2 rfl rfl (show zyR _ _ _ _ [some (.ref (43 + 3)), some (.int x1), some (.int x2), some (.int x3), some (.int x4), none] [.int x4, .int (2 : Int32)] _ _ from ?_)
  refine zy_12 rfl (show zyR _ _ _ _ [some (.ref (43 + 3)), some (.int x1), some (.int x2), some (.int x3), some (.int x4), none] [.int ((2 : Int32) * x4)] _ _ from ?_)
  refine zy_3 rfl rfl (show zyR _ _ _ _ [some (.ref (43 + 3)), some (.int x1), some (.int x2), some (.int x3), some (.int x4), none] [.int (1 : Int32), .int ((2 : Int32) * x4)] _ _ from ?_)
  refine zy_10 rfl (show zyR _ _ _ _ [some (.ref (43 + 3)), some (.int x1), some (.int x2), some (.int x3), some (.int x4), none] [.int (((2 : Int32) * x4) + (1 : Int32))] _ _ from ?_)
  refine zy_0 rfl rfl (show zyR _ _ _ _ [some (.ref (43 + 3)), some (.int x1), some (.int x2), some (.int x3), some (.int x4), none] [.ref (43 + 3), .int (((2 : Int32) * x4) + (1 : Int32))] _ _ from ?_)
  refine zy_1r (c := 43) rfl rfl rfl (show zyR _ _ _ _ [some (.ref (43 + 3)), some (.int x1), some (.int x2), some (.int x3), some (.int x4), none] [.ref (61 + 3), .int (((2 : Int32) * x4) + (1 : Int32))] _ _ from ?_)
  refine zy_2 rfl rfl (show zyR _ _ _ _ [some (.ref (43 + 3)), some (.int x1), some (.int x2), some (.int x3), some (.int x4), none] [.int x1, .ref (61 + 3), .int (((2 : Int32) * x4) + (1 : Int32))] _ _ from ?_)
  obtain ⟨c2, h⟩ := zy_if h
  refine zy_26 (c := 61) rfl rfl c2 (show zyR _ _ _ _ [some (.ref (43 + 3)), some (.int x1), some (.int x2), some (.int x3), some (.int x4), none] [.int (s.1 61 (x1).toNatClampNeg), .int (((2 : Int32) * x4) + (1 : Int32))] _ _ from ?_)
  refine zy_25_3 rfl (fun b11 => (show zyR _ _ _ _ [some (.ref (43 + 3)), some (.int x1), some (.int x2), some (.int x3), some (.int x4), none] [] _ _ from ?_)) (fun b11 => (show zyR _ _ _ _ [some (.ref (43 + 3)), some (.int x1), some (.int x2), some (.int x3), some (.int x4), none] [] _ _ from ?_))
  · replace h := zy_ifp h b11
    refine zy_3 rfl rfl (show zyR _ _ _ _ [some (.ref (43 + 3)), some (.int x1), some (.int x2), some (.int x3), some (.int x4), none] [.int (1 : Int32)] _ _ from ?_)
    cases h
    exact zy_4b rfl ⟨rfl, rfl⟩ (Or.inr rfl)
  · replace h := zy_ifn h b11
    refine zy_3 rfl rfl (show zyR _ _ _ _ [some (.ref (43 + 3)), some (.int x1), some (.int x2), some (.int x3), some (.int x4), none] [.int (60 : Int32)] _ _ from ?_)
    refine zy_2 rfl rfl (show zyR _ _ _ _ [some (.ref (43 + 3)), some (.int x1), some (.int x2), some (.int x3), some (.int x4), none] [.int x1, .int (60 : Int32)] _ _ from ?_)
    refine zy_12 rfl (show zyR _ _ _ _ [some (.ref (43 + 3)), some (.int x1), some (.int x2), some (.int x3), some (.int x4), none] [.int ((60 : Int32) * x1)] _ _ from ?_)
    refine zy_3 rfl rfl (show zyR _ _ _ _ [some (.ref (43 + 3)), some (.int x1), some (.int x2), some (.int x3), some (.int x4), none] [.int (2 : Int32), .int ((60 : Int32) * x1)] _ _ from ?_)
    refine zy_2 rfl rfl (show zyR _ _ _ _ [some (.ref (43 + 3)), some (.int x1), some (.int x2), some (.int x3), some (.int x4), none] [.int x4, .int (2 : Int32), .int ((60 : Int32) * x1)] _ _ from ?_)
    refine zy_12 rfl (show zyR _ _ _ _ [some (.ref (43 + 3)), some (.int x1), some (.int x2), some (.int x3), some (.int x4), none] [.int ((2 : Int32) * x4), .int ((60 : Int32) * x1)] _ _ from ?_)
    refine zy_10 rfl (show zyR _ _ _ _ [some (.ref (43 + 3)), some (.int x1), some (.int x2), some (.int x3), some (.int x4), none] [.int (((60 : Int32) * x1) + ((2 : Int32) * x4))] _ _ from ?_)
    refine zy_23 rfl rfl (show zyR _ _ _ _ [some (.ref (43 + 3)), some (.int x1), some (.int x2), some (.int x3), some (.int x4), some (.int (((60 : Int32) * x1) + ((2 : Int32) * x4)))] [] _ _ from ?_)
    refine zy_0 rfl rfl (show zyR _ _ _ _ [some (.ref (43 + 3)), some (.int x1), some (.int x2), some (.int x3), some (.int x4), some (.int (((60 : Int32) * x1) + ((2 : Int32) * x4)))] [.ref (43 + 3)] _ _ from ?_)
    refine zy_1r (c := 43) rfl rfl rfl (show zyR _ _ _ _ [some (.ref (43 + 3)), some (.int x1), some (.int x2), some (.int x3), some (.int x4), some (.int (((60 : Int32) * x1) + ((2 : Int32) * x4)))] [.ref (62 + 3)] _ _ from ?_)
    refine zy_2 rfl rfl (show zyR _ _ _ _ [some (.ref (43 + 3)), some (.int x1), some (.int x2), some (.int x3), some (.int x4), some (.int (((60 : Int32) * x1) + ((2 : Int32) * x4)))] [.int (((60 : Int32) * x1) + ((2 : Int32) * x4)), .ref (62 + 3)] _ _ from ?_)
    obtain ⟨c3, h⟩ := zy_if h
    refine zy_30 (c := 62) rfl rfl c3 (show zyR _ _ _ _ [some (.ref (43 + 3)), some (.int x1), some (.int x2), some (.int x3), some (.int x4), some (.int (((60 : Int32) * x1) + ((2 : Int32) * x4)))] [.long (s.2.1 62 ((((60 : Int32) * x1) + ((2 : Int32) * x4))).toNatClampNeg)] _ _ from ?_)
    obtain ⟨p4, hp4, h⟩ := zy_bind h
    refine zy_60 (as := [.long (s.2.1 62 ((((60 : Int32) * x1) + ((2 : Int32) * x4))).toNatClampNeg)]) (rest := []) (L := [some (.long (s.2.1 62 ((((60 : Int32) * x1) + ((2 : Int32) * x4))).toNatClampNeg)), none]) (d' := 2) rfl rfl (Nat.le_of_ble_eq_true rfl) (Nat.le_of_ble_eq_true rfl) rfl (Nat.le_of_ble_eq_true rfl) rfl rfl (zyC186 hp4) ?_
    show zyR _ _ _ _ [some (.ref (43 + 3)), some (.int x1), some (.int x2), some (.int x3), some (.int x4), some (.int (((60 : Int32) * x1) + ((2 : Int32) * x4)))] [.int p4.1] _ _
    refine zy_24_0 rfl (fun b10 => (show zyR _ _ _ _ [some (.ref (43 + 3)), some (.int x1), some (.int x2), some (.int x3), some (.int x4), some (.int (((60 : Int32) * x1) + ((2 : Int32) * x4)))] [] _ _ from ?_)) (fun b10 => (show zyR _ _ _ _ [some (.ref (43 + 3)), some (.int x1), some (.int x2), some (.int x3), some (.int x4), some (.int (((60 : Int32) * x1) + ((2 : Int32) * x4)))] [] _ _ from ?_))
    · replace h := zy_ifp h b10
      exact zy_sub (show zy_le [some (.ref (43 + 3)), some (.int x1), some (.int x2), some (.int x3), some (.int x4), none] [some (.ref (43 + 3)), some (.int x1), some (.int x2), some (.int x3), some (.int x4), some (.int (((60 : Int32) * x1) + ((2 : Int32) * x4)))] from ⟨rfl, ⟨rfl, ⟨rfl, ⟨rfl, ⟨rfl, trivial⟩⟩⟩⟩⟩) (zyC232_96 hk3 h)
    · replace h := zy_ifn h b10
      refine zy_0 rfl rfl (show zyR _ _ _ _ [some (.ref (43 + 3)), some (.int x1), some (.int x2), some (.int x3), some (.int x4), some (.int (((60 : Int32) * x1) + ((2 : Int32) * x4)))] [.ref (43 + 3)] _ _ from ?_)
      refine zy_1r (c := 43) rfl rfl rfl (show zyR _ _ _ _ [some (.ref (43 + 3)), some (.int x1), some (.int x2), some (.int x3), some (.int x4), some (.int (((60 : Int32) * x1) + ((2 : Int32) * x4)))] [.ref (62 + 3)] _ _ from ?_)
      refine zy_2 rfl rfl (show zyR _ _ _ _ [some (.ref (43 + 3)), some (.int x1), some (.int x2), some (.int x3), some (.int x4), some (.int (((60 : Int32) * x1) + ((2 : Int32) * x4)))] [.int (((60 : Int32) * x1) + ((2 : Int32) * x4)), .ref (62 + 3)] _ _ from ?_)
      obtain ⟨c5, h⟩ := zy_if h
      refine zy_30 (c := 62) rfl rfl c5 (show zyR _ _ _ _ [some (.ref (43 + 3)), some (.int x1), some (.int x2), some (.int x3), some (.int x4), some (.int (((60 : Int32) * x1) + ((2 : Int32) * x4)))] [.long (p4.2.2.1 62 ((((60 : Int32) * x1) + ((2 : Int32) * x4))).toNatClampNeg)] _ _ from ?_)
      refine zy_36c rfl rfl (show zyR _ _ _ _ [some (.ref (43 + 3)), some (.int x1), some (.int x2), some (.int x3), some (.int x4), some (.int (((60 : Int32) * x1) + ((2 : Int32) * x4)))] [.long (4 : Int64), .long (p4.2.2.1 62 ((((60 : Int32) * x1) + ((2 : Int32) * x4))).toNatClampNeg)] _ _ from ?_)
      refine zy_48 rfl (by decide) (show zyR _ _ _ _ [some (.ref (43 + 3)), some (.int x1), some (.int x2), some (.int x3), some (.int x4), some (.int (((60 : Int32) * x1) + ((2 : Int32) * x4)))] [.long ((p4.2.2.1 62 ((((60 : Int32) * x1) + ((2 : Int32) * x4))).toNatClampNeg) / (4 : Int64))] _ _ from ?_)
      refine zy_2 rfl rfl (show zyR _ _ _ _ [some (.ref (43 + 3)), some (.int x1), some (.int x2), some (.int x3), some (.int x4), some (.int (((60 : Int32) * x1) + ((2 : Int32) * x4)))] [.int x2, .long ((p4.2.2.1 62 ((((60 : Int32) * x1) + ((2 : Int32) * x4))).toNatClampNeg) / (4 : Int64))] _ _ from ?_)
      refine zy_40 rfl (show zyR _ _ _ _ [some (.ref (43 + 3)), some (.int x1), some (.int x2), some (.int x3), some (.int x4), some (.int (((60 : Int32) * x1) + ((2 : Int32) * x4)))] [.long (x2).toInt64, .long ((p4.2.2.1 62 ((((60 : Int32) * x1) + ((2 : Int32) * x4))).toNatClampNeg) / (4 : Int64))] _ _ from ?_)
      refine zy_44 rfl (show zyR _ _ _ _ [some (.ref (43 + 3)), some (.int x1), some (.int x2), some (.int x3), some (.int x4), some (.int (((60 : Int32) * x1) + ((2 : Int32) * x4)))] [.int (lg_cmp ((p4.2.2.1 62 ((((60 : Int32) * x1) + ((2 : Int32) * x4))).toNatClampNeg) / (4 : Int64)) (x2).toInt64)] _ _ from ?_)
      refine zy_24_1 rfl (fun b9 => (show zyR _ _ _ _ [some (.ref (43 + 3)), some (.int x1), some (.int x2), some (.int x3), some (.int x4), some (.int (((60 : Int32) * x1) + ((2 : Int32) * x4)))] [] _ _ from ?_)) (fun b9 => (show zyR _ _ _ _ [some (.ref (43 + 3)), some (.int x1), some (.int x2), some (.int x3), some (.int x4), some (.int (((60 : Int32) * x1) + ((2 : Int32) * x4)))] [] _ _ from ?_))
      · replace h := zy_ifp h b9
        exact zy_sub (show zy_le [some (.ref (43 + 3)), some (.int x1), some (.int x2), some (.int x3), some (.int x4), none] [some (.ref (43 + 3)), some (.int x1), some (.int x2), some (.int x3), some (.int x4), some (.int (((60 : Int32) * x1) + ((2 : Int32) * x4)))] from ⟨rfl, ⟨rfl, ⟨rfl, ⟨rfl, ⟨rfl, trivial⟩⟩⟩⟩⟩) (zyC232_96 hk3 h)
      · replace h := zy_ifn h b9
        refine zy_0 rfl rfl (show zyR _ _ _ _ [some (.ref (43 + 3)), some (.int x1), some (.int x2), some (.int x3), some (.int x4), some (.int (((60 : Int32) * x1) + ((2 : Int32) * x4)))] [.ref (43 + 3)] _ _ from ?_)
        refine zy_1r (c := 43) rfl rfl rfl (show zyR _ _ _ _ [some (.ref (43 + 3)), some (.int x1), some (.int x2), some (.int x3), some (.int x4), some (.int (((60 : Int32) * x1) + ((2 : Int32) * x4)))] [.ref (62 + 3)] _ _ from ?_)
        refine zy_2 rfl rfl (show zyR _ _ _ _ [some (.ref (43 + 3)), some (.int x1), some (.int x2), some (.int x3), some (.int x4), some (.int (((60 : Int32) * x1) + ((2 : Int32) * x4)))] [.int (((60 : Int32) * x1) + ((2 : Int32) * x4)), .ref (62 + 3)] _ _ from ?_)
        refine zy_3 rfl rfl (show zyR _ _ _ _ [some (.ref (43 + 3)), some (.int x1), some (.int x2), some (.int x3), some (.int x4), some (.int (((60 : Int32) * x1) + ((2 : Int32) * x4)))] [.int (1 : Int32), .int (((60 : Int32) * x1) + ((2 : Int32) * x4)), .ref (62 + 3)] _ _ from ?_)
        refine zy_10 rfl (show zyR _ _ _ _ [some (.ref (43 + 3)), some (.int x1), some (.int x2), some (.int x3), some (.int x4), some (.int (((60 : Int32) * x1) + ((2 : Int32) * x4)))] [.int ((((60 : Int32) * x1) + ((2 : Int32) * x4)) + (1 : Int32)), .ref (62 + 3)] _ _ from ?_)
        obtain ⟨c6, h⟩ := zy_if h
        refine zy_30 (c := 62) rfl rfl c6 (show zyR _ _ _ _ [some (.ref (43 + 3)), some (.int x1), some (.int x2), some (.int x3), some (.int x4), some (.int (((60 : Int32) * x1) + ((2 : Int32) * x4)))] [.long (p4.2.2.1 62 (((((60 : Int32) * x1) + ((2 : Int32) * x4)) + (1 : Int32))).toNatClampNeg)] _ _ from ?_)
        refine zy_0 rfl rfl (show zyR _ _ _ _ [some (.ref (43 + 3)), some (.int x1), some (.int x2), some (.int x3), some (.int x4), some (.int (((60 : Int32) * x1) + ((2 : Int32) * x4)))] [.ref (43 + 3), .long (p4.2.2.1 62 (((((60 : Int32) * x1) + ((2 : Int32) * x4)) + (1 : Int32))).toNatClampNeg)] _ _ from ?_)
        refine zy_1r (c := 43) rfl rfl rfl (show zyR _ _ _ _ [some (.ref (43 + 3)), some (.int x1), some (.int x2), some (.int x3), some (.int x4), some (.int (((60 : Int32) * x1) + ((2 : Int32) * x4)))] [.ref (62 + 3), .long (p4.2.2.1 62 (((((60 : Int32) * x1) + ((2 : Int32) * x4)) + (1 : Int32))).toNatClampNeg)] _ _ from ?_)
        refine zy_2 rfl rfl (show zyR _ _ _ _ [some (.ref (43 + 3)), some (.int x1), some (.int x2), some (.int x3), some (.int x4), some (.int (((60 : Int32) * x1) + ((2 : Int32) * x4)))] [.int (((60 : Int32) * x1) + ((2 : Int32) * x4)), .ref (62 + 3), .long (p4.2.2.1 62 (((((60 : Int32) * x1) + ((2 : Int32) * x4)) + (1 : Int32))).toNatClampNeg)] _ _ from ?_)
        obtain ⟨c7, h⟩ := zy_if h
        refine zy_30 (c := 62) rfl rfl c7 (show zyR _ _ _ _ [some (.ref (43 + 3)), some (.int x1), some (.int x2), some (.int x3), some (.int x4), some (.int (((60 : Int32) * x1) + ((2 : Int32) * x4)))] [.long (p4.2.2.1 62 ((((60 : Int32) * x1) + ((2 : Int32) * x4))).toNatClampNeg), .long (p4.2.2.1 62 (((((60 : Int32) * x1) + ((2 : Int32) * x4)) + (1 : Int32))).toNatClampNeg)] _ _ from ?_)
        refine zy_36c rfl rfl (show zyR _ _ _ _ [some (.ref (43 + 3)), some (.int x1), some (.int x2), some (.int x3), some (.int x4), some (.int (((60 : Int32) * x1) + ((2 : Int32) * x4)))] [.long (4 : Int64), .long (p4.2.2.1 62 ((((60 : Int32) * x1) + ((2 : Int32) * x4))).toNatClampNeg), .long (p4.2.2.1 62 (((((60 : Int32) * x1) + ((2 : Int32) * x4)) + (1 : Int32))).toNatClampNeg)] _ _ from ?_)
        refine zy_49 rfl (by decide) (show zyR _ _ _ _ [some (.ref (43 + 3)), some (.int x1), some (.int x2), some (.int x3), some (.int x4), some (.int (((60 : Int32) * x1) + ((2 : Int32) * x4)))] [.long ((p4.2.2.1 62 ((((60 : Int32) * x1) + ((2 : Int32) * x4))).toNatClampNeg) - (p4.2.2.1 62 ((((60 : Int32) * x1) + ((2 : Int32) * x4))).toNatClampNeg) / (4 : Int64) * (4 : Int64)), .long (p4.2.2.1 62 (((((60 : Int32) * x1) + ((2 : Int32) * x4)) + (1 : Int32))).toNatClampNeg)] _ _ from ?_)
        refine zy_2 rfl rfl (show zyR _ _ _ _ [some (.ref (43 + 3)), some (.int x1), some (.int x2), some (.int x3), some (.int x4), some (.int (((60 : Int32) * x1) + ((2 : Int32) * x4)))] [.int x3, .long ((p4.2.2.1 62 ((((60 : Int32) * x1) + ((2 : Int32) * x4))).toNatClampNeg) - (p4.2.2.1 62 ((((60 : Int32) * x1) + ((2 : Int32) * x4))).toNatClampNeg) / (4 : Int64) * (4 : Int64)), .long (p4.2.2.1 62 (((((60 : Int32) * x1) + ((2 : Int32) * x4)) + (1 : Int32))).toNatClampNeg)] _ _ from ?_)
        refine zy_40 rfl (show zyR _ _ _ _ [some (.ref (43 + 3)), some (.int x1), some (.int x2), some (.int x3), some (.int x4), some (.int (((60 : Int32) * x1) + ((2 : Int32) * x4)))] [.long (x3).toInt64, .long ((p4.2.2.1 62 ((((60 : Int32) * x1) + ((2 : Int32) * x4))).toNatClampNeg) - (p4.2.2.1 62 ((((60 : Int32) * x1) + ((2 : Int32) * x4))).toNatClampNeg) / (4 : Int64) * (4 : Int64)), .long (p4.2.2.1 62 (((((60 : Int32) * x1) + ((2 : Int32) * x4)) + (1 : Int32))).toNatClampNeg)] _ _ from ?_)
        refine zy_44 rfl (show zyR _ _ _ _ [some (.ref (43 + 3)), some (.int x1), some (.int x2), some (.int x3), some (.int x4), some (.int (((60 : Int32) * x1) + ((2 : Int32) * x4)))] [.int (lg_cmp ((p4.2.2.1 62 ((((60 : Int32) * x1) + ((2 : Int32) * x4))).toNatClampNeg) - (p4.2.2.1 62 ((((60 : Int32) * x1) + ((2 : Int32) * x4))).toNatClampNeg) / (4 : Int64) * (4 : Int64)) (x3).toInt64), .long (p4.2.2.1 62 (((((60 : Int32) * x1) + ((2 : Int32) * x4)) + (1 : Int32))).toNatClampNeg)] _ _ from ?_)
        refine zy_24_1 rfl (fun b8 => (show zyR _ _ _ _ [some (.ref (43 + 3)), some (.int x1), some (.int x2), some (.int x3), some (.int x4), some (.int (((60 : Int32) * x1) + ((2 : Int32) * x4)))] [.long (p4.2.2.1 62 (((((60 : Int32) * x1) + ((2 : Int32) * x4)) + (1 : Int32))).toNatClampNeg)] _ _ from ?_)) (fun b8 => (show zyR _ _ _ _ [some (.ref (43 + 3)), some (.int x1), some (.int x2), some (.int x3), some (.int x4), some (.int (((60 : Int32) * x1) + ((2 : Int32) * x4)))] [.long (p4.2.2.1 62 (((((60 : Int32) * x1) + ((2 : Int32) * x4)) + (1 : Int32))).toNatClampNeg)] _ _ from ?_))
        · replace h := zy_ifp h b8
          refine zy_36 rfl rfl (show zyR _ _ _ _ [some (.ref (43 + 3)), some (.int x1), some (.int x2), some (.int x3), some (.int x4), some (.int (((60 : Int32) * x1) + ((2 : Int32) * x4)))] [.long (1 : Int64), .long (p4.2.2.1 62 (((((60 : Int32) * x1) + ((2 : Int32) * x4)) + (1 : Int32))).toNatClampNeg)] _ _ from ?_)
          exact zy_sub (show zy_le [some (.ref (43 + 3)), some (.int x1), some (.int x2), some (.int x3), some (.int x4), none] [some (.ref (43 + 3)), some (.int x1), some (.int x2), some (.int x3), some (.int x4), some (.int (((60 : Int32) * x1) + ((2 : Int32) * x4)))] from ⟨rfl, ⟨rfl, ⟨rfl, ⟨rfl, ⟨rfl, trivial⟩⟩⟩⟩⟩) (zyC232_90 hk3 h)
        · replace h := zy_ifn h b8
          refine zy_36 rfl rfl (show zyR _ _ _ _ [some (.ref (43 + 3)), some (.int x1), some (.int x2), some (.int x3), some (.int x4), some (.int (((60 : Int32) * x1) + ((2 : Int32) * x4)))] [.long (0 : Int64), .long (p4.2.2.1 62 (((((60 : Int32) * x1) + ((2 : Int32) * x4)) + (1 : Int32))).toNatClampNeg)] _ _ from ?_)
          refine zy_6 rfl (show zyR _ _ _ _ [some (.ref (43 + 3)), some (.int x1), some (.int x2), some (.int x3), some (.int x4), some (.int (((60 : Int32) * x1) + ((2 : Int32) * x4)))] [.long (0 : Int64), .long (p4.2.2.1 62 (((((60 : Int32) * x1) + ((2 : Int32) * x4)) + (1 : Int32))).toNatClampNeg)] _ _ from ?_)
          exact zy_sub (show zy_le [some (.ref (43 + 3)), some (.int x1), some (.int x2), some (.int x3), some (.int x4), none] [some (.ref (43 + 3)), some (.int x1), some (.int x2), some (.int x3), some (.int x4), some (.int (((60 : Int32) * x1) + ((2 : Int32) * x4)))] from ⟨rfl, ⟨rfl, ⟨rfl, ⟨rfl, ⟨rfl, trivial⟩⟩⟩⟩⟩) (zyC232_90 hk3 h)
noncomputable def zyF232_3   (n : Nat) : Int32 → Int32 → Int32 → Int32 → zy_S → Option (Int32 × zy_S) := Nat.rec (fun _ _ _ _ _ => none) (fun _ k3 => zyF232_3b k3) n
theorem zyC232_3 {X : zx_X}     : ∀ (n : Nat) (x1 : Int32) (x2 : Int32) (x3 : Int32) (x4 : Int32) (s : zy_S) (r : Int32) (s' : zy_S), zyF232_3 n x1 x2 x3 x4 s = some (r, s') → zyR X 3 232 3 [some (.ref (43 + 3)), some (.int x1), some (.int x2), some (.int x3), some (.int x4), none] [] s (zyE (some (.int r)) s')
  | 0, _, _, _, _ => by
    intro s r s'  h
    have h : (none : Option (Int32 × zy_S)) = some (r, s') := h
    cases h
  | n + 1, x1, x2, x3, x4 => by
    intro s r s'  h
    exact zyC232_3b (k3 := zyF232_3 n) (fun x1 x2 x3 x4 s r s'  h => zyC232_3  n x1 x2 x3 x4 s r s'  h) h
noncomputable def zyF232   (x1 : Int32) (x2 : Int32) (x3 : Int32) (s : zy_S) : Option (Int32 × zy_S) :=
zyF232_3 zy_fu x1 x2 x3 (0 : Int32) s
theorem zyC232 {X : zx_X}     {x1 : Int32} {x2 : Int32} {x3 : Int32} {s : zy_S} {r : Int32} {s' : zy_S}  (h : zyF232 x1 x2 x3 s = some (r, s')) : zyR X 3 232 0 [some (.ref (43 + 3)), some (.int x1), some (.int x2), some (.int x3), none, none] [] s (zyE (some (.int r)) s') := by
  unfold zyF232 at h
  refine zy_3 rfl rfl (show zyR _ _ _ _ [some (.ref (43 + 3)), some (.int x1), some (.int x2), some (.int x3), none, none] [.int (0 : Int32)] _ _ from ?_)
  refine zy_23 rfl rfl (show zyR _ _ _ _ [some (.ref (43 + 3)), some (.int x1), some (.int x2), some (.int x3), some (.int (0 : Int32)), none] [] _ _ from ?_)
  exact zy_sub (show zy_le [some (.ref (43 + 3)), some (.int x1), some (.int x2), some (.int x3), some (.int (0 : Int32)), none] [some (.ref (43 + 3)), some (.int x1), some (.int x2), some (.int x3), some (.int (0 : Int32)), none] from ⟨rfl, ⟨rfl, ⟨rfl, ⟨rfl, ⟨rfl, trivial⟩⟩⟩⟩⟩) (zyC232_3 zy_fu x1 x2 x3 (0 : Int32) s _ _ h)
/-! NineOpinionsModel.believes(III)I -/
noncomputable def zyF231_91  (k57 : Int32 → Int32 → Int32 → Int32 → Int32 → Int32 → zy_S → Option (Int32 × zy_S)) (x1 : Int32) (x2 : Int32) (x3 : Int32) (x4 : Int32) (x5 : Int32) (x6 : Int32) (s : zy_S) : Option (Int32 × zy_S) :=
k57 x1 x2 x3 x4 x5 (x6 + (1 : Int32)) s
theorem zyC231_91 {X : zx_X}  {k57 : Int32 → Int32 → Int32 → Int32 → Int32 → Int32 → zy_S → Option (Int32 × zy_S)}  (hk57 : ∀ (x1 : Int32) (x2 : Int32) (x3 : Int32) (x4 : Int32) (x5 : Int32) (x6 : Int32) (s : zy_S) (r : Int32) (s' : zy_S), k57 x1 x2 x3 x4 x5 x6 s = some (r, s') → zyR X 4 231 57 [some (.ref (43 + 3)), some (.int x1), some (.int x2), some (.int x3), some (.int x4), some (.int x5), some (.int x6)] [] s (zyE (some (.int r)) s')) {x1 : Int32} {x2 : Int32} {x3 : Int32} {x4 : Int32} {x5 : Int32} {x6 : Int32} {s : zy_S} {r : Int32} {s' : zy_S}  (h : zyF231_91 k57 x1 x2 x3 x4 x5 x6 s = some (r, s')) : zyR X 4 231 91 [some (.ref (43 + 3)), some (.int x1), some (.int x2), some (.int x3), some (.int x4), some (.int x5), some (.int x6)] [] s (zyE (some (.int r)) s') := by
  unfold zyF231_91 at h
  refine zy_22 rfl rfl rfl rfl (show zyR _ _ _ _ [some (.ref (43 + 3)), some (.int x1), some (.int x2), some (.int x3), some (.int x4), some (.int x5), some (.int (x6 + (1 : Int32)))] [] _ _ from ?_)
  refine zy_6 rfl (show zyR _ _ _ _ [some (.ref (43 + 3)), some (.int x1), some (.int x2), some (.int x3), some (.int x4), some (.int x5), some (.int (x6 + (1 : Int32)))] [] _ _ from ?_)
  exact zy_sub (show zy_le [some (.ref (43 + 3)), some (.int x1), some (.int x2), some (.int x3), some (.int x4), some (.int x5), some (.int (x6 + (1 : Int32)))] [some (.ref (43 + 3)), some (.int x1), some (.int x2), some (.int x3), some (.int x4), some (.int x5), some (.int (x6 + (1 : Int32)))] from ⟨rfl, ⟨rfl, ⟨rfl, ⟨rfl, ⟨rfl, ⟨rfl, ⟨rfl, trivial⟩⟩⟩⟩⟩⟩⟩) (hk57 x1 x2 x3 x4 x5 (x6 + (1 : Int32)) s _ _ h)
noncomputable def zyF231_86  (k57 : Int32 → Int32 → Int32 → Int32 → Int32 → Int32 → zy_S → Option (Int32 × zy_S)) (x1 : Int32) (x2 : Int32) (x3 : Int32) (x4 : Int32) (x6 : Int32) (y0 : Int32) (s : zy_S) : Option (Int32 × zy_S) :=
zyF231_91 k57 x1 x2 x3 (x4 + (1 : Int32)) y0 x6 s
theorem zyC231_86 {X : zx_X}  {k57 : Int32 → Int32 → Int32 → Int32 → Int32 → Int32 → zy_S → Option (Int32 × zy_S)}  (hk57 : ∀ (x1 : Int32) (x2 : Int32) (x3 : Int32) (x4 : Int32) (x5 : Int32) (x6 : Int32) (s : zy_S) (r : Int32) (s' : zy_S), k57 x1 x2 x3 x4 x5 x6 s = some (r, s') → zyR X 4 231 57 [some (.ref (43 + 3)), some (.int x1), some (.int x2), some (.int x3), some (.int x4), some (.int x5), some (.int x6)] [] s (zyE (some (.int r)) s')) {x1 : Int32} {x2 : Int32} {x3 : Int32} {x4 : Int32} {x6 : Int32} {y0 : Int32} {s : zy_S} {r : Int32} {s' : zy_S}  (h : zyF231_86 k57 x1 x2 x3 x4 x6 y0 s = some (r, s')) : zyR X 4 231 86 [some (.ref (43 + 3)), some (.int x1), some (.int x2), some (.int x3), some (.int x4), none, some (.int x6)] [.int y0] s (zyE (some (.int r)) s') := by
  unfold zyF231_86 at h
  refine zy_23 rfl rfl (show zyR _ _ _ _ [some (.ref (43 + 3)), some (.int x1), some (.int x2), some (.int x3), some (.int x4), some (.int y0), some (.int x6)] [] _ _ from ?_)
  refine zy_22 rfl rfl rfl rfl (show zyR _ _ _ _ [some (.ref (43 + 3)), some (.int x1), some (.int x2), some (.int x3), some (.int (x4 + (1 : Int32))), some (.int y0), some (.int x6)] [] _ _ from ?_)
  exact zy_sub (show zy_le [some (.ref (43 + 3)), some (.int x1), some (.int x2), some (.int x3), some (.int (x4 + (1 : Int32))), some (.int y0), some (.int x6)] [some (.ref (43 + 3)), some (.int x1), some (.int x2), some (.int x3), some (.int (x4 + (1 : Int32))), some (.int y0), some (.int x6)] from ⟨rfl, ⟨rfl, ⟨rfl, ⟨rfl, ⟨rfl, ⟨rfl, ⟨rfl, trivial⟩⟩⟩⟩⟩⟩⟩) (zyC231_91 hk57 h)
noncomputable def zyF231_57b  (k57 : Int32 → Int32 → Int32 → Int32 → Int32 → Int32 → zy_S → Option (Int32 × zy_S)) (x1 : Int32) (x2 : Int32) (x3 : Int32) (x4 : Int32) (x5 : Int32) (x6 : Int32) (s : zy_S) : Option (Int32 × zy_S) :=
if (4 : Int32) ≤ x6 then
if x3 ≠ 0 then
some (x5, s)
else
some (x4, s)
else
(zyF232 x1 x2 x6 s).bind fun p2 =>
if p2.1 = 0 then
zyF231_91 k57 x1 x2 x3 x4 x5 x6 p2.2
else
if x4 ≠ 0 then
zyF231_86 k57 x1 x2 x3 x4 x6 x5 p2.2
else
zyF231_86 k57 x1 x2 x3 x4 x6 x6 p2.2
theorem zyC231_57b {X : zx_X}  {k57 : Int32 → Int32 → Int32 → Int32 → Int32 → Int32 → zy_S → Option (Int32 × zy_S)}  (hk57 : ∀ (x1 : Int32) (x2 : Int32) (x3 : Int32) (x4 : Int32) (x5 : Int32) (x6 : Int32) (s : zy_S) (r : Int32) (s' : zy_S), k57 x1 x2 x3 x4 x5 x6 s = some (r, s') → zyR X 4 231 57 [some (.ref (43 + 3)), some (.int x1), some (.int x2), some (.int x3), some (.int x4), some (.int x5), some (.int x6)] [] s (zyE (some (.int r)) s')) {x1 : Int32} {x2 : Int32} {x3 : Int32} {x4 : Int32} {x5 : Int32} {x6 : Int32} {s : zy_S} {r : Int32} {s' : zy_S}  (h : zyF231_57b k57 x1 x2 x3 x4 x5 x6 s = some (r, s')) : zyR X 4 231 57 [some (.ref (43 + 3)), some (.int x1), some (.int x2), some (.int x3), some (.int x4), some (.int x5), some (.int x6)] [] s (zyE (some (.int r)) s') := by
  unfold zyF231_57b at h
  refine zy_2 rfl rfl (show zyR _ _ _ _ [some (.ref (43 + 3)), some (.int x1), some (.int x2), some (.int x3), some (.int x4), some (.int x5), some (.int x6)] [.int x6] _ _ from ?_)
  refine zy_3 rfl rfl (show zyR _ _ _ _ [some (.ref (43 + 3)), some (.int x1), some (.int x2), some (.int x3), some (.int x4), some (.int x5), some (.int x6)] [.int (4 : Int32), .int x6] _ _ from ?_)
  refine zy_25_3 rfl (fun b5 => (show zyR _ _ _ _ [some (.ref (43 + 3)), some (.int x1), some (.int x2), some (.int x3), some (.int x4), some (.int x5), some (.int x6)] [] _ _ from ?_)) (fun b5 => (show zyR _ _ _ _ [some (.ref (43 + 3)), some (.int x1), some (.int x2), some (.int x3), some (.int x4), some (.int x5), some (.int x6)] [] _ _ from ?_))
  · replace h := zy_ifp h b5
    refine zy_2 rfl rfl (show zyR _ _ _ _ [some (.ref (43 + 3)), some (.int x1), some (.int x2), some (.int x3), some (.int x4), some (.int x5), some (.int x6)] [.int x3] _ _ from ?_)
    refine zy_24_1 rfl (fun b1 => (show zyR _ _ _ _ [some (.ref (43 + 3)), some (.int x1), some (.int x2), some (.int x3), some (.int x4), some (.int x5), some (.int x6)] [] _ _ from ?_)) (fun b1 => (show zyR _ _ _ _ [some (.ref (43 + 3)), some (.int x1), some (.int x2), some (.int x3), some (.int x4), some (.int x5), some (.int x6)] [] _ _ from ?_))
    · replace h := zy_ifp h b1
      refine zy_2 rfl rfl (show zyR _ _ _ _ [some (.ref (43 + 3)), some (.int x1), some (.int x2), some (.int x3), some (.int x4), some (.int x5), some (.int x6)] [.int x5] _ _ from ?_)
      obtain ⟨rfl, rfl⟩ := zy_pi h
      exact zy_4 rfl ⟨rfl, rfl⟩
    · replace h := zy_ifn h b1
      refine zy_2 rfl rfl (show zyR _ _ _ _ [some (.ref (43 + 3)), some (.int x1), some (.int x2), some (.int x3), some (.int x4), some (.int x5), some (.int x6)] [.int x4] _ _ from ?_)
      refine zy_6 rfl (show zyR _ _ _ _ [some (.ref (43 + 3)), some (.int x1), some (.int x2), some (.int x3), some (.int x4), some (.int x5), some (.int x6)] [.int x4] _ _ from ?_)
      obtain ⟨rfl, rfl⟩ := zy_pi h
      exact zy_4 rfl ⟨rfl, rfl⟩
  · replace h := zy_ifn h b5
    refine zy_0 rfl rfl (show zyR _ _ _ _ [some (.ref (43 + 3)), some (.int x1), some (.int x2), some (.int x3), some (.int x4), some (.int x5), some (.int x6)] [.ref (43 + 3)] _ _ from ?_)
    refine zy_2 rfl rfl (show zyR _ _ _ _ [some (.ref (43 + 3)), some (.int x1), some (.int x2), some (.int x3), some (.int x4), some (.int x5), some (.int x6)] [.int x1, .ref (43 + 3)] _ _ from ?_)
    refine zy_2 rfl rfl (show zyR _ _ _ _ [some (.ref (43 + 3)), some (.int x1), some (.int x2), some (.int x3), some (.int x4), some (.int x5), some (.int x6)] [.int x2, .int x1, .ref (43 + 3)] _ _ from ?_)
    refine zy_2 rfl rfl (show zyR _ _ _ _ [some (.ref (43 + 3)), some (.int x1), some (.int x2), some (.int x3), some (.int x4), some (.int x5), some (.int x6)] [.int x6, .int x2, .int x1, .ref (43 + 3)] _ _ from ?_)
    obtain ⟨p2, hp2, h⟩ := zy_bind h
    refine zy_5 (c := 43) (as := [.int x1, .int x2, .int x6]) (rest := []) (L := [some (.ref (43 + 3)), some (.int x1), some (.int x2), some (.int x6), none, none]) (d' := 3) rfl rfl rfl (Nat.le_of_ble_eq_true rfl) (Nat.le_of_ble_eq_true rfl) rfl (Nat.le_of_ble_eq_true rfl) rfl rfl (zyC232 hp2) ?_
    show zyR _ _ _ _ [some (.ref (43 + 3)), some (.int x1), some (.int x2), some (.int x3), some (.int x4), some (.int x5), some (.int x6)] [.int p2.1] _ _
    refine zy_24_0 rfl (fun b4 => (show zyR _ _ _ _ [some (.ref (43 + 3)), some (.int x1), some (.int x2), some (.int x3), some (.int x4), some (.int x5), some (.int x6)] [] _ _ from ?_)) (fun b4 => (show zyR _ _ _ _ [some (.ref (43 + 3)), some (.int x1), some (.int x2), some (.int x3), some (.int x4), some (.int x5), some (.int x6)] [] _ _ from ?_))
    · replace h := zy_ifp h b4
      exact zy_sub (show zy_le [some (.ref (43 + 3)), some (.int x1), some (.int x2), some (.int x3), some (.int x4), some (.int x5), some (.int x6)] [some (.ref (43 + 3)), some (.int x1), some (.int x2), some (.int x3), some (.int x4), some (.int x5), some (.int x6)] from ⟨rfl, ⟨rfl, ⟨rfl, ⟨rfl, ⟨rfl, ⟨rfl, ⟨rfl, trivial⟩⟩⟩⟩⟩⟩⟩) (zyC231_91 hk57 h)
    · replace h := zy_ifn h b4
      refine zy_2 rfl rfl (show zyR _ _ _ _ [some (.ref (43 + 3)), some (.int x1), some (.int x2), some (.int x3), some (.int x4), some (.int x5), some (.int x6)] [.int x4] _ _ from ?_)
      refine zy_24_1 rfl (fun b3 => (show zyR _ _ _ _ [some (.ref (43 + 3)), some (.int x1), some (.int x2), some (.int x3), some (.int x4), some (.int x5), some (.int x6)] [] _ _ from ?_)) (fun b3 => (show zyR _ _ _ _ [some (.ref (43 + 3)), some (.int x1), some (.int x2), some (.int x3), some (.int x4), some (.int x5), some (.int x6)] [] _ _ from ?_))
      · replace h := zy_ifp h b3
        refine zy_2 rfl rfl (show zyR _ _ _ _ [some (.ref (43 + 3)), some (.int x1), some (.int x2), some (.int x3), some (.int x4), some (.int x5), some (.int x6)] [.int x5] _ _ from ?_)
        exact zy_sub (show zy_le [some (.ref (43 + 3)), some (.int x1), some (.int x2), some (.int x3), some (.int x4), none, some (.int x6)] [some (.ref (43 + 3)), some (.int x1), some (.int x2), some (.int x3), some (.int x4), some (.int x5), some (.int x6)] from ⟨rfl, ⟨rfl, ⟨rfl, ⟨rfl, ⟨rfl, ⟨rfl, trivial⟩⟩⟩⟩⟩⟩) (zyC231_86 hk57 h)
      · replace h := zy_ifn h b3
        refine zy_2 rfl rfl (show zyR _ _ _ _ [some (.ref (43 + 3)), some (.int x1), some (.int x2), some (.int x3), some (.int x4), some (.int x5), some (.int x6)] [.int x6] _ _ from ?_)
        refine zy_6 rfl (show zyR _ _ _ _ [some (.ref (43 + 3)), some (.int x1), some (.int x2), some (.int x3), some (.int x4), some (.int x5), some (.int x6)] [.int x6] _ _ from ?_)
        exact zy_sub (show zy_le [some (.ref (43 + 3)), some (.int x1), some (.int x2), some (.int x3), some (.int x4), none, some (.int x6)] [some (.ref (43 + 3)), some (.int x1), some (.int x2), some (.int x3), some (.int x4), some (.int x5), some (.int x6)] from ⟨rfl, ⟨rfl, ⟨rfl, ⟨rfl, ⟨rfl, ⟨rfl, trivial⟩⟩⟩⟩⟩⟩) (zyC231_86 hk57 h)
noncomputable def zyF231_57   (n : Nat) : Int32 → Int32 → Int32 → Int32 → Int32 → Int32 → zy_S → Option (Int32 × zy_S) := Nat.rec (fun _ _ _ _ _ _ _ => none) (fun _ k57 => zyF231_57b k57) n
theorem zyC231_57 {X : zx_X}     : ∀ (n : Nat) (x1 : Int32) (x2 : Int32) (x3 : Int32) (x4 : Int32) (x5 : Int32) (x6 : Int32) (s : zy_S) (r : Int32) (s' : zy_S), zyF231_57 n x1 x2 x3 x4 x5 x6 s = some (r, s') → zyR X 4 231 57 [some (.ref (43 + 3)), some (.int x1), some (.int x2), some (.int x3), some (.int x4), some (.int x5), some (.int x6)] [] s (zyE (some (.int r)) s')
  | 0, _, _, _, _, _, _ => by
    intro s r s'  h
    have h : (none : Option (Int32 × zy_S)) = some (r, s') := h
    cases h
  | n + 1, x1, x2, x3, x4, x5, x6 => by
    intro s r s'  h
    exact zyC231_57b (k57 := zyF231_57 n) (fun x1 x2 x3 x4 x5 x6 s r s'  h => zyC231_57  n x1 x2 x3 x4 x5 x6 s r s'  h) h
noncomputable def zyF231   (x1 : Int32) (x2 : Int32) (x3 : Int32) (s : zy_S) : Option (Int32 × zy_S) :=
(zyF229 x1 s).bind fun p6 =>
if p6.1 = (-1 : Int32) then
some ((-1 : Int32), p6.2)
else
(zyF179 (x2).toInt64 (0 : Int64) (5 : Int64) p6.2).bind fun p7 =>
if p7.1 = 0 then
some ((-1 : Int32), p7.2)
else
(zyF179 (x3).toInt64 (0 : Int64) (1 : Int64) p7.2).bind fun p8 =>
if p8.1 ≠ 0 then
(zyF229 x1 p8.2).bind fun p9 =>
if 0 ≤ p9.1 then
zyF231_57 zy_fu x1 x2 x3 (0 : Int32) (-2 : Int32) (0 : Int32) p9.2
else
(zyF229 x1 p9.2).bind fun p10 =>
some (p10.1, p10.2)
else
some ((-1 : Int32), p8.2)
theorem zyC231 {X : zx_X}     {x1 : Int32} {x2 : Int32} {x3 : Int32} {s : zy_S} {r : Int32} {s' : zy_S}  (h : zyF231 x1 x2 x3 s = some (r, s')) : zyR X 4 231 0 [some (.ref (43 + 3)), some (.int x1), some (.int x2), some (.int x3), none, none, none] [] s (zyE (some (.int r)) s') := by
  unfold zyF231 at h
  refine zy_0 rfl rfl (show zyR _ _ _ _ [some (.ref (43 + 3)), some (.int x1), some (.int x2), some (.int x3), none, none, none] [.ref (43 + 3)] _ _ from ?_)
  refine zy_2 rfl rfl (show zyR _ _ _ _ [some (.ref (43 + 3)), some (.int x1), some (.int x2), some (.int x3), none, none, none] [.int x1, .ref (43 + 3)] _ _ from ?_)
  obtain ⟨p6, hp6, h⟩ := zy_bind h
  refine zy_5 (c := 43) (as := [.int x1]) (rest := []) (L := [some (.ref (43 + 3)), some (.int x1)]) (d' := 3) rfl rfl rfl (Nat.le_of_ble_eq_true rfl) (Nat.le_of_ble_eq_true rfl) rfl (Nat.le_of_ble_eq_true rfl) rfl rfl (zyC229 hp6) ?_
  show zyR _ _ _ _ [some (.ref (43 + 3)), some (.int x1), some (.int x2), some (.int x3), none, none, none] [.int p6.1] _ _
  refine zy_3 rfl rfl (show zyR _ _ _ _ [some (.ref (43 + 3)), some (.int x1), some (.int x2), some (.int x3), none, none, none] [.int (-1 : Int32), .int p6.1] _ _ from ?_)
  refine zy_25_0 rfl (fun b14 => (show zyR _ _ _ _ [some (.ref (43 + 3)), some (.int x1), some (.int x2), some (.int x3), none, none, none] [] _ _ from ?_)) (fun b14 => (show zyR _ _ _ _ [some (.ref (43 + 3)), some (.int x1), some (.int x2), some (.int x3), none, none, none] [] _ _ from ?_))
  · replace h := zy_ifp h b14
    refine zy_3 rfl rfl (show zyR _ _ _ _ [some (.ref (43 + 3)), some (.int x1), some (.int x2), some (.int x3), none, none, none] [.int (-1 : Int32)] _ _ from ?_)
    obtain ⟨rfl, rfl⟩ := zy_pi h
    exact zy_4 rfl ⟨rfl, rfl⟩
  · replace h := zy_ifn h b14
    refine zy_2 rfl rfl (show zyR _ _ _ _ [some (.ref (43 + 3)), some (.int x1), some (.int x2), some (.int x3), none, none, none] [.int x2] _ _ from ?_)
    refine zy_40 rfl (show zyR _ _ _ _ [some (.ref (43 + 3)), some (.int x1), some (.int x2), some (.int x3), none, none, none] [.long (x2).toInt64] _ _ from ?_)
    refine zy_36 rfl rfl (show zyR _ _ _ _ [some (.ref (43 + 3)), some (.int x1), some (.int x2), some (.int x3), none, none, none] [.long (0 : Int64), .long (x2).toInt64] _ _ from ?_)
    refine zy_36c rfl rfl (show zyR _ _ _ _ [some (.ref (43 + 3)), some (.int x1), some (.int x2), some (.int x3), none, none, none] [.long (5 : Int64), .long (0 : Int64), .long (x2).toInt64] _ _ from ?_)
    obtain ⟨p7, hp7, h⟩ := zy_bind h
    refine zy_60 (as := [.long (x2).toInt64, .long (0 : Int64), .long (5 : Int64)]) (rest := []) (L := [some (.long (x2).toInt64), none, some (.long (0 : Int64)), none, some (.long (5 : Int64)), none]) (d' := 1) rfl rfl (Nat.le_of_ble_eq_true rfl) (Nat.le_of_ble_eq_true rfl) rfl (Nat.le_of_ble_eq_true rfl) rfl rfl (zyC179 hp7) ?_
    show zyR _ _ _ _ [some (.ref (43 + 3)), some (.int x1), some (.int x2), some (.int x3), none, none, none] [.int p7.1] _ _
    refine zy_24_0 rfl (fun b13 => (show zyR _ _ _ _ [some (.ref (43 + 3)), some (.int x1), some (.int x2), some (.int x3), none, none, none] [] _ _ from ?_)) (fun b13 => (show zyR _ _ _ _ [some (.ref (43 + 3)), some (.int x1), some (.int x2), some (.int x3), none, none, none] [] _ _ from ?_))
    · replace h := zy_ifp h b13
      refine zy_3 rfl rfl (show zyR _ _ _ _ [some (.ref (43 + 3)), some (.int x1), some (.int x2), some (.int x3), none, none, none] [.int (-1 : Int32)] _ _ from ?_)
      obtain ⟨rfl, rfl⟩ := zy_pi h
      exact zy_4 rfl ⟨rfl, rfl⟩
    · replace h := zy_ifn h b13
      refine zy_2 rfl rfl (show zyR _ _ _ _ [some (.ref (43 + 3)), some (.int x1), some (.int x2), some (.int x3), none, none, none] [.int x3] _ _ from ?_)
      refine zy_40 rfl (show zyR _ _ _ _ [some (.ref (43 + 3)), some (.int x1), some (.int x2), some (.int x3), none, none, none] [.long (x3).toInt64] _ _ from ?_)
      refine zy_36 rfl rfl (show zyR _ _ _ _ [some (.ref (43 + 3)), some (.int x1), some (.int x2), some (.int x3), none, none, none] [.long (0 : Int64), .long (x3).toInt64] _ _ from ?_)
      refine zy_36 rfl rfl (show zyR _ _ _ _ [some (.ref (43 + 3)), some (.int x1), some (.int x2), some (.int x3), none, none, none] [.long (1 : Int64), .long (0 : Int64), .long (x3).toInt64] _ _ from ?_)
      obtain ⟨p8, hp8, h⟩ := zy_bind h
      refine zy_60 (as := [.long (x3).toInt64, .long (0 : Int64), .long (1 : Int64)]) (rest := []) (L := [some (.long (x3).toInt64), none, some (.long (0 : Int64)), none, some (.long (1 : Int64)), none]) (d' := 1) rfl rfl (Nat.le_of_ble_eq_true rfl) (Nat.le_of_ble_eq_true rfl) rfl (Nat.le_of_ble_eq_true rfl) rfl rfl (zyC179 hp8) ?_
      show zyR _ _ _ _ [some (.ref (43 + 3)), some (.int x1), some (.int x2), some (.int x3), none, none, none] [.int p8.1] _ _
      refine zy_24_1 rfl (fun b12 => (show zyR _ _ _ _ [some (.ref (43 + 3)), some (.int x1), some (.int x2), some (.int x3), none, none, none] [] _ _ from ?_)) (fun b12 => (show zyR _ _ _ _ [some (.ref (43 + 3)), some (.int x1), some (.int x2), some (.int x3), none, none, none] [] _ _ from ?_))
      · replace h := zy_ifp h b12
        refine zy_0 rfl rfl (show zyR _ _ _ _ [some (.ref (43 + 3)), some (.int x1), some (.int x2), some (.int x3), none, none, none] [.ref (43 + 3)] _ _ from ?_)
        refine zy_2 rfl rfl (show zyR _ _ _ _ [some (.ref (43 + 3)), some (.int x1), some (.int x2), some (.int x3), none, none, none] [.int x1, .ref (43 + 3)] _ _ from ?_)
        obtain ⟨p9, hp9, h⟩ := zy_bind h
        refine zy_5 (c := 43) (as := [.int x1]) (rest := []) (L := [some (.ref (43 + 3)), some (.int x1)]) (d' := 3) rfl rfl rfl (Nat.le_of_ble_eq_true rfl) (Nat.le_of_ble_eq_true rfl) rfl (Nat.le_of_ble_eq_true rfl) rfl rfl (zyC229 hp9) ?_
        show zyR _ _ _ _ [some (.ref (43 + 3)), some (.int x1), some (.int x2), some (.int x3), none, none, none] [.int p9.1] _ _
        refine zy_24_3 rfl (fun b11 => (show zyR _ _ _ _ [some (.ref (43 + 3)), some (.int x1), some (.int x2), some (.int x3), none, none, none] [] _ _ from ?_)) (fun b11 => (show zyR _ _ _ _ [some (.ref (43 + 3)), some (.int x1), some (.int x2), some (.int x3), none, none, none] [] _ _ from ?_))
        · replace h := zy_ifp h b11
          refine zy_3 rfl rfl (show zyR _ _ _ _ [some (.ref (43 + 3)), some (.int x1), some (.int x2), some (.int x3), none, none, none] [.int (0 : Int32)] _ _ from ?_)
          refine zy_23 rfl rfl (show zyR _ _ _ _ [some (.ref (43 + 3)), some (.int x1), some (.int x2), some (.int x3), some (.int (0 : Int32)), none, none] [] _ _ from ?_)
          refine zy_3 rfl rfl (show zyR _ _ _ _ [some (.ref (43 + 3)), some (.int x1), some (.int x2), some (.int x3), some (.int (0 : Int32)), none, none] [.int (-2 : Int32)] _ _ from ?_)
          refine zy_23 rfl rfl (show zyR _ _ _ _ [some (.ref (43 + 3)), some (.int x1), some (.int x2), some (.int x3), some (.int (0 : Int32)), some (.int (-2 : Int32)), none] [] _ _ from ?_)
          refine zy_3 rfl rfl (show zyR _ _ _ _ [some (.ref (43 + 3)), some (.int x1), some (.int x2), some (.int x3), some (.int (0 : Int32)), some (.int (-2 : Int32)), none] [.int (0 : Int32)] _ _ from ?_)
          refine zy_23 rfl rfl (show zyR _ _ _ _ [some (.ref (43 + 3)), some (.int x1), some (.int x2), some (.int x3), some (.int (0 : Int32)), some (.int (-2 : Int32)), some (.int (0 : Int32))] [] _ _ from ?_)
          exact zy_sub (show zy_le [some (.ref (43 + 3)), some (.int x1), some (.int x2), some (.int x3), some (.int (0 : Int32)), some (.int (-2 : Int32)), some (.int (0 : Int32))] [some (.ref (43 + 3)), some (.int x1), some (.int x2), some (.int x3), some (.int (0 : Int32)), some (.int (-2 : Int32)), some (.int (0 : Int32))] from ⟨rfl, ⟨rfl, ⟨rfl, ⟨rfl, ⟨rfl, ⟨rfl, ⟨rfl, trivial⟩⟩⟩⟩⟩⟩⟩) (zyC231_57 zy_fu x1 x2 x3 (0 : Int32) (-2 : Int32) (0 : Int32) p9.2 _ _ h)
        · replace h := zy_ifn h b11
          refine zy_0 rfl rfl (show zyR _ _ _ _ [some (.ref (43 + 3)), some (.int x1), some (.int x2), some (.int x3), none, none, none] [.ref (43 + 3)] _ _ from ?_)
          refine zy_2 rfl rfl (show zyR _ _ _ _ [some (.ref (43 + 3)), some (.int x1), some (.int x2), some (.int x3), none, none, none] [.int x1, .ref (43 + 3)] _ _ from ?_)
          obtain ⟨p10, hp10, h⟩ := zy_bind h
          refine zy_5 (c := 43) (as := [.int x1]) (rest := []) (L := [some (.ref (43 + 3)), some (.int x1)]) (d' := 3) rfl rfl rfl (Nat.le_of_ble_eq_true rfl) (Nat.le_of_ble_eq_true rfl) rfl (Nat.le_of_ble_eq_true rfl) rfl rfl (zyC229 hp10) ?_
          show zyR _ _ _ _ [some (.ref (43 + 3)), some (.int x1), some (.int x2), some (.int x3), none, none, none] [.int p10.1] _ _
          obtain ⟨rfl, rfl⟩ := zy_pi h
          exact zy_4 rfl ⟨rfl, rfl⟩
      · replace h := zy_ifn h b12
        refine zy_3 rfl rfl (show zyR _ _ _ _ [some (.ref (43 + 3)), some (.int x1), some (.int x2), some (.int x3), none, none, none] [.int (-1 : Int32)] _ _ from ?_)
        obtain ⟨rfl, rfl⟩ := zy_pi h
        exact zy_4 rfl ⟨rfl, rfl⟩
