/-! PART 41.06: methods as functions. Made by wip/v4/dcp.py. -/
/-! NineOpinionsModel.placeOf(II)I -/
noncomputable def zyF184   (x1 : Int32) (x2 : Int32) (s : zy_S) : Option (Int32 × zy_S) :=
(zyF179 (x2).toInt64 (0 : Int64) (1 : Int64) s).bind fun p1 =>
if p1.1 = 0 then
if x2 ≠ (2 : Int32) then
if x2 ≠ (3 : Int32) then
some ((-1 : Int32), p1.2)
else
if x1 ≠ 0 then
some ((-1 : Int32), p1.2)
else
some ((40 : Int32), p1.2)
else
(zyF186 (x1).toInt64 p1.2).bind fun p4 =>
if p4.1 = 0 then
some ((-1 : Int32), p4.2)
else
some (((16 : Int32) + x1), p4.2)
else
(zyF185 (x1).toInt64 p1.2).bind fun p7 =>
if p7.1 = 0 then
some ((-1 : Int32), p7.2)
else
some ((((8 : Int32) * x2) + x1), p7.2)
theorem zyC184 {X : zx_X}     {x1 : Int32} {x2 : Int32} {s : zy_S} {r : Int32} {s' : zy_S}  (h : zyF184 x1 x2 s = some (r, s')) : zyR X 3 184 0 [some (.ref (43 + 3)), some (.int x1), some (.int x2)] [] s (zyE (some (.int r)) s') := by
  unfold zyF184 at h
  refine zy_2 rfl rfl (show zyR _ _ _ _ [some (.ref (43 + 3)), some (.int x1), some (.int x2)] [.int x2] _ _ from ?_)
  refine zy_40 rfl (show zyR _ _ _ _ [some (.ref (43 + 3)), some (.int x1), some (.int x2)] [.long (x2).toInt64] _ _ from ?_)
  refine zy_36 rfl rfl (show zyR _ _ _ _ [some (.ref (43 + 3)), some (.int x1), some (.int x2)] [.long (0 : Int64), .long (x2).toInt64] _ _ from ?_)
  refine zy_36 rfl rfl (show zyR _ _ _ _ [some (.ref (43 + 3)), some (.int x1), some (.int x2)] [.long (1 : Int64), .long (0 : Int64), .long (x2).toInt64] _ _ from ?_)
  obtain ⟨p1, hp1, h⟩ := zy_bind h
  refine zy_60 (as := [.long (x2).toInt64, .long (0 : Int64), .long (1 : Int64)]) (rest := []) (L := [some (.long (x2).toInt64), none, some (.long (0 : Int64)), none, some (.long (1 : Int64)), none]) (d' := 1) rfl rfl (Nat.le_of_ble_eq_true rfl) (Nat.le_of_ble_eq_true rfl) rfl (Nat.le_of_ble_eq_true rfl) rfl rfl (zyC179 hp1) ?_
  show zyR _ _ _ _ [some (.ref (43 + 3)), some (.int x1), some (.int x2)] [.int p1.1] _ _
  refine zy_24_0 rfl (fun b9 => (show zyR _ _ _ _ [some (.ref (43 + 3)), some (.int x1), some (.int x2)] [] _ _ from ?_)) (fun b9 => (show zyR _ _ _ _ [some (.ref (43 + 3)), some (.int x1), some (.int x2)] [] _ _ from ?_))
  · replace h := zy_ifp h b9
    refine zy_2 rfl rfl (show zyR _ _ _ _ [some (.ref (43 + 3)), some (.int x1), some (.int x2)] [.int x2] _ _ from ?_)
    refine zy_3 rfl rfl (show zyR _ _ _ _ [some (.ref (43 + 3)), some (.int x1), some (.int x2)] [.int (2 : Int32), .int x2] _ _ from ?_)
    refine zy_25_1 rfl (fun b6 => (show zyR _ _ _ _ [some (.ref (43 + 3)), some (.int x1), some (.int x2)] [] _ _ from ?_)) (fun b6 => (show zyR _ _ _ _ [some (.ref (43 + 3)), some (.int x1), some (.int x2)] [] _ _ from ?_))
    · replace h := zy_ifp h b6
      refine zy_2 rfl rfl (show zyR _ _ _ _ [some (.ref (43 + 3)), some (.int x1), some (.int x2)] [.int x2] _ _ from ?_)
      refine zy_3 rfl rfl (show zyR _ _ _ _ [some (.ref (43 + 3)), some (.int x1), some (.int x2)] [.int (3 : Int32), .int x2] _ _ from ?_)
      refine zy_25_1 rfl (fun b3 => (show zyR _ _ _ _ [some (.ref (43 + 3)), some (.int x1), some (.int x2)] [] _ _ from ?_)) (fun b3 => (show zyR _ _ _ _ [some (.ref (43 + 3)), some (.int x1), some (.int x2)] [] _ _ from ?_))
      · replace h := zy_ifp h b3
        refine zy_3 rfl rfl (show zyR _ _ _ _ [some (.ref (43 + 3)), some (.int x1), some (.int x2)] [.int (-1 : Int32)] _ _ from ?_)
        obtain ⟨rfl, rfl⟩ := zy_pi h
        exact zy_4 rfl ⟨rfl, rfl⟩
      · replace h := zy_ifn h b3
        refine zy_2 rfl rfl (show zyR _ _ _ _ [some (.ref (43 + 3)), some (.int x1), some (.int x2)] [.int x1] _ _ from ?_)
        refine zy_24_1 rfl (fun b2 => (show zyR _ _ _ _ [some (.ref (43 + 3)), some (.int x1), some (.int x2)] [] _ _ from ?_)) (fun b2 => (show zyR _ _ _ _ [some (.ref (43 + 3)), some (.int x1), some (.int x2)] [] _ _ from ?_))
        · replace h := zy_ifp h b2
          refine zy_3 rfl rfl (show zyR _ _ _ _ [some (.ref (43 + 3)), some (.int x1), some (.int x2)] [.int (-1 : Int32)] _ _ from ?_)
          obtain ⟨rfl, rfl⟩ := zy_pi h
          exact zy_4 rfl ⟨rfl, rfl⟩
        · replace h := zy_ifn h b2
          refine zy_3 rfl rfl (show zyR _ _ _ _ [some (.ref (43 + 3)), some (.int x1), some (.int x2)] [.int (40 : Int32)] _ _ from ?_)
          refine zy_6 rfl (show zyR _ _ _ _ [some (.ref (43 + 3)), some (.int x1), some (.int x2)] [.int (40 : Int32)] _ _ from ?_)
          obtain ⟨rfl, rfl⟩ := zy_pi h
          exact zy_4 rfl ⟨rfl, rfl⟩
    · replace h := zy_ifn h b6
      refine zy_2 rfl rfl (show zyR _ _ _ _ [some (.ref (43 + 3)), some (.int x1), some (.int x2)] [.int x1] _ _ from ?_)
      refine zy_40 rfl (show zyR _ _ _ _ [some (.ref (43 + 3)), some (.int x1), some (.int x2)] [.long (x1).toInt64] _ _ from ?_)
      obtain ⟨p4, hp4, h⟩ := zy_bind h
      refine zy_60 (as := [.long (x1).toInt64]) (rest := []) (L := [some (.long (x1).toInt64), none]) (d' := 2) rfl rfl (Nat.le_of_ble_eq_true rfl) (Nat.le_of_ble_eq_true rfl) rfl (Nat.le_of_ble_eq_true rfl) rfl rfl (zyC186 hp4) ?_
      show zyR _ _ _ _ [some (.ref (43 + 3)), some (.int x1), some (.int x2)] [.int p4.1] _ _
      refine zy_24_0 rfl (fun b5 => (show zyR _ _ _ _ [some (.ref (43 + 3)), some (.int x1), some (.int x2)] [] _ _ from ?_)) (fun b5 => (show zyR _ _ _ _ [some (.ref (43 + 3)), some (.int x1), some (.int x2)] [] _ _ from ?_))
      · replace h := zy_ifp h b5
        refine zy_3 rfl rfl (show zyR _ _ _ _ [some (.ref (43 + 3)), some (.int x1), some (.int x2)] [.int (-1 : Int32)] _ _ from ?_)
        obtain ⟨rfl, rfl⟩ := zy_pi h
        exact zy_4 rfl ⟨rfl, rfl⟩
      · replace h := zy_ifn h b5
        refine zy_3 rfl rfl (show zyR _ _ _ _ [some (.ref (43 + 3)), some (.int x1), some (.int x2)] [.int (16 : Int32)] _ _ from ?_)
        refine zy_2 rfl rfl (show zyR _ _ _ _ [some (.ref (43 + 3)), some (.int x1), some (.int x2)] [.int x1, .int (16 : Int32)] _ _ from ?_)
        refine zy_10 rfl (show zyR _ _ _ _ [some (.ref (43 + 3)), some (.int x1), some (.int x2)] [.int ((16 : Int32) + x1)] _ _ from ?_)
        refine zy_6 rfl (show zyR _ _ _ _ [some (.ref (43 + 3)), some (.int x1), some (.int x2)] [.int ((16 : Int32) + x1)] _ _ from ?_)
        obtain ⟨rfl, rfl⟩ := zy_pi h
        exact zy_4 rfl ⟨rfl, rfl⟩
  · replace h := zy_ifn h b9
    refine zy_0 rfl rfl (show zyR _ _ _ _ [some (.ref (43 + 3)), some (.int x1), some (.int x2)] [.ref (43 + 3)] _ _ from ?_)
    refine zy_2 rfl rfl (show zyR _ _ _ _ [some (.ref (43 + 3)), some (.int x1), some (.int x2)] [.int x1, .ref (43 + 3)] _ _ from ?_)
    refine zy_40 rfl (show zyR _ _ _ _ [some (.ref (43 + 3)), some (.int x1), some (.int x2)] [.long (x1).toInt64, .ref (43 + 3)] _ _ from ?_)
    obtain ⟨p7, hp7, h⟩ := zy_bind h
    refine zy_5 (c := 43) (as := [.long (x1).toInt64]) (rest := []) (L := [some (.ref (43 + 3)), some (.long (x1).toInt64), none]) (d' := 2) rfl rfl rfl (Nat.le_of_ble_eq_true rfl) (Nat.le_of_ble_eq_true rfl) rfl (Nat.le_of_ble_eq_true rfl) rfl rfl (zyC185 hp7) ?_
    show zyR _ _ _ _ [some (.ref (43 + 3)), some (.int x1), some (.int x2)] [.int p7.1] _ _
    refine zy_24_0 rfl (fun b8 => (show zyR _ _ _ _ [some (.ref (43 + 3)), some (.int x1), some (.int x2)] [] _ _ from ?_)) (fun b8 => (show zyR _ _ _ _ [some (.ref (43 + 3)), some (.int x1), some (.int x2)] [] _ _ from ?_))
    · replace h := zy_ifp h b8
      refine zy_3 rfl rfl (show zyR _ _ _ _ [some (.ref (43 + 3)), some (.int x1), some (.int x2)] [.int (-1 : Int32)] _ _ from ?_)
      obtain ⟨rfl, rfl⟩ := zy_pi h
      exact zy_4 rfl ⟨rfl, rfl⟩
    · replace h := zy_ifn h b8
      refine zy_3 rfl rfl (show zyR _ _ _ _ [some (.ref (43 + 3)), some (.int x1), some (.int x2)] [.int (8 : Int32)] _ _ from ?_)
      refine zy_2 rfl rfl (show zyR _ _ _ _ [some (.ref (43 + 3)), some (.int x1), some (.int x2)] [.int x2, .int (8 : Int32)] _ _ from ?_)
      refine zy_12 rfl (show zyR _ _ _ _ [some (.ref (43 + 3)), some (.int x1), some (.int x2)] [.int ((8 : Int32) * x2)] _ _ from ?_)
      refine zy_2 rfl rfl (show zyR _ _ _ _ [some (.ref (43 + 3)), some (.int x1), some (.int x2)] [.int x1, .int ((8 : Int32) * x2)] _ _ from ?_)
      refine zy_10 rfl (show zyR _ _ _ _ [some (.ref (43 + 3)), some (.int x1), some (.int x2)] [.int (((8 : Int32) * x2) + x1)] _ _ from ?_)
      refine zy_6 rfl (show zyR _ _ _ _ [some (.ref (43 + 3)), some (.int x1), some (.int x2)] [.int (((8 : Int32) * x2) + x1)] _ _ from ?_)
      obtain ⟨rfl, rfl⟩ := zy_pi h
      exact zy_4 rfl ⟨rfl, rfl⟩
/-! NineOpinionsModel.becomes(II)I -/
noncomputable def zyF187_97   (x1 : Int32) (x2 : Int32) (x3 : Int32) (s : zy_S) : Option (Int32 × zy_S) :=
if zy_in (s.1 43 5) 40 then
if zy_in (s.1 43 5) 40 then
if zy_in (s.1 43 5) 40 then
if zy_in x1 41 then
some (x3, (zy_up (zy_up (zy_up (zy_up (zy_up (zy_up s 45 ((s.1 43 5)).toNatClampNeg x1) 46 ((s.1 43 5)).toNatClampNeg x3) 47 ((s.1 43 5)).toNatClampNeg x2) 43 5 ((s.1 43 5) + (1 : Int32))) 43 4 ((s.1 43 5) + (1 : Int32))) 44 (x1).toNatClampNeg x2))
else none
else none
else none
else none
theorem zyC187_97 {X : zx_X}     {x1 : Int32} {x2 : Int32} {x3 : Int32} {s : zy_S} {r : Int32} {s' : zy_S}  (h : zyF187_97 x1 x2 x3 s = some (r, s')) : zyR X 1 187 97 [some (.ref (43 + 3)), some (.int x1), some (.int x2), some (.int x3), none] [] s (zyE (some (.int r)) s') := by
  unfold zyF187_97 at h
  refine zy_0 rfl rfl (show zyR _ _ _ _ [some (.ref (43 + 3)), some (.int x1), some (.int x2), some (.int x3), none] [.ref (43 + 3)] _ _ from ?_)
  refine zy_1r (c := 43) rfl rfl rfl (show zyR _ _ _ _ [some (.ref (43 + 3)), some (.int x1), some (.int x2), some (.int x3), none] [.ref (45 + 3)] _ _ from ?_)
  refine zy_0 rfl rfl (show zyR _ _ _ _ [some (.ref (43 + 3)), some (.int x1), some (.int x2), some (.int x3), none] [.ref (43 + 3), .ref (45 + 3)] _ _ from ?_)
  refine zy_1 (c := 43) rfl rfl rfl (show zyR _ _ _ _ [some (.ref (43 + 3)), some (.int x1), some (.int x2), some (.int x3), none] [.int (s.1 43 5), .ref (45 + 3)] _ _ from ?_)
  refine zy_2 rfl rfl (show zyR _ _ _ _ [some (.ref (43 + 3)), some (.int x1), some (.int x2), some (.int x3), none] [.int x1, .int (s.1 43 5), .ref (45 + 3)] _ _ from ?_)
  obtain ⟨c1, h⟩ := zy_if h
  refine zy_27 (c := 45) rfl rfl c1 (show zyR _ _ _ _ [some (.ref (43 + 3)), some (.int x1), some (.int x2), some (.int x3), none] [] _ _ from ?_)
  refine zy_0 rfl rfl (show zyR _ _ _ _ [some (.ref (43 + 3)), some (.int x1), some (.int x2), some (.int x3), none] [.ref (43 + 3)] _ _ from ?_)
  refine zy_1r (c := 43) rfl rfl rfl (show zyR _ _ _ _ [some (.ref (43 + 3)), some (.int x1), some (.int x2), some (.int x3), none] [.ref (46 + 3)] _ _ from ?_)
  refine zy_0 rfl rfl (show zyR _ _ _ _ [some (.ref (43 + 3)), some (.int x1), some (.int x2), some (.int x3), none] [.ref (43 + 3), .ref (46 + 3)] _ _ from ?_)
  refine zy_1 (c := 43) rfl rfl rfl (show zyR _ _ _ _ [some (.ref (43 + 3)), some (.int x1), some (.int x2), some (.int x3), none] [.int (s.1 43 5), .ref (46 + 3)] _ _ from ?_)
  refine zy_2 rfl rfl (show zyR _ _ _ _ [some (.ref (43 + 3)), some (.int x1), some (.int x2), some (.int x3), none] [.int x3, .int (s.1 43 5), .ref (46 + 3)] _ _ from ?_)
  obtain ⟨c2, h⟩ := zy_if h
  refine zy_27 (c := 46) rfl rfl c2 (show zyR _ _ _ _ [some (.ref (43 + 3)), some (.int x1), some (.int x2), some (.int x3), none] [] _ _ from ?_)
  refine zy_0 rfl rfl (show zyR _ _ _ _ [some (.ref (43 + 3)), some (.int x1), some (.int x2), some (.int x3), none] [.ref (43 + 3)] _ _ from ?_)
  refine zy_1r (c := 43) rfl rfl rfl (show zyR _ _ _ _ [some (.ref (43 + 3)), some (.int x1), some (.int x2), some (.int x3), none] [.ref (47 + 3)] _ _ from ?_)
  refine zy_0 rfl rfl (show zyR _ _ _ _ [some (.ref (43 + 3)), some (.int x1), some (.int x2), some (.int x3), none] [.ref (43 + 3), .ref (47 + 3)] _ _ from ?_)
  refine zy_1 (c := 43) rfl rfl rfl (show zyR _ _ _ _ [some (.ref (43 + 3)), some (.int x1), some (.int x2), some (.int x3), none] [.int (s.1 43 5), .ref (47 + 3)] _ _ from ?_)
  refine zy_2 rfl rfl (show zyR _ _ _ _ [some (.ref (43 + 3)), some (.int x1), some (.int x2), some (.int x3), none] [.int x2, .int (s.1 43 5), .ref (47 + 3)] _ _ from ?_)
  obtain ⟨c3, h⟩ := zy_if h
  refine zy_27 (c := 47) rfl rfl c3 (show zyR _ _ _ _ [some (.ref (43 + 3)), some (.int x1), some (.int x2), some (.int x3), none] [] _ _ from ?_)
  refine zy_0 rfl rfl (show zyR _ _ _ _ [some (.ref (43 + 3)), some (.int x1), some (.int x2), some (.int x3), none] [.ref (43 + 3)] _ _ from ?_)
  refine zy_33 rfl rfl (show zyR _ _ _ _ [some (.ref (43 + 3)), some (.int x1), some (.int x2), some (.int x3), none] [.ref (43 + 3), .ref (43 + 3)] _ _ from ?_)
  refine zy_1 (c := 43) rfl rfl rfl (show zyR _ _ _ _ [some (.ref (43 + 3)), some (.int x1), some (.int x2), some (.int x3), none] [.int (s.1 43 5), .ref (43 + 3)] _ _ from ?_)
  refine zy_3 rfl rfl (show zyR _ _ _ _ [some (.ref (43 + 3)), some (.int x1), some (.int x2), some (.int x3), none] [.int (1 : Int32), .int (s.1 43 5), .ref (43 + 3)] _ _ from ?_)
  refine zy_10 rfl (show zyR _ _ _ _ [some (.ref (43 + 3)), some (.int x1), some (.int x2), some (.int x3), none] [.int ((s.1 43 5) + (1 : Int32)), .ref (43 + 3)] _ _ from ?_)
  refine zy_52 (c := 43) rfl rfl rfl (show zyR _ _ _ _ [some (.ref (43 + 3)), some (.int x1), some (.int x2), some (.int x3), none] [] _ _ from ?_)
  refine zy_0 rfl rfl (show zyR _ _ _ _ [some (.ref (43 + 3)), some (.int x1), some (.int x2), some (.int x3), none] [.ref (43 + 3)] _ _ from ?_)
  refine zy_0 rfl rfl (show zyR _ _ _ _ [some (.ref (43 + 3)), some (.int x1), some (.int x2), some (.int x3), none] [.ref (43 + 3), .ref (43 + 3)] _ _ from ?_)
  refine zy_1 (c := 43) rfl rfl rfl (show zyR _ _ _ _ [some (.ref (43 + 3)), some (.int x1), some (.int x2), some (.int x3), none] [.int ((s.1 43 5) + (1 : Int32)), .ref (43 + 3)] _ _ from ?_)
  refine zy_52 (c := 43) rfl rfl rfl (show zyR _ _ _ _ [some (.ref (43 + 3)), some (.int x1), some (.int x2), some (.int x3), none] [] _ _ from ?_)
  refine zy_0 rfl rfl (show zyR _ _ _ _ [some (.ref (43 + 3)), some (.int x1), some (.int x2), some (.int x3), none] [.ref (43 + 3)] _ _ from ?_)
  refine zy_1r (c := 43) rfl rfl rfl (show zyR _ _ _ _ [some (.ref (43 + 3)), some (.int x1), some (.int x2), some (.int x3), none] [.ref (44 + 3)] _ _ from ?_)
  refine zy_2 rfl rfl (show zyR _ _ _ _ [some (.ref (43 + 3)), some (.int x1), some (.int x2), some (.int x3), none] [.int x1, .ref (44 + 3)] _ _ from ?_)
  refine zy_2 rfl rfl (show zyR _ _ _ _ [some (.ref (43 + 3)), some (.int x1), some (.int x2), some (.int x3), none] [.int x2, .int x1, .ref (44 + 3)] _ _ from ?_)
  obtain ⟨c4, h⟩ := zy_if h
  refine zy_27 (c := 44) rfl rfl c4 (show zyR _ _ _ _ [some (.ref (43 + 3)), some (.int x1), some (.int x2), some (.int x3), none] [] _ _ from ?_)
  refine zy_2 rfl rfl (show zyR _ _ _ _ [some (.ref (43 + 3)), some (.int x1), some (.int x2), some (.int x3), none] [.int x3] _ _ from ?_)
  obtain ⟨rfl, rfl⟩ := zy_pi h
  exact zy_4 rfl ⟨rfl, rfl⟩
noncomputable def zyF187_26b  (k26 : Int32 → Int32 → Int32 → Int32 → zy_S → Option (Int32 × zy_S)) (x1 : Int32) (x2 : Int32) (x3 : Int32) (x4 : Int32) (s : zy_S) : Option (Int32 × zy_S) :=
if (40 : Int32) ≤ x4 then
zyF187_97 x1 x2 x3 (zy_up s 43 5 ((s.1 43 5) - (1 : Int32)))
else
if zy_in x4 40 then
if zy_in (x4 - (1 : Int32)) 40 then
if zy_in x4 40 then
if zy_in (x4 - (1 : Int32)) 40 then
if zy_in x4 40 then
if zy_in (x4 - (1 : Int32)) 40 then
k26 x1 x2 x3 (x4 + (1 : Int32)) (zy_up (zy_up (zy_up s 45 ((x4 - (1 : Int32))).toNatClampNeg (s.1 45 (x4).toNatClampNeg)) 46 ((x4 - (1 : Int32))).toNatClampNeg (s.1 46 (x4).toNatClampNeg)) 47 ((x4 - (1 : Int32))).toNatClampNeg (s.1 47 (x4).toNatClampNeg))
else none
else none
else none
else none
else none
else none
theorem zyC187_26b {X : zx_X}  {k26 : Int32 → Int32 → Int32 → Int32 → zy_S → Option (Int32 × zy_S)}  (hk26 : ∀ (x1 : Int32) (x2 : Int32) (x3 : Int32) (x4 : Int32) (s : zy_S) (r : Int32) (s' : zy_S), k26 x1 x2 x3 x4 s = some (r, s') → zyR X 1 187 26 [some (.ref (43 + 3)), some (.int x1), some (.int x2), some (.int x3), some (.int x4)] [] s (zyE (some (.int r)) s')) {x1 : Int32} {x2 : Int32} {x3 : Int32} {x4 : Int32} {s : zy_S} {r : Int32} {s' : zy_S}  (h : zyF187_26b k26 x1 x2 x3 x4 s = some (r, s')) : zyR X 1 187 26 [some (.ref (43 + 3)), some (.int x1), some (.int x2), some (.int x3), some (.int x4)] [] s (zyE (some (.int r)) s') := by
  unfold zyF187_26b at h
  refine zy_2 rfl rfl (show zyR _ _ _ _ [some (.ref (43 + 3)), some (.int x1), some (.int x2), some (.int x3), some (.int x4)] [.int x4] _ _ from ?_)
  refine zy_3 rfl rfl (show zyR _ _ _ _ [some (.ref (43 + 3)), some (.int x1), some (.int x2), some (.int x3), some (.int x4)] [.int (40 : Int32), .int x4] _ _ from ?_)
  refine zy_25_3 rfl (fun b11 => (show zyR _ _ _ _ [some (.ref (43 + 3)), some (.int x1), some (.int x2), some (.int x3), some (.int x4)] [] _ _ from ?_)) (fun b11 => (show zyR _ _ _ _ [some (.ref (43 + 3)), some (.int x1), some (.int x2), some (.int x3), some (.int x4)] [] _ _ from ?_))
  · replace h := zy_ifp h b11
    refine zy_0 rfl rfl (show zyR _ _ _ _ [some (.ref (43 + 3)), some (.int x1), some (.int x2), some (.int x3), some (.int x4)] [.ref (43 + 3)] _ _ from ?_)
    refine zy_33 rfl rfl (show zyR _ _ _ _ [some (.ref (43 + 3)), some (.int x1), some (.int x2), some (.int x3), some (.int x4)] [.ref (43 + 3), .ref (43 + 3)] _ _ from ?_)
    refine zy_1 (c := 43) rfl rfl rfl (show zyR _ _ _ _ [some (.ref (43 + 3)), some (.int x1), some (.int x2), some (.int x3), some (.int x4)] [.int (s.1 43 5), .ref (43 + 3)] _ _ from ?_)
    refine zy_3 rfl rfl (show zyR _ _ _ _ [some (.ref (43 + 3)), some (.int x1), some (.int x2), some (.int x3), some (.int x4)] [.int (1 : Int32), .int (s.1 43 5), .ref (43 + 3)] _ _ from ?_)
    refine zy_11 rfl (show zyR _ _ _ _ [some (.ref (43 + 3)), some (.int x1), some (.int x2), some (.int x3), some (.int x4)] [.int ((s.1 43 5) - (1 : Int32)), .ref (43 + 3)] _ _ from ?_)
    refine zy_52 (c := 43) rfl rfl rfl (show zyR _ _ _ _ [some (.ref (43 + 3)), some (.int x1), some (.int x2), some (.int x3), some (.int x4)] [] _ _ from ?_)
    exact zy_sub (show zy_le [some (.ref (43 + 3)), some (.int x1), some (.int x2), some (.int x3), none] [some (.ref (43 + 3)), some (.int x1), some (.int x2), some (.int x3), some (.int x4)] from ⟨rfl, ⟨rfl, ⟨rfl, ⟨rfl, trivial⟩⟩⟩⟩) (zyC187_97 h)
  · replace h := zy_ifn h b11
    refine zy_0 rfl rfl (show zyR _ _ _ _ [some (.ref (43 + 3)), some (.int x1), some (.int x2), some (.int x3), some (.int x4)] [.ref (43 + 3)] _ _ from ?_)
    refine zy_1r (c := 43) rfl rfl rfl (show zyR _ _ _ _ [some (.ref (43 + 3)), some (.int x1), some (.int x2), some (.int x3), some (.int x4)] [.ref (45 + 3)] _ _ from ?_)
    refine zy_2 rfl rfl (show zyR _ _ _ _ [some (.ref (43 + 3)), some (.int x1), some (.int x2), some (.int x3), some (.int x4)] [.int x4, .ref (45 + 3)] _ _ from ?_)
    refine zy_3 rfl rfl (show zyR _ _ _ _ [some (.ref (43 + 3)), some (.int x1), some (.int x2), some (.int x3), some (.int x4)] [.int (1 : Int32), .int x4, .ref (45 + 3)] _ _ from ?_)
    refine zy_11 rfl (show zyR _ _ _ _ [some (.ref (43 + 3)), some (.int x1), some (.int x2), some (.int x3), some (.int x4)] [.int (x4 - (1 : Int32)), .ref (45 + 3)] _ _ from ?_)
    refine zy_0 rfl rfl (show zyR _ _ _ _ [some (.ref (43 + 3)), some (.int x1), some (.int x2), some (.int x3), some (.int x4)] [.ref (43 + 3), .int (x4 - (1 : Int32)), .ref (45 + 3)] _ _ from ?_)
    refine zy_1r (c := 43) rfl rfl rfl (show zyR _ _ _ _ [some (.ref (43 + 3)), some (.int x1), some (.int x2), some (.int x3), some (.int x4)] [.ref (45 + 3), .int (x4 - (1 : Int32)), .ref (45 + 3)] _ _ from ?_)
    refine zy_2 rfl rfl (show zyR _ _ _ _ [some (.ref (43 + 3)), some (.int x1), some (.int x2), some (.int x3), some (.int x4)] [.int x4, .ref (45 + 3), .int (x4 - (1 : Int32)), .ref (45 + 3)] _ _ from ?_)
    obtain ⟨c5, h⟩ := zy_if h
    refine zy_26 (c := 45) rfl rfl c5 (show zyR _ _ _ _ [some (.ref (43 + 3)), some (.int x1), some (.int x2), some (.int x3), some (.int x4)] [.int (s.1 45 (x4).toNatClampNeg), .int (x4 - (1 : Int32)), .ref (45 + 3)] _ _ from ?_)
    obtain ⟨c6, h⟩ := zy_if h
    refine zy_27 (c := 45) rfl rfl c6 (show zyR _ _ _ _ [some (.ref (43 + 3)), some (.int x1), some (.int x2), some (.int x3), some (.int x4)] [] _ _ from ?_)
    refine zy_0 rfl rfl (show zyR _ _ _ _ [some (.ref (43 + 3)), some (.int x1), some (.int x2), some (.int x3), some (.int x4)] [.ref (43 + 3)] _ _ from ?_)
    refine zy_1r (c := 43) rfl rfl rfl (show zyR _ _ _ _ [some (.ref (43 + 3)), some (.int x1), some (.int x2), some (.int x3), some (.int x4)] [.ref (46 + 3)] _ _ from ?_)
    refine zy_2 rfl rfl (show zyR _ _ _ _ [some (.ref (43 + 3)), some (.int x1), some (.int x2), some (.int x3), some (.int x4)] [.int x4, .ref (46 + 3)] _ _ from ?_)
    refine zy_3 rfl rfl (show zyR _ _ _ _ [some (.ref (43 + 3)), some (.int x1), some (.int x2), some (.int x3), some (.int x4)] [.int (1 : Int32), .int x4, .ref (46 + 3)] _ _ from ?_)
    refine zy_11 rfl (show zyR _ _ _ _ [some (.ref (43 + 3)), some (.int x1), some (.int x2), some (.int x3), some (.int x4)] [.int (x4 - (1 : Int32)), .ref (46 + 3)] _ _ from ?_)
    refine zy_0 rfl rfl (show zyR _ _ _ _ [some (.ref (43 + 3)), some (.int x1), some (.int x2), some (.int x3), some (.int x4)] [.ref (43 + 3), .int (x4 - (1 : Int32)), .ref (46 + 3)] _ _ from ?_)
    refine zy_1r (c := 43) rfl rfl rfl (show zyR _ _ _ _ [some (.ref (43 + 3)), some (.int x1), some (.int x2), some (.int x3), some (.int x4)] [.ref (46 + 3), .int (x4 - (1 : Int32)), .ref (46 + 3)] _ _ from ?_)
    refine zy_2 rfl rfl (show zyR _ _ _ _ [some (.ref (43 + 3)), some (.int x1), some (.int x2), some (.int x3), some (.int x4)] [.int x4, .ref (46 + 3), .int (x4 - (1 : Int32)), .ref (46 + 3)] _ _ from ?_)
    obtain ⟨c7, h⟩ := zy_if h
    refine zy_26 (c := 46) rfl rfl c7 (show zyR _ _ _ _ [some (.ref (43 + 3)), some (.int x1), some (.int x2), some (.int x3), some (.int x4)] [.int (s.1 46 (x4).toNatClampNeg), .int (x4 - (1 : Int32)), .ref (46 + 3)] _ _ from ?_)
    obtain ⟨c8, h⟩ := zy_if h
    refine zy_27 (c := 46) rfl rfl c8 (show zyR _ _ _ _ [some (.ref (43 + 3)), some (.int x1), some (.int x2), some (.int x3), some (.int x4)] [] _ _ from ?_)
    refine zy_0 rfl rfl (show zyR _ _ _ _ [some (.ref (43 + 3)), some (.int x1), some (.int x2), some (.int x3), some (.int x4)] [.ref (43 + 3)] _ _ from ?_)
    refine zy_1r (c := 43) rfl rfl rfl (show zyR _ _ _ _ [some (.ref (43 + 3)), some (.int x1), some (.int x2), some (.int x3), some (.int x4)] [.ref (47 + 3)] _ _ from ?_)
    refine zy_2 rfl rfl (show zyR _ _ _ _ [some (.ref (43 + 3)), some (.int x1), some (.int x2), some (.int x3), some (.int x4)] [.int x4, .ref (47 + 3)] _ _ from ?_)
    refine zy_3 rfl rfl (show zyR _ _ _ _ [some (.ref (43 + 3)), some (.int x1), some (.int x2), some (.int x3), some (.int x4)] [.int (1 : Int32), .int x4, .ref (47 + 3)] _ _ from ?_)
    refine zy_11 rfl (show zyR _ _ _ _ [some (.ref (43 + 3)), some (.int x1), some (.int x2), some (.int x3), some (.int x4)] [.int (x4 - (1 : Int32)), .ref (47 + 3)] _ _ from ?_)
    refine zy_0 rfl rfl (show zyR _ _ _ _ [some (.ref (43 + 3)), some (.int x1), some (.int x2), some (.int x3), some (.int x4)] [.ref (43 + 3), .int (x4 - (1 : Int32)), .ref (47 + 3)] _ _ from ?_)
    refine zy_1r (c := 43) rfl rfl rfl (show zyR _ _ _ _ [some (.ref (43 + 3)), some (.int x1), some (.int x2), some (.int x3), some (.int x4)] [.ref (47 + 3), .int (x4 - (1 : Int32)), .ref (47 + 3)] _ _ from ?_)
    refine zy_2 rfl rfl (show zyR _ _ _ _ [some (.ref (43 + 3)), some (.int x1), some (.int x2), some (.int x3), some (.int x4)] [.int x4, .ref (47 + 3), .int (x4 - (1 : Int32)), .ref (47 + 3)] _ _ from ?_)
    obtain ⟨c9, h⟩ := zy_if h
    refine zy_26 (c := 47) rfl rfl c9 (show zyR _ _ _ _ [some (.ref (43 + 3)), some (.int x1), some (.int x2), some (.int x3), some (.int x4)] [.int (s.1 47 (x4).toNatClampNeg), .int (x4 - (1 : Int32)), .ref (47 + 3)] _ _ from ?_)
    obtain ⟨c10, h⟩ := zy_if h
    refine zy_27 (c := 47) rfl rfl c10 (show zyR _ _ _ _ [some (.ref (43 + 3)), some (.int x1), some (.int x2), some (.int x3), some (.int x4)] [] _ _ from ?_)
    refine zy_22 rfl rfl rfl rfl (show zyR _ _ _ _ [some (.ref (43 + 3)), some (.int x1), some (.int x2), some (.int x3), some (.int (x4 + (1 : Int32)))] [] _ _ from ?_)
    refine zy_6 rfl (show zyR _ _ _ _ [some (.ref (43 + 3)), some (.int x1), some (.int x2), some (.int x3), some (.int (x4 + (1 : Int32)))] [] _ _ from ?_)
    exact zy_sub (show zy_le [some (.ref (43 + 3)), some (.int x1), some (.int x2), some (.int x3), some (.int (x4 + (1 : Int32)))] [some (.ref (43 + 3)), some (.int x1), some (.int x2), some (.int x3), some (.int (x4 + (1 : Int32)))] from ⟨rfl, ⟨rfl, ⟨rfl, ⟨rfl, ⟨rfl, trivial⟩⟩⟩⟩⟩) (hk26 x1 x2 x3 (x4 + (1 : Int32)) (zy_up (zy_up (zy_up s 45 ((x4 - (1 : Int32))).toNatClampNeg (s.1 45 (x4).toNatClampNeg)) 46 ((x4 - (1 : Int32))).toNatClampNeg (s.1 46 (x4).toNatClampNeg)) 47 ((x4 - (1 : Int32))).toNatClampNeg (s.1 47 (x4).toNatClampNeg)) _ _ h)
noncomputable def zyF187_26   (n : Nat) : Int32 → Int32 → Int32 → Int32 → zy_S → Option (Int32 × zy_S) := Nat.rec (fun _ _ _ _ _ => none) (fun _ k26 => zyF187_26b k26) n
theorem zyC187_26 {X : zx_X}     : ∀ (n : Nat) (x1 : Int32) (x2 : Int32) (x3 : Int32) (x4 : Int32) (s : zy_S) (r : Int32) (s' : zy_S), zyF187_26 n x1 x2 x3 x4 s = some (r, s') → zyR X 1 187 26 [some (.ref (43 + 3)), some (.int x1), some (.int x2), some (.int x3), some (.int x4)] [] s (zyE (some (.int r)) s')
  | 0, _, _, _, _ => by
    intro s r s'  h
    have h : (none : Option (Int32 × zy_S)) = some (r, s') := h
    cases h
  | n + 1, x1, x2, x3, x4 => by
    intro s r s'  h
    exact zyC187_26b (k26 := zyF187_26 n) (fun x1 x2 x3 x4 s r s'  h => zyC187_26  n x1 x2 x3 x4 s r s'  h) h
noncomputable def zyF187   (x1 : Int32) (x2 : Int32) (s : zy_S) : Option (Int32 × zy_S) :=
if zy_in x1 41 then
if (s.1 44 (x1).toNatClampNeg) ≠ x2 then
if (s.1 43 5) ≠ (40 : Int32) then
zyF187_97 x1 x2 (s.1 44 (x1).toNatClampNeg) s
else
zyF187_26 zy_fu x1 x2 (s.1 44 (x1).toNatClampNeg) (1 : Int32) s
else
some ((s.1 44 (x1).toNatClampNeg), s)
else none
theorem zyC187 {X : zx_X}     {x1 : Int32} {x2 : Int32} {s : zy_S} {r : Int32} {s' : zy_S}  (h : zyF187 x1 x2 s = some (r, s')) : zyR X 1 187 0 [some (.ref (43 + 3)), some (.int x1), some (.int x2), none, none] [] s (zyE (some (.int r)) s') := by
  unfold zyF187 at h
  refine zy_0 rfl rfl (show zyR _ _ _ _ [some (.ref (43 + 3)), some (.int x1), some (.int x2), none, none] [.ref (43 + 3)] _ _ from ?_)
  refine zy_1r (c := 43) rfl rfl rfl (show zyR _ _ _ _ [some (.ref (43 + 3)), some (.int x1), some (.int x2), none, none] [.ref (44 + 3)] _ _ from ?_)
  refine zy_2 rfl rfl (show zyR _ _ _ _ [some (.ref (43 + 3)), some (.int x1), some (.int x2), none, none] [.int x1, .ref (44 + 3)] _ _ from ?_)
  obtain ⟨c12, h⟩ := zy_if h
  refine zy_26 (c := 44) rfl rfl c12 (show zyR _ _ _ _ [some (.ref (43 + 3)), some (.int x1), some (.int x2), none, none] [.int (s.1 44 (x1).toNatClampNeg)] _ _ from ?_)
  refine zy_23 rfl rfl (show zyR _ _ _ _ [some (.ref (43 + 3)), some (.int x1), some (.int x2), some (.int (s.1 44 (x1).toNatClampNeg)), none] [] _ _ from ?_)
  refine zy_2 rfl rfl (show zyR _ _ _ _ [some (.ref (43 + 3)), some (.int x1), some (.int x2), some (.int (s.1 44 (x1).toNatClampNeg)), none] [.int (s.1 44 (x1).toNatClampNeg)] _ _ from ?_)
  refine zy_2 rfl rfl (show zyR _ _ _ _ [some (.ref (43 + 3)), some (.int x1), some (.int x2), some (.int (s.1 44 (x1).toNatClampNeg)), none] [.int x2, .int (s.1 44 (x1).toNatClampNeg)] _ _ from ?_)
  refine zy_25_1 rfl (fun b14 => (show zyR _ _ _ _ [some (.ref (43 + 3)), some (.int x1), some (.int x2), some (.int (s.1 44 (x1).toNatClampNeg)), none] [] _ _ from ?_)) (fun b14 => (show zyR _ _ _ _ [some (.ref (43 + 3)), some (.int x1), some (.int x2), some (.int (s.1 44 (x1).toNatClampNeg)), none] [] _ _ from ?_))
  · replace h := zy_ifp h b14
    refine zy_0 rfl rfl (show zyR _ _ _ _ [some (.ref (43 + 3)), some (.int x1), some (.int x2), some (.int (s.1 44 (x1).toNatClampNeg)), none] [.ref (43 + 3)] _ _ from ?_)
    refine zy_1 (c := 43) rfl rfl rfl (show zyR _ _ _ _ [some (.ref (43 + 3)), some (.int x1), some (.int x2), some (.int (s.1 44 (x1).toNatClampNeg)), none] [.int (s.1 43 5)] _ _ from ?_)
    refine zy_3 rfl rfl (show zyR _ _ _ _ [some (.ref (43 + 3)), some (.int x1), some (.int x2), some (.int (s.1 44 (x1).toNatClampNeg)), none] [.int (40 : Int32), .int (s.1 43 5)] _ _ from ?_)
    refine zy_25_1 rfl (fun b13 => (show zyR _ _ _ _ [some (.ref (43 + 3)), some (.int x1), some (.int x2), some (.int (s.1 44 (x1).toNatClampNeg)), none] [] _ _ from ?_)) (fun b13 => (show zyR _ _ _ _ [some (.ref (43 + 3)), some (.int x1), some (.int x2), some (.int (s.1 44 (x1).toNatClampNeg)), none] [] _ _ from ?_))
    · replace h := zy_ifp h b13
      exact zy_sub (show zy_le [some (.ref (43 + 3)), some (.int x1), some (.int x2), some (.int (s.1 44 (x1).toNatClampNeg)), none] [some (.ref (43 + 3)), some (.int x1), some (.int x2), some (.int (s.1 44 (x1).toNatClampNeg)), none] from ⟨rfl, ⟨rfl, ⟨rfl, ⟨rfl, trivial⟩⟩⟩⟩) (zyC187_97 h)
    · replace h := zy_ifn h b13
      refine zy_3 rfl rfl (show zyR _ _ _ _ [some (.ref (43 + 3)), some (.int x1), some (.int x2), some (.int (s.1 44 (x1).toNatClampNeg)), none] [.int (1 : Int32)] _ _ from ?_)
      refine zy_23 rfl rfl (show zyR _ _ _ _ [some (.ref (43 + 3)), some (.int x1), some (.int x2), some (.int (s.1 44 (x1).toNatClampNeg)), some (.int (1 : Int32))] [] _ _ from ?_)
      exact zy_sub (show zy_le [some (.ref (43 + 3)), some (.int x1), some (.int x2), some (.int (s.1 44 (x1).toNatClampNeg)), some (.int (1 : Int32))] [some (.ref (43 + 3)), some (.int x1), some (.int x2), some (.int (s.1 44 (x1).toNatClampNeg)), some (.int (1 : Int32))] from ⟨rfl, ⟨rfl, ⟨rfl, ⟨rfl, ⟨rfl, trivial⟩⟩⟩⟩⟩) (zyC187_26 zy_fu x1 x2 (s.1 44 (x1).toNatClampNeg) (1 : Int32) s _ _ h)
  · replace h := zy_ifn h b14
    refine zy_2 rfl rfl (show zyR _ _ _ _ [some (.ref (43 + 3)), some (.int x1), some (.int x2), some (.int (s.1 44 (x1).toNatClampNeg)), none] [.int (s.1 44 (x1).toNatClampNeg)] _ _ from ?_)
    obtain ⟨rfl, rfl⟩ := zy_pi h
    exact zy_4 rfl ⟨rfl, rfl⟩
/-! NineOpinionsModel.mend(III)I -/
noncomputable def zyF183_38   (x3 : Int32) (x4 : Int32) (y0 : Int64) (y1 : Int64) (y2 : Int64) (s : zy_S) : Option (Int32 × zy_S) :=
(zyF179 y2 y1 y0 s).bind fun p1 =>
if p1.1 = 0 then
some ((-1 : Int32), p1.2)
else
(zyF187 x4 x3 p1.2).bind fun p2 =>
some (p2.1, p2.2)
theorem zyC183_38 {X : zx_X}     {x3 : Int32} {x4 : Int32} {y0 : Int64} {y1 : Int64} {y2 : Int64} {s : zy_S} {r : Int32} {s' : zy_S}  (h : zyF183_38 x3 x4 y0 y1 y2 s = some (r, s')) : zyR X 4 183 38 [some (.ref (43 + 3)), none, none, some (.int x3), some (.int x4)] [.long y0, .long y1, .long y2] s (zyE (some (.int r)) s') := by
  unfold zyF183_38 at h
  obtain ⟨p1, hp1, h⟩ := zy_bind h
  refine zy_60 (as := [.long y2, .long y1, .long y0]) (rest := []) (L := [some (.long y2), none, some (.long y1), none, some (.long y0), none]) (d' := 1) rfl rfl (Nat.le_of_ble_eq_true rfl) (Nat.le_of_ble_eq_true rfl) rfl (Nat.le_of_ble_eq_true rfl) rfl rfl (zyC179 hp1) ?_
  show zyR _ _ _ _ [some (.ref (43 + 3)), none, none, some (.int x3), some (.int x4)] [.int p1.1] _ _
  refine zy_24_0 rfl (fun b3 => (show zyR _ _ _ _ [some (.ref (43 + 3)), none, none, some (.int x3), some (.int x4)] [] _ _ from ?_)) (fun b3 => (show zyR _ _ _ _ [some (.ref (43 + 3)), none, none, some (.int x3), some (.int x4)] [] _ _ from ?_))
  · replace h := zy_ifp h b3
    refine zy_3 rfl rfl (show zyR _ _ _ _ [some (.ref (43 + 3)), none, none, some (.int x3), some (.int x4)] [.int (-1 : Int32)] _ _ from ?_)
    obtain ⟨rfl, rfl⟩ := zy_pi h
    exact zy_4 rfl ⟨rfl, rfl⟩
  · replace h := zy_ifn h b3
    refine zy_0 rfl rfl (show zyR _ _ _ _ [some (.ref (43 + 3)), none, none, some (.int x3), some (.int x4)] [.ref (43 + 3)] _ _ from ?_)
    refine zy_2 rfl rfl (show zyR _ _ _ _ [some (.ref (43 + 3)), none, none, some (.int x3), some (.int x4)] [.int x4, .ref (43 + 3)] _ _ from ?_)
    refine zy_2 rfl rfl (show zyR _ _ _ _ [some (.ref (43 + 3)), none, none, some (.int x3), some (.int x4)] [.int x3, .int x4, .ref (43 + 3)] _ _ from ?_)
    obtain ⟨p2, hp2, h⟩ := zy_bind h
    refine zy_5 (c := 43) (as := [.int x4, .int x3]) (rest := []) (L := [some (.ref (43 + 3)), some (.int x4), some (.int x3), none, none]) (d' := 1) rfl rfl rfl (Nat.le_of_ble_eq_true rfl) (Nat.le_of_ble_eq_true rfl) rfl (Nat.le_of_ble_eq_true rfl) rfl rfl (zyC187 hp2) ?_
    show zyR _ _ _ _ [some (.ref (43 + 3)), none, none, some (.int x3), some (.int x4)] [.int p2.1] _ _
    refine zy_6 rfl (show zyR _ _ _ _ [some (.ref (43 + 3)), none, none, some (.int x3), some (.int x4)] [.int p2.1] _ _ from ?_)
    obtain ⟨rfl, rfl⟩ := zy_pi h
    exact zy_4 rfl ⟨rfl, rfl⟩
noncomputable def zyF183_25   (x2 : Int32) (x3 : Int32) (x4 : Int32) (y0 : Int64) (y1 : Int64) (s : zy_S) : Option (Int32 × zy_S) :=
if x2 ≠ 0 then
zyF183_38 x3 x4 (9 : Int64) y0 y1 s
else
zyF183_38 x3 x4 (4095 : Int64) y0 y1 s
theorem zyC183_25 {X : zx_X}     {x2 : Int32} {x3 : Int32} {x4 : Int32} {y0 : Int64} {y1 : Int64} {s : zy_S} {r : Int32} {s' : zy_S}  (h : zyF183_25 x2 x3 x4 y0 y1 s = some (r, s')) : zyR X 4 183 25 [some (.ref (43 + 3)), none, some (.int x2), some (.int x3), some (.int x4)] [.long y0, .long y1] s (zyE (some (.int r)) s') := by
  unfold zyF183_25 at h
  refine zy_2 rfl rfl (show zyR _ _ _ _ [some (.ref (43 + 3)), none, some (.int x2), some (.int x3), some (.int x4)] [.int x2, .long y0, .long y1] _ _ from ?_)
  refine zy_24_1 rfl (fun b4 => (show zyR _ _ _ _ [some (.ref (43 + 3)), none, some (.int x2), some (.int x3), some (.int x4)] [.long y0, .long y1] _ _ from ?_)) (fun b4 => (show zyR _ _ _ _ [some (.ref (43 + 3)), none, some (.int x2), some (.int x3), some (.int x4)] [.long y0, .long y1] _ _ from ?_))
  · replace h := zy_ifp h b4
    refine zy_36c rfl rfl (show zyR _ _ _ _ [some (.ref (43 + 3)), none, some (.int x2), some (.int x3), some (.int x4)] [.long (9 : Int64), .long y0, .long y1] _ _ from ?_)
    exact zy_sub (show zy_le [some (.ref (43 + 3)), none, none, some (.int x3), some (.int x4)] [some (.ref (43 + 3)), none, some (.int x2), some (.int x3), some (.int x4)] from ⟨rfl, ⟨rfl, ⟨rfl, trivial⟩⟩⟩) (zyC183_38 h)
  · replace h := zy_ifn h b4
    refine zy_36c rfl rfl (show zyR _ _ _ _ [some (.ref (43 + 3)), none, some (.int x2), some (.int x3), some (.int x4)] [.long (4095 : Int64), .long y0, .long y1] _ _ from ?_)
    refine zy_6 rfl (show zyR _ _ _ _ [some (.ref (43 + 3)), none, some (.int x2), some (.int x3), some (.int x4)] [.long (4095 : Int64), .long y0, .long y1] _ _ from ?_)
    exact zy_sub (show zy_le [some (.ref (43 + 3)), none, none, some (.int x3), some (.int x4)] [some (.ref (43 + 3)), none, some (.int x2), some (.int x3), some (.int x4)] from ⟨rfl, ⟨rfl, ⟨rfl, trivial⟩⟩⟩) (zyC183_38 h)
noncomputable def zyF183   (x1 : Int32) (x2 : Int32) (x3 : Int32) (s : zy_S) : Option (Int32 × zy_S) :=
(zyF184 x1 x2 s).bind fun p5 =>
if p5.1 < 0 then
some ((-1 : Int32), p5.2)
else
if x2 ≠ (3 : Int32) then
zyF183_25 x2 x3 p5.1 (0 : Int64) (x3).toInt64 p5.2
else
zyF183_25 x2 x3 p5.1 (1 : Int64) (x3).toInt64 p5.2
theorem zyC183 {X : zx_X}     {x1 : Int32} {x2 : Int32} {x3 : Int32} {s : zy_S} {r : Int32} {s' : zy_S}  (h : zyF183 x1 x2 x3 s = some (r, s')) : zyR X 4 183 0 [some (.ref (43 + 3)), some (.int x1), some (.int x2), some (.int x3), none] [] s (zyE (some (.int r)) s') := by
  unfold zyF183 at h
  refine zy_0 rfl rfl (show zyR _ _ _ _ [some (.ref (43 + 3)), some (.int x1), some (.int x2), some (.int x3), none] [.ref (43 + 3)] _ _ from ?_)
  refine zy_2 rfl rfl (show zyR _ _ _ _ [some (.ref (43 + 3)), some (.int x1), some (.int x2), some (.int x3), none] [.int x1, .ref (43 + 3)] _ _ from ?_)
  refine zy_2 rfl rfl (show zyR _ _ _ _ [some (.ref (43 + 3)), some (.int x1), some (.int x2), some (.int x3), none] [.int x2, .int x1, .ref (43 + 3)] _ _ from ?_)
  obtain ⟨p5, hp5, h⟩ := zy_bind h
  refine zy_5 (c := 43) (as := [.int x1, .int x2]) (rest := []) (L := [some (.ref (43 + 3)), some (.int x1), some (.int x2)]) (d' := 3) rfl rfl rfl (Nat.le_of_ble_eq_true rfl) (Nat.le_of_ble_eq_true rfl) rfl (Nat.le_of_ble_eq_true rfl) rfl rfl (zyC184 hp5) ?_
  show zyR _ _ _ _ [some (.ref (43 + 3)), some (.int x1), some (.int x2), some (.int x3), none] [.int p5.1] _ _
  refine zy_23 rfl rfl (show zyR _ _ _ _ [some (.ref (43 + 3)), some (.int x1), some (.int x2), some (.int x3), some (.int p5.1)] [] _ _ from ?_)
  refine zy_2 rfl rfl (show zyR _ _ _ _ [some (.ref (43 + 3)), some (.int x1), some (.int x2), some (.int x3), some (.int p5.1)] [.int p5.1] _ _ from ?_)
  refine zy_24_2 rfl (fun b7 => (show zyR _ _ _ _ [some (.ref (43 + 3)), some (.int x1), some (.int x2), some (.int x3), some (.int p5.1)] [] _ _ from ?_)) (fun b7 => (show zyR _ _ _ _ [some (.ref (43 + 3)), some (.int x1), some (.int x2), some (.int x3), some (.int p5.1)] [] _ _ from ?_))
  · replace h := zy_ifp h b7
    refine zy_3 rfl rfl (show zyR _ _ _ _ [some (.ref (43 + 3)), some (.int x1), some (.int x2), some (.int x3), some (.int p5.1)] [.int (-1 : Int32)] _ _ from ?_)
    obtain ⟨rfl, rfl⟩ := zy_pi h
    exact zy_4 rfl ⟨rfl, rfl⟩
  · replace h := zy_ifn h b7
    refine zy_2 rfl rfl (show zyR _ _ _ _ [some (.ref (43 + 3)), some (.int x1), some (.int x2), some (.int x3), some (.int p5.1)] [.int x3] _ _ from ?_)
    refine zy_40 rfl (show zyR _ _ _ _ [some (.ref (43 + 3)), some (.int x1), some (.int x2), some (.int x3), some (.int p5.1)] [.long (x3).toInt64] _ _ from ?_)
    refine zy_2 rfl rfl (show zyR _ _ _ _ [some (.ref (43 + 3)), some (.int x1), some (.int x2), some (.int x3), some (.int p5.1)] [.int x2, .long (x3).toInt64] _ _ from ?_)
    refine zy_3 rfl rfl (show zyR _ _ _ _ [some (.ref (43 + 3)), some (.int x1), some (.int x2), some (.int x3), some (.int p5.1)] [.int (3 : Int32), .int x2, .long (x3).toInt64] _ _ from ?_)
    refine zy_25_1 rfl (fun b6 => (show zyR _ _ _ _ [some (.ref (43 + 3)), some (.int x1), some (.int x2), some (.int x3), some (.int p5.1)] [.long (x3).toInt64] _ _ from ?_)) (fun b6 => (show zyR _ _ _ _ [some (.ref (43 + 3)), some (.int x1), some (.int x2), some (.int x3), some (.int p5.1)] [.long (x3).toInt64] _ _ from ?_))
    · replace h := zy_ifp h b6
      refine zy_36 rfl rfl (show zyR _ _ _ _ [some (.ref (43 + 3)), some (.int x1), some (.int x2), some (.int x3), some (.int p5.1)] [.long (0 : Int64), .long (x3).toInt64] _ _ from ?_)
      exact zy_sub (show zy_le [some (.ref (43 + 3)), none, some (.int x2), some (.int x3), some (.int p5.1)] [some (.ref (43 + 3)), some (.int x1), some (.int x2), some (.int x3), some (.int p5.1)] from ⟨rfl, ⟨rfl, ⟨rfl, ⟨rfl, trivial⟩⟩⟩⟩) (zyC183_25 h)
    · replace h := zy_ifn h b6
      refine zy_36 rfl rfl (show zyR _ _ _ _ [some (.ref (43 + 3)), some (.int x1), some (.int x2), some (.int x3), some (.int p5.1)] [.long (1 : Int64), .long (x3).toInt64] _ _ from ?_)
      refine zy_6 rfl (show zyR _ _ _ _ [some (.ref (43 + 3)), some (.int x1), some (.int x2), some (.int x3), some (.int p5.1)] [.long (1 : Int64), .long (x3).toInt64] _ _ from ?_)
      exact zy_sub (show zy_le [some (.ref (43 + 3)), none, some (.int x2), some (.int x3), some (.int p5.1)] [some (.ref (43 + 3)), some (.int x1), some (.int x2), some (.int x3), some (.int p5.1)] from ⟨rfl, ⟨rfl, ⟨rfl, ⟨rfl, trivial⟩⟩⟩⟩) (zyC183_25 h)
/-! NineOpinionsModel.feed(I)I -/
noncomputable def zyF189   (x1 : Int32) (s : zy_S) : Option (Int32 × zy_S) :=
(zyF179 (x1).toInt64 (0 : Int64) (255 : Int64) s).bind fun p1 =>
if p1.1 ≠ 0 then
if (p1.2.1 43 9) ≠ (120 : Int32) then
if zy_in (p1.2.1 43 9) 120 then
some (((p1.2.1 43 9) + (1 : Int32)), (zy_up (zy_up p1.2 48 ((p1.2.1 43 9)).toNatClampNeg x1) 43 9 ((p1.2.1 43 9) + (1 : Int32))))
else none
else
some ((-3 : Int32), p1.2)
else
some ((-1 : Int32), p1.2)
theorem zyC189 {X : zx_X}     {x1 : Int32} {s : zy_S} {r : Int32} {s' : zy_S}  (h : zyF189 x1 s = some (r, s')) : zyR X 2 189 0 [some (.ref (43 + 3)), some (.int x1)] [] s (zyE (some (.int r)) s') := by
  unfold zyF189 at h
  refine zy_2 rfl rfl (show zyR _ _ _ _ [some (.ref (43 + 3)), some (.int x1)] [.int x1] _ _ from ?_)
  refine zy_40 rfl (show zyR _ _ _ _ [some (.ref (43 + 3)), some (.int x1)] [.long (x1).toInt64] _ _ from ?_)
  refine zy_36 rfl rfl (show zyR _ _ _ _ [some (.ref (43 + 3)), some (.int x1)] [.long (0 : Int64), .long (x1).toInt64] _ _ from ?_)
  refine zy_36c rfl rfl (show zyR _ _ _ _ [some (.ref (43 + 3)), some (.int x1)] [.long (255 : Int64), .long (0 : Int64), .long (x1).toInt64] _ _ from ?_)
  obtain ⟨p1, hp1, h⟩ := zy_bind h
  refine zy_60 (as := [.long (x1).toInt64, .long (0 : Int64), .long (255 : Int64)]) (rest := []) (L := [some (.long (x1).toInt64), none, some (.long (0 : Int64)), none, some (.long (255 : Int64)), none]) (d' := 1) rfl rfl (Nat.le_of_ble_eq_true rfl) (Nat.le_of_ble_eq_true rfl) rfl (Nat.le_of_ble_eq_true rfl) rfl rfl (zyC179 hp1) ?_
  show zyR _ _ _ _ [some (.ref (43 + 3)), some (.int x1)] [.int p1.1] _ _
  refine zy_24_1 rfl (fun b4 => (show zyR _ _ _ _ [some (.ref (43 + 3)), some (.int x1)] [] _ _ from ?_)) (fun b4 => (show zyR _ _ _ _ [some (.ref (43 + 3)), some (.int x1)] [] _ _ from ?_))
  · replace h := zy_ifp h b4
    refine zy_0 rfl rfl (show zyR _ _ _ _ [some (.ref (43 + 3)), some (.int x1)] [.ref (43 + 3)] _ _ from ?_)
    refine zy_1 (c := 43) rfl rfl rfl (show zyR _ _ _ _ [some (.ref (43 + 3)), some (.int x1)] [.int (p1.2.1 43 9)] _ _ from ?_)
    refine zy_3 rfl rfl (show zyR _ _ _ _ [some (.ref (43 + 3)), some (.int x1)] [.int (120 : Int32), .int (p1.2.1 43 9)] _ _ from ?_)
    refine zy_25_1 rfl (fun b3 => (show zyR _ _ _ _ [some (.ref (43 + 3)), some (.int x1)] [] _ _ from ?_)) (fun b3 => (show zyR _ _ _ _ [some (.ref (43 + 3)), some (.int x1)] [] _ _ from ?_))
    · replace h := zy_ifp h b3
      refine zy_0 rfl rfl (show zyR _ _ _ _ [some (.ref (43 + 3)), some (.int x1)] [.ref (43 + 3)] _ _ from ?_)
      refine zy_1r (c := 43) rfl rfl rfl (show zyR _ _ _ _ [some (.ref (43 + 3)), some (.int x1)] [.ref (48 + 3)] _ _ from ?_)
      refine zy_0 rfl rfl (show zyR _ _ _ _ [some (.ref (43 + 3)), some (.int x1)] [.ref (43 + 3), .ref (48 + 3)] _ _ from ?_)
      refine zy_1 (c := 43) rfl rfl rfl (show zyR _ _ _ _ [some (.ref (43 + 3)), some (.int x1)] [.int (p1.2.1 43 9), .ref (48 + 3)] _ _ from ?_)
      refine zy_2 rfl rfl (show zyR _ _ _ _ [some (.ref (43 + 3)), some (.int x1)] [.int x1, .int (p1.2.1 43 9), .ref (48 + 3)] _ _ from ?_)
      obtain ⟨c2, h⟩ := zy_if h
      refine zy_27 (c := 48) rfl rfl c2 (show zyR _ _ _ _ [some (.ref (43 + 3)), some (.int x1)] [] _ _ from ?_)
      refine zy_0 rfl rfl (show zyR _ _ _ _ [some (.ref (43 + 3)), some (.int x1)] [.ref (43 + 3)] _ _ from ?_)
      refine zy_33 rfl rfl (show zyR _ _ _ _ [some (.ref (43 + 3)), some (.int x1)] [.ref (43 + 3), .ref (43 + 3)] _ _ from ?_)
      refine zy_1 (c := 43) rfl rfl rfl (show zyR _ _ _ _ [some (.ref (43 + 3)), some (.int x1)] [.int (p1.2.1 43 9), .ref (43 + 3)] _ _ from ?_)
      refine zy_3 rfl rfl (show zyR _ _ _ _ [some (.ref (43 + 3)), some (.int x1)] [.int (1 : Int32), .int (p1.2.1 43 9), .ref (43 + 3)] _ _ from ?_)
      refine zy_10 rfl (show zyR _ _ _ _ [some (.ref (43 + 3)), some (.int x1)] [.int ((p1.2.1 43 9) + (1 : Int32)), .ref (43 + 3)] _ _ from ?_)
      refine zy_52 (c := 43) rfl rfl rfl (show zyR _ _ _ _ [some (.ref (43 + 3)), some (.int x1)] [] _ _ from ?_)
      refine zy_0 rfl rfl (show zyR _ _ _ _ [some (.ref (43 + 3)), some (.int x1)] [.ref (43 + 3)] _ _ from ?_)
      refine zy_1 (c := 43) rfl rfl rfl (show zyR _ _ _ _ [some (.ref (43 + 3)), some (.int x1)] [.int ((p1.2.1 43 9) + (1 : Int32))] _ _ from ?_)
      obtain ⟨rfl, rfl⟩ := zy_pi h
      exact zy_4 rfl ⟨rfl, rfl⟩
    · replace h := zy_ifn h b3
      refine zy_3 rfl rfl (show zyR _ _ _ _ [some (.ref (43 + 3)), some (.int x1)] [.int (-3 : Int32)] _ _ from ?_)
      obtain ⟨rfl, rfl⟩ := zy_pi h
      exact zy_4 rfl ⟨rfl, rfl⟩
  · replace h := zy_ifn h b4
    refine zy_3 rfl rfl (show zyR _ _ _ _ [some (.ref (43 + 3)), some (.int x1)] [.int (-1 : Int32)] _ _ from ?_)
    obtain ⟨rfl, rfl⟩ := zy_pi h
    exact zy_4 rfl ⟨rfl, rfl⟩
/-! NineOpinionsModel.isIn(II)Z -/
noncomputable def zyF208   (x0 : Int32) (x1 : Int32) (s : zy_S) : Option (Int32 × zy_S) :=
if ((x0 >>> (x1 &&& 31)) &&& (1 : Int32)) ≠ (1 : Int32) then
some ((0 : Int32), s)
else
some ((1 : Int32), s)
theorem zyC208 {X : zx_X}     {x0 : Int32} {x1 : Int32} {s : zy_S} {r : Int32} {s' : zy_S}  (h : zyF208 x0 x1 s = some (r, s')) : zyR X 1 208 0 [some (.int x0), some (.int x1)] [] s (zyE (some (.int r)) s') := by
  unfold zyF208 at h
  refine zy_2 rfl rfl (show zyR _ _ _ _ [some (.int x0), some (.int x1)] [.int x0] _ _ from ?_)
  refine zy_2 rfl rfl (show zyR _ _ _ _ [some (.int x0), some (.int x1)] [.int x1, .int x0] _ _ from ?_)
  refine zy_17 rfl (show zyR _ _ _ _ [some (.int x0), some (.int x1)] [.int (x0 >>> (x1 &&& 31))] _ _ from ?_)
  refine zy_3 rfl rfl (show zyR _ _ _ _ [some (.int x0), some (.int x1)] [.int (1 : Int32), .int (x0 >>> (x1 &&& 31))] _ _ from ?_)
  refine zy_13 rfl (show zyR _ _ _ _ [some (.int x0), some (.int x1)] [.int ((x0 >>> (x1 &&& 31)) &&& (1 : Int32))] _ _ from ?_)
  refine zy_3 rfl rfl (show zyR _ _ _ _ [some (.int x0), some (.int x1)] [.int (1 : Int32), .int ((x0 >>> (x1 &&& 31)) &&& (1 : Int32))] _ _ from ?_)
  refine zy_25_1 rfl (fun b1 => (show zyR _ _ _ _ [some (.int x0), some (.int x1)] [] _ _ from ?_)) (fun b1 => (show zyR _ _ _ _ [some (.int x0), some (.int x1)] [] _ _ from ?_))
  · replace h := zy_ifp h b1
    refine zy_3 rfl rfl (show zyR _ _ _ _ [some (.int x0), some (.int x1)] [.int (0 : Int32)] _ _ from ?_)
    cases h
    exact zy_4b rfl ⟨rfl, rfl⟩ (Or.inl rfl)
  · replace h := zy_ifn h b1
    refine zy_3 rfl rfl (show zyR _ _ _ _ [some (.int x0), some (.int x1)] [.int (1 : Int32)] _ _ from ?_)
    refine zy_6 rfl (show zyR _ _ _ _ [some (.int x0), some (.int x1)] [.int (1 : Int32)] _ _ from ?_)
    cases h
    exact zy_4b rfl ⟨rfl, rfl⟩ (Or.inr rfl)
/-! NineOpinionsModel.bitsOf(I)I -/
noncomputable def zyF209_4b  (k4 : Int32 → Int32 → Int32 → zy_S → Option (Int32 × zy_S)) (x0 : Int32) (x1 : Int32) (x2 : Int32) (s : zy_S) : Option (Int32 × zy_S) :=
if (24 : Int32) ≤ x2 then
some (x1, s)
else
k4 x0 (x1 + ((x0 >>> (x2 &&& 31)) &&& (1 : Int32))) (x2 + (1 : Int32)) s
theorem zyC209_4b {X : zx_X}  {k4 : Int32 → Int32 → Int32 → zy_S → Option (Int32 × zy_S)}  (hk4 : ∀ (x0 : Int32) (x1 : Int32) (x2 : Int32) (s : zy_S) (r : Int32) (s' : zy_S), k4 x0 x1 x2 s = some (r, s') → zyR X 1 209 4 [some (.int x0), some (.int x1), some (.int x2)] [] s (zyE (some (.int r)) s')) {x0 : Int32} {x1 : Int32} {x2 : Int32} {s : zy_S} {r : Int32} {s' : zy_S}  (h : zyF209_4b k4 x0 x1 x2 s = some (r, s')) : zyR X 1 209 4 [some (.int x0), some (.int x1), some (.int x2)] [] s (zyE (some (.int r)) s') := by
  unfold zyF209_4b at h
  refine zy_2 rfl rfl (show zyR _ _ _ _ [some (.int x0), some (.int x1), some (.int x2)] [.int x2] _ _ from ?_)
  refine zy_3 rfl rfl (show zyR _ _ _ _ [some (.int x0), some (.int x1), some (.int x2)] [.int (24 : Int32), .int x2] _ _ from ?_)
  refine zy_25_3 rfl (fun b1 => (show zyR _ _ _ _ [some (.int x0), some (.int x1), some (.int x2)] [] _ _ from ?_)) (fun b1 => (show zyR _ _ _ _ [some (.int x0), some (.int x1), some (.int x2)] [] _ _ from ?_))
  · replace h := zy_ifp h b1
    refine zy_2 rfl rfl (show zyR _ _ _ _ [some (.int x0), some (.int x1), some (.int x2)] [.int x1] _ _ from ?_)
    obtain ⟨rfl, rfl⟩ := zy_pi h
    exact zy_4 rfl ⟨rfl, rfl⟩
  · replace h := zy_ifn h b1
    refine zy_2 rfl rfl (show zyR _ _ _ _ [some (.int x0), some (.int x1), some (.int x2)] [.int x1] _ _ from ?_)
    refine zy_2 rfl rfl (show zyR _ _ _ _ [some (.int x0), some (.int x1), some (.int x2)] [.int x0, .int x1] _ _ from ?_)
    refine zy_2 rfl rfl (show zyR _ _ _ _ [some (.int x0), some (.int x1), some (.int x2)] [.int x2, .int x0, .int x1] _ _ from ?_)
    refine zy_17 rfl (show zyR _ _ _ _ [some (.int x0), some (.int x1), some (.int x2)] [.int (x0 >>> (x2 &&& 31)), .int x1] _ _ from ?_)
    refine zy_3 rfl rfl (show zyR _ _ _ _ [some (.int x0), some (.int x1), some (.int x2)] [.int (1 : Int32), .int (x0 >>> (x2 &&& 31)), .int x1] _ _ from ?_)
    refine zy_13 rfl (show zyR _ _ _ _ [some (.int x0), some (.int x1), some (.int x2)] [.int ((x0 >>> (x2 &&& 31)) &&& (1 : Int32)), .int x1] _ _ from ?_)
    refine zy_10 rfl (show zyR _ _ _ _ [some (.int x0), some (.int x1), some (.int x2)] [.int (x1 + ((x0 >>> (x2 &&& 31)) &&& (1 : Int32)))] _ _ from ?_)
    refine zy_23 rfl rfl (show zyR _ _ _ _ [some (.int x0), some (.int (x1 + ((x0 >>> (x2 &&& 31)) &&& (1 : Int32)))), some (.int x2)] [] _ _ from ?_)
    refine zy_22 rfl rfl rfl rfl (show zyR _ _ _ _ [some (.int x0), some (.int (x1 + ((x0 >>> (x2 &&& 31)) &&& (1 : Int32)))), some (.int (x2 + (1 : Int32)))] [] _ _ from ?_)
    refine zy_6 rfl (show zyR _ _ _ _ [some (.int x0), some (.int (x1 + ((x0 >>> (x2 &&& 31)) &&& (1 : Int32)))), some (.int (x2 + (1 : Int32)))] [] _ _ from ?_)
    exact zy_sub (show zy_le [some (.int x0), some (.int (x1 + ((x0 >>> (x2 &&& 31)) &&& (1 : Int32)))), some (.int (x2 + (1 : Int32)))] [some (.int x0), some (.int (x1 + ((x0 >>> (x2 &&& 31)) &&& (1 : Int32)))), some (.int (x2 + (1 : Int32)))] from ⟨rfl, ⟨rfl, ⟨rfl, trivial⟩⟩⟩) (hk4 x0 (x1 + ((x0 >>> (x2 &&& 31)) &&& (1 : Int32))) (x2 + (1 : Int32)) s _ _ h)
noncomputable def zyF209_4   (n : Nat) : Int32 → Int32 → Int32 → zy_S → Option (Int32 × zy_S) := Nat.rec (fun _ _ _ _ => none) (fun _ k4 => zyF209_4b k4) n
theorem zyC209_4 {X : zx_X}     : ∀ (n : Nat) (x0 : Int32) (x1 : Int32) (x2 : Int32) (s : zy_S) (r : Int32) (s' : zy_S), zyF209_4 n x0 x1 x2 s = some (r, s') → zyR X 1 209 4 [some (.int x0), some (.int x1), some (.int x2)] [] s (zyE (some (.int r)) s')
  | 0, _, _, _ => by
    intro s r s'  h
    have h : (none : Option (Int32 × zy_S)) = some (r, s') := h
    cases h
  | n + 1, x0, x1, x2 => by
    intro s r s'  h
    exact zyC209_4b (k4 := zyF209_4 n) (fun x0 x1 x2 s r s'  h => zyC209_4  n x0 x1 x2 s r s'  h) h
noncomputable def zyF209   (x0 : Int32) (s : zy_S) : Option (Int32 × zy_S) :=
zyF209_4 zy_fu x0 (0 : Int32) (0 : Int32) s
theorem zyC209 {X : zx_X}     {x0 : Int32} {s : zy_S} {r : Int32} {s' : zy_S}  (h : zyF209 x0 s = some (r, s')) : zyR X 1 209 0 [some (.int x0), none, none] [] s (zyE (some (.int r)) s') := by
  unfold zyF209 at h
  refine zy_3 rfl rfl (show zyR _ _ _ _ [some (.int x0), none, none] [.int (0 : Int32)] _ _ from ?_)
  refine zy_23 rfl rfl (show zyR _ _ _ _ [some (.int x0), some (.int (0 : Int32)), none] [] _ _ from ?_)
  refine zy_3 rfl rfl (show zyR _ _ _ _ [some (.int x0), some (.int (0 : Int32)), none] [.int (0 : Int32)] _ _ from ?_)
  refine zy_23 rfl rfl (show zyR _ _ _ _ [some (.int x0), some (.int (0 : Int32)), some (.int (0 : Int32))] [] _ _ from ?_)
  exact zy_sub (show zy_le [some (.int x0), some (.int (0 : Int32)), some (.int (0 : Int32))] [some (.int x0), some (.int (0 : Int32)), some (.int (0 : Int32))] from ⟨rfl, ⟨rfl, ⟨rfl, trivial⟩⟩⟩) (zyC209_4 zy_fu x0 (0 : Int32) (0 : Int32) s _ _ h)
/-! NineOpinionsModel.isRoom(I)Z -/
noncomputable def zyF219   (x1 : Int32) (s : zy_S) : Option (Int32 × zy_S) :=
(zyF209 x1 s).bind fun p1 =>
if (p1.2.1 44 40) ≤ p1.1 then
some ((0 : Int32), p1.2)
else
some ((1 : Int32), p1.2)
theorem zyC219 {X : zx_X}     {x1 : Int32} {s : zy_S} {r : Int32} {s' : zy_S}  (h : zyF219 x1 s = some (r, s')) : zyR X 2 219 0 [some (.ref (43 + 3)), some (.int x1)] [] s (zyE (some (.int r)) s') := by
  unfold zyF219 at h
  refine zy_2 rfl rfl (show zyR _ _ _ _ [some (.ref (43 + 3)), some (.int x1)] [.int x1] _ _ from ?_)
  obtain ⟨p1, hp1, h⟩ := zy_bind h
  refine zy_60 (as := [.int x1]) (rest := []) (L := [some (.int x1), none, none]) (d' := 1) rfl rfl (Nat.le_of_ble_eq_true rfl) (Nat.le_of_ble_eq_true rfl) rfl (Nat.le_of_ble_eq_true rfl) rfl rfl (zyC209 hp1) ?_
  show zyR _ _ _ _ [some (.ref (43 + 3)), some (.int x1)] [.int p1.1] _ _
  refine zy_0 rfl rfl (show zyR _ _ _ _ [some (.ref (43 + 3)), some (.int x1)] [.ref (43 + 3), .int p1.1] _ _ from ?_)
  refine zy_1r (c := 43) rfl rfl rfl (show zyR _ _ _ _ [some (.ref (43 + 3)), some (.int x1)] [.ref (44 + 3), .int p1.1] _ _ from ?_)
  refine zy_3 rfl rfl (show zyR _ _ _ _ [some (.ref (43 + 3)), some (.int x1)] [.int (40 : Int32), .ref (44 + 3), .int p1.1] _ _ from ?_)
  refine zy_26 (c := 44) rfl rfl (by decide) (show zyR _ _ _ _ [some (.ref (43 + 3)), some (.int x1)] [.int (p1.2.1 44 40), .int p1.1] _ _ from ?_)
  refine zy_25_3 rfl (fun b2 => (show zyR _ _ _ _ [some (.ref (43 + 3)), some (.int x1)] [] _ _ from ?_)) (fun b2 => (show zyR _ _ _ _ [some (.ref (43 + 3)), some (.int x1)] [] _ _ from ?_))
  · replace h := zy_ifp h b2
    refine zy_3 rfl rfl (show zyR _ _ _ _ [some (.ref (43 + 3)), some (.int x1)] [.int (0 : Int32)] _ _ from ?_)
    cases h
    exact zy_4b rfl ⟨rfl, rfl⟩ (Or.inl rfl)
  · replace h := zy_ifn h b2
    refine zy_3 rfl rfl (show zyR _ _ _ _ [some (.ref (43 + 3)), some (.int x1)] [.int (1 : Int32)] _ _ from ?_)
    refine zy_6 rfl (show zyR _ _ _ _ [some (.ref (43 + 3)), some (.int x1)] [.int (1 : Int32)] _ _ from ?_)
    cases h
    exact zy_4b rfl ⟨rfl, rfl⟩ (Or.inr rfl)
