/-! PART 41.03: methods as functions. Made by wip/v4/dcp.py. -/
/-! NineOpinions.won(II)I -/
noncomputable def zyF137   (x1 : Int32) (x2 : Int32) (s : zy_S) : Option (Int32 × zy_S) :=
(zyF25 (0 : Int32) x1 s).bind fun p1 =>
if p1.1 = 0 then
some ((-1 : Int32), p1.2)
else
(zyF26 x2 p1.2).bind fun p2 =>
if p2.1 ≠ 0 then
(zyF96 x1 x2 p2.2).bind fun p3 =>
if p3.1 = 0 then
(zyF138 x1 x2 p3.2).bind fun p4 =>
some (p4.1, p4.2)
else
some ((-5 : Int32), p3.2)
else
some ((-1 : Int32), p2.2)
theorem zyC137 {X : zx_X}     {x1 : Int32} {x2 : Int32} {s : zy_S} {r : Int32} {s' : zy_S}  (h : zyF137 x1 x2 s = some (r, s')) : zyR X 3 137 0 [some (.ref (0 + 3)), some (.int x1), some (.int x2)] [] s (zyE (some (.int r)) s') := by
  unfold zyF137 at h
  refine zy_0 rfl rfl (show zyR _ _ _ _ [some (.ref (0 + 3)), some (.int x1), some (.int x2)] [.ref (0 + 3)] _ _ from ?_)
  refine zy_1r (c := 0) rfl rfl rfl (show zyR _ _ _ _ [some (.ref (0 + 3)), some (.int x1), some (.int x2)] [.ref (1 + 3)] _ _ from ?_)
  refine zy_3 rfl rfl (show zyR _ _ _ _ [some (.ref (0 + 3)), some (.int x1), some (.int x2)] [.int (0 : Int32), .ref (1 + 3)] _ _ from ?_)
  refine zy_2 rfl rfl (show zyR _ _ _ _ [some (.ref (0 + 3)), some (.int x1), some (.int x2)] [.int x1, .int (0 : Int32), .ref (1 + 3)] _ _ from ?_)
  obtain ⟨p1, hp1, h⟩ := zy_bind h
  refine zy_5 (c := 1) (as := [.int (0 : Int32), .int x1]) (rest := []) (L := [some (.ref (1 + 3)), some (.int (0 : Int32)), some (.int x1)]) (d' := 2) rfl rfl rfl (Nat.le_of_ble_eq_true rfl) (Nat.le_of_ble_eq_true rfl) rfl (Nat.le_of_ble_eq_true rfl) rfl rfl (zyC25 hp1) ?_
  show zyR _ _ _ _ [some (.ref (0 + 3)), some (.int x1), some (.int x2)] [.int p1.1] _ _
  refine zy_24_0 rfl (fun b7 => (show zyR _ _ _ _ [some (.ref (0 + 3)), some (.int x1), some (.int x2)] [] _ _ from ?_)) (fun b7 => (show zyR _ _ _ _ [some (.ref (0 + 3)), some (.int x1), some (.int x2)] [] _ _ from ?_))
  · replace h := zy_ifp h b7
    refine zy_3 rfl rfl (show zyR _ _ _ _ [some (.ref (0 + 3)), some (.int x1), some (.int x2)] [.int (-1 : Int32)] _ _ from ?_)
    obtain ⟨rfl, rfl⟩ := zy_pi h
    exact zy_4 rfl ⟨rfl, rfl⟩
  · replace h := zy_ifn h b7
    refine zy_2 rfl rfl (show zyR _ _ _ _ [some (.ref (0 + 3)), some (.int x1), some (.int x2)] [.int x2] _ _ from ?_)
    obtain ⟨p2, hp2, h⟩ := zy_bind h
    refine zy_60 (as := [.int x2]) (rest := []) (L := [some (.int x2)]) (d' := 1) rfl rfl (Nat.le_of_ble_eq_true rfl) (Nat.le_of_ble_eq_true rfl) rfl (Nat.le_of_ble_eq_true rfl) rfl rfl (zyC26 hp2) ?_
    show zyR _ _ _ _ [some (.ref (0 + 3)), some (.int x1), some (.int x2)] [.int p2.1] _ _
    refine zy_24_1 rfl (fun b6 => (show zyR _ _ _ _ [some (.ref (0 + 3)), some (.int x1), some (.int x2)] [] _ _ from ?_)) (fun b6 => (show zyR _ _ _ _ [some (.ref (0 + 3)), some (.int x1), some (.int x2)] [] _ _ from ?_))
    · replace h := zy_ifp h b6
      refine zy_0 rfl rfl (show zyR _ _ _ _ [some (.ref (0 + 3)), some (.int x1), some (.int x2)] [.ref (0 + 3)] _ _ from ?_)
      refine zy_1r (c := 0) rfl rfl rfl (show zyR _ _ _ _ [some (.ref (0 + 3)), some (.int x1), some (.int x2)] [.ref (1 + 3)] _ _ from ?_)
      refine zy_2 rfl rfl (show zyR _ _ _ _ [some (.ref (0 + 3)), some (.int x1), some (.int x2)] [.int x1, .ref (1 + 3)] _ _ from ?_)
      refine zy_2 rfl rfl (show zyR _ _ _ _ [some (.ref (0 + 3)), some (.int x1), some (.int x2)] [.int x2, .int x1, .ref (1 + 3)] _ _ from ?_)
      obtain ⟨p3, hp3, h⟩ := zy_bind h
      refine zy_5 (c := 1) (as := [.int x1, .int x2]) (rest := []) (L := [some (.ref (1 + 3)), some (.int x1), some (.int x2)]) (d' := 2) rfl rfl rfl (Nat.le_of_ble_eq_true rfl) (Nat.le_of_ble_eq_true rfl) rfl (Nat.le_of_ble_eq_true rfl) rfl rfl (zyC96 hp3) ?_
      show zyR _ _ _ _ [some (.ref (0 + 3)), some (.int x1), some (.int x2)] [.int p3.1] _ _
      refine zy_24_0 rfl (fun b5 => (show zyR _ _ _ _ [some (.ref (0 + 3)), some (.int x1), some (.int x2)] [] _ _ from ?_)) (fun b5 => (show zyR _ _ _ _ [some (.ref (0 + 3)), some (.int x1), some (.int x2)] [] _ _ from ?_))
      · replace h := zy_ifp h b5
        refine zy_0 rfl rfl (show zyR _ _ _ _ [some (.ref (0 + 3)), some (.int x1), some (.int x2)] [.ref (0 + 3)] _ _ from ?_)
        refine zy_1r (c := 0) rfl rfl rfl (show zyR _ _ _ _ [some (.ref (0 + 3)), some (.int x1), some (.int x2)] [.ref (17 + 3)] _ _ from ?_)
        refine zy_2 rfl rfl (show zyR _ _ _ _ [some (.ref (0 + 3)), some (.int x1), some (.int x2)] [.int x1, .ref (17 + 3)] _ _ from ?_)
        refine zy_2 rfl rfl (show zyR _ _ _ _ [some (.ref (0 + 3)), some (.int x1), some (.int x2)] [.int x2, .int x1, .ref (17 + 3)] _ _ from ?_)
        obtain ⟨p4, hp4, h⟩ := zy_bind h
        refine zy_5 (c := 17) (as := [.int x1, .int x2]) (rest := []) (L := [some (.ref (17 + 3)), some (.int x1), some (.int x2), none]) (d' := 1) rfl rfl rfl (Nat.le_of_ble_eq_true rfl) (Nat.le_of_ble_eq_true rfl) rfl (Nat.le_of_ble_eq_true rfl) rfl rfl (zyC138 hp4) ?_
        show zyR _ _ _ _ [some (.ref (0 + 3)), some (.int x1), some (.int x2)] [.int p4.1] _ _
        obtain ⟨rfl, rfl⟩ := zy_pi h
        exact zy_4 rfl ⟨rfl, rfl⟩
      · replace h := zy_ifn h b5
        refine zy_3 rfl rfl (show zyR _ _ _ _ [some (.ref (0 + 3)), some (.int x1), some (.int x2)] [.int (-5 : Int32)] _ _ from ?_)
        refine zy_6 rfl (show zyR _ _ _ _ [some (.ref (0 + 3)), some (.int x1), some (.int x2)] [.int (-5 : Int32)] _ _ from ?_)
        obtain ⟨rfl, rfl⟩ := zy_pi h
        exact zy_4 rfl ⟨rfl, rfl⟩
    · replace h := zy_ifn h b6
      refine zy_3 rfl rfl (show zyR _ _ _ _ [some (.ref (0 + 3)), some (.int x1), some (.int x2)] [.int (-1 : Int32)] _ _ from ?_)
      obtain ⟨rfl, rfl⟩ := zy_pi h
      exact zy_4 rfl ⟨rfl, rfl⟩
/-! NineOpinions$Deeds.keepImage()V -/
noncomputable def zyF141    (s : zy_S) : Option (Int32 × zy_S) :=
some ((0 : Int32), (zy_ua (zy_ua (zy_ua (zy_up (zy_up (zy_up s 17 2 (1 : Int32)) 17 3 (s.1 1 3)) 17 4 (s.1 1 5)) 19 (va_cpy (s.1 2) (s.1 19) 0 0 24)) 20 (va_cpy (s.1 3) (s.1 20) 0 0 8)) 21 (va_cpy (s.1 18) (s.1 21) 0 0 5)))
theorem zyC141 {X : zx_X}      {s : zy_S} {r : Int32} {s' : zy_S}  (h : zyF141 s = some (r, s')) : zyR X 1 141 0 [some (.ref (17 + 3))] [] s (zyE none s') := by
  unfold zyF141 at h
  refine zy_0 rfl rfl (show zyR _ _ _ _ [some (.ref (17 + 3))] [.ref (17 + 3)] _ _ from ?_)
  refine zy_3 rfl rfl (show zyR _ _ _ _ [some (.ref (17 + 3))] [.int (1 : Int32), .ref (17 + 3)] _ _ from ?_)
  refine zy_52b (c := 17) rfl rfl rfl (Or.inr rfl) (show zyR _ _ _ _ [some (.ref (17 + 3))] [] _ _ from ?_)
  refine zy_0 rfl rfl (show zyR _ _ _ _ [some (.ref (17 + 3))] [.ref (17 + 3)] _ _ from ?_)
  refine zy_0 rfl rfl (show zyR _ _ _ _ [some (.ref (17 + 3))] [.ref (17 + 3), .ref (17 + 3)] _ _ from ?_)
  refine zy_1r (c := 17) rfl rfl rfl (show zyR _ _ _ _ [some (.ref (17 + 3))] [.ref (1 + 3), .ref (17 + 3)] _ _ from ?_)
  refine zy_1 (c := 1) rfl rfl rfl (show zyR _ _ _ _ [some (.ref (17 + 3))] [.int (s.1 1 3), .ref (17 + 3)] _ _ from ?_)
  refine zy_52 (c := 17) rfl rfl rfl (show zyR _ _ _ _ [some (.ref (17 + 3))] [] _ _ from ?_)
  refine zy_0 rfl rfl (show zyR _ _ _ _ [some (.ref (17 + 3))] [.ref (17 + 3)] _ _ from ?_)
  refine zy_0 rfl rfl (show zyR _ _ _ _ [some (.ref (17 + 3))] [.ref (17 + 3), .ref (17 + 3)] _ _ from ?_)
  refine zy_1r (c := 17) rfl rfl rfl (show zyR _ _ _ _ [some (.ref (17 + 3))] [.ref (1 + 3), .ref (17 + 3)] _ _ from ?_)
  refine zy_1 (c := 1) rfl rfl rfl (show zyR _ _ _ _ [some (.ref (17 + 3))] [.int (s.1 1 5), .ref (17 + 3)] _ _ from ?_)
  refine zy_52 (c := 17) rfl rfl rfl (show zyR _ _ _ _ [some (.ref (17 + 3))] [] _ _ from ?_)
  refine zy_0 rfl rfl (show zyR _ _ _ _ [some (.ref (17 + 3))] [.ref (17 + 3)] _ _ from ?_)
  refine zy_1r (c := 17) rfl rfl rfl (show zyR _ _ _ _ [some (.ref (17 + 3))] [.ref (1 + 3)] _ _ from ?_)
  refine zy_1r (c := 1) rfl rfl rfl (show zyR _ _ _ _ [some (.ref (17 + 3))] [.ref (2 + 3)] _ _ from ?_)
  refine zy_3 rfl rfl (show zyR _ _ _ _ [some (.ref (17 + 3))] [.int (0 : Int32), .ref (2 + 3)] _ _ from ?_)
  refine zy_0 rfl rfl (show zyR _ _ _ _ [some (.ref (17 + 3))] [.ref (17 + 3), .int (0 : Int32), .ref (2 + 3)] _ _ from ?_)
  refine zy_1r (c := 17) rfl rfl rfl (show zyR _ _ _ _ [some (.ref (17 + 3))] [.ref (19 + 3), .int (0 : Int32), .ref (2 + 3)] _ _ from ?_)
  refine zy_3 rfl rfl (show zyR _ _ _ _ [some (.ref (17 + 3))] [.int (0 : Int32), .ref (19 + 3), .int (0 : Int32), .ref (2 + 3)] _ _ from ?_)
  refine zy_3 rfl rfl (show zyR _ _ _ _ [some (.ref (17 + 3))] [.int (24 : Int32), .int (0 : Int32), .ref (19 + 3), .int (0 : Int32), .ref (2 + 3)] _ _ from ?_)
  refine zy_64 (c0 := 2) (c1 := 19) rfl rfl rfl (by decide) (Nat.le_of_ble_eq_true rfl) (Nat.le_of_ble_eq_true rfl) (show zyR _ _ _ _ [some (.ref (17 + 3))] [] _ _ from ?_)
  refine zy_0 rfl rfl (show zyR _ _ _ _ [some (.ref (17 + 3))] [.ref (17 + 3)] _ _ from ?_)
  refine zy_1r (c := 17) rfl rfl rfl (show zyR _ _ _ _ [some (.ref (17 + 3))] [.ref (1 + 3)] _ _ from ?_)
  refine zy_1r (c := 1) rfl rfl rfl (show zyR _ _ _ _ [some (.ref (17 + 3))] [.ref (3 + 3)] _ _ from ?_)
  refine zy_3 rfl rfl (show zyR _ _ _ _ [some (.ref (17 + 3))] [.int (0 : Int32), .ref (3 + 3)] _ _ from ?_)
  refine zy_0 rfl rfl (show zyR _ _ _ _ [some (.ref (17 + 3))] [.ref (17 + 3), .int (0 : Int32), .ref (3 + 3)] _ _ from ?_)
  refine zy_1r (c := 17) rfl rfl rfl (show zyR _ _ _ _ [some (.ref (17 + 3))] [.ref (20 + 3), .int (0 : Int32), .ref (3 + 3)] _ _ from ?_)
  refine zy_3 rfl rfl (show zyR _ _ _ _ [some (.ref (17 + 3))] [.int (0 : Int32), .ref (20 + 3), .int (0 : Int32), .ref (3 + 3)] _ _ from ?_)
  refine zy_3 rfl rfl (show zyR _ _ _ _ [some (.ref (17 + 3))] [.int (8 : Int32), .int (0 : Int32), .ref (20 + 3), .int (0 : Int32), .ref (3 + 3)] _ _ from ?_)
  refine zy_64 (c0 := 3) (c1 := 20) rfl rfl rfl (by decide) (Nat.le_of_ble_eq_true rfl) (Nat.le_of_ble_eq_true rfl) (show zyR _ _ _ _ [some (.ref (17 + 3))] [] _ _ from ?_)
  refine zy_0 rfl rfl (show zyR _ _ _ _ [some (.ref (17 + 3))] [.ref (17 + 3)] _ _ from ?_)
  refine zy_1r (c := 17) rfl rfl rfl (show zyR _ _ _ _ [some (.ref (17 + 3))] [.ref (18 + 3)] _ _ from ?_)
  refine zy_3 rfl rfl (show zyR _ _ _ _ [some (.ref (17 + 3))] [.int (0 : Int32), .ref (18 + 3)] _ _ from ?_)
  refine zy_0 rfl rfl (show zyR _ _ _ _ [some (.ref (17 + 3))] [.ref (17 + 3), .int (0 : Int32), .ref (18 + 3)] _ _ from ?_)
  refine zy_1r (c := 17) rfl rfl rfl (show zyR _ _ _ _ [some (.ref (17 + 3))] [.ref (21 + 3), .int (0 : Int32), .ref (18 + 3)] _ _ from ?_)
  refine zy_3 rfl rfl (show zyR _ _ _ _ [some (.ref (17 + 3))] [.int (0 : Int32), .ref (21 + 3), .int (0 : Int32), .ref (18 + 3)] _ _ from ?_)
  refine zy_3 rfl rfl (show zyR _ _ _ _ [some (.ref (17 + 3))] [.int (5 : Int32), .int (0 : Int32), .ref (21 + 3), .int (0 : Int32), .ref (18 + 3)] _ _ from ?_)
  refine zy_64 (c0 := 18) (c1 := 21) rfl rfl rfl (by decide) (Nat.le_of_ble_eq_true rfl) (Nat.le_of_ble_eq_true rfl) (show zyR _ _ _ _ [some (.ref (17 + 3))] [] _ _ from ?_)
  cases h
  exact zy_66 rfl ⟨rfl, rfl⟩
/-! NineOpinions.image()I -/
noncomputable def zyF140    (s : zy_S) : Option (Int32 × zy_S) :=
(zyF141 s).bind fun p1 =>
(zyF92 p1.2).bind fun p2 =>
some (p2.1, p2.2)
theorem zyC140 {X : zx_X}      {s : zy_S} {r : Int32} {s' : zy_S}  (h : zyF140 s = some (r, s')) : zyR X 3 140 0 [some (.ref (0 + 3))] [] s (zyE (some (.int r)) s') := by
  unfold zyF140 at h
  refine zy_0 rfl rfl (show zyR _ _ _ _ [some (.ref (0 + 3))] [.ref (0 + 3)] _ _ from ?_)
  refine zy_1r (c := 0) rfl rfl rfl (show zyR _ _ _ _ [some (.ref (0 + 3))] [.ref (17 + 3)] _ _ from ?_)
  obtain ⟨p1, hp1, h⟩ := zy_bind h
  refine zy_5 (c := 17) (as := []) (rest := []) (L := [some (.ref (17 + 3))]) (d' := 1) rfl rfl rfl (Nat.le_of_ble_eq_true rfl) (Nat.le_of_ble_eq_true rfl) rfl (Nat.le_of_ble_eq_true rfl) rfl rfl (zyC141 hp1) ?_
  show zyR _ _ _ _ [some (.ref (0 + 3))] [] _ _
  refine zy_0 rfl rfl (show zyR _ _ _ _ [some (.ref (0 + 3))] [.ref (0 + 3)] _ _ from ?_)
  refine zy_1r (c := 0) rfl rfl rfl (show zyR _ _ _ _ [some (.ref (0 + 3))] [.ref (1 + 3)] _ _ from ?_)
  obtain ⟨p2, hp2, h⟩ := zy_bind h
  refine zy_5 (c := 1) (as := []) (rest := []) (L := [some (.ref (1 + 3))]) (d' := 2) rfl rfl rfl (Nat.le_of_ble_eq_true rfl) (Nat.le_of_ble_eq_true rfl) rfl (Nat.le_of_ble_eq_true rfl) rfl rfl (zyC92 hp2) ?_
  show zyR _ _ _ _ [some (.ref (0 + 3))] [.int p2.1] _ _
  obtain ⟨rfl, rfl⟩ := zy_pi h
  exact zy_4 rfl ⟨rfl, rfl⟩
/-! NineOpinions$Deeds.layBack()V -/
noncomputable def zyF143    (s : zy_S) : Option (Int32 × zy_S) :=
if zy_cpB (0 : Int32) (0 : Int32) (s.1 17 4) 8 8 then
some ((0 : Int32), (zy_ua (zy_ua (zy_ua (zy_up s 1 3 (s.1 17 3)) 2 (va_cpy (s.1 19) (s.1 2) 0 0 24)) 3 (va_cpy (s.1 20) (s.1 3) 0 0 ((s.1 17 4)).toNatClampNeg)) 18 (va_cpy (s.1 21) (s.1 18) 0 0 5)))
else none
theorem zyC143 {X : zx_X}      {s : zy_S} {r : Int32} {s' : zy_S}  (h : zyF143 s = some (r, s')) : zyR X 1 143 0 [some (.ref (17 + 3))] [] s (zyE none s') := by
  unfold zyF143 at h
  refine zy_0 rfl rfl (show zyR _ _ _ _ [some (.ref (17 + 3))] [.ref (17 + 3)] _ _ from ?_)
  refine zy_1r (c := 17) rfl rfl rfl (show zyR _ _ _ _ [some (.ref (17 + 3))] [.ref (1 + 3)] _ _ from ?_)
  refine zy_0 rfl rfl (show zyR _ _ _ _ [some (.ref (17 + 3))] [.ref (17 + 3), .ref (1 + 3)] _ _ from ?_)
  refine zy_1 (c := 17) rfl rfl rfl (show zyR _ _ _ _ [some (.ref (17 + 3))] [.int (s.1 17 3), .ref (1 + 3)] _ _ from ?_)
  refine zy_52 (c := 1) rfl rfl rfl (show zyR _ _ _ _ [some (.ref (17 + 3))] [] _ _ from ?_)
  refine zy_0 rfl rfl (show zyR _ _ _ _ [some (.ref (17 + 3))] [.ref (17 + 3)] _ _ from ?_)
  refine zy_1r (c := 17) rfl rfl rfl (show zyR _ _ _ _ [some (.ref (17 + 3))] [.ref (19 + 3)] _ _ from ?_)
  refine zy_3 rfl rfl (show zyR _ _ _ _ [some (.ref (17 + 3))] [.int (0 : Int32), .ref (19 + 3)] _ _ from ?_)
  refine zy_0 rfl rfl (show zyR _ _ _ _ [some (.ref (17 + 3))] [.ref (17 + 3), .int (0 : Int32), .ref (19 + 3)] _ _ from ?_)
  refine zy_1r (c := 17) rfl rfl rfl (show zyR _ _ _ _ [some (.ref (17 + 3))] [.ref (1 + 3), .int (0 : Int32), .ref (19 + 3)] _ _ from ?_)
  refine zy_1r (c := 1) rfl rfl rfl (show zyR _ _ _ _ [some (.ref (17 + 3))] [.ref (2 + 3), .int (0 : Int32), .ref (19 + 3)] _ _ from ?_)
  refine zy_3 rfl rfl (show zyR _ _ _ _ [some (.ref (17 + 3))] [.int (0 : Int32), .ref (2 + 3), .int (0 : Int32), .ref (19 + 3)] _ _ from ?_)
  refine zy_3 rfl rfl (show zyR _ _ _ _ [some (.ref (17 + 3))] [.int (24 : Int32), .int (0 : Int32), .ref (2 + 3), .int (0 : Int32), .ref (19 + 3)] _ _ from ?_)
  refine zy_64 (c0 := 19) (c1 := 2) rfl rfl rfl (by decide) (Nat.le_of_ble_eq_true rfl) (Nat.le_of_ble_eq_true rfl) (show zyR _ _ _ _ [some (.ref (17 + 3))] [] _ _ from ?_)
  refine zy_0 rfl rfl (show zyR _ _ _ _ [some (.ref (17 + 3))] [.ref (17 + 3)] _ _ from ?_)
  refine zy_1r (c := 17) rfl rfl rfl (show zyR _ _ _ _ [some (.ref (17 + 3))] [.ref (20 + 3)] _ _ from ?_)
  refine zy_3 rfl rfl (show zyR _ _ _ _ [some (.ref (17 + 3))] [.int (0 : Int32), .ref (20 + 3)] _ _ from ?_)
  refine zy_0 rfl rfl (show zyR _ _ _ _ [some (.ref (17 + 3))] [.ref (17 + 3), .int (0 : Int32), .ref (20 + 3)] _ _ from ?_)
  refine zy_1r (c := 17) rfl rfl rfl (show zyR _ _ _ _ [some (.ref (17 + 3))] [.ref (1 + 3), .int (0 : Int32), .ref (20 + 3)] _ _ from ?_)
  refine zy_1r (c := 1) rfl rfl rfl (show zyR _ _ _ _ [some (.ref (17 + 3))] [.ref (3 + 3), .int (0 : Int32), .ref (20 + 3)] _ _ from ?_)
  refine zy_3 rfl rfl (show zyR _ _ _ _ [some (.ref (17 + 3))] [.int (0 : Int32), .ref (3 + 3), .int (0 : Int32), .ref (20 + 3)] _ _ from ?_)
  refine zy_0 rfl rfl (show zyR _ _ _ _ [some (.ref (17 + 3))] [.ref (17 + 3), .int (0 : Int32), .ref (3 + 3), .int (0 : Int32), .ref (20 + 3)] _ _ from ?_)
  refine zy_1 (c := 17) rfl rfl rfl (show zyR _ _ _ _ [some (.ref (17 + 3))] [.int (s.1 17 4), .int (0 : Int32), .ref (3 + 3), .int (0 : Int32), .ref (20 + 3)] _ _ from ?_)
  obtain ⟨c1, h⟩ := zy_if h
  refine zy_64 (c0 := 20) (c1 := 3) rfl rfl rfl c1 (Nat.le_of_ble_eq_true rfl) (Nat.le_of_ble_eq_true rfl) (show zyR _ _ _ _ [some (.ref (17 + 3))] [] _ _ from ?_)
  refine zy_0 rfl rfl (show zyR _ _ _ _ [some (.ref (17 + 3))] [.ref (17 + 3)] _ _ from ?_)
  refine zy_1r (c := 17) rfl rfl rfl (show zyR _ _ _ _ [some (.ref (17 + 3))] [.ref (21 + 3)] _ _ from ?_)
  refine zy_3 rfl rfl (show zyR _ _ _ _ [some (.ref (17 + 3))] [.int (0 : Int32), .ref (21 + 3)] _ _ from ?_)
  refine zy_0 rfl rfl (show zyR _ _ _ _ [some (.ref (17 + 3))] [.ref (17 + 3), .int (0 : Int32), .ref (21 + 3)] _ _ from ?_)
  refine zy_1r (c := 17) rfl rfl rfl (show zyR _ _ _ _ [some (.ref (17 + 3))] [.ref (18 + 3), .int (0 : Int32), .ref (21 + 3)] _ _ from ?_)
  refine zy_3 rfl rfl (show zyR _ _ _ _ [some (.ref (17 + 3))] [.int (0 : Int32), .ref (18 + 3), .int (0 : Int32), .ref (21 + 3)] _ _ from ?_)
  refine zy_3 rfl rfl (show zyR _ _ _ _ [some (.ref (17 + 3))] [.int (5 : Int32), .int (0 : Int32), .ref (18 + 3), .int (0 : Int32), .ref (21 + 3)] _ _ from ?_)
  refine zy_64 (c0 := 21) (c1 := 18) rfl rfl rfl (by decide) (Nat.le_of_ble_eq_true rfl) (Nat.le_of_ble_eq_true rfl) (show zyR _ _ _ _ [some (.ref (17 + 3))] [] _ _ from ?_)
  cases h
  exact zy_66 rfl ⟨rfl, rfl⟩
/-! NineOpinions.back()I -/
noncomputable def zyF142    (s : zy_S) : Option (Int32 × zy_S) :=
if (s.1 17 2) ≠ 0 then
(zyF143 s).bind fun p1 =>
(zyF92 p1.2).bind fun p2 =>
some (p2.1, p2.2)
else
some ((-5 : Int32), s)
theorem zyC142 {X : zx_X}      {s : zy_S} {r : Int32} {s' : zy_S}  (h : zyF142 s = some (r, s')) : zyR X 3 142 0 [some (.ref (0 + 3))] [] s (zyE (some (.int r)) s') := by
  unfold zyF142 at h
  refine zy_0 rfl rfl (show zyR _ _ _ _ [some (.ref (0 + 3))] [.ref (0 + 3)] _ _ from ?_)
  refine zy_1r (c := 0) rfl rfl rfl (show zyR _ _ _ _ [some (.ref (0 + 3))] [.ref (17 + 3)] _ _ from ?_)
  refine zy_1 (c := 17) rfl rfl rfl (show zyR _ _ _ _ [some (.ref (0 + 3))] [.int (s.1 17 2)] _ _ from ?_)
  refine zy_24_1 rfl (fun b3 => (show zyR _ _ _ _ [some (.ref (0 + 3))] [] _ _ from ?_)) (fun b3 => (show zyR _ _ _ _ [some (.ref (0 + 3))] [] _ _ from ?_))
  · replace h := zy_ifp h b3
    refine zy_0 rfl rfl (show zyR _ _ _ _ [some (.ref (0 + 3))] [.ref (0 + 3)] _ _ from ?_)
    refine zy_1r (c := 0) rfl rfl rfl (show zyR _ _ _ _ [some (.ref (0 + 3))] [.ref (17 + 3)] _ _ from ?_)
    obtain ⟨p1, hp1, h⟩ := zy_bind h
    refine zy_5 (c := 17) (as := []) (rest := []) (L := [some (.ref (17 + 3))]) (d' := 1) rfl rfl rfl (Nat.le_of_ble_eq_true rfl) (Nat.le_of_ble_eq_true rfl) rfl (Nat.le_of_ble_eq_true rfl) rfl rfl (zyC143 hp1) ?_
    show zyR _ _ _ _ [some (.ref (0 + 3))] [] _ _
    refine zy_0 rfl rfl (show zyR _ _ _ _ [some (.ref (0 + 3))] [.ref (0 + 3)] _ _ from ?_)
    refine zy_1r (c := 0) rfl rfl rfl (show zyR _ _ _ _ [some (.ref (0 + 3))] [.ref (1 + 3)] _ _ from ?_)
    obtain ⟨p2, hp2, h⟩ := zy_bind h
    refine zy_5 (c := 1) (as := []) (rest := []) (L := [some (.ref (1 + 3))]) (d' := 2) rfl rfl rfl (Nat.le_of_ble_eq_true rfl) (Nat.le_of_ble_eq_true rfl) rfl (Nat.le_of_ble_eq_true rfl) rfl rfl (zyC92 hp2) ?_
    show zyR _ _ _ _ [some (.ref (0 + 3))] [.int p2.1] _ _
    obtain ⟨rfl, rfl⟩ := zy_pi h
    exact zy_4 rfl ⟨rfl, rfl⟩
  · replace h := zy_ifn h b3
    refine zy_3 rfl rfl (show zyR _ _ _ _ [some (.ref (0 + 3))] [.int (-5 : Int32)] _ _ from ?_)
    obtain ⟨rfl, rfl⟩ := zy_pi h
    exact zy_4 rfl ⟨rfl, rfl⟩
/-! NineOpinions$Changes.undoLatest()I -/
noncomputable def zyF145    (s : zy_S) : Option (Int32 × zy_S) :=
if zy_in ((s.1 22 5) - (1 : Int32)) 40 then
if zy_in ((s.1 22 5) - (1 : Int32)) 40 then
if zy_in ((s.1 22 5) - (1 : Int32)) 40 then
(zyF28 (s.1 23 (((s.1 22 5) - (1 : Int32))).toNatClampNeg) (s.1 24 (((s.1 22 5) - (1 : Int32))).toNatClampNeg) (s.1 25 (((s.1 22 5) - (1 : Int32))).toNatClampNeg) (zy_up s 22 5 ((s.1 22 5) - (1 : Int32)))).bind fun p4 =>
some ((p4.2.1 22 5), p4.2)
else none
else none
else none
theorem zyC145 {X : zx_X}      {s : zy_S} {r : Int32} {s' : zy_S}  (h : zyF145 s = some (r, s')) : zyR X 2 145 0 [some (.ref (22 + 3))] [] s (zyE (some (.int r)) s') := by
  unfold zyF145 at h
  refine zy_0 rfl rfl (show zyR _ _ _ _ [some (.ref (22 + 3))] [.ref (22 + 3)] _ _ from ?_)
  refine zy_33 rfl rfl (show zyR _ _ _ _ [some (.ref (22 + 3))] [.ref (22 + 3), .ref (22 + 3)] _ _ from ?_)
  refine zy_1 (c := 22) rfl rfl rfl (show zyR _ _ _ _ [some (.ref (22 + 3))] [.int (s.1 22 5), .ref (22 + 3)] _ _ from ?_)
  refine zy_3 rfl rfl (show zyR _ _ _ _ [some (.ref (22 + 3))] [.int (1 : Int32), .int (s.1 22 5), .ref (22 + 3)] _ _ from ?_)
  refine zy_11 rfl (show zyR _ _ _ _ [some (.ref (22 + 3))] [.int ((s.1 22 5) - (1 : Int32)), .ref (22 + 3)] _ _ from ?_)
  refine zy_52 (c := 22) rfl rfl rfl (show zyR _ _ _ _ [some (.ref (22 + 3))] [] _ _ from ?_)
  refine zy_0 rfl rfl (show zyR _ _ _ _ [some (.ref (22 + 3))] [.ref (22 + 3)] _ _ from ?_)
  refine zy_1r (c := 22) rfl rfl rfl (show zyR _ _ _ _ [some (.ref (22 + 3))] [.ref (1 + 3)] _ _ from ?_)
  refine zy_0 rfl rfl (show zyR _ _ _ _ [some (.ref (22 + 3))] [.ref (22 + 3), .ref (1 + 3)] _ _ from ?_)
  refine zy_1r (c := 22) rfl rfl rfl (show zyR _ _ _ _ [some (.ref (22 + 3))] [.ref (23 + 3), .ref (1 + 3)] _ _ from ?_)
  refine zy_0 rfl rfl (show zyR _ _ _ _ [some (.ref (22 + 3))] [.ref (22 + 3), .ref (23 + 3), .ref (1 + 3)] _ _ from ?_)
  refine zy_1 (c := 22) rfl rfl rfl (show zyR _ _ _ _ [some (.ref (22 + 3))] [.int ((s.1 22 5) - (1 : Int32)), .ref (23 + 3), .ref (1 + 3)] _ _ from ?_)
  obtain ⟨c1, h⟩ := zy_if h
  refine zy_26 (c := 23) rfl rfl c1 (show zyR _ _ _ _ [some (.ref (22 + 3))] [.int (s.1 23 (((s.1 22 5) - (1 : Int32))).toNatClampNeg), .ref (1 + 3)] _ _ from ?_)
  refine zy_0 rfl rfl (show zyR _ _ _ _ [some (.ref (22 + 3))] [.ref (22 + 3), .int (s.1 23 (((s.1 22 5) - (1 : Int32))).toNatClampNeg), .ref (1 + 3)] _ _ from ?_)
  refine zy_1r (c := 22) rfl rfl rfl (show zyR _ _ _ _ [some (.ref (22 + 3))] [.ref (24 + 3), .int (s.1 23 (((s.1 22 5) - (1 : Int32))).toNatClampNeg), .ref (1 + 3)] _ _ from ?_)
  refine zy_0 rfl rfl (show zyR _ _ _ _ [some (.ref (22 + 3))] [.ref (22 + 3), .ref (24 + 3), .int (s.1 23 (((s.1 22 5) - (1 : Int32))).toNatClampNeg), .ref (1 + 3)] _ _ from ?_)
  refine zy_1 (c := 22) rfl rfl rfl (show zyR _ _ _ _ [some (.ref (22 + 3))] [.int ((s.1 22 5) - (1 : Int32)), .ref (24 + 3), .int (s.1 23 (((s.1 22 5) - (1 : Int32))).toNatClampNeg), .ref (1 + 3)] _ _ from ?_)
  obtain ⟨c2, h⟩ := zy_if h
  refine zy_26 (c := 24) rfl rfl c2 (show zyR _ _ _ _ [some (.ref (22 + 3))] [.int (s.1 24 (((s.1 22 5) - (1 : Int32))).toNatClampNeg), .int (s.1 23 (((s.1 22 5) - (1 : Int32))).toNatClampNeg), .ref (1 + 3)] _ _ from ?_)
  refine zy_0 rfl rfl (show zyR _ _ _ _ [some (.ref (22 + 3))] [.ref (22 + 3), .int (s.1 24 (((s.1 22 5) - (1 : Int32))).toNatClampNeg), .int (s.1 23 (((s.1 22 5) - (1 : Int32))).toNatClampNeg), .ref (1 + 3)] _ _ from ?_)
  refine zy_1r (c := 22) rfl rfl rfl (show zyR _ _ _ _ [some (.ref (22 + 3))] [.ref (25 + 3), .int (s.1 24 (((s.1 22 5) - (1 : Int32))).toNatClampNeg), .int (s.1 23 (((s.1 22 5) - (1 : Int32))).toNatClampNeg), .ref (1 + 3)] _ _ from ?_)
  refine zy_0 rfl rfl (show zyR _ _ _ _ [some (.ref (22 + 3))] [.ref (22 + 3), .ref (25 + 3), .int (s.1 24 (((s.1 22 5) - (1 : Int32))).toNatClampNeg), .int (s.1 23 (((s.1 22 5) - (1 : Int32))).toNatClampNeg), .ref (1 + 3)] _ _ from ?_)
  refine zy_1 (c := 22) rfl rfl rfl (show zyR _ _ _ _ [some (.ref (22 + 3))] [.int ((s.1 22 5) - (1 : Int32)), .ref (25 + 3), .int (s.1 24 (((s.1 22 5) - (1 : Int32))).toNatClampNeg), .int (s.1 23 (((s.1 22 5) - (1 : Int32))).toNatClampNeg), .ref (1 + 3)] _ _ from ?_)
  obtain ⟨c3, h⟩ := zy_if h
  refine zy_26 (c := 25) rfl rfl c3 (show zyR _ _ _ _ [some (.ref (22 + 3))] [.int (s.1 25 (((s.1 22 5) - (1 : Int32))).toNatClampNeg), .int (s.1 24 (((s.1 22 5) - (1 : Int32))).toNatClampNeg), .int (s.1 23 (((s.1 22 5) - (1 : Int32))).toNatClampNeg), .ref (1 + 3)] _ _ from ?_)
  obtain ⟨p4, hp4, h⟩ := zy_bind h
  refine zy_5 (c := 1) (as := [.int (s.1 23 (((s.1 22 5) - (1 : Int32))).toNatClampNeg), .int (s.1 24 (((s.1 22 5) - (1 : Int32))).toNatClampNeg), .int (s.1 25 (((s.1 22 5) - (1 : Int32))).toNatClampNeg)]) (rest := []) (L := [some (.ref (1 + 3)), some (.int (s.1 23 (((s.1 22 5) - (1 : Int32))).toNatClampNeg)), some (.int (s.1 24 (((s.1 22 5) - (1 : Int32))).toNatClampNeg)), some (.int (s.1 25 (((s.1 22 5) - (1 : Int32))).toNatClampNeg))]) (d' := 1) rfl rfl rfl (Nat.le_of_ble_eq_true rfl) (Nat.le_of_ble_eq_true rfl) rfl (Nat.le_of_ble_eq_true rfl) rfl rfl (zyC28 hp4) ?_
  show zyR _ _ _ _ [some (.ref (22 + 3))] [] _ _
  refine zy_0 rfl rfl (show zyR _ _ _ _ [some (.ref (22 + 3))] [.ref (22 + 3)] _ _ from ?_)
  refine zy_1 (c := 22) rfl rfl rfl (show zyR _ _ _ _ [some (.ref (22 + 3))] [.int (p4.2.1 22 5)] _ _ from ?_)
  obtain ⟨rfl, rfl⟩ := zy_pi h
  exact zy_4 rfl ⟨rfl, rfl⟩
/-! NineOpinions.undo()I -/
noncomputable def zyF144    (s : zy_S) : Option (Int32 × zy_S) :=
if (s.1 22 5) ≤ 0 then
some ((-5 : Int32), s)
else
(zyF145 s).bind fun p1 =>
some (p1.1, p1.2)
theorem zyC144 {X : zx_X}      {s : zy_S} {r : Int32} {s' : zy_S}  (h : zyF144 s = some (r, s')) : zyR X 3 144 0 [some (.ref (0 + 3))] [] s (zyE (some (.int r)) s') := by
  unfold zyF144 at h
  refine zy_0 rfl rfl (show zyR _ _ _ _ [some (.ref (0 + 3))] [.ref (0 + 3)] _ _ from ?_)
  refine zy_1r (c := 0) rfl rfl rfl (show zyR _ _ _ _ [some (.ref (0 + 3))] [.ref (22 + 3)] _ _ from ?_)
  refine zy_1 (c := 22) rfl rfl rfl (show zyR _ _ _ _ [some (.ref (0 + 3))] [.int (s.1 22 5)] _ _ from ?_)
  refine zy_24_5 rfl (fun b2 => (show zyR _ _ _ _ [some (.ref (0 + 3))] [] _ _ from ?_)) (fun b2 => (show zyR _ _ _ _ [some (.ref (0 + 3))] [] _ _ from ?_))
  · replace h := zy_ifp h b2
    refine zy_3 rfl rfl (show zyR _ _ _ _ [some (.ref (0 + 3))] [.int (-5 : Int32)] _ _ from ?_)
    obtain ⟨rfl, rfl⟩ := zy_pi h
    exact zy_4 rfl ⟨rfl, rfl⟩
  · replace h := zy_ifn h b2
    refine zy_0 rfl rfl (show zyR _ _ _ _ [some (.ref (0 + 3))] [.ref (0 + 3)] _ _ from ?_)
    refine zy_1r (c := 0) rfl rfl rfl (show zyR _ _ _ _ [some (.ref (0 + 3))] [.ref (22 + 3)] _ _ from ?_)
    obtain ⟨p1, hp1, h⟩ := zy_bind h
    refine zy_5 (c := 22) (as := []) (rest := []) (L := [some (.ref (22 + 3))]) (d' := 2) rfl rfl rfl (Nat.le_of_ble_eq_true rfl) (Nat.le_of_ble_eq_true rfl) rfl (Nat.le_of_ble_eq_true rfl) rfl rfl (zyC145 hp1) ?_
    show zyR _ _ _ _ [some (.ref (0 + 3))] [.int p1.1] _ _
    refine zy_6 rfl (show zyR _ _ _ _ [some (.ref (0 + 3))] [.int p1.1] _ _ from ?_)
    obtain ⟨rfl, rfl⟩ := zy_pi h
    exact zy_4 rfl ⟨rfl, rfl⟩
/-! NineOpinions$Changes.redoNext()I -/
noncomputable def zyF147    (s : zy_S) : Option (Int32 × zy_S) :=
if zy_in (s.1 22 5) 40 then
if zy_in (s.1 22 5) 40 then
if zy_in (s.1 22 5) 40 then
(zyF28 (s.1 23 ((s.1 22 5)).toNatClampNeg) (s.1 24 ((s.1 22 5)).toNatClampNeg) (s.1 26 ((s.1 22 5)).toNatClampNeg) s).bind fun p4 =>
some (((p4.2.1 22 6) - ((p4.2.1 22 5) + (1 : Int32))), (zy_up p4.2 22 5 ((p4.2.1 22 5) + (1 : Int32))))
else none
else none
else none
theorem zyC147 {X : zx_X}      {s : zy_S} {r : Int32} {s' : zy_S}  (h : zyF147 s = some (r, s')) : zyR X 2 147 0 [some (.ref (22 + 3))] [] s (zyE (some (.int r)) s') := by
  unfold zyF147 at h
  refine zy_0 rfl rfl (show zyR _ _ _ _ [some (.ref (22 + 3))] [.ref (22 + 3)] _ _ from ?_)
  refine zy_1r (c := 22) rfl rfl rfl (show zyR _ _ _ _ [some (.ref (22 + 3))] [.ref (1 + 3)] _ _ from ?_)
  refine zy_0 rfl rfl (show zyR _ _ _ _ [some (.ref (22 + 3))] [.ref (22 + 3), .ref (1 + 3)] _ _ from ?_)
  refine zy_1r (c := 22) rfl rfl rfl (show zyR _ _ _ _ [some (.ref (22 + 3))] [.ref (23 + 3), .ref (1 + 3)] _ _ from ?_)
  refine zy_0 rfl rfl (show zyR _ _ _ _ [some (.ref (22 + 3))] [.ref (22 + 3), .ref (23 + 3), .ref (1 + 3)] _ _ from ?_)
  refine zy_1 (c := 22) rfl rfl rfl (show zyR _ _ _ _ [some (.ref (22 + 3))] [.int (s.1 22 5), .ref (23 + 3), .ref (1 + 3)] _ _ from ?_)
  obtain ⟨c1, h⟩ := zy_if h
  refine zy_26 (c := 23) rfl rfl c1 (show zyR _ _ _ _ [some (.ref (22 + 3))] [.int (s.1 23 ((s.1 22 5)).toNatClampNeg), .ref (1 + 3)] _ _ from ?_)
  refine zy_0 rfl rfl (show zyR _ _ _ _ [some (.ref (22 + 3))] [.ref (22 + 3), .int (s.1 23 ((s.1 22 5)).toNatClampNeg), .ref (1 + 3)] _ _ from ?_)
  refine zy_1r (c := 22) rfl rfl rfl (show zyR _ _ _ _ [some (.ref (22 + 3))] [.ref (24 + 3), .int (s.1 23 ((s.1 22 5)).toNatClampNeg), .ref (1 + 3)] _ _ from ?_)
  refine zy_0 rfl rfl (show zyR _ _ _ _ [some (.ref (22 + 3))] [.ref (22 + 3), .ref (24 + 3), .int (s.1 23 ((s.1 22 5)).toNatClampNeg), .ref (1 + 3)] _ _ from ?_)
  refine zy_1 (c := 22) rfl rfl rfl (show zyR _ _ _ _ [some (.ref (22 + 3))] [.int (s.1 22 5), .ref (24 + 3), .int (s.1 23 ((s.1 22 5)).toNatClampNeg), .ref (1 + 3)] _ _ from ?_)
  obtain ⟨c2, h⟩ := zy_if h
  refine zy_26 (c := 24) rfl rfl c2 (show zyR _ _ _ _ [some (.ref (22 + 3))] [.int (s.1 24 ((s.1 22 5)).toNatClampNeg), .int (s.1 23 ((s.1 22 5)).toNatClampNeg), .ref (1 + 3)] _ _ from ?_)
  refine zy_0 rfl rfl (show zyR _ _ _ _ [some (.ref (22 + 3))] [.ref (22 + 3), .int (s.1 24 ((s.1 22 5)).toNatClampNeg), .int (s.1 23 ((s.1 22 5)).toNatClampNeg), .ref (1 + 3)] _ _ from ?_)
  refine zy_1r (c := 22) rfl rfl rfl (show zyR _ _ _ _ [some (.ref (22 + 3))] [.ref (26 + 3), .int (s.1 24 ((s.1 22 5)).toNatClampNeg), .int (s.1 23 ((s.1 22 5)).toNatClampNeg), .ref (1 + 3)] _ _ from ?_)
  refine zy_0 rfl rfl (show zyR _ _ _ _ [some (.ref (22 + 3))] [.ref (22 + 3), .ref (26 + 3), .int (s.1 24 ((s.1 22 5)).toNatClampNeg), .int (s.1 23 ((s.1 22 5)).toNatClampNeg), .ref (1 + 3)] _ _ from ?_)
  refine zy_1 (c := 22) rfl rfl rfl (show zyR _ _ _ _ [some (.ref (22 + 3))] [.int (s.1 22 5), .ref (26 + 3), .int (s.1 24 ((s.1 22 5)).toNatClampNeg), .int (s.1 23 ((s.1 22 5)).toNatClampNeg), .ref (1 + 3)] _ _ from ?_)
  obtain ⟨c3, h⟩ := zy_if h
  refine zy_26 (c := 26) rfl rfl c3 (show zyR _ _ _ _ [some (.ref (22 + 3))] [.int (s.1 26 ((s.1 22 5)).toNatClampNeg), .int (s.1 24 ((s.1 22 5)).toNatClampNeg), .int (s.1 23 ((s.1 22 5)).toNatClampNeg), .ref (1 + 3)] _ _ from ?_)
  obtain ⟨p4, hp4, h⟩ := zy_bind h
  refine zy_5 (c := 1) (as := [.int (s.1 23 ((s.1 22 5)).toNatClampNeg), .int (s.1 24 ((s.1 22 5)).toNatClampNeg), .int (s.1 26 ((s.1 22 5)).toNatClampNeg)]) (rest := []) (L := [some (.ref (1 + 3)), some (.int (s.1 23 ((s.1 22 5)).toNatClampNeg)), some (.int (s.1 24 ((s.1 22 5)).toNatClampNeg)), some (.int (s.1 26 ((s.1 22 5)).toNatClampNeg))]) (d' := 1) rfl rfl rfl (Nat.le_of_ble_eq_true rfl) (Nat.le_of_ble_eq_true rfl) rfl (Nat.le_of_ble_eq_true rfl) rfl rfl (zyC28 hp4) ?_
  show zyR _ _ _ _ [some (.ref (22 + 3))] [] _ _
  refine zy_0 rfl rfl (show zyR _ _ _ _ [some (.ref (22 + 3))] [.ref (22 + 3)] _ _ from ?_)
  refine zy_33 rfl rfl (show zyR _ _ _ _ [some (.ref (22 + 3))] [.ref (22 + 3), .ref (22 + 3)] _ _ from ?_)
  refine zy_1 (c := 22) rfl rfl rfl (show zyR _ _ _ _ [some (.ref (22 + 3))] [.int (p4.2.1 22 5), .ref (22 + 3)] _ _ from ?_)
  refine zy_3 rfl rfl (show zyR _ _ _ _ [some (.ref (22 + 3))] [.int (1 : Int32), .int (p4.2.1 22 5), .ref (22 + 3)] _ _ from ?_)
  refine zy_10 rfl (show zyR _ _ _ _ [some (.ref (22 + 3))] [.int ((p4.2.1 22 5) + (1 : Int32)), .ref (22 + 3)] _ _ from ?_)
  refine zy_52 (c := 22) rfl rfl rfl (show zyR _ _ _ _ [some (.ref (22 + 3))] [] _ _ from ?_)
  refine zy_0 rfl rfl (show zyR _ _ _ _ [some (.ref (22 + 3))] [.ref (22 + 3)] _ _ from ?_)
  refine zy_1 (c := 22) rfl rfl rfl (show zyR _ _ _ _ [some (.ref (22 + 3))] [.int (p4.2.1 22 6)] _ _ from ?_)
  refine zy_0 rfl rfl (show zyR _ _ _ _ [some (.ref (22 + 3))] [.ref (22 + 3), .int (p4.2.1 22 6)] _ _ from ?_)
  refine zy_1 (c := 22) rfl rfl rfl (show zyR _ _ _ _ [some (.ref (22 + 3))] [.int ((p4.2.1 22 5) + (1 : Int32)), .int (p4.2.1 22 6)] _ _ from ?_)
  refine zy_11 rfl (show zyR _ _ _ _ [some (.ref (22 + 3))] [.int ((p4.2.1 22 6) - ((p4.2.1 22 5) + (1 : Int32)))] _ _ from ?_)
  obtain ⟨rfl, rfl⟩ := zy_pi h
  exact zy_4 rfl ⟨rfl, rfl⟩
/-! NineOpinions.redo()I -/
noncomputable def zyF146    (s : zy_S) : Option (Int32 × zy_S) :=
if (s.1 22 6) ≤ (s.1 22 5) then
some ((-5 : Int32), s)
else
(zyF147 s).bind fun p1 =>
some (p1.1, p1.2)
theorem zyC146 {X : zx_X}      {s : zy_S} {r : Int32} {s' : zy_S}  (h : zyF146 s = some (r, s')) : zyR X 3 146 0 [some (.ref (0 + 3))] [] s (zyE (some (.int r)) s') := by
  unfold zyF146 at h
  refine zy_0 rfl rfl (show zyR _ _ _ _ [some (.ref (0 + 3))] [.ref (0 + 3)] _ _ from ?_)
  refine zy_1r (c := 0) rfl rfl rfl (show zyR _ _ _ _ [some (.ref (0 + 3))] [.ref (22 + 3)] _ _ from ?_)
  refine zy_1 (c := 22) rfl rfl rfl (show zyR _ _ _ _ [some (.ref (0 + 3))] [.int (s.1 22 5)] _ _ from ?_)
  refine zy_0 rfl rfl (show zyR _ _ _ _ [some (.ref (0 + 3))] [.ref (0 + 3), .int (s.1 22 5)] _ _ from ?_)
  refine zy_1r (c := 0) rfl rfl rfl (show zyR _ _ _ _ [some (.ref (0 + 3))] [.ref (22 + 3), .int (s.1 22 5)] _ _ from ?_)
  refine zy_1 (c := 22) rfl rfl rfl (show zyR _ _ _ _ [some (.ref (0 + 3))] [.int (s.1 22 6), .int (s.1 22 5)] _ _ from ?_)
  refine zy_25_3 rfl (fun b2 => (show zyR _ _ _ _ [some (.ref (0 + 3))] [] _ _ from ?_)) (fun b2 => (show zyR _ _ _ _ [some (.ref (0 + 3))] [] _ _ from ?_))
  · replace h := zy_ifp h b2
    refine zy_3 rfl rfl (show zyR _ _ _ _ [some (.ref (0 + 3))] [.int (-5 : Int32)] _ _ from ?_)
    obtain ⟨rfl, rfl⟩ := zy_pi h
    exact zy_4 rfl ⟨rfl, rfl⟩
  · replace h := zy_ifn h b2
    refine zy_0 rfl rfl (show zyR _ _ _ _ [some (.ref (0 + 3))] [.ref (0 + 3)] _ _ from ?_)
    refine zy_1r (c := 0) rfl rfl rfl (show zyR _ _ _ _ [some (.ref (0 + 3))] [.ref (22 + 3)] _ _ from ?_)
    obtain ⟨p1, hp1, h⟩ := zy_bind h
    refine zy_5 (c := 22) (as := []) (rest := []) (L := [some (.ref (22 + 3))]) (d' := 2) rfl rfl rfl (Nat.le_of_ble_eq_true rfl) (Nat.le_of_ble_eq_true rfl) rfl (Nat.le_of_ble_eq_true rfl) rfl rfl (zyC147 hp1) ?_
    show zyR _ _ _ _ [some (.ref (0 + 3))] [.int p1.1] _ _
    refine zy_6 rfl (show zyR _ _ _ _ [some (.ref (0 + 3))] [.int p1.1] _ _ from ?_)
    obtain ⟨rfl, rfl⟩ := zy_pi h
    exact zy_4 rfl ⟨rfl, rfl⟩
/-! NineOpinions$Bodies.isKind(I)Z -/
noncomputable def zyF149   (x0 : Int32) (s : zy_S) : Option (Int32 × zy_S) :=
if x0 < 0 then
some ((0 : Int32), s)
else
if (8 : Int32) ≤ x0 then
some ((0 : Int32), s)
else
some ((1 : Int32), s)
theorem zyC149 {X : zx_X}     {x0 : Int32} {s : zy_S} {r : Int32} {s' : zy_S}  (h : zyF149 x0 s = some (r, s')) : zyR X 1 149 0 [some (.int x0)] [] s (zyE (some (.int r)) s') := by
  unfold zyF149 at h
  refine zy_2 rfl rfl (show zyR _ _ _ _ [some (.int x0)] [.int x0] _ _ from ?_)
  refine zy_24_2 rfl (fun b2 => (show zyR _ _ _ _ [some (.int x0)] [] _ _ from ?_)) (fun b2 => (show zyR _ _ _ _ [some (.int x0)] [] _ _ from ?_))
  · replace h := zy_ifp h b2
    refine zy_3 rfl rfl (show zyR _ _ _ _ [some (.int x0)] [.int (0 : Int32)] _ _ from ?_)
    cases h
    exact zy_4b rfl ⟨rfl, rfl⟩ (Or.inl rfl)
  · replace h := zy_ifn h b2
    refine zy_2 rfl rfl (show zyR _ _ _ _ [some (.int x0)] [.int x0] _ _ from ?_)
    refine zy_3 rfl rfl (show zyR _ _ _ _ [some (.int x0)] [.int (8 : Int32), .int x0] _ _ from ?_)
    refine zy_25_3 rfl (fun b1 => (show zyR _ _ _ _ [some (.int x0)] [] _ _ from ?_)) (fun b1 => (show zyR _ _ _ _ [some (.int x0)] [] _ _ from ?_))
    · replace h := zy_ifp h b1
      refine zy_3 rfl rfl (show zyR _ _ _ _ [some (.int x0)] [.int (0 : Int32)] _ _ from ?_)
      cases h
      exact zy_4b rfl ⟨rfl, rfl⟩ (Or.inl rfl)
    · replace h := zy_ifn h b1
      refine zy_3 rfl rfl (show zyR _ _ _ _ [some (.int x0)] [.int (1 : Int32)] _ _ from ?_)
      refine zy_6 rfl (show zyR _ _ _ _ [some (.int x0)] [.int (1 : Int32)] _ _ from ?_)
      cases h
      exact zy_4b rfl ⟨rfl, rfl⟩ (Or.inr rfl)
/-! NineOpinions$Bodies.isFull()Z -/
noncomputable def zyF150    (s : zy_S) : Option (Int32 × zy_S) :=
if (s.1 27 2) < (50 : Int32) then
some ((0 : Int32), s)
else
some ((1 : Int32), s)
theorem zyC150 {X : zx_X}      {s : zy_S} {r : Int32} {s' : zy_S}  (h : zyF150 s = some (r, s')) : zyR X 1 150 0 [some (.ref (27 + 3))] [] s (zyE (some (.int r)) s') := by
  unfold zyF150 at h
  refine zy_0 rfl rfl (show zyR _ _ _ _ [some (.ref (27 + 3))] [.ref (27 + 3)] _ _ from ?_)
  refine zy_1 (c := 27) rfl rfl rfl (show zyR _ _ _ _ [some (.ref (27 + 3))] [.int (s.1 27 2)] _ _ from ?_)
  refine zy_3 rfl rfl (show zyR _ _ _ _ [some (.ref (27 + 3))] [.int (50 : Int32), .int (s.1 27 2)] _ _ from ?_)
  refine zy_25_2 rfl (fun b1 => (show zyR _ _ _ _ [some (.ref (27 + 3))] [] _ _ from ?_)) (fun b1 => (show zyR _ _ _ _ [some (.ref (27 + 3))] [] _ _ from ?_))
  · replace h := zy_ifp h b1
    refine zy_3 rfl rfl (show zyR _ _ _ _ [some (.ref (27 + 3))] [.int (0 : Int32)] _ _ from ?_)
    cases h
    exact zy_4b rfl ⟨rfl, rfl⟩ (Or.inl rfl)
  · replace h := zy_ifn h b1
    refine zy_3 rfl rfl (show zyR _ _ _ _ [some (.ref (27 + 3))] [.int (1 : Int32)] _ _ from ?_)
    refine zy_6 rfl (show zyR _ _ _ _ [some (.ref (27 + 3))] [.int (1 : Int32)] _ _ from ?_)
    cases h
    exact zy_4b rfl ⟨rfl, rfl⟩ (Or.inr rfl)
/-! NineOpinions$Bodies.add(I)I -/
noncomputable def zyF151   (x1 : Int32) (s : zy_S) : Option (Int32 × zy_S) :=
if zy_in (s.1 27 2) 50 then
some ((((s.1 27 2) + (1 : Int32)) - (1 : Int32)), (zy_up (zy_up s 28 ((s.1 27 2)).toNatClampNeg x1) 27 2 ((s.1 27 2) + (1 : Int32))))
else none
theorem zyC151 {X : zx_X}     {x1 : Int32} {s : zy_S} {r : Int32} {s' : zy_S}  (h : zyF151 x1 s = some (r, s')) : zyR X 1 151 0 [some (.ref (27 + 3)), some (.int x1)] [] s (zyE (some (.int r)) s') := by
  unfold zyF151 at h
  refine zy_0 rfl rfl (show zyR _ _ _ _ [some (.ref (27 + 3)), some (.int x1)] [.ref (27 + 3)] _ _ from ?_)
  refine zy_1r (c := 27) rfl rfl rfl (show zyR _ _ _ _ [some (.ref (27 + 3)), some (.int x1)] [.ref (28 + 3)] _ _ from ?_)
  refine zy_0 rfl rfl (show zyR _ _ _ _ [some (.ref (27 + 3)), some (.int x1)] [.ref (27 + 3), .ref (28 + 3)] _ _ from ?_)
  refine zy_1 (c := 27) rfl rfl rfl (show zyR _ _ _ _ [some (.ref (27 + 3)), some (.int x1)] [.int (s.1 27 2), .ref (28 + 3)] _ _ from ?_)
  refine zy_2 rfl rfl (show zyR _ _ _ _ [some (.ref (27 + 3)), some (.int x1)] [.int x1, .int (s.1 27 2), .ref (28 + 3)] _ _ from ?_)
  obtain ⟨c1, h⟩ := zy_if h
  refine zy_27 (c := 28) rfl rfl c1 (show zyR _ _ _ _ [some (.ref (27 + 3)), some (.int x1)] [] _ _ from ?_)
  refine zy_0 rfl rfl (show zyR _ _ _ _ [some (.ref (27 + 3)), some (.int x1)] [.ref (27 + 3)] _ _ from ?_)
  refine zy_33 rfl rfl (show zyR _ _ _ _ [some (.ref (27 + 3)), some (.int x1)] [.ref (27 + 3), .ref (27 + 3)] _ _ from ?_)
  refine zy_1 (c := 27) rfl rfl rfl (show zyR _ _ _ _ [some (.ref (27 + 3)), some (.int x1)] [.int (s.1 27 2), .ref (27 + 3)] _ _ from ?_)
  refine zy_3 rfl rfl (show zyR _ _ _ _ [some (.ref (27 + 3)), some (.int x1)] [.int (1 : Int32), .int (s.1 27 2), .ref (27 + 3)] _ _ from ?_)
  refine zy_10 rfl (show zyR _ _ _ _ [some (.ref (27 + 3)), some (.int x1)] [.int ((s.1 27 2) + (1 : Int32)), .ref (27 + 3)] _ _ from ?_)
  refine zy_52 (c := 27) rfl rfl rfl (show zyR _ _ _ _ [some (.ref (27 + 3)), some (.int x1)] [] _ _ from ?_)
  refine zy_0 rfl rfl (show zyR _ _ _ _ [some (.ref (27 + 3)), some (.int x1)] [.ref (27 + 3)] _ _ from ?_)
  refine zy_1 (c := 27) rfl rfl rfl (show zyR _ _ _ _ [some (.ref (27 + 3)), some (.int x1)] [.int ((s.1 27 2) + (1 : Int32))] _ _ from ?_)
  refine zy_3 rfl rfl (show zyR _ _ _ _ [some (.ref (27 + 3)), some (.int x1)] [.int (1 : Int32), .int ((s.1 27 2) + (1 : Int32))] _ _ from ?_)
  refine zy_11 rfl (show zyR _ _ _ _ [some (.ref (27 + 3)), some (.int x1)] [.int (((s.1 27 2) + (1 : Int32)) - (1 : Int32))] _ _ from ?_)
  obtain ⟨rfl, rfl⟩ := zy_pi h
  exact zy_4 rfl ⟨rfl, rfl⟩
/-! NineOpinions.body(I)I -/
noncomputable def zyF148   (x1 : Int32) (s : zy_S) : Option (Int32 × zy_S) :=
(zyF149 x1 s).bind fun p1 =>
if p1.1 ≠ 0 then
(zyF150 p1.2).bind fun p2 =>
if p2.1 = 0 then
(zyF151 x1 p2.2).bind fun p3 =>
some (p3.1, p3.2)
else
some ((-3 : Int32), p2.2)
else
some ((-1 : Int32), p1.2)
theorem zyC148 {X : zx_X}     {x1 : Int32} {s : zy_S} {r : Int32} {s' : zy_S}  (h : zyF148 x1 s = some (r, s')) : zyR X 2 148 0 [some (.ref (0 + 3)), some (.int x1)] [] s (zyE (some (.int r)) s') := by
  unfold zyF148 at h
  refine zy_2 rfl rfl (show zyR _ _ _ _ [some (.ref (0 + 3)), some (.int x1)] [.int x1] _ _ from ?_)
  obtain ⟨p1, hp1, h⟩ := zy_bind h
  refine zy_60 (as := [.int x1]) (rest := []) (L := [some (.int x1)]) (d' := 1) rfl rfl (Nat.le_of_ble_eq_true rfl) (Nat.le_of_ble_eq_true rfl) rfl (Nat.le_of_ble_eq_true rfl) rfl rfl (zyC149 hp1) ?_
  show zyR _ _ _ _ [some (.ref (0 + 3)), some (.int x1)] [.int p1.1] _ _
  refine zy_24_1 rfl (fun b5 => (show zyR _ _ _ _ [some (.ref (0 + 3)), some (.int x1)] [] _ _ from ?_)) (fun b5 => (show zyR _ _ _ _ [some (.ref (0 + 3)), some (.int x1)] [] _ _ from ?_))
  · replace h := zy_ifp h b5
    refine zy_0 rfl rfl (show zyR _ _ _ _ [some (.ref (0 + 3)), some (.int x1)] [.ref (0 + 3)] _ _ from ?_)
    refine zy_1r (c := 0) rfl rfl rfl (show zyR _ _ _ _ [some (.ref (0 + 3)), some (.int x1)] [.ref (27 + 3)] _ _ from ?_)
    obtain ⟨p2, hp2, h⟩ := zy_bind h
    refine zy_5 (c := 27) (as := []) (rest := []) (L := [some (.ref (27 + 3))]) (d' := 1) rfl rfl rfl (Nat.le_of_ble_eq_true rfl) (Nat.le_of_ble_eq_true rfl) rfl (Nat.le_of_ble_eq_true rfl) rfl rfl (zyC150 hp2) ?_
    show zyR _ _ _ _ [some (.ref (0 + 3)), some (.int x1)] [.int p2.1] _ _
    refine zy_24_0 rfl (fun b4 => (show zyR _ _ _ _ [some (.ref (0 + 3)), some (.int x1)] [] _ _ from ?_)) (fun b4 => (show zyR _ _ _ _ [some (.ref (0 + 3)), some (.int x1)] [] _ _ from ?_))
    · replace h := zy_ifp h b4
      refine zy_0 rfl rfl (show zyR _ _ _ _ [some (.ref (0 + 3)), some (.int x1)] [.ref (0 + 3)] _ _ from ?_)
      refine zy_1r (c := 0) rfl rfl rfl (show zyR _ _ _ _ [some (.ref (0 + 3)), some (.int x1)] [.ref (27 + 3)] _ _ from ?_)
      refine zy_2 rfl rfl (show zyR _ _ _ _ [some (.ref (0 + 3)), some (.int x1)] [.int x1, .ref (27 + 3)] _ _ from ?_)
      obtain ⟨p3, hp3, h⟩ := zy_bind h
      refine zy_5 (c := 27) (as := [.int x1]) (rest := []) (L := [some (.ref (27 + 3)), some (.int x1)]) (d' := 1) rfl rfl rfl (Nat.le_of_ble_eq_true rfl) (Nat.le_of_ble_eq_true rfl) rfl (Nat.le_of_ble_eq_true rfl) rfl rfl (zyC151 hp3) ?_
      show zyR _ _ _ _ [some (.ref (0 + 3)), some (.int x1)] [.int p3.1] _ _
      obtain ⟨rfl, rfl⟩ := zy_pi h
      exact zy_4 rfl ⟨rfl, rfl⟩
    · replace h := zy_ifn h b4
      refine zy_3 rfl rfl (show zyR _ _ _ _ [some (.ref (0 + 3)), some (.int x1)] [.int (-3 : Int32)] _ _ from ?_)
      refine zy_6 rfl (show zyR _ _ _ _ [some (.ref (0 + 3)), some (.int x1)] [.int (-3 : Int32)] _ _ from ?_)
      obtain ⟨rfl, rfl⟩ := zy_pi h
      exact zy_4 rfl ⟨rfl, rfl⟩
  · replace h := zy_ifn h b5
    refine zy_3 rfl rfl (show zyR _ _ _ _ [some (.ref (0 + 3)), some (.int x1)] [.int (-1 : Int32)] _ _ from ?_)
    obtain ⟨rfl, rfl⟩ := zy_pi h
    exact zy_4 rfl ⟨rfl, rfl⟩
/-! NineOpinions$Bodies.has(I)Z -/
noncomputable def zyF154   (x1 : Int32) (s : zy_S) : Option (Int32 × zy_S) :=
if x1 < 0 then
some ((0 : Int32), s)
else
if (s.1 27 2) ≤ x1 then
some ((0 : Int32), s)
else
some ((1 : Int32), s)
theorem zyC154 {X : zx_X}     {x1 : Int32} {s : zy_S} {r : Int32} {s' : zy_S}  (h : zyF154 x1 s = some (r, s')) : zyR X 1 154 0 [some (.ref (27 + 3)), some (.int x1)] [] s (zyE (some (.int r)) s') := by
  unfold zyF154 at h
  refine zy_2 rfl rfl (show zyR _ _ _ _ [some (.ref (27 + 3)), some (.int x1)] [.int x1] _ _ from ?_)
  refine zy_24_2 rfl (fun b2 => (show zyR _ _ _ _ [some (.ref (27 + 3)), some (.int x1)] [] _ _ from ?_)) (fun b2 => (show zyR _ _ _ _ [some (.ref (27 + 3)), some (.int x1)] [] _ _ from ?_))
  · replace h := zy_ifp h b2
    refine zy_3 rfl rfl (show zyR _ _ _ _ [some (.ref (27 + 3)), some (.int x1)] [.int (0 : Int32)] _ _ from ?_)
    cases h
    exact zy_4b rfl ⟨rfl, rfl⟩ (Or.inl rfl)
  · replace h := zy_ifn h b2
    refine zy_2 rfl rfl (show zyR _ _ _ _ [some (.ref (27 + 3)), some (.int x1)] [.int x1] _ _ from ?_)
    refine zy_0 rfl rfl (show zyR _ _ _ _ [some (.ref (27 + 3)), some (.int x1)] [.ref (27 + 3), .int x1] _ _ from ?_)
    refine zy_1 (c := 27) rfl rfl rfl (show zyR _ _ _ _ [some (.ref (27 + 3)), some (.int x1)] [.int (s.1 27 2), .int x1] _ _ from ?_)
    refine zy_25_3 rfl (fun b1 => (show zyR _ _ _ _ [some (.ref (27 + 3)), some (.int x1)] [] _ _ from ?_)) (fun b1 => (show zyR _ _ _ _ [some (.ref (27 + 3)), some (.int x1)] [] _ _ from ?_))
    · replace h := zy_ifp h b1
      refine zy_3 rfl rfl (show zyR _ _ _ _ [some (.ref (27 + 3)), some (.int x1)] [.int (0 : Int32)] _ _ from ?_)
      cases h
      exact zy_4b rfl ⟨rfl, rfl⟩ (Or.inl rfl)
    · replace h := zy_ifn h b1
      refine zy_3 rfl rfl (show zyR _ _ _ _ [some (.ref (27 + 3)), some (.int x1)] [.int (1 : Int32)] _ _ from ?_)
      refine zy_6 rfl (show zyR _ _ _ _ [some (.ref (27 + 3)), some (.int x1)] [.int (1 : Int32)] _ _ from ?_)
      cases h
      exact zy_4b rfl ⟨rfl, rfl⟩ (Or.inr rfl)
/-! NineOpinions$Shelf.holdBody(I)V -/
noncomputable def zyF162   (x0 : Nat) (x1 : Int32) (s : zy_S) : Option (Int32 × zy_S) :=
some ((0 : Int32), (zy_up (zy_up (zy_up s x0 1 x1) x0 2 (-1 : Int32)) x0 3 (0 : Int32)))
theorem zyC162 {X : zx_X}     {x0 : Nat} {x1 : Int32} {s : zy_S} {r : Int32} {s' : zy_S} (hs_x0 : zy_isSh x0) (h : zyF162 x0 x1 s = some (r, s')) : zyR X 1 162 0 [some (.ref (x0 + 3)), some (.int x1)] [] s (zyE none s') := by
  unfold zyF162 at h
  refine zy_0 rfl rfl (show zyR _ _ _ _ [some (.ref (x0 + 3)), some (.int x1)] [.ref (x0 + 3)] _ _ from ?_)
  refine zy_2 rfl rfl (show zyR _ _ _ _ [some (.ref (x0 + 3)), some (.int x1)] [.int x1, .ref (x0 + 3)] _ _ from ?_)
  refine zy_52 (c := x0) rfl hs_x0.1 rfl (show zyR _ _ _ _ [some (.ref (x0 + 3)), some (.int x1)] [] _ _ from ?_)
  refine zy_0 rfl rfl (show zyR _ _ _ _ [some (.ref (x0 + 3)), some (.int x1)] [.ref (x0 + 3)] _ _ from ?_)
  refine zy_3 rfl rfl (show zyR _ _ _ _ [some (.ref (x0 + 3)), some (.int x1)] [.int (-1 : Int32), .ref (x0 + 3)] _ _ from ?_)
  refine zy_52 (c := x0) rfl hs_x0.1 rfl (show zyR _ _ _ _ [some (.ref (x0 + 3)), some (.int x1)] [] _ _ from ?_)
  refine zy_0 rfl rfl (show zyR _ _ _ _ [some (.ref (x0 + 3)), some (.int x1)] [.ref (x0 + 3)] _ _ from ?_)
  refine zy_3 rfl rfl (show zyR _ _ _ _ [some (.ref (x0 + 3)), some (.int x1)] [.int (0 : Int32), .ref (x0 + 3)] _ _ from ?_)
  refine zy_52 (c := x0) rfl hs_x0.1 rfl (show zyR _ _ _ _ [some (.ref (x0 + 3)), some (.int x1)] [] _ _ from ?_)
  cases h
  exact zy_66 rfl ⟨rfl, rfl⟩
/-! NineOpinions.keep(II)I -/
noncomputable def zyF161_25   (x1 : Int32) (x2 : Int32) (s : zy_S) : Option (Int32 × zy_S) :=
if zy_in x1 6 then
if zy_Wb s then
(zyF162 (zy_sh (x1).toNatClampNeg) x2 s).bind fun p3 =>
some ((1 : Int32), p3.2)
else none
else none
theorem zyC161_25 {X : zx_X}     {x1 : Int32} {x2 : Int32} {s : zy_S} {r : Int32} {s' : zy_S}  (h : zyF161_25 x1 x2 s = some (r, s')) : zyR X 2 161 25 [some (.ref (0 + 3)), some (.int x1), some (.int x2)] [] s (zyE (some (.int r)) s') := by
  unfold zyF161_25 at h
  refine zy_0 rfl rfl (show zyR _ _ _ _ [some (.ref (0 + 3)), some (.int x1), some (.int x2)] [.ref (0 + 3)] _ _ from ?_)
  refine zy_1r (c := 0) rfl rfl rfl (show zyR _ _ _ _ [some (.ref (0 + 3)), some (.int x1), some (.int x2)] [.ref (30 + 3)] _ _ from ?_)
  refine zy_2 rfl rfl (show zyR _ _ _ _ [some (.ref (0 + 3)), some (.int x1), some (.int x2)] [.int x1, .ref (30 + 3)] _ _ from ?_)
  obtain ⟨c1, h⟩ := zy_if h
  obtain ⟨c2, h⟩ := zy_if h
  refine zy_28 rfl (zy_Wb_g c2) c1 (show zyR _ _ _ _ [some (.ref (0 + 3)), some (.int x1), some (.int x2)] [.ref ((zy_sh (x1).toNatClampNeg) + 3)] _ _ from ?_)
  refine zy_2 rfl rfl (show zyR _ _ _ _ [some (.ref (0 + 3)), some (.int x1), some (.int x2)] [.int x2, .ref ((zy_sh (x1).toNatClampNeg) + 3)] _ _ from ?_)
  obtain ⟨p3, hp3, h⟩ := zy_bind h
  refine zy_5 (c := (zy_sh (x1).toNatClampNeg)) (as := [.int x2]) (rest := []) (L := [some (.ref ((zy_sh (x1).toNatClampNeg) + 3)), some (.int x2)]) (d' := 1) rfl rfl (zy_isSh_of (zy_in_lt c1)).1 (Nat.le_of_ble_eq_true rfl) (Nat.le_of_ble_eq_true rfl) rfl (Nat.le_of_ble_eq_true rfl) rfl rfl (zyC162 (zy_isSh_of (zy_in_lt c1)) hp3) ?_
  show zyR _ _ _ _ [some (.ref (0 + 3)), some (.int x1), some (.int x2)] [] _ _
  refine zy_3 rfl rfl (show zyR _ _ _ _ [some (.ref (0 + 3)), some (.int x1), some (.int x2)] [.int (1 : Int32)] _ _ from ?_)
  obtain ⟨rfl, rfl⟩ := zy_pi h
  exact zy_4 rfl ⟨rfl, rfl⟩
noncomputable def zyF161   (x1 : Int32) (x2 : Int32) (s : zy_S) : Option (Int32 × zy_S) :=
(zyF18 x1 s).bind fun p4 =>
if p4.1 = 0 then
some ((-1 : Int32), p4.2)
else
if x2 = (-1 : Int32) then
zyF161_25 x1 x2 p4.2
else
(zyF154 x2 p4.2).bind fun p5 =>
if p5.1 ≠ 0 then
zyF161_25 x1 x2 p5.2
else
some ((-1 : Int32), p5.2)
theorem zyC161 {X : zx_X}     {x1 : Int32} {x2 : Int32} {s : zy_S} {r : Int32} {s' : zy_S}  (h : zyF161 x1 x2 s = some (r, s')) : zyR X 2 161 0 [some (.ref (0 + 3)), some (.int x1), some (.int x2)] [] s (zyE (some (.int r)) s') := by
  unfold zyF161 at h
  refine zy_2 rfl rfl (show zyR _ _ _ _ [some (.ref (0 + 3)), some (.int x1), some (.int x2)] [.int x1] _ _ from ?_)
  obtain ⟨p4, hp4, h⟩ := zy_bind h
  refine zy_60 (as := [.int x1]) (rest := []) (L := [some (.int x1)]) (d' := 1) rfl rfl (Nat.le_of_ble_eq_true rfl) (Nat.le_of_ble_eq_true rfl) rfl (Nat.le_of_ble_eq_true rfl) rfl rfl (zyC18 hp4) ?_
  show zyR _ _ _ _ [some (.ref (0 + 3)), some (.int x1), some (.int x2)] [.int p4.1] _ _
  refine zy_24_0 rfl (fun b8 => (show zyR _ _ _ _ [some (.ref (0 + 3)), some (.int x1), some (.int x2)] [] _ _ from ?_)) (fun b8 => (show zyR _ _ _ _ [some (.ref (0 + 3)), some (.int x1), some (.int x2)] [] _ _ from ?_))
  · replace h := zy_ifp h b8
    refine zy_3 rfl rfl (show zyR _ _ _ _ [some (.ref (0 + 3)), some (.int x1), some (.int x2)] [.int (-1 : Int32)] _ _ from ?_)
    obtain ⟨rfl, rfl⟩ := zy_pi h
    exact zy_4 rfl ⟨rfl, rfl⟩
  · replace h := zy_ifn h b8
    refine zy_2 rfl rfl (show zyR _ _ _ _ [some (.ref (0 + 3)), some (.int x1), some (.int x2)] [.int x2] _ _ from ?_)
    refine zy_3 rfl rfl (show zyR _ _ _ _ [some (.ref (0 + 3)), some (.int x1), some (.int x2)] [.int (-1 : Int32), .int x2] _ _ from ?_)
    refine zy_25_0 rfl (fun b7 => (show zyR _ _ _ _ [some (.ref (0 + 3)), some (.int x1), some (.int x2)] [] _ _ from ?_)) (fun b7 => (show zyR _ _ _ _ [some (.ref (0 + 3)), some (.int x1), some (.int x2)] [] _ _ from ?_))
    · replace h := zy_ifp h b7
      exact zy_sub (show zy_le [some (.ref (0 + 3)), some (.int x1), some (.int x2)] [some (.ref (0 + 3)), some (.int x1), some (.int x2)] from ⟨rfl, ⟨rfl, ⟨rfl, trivial⟩⟩⟩) (zyC161_25 h)
    · replace h := zy_ifn h b7
      refine zy_0 rfl rfl (show zyR _ _ _ _ [some (.ref (0 + 3)), some (.int x1), some (.int x2)] [.ref (0 + 3)] _ _ from ?_)
      refine zy_1r (c := 0) rfl rfl rfl (show zyR _ _ _ _ [some (.ref (0 + 3)), some (.int x1), some (.int x2)] [.ref (27 + 3)] _ _ from ?_)
      refine zy_2 rfl rfl (show zyR _ _ _ _ [some (.ref (0 + 3)), some (.int x1), some (.int x2)] [.int x2, .ref (27 + 3)] _ _ from ?_)
      obtain ⟨p5, hp5, h⟩ := zy_bind h
      refine zy_5 (c := 27) (as := [.int x2]) (rest := []) (L := [some (.ref (27 + 3)), some (.int x2)]) (d' := 1) rfl rfl rfl (Nat.le_of_ble_eq_true rfl) (Nat.le_of_ble_eq_true rfl) rfl (Nat.le_of_ble_eq_true rfl) rfl rfl (zyC154 hp5) ?_
      show zyR _ _ _ _ [some (.ref (0 + 3)), some (.int x1), some (.int x2)] [.int p5.1] _ _
      refine zy_24_1 rfl (fun b6 => (show zyR _ _ _ _ [some (.ref (0 + 3)), some (.int x1), some (.int x2)] [] _ _ from ?_)) (fun b6 => (show zyR _ _ _ _ [some (.ref (0 + 3)), some (.int x1), some (.int x2)] [] _ _ from ?_))
      · replace h := zy_ifp h b6
        exact zy_sub (show zy_le [some (.ref (0 + 3)), some (.int x1), some (.int x2)] [some (.ref (0 + 3)), some (.int x1), some (.int x2)] from ⟨rfl, ⟨rfl, ⟨rfl, trivial⟩⟩⟩) (zyC161_25 h)
      · replace h := zy_ifn h b6
        refine zy_3 rfl rfl (show zyR _ _ _ _ [some (.ref (0 + 3)), some (.int x1), some (.int x2)] [.int (-1 : Int32)] _ _ from ?_)
        obtain ⟨rfl, rfl⟩ := zy_pi h
        exact zy_4 rfl ⟨rfl, rfl⟩
/-! NineOpinions$Shelf.holdRow(II)V -/
noncomputable def zyF164   (x0 : Nat) (x1 : Int32) (x2 : Int32) (s : zy_S) : Option (Int32 × zy_S) :=
some ((0 : Int32), (zy_ub (zy_up (zy_up (zy_up s x0 1 (-1 : Int32)) x0 2 x1) x0 3 x2) (x0 + 1) (fun j => if j < 60 then (0 : Int64) else (s.2.1 (x0 + 1)) j)))
theorem zyC164 {X : zx_X}     {x0 : Nat} {x1 : Int32} {x2 : Int32} {s : zy_S} {r : Int32} {s' : zy_S} (hs_x0 : zy_isSh x0) (h : zyF164 x0 x1 x2 s = some (r, s')) : zyR X 1 164 0 [some (.ref (x0 + 3)), some (.int x1), some (.int x2)] [] s (zyE none s') := by
  unfold zyF164 at h
  refine zy_0 rfl rfl (show zyR _ _ _ _ [some (.ref (x0 + 3)), some (.int x1), some (.int x2)] [.ref (x0 + 3)] _ _ from ?_)
  refine zy_3 rfl rfl (show zyR _ _ _ _ [some (.ref (x0 + 3)), some (.int x1), some (.int x2)] [.int (-1 : Int32), .ref (x0 + 3)] _ _ from ?_)
  refine zy_52 (c := x0) rfl hs_x0.1 rfl (show zyR _ _ _ _ [some (.ref (x0 + 3)), some (.int x1), some (.int x2)] [] _ _ from ?_)
  refine zy_0 rfl rfl (show zyR _ _ _ _ [some (.ref (x0 + 3)), some (.int x1), some (.int x2)] [.ref (x0 + 3)] _ _ from ?_)
  refine zy_2 rfl rfl (show zyR _ _ _ _ [some (.ref (x0 + 3)), some (.int x1), some (.int x2)] [.int x1, .ref (x0 + 3)] _ _ from ?_)
  refine zy_52 (c := x0) rfl hs_x0.1 rfl (show zyR _ _ _ _ [some (.ref (x0 + 3)), some (.int x1), some (.int x2)] [] _ _ from ?_)
  refine zy_0 rfl rfl (show zyR _ _ _ _ [some (.ref (x0 + 3)), some (.int x1), some (.int x2)] [.ref (x0 + 3)] _ _ from ?_)
  refine zy_2 rfl rfl (show zyR _ _ _ _ [some (.ref (x0 + 3)), some (.int x1), some (.int x2)] [.int x2, .ref (x0 + 3)] _ _ from ?_)
  refine zy_52 (c := x0) rfl hs_x0.1 rfl (show zyR _ _ _ _ [some (.ref (x0 + 3)), some (.int x1), some (.int x2)] [] _ _ from ?_)
  refine zy_0 rfl rfl (show zyR _ _ _ _ [some (.ref (x0 + 3)), some (.int x1), some (.int x2)] [.ref (x0 + 3)] _ _ from ?_)
  refine zy_1r (c := x0) rfl hs_x0.1 rfl (show zyR _ _ _ _ [some (.ref (x0 + 3)), some (.int x1), some (.int x2)] [.ref (x0 + 1 + 3)] _ _ from ?_)
  refine zy_36 rfl rfl (show zyR _ _ _ _ [some (.ref (x0 + 3)), some (.int x1), some (.int x2)] [.long (0 : Int64), .ref (x0 + 1 + 3)] _ _ from ?_)
  refine zy_68 (c := (x0 + 1)) rfl hs_x0.2 (Nat.le_of_ble_eq_true rfl) (Nat.le_of_ble_eq_true rfl) (Nat.le_of_ble_eq_true rfl) (show zyR _ _ _ _ [some (.ref (x0 + 3)), some (.int x1), some (.int x2)] [] _ _ from ?_)
  cases h
  exact zy_66 rfl ⟨rfl, rfl⟩
