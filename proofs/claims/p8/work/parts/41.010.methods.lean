/-! PART 41.10: methods as functions. Made by wip/v4/dcp.py. -/
/-! NineOpinions.won(II)I -/
noncomputable def zyF137   (x1 : Int32) (x2 : Int32) (s : zy_S) : Option (Int32 × zy_S) :=
(zyF25 (0 : Int32) x1 s).bind fun p1 =>
if p1.1 = 0 then
some ((-1 : Int32), p1.2)
else
(zyF26 x2 p1.2).bind fun p2 =>
if p2.1 ≠ 0 then
(zyF96 x1 x2 p2.2).bind fun p3 =>
if p3.1 = 0 then
(zyF138 x1 x2 p3.2).bind fun p4 =>
some (p4.1, p4.2)
else
some ((-5 : Int32), p3.2)
else
some ((-1 : Int32), p2.2)
theorem zyC137 {X : zx_X}     {x1 : Int32} {x2 : Int32} {s : zy_S} {r : Int32} {s' : zy_S}  (h : zyF137 x1 x2 s = some (r, s')) : zyR X 3 137 0 [some (.ref (0 + 3)), some (.int x1), some (.int x2)] [] s (zyE (some (.int r)) s') := by
  unfold zyF137 at h
  refine zy_0 rfl rfl (show zyR _ _ _ _ [some (.ref (0 + 3)), some (.int x1), some (.int x2)] [.ref (0 + 3)] _ _ from ?_)
  refine zy_1r (c := 0) rfl rfl rfl (show zyR _ _ _ _ [some (.ref (0 + 3)), some (.int x1), some (.int x2)] [.ref (1 + 3)] _ _ from ?_)
  refine zy_3 rfl rfl (show zyR _ _ _ _ [some (.ref (0 + 3)), some (.int x1), some (.int x2)] [.int (0 : Int32), .ref (1 + 3)] _ _ from ?_)
  refine zy_2 rfl rfl (show zyR _ _ _ _ [some (.ref (0 + 3)), some (.int x1), some (.int x2)] [.int x1, .int (0 : Int32), .ref (1 + 3)] _ _ from ?_)
  obtain ⟨p1, hp1, h⟩ := zy_bind h
  refine zy_5 (c := 1) (as := [.int (0 : Int32), .int x1]) (rest := []) (L := [some (.ref (1 + 3)), some (.int (0 : Int32)), some (.int x1)]) (d' := 2) rfl rfl rfl (Nat.le_of_ble_eq_true rfl) (Nat.le_of_ble_eq_true rfl) rfl (Nat.le_of_ble_eq_true rfl) rfl rfl (zyC25 hp1) ?_
  show zyR _ _ _ _ [some (.ref (0 + 3)), some (.int x1), some (.int x2)] [.int p1.1] _ _
  refine zy_24_0 rfl (fun b7 => (show zyR _ _ _ _ [some (.ref (0 + 3)), some (.int x1), some (.int x2)] [] _ _ from ?_)) (fun b7 => (show zyR _ _ _ _ [some (.ref (0 + 3)), some (.int x1), some (.int x2)] [] _ _ from ?_))
  · replace h := zy_ifp h b7
    refine zy_3 rfl rfl (show zyR _ _ _ _ [some (.ref (0 + 3)), some (.int x1), some (.int x2)] [.int (-1 : Int32)] _ _ from ?_)
    obtain ⟨rfl, rfl⟩ := zy_pi h
    exact zy_4 rfl ⟨rfl, rfl⟩
  · replace h := zy_ifn h b7
    refine zy_2 rfl rfl (show zyR _ _ _ _ [some (.ref (0 + 3)), some (.int x1), some (.int x2)] [.int x2] _ _ from ?_)
    obtain ⟨p2, hp2, h⟩ := zy_bind h
    refine zy_60 (as := [.int x2]) (rest := []) (L := [some (.int x2)]) (d' := 1) rfl rfl (Nat.le_of_ble_eq_true rfl) (Nat.le_of_ble_eq_true rfl) rfl (Nat.le_of_ble_eq_true rfl) rfl rfl (zyC26 hp2) ?_
    show zyR _ _ _ _ [some (.ref (0 + 3)), some (.int x1), some (.int x2)] [.int p2.1] _ _
    refine zy_24_1 rfl (fun b6 => (show zyR _ _ _ _ [some (.ref (0 + 3)), some (.int x1), some (.int x2)] [] _ _ from ?_)) (fun b6 => (show zyR _ _ _ _ [some (.ref (0 + 3)), some (.int x1), some (.int x2)] [] _ _ from ?_))
    · replace h := zy_ifp h b6
      refine zy_0 rfl rfl (show zyR _ _ _ _ [some (.ref (0 + 3)), some (.int x1), some (.int x2)] [.ref (0 + 3)] _ _ from ?_)
      refine zy_1r (c := 0) rfl rfl rfl (show zyR _ _ _ _ [some (.ref (0 + 3)), some (.int x1), some (.int x2)] [.ref (1 + 3)] _ _ from ?_)
      refine zy_2 rfl rfl (show zyR _ _ _ _ [some (.ref (0 + 3)), some (.int x1), some (.int x2)] [.int x1, .ref (1 + 3)] _ _ from ?_)
      refine zy_2 rfl rfl (show zyR _ _ _ _ [some (.ref (0 + 3)), some (.int x1), some (.int x2)] [.int x2, .int x1, .ref (1 + 3)] _ _ from ?_)
      obtain ⟨p3, hp3, h⟩ := zy_bind h
      refine zy_5 (c := 1) (as := [.int x1, .int x2]) (rest := []) (L := [some (.ref (1 + 3)), some (.int x1), some (.int x2)]) (d' := 2) rfl rfl rfl (Nat.le_of_ble_eq_true rfl) (Nat.le_of_ble_eq_true rfl) rfl (Nat.le_of_ble_eq_true rfl) rfl rfl (zyC96 hp3) ?_
      show zyR _ _ _ _ [some (.ref (0 + 3)), some (.int x1), some (.int x2)] [.int p3.1] _ _
      refine zy_24_0 rfl (fun b5 => (show zyR _ _ _ _ [some (.ref (0 + 3)), some (.int x1), some (.int x2)] [] _ _ from ?_)) (fun b5 => (show zyR _ _ _ _ [some (.ref (0 + 3)), some (.int x1), some (.int x2)] [] _ _ from ?_))
      · replace h := zy_ifp h b5
        refine zy_0 rfl rfl (show zyR _ _ _ _ [some (.ref (0 + 3)), some (.int x1), some (.int x2)] [.ref (0 + 3)] _ _ from ?_)
        refine zy_1r (c := 0) rfl rfl rfl (show zyR _ _ _ _ [some (.ref (0 + 3)), some (.int x1), some (.int x2)] [.ref (17 + 3)] _ _ from ?_)
        refine zy_2 rfl rfl (show zyR _ _ _ _ [some (.ref (0 + 3)), some (.int x1), some (.int x2)] [.int x1, .ref (17 + 3)] _ _ from ?_)
        refine zy_2 rfl rfl (show zyR _ _ _ _ [some (.ref (0 + 3)), some (.int x1), some (.int x2)] [.int x2, .int x1, .ref (17 + 3)] _ _ from ?_)
        obtain ⟨p4, hp4, h⟩ := zy_bind h
        refine zy_5 (c := 17) (as := [.int x1, .int x2]) (rest := []) (L := [some (.ref (17 + 3)), some (.int x1), some (.int x2), none]) (d' := 1) rfl rfl rfl (Nat.le_of_ble_eq_true rfl) (Nat.le_of_ble_eq_true rfl) rfl (Nat.le_of_ble_eq_true rfl) rfl rfl (zyC138 hp4) ?_
        show zyR _ _ _ _ [some (.ref (0 + 3)), some (.int x1), some (.int x2)] [.int p4.1] _ _
        obtain ⟨rfl, rfl⟩ := zy_pi h
        exact zy_4 rfl ⟨rfl, rfl⟩
      · replace h := zy_ifn h b5
        refine zy_3 rfl rfl (show zyR _ _ _ _ [some (.ref (0 + 3)), some (.int x1), some (.int x2)] [.int (-5 : Int32)] _ _ from ?_)
        refine zy_6 rfl (show zyR _ _ _ _ [some (.ref (0 + 3)), some (.int x1), some (.int x2)] [.int (-5 : Int32)] _ _ from ?_)
        obtain ⟨rfl, rfl⟩ := zy_pi h
        exact zy_4 rfl ⟨rfl, rfl⟩
    · replace h := zy_ifn h b6
      refine zy_3 rfl rfl (show zyR _ _ _ _ [some (.ref (0 + 3)), some (.int x1), some (.int x2)] [.int (-1 : Int32)] _ _ from ?_)
      obtain ⟨rfl, rfl⟩ := zy_pi h
      exact zy_4 rfl ⟨rfl, rfl⟩
/-! NineOpinions$Deeds.keepImage()V -/
noncomputable def zyF141    (s : zy_S) : Option (Int32 × zy_S) :=
some ((0 : Int32), (zy_ua (zy_ua (zy_ua (zy_up (zy_up (zy_up s 17 2 (1 : Int32)) 17 3 (s.1 1 3)) 17 4 (s.1 1 5)) 19 (va_cpy (s.1 2) (s.1 19) 0 0 24)) 20 (va_cpy (s.1 3) (s.1 20) 0 0 8)) 21 (va_cpy (s.1 18) (s.1 21) 0 0 5)))
theorem zyC141 {X : zx_X}      {s : zy_S} {r : Int32} {s' : zy_S}  (h : zyF141 s = some (r, s')) : zyR X 1 141 0 [some (.ref (17 + 3))] [] s (zyE none s') := by
  unfold zyF141 at h
  refine zy_0 rfl rfl (show zyR _ _ _ _ [some (.ref (17 + 3))] [.ref (17 + 3)] _ _ from ?_)
  refine zy_3 rfl rfl (show zyR _ _ _ _ [some (.ref (17 + 3))] [.int (1 : Int32), .ref (17 + 3)] _ _ from ?_)
  refine zy_52b (c := 17) rfl rfl rfl (Or.inr rfl) (show zyR _ _ _ _ [some (.ref (17 + 3))] [] _ _ from ?_)
  refine zy_0 rfl rfl (show zyR _ _ _ _ [some (.ref (17 + 3))] [.ref (17 + 3)] _ _ from ?_)
  refine zy_0 rfl rfl (show zyR _ _ _ _ [some (.ref (17 + 3))] [.ref (17 + 3), .ref (17 + 3)] _ _ from ?_)
  refine zy_1r (c := 17) rfl rfl rfl (show zyR _ _ _ _ [some (.ref (17 + 3))] [.ref (1 + 3), .ref (17 + 3)] _ _ from ?_)
  refine zy_1 (c := 1) rfl rfl rfl (show zyR _ _ _ _ [some (.ref (17 + 3))] [.int (s.1 1 3), .ref (17 + 3)] _ _ from ?_)
  refine zy_52 (c := 17) rfl rfl rfl (show zyR _ _ _ _ [some (.ref (17 + 3))] [] _ _ from ?_)
  refine zy_0 rfl rfl (show zyR _ _ _ _ [some (.ref (17 + 3))] [.ref (17 + 3)] _ _ from ?_)
  refine zy_0 rfl rfl (show zyR _ _ _ _ [some (.ref (17 + 3))] [.ref (17 + 3), .ref (17 + 3)] _ _ from ?_)
  refine zy_1r (c := 17) rfl rfl rfl (show zyR _ _ _ _ [some (.ref (17 + 3))] [.ref (1 + 3), .ref (17 + 3)] _ _ from ?_)
  refine zy_1 (c := 1) rfl rfl rfl (show zyR _ _ _ _ [some (.ref (17 + 3))] [.int (s.1 1 5), .ref (17 + 3)] _ _ from ?_)
  refine zy_52 (c := 17) rfl rfl rfl (show zyR _ _ _ _ [some (.ref (17 + 3))] [] _ _ from ?_)
  refine zy_0 rfl rfl (show zyR _ _ _ _ [some (.ref (17 + 3))] [.ref (17 + 3)] _ _ from ?_)
  refine zy_1r (c := 17) rfl rfl rfl (show zyR _ _ _ _ [some (.ref (17 + 3))] [.ref (1 + 3)] _ _ from ?_)
  refine zy_1r (c := 1) rfl rfl rfl (show zyR _ _ _ _ [some (.ref (17 + 3))] [.ref (2 + 3)] _ _ from ?_)
  refine zy_3 rfl rfl (show zyR _ _ _ _ [some (.ref (17 + 3))] [.int (0 : Int32), .ref (2 + 3)] _ _ from ?_)
  refine zy_0 rfl rfl (show zyR _ _ _ _ [some (.ref (17 + 3))] [.ref (17 + 3), .int (0 : Int32), .ref (2 + 3)] _ _ from ?_)
  refine zy_1r (c := 17) rfl rfl rfl (show zyR _ _ _ _ [some (.ref (17 + 3))] [.ref (19 + 3), .int (0 : Int32), .ref (2 + 3)] _ _ from ?_)
  refine zy_3 rfl rfl (show zyR _ _ _ _ [some (.ref (17 + 3))] [.int (0 : Int32), .ref (19 + 3), .int (0 : Int32), .ref (2 + 3)] _ _ from ?_)
  refine zy_3 rfl rfl (show zyR _ _ _ _ [some (.ref (17 + 3))] [.int (24 : Int32), .int (0 : Int32), .ref (19 + 3), .int (0 : Int32), .ref (2 + 3)] _ _ from ?_)
  refine zy_64 (c0 := 2) (c1 := 19) rfl rfl rfl (by decide) (Nat.le_of_ble_eq_true rfl) (Nat.le_of_ble_eq_true rfl) (show zyR _ _ _ _ [some (.ref (17 + 3))] [] _ _ from ?_)
  refine zy_0 rfl rfl (show zyR _ _ _ _ [some (.ref (17 + 3))] [.ref (17 + 3)] _ _ from ?_)
  refine zy_1r (c := 17) rfl rfl rfl (show zyR _ _ _ _ [some (.ref (17 + 3))] [.ref (1 + 3)] _ _ from ?_)
  refine zy_1r (c := 1) rfl rfl rfl (show zyR _ _ _ _ [some (.ref (17 + 3))] [.ref (3 + 3)] _ _ from ?_)
  refine zy_3 rfl rfl (show zyR _ _ _ _ [some (.ref (17 + 3))] [.int (0 : Int32), .ref (3 + 3)] _ _ from ?_)
  refine zy_0 rfl rfl (show zyR _ _ _ _ [some (.ref (17 + 3))] [.ref (17 + 3), .int (0 : Int32), .ref (3 + 3)] _ _ from ?_)
  refine zy_1r (c := 17) rfl rfl rfl (show zyR _ _ _ _ [some (.ref (17 + 3))] [.ref (20 + 3), .int (0 : Int32), .ref (3 + 3)] _ _ from ?_)
  refine zy_3 rfl rfl (show zyR _ _ _ _ [some (.ref (17 + 3))] [.int (0 : Int32), .ref (20 + 3), .int (0 : Int32), .ref (3 + 3)] _ _ from ?_)
  refine zy_3 rfl rfl (show zyR _ _ _ _ [some (.ref (17 + 3))] [.int (8 : Int32), .int (0 : Int32), .ref (20 + 3), .int (0 : Int32), .ref (3 + 3)] _ _ from ?_)
  refine zy_64 (c0 := 3) (c1 := 20) rfl rfl rfl (by decide) (Nat.le_of_ble_eq_true rfl) (Nat.le_of_ble_eq_true rfl) (show zyR _ _ _ _ [some (.ref (17 + 3))] [] _ _ from ?_)
  refine zy_0 rfl rfl (show zyR _ _ _ _ [some (.ref (17 + 3))] [.ref (17 + 3)] _ _ from ?_)
  refine zy_1r (c := 17) rfl rfl rfl (show zyR _ _ _ _ [some (.ref (17 + 3))] [.ref (18 + 3)] _ _ from ?_)
  refine zy_3 rfl rfl (show zyR _ _ _ _ [some (.ref (17 + 3))] [.int (0 : Int32), .ref (18 + 3)] _ _ from ?_)
  refine zy_0 rfl rfl (show zyR _ _ _ _ [some (.ref (17 + 3))] [.ref (17 + 3), .int (0 : Int32), .ref (18 + 3)] _ _ from ?_)
  refine zy_1r (c := 17) rfl rfl rfl (show zyR _ _ _ _ [some (.ref (17 + 3))] [.ref (21 + 3), .int (0 : Int32), .ref (18 + 3)] _ _ from ?_)
  refine zy_3 rfl rfl (show zyR _ _ _ _ [some (.ref (17 + 3))] [.int (0 : Int32), .ref (21 + 3), .int (0 : Int32), .ref (18 + 3)] _ _ from ?_)
  refine zy_3 rfl rfl (show zyR _ _ _ _ [some (.ref (17 + 3))] [.int (5 : Int32), .int (0 : Int32), .ref (21 + 3), .int (0 : Int32), .ref (18 + 3)] _ _ from ?_)
  refine zy_64 (c0 := 18) (c1 := 21) rfl rfl rfl (by decide) (Nat.le_of_ble_eq_true rfl) (Nat.le_of_ble_eq_true rfl) (show zyR _ _ _ _ [some (.ref (17 + 3))] [] _ _ from ?_)
  cases h
  exact zy_66 rfl ⟨rfl, rfl⟩
/-! NineOpinions.image()I -/
noncomputable def zyF140    (s : zy_S) : Option (Int32 × zy_S) :=
(zyF141 s).bind fun p1 =>
(zyF92 p1.2).bind fun p2 =>
some (p2.1, p2.2)
theorem zyC140 {X : zx_X}      {s : zy_S} {r : Int32} {s' : zy_S}  (h : zyF140 s = some (r, s')) : zyR X 3 140 0 [some (.ref (0 + 3))] [] s (zyE (some (.int r)) s') := by
  unfold zyF140 at h
  refine zy_0 rfl rfl (show zyR _ _ _ _ [some (.ref (0 + 3))] [.ref (0 + 3)] _ _ from ?_)
  refine zy_1r (c := 0) rfl rfl rfl (show zyR _ _ _ _ [some (.ref (0 + 3))] [.ref (17 + 3)] _ _ from ?_)
  obtain ⟨p1, hp1, h⟩ := zy_bind h
  refine zy_5 (c := 17) (as := []) (rest := []) (L := [some (.ref (17 + 3))]) (d' := 1) rfl rfl rfl (Nat.le_of_ble_eq_true rfl) (Nat.le_of_ble_eq_true rfl) rfl (Nat.le_of_ble_eq_true rfl) rfl rfl (zyC141 hp1) ?_
  show zyR _ _ _ _ [some (.ref (0 + 3))] [] _ _
  refine zy_0 rfl rfl (show zyR _ _ _ _ [some (.ref (0 + 3))] [.ref (0 + 3)] _ _ from ?_)
  refine zy_1r (c := 0) rfl rfl rfl (show zyR _ _ _ _ [some (.ref (0 + 3))] [.ref (1 + 3)] _ _ from ?_)
  obtain ⟨p2, hp2, h⟩ := zy_bind h
  refine zy_5 (c := 1) (as := []) (rest := []) (L := [some (.ref (1 + 3))]) (d' := 2) rfl rfl rfl (Nat.le_of_ble_eq_true rfl) (Nat.le_of_ble_eq_true rfl) rfl (Nat.le_of_ble_eq_true rfl) rfl rfl (zyC92 hp2) ?_
  show zyR _ _ _ _ [some (.ref (0 + 3))] [.int p2.1] _ _
  obtain ⟨rfl, rfl⟩ := zy_pi h
  exact zy_4 rfl ⟨rfl, rfl⟩
/-! NineOpinions$Deeds.layBack()V -/
noncomputable def zyF143    (s : zy_S) : Option (Int32 × zy_S) :=
if zy_cpB (0 : Int32) (0 : Int32) (s.1 17 4) 8 8 then
some ((0 : Int32), (zy_ua (zy_ua (zy_ua (zy_up s 1 3 (s.1 17 3)) 2 (va_cpy (s.1 19) (s.1 2) 0 0 24)) 3 (va_cpy (s.1 20) (s.1 3) 0 0 ((s.1 17 4)).toNatClampNeg)) 18 (va_cpy (s.1 21) (s.1 18) 0 0 5)))
else none
theorem zyC143 {X : zx_X}      {s : zy_S} {r : Int32} {s' : zy_S}  (h : zyF143 s = some (r, s')) : zyR X 1 143 0 [some (.ref (17 + 3))] [] s (zyE none s') := by
  unfold zyF143 at h
  refine zy_0 rfl rfl (show zyR _ _ _ _ [some (.ref (17 + 3))] [.ref (17 + 3)] _ _ from ?_)
  refine zy_1r (c := 17) rfl rfl rfl (show zyR _ _ _ _ [some (.ref (17 + 3))] [.ref (1 + 3)] _ _ from ?_)
  refine zy_0 rfl rfl (show zyR _ _ _ _ [some (.ref (17 + 3))] [.ref (17 + 3), .ref (1 + 3)] _ _ from ?_)
  refine zy_1 (c := 17) rfl rfl rfl (show zyR _ _ _ _ [some (.ref (17 + 3))] [.int (s.1 17 3), .ref (1 + 3)] _ _ from ?_)
  refine zy_52 (c := 1) rfl rfl rfl (show zyR _ _ _ _ [some (.ref (17 + 3))] [] _ _ from ?_)
  refine zy_0 rfl rfl (show zyR _ _ _ _ [some (.ref (17 + 3))] [.ref (17 + 3)] _ _ from ?_)
  refine zy_1r (c := 17) rfl rfl rfl (show zyR _ _ _ _ [some (.ref (17 + 3))] [.ref (19 + 3)] _ _ from ?_)
  refine zy_3 rfl rfl (show zyR _ _ _ _ [some (.ref (17 + 3))] [.int (0 : Int32), .ref (19 + 3)] _ _ from ?_)
  refine zy_0 rfl rfl (show zyR _ _ _ _ [some (.ref (17 + 3))] [.ref (17 + 3), .int (0 : Int32), .ref (19 + 3)] _ _ from ?_)
  refine zy_1r (c := 17) rfl rfl rfl (show zyR _ _ _ _ [some (.ref (17 + 3))] [.ref (1 + 3), .int (0 : Int32), .ref (19 + 3)] _ _ from ?_)
  refine zy_1r (c := 1) rfl rfl rfl (show zyR _ _ _ _ [some (.ref (17 + 3))] [.ref (2 + 3), .int (0 : Int32), .ref (19 + 3)] _ _ from ?_)
  refine zy_3 rfl rfl (show zyR _ _ _ _ [some (.ref (17 + 3))] [.int (0 : Int32), .ref (2 + 3), .int (0 : Int32), .ref (19 + 3)] _ _ from ?_)
  refine zy_3 rfl rfl (show zyR _ _ _ _ [some (.ref (17 + 3))] [.int (24 : Int32), .int (0 : Int32), .ref (2 + 3), .int (0 : Int32), .ref (19 + 3)] _ _ from ?_)
  refine zy_64 (c0 := 19) (c1 := 2) rfl rfl rfl (by decide) (Nat.le_of_ble_eq_true rfl) (Nat.le_of_ble_eq_true rfl) (show zyR _ _ _ _ [some (.ref (17 + 3))] [] _ _ from ?_)
  refine zy_0 rfl rfl (show zyR _ _ _ _ [some (.ref (17 + 3))] [.ref (17 + 3)] _ _ from ?_)
  refine zy_1r (c := 17) rfl rfl rfl (show zyR _ _ _ _ [some (.ref (17 + 3))] [.ref (20 + 3)] _ _ from ?_)
  refine zy_3 rfl rfl (show zyR _ _ _ _ [some (.ref (17 + 3))] [.int (0 : Int32), .ref (20 + 3)] _ _ from ?_)
  refine zy_0 rfl rfl (show zyR _ _ _ _ [some (.ref (17 + 3))] [.ref (17 + 3), .int (0 : Int32), .ref (20 + 3)] _ _ from ?_)
  refine zy_1r (c := 17) rfl rfl rfl (show zyR _ _ _ _ [some (.ref (17 + 3))] [.ref (1 + 3), .int (0 : Int32), .ref (20 + 3)] _ _ from ?_)
  refine zy_1r (c := 1) rfl rfl rfl (show zyR _ _ _ _ [some (.ref (17 + 3))] [.ref (3 + 3), .int (0 : Int32), .ref (20 + 3)] _ _ from ?_)
  refine zy_3 rfl rfl (show zyR _ _ _ _ [some (.ref (17 + 3))] [.int (0 : Int32), .ref (3 + 3), .int (0 : Int32), .ref (20 + 3)] _ _ from ?_)
  refine zy_0 rfl rfl (show zyR _ _ _ _ [some (.ref (17 + 3))] [.ref (17 + 3), .int (0 : Int32), .ref (3 + 3), .int (0 : Int32), .ref (20 + 3)] _ _ from ?_)
  refine zy_1 (c := 17) rfl rfl rfl (show zyR _ _ _ _ [some (.ref (17 + 3))] [.int (s.1 17 4), .int (0 : Int32), .ref (3 + 3), .int (0 : Int32), .ref (20 + 3)] _ _ from ?_)
  obtain ⟨c1, h⟩ := zy_if h
  refine zy_64 (c0 := 20) (c1 := 3) rfl rfl rfl c1 (Nat.le_of_ble_eq_true rfl) (Nat.le_of_ble_eq_true rfl) (show zyR _ _ _ _ [some (.ref (17 + 3))] [] _ _ from ?_)
  refine zy_0 rfl rfl (show zyR _ _ _ _ [some (.ref (17 + 3))] [.ref (17 + 3)] _ _ from ?_)
  refine zy_1r (c := 17) rfl rfl rfl (show zyR _ _ _ _ [some (.ref (17 + 3))] [.ref (21 + 3)] _ _ from ?_)
  refine zy_3 rfl rfl (show zyR _ _ _ _ [some (.ref (17 + 3))] [.int (0 : Int32), .ref (21 + 3)] _ _ from ?_)
  refine zy_0 rfl rfl (show zyR _ _ _ _ [some (.ref (17 + 3))] [.ref (17 + 3), .int (0 : Int32), .ref (21 + 3)] _ _ from ?_)
  refine zy_1r (c := 17) rfl rfl rfl (show zyR _ _ _ _ [some (.ref (17 + 3))] [.ref (18 + 3), .int (0 : Int32), .ref (21 + 3)] _ _ from ?_)
  refine zy_3 rfl rfl (show zyR _ _ _ _ [some (.ref (17 + 3))] [.int (0 : Int32), .ref (18 + 3), .int (0 : Int32), .ref (21 + 3)] _ _ from ?_)
  refine zy_3 rfl rfl (show zyR _ _ _ _ [some (.ref (17 + 3))] [.int (5 : Int32), .int (0 : Int32), .ref (18 + 3), .int (0 : Int32), .ref (21 + 3)] _ _ from ?_)
  refine zy_64 (c0 := 21) (c1 := 18) rfl rfl rfl (by decide) (Nat.le_of_ble_eq_true rfl) (Nat.le_of_ble_eq_true rfl) (show zyR _ _ _ _ [some (.ref (17 + 3))] [] _ _ from ?_)
  cases h
  exact zy_66 rfl ⟨rfl, rfl⟩
/-! NineOpinions.back()I -/
noncomputable def zyF142    (s : zy_S) : Option (Int32 × zy_S) :=
if (s.1 17 2) ≠ 0 then
(zyF143 s).bind fun p1 =>
(zyF92 p1.2).bind fun p2 =>
some (p2.1, p2.2)
else
some ((-5 : Int32), s)
theorem zyC142 {X : zx_X}      {s : zy_S} {r : Int32} {s' : zy_S}  (h : zyF142 s = some (r, s')) : zyR X 3 142 0 [some (.ref (0 + 3))] [] s (zyE (some (.int r)) s') := by
  unfold zyF142 at h
  refine zy_0 rfl rfl (show zyR _ _ _ _ [some (.ref (0 + 3))] [.ref (0 + 3)] _ _ from ?_)
  refine zy_1r (c := 0) rfl rfl rfl (show zyR _ _ _ _ [some (.ref (0 + 3))] [.ref (17 + 3)] _ _ from ?_)
  refine zy_1 (c := 17) rfl rfl rfl (show zyR _ _ _ _ [some (.ref (0 + 3))] [.int (s.1 17 2)] _ _ from ?_)
  refine zy_24_1 rfl (fun b3 => (show zyR _ _ _ _ [some (.ref (0 + 3))] [] _ _ from ?_)) (fun b3 => (show zyR _ _ _ _ [some (.ref (0 + 3))] [] _ _ from ?_))
  · replace h := zy_ifp h b3
    refine zy_0 rfl rfl (show zyR _ _ _ _ [some (.ref (0 + 3))] [.ref (0 + 3)] _ _ from ?_)
    refine zy_1r (c := 0) rfl rfl rfl (show zyR _ _ _ _ [some (.ref (0 + 3))] [.ref (17 + 3)] _ _ from ?_)
    obtain ⟨p1, hp1, h⟩ := zy_bind h
    refine zy_5 (c := 17) (as := []) (rest := []) (L := [some (.ref (17 + 3))]) (d' := 1) rfl rfl rfl (Nat.le_of_ble_eq_true rfl) (Nat.le_of_ble_eq_true rfl) rfl (Nat.le_of_ble_eq_true rfl) rfl rfl (zyC143 hp1) ?_
    show zyR _ _ _ _ [some (.ref (0 + 3))] [] _ _
    refine zy_0 rfl rfl (show zyR _ _ _ _ [some (.ref (0 + 3))] [.ref (0 + 3)] _ _ from ?_)
    refine zy_1r (c := 0) rfl rfl rfl (show zyR _ _ _ _ [some (.ref (0 + 3))] [.ref (1 + 3)] _ _ from ?_)
    obtain ⟨p2, hp2, h⟩ := zy_bind h
    refine zy_5 (c := 1) (as := []) (rest := []) (L := [some (.ref (1 + 3))]) (d' := 2) rfl rfl rfl (Nat.le_of_ble_eq_true rfl) (Nat.le_of_ble_eq_true rfl) rfl (Nat.le_of_ble_eq_true rfl) rfl rfl (zyC92 hp2) ?_
    show zyR _ _ _ _ [some (.ref (0 + 3))] [.int p2.1] _ _
    obtain ⟨rfl, rfl⟩ := zy_pi h
    exact zy_4 rfl ⟨rfl, rfl⟩
  · replace h := zy_ifn h b3
    refine zy_3 rfl rfl (show zyR _ _ _ _ [some (.ref (0 + 3))] [.int (-5 : Int32)] _ _ from ?_)
    obtain ⟨rfl, rfl⟩ := zy_pi h
    exact zy_4 rfl ⟨rfl, rfl⟩
