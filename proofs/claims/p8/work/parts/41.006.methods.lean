/-! PART 41.06: methods as functions. Made by wip/v4/dcp.py. -/
/-! NineOpinions$Tape.add(I)I -/
noncomputable def zyF35   (x1 : Int32) (s : zy_S) : Option (Int32 × zy_S) :=
if zy_in (s.1 9 2) 120 then
some (((s.1 9 2) + (1 : Int32)), (zy_up (zy_up s 10 ((s.1 9 2)).toNatClampNeg x1) 9 2 ((s.1 9 2) + (1 : Int32))))
else none
theorem zyC35 {X : zx_X}     {x1 : Int32} {s : zy_S} {r : Int32} {s' : zy_S}  (h : zyF35 x1 s = some (r, s')) : zyR X 1 35 0 [some (.ref (9 + 3)), some (.int x1)] [] s (zyE (some (.int r)) s') := by
  unfold zyF35 at h
  refine zy_0 rfl rfl (show zyR _ _ _ _ [some (.ref (9 + 3)), some (.int x1)] [.ref (9 + 3)] _ _ from ?_)
  refine zy_1r (c := 9) rfl rfl rfl (show zyR _ _ _ _ [some (.ref (9 + 3)), some (.int x1)] [.ref (10 + 3)] _ _ from ?_)
  refine zy_0 rfl rfl (show zyR _ _ _ _ [some (.ref (9 + 3)), some (.int x1)] [.ref (9 + 3), .ref (10 + 3)] _ _ from ?_)
  refine zy_1 (c := 9) rfl rfl rfl (show zyR _ _ _ _ [some (.ref (9 + 3)), some (.int x1)] [.int (s.1 9 2), .ref (10 + 3)] _ _ from ?_)
  refine zy_2 rfl rfl (show zyR _ _ _ _ [some (.ref (9 + 3)), some (.int x1)] [.int x1, .int (s.1 9 2), .ref (10 + 3)] _ _ from ?_)
  obtain ⟨c1, h⟩ := zy_if h
  refine zy_27 (c := 10) rfl rfl c1 (show zyR _ _ _ _ [some (.ref (9 + 3)), some (.int x1)] [] _ _ from ?_)
  refine zy_0 rfl rfl (show zyR _ _ _ _ [some (.ref (9 + 3)), some (.int x1)] [.ref (9 + 3)] _ _ from ?_)
  refine zy_33 rfl rfl (show zyR _ _ _ _ [some (.ref (9 + 3)), some (.int x1)] [.ref (9 + 3), .ref (9 + 3)] _ _ from ?_)
  refine zy_1 (c := 9) rfl rfl rfl (show zyR _ _ _ _ [some (.ref (9 + 3)), some (.int x1)] [.int (s.1 9 2), .ref (9 + 3)] _ _ from ?_)
  refine zy_3 rfl rfl (show zyR _ _ _ _ [some (.ref (9 + 3)), some (.int x1)] [.int (1 : Int32), .int (s.1 9 2), .ref (9 + 3)] _ _ from ?_)
  refine zy_10 rfl (show zyR _ _ _ _ [some (.ref (9 + 3)), some (.int x1)] [.int ((s.1 9 2) + (1 : Int32)), .ref (9 + 3)] _ _ from ?_)
  refine zy_52 (c := 9) rfl rfl rfl (show zyR _ _ _ _ [some (.ref (9 + 3)), some (.int x1)] [] _ _ from ?_)
  refine zy_0 rfl rfl (show zyR _ _ _ _ [some (.ref (9 + 3)), some (.int x1)] [.ref (9 + 3)] _ _ from ?_)
  refine zy_1 (c := 9) rfl rfl rfl (show zyR _ _ _ _ [some (.ref (9 + 3)), some (.int x1)] [.int ((s.1 9 2) + (1 : Int32))] _ _ from ?_)
  obtain ⟨rfl, rfl⟩ := zy_pi h
  exact zy_4 rfl ⟨rfl, rfl⟩
/-! NineOpinions.feed(I)I -/
noncomputable def zyF33   (x1 : Int32) (s : zy_S) : Option (Int32 × zy_S) :=
if x1 < 0 then
some ((-1 : Int32), s)
else
if x1 ≤ (255 : Int32) then
(zyF34 s).bind fun p1 =>
if p1.1 = 0 then
(zyF35 x1 p1.2).bind fun p2 =>
some (p2.1, p2.2)
else
some ((-3 : Int32), p1.2)
else
some ((-1 : Int32), s)
theorem zyC33 {X : zx_X}     {x1 : Int32} {s : zy_S} {r : Int32} {s' : zy_S}  (h : zyF33 x1 s = some (r, s')) : zyR X 2 33 0 [some (.ref (0 + 3)), some (.int x1)] [] s (zyE (some (.int r)) s') := by
  unfold zyF33 at h
  refine zy_2 rfl rfl (show zyR _ _ _ _ [some (.ref (0 + 3)), some (.int x1)] [.int x1] _ _ from ?_)
  refine zy_24_2 rfl (fun b5 => (show zyR _ _ _ _ [some (.ref (0 + 3)), some (.int x1)] [] _ _ from ?_)) (fun b5 => (show zyR _ _ _ _ [some (.ref (0 + 3)), some (.int x1)] [] _ _ from ?_))
  · replace h := zy_ifp h b5
    refine zy_3 rfl rfl (show zyR _ _ _ _ [some (.ref (0 + 3)), some (.int x1)] [.int (-1 : Int32)] _ _ from ?_)
    obtain ⟨rfl, rfl⟩ := zy_pi h
    exact zy_4 rfl ⟨rfl, rfl⟩
  · replace h := zy_ifn h b5
    refine zy_2 rfl rfl (show zyR _ _ _ _ [some (.ref (0 + 3)), some (.int x1)] [.int x1] _ _ from ?_)
    refine zy_3 rfl rfl (show zyR _ _ _ _ [some (.ref (0 + 3)), some (.int x1)] [.int (255 : Int32), .int x1] _ _ from ?_)
    refine zy_25_5 rfl (fun b4 => (show zyR _ _ _ _ [some (.ref (0 + 3)), some (.int x1)] [] _ _ from ?_)) (fun b4 => (show zyR _ _ _ _ [some (.ref (0 + 3)), some (.int x1)] [] _ _ from ?_))
    · replace h := zy_ifp h b4
      refine zy_0 rfl rfl (show zyR _ _ _ _ [some (.ref (0 + 3)), some (.int x1)] [.ref (0 + 3)] _ _ from ?_)
      refine zy_1r (c := 0) rfl rfl rfl (show zyR _ _ _ _ [some (.ref (0 + 3)), some (.int x1)] [.ref (9 + 3)] _ _ from ?_)
      obtain ⟨p1, hp1, h⟩ := zy_bind h
      refine zy_5 (c := 9) (as := []) (rest := []) (L := [some (.ref (9 + 3))]) (d' := 1) rfl rfl rfl (Nat.le_of_ble_eq_true rfl) (Nat.le_of_ble_eq_true rfl) rfl (Nat.le_of_ble_eq_true rfl) rfl rfl (zyC34 hp1) ?_
      show zyR _ _ _ _ [some (.ref (0 + 3)), some (.int x1)] [.int p1.1] _ _
      refine zy_24_0 rfl (fun b3 => (show zyR _ _ _ _ [some (.ref (0 + 3)), some (.int x1)] [] _ _ from ?_)) (fun b3 => (show zyR _ _ _ _ [some (.ref (0 + 3)), some (.int x1)] [] _ _ from ?_))
      · replace h := zy_ifp h b3
        refine zy_0 rfl rfl (show zyR _ _ _ _ [some (.ref (0 + 3)), some (.int x1)] [.ref (0 + 3)] _ _ from ?_)
        refine zy_1r (c := 0) rfl rfl rfl (show zyR _ _ _ _ [some (.ref (0 + 3)), some (.int x1)] [.ref (9 + 3)] _ _ from ?_)
        refine zy_2 rfl rfl (show zyR _ _ _ _ [some (.ref (0 + 3)), some (.int x1)] [.int x1, .ref (9 + 3)] _ _ from ?_)
        obtain ⟨p2, hp2, h⟩ := zy_bind h
        refine zy_5 (c := 9) (as := [.int x1]) (rest := []) (L := [some (.ref (9 + 3)), some (.int x1)]) (d' := 1) rfl rfl rfl (Nat.le_of_ble_eq_true rfl) (Nat.le_of_ble_eq_true rfl) rfl (Nat.le_of_ble_eq_true rfl) rfl rfl (zyC35 hp2) ?_
        show zyR _ _ _ _ [some (.ref (0 + 3)), some (.int x1)] [.int p2.1] _ _
        obtain ⟨rfl, rfl⟩ := zy_pi h
        exact zy_4 rfl ⟨rfl, rfl⟩
      · replace h := zy_ifn h b3
        refine zy_3 rfl rfl (show zyR _ _ _ _ [some (.ref (0 + 3)), some (.int x1)] [.int (-3 : Int32)] _ _ from ?_)
        refine zy_6 rfl (show zyR _ _ _ _ [some (.ref (0 + 3)), some (.int x1)] [.int (-3 : Int32)] _ _ from ?_)
        obtain ⟨rfl, rfl⟩ := zy_pi h
        exact zy_4 rfl ⟨rfl, rfl⟩
    · replace h := zy_ifn h b4
      refine zy_3 rfl rfl (show zyR _ _ _ _ [some (.ref (0 + 3)), some (.int x1)] [.int (-1 : Int32)] _ _ from ?_)
      obtain ⟨rfl, rfl⟩ := zy_pi h
      exact zy_4 rfl ⟨rfl, rfl⟩
/-! NineOpinions.bit(II)I -/
noncomputable def zyF32   (x0 : Int32) (x1 : Int32) (s : zy_S) : Option (Int32 × zy_S) :=
some (((x0 >>> (x1 &&& 31)) &&& (1 : Int32)), s)
theorem zyC32 {X : zx_X}     {x0 : Int32} {x1 : Int32} {s : zy_S} {r : Int32} {s' : zy_S}  (h : zyF32 x0 x1 s = some (r, s')) : zyR X 1 32 0 [some (.int x0), some (.int x1)] [] s (zyE (some (.int r)) s') := by
  unfold zyF32 at h
  refine zy_2 rfl rfl (show zyR _ _ _ _ [some (.int x0), some (.int x1)] [.int x0] _ _ from ?_)
  refine zy_2 rfl rfl (show zyR _ _ _ _ [some (.int x0), some (.int x1)] [.int x1, .int x0] _ _ from ?_)
  refine zy_17 rfl (show zyR _ _ _ _ [some (.int x0), some (.int x1)] [.int (x0 >>> (x1 &&& 31))] _ _ from ?_)
  refine zy_3 rfl rfl (show zyR _ _ _ _ [some (.int x0), some (.int x1)] [.int (1 : Int32), .int (x0 >>> (x1 &&& 31))] _ _ from ?_)
  refine zy_13 rfl (show zyR _ _ _ _ [some (.int x0), some (.int x1)] [.int ((x0 >>> (x1 &&& 31)) &&& (1 : Int32))] _ _ from ?_)
  obtain ⟨rfl, rfl⟩ := zy_pi h
  exact zy_4 rfl ⟨rfl, rfl⟩
/-! NineOpinions$Town.stands(I)Z -/
noncomputable def zyF86   (x1 : Int32) (s : zy_S) : Option (Int32 × zy_S) :=
(zyF32 (s.1 1 3) x1 s).bind fun p1 =>
if p1.1 ≠ (1 : Int32) then
some ((0 : Int32), p1.2)
else
some ((1 : Int32), p1.2)
theorem zyC86 {X : zx_X}     {x1 : Int32} {s : zy_S} {r : Int32} {s' : zy_S}  (h : zyF86 x1 s = some (r, s')) : zyR X 2 86 0 [some (.ref (1 + 3)), some (.int x1)] [] s (zyE (some (.int r)) s') := by
  unfold zyF86 at h
  refine zy_0 rfl rfl (show zyR _ _ _ _ [some (.ref (1 + 3)), some (.int x1)] [.ref (1 + 3)] _ _ from ?_)
  refine zy_1 (c := 1) rfl rfl rfl (show zyR _ _ _ _ [some (.ref (1 + 3)), some (.int x1)] [.int (s.1 1 3)] _ _ from ?_)
  refine zy_2 rfl rfl (show zyR _ _ _ _ [some (.ref (1 + 3)), some (.int x1)] [.int x1, .int (s.1 1 3)] _ _ from ?_)
  obtain ⟨p1, hp1, h⟩ := zy_bind h
  refine zy_61 (as := [.int (s.1 1 3), .int x1]) (rest := []) (L := [some (.int (s.1 1 3)), some (.int x1)]) (d' := 1) rfl rfl (Nat.le_of_ble_eq_true rfl) (Nat.le_of_ble_eq_true rfl) rfl (Nat.le_of_ble_eq_true rfl) rfl rfl (zyC32 hp1) ?_
  show zyR _ _ _ _ [some (.ref (1 + 3)), some (.int x1)] [.int p1.1] _ _
  refine zy_3 rfl rfl (show zyR _ _ _ _ [some (.ref (1 + 3)), some (.int x1)] [.int (1 : Int32), .int p1.1] _ _ from ?_)
  refine zy_25_1 rfl (fun b2 => (show zyR _ _ _ _ [some (.ref (1 + 3)), some (.int x1)] [] _ _ from ?_)) (fun b2 => (show zyR _ _ _ _ [some (.ref (1 + 3)), some (.int x1)] [] _ _ from ?_))
  · replace h := zy_ifp h b2
    refine zy_3 rfl rfl (show zyR _ _ _ _ [some (.ref (1 + 3)), some (.int x1)] [.int (0 : Int32)] _ _ from ?_)
    cases h
    exact zy_4b rfl ⟨rfl, rfl⟩ (Or.inl rfl)
  · replace h := zy_ifn h b2
    refine zy_3 rfl rfl (show zyR _ _ _ _ [some (.ref (1 + 3)), some (.int x1)] [.int (1 : Int32)] _ _ from ?_)
    refine zy_6 rfl (show zyR _ _ _ _ [some (.ref (1 + 3)), some (.int x1)] [.int (1 : Int32)] _ _ from ?_)
    cases h
    exact zy_4b rfl ⟨rfl, rfl⟩ (Or.inr rfl)
