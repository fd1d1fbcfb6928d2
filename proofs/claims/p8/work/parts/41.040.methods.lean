/-! PART 41.40: methods as functions. Made by wip/v4/dcp.py. -/
/-! NineOpinionsModel.judge(II)I -/
noncomputable def zyF228   (x1 : Int32) (x2 : Int32) (s : zy_S) : Option (Int32 × zy_S) :=
(zyF229 x1 s).bind fun p1 =>
if p1.1 = (-1 : Int32) then
some ((-1 : Int32), p1.2)
else
(zyF185 (x2).toInt64 p1.2).bind fun p2 =>
if p2.1 ≠ 0 then
(zyF229 x1 p2.2).bind fun p3 =>
if 0 ≤ p3.1 then
if zy_in x2 41 then
(zyF230 x1 (p3.2.1 44 (x2).toNatClampNeg) p3.2).bind fun p5 =>
some (p5.1, p5.2)
else none
else
(zyF229 x1 p3.2).bind fun p6 =>
some (p6.1, p6.2)
else
some ((-1 : Int32), p2.2)
theorem zyC228 {X : zx_X}     {x1 : Int32} {x2 : Int32} {s : zy_S} {r : Int32} {s' : zy_S}  (h : zyF228 x1 x2 s = some (r, s')) : zyR X 4 228 0 [some (.ref (43 + 3)), some (.int x1), some (.int x2)] [] s (zyE (some (.int r)) s') := by
  unfold zyF228 at h
  refine zy_0 rfl rfl (show zyR _ _ _ _ [some (.ref (43 + 3)), some (.int x1), some (.int x2)] [.ref (43 + 3)] _ _ from ?_)
  refine zy_2 rfl rfl (show zyR _ _ _ _ [some (.ref (43 + 3)), some (.int x1), some (.int x2)] [.int x1, .ref (43 + 3)] _ _ from ?_)
  obtain ⟨p1, hp1, h⟩ := zy_bind h
  refine zy_5 (c := 43) (as := [.int x1]) (rest := []) (L := [some (.ref (43 + 3)), some (.int x1)]) (d' := 3) rfl rfl rfl (Nat.le_of_ble_eq_true rfl) (Nat.le_of_ble_eq_true rfl) rfl (Nat.le_of_ble_eq_true rfl) rfl rfl (zyC229 hp1) ?_
  show zyR _ _ _ _ [some (.ref (43 + 3)), some (.int x1), some (.int x2)] [.int p1.1] _ _
  refine zy_3 rfl rfl (show zyR _ _ _ _ [some (.ref (43 + 3)), some (.int x1), some (.int x2)] [.int (-1 : Int32), .int p1.1] _ _ from ?_)
  refine zy_25_0 rfl (fun b9 => (show zyR _ _ _ _ [some (.ref (43 + 3)), some (.int x1), some (.int x2)] [] _ _ from ?_)) (fun b9 => (show zyR _ _ _ _ [some (.ref (43 + 3)), some (.int x1), some (.int x2)] [] _ _ from ?_))
  · replace h := zy_ifp h b9
    refine zy_3 rfl rfl (show zyR _ _ _ _ [some (.ref (43 + 3)), some (.int x1), some (.int x2)] [.int (-1 : Int32)] _ _ from ?_)
    refine zy_6 rfl (show zyR _ _ _ _ [some (.ref (43 + 3)), some (.int x1), some (.int x2)] [.int (-1 : Int32)] _ _ from ?_)
    obtain ⟨rfl, rfl⟩ := zy_pi h
    exact zy_4 rfl ⟨rfl, rfl⟩
  · replace h := zy_ifn h b9
    refine zy_0 rfl rfl (show zyR _ _ _ _ [some (.ref (43 + 3)), some (.int x1), some (.int x2)] [.ref (43 + 3)] _ _ from ?_)
    refine zy_2 rfl rfl (show zyR _ _ _ _ [some (.ref (43 + 3)), some (.int x1), some (.int x2)] [.int x2, .ref (43 + 3)] _ _ from ?_)
    refine zy_40 rfl (show zyR _ _ _ _ [some (.ref (43 + 3)), some (.int x1), some (.int x2)] [.long (x2).toInt64, .ref (43 + 3)] _ _ from ?_)
    obtain ⟨p2, hp2, h⟩ := zy_bind h
    refine zy_5 (c := 43) (as := [.long (x2).toInt64]) (rest := []) (L := [some (.ref (43 + 3)), some (.long (x2).toInt64), none]) (d' := 2) rfl rfl rfl (Nat.le_of_ble_eq_true rfl) (Nat.le_of_ble_eq_true rfl) rfl (Nat.le_of_ble_eq_true rfl) rfl rfl (zyC185 hp2) ?_
    show zyR _ _ _ _ [some (.ref (43 + 3)), some (.int x1), some (.int x2)] [.int p2.1] _ _
    refine zy_24_1 rfl (fun b8 => (show zyR _ _ _ _ [some (.ref (43 + 3)), some (.int x1), some (.int x2)] [] _ _ from ?_)) (fun b8 => (show zyR _ _ _ _ [some (.ref (43 + 3)), some (.int x1), some (.int x2)] [] _ _ from ?_))
    · replace h := zy_ifp h b8
      refine zy_0 rfl rfl (show zyR _ _ _ _ [some (.ref (43 + 3)), some (.int x1), some (.int x2)] [.ref (43 + 3)] _ _ from ?_)
      refine zy_2 rfl rfl (show zyR _ _ _ _ [some (.ref (43 + 3)), some (.int x1), some (.int x2)] [.int x1, .ref (43 + 3)] _ _ from ?_)
      obtain ⟨p3, hp3, h⟩ := zy_bind h
      refine zy_5 (c := 43) (as := [.int x1]) (rest := []) (L := [some (.ref (43 + 3)), some (.int x1)]) (d' := 3) rfl rfl rfl (Nat.le_of_ble_eq_true rfl) (Nat.le_of_ble_eq_true rfl) rfl (Nat.le_of_ble_eq_true rfl) rfl rfl (zyC229 hp3) ?_
      show zyR _ _ _ _ [some (.ref (43 + 3)), some (.int x1), some (.int x2)] [.int p3.1] _ _
      refine zy_24_3 rfl (fun b7 => (show zyR _ _ _ _ [some (.ref (43 + 3)), some (.int x1), some (.int x2)] [] _ _ from ?_)) (fun b7 => (show zyR _ _ _ _ [some (.ref (43 + 3)), some (.int x1), some (.int x2)] [] _ _ from ?_))
      · replace h := zy_ifp h b7
        refine zy_0 rfl rfl (show zyR _ _ _ _ [some (.ref (43 + 3)), some (.int x1), some (.int x2)] [.ref (43 + 3)] _ _ from ?_)
        refine zy_2 rfl rfl (show zyR _ _ _ _ [some (.ref (43 + 3)), some (.int x1), some (.int x2)] [.int x1, .ref (43 + 3)] _ _ from ?_)
        refine zy_0 rfl rfl (show zyR _ _ _ _ [some (.ref (43 + 3)), some (.int x1), some (.int x2)] [.ref (43 + 3), .int x1, .ref (43 + 3)] _ _ from ?_)
        refine zy_1r (c := 43) rfl rfl rfl (show zyR _ _ _ _ [some (.ref (43 + 3)), some (.int x1), some (.int x2)] [.ref (44 + 3), .int x1, .ref (43 + 3)] _ _ from ?_)
        refine zy_2 rfl rfl (show zyR _ _ _ _ [some (.ref (43 + 3)), some (.int x1), some (.int x2)] [.int x2, .ref (44 + 3), .int x1, .ref (43 + 3)] _ _ from ?_)
        obtain ⟨c4, h⟩ := zy_if h
        refine zy_26 (c := 44) rfl rfl c4 (show zyR _ _ _ _ [some (.ref (43 + 3)), some (.int x1), some (.int x2)] [.int (p3.2.1 44 (x2).toNatClampNeg), .int x1, .ref (43 + 3)] _ _ from ?_)
        obtain ⟨p5, hp5, h⟩ := zy_bind h
        refine zy_5 (c := 43) (as := [.int x1, .int (p3.2.1 44 (x2).toNatClampNeg)]) (rest := []) (L := [some (.ref (43 + 3)), some (.int x1), some (.int (p3.2.1 44 (x2).toNatClampNeg)), none, none, none]) (d' := 3) rfl rfl rfl (Nat.le_of_ble_eq_true rfl) (Nat.le_of_ble_eq_true rfl) rfl (Nat.le_of_ble_eq_true rfl) rfl rfl (zyC230 hp5) ?_
        show zyR _ _ _ _ [some (.ref (43 + 3)), some (.int x1), some (.int x2)] [.int p5.1] _ _
        obtain ⟨rfl, rfl⟩ := zy_pi h
        exact zy_4 rfl ⟨rfl, rfl⟩
      · replace h := zy_ifn h b7
        refine zy_0 rfl rfl (show zyR _ _ _ _ [some (.ref (43 + 3)), some (.int x1), some (.int x2)] [.ref (43 + 3)] _ _ from ?_)
        refine zy_2 rfl rfl (show zyR _ _ _ _ [some (.ref (43 + 3)), some (.int x1), some (.int x2)] [.int x1, .ref (43 + 3)] _ _ from ?_)
        obtain ⟨p6, hp6, h⟩ := zy_bind h
        refine zy_5 (c := 43) (as := [.int x1]) (rest := []) (L := [some (.ref (43 + 3)), some (.int x1)]) (d' := 3) rfl rfl rfl (Nat.le_of_ble_eq_true rfl) (Nat.le_of_ble_eq_true rfl) rfl (Nat.le_of_ble_eq_true rfl) rfl rfl (zyC229 hp6) ?_
        show zyR _ _ _ _ [some (.ref (43 + 3)), some (.int x1), some (.int x2)] [.int p6.1] _ _
        refine zy_6 rfl (show zyR _ _ _ _ [some (.ref (43 + 3)), some (.int x1), some (.int x2)] [.int p6.1] _ _ from ?_)
        obtain ⟨rfl, rfl⟩ := zy_pi h
        exact zy_4 rfl ⟨rfl, rfl⟩
    · replace h := zy_ifn h b8
      refine zy_3 rfl rfl (show zyR _ _ _ _ [some (.ref (43 + 3)), some (.int x1), some (.int x2)] [.int (-1 : Int32)] _ _ from ?_)
      refine zy_6 rfl (show zyR _ _ _ _ [some (.ref (43 + 3)), some (.int x1), some (.int x2)] [.int (-1 : Int32)] _ _ from ?_)
      obtain ⟨rfl, rfl⟩ := zy_pi h
      exact zy_4 rfl ⟨rfl, rfl⟩
/-! NineOpinions.isOneOfTwo(I)Z -/
noncomputable def zyF84   (x0 : Int32) (s : zy_S) : Option (Int32 × zy_S) :=
if x0 = 0 then
some ((1 : Int32), s)
else
if x0 ≠ (1 : Int32) then
some ((0 : Int32), s)
else
some ((1 : Int32), s)
theorem zyC84 {X : zx_X}     {x0 : Int32} {s : zy_S} {r : Int32} {s' : zy_S}  (h : zyF84 x0 s = some (r, s')) : zyR X 1 84 0 [some (.int x0)] [] s (zyE (some (.int r)) s') := by
  unfold zyF84 at h
  refine zy_2 rfl rfl (show zyR _ _ _ _ [some (.int x0)] [.int x0] _ _ from ?_)
  refine zy_24_0 rfl (fun b2 => (show zyR _ _ _ _ [some (.int x0)] [] _ _ from ?_)) (fun b2 => (show zyR _ _ _ _ [some (.int x0)] [] _ _ from ?_))
  · replace h := zy_ifp h b2
    refine zy_3 rfl rfl (show zyR _ _ _ _ [some (.int x0)] [.int (1 : Int32)] _ _ from ?_)
    refine zy_6 rfl (show zyR _ _ _ _ [some (.int x0)] [.int (1 : Int32)] _ _ from ?_)
    cases h
    exact zy_4b rfl ⟨rfl, rfl⟩ (Or.inr rfl)
  · replace h := zy_ifn h b2
    refine zy_2 rfl rfl (show zyR _ _ _ _ [some (.int x0)] [.int x0] _ _ from ?_)
    refine zy_3 rfl rfl (show zyR _ _ _ _ [some (.int x0)] [.int (1 : Int32), .int x0] _ _ from ?_)
    refine zy_25_1 rfl (fun b1 => (show zyR _ _ _ _ [some (.int x0)] [] _ _ from ?_)) (fun b1 => (show zyR _ _ _ _ [some (.int x0)] [] _ _ from ?_))
    · replace h := zy_ifp h b1
      refine zy_3 rfl rfl (show zyR _ _ _ _ [some (.int x0)] [.int (0 : Int32)] _ _ from ?_)
      cases h
      exact zy_4b rfl ⟨rfl, rfl⟩ (Or.inl rfl)
    · replace h := zy_ifn h b1
      refine zy_3 rfl rfl (show zyR _ _ _ _ [some (.int x0)] [.int (1 : Int32)] _ _ from ?_)
      refine zy_6 rfl (show zyR _ _ _ _ [some (.int x0)] [.int (1 : Int32)] _ _ from ?_)
      cases h
      exact zy_4b rfl ⟨rfl, rfl⟩ (Or.inr rfl)
/-! java/lang/Math.abs(I)I -/
noncomputable def zyF62   (x0 : Int32) (s : zy_S) : Option (Int32 × zy_S) :=
if 0 ≤ x0 then
some (x0, s)
else
some ((-x0), s)
theorem zyC62 {X : zx_X}     {x0 : Int32} {s : zy_S} {r : Int32} {s' : zy_S}  (h : zyF62 x0 s = some (r, s')) : zyR X 1 62 0 [some (.int x0)] [] s (zyE (some (.int r)) s') := by
  unfold zyF62 at h
  refine zy_2 rfl rfl (show zyR _ _ _ _ [some (.int x0)] [.int x0] _ _ from ?_)
  refine zy_24_3 rfl (fun b1 => (show zyR _ _ _ _ [some (.int x0)] [] _ _ from ?_)) (fun b1 => (show zyR _ _ _ _ [some (.int x0)] [] _ _ from ?_))
  · replace h := zy_ifp h b1
    refine zy_2 rfl rfl (show zyR _ _ _ _ [some (.int x0)] [.int x0] _ _ from ?_)
    obtain ⟨rfl, rfl⟩ := zy_pi h
    exact zy_4 rfl ⟨rfl, rfl⟩
  · replace h := zy_ifn h b1
    refine zy_2 rfl rfl (show zyR _ _ _ _ [some (.int x0)] [.int x0] _ _ from ?_)
    refine zy_21 rfl (show zyR _ _ _ _ [some (.int x0)] [.int (-x0)] _ _ from ?_)
    refine zy_6 rfl (show zyR _ _ _ _ [some (.int x0)] [.int (-x0)] _ _ from ?_)
    obtain ⟨rfl, rfl⟩ := zy_pi h
    exact zy_4 rfl ⟨rfl, rfl⟩
/-! NineOpinions$Votes.apartOn(III)I -/
noncomputable def zyF121   (x1 : Int32) (x2 : Int32) (x3 : Int32) (s : zy_S) : Option (Int32 × zy_S) :=
if zy_in x2 8 then
(zyF60 (s.1 3 (x2).toNatClampNeg) x1 s).bind fun p2 =>
if zy_in x3 8 then
(zyF60 (p2.2.1 3 (x3).toNatClampNeg) x1 p2.2).bind fun p4 =>
(zyF62 (p2.1 - p4.1) p4.2).bind fun p5 =>
some (p5.1, p5.2)
else none
else none
theorem zyC121 {X : zx_X}     {x1 : Int32} {x2 : Int32} {x3 : Int32} {s : zy_S} {r : Int32} {s' : zy_S}  (h : zyF121 x1 x2 x3 s = some (r, s')) : zyR X 2 121 0 [some (.ref (16 + 3)), some (.int x1), some (.int x2), some (.int x3)] [] s (zyE (some (.int r)) s') := by
  unfold zyF121 at h
  refine zy_0 rfl rfl (show zyR _ _ _ _ [some (.ref (16 + 3)), some (.int x1), some (.int x2), some (.int x3)] [.ref (16 + 3)] _ _ from ?_)
  refine zy_1r (c := 16) rfl rfl rfl (show zyR _ _ _ _ [some (.ref (16 + 3)), some (.int x1), some (.int x2), some (.int x3)] [.ref (1 + 3)] _ _ from ?_)
  refine zy_1r (c := 1) rfl rfl rfl (show zyR _ _ _ _ [some (.ref (16 + 3)), some (.int x1), some (.int x2), some (.int x3)] [.ref (3 + 3)] _ _ from ?_)
  refine zy_2 rfl rfl (show zyR _ _ _ _ [some (.ref (16 + 3)), some (.int x1), some (.int x2), some (.int x3)] [.int x2, .ref (3 + 3)] _ _ from ?_)
  obtain ⟨c1, h⟩ := zy_if h
  refine zy_26 (c := 3) rfl rfl c1 (show zyR _ _ _ _ [some (.ref (16 + 3)), some (.int x1), some (.int x2), some (.int x3)] [.int (s.1 3 (x2).toNatClampNeg)] _ _ from ?_)
  refine zy_2 rfl rfl (show zyR _ _ _ _ [some (.ref (16 + 3)), some (.int x1), some (.int x2), some (.int x3)] [.int x1, .int (s.1 3 (x2).toNatClampNeg)] _ _ from ?_)
  obtain ⟨p2, hp2, h⟩ := zy_bind h
  refine zy_61 (as := [.int (s.1 3 (x2).toNatClampNeg), .int x1]) (rest := []) (L := [some (.int (s.1 3 (x2).toNatClampNeg)), some (.int x1)]) (d' := 1) rfl rfl (Nat.le_of_ble_eq_true rfl) (Nat.le_of_ble_eq_true rfl) rfl (Nat.le_of_ble_eq_true rfl) rfl rfl (zyC60 hp2) ?_
  show zyR _ _ _ _ [some (.ref (16 + 3)), some (.int x1), some (.int x2), some (.int x3)] [.int p2.1] _ _
  refine zy_0 rfl rfl (show zyR _ _ _ _ [some (.ref (16 + 3)), some (.int x1), some (.int x2), some (.int x3)] [.ref (16 + 3), .int p2.1] _ _ from ?_)
  refine zy_1r (c := 16) rfl rfl rfl (show zyR _ _ _ _ [some (.ref (16 + 3)), some (.int x1), some (.int x2), some (.int x3)] [.ref (1 + 3), .int p2.1] _ _ from ?_)
  refine zy_1r (c := 1) rfl rfl rfl (show zyR _ _ _ _ [some (.ref (16 + 3)), some (.int x1), some (.int x2), some (.int x3)] [.ref (3 + 3), .int p2.1] _ _ from ?_)
  refine zy_2 rfl rfl (show zyR _ _ _ _ [some (.ref (16 + 3)), some (.int x1), some (.int x2), some (.int x3)] [.int x3, .ref (3 + 3), .int p2.1] _ _ from ?_)
  obtain ⟨c3, h⟩ := zy_if h
  refine zy_26 (c := 3) rfl rfl c3 (show zyR _ _ _ _ [some (.ref (16 + 3)), some (.int x1), some (.int x2), some (.int x3)] [.int (p2.2.1 3 (x3).toNatClampNeg), .int p2.1] _ _ from ?_)
  refine zy_2 rfl rfl (show zyR _ _ _ _ [some (.ref (16 + 3)), some (.int x1), some (.int x2), some (.int x3)] [.int x1, .int (p2.2.1 3 (x3).toNatClampNeg), .int p2.1] _ _ from ?_)
  obtain ⟨p4, hp4, h⟩ := zy_bind h
  refine zy_61 (as := [.int (p2.2.1 3 (x3).toNatClampNeg), .int x1]) (rest := [.int p2.1]) (L := [some (.int (p2.2.1 3 (x3).toNatClampNeg)), some (.int x1)]) (d' := 1) rfl rfl (Nat.le_of_ble_eq_true rfl) (Nat.le_of_ble_eq_true rfl) rfl (Nat.le_of_ble_eq_true rfl) rfl rfl (zyC60 hp4) ?_
  show zyR _ _ _ _ [some (.ref (16 + 3)), some (.int x1), some (.int x2), some (.int x3)] [.int p4.1, .int p2.1] _ _
  refine zy_11 rfl (show zyR _ _ _ _ [some (.ref (16 + 3)), some (.int x1), some (.int x2), some (.int x3)] [.int (p2.1 - p4.1)] _ _ from ?_)
  obtain ⟨p5, hp5, h⟩ := zy_bind h
  refine zy_60 (as := [.int (p2.1 - p4.1)]) (rest := []) (L := [some (.int (p2.1 - p4.1))]) (d' := 1) rfl rfl (Nat.le_of_ble_eq_true rfl) (Nat.le_of_ble_eq_true rfl) rfl (Nat.le_of_ble_eq_true rfl) rfl rfl (zyC62 hp5) ?_
  show zyR _ _ _ _ [some (.ref (16 + 3)), some (.int x1), some (.int x2), some (.int x3)] [.int p5.1] _ _
  obtain ⟨rfl, rfl⟩ := zy_pi h
  exact zy_4 rfl ⟨rfl, rfl⟩
