/-! PART 41.02: methods as functions. Made by wip/v4/dcp.py. -/
/-! java/lang/Integer.bitCount(I)I -/
noncomputable def zyF63_48   (x0 : Int32) (s : zy_S) : Option (Int32 × zy_S) :=
some ((x0 &&& (63 : Int32)), s)
theorem zyC63_48 {X : zx_X}     {x0 : Int32} {s : zy_S} {r : Int32} {s' : zy_S}  (h : zyF63_48 x0 s = some (r, s')) : zyR X 1 63 48 [some (.int x0)] [] s (zyE (some (.int r)) s') := by
  unfold zyF63_48 at h
  refine zy_2 rfl rfl (show zyR _ _ _ _ [some (.int x0)] [.int x0] _ _ from ?_)
  refine zy_3 rfl rfl (show zyR _ _ _ _ [some (.int x0)] [.int (63 : Int32), .int x0] _ _ from ?_)
  refine zy_13 rfl (show zyR _ _ _ _ [some (.int x0)] [.int (x0 &&& (63 : Int32))] _ _ from ?_)
  obtain ⟨rfl, rfl⟩ := zy_pi h
  exact zy_4 rfl ⟨rfl, rfl⟩
noncomputable def zyF63_41   (x0 : Int32) (s : zy_S) : Option (Int32 × zy_S) :=
zyF63_48 (x0 + ((x0).toUInt32 >>> (((16 : Int32)).toUInt32 &&& Int32.toUInt32 31)).toInt32) s
theorem zyC63_41 {X : zx_X}     {x0 : Int32} {s : zy_S} {r : Int32} {s' : zy_S}  (h : zyF63_41 x0 s = some (r, s')) : zyR X 1 63 41 [some (.int x0)] [] s (zyE (some (.int r)) s') := by
  unfold zyF63_41 at h
  refine zy_2 rfl rfl (show zyR _ _ _ _ [some (.int x0)] [.int x0] _ _ from ?_)
  refine zy_2 rfl rfl (show zyR _ _ _ _ [some (.int x0)] [.int x0, .int x0] _ _ from ?_)
  refine zy_3 rfl rfl (show zyR _ _ _ _ [some (.int x0)] [.int (16 : Int32), .int x0, .int x0] _ _ from ?_)
  refine zy_18 rfl (show zyR _ _ _ _ [some (.int x0)] [.int ((x0).toUInt32 >>> (((16 : Int32)).toUInt32 &&& Int32.toUInt32 31)).toInt32, .int x0] _ _ from ?_)
  refine zy_10 rfl (show zyR _ _ _ _ [some (.int x0)] [.int (x0 + ((x0).toUInt32 >>> (((16 : Int32)).toUInt32 &&& Int32.toUInt32 31)).toInt32)] _ _ from ?_)
  refine zy_23 rfl rfl (show zyR _ _ _ _ [some (.int (x0 + ((x0).toUInt32 >>> (((16 : Int32)).toUInt32 &&& Int32.toUInt32 31)).toInt32))] [] _ _ from ?_)
  exact zy_sub (show zy_le [some (.int (x0 + ((x0).toUInt32 >>> (((16 : Int32)).toUInt32 &&& Int32.toUInt32 31)).toInt32))] [some (.int (x0 + ((x0).toUInt32 >>> (((16 : Int32)).toUInt32 &&& Int32.toUInt32 31)).toInt32))] from ⟨rfl, trivial⟩) (zyC63_48 h)
noncomputable def zyF63_34   (x0 : Int32) (s : zy_S) : Option (Int32 × zy_S) :=
zyF63_41 (x0 + ((x0).toUInt32 >>> (((8 : Int32)).toUInt32 &&& Int32.toUInt32 31)).toInt32) s
theorem zyC63_34 {X : zx_X}     {x0 : Int32} {s : zy_S} {r : Int32} {s' : zy_S}  (h : zyF63_34 x0 s = some (r, s')) : zyR X 1 63 34 [some (.int x0)] [] s (zyE (some (.int r)) s') := by
  unfold zyF63_34 at h
  refine zy_2 rfl rfl (show zyR _ _ _ _ [some (.int x0)] [.int x0] _ _ from ?_)
  refine zy_2 rfl rfl (show zyR _ _ _ _ [some (.int x0)] [.int x0, .int x0] _ _ from ?_)
  refine zy_3 rfl rfl (show zyR _ _ _ _ [some (.int x0)] [.int (8 : Int32), .int x0, .int x0] _ _ from ?_)
  refine zy_18 rfl (show zyR _ _ _ _ [some (.int x0)] [.int ((x0).toUInt32 >>> (((8 : Int32)).toUInt32 &&& Int32.toUInt32 31)).toInt32, .int x0] _ _ from ?_)
  refine zy_10 rfl (show zyR _ _ _ _ [some (.int x0)] [.int (x0 + ((x0).toUInt32 >>> (((8 : Int32)).toUInt32 &&& Int32.toUInt32 31)).toInt32)] _ _ from ?_)
  refine zy_23 rfl rfl (show zyR _ _ _ _ [some (.int (x0 + ((x0).toUInt32 >>> (((8 : Int32)).toUInt32 &&& Int32.toUInt32 31)).toInt32))] [] _ _ from ?_)
  exact zy_sub (show zy_le [some (.int (x0 + ((x0).toUInt32 >>> (((8 : Int32)).toUInt32 &&& Int32.toUInt32 31)).toInt32))] [some (.int (x0 + ((x0).toUInt32 >>> (((8 : Int32)).toUInt32 &&& Int32.toUInt32 31)).toInt32))] from ⟨rfl, trivial⟩) (zyC63_41 h)
noncomputable def zyF63_24   (x0 : Int32) (s : zy_S) : Option (Int32 × zy_S) :=
zyF63_34 ((x0 + ((x0).toUInt32 >>> (((4 : Int32)).toUInt32 &&& Int32.toUInt32 31)).toInt32) &&& (252645135 : Int32)) s
theorem zyC63_24 {X : zx_X}     {x0 : Int32} {s : zy_S} {r : Int32} {s' : zy_S}  (h : zyF63_24 x0 s = some (r, s')) : zyR X 1 63 24 [some (.int x0)] [] s (zyE (some (.int r)) s') := by
  unfold zyF63_24 at h
  refine zy_2 rfl rfl (show zyR _ _ _ _ [some (.int x0)] [.int x0] _ _ from ?_)
  refine zy_2 rfl rfl (show zyR _ _ _ _ [some (.int x0)] [.int x0, .int x0] _ _ from ?_)
  refine zy_3 rfl rfl (show zyR _ _ _ _ [some (.int x0)] [.int (4 : Int32), .int x0, .int x0] _ _ from ?_)
  refine zy_18 rfl (show zyR _ _ _ _ [some (.int x0)] [.int ((x0).toUInt32 >>> (((4 : Int32)).toUInt32 &&& Int32.toUInt32 31)).toInt32, .int x0] _ _ from ?_)
  refine zy_10 rfl (show zyR _ _ _ _ [some (.int x0)] [.int (x0 + ((x0).toUInt32 >>> (((4 : Int32)).toUInt32 &&& Int32.toUInt32 31)).toInt32)] _ _ from ?_)
  refine zy_3c rfl rfl (show zyR _ _ _ _ [some (.int x0)] [.int (252645135 : Int32), .int (x0 + ((x0).toUInt32 >>> (((4 : Int32)).toUInt32 &&& Int32.toUInt32 31)).toInt32)] _ _ from ?_)
  refine zy_13 rfl (show zyR _ _ _ _ [some (.int x0)] [.int ((x0 + ((x0).toUInt32 >>> (((4 : Int32)).toUInt32 &&& Int32.toUInt32 31)).toInt32) &&& (252645135 : Int32))] _ _ from ?_)
  refine zy_23 rfl rfl (show zyR _ _ _ _ [some (.int ((x0 + ((x0).toUInt32 >>> (((4 : Int32)).toUInt32 &&& Int32.toUInt32 31)).toInt32) &&& (252645135 : Int32)))] [] _ _ from ?_)
  exact zy_sub (show zy_le [some (.int ((x0 + ((x0).toUInt32 >>> (((4 : Int32)).toUInt32 &&& Int32.toUInt32 31)).toInt32) &&& (252645135 : Int32)))] [some (.int ((x0 + ((x0).toUInt32 >>> (((4 : Int32)).toUInt32 &&& Int32.toUInt32 31)).toInt32) &&& (252645135 : Int32)))] from ⟨rfl, trivial⟩) (zyC63_34 h)
noncomputable def zyF63   (x0 : Int32) (s : zy_S) : Option (Int32 × zy_S) :=
zyF63_24 (((x0 - (((x0).toUInt32 >>> (((1 : Int32)).toUInt32 &&& Int32.toUInt32 31)).toInt32 &&& (1431655765 : Int32))) &&& (858993459 : Int32)) + ((((x0 - (((x0).toUInt32 >>> (((1 : Int32)).toUInt32 &&& Int32.toUInt32 31)).toInt32 &&& (1431655765 : Int32)))).toUInt32 >>> (((2 : Int32)).toUInt32 &&& Int32.toUInt32 31)).toInt32 &&& (858993459 : Int32))) s
theorem zyC63 {X : zx_X}     {x0 : Int32} {s : zy_S} {r : Int32} {s' : zy_S}  (h : zyF63 x0 s = some (r, s')) : zyR X 1 63 0 [some (.int x0)] [] s (zyE (some (.int r)) s') := by
  unfold zyF63 at h
  refine zy_2 rfl rfl (show zyR _ _ _ _ [some (.int x0)] [.int x0] _ _ from ?_)
  refine zy_2 rfl rfl (show zyR _ _ _ _ [some (.int x0)] [.int x0, .int x0] _ _ from ?_)
  refine zy_3 rfl rfl (show zyR _ _ _ _ [some (.int x0)] [.int (1 : Int32), .int x0, .int x0] _ _ from ?_)
  refine zy_18 rfl (show zyR _ _ _ _ [some (.int x0)] [.int ((x0).toUInt32 >>> (((1 : Int32)).toUInt32 &&& Int32.toUInt32 31)).toInt32, .int x0] _ _ from ?_)
  refine zy_3c rfl rfl (show zyR _ _ _ _ [some (.int x0)] [.int (1431655765 : Int32), .int ((x0).toUInt32 >>> (((1 : Int32)).toUInt32 &&& Int32.toUInt32 31)).toInt32, .int x0] _ _ from ?_)
  refine zy_13 rfl (show zyR _ _ _ _ [some (.int x0)] [.int (((x0).toUInt32 >>> (((1 : Int32)).toUInt32 &&& Int32.toUInt32 31)).toInt32 &&& (1431655765 : Int32)), .int x0] _ _ from ?_)
  refine zy_11 rfl (show zyR _ _ _ _ [some (.int x0)] [.int (x0 - (((x0).toUInt32 >>> (((1 : Int32)).toUInt32 &&& Int32.toUInt32 31)).toInt32 &&& (1431655765 : Int32)))] _ _ from ?_)
  refine zy_23 rfl rfl (show zyR _ _ _ _ [some (.int (x0 - (((x0).toUInt32 >>> (((1 : Int32)).toUInt32 &&& Int32.toUInt32 31)).toInt32 &&& (1431655765 : Int32))))] [] _ _ from ?_)
  refine zy_2 rfl rfl (show zyR _ _ _ _ [some (.int (x0 - (((x0).toUInt32 >>> (((1 : Int32)).toUInt32 &&& Int32.toUInt32 31)).toInt32 &&& (1431655765 : Int32))))] [.int (x0 - (((x0).toUInt32 >>> (((1 : Int32)).toUInt32 &&& Int32.toUInt32 31)).toInt32 &&& (1431655765 : Int32)))] _ _ from ?_)
  refine zy_3c rfl rfl (show zyR _ _ _ _ [some (.int (x0 - (((x0).toUInt32 >>> (((1 : Int32)).toUInt32 &&& Int32.toUInt32 31)).toInt32 &&& (1431655765 : Int32))))] [.int (858993459 : Int32), .int (x0 - (((x0).toUInt32 >>> (((1 : Int32)).toUInt32 &&& Int32.toUInt32 31)).toInt32 &&& (1431655765 : Int32)))] _ _ from ?_)
  refine zy_13 rfl (show zyR _ _ _ _ [some (.int (x0 - (((x0).toUInt32 >>> (((1 : Int32)).toUInt32 &&& Int32.toUInt32 31)).toInt32 &&& (1431655765 : Int32))))] [.int ((x0 - (((x0).toUInt32 >>> (((1 : Int32)).toUInt32 &&& Int32.toUInt32 31)).toInt32 &&& (1431655765 : Int32))) &&& (858993459 : Int32))] _ _ from ?_)
  refine zy_2 rfl rfl (show zyR _ _ _ _ [some (.int (x0 - (((x0).toUInt32 >>> (((1 : Int32)).toUInt32 &&& Int32.toUInt32 31)).toInt32 &&& (1431655765 : Int32))))] [.int (x0 - (((x0).toUInt32 >>> (((1 : Int32)).toUInt32 &&& Int32.toUInt32 31)).toInt32 &&& (1431655765 : Int32))), .int ((x0 - (((x0).toUInt32 >>> (((1 : Int32)).toUInt32 &&& Int32.toUInt32 31)).toInt32 &&& (1431655765 : Int32))) &&& (858993459 : Int32))] _ _ from ?_)
  refine zy_3 rfl rfl (show zyR _ _ _ _ [some (.int (x0 - (((x0).toUInt32 >>> (((1 : Int32)).toUInt32 &&& Int32.toUInt32 31)).toInt32 &&& (1431655765 : Int32))))] [.int (2 : Int32), .int (x0 - (((x0).toUInt32 >>> (((1 : Int32)).toUInt32 &&& Int32.toUInt32 31)).toInt32 &&& (1431655765 : Int32))), .int ((x0 - (((x0).toUInt32 >>> (((1 : Int32)).toUInt32 &&& Int32.toUInt32 31)).toInt32 &&& (1431655765 : Int32))) &&& (858993459 : Int32))] _ _ from ?_)
  refine zy_18 rfl (show zyR _ _ _ _ [some (.int (x0 - (((x0).toUInt32 >>> (((1 : Int32)).toUInt32 &&& Int32.toUInt32 31)).toInt32 &&& (1431655765 : Int32))))] [.int (((x0 - (((x0).toUInt32 >>> (((1 : Int32)).toUInt32 &&& Int32.toUInt32 31)).toInt32 &&& (1431655765 : Int32)))).toUInt32 >>> (((2 : Int32)).toUInt32 &&& Int32.toUInt32 31)).toInt32, .int ((x0 - (((x0).toUInt32 >>> (((1 : Int32)).toUInt32 &&& Int32.toUInt32 31)).toInt32 &&& (1431655765 : Int32))) &&& (858993459 : Int32))] _ _ from ?_)
  refine zy_3c rfl rfl (show zyR _ _ _ _ [some (.int (x0 - (((x0).toUInt32 >>> (((1 : Int32)).toUInt32 &&& Int32.toUInt32 31)).toInt32 &&& (1431655765 : Int32))))] [.int (858993459 : Int32), .int (((x0 - (((x0).toUInt32 >>> (((1 : Int32)).toUInt32 &&& Int32.toUInt32 31)).toInt32 &&& (1431655765 : Int32)))).toUInt32 >>> (((2 : Int32)).toUInt32 &&& Int32.toUInt32 31)).toInt32, .int ((x0 - (((x0).toUInt32 >>> (((1 : Int32)).toUInt32 &&& Int32.toUInt32 31)).toInt32 &&& (1431655765 : Int32))) &&& (858993459 : Int32))] _ _ from ?_)
  refine zy_13 rfl (show zyR _ _ _ _ [some (.int (x0 - (((x0).toUInt32 >>> (((1 : Int32)).toUInt32 &&& Int32.toUInt32 31)).toInt32 &&& (1431655765 : Int32))))] [.int ((((x0 - (((x0).toUInt32 >>> (((1 : Int32)).toUInt32 &&& Int32.toUInt32 31)).toInt32 &&& (1431655765 : Int32)))).toUInt32 >>> (((2 : Int32)).toUInt32 &&& Int32.toUInt32 31)).toInt32 &&& (858993459 : Int32)), .int ((x0 - (((x0).toUInt32 >>> (((1 : Int32)).toUInt32 &&& Int32.toUInt32 31)).toInt32 &&& (1431655765 : Int32))) &&& (858993459 : Int32))] _ _ from ?_)
  refine zy_10 rfl (show zyR _ _ _ _ [some (.int (x0 - (((x0).toUInt32 >>> (((1 : Int32)).toUInt32 &&& Int32.toUInt32 31)).toInt32 &&& (1431655765 : Int32))))] [.int (((x0 - (((x0).toUInt32 >>> (((1 : Int32)).toUInt32 &&& Int32.toUInt32 31)).toInt32 &&& (1431655765 : Int32))) &&& (858993459 : Int32)) + ((((x0 - (((x0).toUInt32 >>> (((1 : Int32)).toUInt32 &&& Int32.toUInt32 31)).toInt32 &&& (1431655765 : Int32)))).toUInt32 >>> (((2 : Int32)).toUInt32 &&& Int32.toUInt32 31)).toInt32 &&& (858993459 : Int32)))] _ _ from ?_)
  refine zy_23 rfl rfl (show zyR _ _ _ _ [some (.int (((x0 - (((x0).toUInt32 >>> (((1 : Int32)).toUInt32 &&& Int32.toUInt32 31)).toInt32 &&& (1431655765 : Int32))) &&& (858993459 : Int32)) + ((((x0 - (((x0).toUInt32 >>> (((1 : Int32)).toUInt32 &&& Int32.toUInt32 31)).toInt32 &&& (1431655765 : Int32)))).toUInt32 >>> (((2 : Int32)).toUInt32 &&& Int32.toUInt32 31)).toInt32 &&& (858993459 : Int32))))] [] _ _ from ?_)
  exact zy_sub (show zy_le [some (.int (((x0 - (((x0).toUInt32 >>> (((1 : Int32)).toUInt32 &&& Int32.toUInt32 31)).toInt32 &&& (1431655765 : Int32))) &&& (858993459 : Int32)) + ((((x0 - (((x0).toUInt32 >>> (((1 : Int32)).toUInt32 &&& Int32.toUInt32 31)).toInt32 &&& (1431655765 : Int32)))).toUInt32 >>> (((2 : Int32)).toUInt32 &&& Int32.toUInt32 31)).toInt32 &&& (858993459 : Int32))))] [some (.int (((x0 - (((x0).toUInt32 >>> (((1 : Int32)).toUInt32 &&& Int32.toUInt32 31)).toInt32 &&& (1431655765 : Int32))) &&& (858993459 : Int32)) + ((((x0 - (((x0).toUInt32 >>> (((1 : Int32)).toUInt32 &&& Int32.toUInt32 31)).toInt32 &&& (1431655765 : Int32)))).toUInt32 >>> (((2 : Int32)).toUInt32 &&& Int32.toUInt32 31)).toInt32 &&& (858993459 : Int32))))] from ⟨rfl, trivial⟩) (zyC63_24 h)
/-! NineOpinions$Town.standing()I -/
noncomputable def zyF92    (s : zy_S) : Option (Int32 × zy_S) :=
(zyF63 (s.1 1 3) s).bind fun p1 =>
some (p1.1, p1.2)
theorem zyC92 {X : zx_X}      {s : zy_S} {r : Int32} {s' : zy_S}  (h : zyF92 s = some (r, s')) : zyR X 2 92 0 [some (.ref (1 + 3))] [] s (zyE (some (.int r)) s') := by
  unfold zyF92 at h
  refine zy_0 rfl rfl (show zyR _ _ _ _ [some (.ref (1 + 3))] [.ref (1 + 3)] _ _ from ?_)
  refine zy_1 (c := 1) rfl rfl rfl (show zyR _ _ _ _ [some (.ref (1 + 3))] [.int (s.1 1 3)] _ _ from ?_)
  obtain ⟨p1, hp1, h⟩ := zy_bind h
  refine zy_60 (as := [.int (s.1 1 3)]) (rest := []) (L := [some (.int (s.1 1 3))]) (d' := 1) rfl rfl (Nat.le_of_ble_eq_true rfl) (Nat.le_of_ble_eq_true rfl) rfl (Nat.le_of_ble_eq_true rfl) rfl rfl (zyC63 hp1) ?_
  show zyR _ _ _ _ [some (.ref (1 + 3))] [.int p1.1] _ _
  obtain ⟨rfl, rfl⟩ := zy_pi h
  exact zy_4 rfl ⟨rfl, rfl⟩
/-! NineOpinions$Town.hasRoom()Z -/
noncomputable def zyF91    (s : zy_S) : Option (Int32 × zy_S) :=
(zyF92 s).bind fun p1 =>
if (p1.2.1 1 4) ≤ p1.1 then
some ((0 : Int32), p1.2)
else
some ((1 : Int32), p1.2)
theorem zyC91 {X : zx_X}      {s : zy_S} {r : Int32} {s' : zy_S}  (h : zyF91 s = some (r, s')) : zyR X 3 91 0 [some (.ref (1 + 3))] [] s (zyE (some (.int r)) s') := by
  unfold zyF91 at h
  refine zy_0 rfl rfl (show zyR _ _ _ _ [some (.ref (1 + 3))] [.ref (1 + 3)] _ _ from ?_)
  obtain ⟨p1, hp1, h⟩ := zy_bind h
  refine zy_5 (c := 1) (as := []) (rest := []) (L := [some (.ref (1 + 3))]) (d' := 2) rfl rfl rfl (Nat.le_of_ble_eq_true rfl) (Nat.le_of_ble_eq_true rfl) rfl (Nat.le_of_ble_eq_true rfl) rfl rfl (zyC92 hp1) ?_
  show zyR _ _ _ _ [some (.ref (1 + 3))] [.int p1.1] _ _
  refine zy_0 rfl rfl (show zyR _ _ _ _ [some (.ref (1 + 3))] [.ref (1 + 3), .int p1.1] _ _ from ?_)
  refine zy_1 (c := 1) rfl rfl rfl (show zyR _ _ _ _ [some (.ref (1 + 3))] [.int (p1.2.1 1 4), .int p1.1] _ _ from ?_)
  refine zy_25_3 rfl (fun b2 => (show zyR _ _ _ _ [some (.ref (1 + 3))] [] _ _ from ?_)) (fun b2 => (show zyR _ _ _ _ [some (.ref (1 + 3))] [] _ _ from ?_))
  · replace h := zy_ifp h b2
    refine zy_3 rfl rfl (show zyR _ _ _ _ [some (.ref (1 + 3))] [.int (0 : Int32)] _ _ from ?_)
    cases h
    exact zy_4b rfl ⟨rfl, rfl⟩ (Or.inl rfl)
  · replace h := zy_ifn h b2
    refine zy_3 rfl rfl (show zyR _ _ _ _ [some (.ref (1 + 3))] [.int (1 : Int32)] _ _ from ?_)
    refine zy_6 rfl (show zyR _ _ _ _ [some (.ref (1 + 3))] [.int (1 : Int32)] _ _ from ?_)
    cases h
    exact zy_4b rfl ⟨rfl, rfl⟩ (Or.inr rfl)
/-! NineOpinions$Deeds.doWrite(I)I -/
noncomputable def zyF132   (x1 : Int32) (s : zy_S) : Option (Int32 × zy_S) :=
if zy_in x1 24 then
(zyF92 (zy_up (zy_up (zy_up s 1 3 ((s.1 1 3) ||| ((1 : Int32) <<< (x1 &&& 31)))) 2 (x1).toNatClampNeg (0 : Int32)) 18 0 ((s.1 18 0) + (1 : Int32)))).bind fun p2 =>
some (p2.1, p2.2)
else none
theorem zyC132 {X : zx_X}     {x1 : Int32} {s : zy_S} {r : Int32} {s' : zy_S}  (h : zyF132 x1 s = some (r, s')) : zyR X 3 132 0 [some (.ref (17 + 3)), some (.int x1)] [] s (zyE (some (.int r)) s') := by
  unfold zyF132 at h
  refine zy_0 rfl rfl (show zyR _ _ _ _ [some (.ref (17 + 3)), some (.int x1)] [.ref (17 + 3)] _ _ from ?_)
  refine zy_1r (c := 17) rfl rfl rfl (show zyR _ _ _ _ [some (.ref (17 + 3)), some (.int x1)] [.ref (1 + 3)] _ _ from ?_)
  refine zy_33 rfl rfl (show zyR _ _ _ _ [some (.ref (17 + 3)), some (.int x1)] [.ref (1 + 3), .ref (1 + 3)] _ _ from ?_)
  refine zy_1 (c := 1) rfl rfl rfl (show zyR _ _ _ _ [some (.ref (17 + 3)), some (.int x1)] [.int (s.1 1 3), .ref (1 + 3)] _ _ from ?_)
  refine zy_3 rfl rfl (show zyR _ _ _ _ [some (.ref (17 + 3)), some (.int x1)] [.int (1 : Int32), .int (s.1 1 3), .ref (1 + 3)] _ _ from ?_)
  refine zy_2 rfl rfl (show zyR _ _ _ _ [some (.ref (17 + 3)), some (.int x1)] [.int x1, .int (1 : Int32), .int (s.1 1 3), .ref (1 + 3)] _ _ from ?_)
  refine zy_16 rfl (show zyR _ _ _ _ [some (.ref (17 + 3)), some (.int x1)] [.int ((1 : Int32) <<< (x1 &&& 31)), .int (s.1 1 3), .ref (1 + 3)] _ _ from ?_)
  refine zy_14 rfl (show zyR _ _ _ _ [some (.ref (17 + 3)), some (.int x1)] [.int ((s.1 1 3) ||| ((1 : Int32) <<< (x1 &&& 31))), .ref (1 + 3)] _ _ from ?_)
  refine zy_52 (c := 1) rfl rfl rfl (show zyR _ _ _ _ [some (.ref (17 + 3)), some (.int x1)] [] _ _ from ?_)
  refine zy_0 rfl rfl (show zyR _ _ _ _ [some (.ref (17 + 3)), some (.int x1)] [.ref (17 + 3)] _ _ from ?_)
  refine zy_1r (c := 17) rfl rfl rfl (show zyR _ _ _ _ [some (.ref (17 + 3)), some (.int x1)] [.ref (1 + 3)] _ _ from ?_)
  refine zy_1r (c := 1) rfl rfl rfl (show zyR _ _ _ _ [some (.ref (17 + 3)), some (.int x1)] [.ref (2 + 3)] _ _ from ?_)
  refine zy_2 rfl rfl (show zyR _ _ _ _ [some (.ref (17 + 3)), some (.int x1)] [.int x1, .ref (2 + 3)] _ _ from ?_)
  refine zy_3 rfl rfl (show zyR _ _ _ _ [some (.ref (17 + 3)), some (.int x1)] [.int (0 : Int32), .int x1, .ref (2 + 3)] _ _ from ?_)
  obtain ⟨c1, h⟩ := zy_if h
  refine zy_27 (c := 2) rfl rfl c1 (show zyR _ _ _ _ [some (.ref (17 + 3)), some (.int x1)] [] _ _ from ?_)
  refine zy_0 rfl rfl (show zyR _ _ _ _ [some (.ref (17 + 3)), some (.int x1)] [.ref (17 + 3)] _ _ from ?_)
  refine zy_1r (c := 17) rfl rfl rfl (show zyR _ _ _ _ [some (.ref (17 + 3)), some (.int x1)] [.ref (18 + 3)] _ _ from ?_)
  refine zy_3 rfl rfl (show zyR _ _ _ _ [some (.ref (17 + 3)), some (.int x1)] [.int (0 : Int32), .ref (18 + 3)] _ _ from ?_)
  refine zy_35 rfl rfl rfl (show zyR _ _ _ _ [some (.ref (17 + 3)), some (.int x1)] [.int (0 : Int32), .ref (18 + 3), .int (0 : Int32), .ref (18 + 3)] _ _ from ?_)
  refine zy_26 (c := 18) rfl rfl (by decide) (show zyR _ _ _ _ [some (.ref (17 + 3)), some (.int x1)] [.int (s.1 18 0), .int (0 : Int32), .ref (18 + 3)] _ _ from ?_)
  refine zy_3 rfl rfl (show zyR _ _ _ _ [some (.ref (17 + 3)), some (.int x1)] [.int (1 : Int32), .int (s.1 18 0), .int (0 : Int32), .ref (18 + 3)] _ _ from ?_)
  refine zy_10 rfl (show zyR _ _ _ _ [some (.ref (17 + 3)), some (.int x1)] [.int ((s.1 18 0) + (1 : Int32)), .int (0 : Int32), .ref (18 + 3)] _ _ from ?_)
  refine zy_27 (c := 18) rfl rfl (by decide) (show zyR _ _ _ _ [some (.ref (17 + 3)), some (.int x1)] [] _ _ from ?_)
  refine zy_0 rfl rfl (show zyR _ _ _ _ [some (.ref (17 + 3)), some (.int x1)] [.ref (17 + 3)] _ _ from ?_)
  refine zy_1r (c := 17) rfl rfl rfl (show zyR _ _ _ _ [some (.ref (17 + 3)), some (.int x1)] [.ref (1 + 3)] _ _ from ?_)
  obtain ⟨p2, hp2, h⟩ := zy_bind h
  refine zy_5 (c := 1) (as := []) (rest := []) (L := [some (.ref (1 + 3))]) (d' := 2) rfl rfl rfl (Nat.le_of_ble_eq_true rfl) (Nat.le_of_ble_eq_true rfl) rfl (Nat.le_of_ble_eq_true rfl) rfl rfl (zyC92 hp2) ?_
  show zyR _ _ _ _ [some (.ref (17 + 3)), some (.int x1)] [.int p2.1] _ _
  obtain ⟨rfl, rfl⟩ := zy_pi h
  exact zy_4 rfl ⟨rfl, rfl⟩
/-! NineOpinions.write(I)I -/
noncomputable def zyF131   (x1 : Int32) (s : zy_S) : Option (Int32 × zy_S) :=
(zyF26 x1 s).bind fun p1 =>
if p1.1 ≠ 0 then
(zyF86 x1 p1.2).bind fun p2 =>
if p2.1 ≠ 0 then
some ((-5 : Int32), p2.2)
else
(zyF91 p2.2).bind fun p3 =>
if p3.1 ≠ 0 then
(zyF132 x1 p3.2).bind fun p4 =>
some (p4.1, p4.2)
else
some ((-5 : Int32), p3.2)
else
some ((-1 : Int32), p1.2)
theorem zyC131 {X : zx_X}     {x1 : Int32} {s : zy_S} {r : Int32} {s' : zy_S}  (h : zyF131 x1 s = some (r, s')) : zyR X 4 131 0 [some (.ref (0 + 3)), some (.int x1)] [] s (zyE (some (.int r)) s') := by
  unfold zyF131 at h
  refine zy_2 rfl rfl (show zyR _ _ _ _ [some (.ref (0 + 3)), some (.int x1)] [.int x1] _ _ from ?_)
  obtain ⟨p1, hp1, h⟩ := zy_bind h
  refine zy_60 (as := [.int x1]) (rest := []) (L := [some (.int x1)]) (d' := 1) rfl rfl (Nat.le_of_ble_eq_true rfl) (Nat.le_of_ble_eq_true rfl) rfl (Nat.le_of_ble_eq_true rfl) rfl rfl (zyC26 hp1) ?_
  show zyR _ _ _ _ [some (.ref (0 + 3)), some (.int x1)] [.int p1.1] _ _
  refine zy_24_1 rfl (fun b7 => (show zyR _ _ _ _ [some (.ref (0 + 3)), some (.int x1)] [] _ _ from ?_)) (fun b7 => (show zyR _ _ _ _ [some (.ref (0 + 3)), some (.int x1)] [] _ _ from ?_))
  · replace h := zy_ifp h b7
    refine zy_0 rfl rfl (show zyR _ _ _ _ [some (.ref (0 + 3)), some (.int x1)] [.ref (0 + 3)] _ _ from ?_)
    refine zy_1r (c := 0) rfl rfl rfl (show zyR _ _ _ _ [some (.ref (0 + 3)), some (.int x1)] [.ref (1 + 3)] _ _ from ?_)
    refine zy_2 rfl rfl (show zyR _ _ _ _ [some (.ref (0 + 3)), some (.int x1)] [.int x1, .ref (1 + 3)] _ _ from ?_)
    obtain ⟨p2, hp2, h⟩ := zy_bind h
    refine zy_5 (c := 1) (as := [.int x1]) (rest := []) (L := [some (.ref (1 + 3)), some (.int x1)]) (d' := 2) rfl rfl rfl (Nat.le_of_ble_eq_true rfl) (Nat.le_of_ble_eq_true rfl) rfl (Nat.le_of_ble_eq_true rfl) rfl rfl (zyC86 hp2) ?_
    show zyR _ _ _ _ [some (.ref (0 + 3)), some (.int x1)] [.int p2.1] _ _
    refine zy_24_1 rfl (fun b6 => (show zyR _ _ _ _ [some (.ref (0 + 3)), some (.int x1)] [] _ _ from ?_)) (fun b6 => (show zyR _ _ _ _ [some (.ref (0 + 3)), some (.int x1)] [] _ _ from ?_))
    · replace h := zy_ifp h b6
      refine zy_3 rfl rfl (show zyR _ _ _ _ [some (.ref (0 + 3)), some (.int x1)] [.int (-5 : Int32)] _ _ from ?_)
      refine zy_6 rfl (show zyR _ _ _ _ [some (.ref (0 + 3)), some (.int x1)] [.int (-5 : Int32)] _ _ from ?_)
      obtain ⟨rfl, rfl⟩ := zy_pi h
      exact zy_4 rfl ⟨rfl, rfl⟩
    · replace h := zy_ifn h b6
      refine zy_0 rfl rfl (show zyR _ _ _ _ [some (.ref (0 + 3)), some (.int x1)] [.ref (0 + 3)] _ _ from ?_)
      refine zy_1r (c := 0) rfl rfl rfl (show zyR _ _ _ _ [some (.ref (0 + 3)), some (.int x1)] [.ref (1 + 3)] _ _ from ?_)
      obtain ⟨p3, hp3, h⟩ := zy_bind h
      refine zy_5 (c := 1) (as := []) (rest := []) (L := [some (.ref (1 + 3))]) (d' := 3) rfl rfl rfl (Nat.le_of_ble_eq_true rfl) (Nat.le_of_ble_eq_true rfl) rfl (Nat.le_of_ble_eq_true rfl) rfl rfl (zyC91 hp3) ?_
      show zyR _ _ _ _ [some (.ref (0 + 3)), some (.int x1)] [.int p3.1] _ _
      refine zy_24_1 rfl (fun b5 => (show zyR _ _ _ _ [some (.ref (0 + 3)), some (.int x1)] [] _ _ from ?_)) (fun b5 => (show zyR _ _ _ _ [some (.ref (0 + 3)), some (.int x1)] [] _ _ from ?_))
      · replace h := zy_ifp h b5
        refine zy_0 rfl rfl (show zyR _ _ _ _ [some (.ref (0 + 3)), some (.int x1)] [.ref (0 + 3)] _ _ from ?_)
        refine zy_1r (c := 0) rfl rfl rfl (show zyR _ _ _ _ [some (.ref (0 + 3)), some (.int x1)] [.ref (17 + 3)] _ _ from ?_)
        refine zy_2 rfl rfl (show zyR _ _ _ _ [some (.ref (0 + 3)), some (.int x1)] [.int x1, .ref (17 + 3)] _ _ from ?_)
        obtain ⟨p4, hp4, h⟩ := zy_bind h
        refine zy_5 (c := 17) (as := [.int x1]) (rest := []) (L := [some (.ref (17 + 3)), some (.int x1)]) (d' := 3) rfl rfl rfl (Nat.le_of_ble_eq_true rfl) (Nat.le_of_ble_eq_true rfl) rfl (Nat.le_of_ble_eq_true rfl) rfl rfl (zyC132 hp4) ?_
        show zyR _ _ _ _ [some (.ref (0 + 3)), some (.int x1)] [.int p4.1] _ _
        obtain ⟨rfl, rfl⟩ := zy_pi h
        exact zy_4 rfl ⟨rfl, rfl⟩
      · replace h := zy_ifn h b5
        refine zy_3 rfl rfl (show zyR _ _ _ _ [some (.ref (0 + 3)), some (.int x1)] [.int (-5 : Int32)] _ _ from ?_)
        refine zy_6 rfl (show zyR _ _ _ _ [some (.ref (0 + 3)), some (.int x1)] [.int (-5 : Int32)] _ _ from ?_)
        obtain ⟨rfl, rfl⟩ := zy_pi h
        exact zy_4 rfl ⟨rfl, rfl⟩
  · replace h := zy_ifn h b7
    refine zy_3 rfl rfl (show zyR _ _ _ _ [some (.ref (0 + 3)), some (.int x1)] [.int (-1 : Int32)] _ _ from ?_)
    obtain ⟨rfl, rfl⟩ := zy_pi h
    exact zy_4 rfl ⟨rfl, rfl⟩
/-! NineOpinions$Deeds.doStrike(I)I -/
noncomputable def zyF134   (x1 : Int32) (s : zy_S) : Option (Int32 × zy_S) :=
(zyF92 (zy_up (zy_up s 1 3 ((s.1 1 3) &&& (((1 : Int32) <<< (x1 &&& 31)) ^^^ (-1 : Int32)))) 18 1 ((s.1 18 1) + (1 : Int32)))).bind fun p1 =>
some (p1.1, p1.2)
theorem zyC134 {X : zx_X}     {x1 : Int32} {s : zy_S} {r : Int32} {s' : zy_S}  (h : zyF134 x1 s = some (r, s')) : zyR X 3 134 0 [some (.ref (17 + 3)), some (.int x1)] [] s (zyE (some (.int r)) s') := by
  unfold zyF134 at h
  refine zy_0 rfl rfl (show zyR _ _ _ _ [some (.ref (17 + 3)), some (.int x1)] [.ref (17 + 3)] _ _ from ?_)
  refine zy_1r (c := 17) rfl rfl rfl (show zyR _ _ _ _ [some (.ref (17 + 3)), some (.int x1)] [.ref (1 + 3)] _ _ from ?_)
  refine zy_33 rfl rfl (show zyR _ _ _ _ [some (.ref (17 + 3)), some (.int x1)] [.ref (1 + 3), .ref (1 + 3)] _ _ from ?_)
  refine zy_1 (c := 1) rfl rfl rfl (show zyR _ _ _ _ [some (.ref (17 + 3)), some (.int x1)] [.int (s.1 1 3), .ref (1 + 3)] _ _ from ?_)
  refine zy_3 rfl rfl (show zyR _ _ _ _ [some (.ref (17 + 3)), some (.int x1)] [.int (1 : Int32), .int (s.1 1 3), .ref (1 + 3)] _ _ from ?_)
  refine zy_2 rfl rfl (show zyR _ _ _ _ [some (.ref (17 + 3)), some (.int x1)] [.int x1, .int (1 : Int32), .int (s.1 1 3), .ref (1 + 3)] _ _ from ?_)
  refine zy_16 rfl (show zyR _ _ _ _ [some (.ref (17 + 3)), some (.int x1)] [.int ((1 : Int32) <<< (x1 &&& 31)), .int (s.1 1 3), .ref (1 + 3)] _ _ from ?_)
  refine zy_3 rfl rfl (show zyR _ _ _ _ [some (.ref (17 + 3)), some (.int x1)] [.int (-1 : Int32), .int ((1 : Int32) <<< (x1 &&& 31)), .int (s.1 1 3), .ref (1 + 3)] _ _ from ?_)
  refine zy_15 rfl (show zyR _ _ _ _ [some (.ref (17 + 3)), some (.int x1)] [.int (((1 : Int32) <<< (x1 &&& 31)) ^^^ (-1 : Int32)), .int (s.1 1 3), .ref (1 + 3)] _ _ from ?_)
  refine zy_13 rfl (show zyR _ _ _ _ [some (.ref (17 + 3)), some (.int x1)] [.int ((s.1 1 3) &&& (((1 : Int32) <<< (x1 &&& 31)) ^^^ (-1 : Int32))), .ref (1 + 3)] _ _ from ?_)
  refine zy_52 (c := 1) rfl rfl rfl (show zyR _ _ _ _ [some (.ref (17 + 3)), some (.int x1)] [] _ _ from ?_)
  refine zy_0 rfl rfl (show zyR _ _ _ _ [some (.ref (17 + 3)), some (.int x1)] [.ref (17 + 3)] _ _ from ?_)
  refine zy_1r (c := 17) rfl rfl rfl (show zyR _ _ _ _ [some (.ref (17 + 3)), some (.int x1)] [.ref (18 + 3)] _ _ from ?_)
  refine zy_3 rfl rfl (show zyR _ _ _ _ [some (.ref (17 + 3)), some (.int x1)] [.int (1 : Int32), .ref (18 + 3)] _ _ from ?_)
  refine zy_35 rfl rfl rfl (show zyR _ _ _ _ [some (.ref (17 + 3)), some (.int x1)] [.int (1 : Int32), .ref (18 + 3), .int (1 : Int32), .ref (18 + 3)] _ _ from ?_)
  refine zy_26 (c := 18) rfl rfl (by decide) (show zyR _ _ _ _ [some (.ref (17 + 3)), some (.int x1)] [.int (s.1 18 1), .int (1 : Int32), .ref (18 + 3)] _ _ from ?_)
  refine zy_3 rfl rfl (show zyR _ _ _ _ [some (.ref (17 + 3)), some (.int x1)] [.int (1 : Int32), .int (s.1 18 1), .int (1 : Int32), .ref (18 + 3)] _ _ from ?_)
  refine zy_10 rfl (show zyR _ _ _ _ [some (.ref (17 + 3)), some (.int x1)] [.int ((s.1 18 1) + (1 : Int32)), .int (1 : Int32), .ref (18 + 3)] _ _ from ?_)
  refine zy_27 (c := 18) rfl rfl (by decide) (show zyR _ _ _ _ [some (.ref (17 + 3)), some (.int x1)] [] _ _ from ?_)
  refine zy_0 rfl rfl (show zyR _ _ _ _ [some (.ref (17 + 3)), some (.int x1)] [.ref (17 + 3)] _ _ from ?_)
  refine zy_1r (c := 17) rfl rfl rfl (show zyR _ _ _ _ [some (.ref (17 + 3)), some (.int x1)] [.ref (1 + 3)] _ _ from ?_)
  obtain ⟨p1, hp1, h⟩ := zy_bind h
  refine zy_5 (c := 1) (as := []) (rest := []) (L := [some (.ref (1 + 3))]) (d' := 2) rfl rfl rfl (Nat.le_of_ble_eq_true rfl) (Nat.le_of_ble_eq_true rfl) rfl (Nat.le_of_ble_eq_true rfl) rfl rfl (zyC92 hp1) ?_
  show zyR _ _ _ _ [some (.ref (17 + 3)), some (.int x1)] [.int p1.1] _ _
  obtain ⟨rfl, rfl⟩ := zy_pi h
  exact zy_4 rfl ⟨rfl, rfl⟩
/-! NineOpinions.strike(I)I -/
noncomputable def zyF133   (x1 : Int32) (s : zy_S) : Option (Int32 × zy_S) :=
(zyF26 x1 s).bind fun p1 =>
if p1.1 ≠ 0 then
(zyF86 x1 p1.2).bind fun p2 =>
if p2.1 = 0 then
some ((-5 : Int32), p2.2)
else
(zyF134 x1 p2.2).bind fun p3 =>
some (p3.1, p3.2)
else
some ((-1 : Int32), p1.2)
theorem zyC133 {X : zx_X}     {x1 : Int32} {s : zy_S} {r : Int32} {s' : zy_S}  (h : zyF133 x1 s = some (r, s')) : zyR X 4 133 0 [some (.ref (0 + 3)), some (.int x1)] [] s (zyE (some (.int r)) s') := by
  unfold zyF133 at h
  refine zy_2 rfl rfl (show zyR _ _ _ _ [some (.ref (0 + 3)), some (.int x1)] [.int x1] _ _ from ?_)
  obtain ⟨p1, hp1, h⟩ := zy_bind h
  refine zy_60 (as := [.int x1]) (rest := []) (L := [some (.int x1)]) (d' := 1) rfl rfl (Nat.le_of_ble_eq_true rfl) (Nat.le_of_ble_eq_true rfl) rfl (Nat.le_of_ble_eq_true rfl) rfl rfl (zyC26 hp1) ?_
  show zyR _ _ _ _ [some (.ref (0 + 3)), some (.int x1)] [.int p1.1] _ _
  refine zy_24_1 rfl (fun b5 => (show zyR _ _ _ _ [some (.ref (0 + 3)), some (.int x1)] [] _ _ from ?_)) (fun b5 => (show zyR _ _ _ _ [some (.ref (0 + 3)), some (.int x1)] [] _ _ from ?_))
  · replace h := zy_ifp h b5
    refine zy_0 rfl rfl (show zyR _ _ _ _ [some (.ref (0 + 3)), some (.int x1)] [.ref (0 + 3)] _ _ from ?_)
    refine zy_1r (c := 0) rfl rfl rfl (show zyR _ _ _ _ [some (.ref (0 + 3)), some (.int x1)] [.ref (1 + 3)] _ _ from ?_)
    refine zy_2 rfl rfl (show zyR _ _ _ _ [some (.ref (0 + 3)), some (.int x1)] [.int x1, .ref (1 + 3)] _ _ from ?_)
    obtain ⟨p2, hp2, h⟩ := zy_bind h
    refine zy_5 (c := 1) (as := [.int x1]) (rest := []) (L := [some (.ref (1 + 3)), some (.int x1)]) (d' := 2) rfl rfl rfl (Nat.le_of_ble_eq_true rfl) (Nat.le_of_ble_eq_true rfl) rfl (Nat.le_of_ble_eq_true rfl) rfl rfl (zyC86 hp2) ?_
    show zyR _ _ _ _ [some (.ref (0 + 3)), some (.int x1)] [.int p2.1] _ _
    refine zy_24_0 rfl (fun b4 => (show zyR _ _ _ _ [some (.ref (0 + 3)), some (.int x1)] [] _ _ from ?_)) (fun b4 => (show zyR _ _ _ _ [some (.ref (0 + 3)), some (.int x1)] [] _ _ from ?_))
    · replace h := zy_ifp h b4
      refine zy_3 rfl rfl (show zyR _ _ _ _ [some (.ref (0 + 3)), some (.int x1)] [.int (-5 : Int32)] _ _ from ?_)
      obtain ⟨rfl, rfl⟩ := zy_pi h
      exact zy_4 rfl ⟨rfl, rfl⟩
    · replace h := zy_ifn h b4
      refine zy_0 rfl rfl (show zyR _ _ _ _ [some (.ref (0 + 3)), some (.int x1)] [.ref (0 + 3)] _ _ from ?_)
      refine zy_1r (c := 0) rfl rfl rfl (show zyR _ _ _ _ [some (.ref (0 + 3)), some (.int x1)] [.ref (17 + 3)] _ _ from ?_)
      refine zy_2 rfl rfl (show zyR _ _ _ _ [some (.ref (0 + 3)), some (.int x1)] [.int x1, .ref (17 + 3)] _ _ from ?_)
      obtain ⟨p3, hp3, h⟩ := zy_bind h
      refine zy_5 (c := 17) (as := [.int x1]) (rest := []) (L := [some (.ref (17 + 3)), some (.int x1)]) (d' := 3) rfl rfl rfl (Nat.le_of_ble_eq_true rfl) (Nat.le_of_ble_eq_true rfl) rfl (Nat.le_of_ble_eq_true rfl) rfl rfl (zyC134 hp3) ?_
      show zyR _ _ _ _ [some (.ref (0 + 3)), some (.int x1)] [.int p3.1] _ _
      refine zy_6 rfl (show zyR _ _ _ _ [some (.ref (0 + 3)), some (.int x1)] [.int p3.1] _ _ from ?_)
      obtain ⟨rfl, rfl⟩ := zy_pi h
      exact zy_4 rfl ⟨rfl, rfl⟩
  · replace h := zy_ifn h b5
    refine zy_3 rfl rfl (show zyR _ _ _ _ [some (.ref (0 + 3)), some (.int x1)] [.int (-1 : Int32)] _ _ from ?_)
    obtain ⟨rfl, rfl⟩ := zy_pi h
    exact zy_4 rfl ⟨rfl, rfl⟩
/-! NineOpinions$Deeds.doRub(I)I -/
noncomputable def zyF136   (x1 : Int32) (s : zy_S) : Option (Int32 × zy_S) :=
if zy_in x1 24 then
if (s.1 2 (x1).toNatClampNeg) < (9 : Int32) then
if zy_in x1 24 then
if zy_in x1 24 then
if zy_in x1 24 then
some (((zy_up (zy_up s 18 2 ((s.1 18 2) + (1 : Int32))) 2 (x1).toNatClampNeg ((s.1 2 (x1).toNatClampNeg) + (1 : Int32))).1 2 (x1).toNatClampNeg), (zy_up (zy_up s 18 2 ((s.1 18 2) + (1 : Int32))) 2 (x1).toNatClampNeg ((s.1 2 (x1).toNatClampNeg) + (1 : Int32))))
else none
else none
else none
else
some ((10 : Int32), (zy_up (zy_up (zy_up s 18 2 ((s.1 18 2) + (1 : Int32))) 1 3 ((s.1 1 3) &&& (((1 : Int32) <<< (x1 &&& 31)) ^^^ (-1 : Int32)))) 18 4 ((s.1 18 4) + (1 : Int32))))
else none
theorem zyC136 {X : zx_X}     {x1 : Int32} {s : zy_S} {r : Int32} {s' : zy_S}  (h : zyF136 x1 s = some (r, s')) : zyR X 1 136 0 [some (.ref (17 + 3)), some (.int x1)] [] s (zyE (some (.int r)) s') := by
  unfold zyF136 at h
  refine zy_0 rfl rfl (show zyR _ _ _ _ [some (.ref (17 + 3)), some (.int x1)] [.ref (17 + 3)] _ _ from ?_)
  refine zy_1r (c := 17) rfl rfl rfl (show zyR _ _ _ _ [some (.ref (17 + 3)), some (.int x1)] [.ref (18 + 3)] _ _ from ?_)
  refine zy_3 rfl rfl (show zyR _ _ _ _ [some (.ref (17 + 3)), some (.int x1)] [.int (2 : Int32), .ref (18 + 3)] _ _ from ?_)
  refine zy_35 rfl rfl rfl (show zyR _ _ _ _ [some (.ref (17 + 3)), some (.int x1)] [.int (2 : Int32), .ref (18 + 3), .int (2 : Int32), .ref (18 + 3)] _ _ from ?_)
  refine zy_26 (c := 18) rfl rfl (by decide) (show zyR _ _ _ _ [some (.ref (17 + 3)), some (.int x1)] [.int (s.1 18 2), .int (2 : Int32), .ref (18 + 3)] _ _ from ?_)
  refine zy_3 rfl rfl (show zyR _ _ _ _ [some (.ref (17 + 3)), some (.int x1)] [.int (1 : Int32), .int (s.1 18 2), .int (2 : Int32), .ref (18 + 3)] _ _ from ?_)
  refine zy_10 rfl (show zyR _ _ _ _ [some (.ref (17 + 3)), some (.int x1)] [.int ((s.1 18 2) + (1 : Int32)), .int (2 : Int32), .ref (18 + 3)] _ _ from ?_)
  refine zy_27 (c := 18) rfl rfl (by decide) (show zyR _ _ _ _ [some (.ref (17 + 3)), some (.int x1)] [] _ _ from ?_)
  refine zy_0 rfl rfl (show zyR _ _ _ _ [some (.ref (17 + 3)), some (.int x1)] [.ref (17 + 3)] _ _ from ?_)
  refine zy_1r (c := 17) rfl rfl rfl (show zyR _ _ _ _ [some (.ref (17 + 3)), some (.int x1)] [.ref (1 + 3)] _ _ from ?_)
  refine zy_1r (c := 1) rfl rfl rfl (show zyR _ _ _ _ [some (.ref (17 + 3)), some (.int x1)] [.ref (2 + 3)] _ _ from ?_)
  refine zy_2 rfl rfl (show zyR _ _ _ _ [some (.ref (17 + 3)), some (.int x1)] [.int x1, .ref (2 + 3)] _ _ from ?_)
  obtain ⟨c1, h⟩ := zy_if h
  refine zy_26 (c := 2) rfl rfl c1 (show zyR _ _ _ _ [some (.ref (17 + 3)), some (.int x1)] [.int (s.1 2 (x1).toNatClampNeg)] _ _ from ?_)
  refine zy_3 rfl rfl (show zyR _ _ _ _ [some (.ref (17 + 3)), some (.int x1)] [.int (9 : Int32), .int (s.1 2 (x1).toNatClampNeg)] _ _ from ?_)
  refine zy_25_2 rfl (fun b5 => (show zyR _ _ _ _ [some (.ref (17 + 3)), some (.int x1)] [] _ _ from ?_)) (fun b5 => (show zyR _ _ _ _ [some (.ref (17 + 3)), some (.int x1)] [] _ _ from ?_))
  · replace h := zy_ifp h b5
    refine zy_0 rfl rfl (show zyR _ _ _ _ [some (.ref (17 + 3)), some (.int x1)] [.ref (17 + 3)] _ _ from ?_)
    refine zy_1r (c := 17) rfl rfl rfl (show zyR _ _ _ _ [some (.ref (17 + 3)), some (.int x1)] [.ref (1 + 3)] _ _ from ?_)
    refine zy_1r (c := 1) rfl rfl rfl (show zyR _ _ _ _ [some (.ref (17 + 3)), some (.int x1)] [.ref (2 + 3)] _ _ from ?_)
    refine zy_2 rfl rfl (show zyR _ _ _ _ [some (.ref (17 + 3)), some (.int x1)] [.int x1, .ref (2 + 3)] _ _ from ?_)
    refine zy_35 rfl rfl rfl (show zyR _ _ _ _ [some (.ref (17 + 3)), some (.int x1)] [.int x1, .ref (2 + 3), .int x1, .ref (2 + 3)] _ _ from ?_)
    obtain ⟨c2, h⟩ := zy_if h
    refine zy_26 (c := 2) rfl rfl c2 (show zyR _ _ _ _ [some (.ref (17 + 3)), some (.int x1)] [.int (s.1 2 (x1).toNatClampNeg), .int x1, .ref (2 + 3)] _ _ from ?_)
    refine zy_3 rfl rfl (show zyR _ _ _ _ [some (.ref (17 + 3)), some (.int x1)] [.int (1 : Int32), .int (s.1 2 (x1).toNatClampNeg), .int x1, .ref (2 + 3)] _ _ from ?_)
    refine zy_10 rfl (show zyR _ _ _ _ [some (.ref (17 + 3)), some (.int x1)] [.int ((s.1 2 (x1).toNatClampNeg) + (1 : Int32)), .int x1, .ref (2 + 3)] _ _ from ?_)
    obtain ⟨c3, h⟩ := zy_if h
    refine zy_27 (c := 2) rfl rfl c3 (show zyR _ _ _ _ [some (.ref (17 + 3)), some (.int x1)] [] _ _ from ?_)
    refine zy_0 rfl rfl (show zyR _ _ _ _ [some (.ref (17 + 3)), some (.int x1)] [.ref (17 + 3)] _ _ from ?_)
    refine zy_1r (c := 17) rfl rfl rfl (show zyR _ _ _ _ [some (.ref (17 + 3)), some (.int x1)] [.ref (1 + 3)] _ _ from ?_)
    refine zy_1r (c := 1) rfl rfl rfl (show zyR _ _ _ _ [some (.ref (17 + 3)), some (.int x1)] [.ref (2 + 3)] _ _ from ?_)
    refine zy_2 rfl rfl (show zyR _ _ _ _ [some (.ref (17 + 3)), some (.int x1)] [.int x1, .ref (2 + 3)] _ _ from ?_)
    obtain ⟨c4, h⟩ := zy_if h
    refine zy_26 (c := 2) rfl rfl c4 (show zyR _ _ _ _ [some (.ref (17 + 3)), some (.int x1)] [.int ((zy_up (zy_up s 18 2 ((s.1 18 2) + (1 : Int32))) 2 (x1).toNatClampNeg ((s.1 2 (x1).toNatClampNeg) + (1 : Int32))).1 2 (x1).toNatClampNeg)] _ _ from ?_)
    obtain ⟨rfl, rfl⟩ := zy_pi h
    exact zy_4 rfl ⟨rfl, rfl⟩
  · replace h := zy_ifn h b5
    refine zy_0 rfl rfl (show zyR _ _ _ _ [some (.ref (17 + 3)), some (.int x1)] [.ref (17 + 3)] _ _ from ?_)
    refine zy_1r (c := 17) rfl rfl rfl (show zyR _ _ _ _ [some (.ref (17 + 3)), some (.int x1)] [.ref (1 + 3)] _ _ from ?_)
    refine zy_33 rfl rfl (show zyR _ _ _ _ [some (.ref (17 + 3)), some (.int x1)] [.ref (1 + 3), .ref (1 + 3)] _ _ from ?_)
    refine zy_1 (c := 1) rfl rfl rfl (show zyR _ _ _ _ [some (.ref (17 + 3)), some (.int x1)] [.int (s.1 1 3), .ref (1 + 3)] _ _ from ?_)
    refine zy_3 rfl rfl (show zyR _ _ _ _ [some (.ref (17 + 3)), some (.int x1)] [.int (1 : Int32), .int (s.1 1 3), .ref (1 + 3)] _ _ from ?_)
    refine zy_2 rfl rfl (show zyR _ _ _ _ [some (.ref (17 + 3)), some (.int x1)] [.int x1, .int (1 : Int32), .int (s.1 1 3), .ref (1 + 3)] _ _ from ?_)
    refine zy_16 rfl (show zyR _ _ _ _ [some (.ref (17 + 3)), some (.int x1)] [.int ((1 : Int32) <<< (x1 &&& 31)), .int (s.1 1 3), .ref (1 + 3)] _ _ from ?_)
    refine zy_3 rfl rfl (show zyR _ _ _ _ [some (.ref (17 + 3)), some (.int x1)] [.int (-1 : Int32), .int ((1 : Int32) <<< (x1 &&& 31)), .int (s.1 1 3), .ref (1 + 3)] _ _ from ?_)
    refine zy_15 rfl (show zyR _ _ _ _ [some (.ref (17 + 3)), some (.int x1)] [.int (((1 : Int32) <<< (x1 &&& 31)) ^^^ (-1 : Int32)), .int (s.1 1 3), .ref (1 + 3)] _ _ from ?_)
    refine zy_13 rfl (show zyR _ _ _ _ [some (.ref (17 + 3)), some (.int x1)] [.int ((s.1 1 3) &&& (((1 : Int32) <<< (x1 &&& 31)) ^^^ (-1 : Int32))), .ref (1 + 3)] _ _ from ?_)
    refine zy_52 (c := 1) rfl rfl rfl (show zyR _ _ _ _ [some (.ref (17 + 3)), some (.int x1)] [] _ _ from ?_)
    refine zy_0 rfl rfl (show zyR _ _ _ _ [some (.ref (17 + 3)), some (.int x1)] [.ref (17 + 3)] _ _ from ?_)
    refine zy_1r (c := 17) rfl rfl rfl (show zyR _ _ _ _ [some (.ref (17 + 3)), some (.int x1)] [.ref (18 + 3)] _ _ from ?_)
    refine zy_3 rfl rfl (show zyR _ _ _ _ [some (.ref (17 + 3)), some (.int x1)] [.int (4 : Int32), .ref (18 + 3)] _ _ from ?_)
    refine zy_35 rfl rfl rfl (show zyR _ _ _ _ [some (.ref (17 + 3)), some (.int x1)] [.int (4 : Int32), .ref (18 + 3), .int (4 : Int32), .ref (18 + 3)] _ _ from ?_)
    refine zy_26 (c := 18) rfl rfl (by decide) (show zyR _ _ _ _ [some (.ref (17 + 3)), some (.int x1)] [.int (s.1 18 4), .int (4 : Int32), .ref (18 + 3)] _ _ from ?_)
    refine zy_3 rfl rfl (show zyR _ _ _ _ [some (.ref (17 + 3)), some (.int x1)] [.int (1 : Int32), .int (s.1 18 4), .int (4 : Int32), .ref (18 + 3)] _ _ from ?_)
    refine zy_10 rfl (show zyR _ _ _ _ [some (.ref (17 + 3)), some (.int x1)] [.int ((s.1 18 4) + (1 : Int32)), .int (4 : Int32), .ref (18 + 3)] _ _ from ?_)
    refine zy_27 (c := 18) rfl rfl (by decide) (show zyR _ _ _ _ [some (.ref (17 + 3)), some (.int x1)] [] _ _ from ?_)
    refine zy_3 rfl rfl (show zyR _ _ _ _ [some (.ref (17 + 3)), some (.int x1)] [.int (10 : Int32)] _ _ from ?_)
    obtain ⟨rfl, rfl⟩ := zy_pi h
    exact zy_4 rfl ⟨rfl, rfl⟩
/-! NineOpinions.rub(I)I -/
noncomputable def zyF135   (x1 : Int32) (s : zy_S) : Option (Int32 × zy_S) :=
(zyF26 x1 s).bind fun p1 =>
if p1.1 ≠ 0 then
(zyF86 x1 p1.2).bind fun p2 =>
if p2.1 = 0 then
some ((-5 : Int32), p2.2)
else
(zyF136 x1 p2.2).bind fun p3 =>
some (p3.1, p3.2)
else
some ((-1 : Int32), p1.2)
theorem zyC135 {X : zx_X}     {x1 : Int32} {s : zy_S} {r : Int32} {s' : zy_S}  (h : zyF135 x1 s = some (r, s')) : zyR X 3 135 0 [some (.ref (0 + 3)), some (.int x1)] [] s (zyE (some (.int r)) s') := by
  unfold zyF135 at h
  refine zy_2 rfl rfl (show zyR _ _ _ _ [some (.ref (0 + 3)), some (.int x1)] [.int x1] _ _ from ?_)
  obtain ⟨p1, hp1, h⟩ := zy_bind h
  refine zy_60 (as := [.int x1]) (rest := []) (L := [some (.int x1)]) (d' := 1) rfl rfl (Nat.le_of_ble_eq_true rfl) (Nat.le_of_ble_eq_true rfl) rfl (Nat.le_of_ble_eq_true rfl) rfl rfl (zyC26 hp1) ?_
  show zyR _ _ _ _ [some (.ref (0 + 3)), some (.int x1)] [.int p1.1] _ _
  refine zy_24_1 rfl (fun b5 => (show zyR _ _ _ _ [some (.ref (0 + 3)), some (.int x1)] [] _ _ from ?_)) (fun b5 => (show zyR _ _ _ _ [some (.ref (0 + 3)), some (.int x1)] [] _ _ from ?_))
  · replace h := zy_ifp h b5
    refine zy_0 rfl rfl (show zyR _ _ _ _ [some (.ref (0 + 3)), some (.int x1)] [.ref (0 + 3)] _ _ from ?_)
    refine zy_1r (c := 0) rfl rfl rfl (show zyR _ _ _ _ [some (.ref (0 + 3)), some (.int x1)] [.ref (1 + 3)] _ _ from ?_)
    refine zy_2 rfl rfl (show zyR _ _ _ _ [some (.ref (0 + 3)), some (.int x1)] [.int x1, .ref (1 + 3)] _ _ from ?_)
    obtain ⟨p2, hp2, h⟩ := zy_bind h
    refine zy_5 (c := 1) (as := [.int x1]) (rest := []) (L := [some (.ref (1 + 3)), some (.int x1)]) (d' := 2) rfl rfl rfl (Nat.le_of_ble_eq_true rfl) (Nat.le_of_ble_eq_true rfl) rfl (Nat.le_of_ble_eq_true rfl) rfl rfl (zyC86 hp2) ?_
    show zyR _ _ _ _ [some (.ref (0 + 3)), some (.int x1)] [.int p2.1] _ _
    refine zy_24_0 rfl (fun b4 => (show zyR _ _ _ _ [some (.ref (0 + 3)), some (.int x1)] [] _ _ from ?_)) (fun b4 => (show zyR _ _ _ _ [some (.ref (0 + 3)), some (.int x1)] [] _ _ from ?_))
    · replace h := zy_ifp h b4
      refine zy_3 rfl rfl (show zyR _ _ _ _ [some (.ref (0 + 3)), some (.int x1)] [.int (-5 : Int32)] _ _ from ?_)
      obtain ⟨rfl, rfl⟩ := zy_pi h
      exact zy_4 rfl ⟨rfl, rfl⟩
    · replace h := zy_ifn h b4
      refine zy_0 rfl rfl (show zyR _ _ _ _ [some (.ref (0 + 3)), some (.int x1)] [.ref (0 + 3)] _ _ from ?_)
      refine zy_1r (c := 0) rfl rfl rfl (show zyR _ _ _ _ [some (.ref (0 + 3)), some (.int x1)] [.ref (17 + 3)] _ _ from ?_)
      refine zy_2 rfl rfl (show zyR _ _ _ _ [some (.ref (0 + 3)), some (.int x1)] [.int x1, .ref (17 + 3)] _ _ from ?_)
      obtain ⟨p3, hp3, h⟩ := zy_bind h
      refine zy_5 (c := 17) (as := [.int x1]) (rest := []) (L := [some (.ref (17 + 3)), some (.int x1)]) (d' := 1) rfl rfl rfl (Nat.le_of_ble_eq_true rfl) (Nat.le_of_ble_eq_true rfl) rfl (Nat.le_of_ble_eq_true rfl) rfl rfl (zyC136 hp3) ?_
      show zyR _ _ _ _ [some (.ref (0 + 3)), some (.int x1)] [.int p3.1] _ _
      refine zy_6 rfl (show zyR _ _ _ _ [some (.ref (0 + 3)), some (.int x1)] [.int p3.1] _ _ from ?_)
      obtain ⟨rfl, rfl⟩ := zy_pi h
      exact zy_4 rfl ⟨rfl, rfl⟩
  · replace h := zy_ifn h b5
    refine zy_3 rfl rfl (show zyR _ _ _ _ [some (.ref (0 + 3)), some (.int x1)] [.int (-1 : Int32)] _ _ from ?_)
    obtain ⟨rfl, rfl⟩ := zy_pi h
    exact zy_4 rfl ⟨rfl, rfl⟩
/-! NineOpinions.viewIn(II)I -/
noncomputable def zyF60   (x0 : Int32) (x1 : Int32) (s : zy_S) : Option (Int32 × zy_S) :=
some (((x0 >>> (((2 : Int32) * x1) &&& 31)) &&& (3 : Int32)), s)
theorem zyC60 {X : zx_X}     {x0 : Int32} {x1 : Int32} {s : zy_S} {r : Int32} {s' : zy_S}  (h : zyF60 x0 x1 s = some (r, s')) : zyR X 1 60 0 [some (.int x0), some (.int x1)] [] s (zyE (some (.int r)) s') := by
  unfold zyF60 at h
  refine zy_2 rfl rfl (show zyR _ _ _ _ [some (.int x0), some (.int x1)] [.int x0] _ _ from ?_)
  refine zy_3 rfl rfl (show zyR _ _ _ _ [some (.int x0), some (.int x1)] [.int (2 : Int32), .int x0] _ _ from ?_)
  refine zy_2 rfl rfl (show zyR _ _ _ _ [some (.int x0), some (.int x1)] [.int x1, .int (2 : Int32), .int x0] _ _ from ?_)
  refine zy_12 rfl (show zyR _ _ _ _ [some (.int x0), some (.int x1)] [.int ((2 : Int32) * x1), .int x0] _ _ from ?_)
  refine zy_17 rfl (show zyR _ _ _ _ [some (.int x0), some (.int x1)] [.int (x0 >>> (((2 : Int32) * x1) &&& 31))] _ _ from ?_)
  refine zy_3 rfl rfl (show zyR _ _ _ _ [some (.int x0), some (.int x1)] [.int (3 : Int32), .int (x0 >>> (((2 : Int32) * x1) &&& 31))] _ _ from ?_)
  refine zy_13 rfl (show zyR _ _ _ _ [some (.int x0), some (.int x1)] [.int ((x0 >>> (((2 : Int32) * x1) &&& 31)) &&& (3 : Int32))] _ _ from ?_)
  obtain ⟨rfl, rfl⟩ := zy_pi h
  exact zy_4 rfl ⟨rfl, rfl⟩
/-! NineOpinions$Town.holdsView(II)Z -/
noncomputable def zyF96   (x1 : Int32) (x2 : Int32) (s : zy_S) : Option (Int32 × zy_S) :=
if zy_in x1 8 then
(zyF60 (s.1 3 (x1).toNatClampNeg) (x2 / (4 : Int32)) s).bind fun p2 =>
if p2.1 ≠ (x2 - x2 / (4 : Int32) * (4 : Int32)) then
some ((0 : Int32), p2.2)
else
some ((1 : Int32), p2.2)
else none
theorem zyC96 {X : zx_X}     {x1 : Int32} {x2 : Int32} {s : zy_S} {r : Int32} {s' : zy_S}  (h : zyF96 x1 x2 s = some (r, s')) : zyR X 2 96 0 [some (.ref (1 + 3)), some (.int x1), some (.int x2)] [] s (zyE (some (.int r)) s') := by
  unfold zyF96 at h
  refine zy_0 rfl rfl (show zyR _ _ _ _ [some (.ref (1 + 3)), some (.int x1), some (.int x2)] [.ref (1 + 3)] _ _ from ?_)
  refine zy_1r (c := 1) rfl rfl rfl (show zyR _ _ _ _ [some (.ref (1 + 3)), some (.int x1), some (.int x2)] [.ref (3 + 3)] _ _ from ?_)
  refine zy_2 rfl rfl (show zyR _ _ _ _ [some (.ref (1 + 3)), some (.int x1), some (.int x2)] [.int x1, .ref (3 + 3)] _ _ from ?_)
  obtain ⟨c1, h⟩ := zy_if h
  refine zy_26 (c := 3) rfl rfl c1 (show zyR _ _ _ _ [some (.ref (1 + 3)), some (.int x1), some (.int x2)] [.int (s.1 3 (x1).toNatClampNeg)] _ _ from ?_)
  refine zy_2 rfl rfl (show zyR _ _ _ _ [some (.ref (1 + 3)), some (.int x1), some (.int x2)] [.int x2, .int (s.1 3 (x1).toNatClampNeg)] _ _ from ?_)
  refine zy_3 rfl rfl (show zyR _ _ _ _ [some (.ref (1 + 3)), some (.int x1), some (.int x2)] [.int (4 : Int32), .int x2, .int (s.1 3 (x1).toNatClampNeg)] _ _ from ?_)
  refine zy_19 rfl (by decide) (show zyR _ _ _ _ [some (.ref (1 + 3)), some (.int x1), some (.int x2)] [.int (x2 / (4 : Int32)), .int (s.1 3 (x1).toNatClampNeg)] _ _ from ?_)
  obtain ⟨p2, hp2, h⟩ := zy_bind h
  refine zy_61 (as := [.int (s.1 3 (x1).toNatClampNeg), .int (x2 / (4 : Int32))]) (rest := []) (L := [some (.int (s.1 3 (x1).toNatClampNeg)), some (.int (x2 / (4 : Int32)))]) (d' := 1) rfl rfl (Nat.le_of_ble_eq_true rfl) (Nat.le_of_ble_eq_true rfl) rfl (Nat.le_of_ble_eq_true rfl) rfl rfl (zyC60 hp2) ?_
  show zyR _ _ _ _ [some (.ref (1 + 3)), some (.int x1), some (.int x2)] [.int p2.1] _ _
  refine zy_2 rfl rfl (show zyR _ _ _ _ [some (.ref (1 + 3)), some (.int x1), some (.int x2)] [.int x2, .int p2.1] _ _ from ?_)
  refine zy_3 rfl rfl (show zyR _ _ _ _ [some (.ref (1 + 3)), some (.int x1), some (.int x2)] [.int (4 : Int32), .int x2, .int p2.1] _ _ from ?_)
  refine zy_20 rfl (by decide) (show zyR _ _ _ _ [some (.ref (1 + 3)), some (.int x1), some (.int x2)] [.int (x2 - x2 / (4 : Int32) * (4 : Int32)), .int p2.1] _ _ from ?_)
  refine zy_25_1 rfl (fun b3 => (show zyR _ _ _ _ [some (.ref (1 + 3)), some (.int x1), some (.int x2)] [] _ _ from ?_)) (fun b3 => (show zyR _ _ _ _ [some (.ref (1 + 3)), some (.int x1), some (.int x2)] [] _ _ from ?_))
  · replace h := zy_ifp h b3
    refine zy_3 rfl rfl (show zyR _ _ _ _ [some (.ref (1 + 3)), some (.int x1), some (.int x2)] [.int (0 : Int32)] _ _ from ?_)
    cases h
    exact zy_4b rfl ⟨rfl, rfl⟩ (Or.inl rfl)
  · replace h := zy_ifn h b3
    refine zy_3 rfl rfl (show zyR _ _ _ _ [some (.ref (1 + 3)), some (.int x1), some (.int x2)] [.int (1 : Int32)] _ _ from ?_)
    refine zy_6 rfl (show zyR _ _ _ _ [some (.ref (1 + 3)), some (.int x1), some (.int x2)] [.int (1 : Int32)] _ _ from ?_)
    cases h
    exact zy_4b rfl ⟨rfl, rfl⟩ (Or.inr rfl)
/-! NineOpinions$Deeds.doWin(II)I -/
noncomputable def zyF138   (x1 : Int32) (x2 : Int32) (s : zy_S) : Option (Int32 × zy_S) :=
if zy_in x1 8 then
if zy_in x1 8 then
if zy_in x1 8 then
some (((zy_up s 3 (x1).toNatClampNeg (((s.1 3 (x1).toNatClampNeg) &&& (((3 : Int32) <<< (((2 : Int32) * (x2 / (4 : Int32))) &&& 31)) ^^^ (-1 : Int32))) ||| ((x2 - x2 / (4 : Int32) * (4 : Int32)) <<< (((2 : Int32) * (x2 / (4 : Int32))) &&& 31)))).1 3 (x1).toNatClampNeg), (zy_up (zy_up s 3 (x1).toNatClampNeg (((s.1 3 (x1).toNatClampNeg) &&& (((3 : Int32) <<< (((2 : Int32) * (x2 / (4 : Int32))) &&& 31)) ^^^ (-1 : Int32))) ||| ((x2 - x2 / (4 : Int32) * (4 : Int32)) <<< (((2 : Int32) * (x2 / (4 : Int32))) &&& 31)))) 18 3 ((s.1 18 3) + (1 : Int32))))
else none
else none
else none
theorem zyC138 {X : zx_X}     {x1 : Int32} {x2 : Int32} {s : zy_S} {r : Int32} {s' : zy_S}  (h : zyF138 x1 x2 s = some (r, s')) : zyR X 1 138 0 [some (.ref (17 + 3)), some (.int x1), some (.int x2), none] [] s (zyE (some (.int r)) s') := by
  unfold zyF138 at h
  refine zy_3 rfl rfl (show zyR _ _ _ _ [some (.ref (17 + 3)), some (.int x1), some (.int x2), none] [.int (2 : Int32)] _ _ from ?_)
  refine zy_2 rfl rfl (show zyR _ _ _ _ [some (.ref (17 + 3)), some (.int x1), some (.int x2), none] [.int x2, .int (2 : Int32)] _ _ from ?_)
  refine zy_3 rfl rfl (show zyR _ _ _ _ [some (.ref (17 + 3)), some (.int x1), some (.int x2), none] [.int (4 : Int32), .int x2, .int (2 : Int32)] _ _ from ?_)
  refine zy_19 rfl (by decide) (show zyR _ _ _ _ [some (.ref (17 + 3)), some (.int x1), some (.int x2), none] [.int (x2 / (4 : Int32)), .int (2 : Int32)] _ _ from ?_)
  refine zy_12 rfl (show zyR _ _ _ _ [some (.ref (17 + 3)), some (.int x1), some (.int x2), none] [.int ((2 : Int32) * (x2 / (4 : Int32)))] _ _ from ?_)
  refine zy_23 rfl rfl (show zyR _ _ _ _ [some (.ref (17 + 3)), some (.int x1), some (.int x2), some (.int ((2 : Int32) * (x2 / (4 : Int32))))] [] _ _ from ?_)
  refine zy_0 rfl rfl (show zyR _ _ _ _ [some (.ref (17 + 3)), some (.int x1), some (.int x2), some (.int ((2 : Int32) * (x2 / (4 : Int32))))] [.ref (17 + 3)] _ _ from ?_)
  refine zy_1r (c := 17) rfl rfl rfl (show zyR _ _ _ _ [some (.ref (17 + 3)), some (.int x1), some (.int x2), some (.int ((2 : Int32) * (x2 / (4 : Int32))))] [.ref (1 + 3)] _ _ from ?_)
  refine zy_1r (c := 1) rfl rfl rfl (show zyR _ _ _ _ [some (.ref (17 + 3)), some (.int x1), some (.int x2), some (.int ((2 : Int32) * (x2 / (4 : Int32))))] [.ref (3 + 3)] _ _ from ?_)
  refine zy_2 rfl rfl (show zyR _ _ _ _ [some (.ref (17 + 3)), some (.int x1), some (.int x2), some (.int ((2 : Int32) * (x2 / (4 : Int32))))] [.int x1, .ref (3 + 3)] _ _ from ?_)
  refine zy_0 rfl rfl (show zyR _ _ _ _ [some (.ref (17 + 3)), some (.int x1), some (.int x2), some (.int ((2 : Int32) * (x2 / (4 : Int32))))] [.ref (17 + 3), .int x1, .ref (3 + 3)] _ _ from ?_)
  refine zy_1r (c := 17) rfl rfl rfl (show zyR _ _ _ _ [some (.ref (17 + 3)), some (.int x1), some (.int x2), some (.int ((2 : Int32) * (x2 / (4 : Int32))))] [.ref (1 + 3), .int x1, .ref (3 + 3)] _ _ from ?_)
  refine zy_1r (c := 1) rfl rfl rfl (show zyR _ _ _ _ [some (.ref (17 + 3)), some (.int x1), some (.int x2), some (.int ((2 : Int32) * (x2 / (4 : Int32))))] [.ref (3 + 3), .int x1, .ref (3 + 3)] _ _ from ?_)
  refine zy_2 rfl rfl (show zyR _ _ _ _ [some (.ref (17 + 3)), some (.int x1), some (.int x2), some (.int ((2 : Int32) * (x2 / (4 : Int32))))] [.int x1, .ref (3 + 3), .int x1, .ref (3 + 3)] _ _ from ?_)
  obtain ⟨c1, h⟩ := zy_if h
  refine zy_26 (c := 3) rfl rfl c1 (show zyR _ _ _ _ [some (.ref (17 + 3)), some (.int x1), some (.int x2), some (.int ((2 : Int32) * (x2 / (4 : Int32))))] [.int (s.1 3 (x1).toNatClampNeg), .int x1, .ref (3 + 3)] _ _ from ?_)
  refine zy_3 rfl rfl (show zyR _ _ _ _ [some (.ref (17 + 3)), some (.int x1), some (.int x2), some (.int ((2 : Int32) * (x2 / (4 : Int32))))] [.int (3 : Int32), .int (s.1 3 (x1).toNatClampNeg), .int x1, .ref (3 + 3)] _ _ from ?_)
  refine zy_2 rfl rfl (show zyR _ _ _ _ [some (.ref (17 + 3)), some (.int x1), some (.int x2), some (.int ((2 : Int32) * (x2 / (4 : Int32))))] [.int ((2 : Int32) * (x2 / (4 : Int32))), .int (3 : Int32), .int (s.1 3 (x1).toNatClampNeg), .int x1, .ref (3 + 3)] _ _ from ?_)
  refine zy_16 rfl (show zyR _ _ _ _ [some (.ref (17 + 3)), some (.int x1), some (.int x2), some (.int ((2 : Int32) * (x2 / (4 : Int32))))] [.int ((3 : Int32) <<< (((2 : Int32) * (x2 / (4 : Int32))) &&& 31)), .int (s.1 3 (x1).toNatClampNeg), .int x1, .ref (3 + 3)] _ _ from ?_)
  refine zy_3 rfl rfl (show zyR _ _ _ _ [some (.ref (17 + 3)), some (.int x1), some (.int x2), some (.int ((2 : Int32) * (x2 / (4 : Int32))))] [.int (-1 : Int32), .int ((3 : Int32) <<< (((2 : Int32) * (x2 / (4 : Int32))) &&& 31)), .int (s.1 3 (x1).toNatClampNeg), .int x1, .ref (3 + 3)] _ _ from ?_)
  refine zy_15 rfl (show zyR _ _ _ _ [some (.ref (17 + 3)), some (.int x1), some (.int x2), some (.int ((2 : Int32) * (x2 / (4 : Int32))))] [.int (((3 : Int32) <<< (((2 : Int32) * (x2 / (4 : Int32))) &&& 31)) ^^^ (-1 : Int32)), .int (s.1 3 (x1).toNatClampNeg), .int x1, .ref (3 + 3)] _ _ from ?_)
  refine zy_13 rfl (show zyR _ _ _ _ [some (.ref (17 + 3)), some (.int x1), some (.int x2), some (.int ((2 : Int32) * (x2 / (4 : Int32))))] [.int ((s.1 3 (x1).toNatClampNeg) &&& (((3 : Int32) <<< (((2 : Int32) * (x2 / (4 : Int32))) &&& 31)) ^^^ (-1 : Int32))), .int x1, .ref (3 + 3)] _ _ from ?_)
  refine zy_2 rfl rfl (show zyR _ _ _ _ [some (.ref (17 + 3)), some (.int x1), some (.int x2), some (.int ((2 : Int32) * (x2 / (4 : Int32))))] [.int x2, .int ((s.1 3 (x1).toNatClampNeg) &&& (((3 : Int32) <<< (((2 : Int32) * (x2 / (4 : Int32))) &&& 31)) ^^^ (-1 : Int32))), .int x1, .ref (3 + 3)] _ _ from ?_)
  refine zy_3 rfl rfl (show zyR _ _ _ _ [some (.ref (17 + 3)), some (.int x1), some (.int x2), some (.int ((2 : Int32) * (x2 / (4 : Int32))))] [.int (4 : Int32), .int x2, .int ((s.1 3 (x1).toNatClampNeg) &&& (((3 : Int32) <<< (((2 : Int32) * (x2 / (4 : Int32))) &&& 31)) ^^^ (-1 : Int32))), .int x1, .ref (3 + 3)] _ _ from ?_)
  refine zy_20 rfl (by decide) (show zyR _ _ _ _ [some (.ref (17 + 3)), some (.int x1), some (.int x2), some (.int ((2 : Int32) * (x2 / (4 : Int32))))] [.int (x2 - x2 / (4 : Int32) * (4 : Int32)), .int ((s.1 3 (x1).toNatClampNeg) &&& (((3 : Int32) <<< (((2 : Int32) * (x2 / (4 : Int32))) &&& 31)) ^^^ (-1 : Int32))), .int x1, .ref (3 + 3)] _ _ from ?_)
  refine zy_2 rfl rfl (show zyR _ _ _ _ [some (.ref (17 + 3)), some (.int x1), some (.int x2), some (.int ((2 : Int32) * (x2 / (4 : Int32))))] [.int ((2 : Int32) * (x2 / (4 : Int32))), .int (x2 - x2 / (4 : Int32) * (4 : Int32)), .int ((s.1 3 (x1).toNatClampNeg) &&& (((3 : Int32) <<< (((2 : Int32) * (x2 / (4 : Int32))) &&& 31)) ^^^ (-1 : Int32))), .int x1, .ref (3 + 3)] _ _ from ?_)
  refine zy_16 rfl (show zyR _ _ _ _ [some (.ref (17 + 3)), some (.int x1), some (.int x2), some (.int ((2 : Int32) * (x2 / (4 : Int32))))] [.int ((x2 - x2 / (4 : Int32) * (4 : Int32)) <<< (((2 : Int32) * (x2 / (4 : Int32))) &&& 31)), .int ((s.1 3 (x1).toNatClampNeg) &&& (((3 : Int32) <<< (((2 : Int32) * (x2 / (4 : Int32))) &&& 31)) ^^^ (-1 : Int32))), .int x1, .ref (3 + 3)] _ _ from ?_)
  refine zy_14 rfl (show zyR _ _ _ _ [some (.ref (17 + 3)), some (.int x1), some (.int x2), some (.int ((2 : Int32) * (x2 / (4 : Int32))))] [.int (((s.1 3 (x1).toNatClampNeg) &&& (((3 : Int32) <<< (((2 : Int32) * (x2 / (4 : Int32))) &&& 31)) ^^^ (-1 : Int32))) ||| ((x2 - x2 / (4 : Int32) * (4 : Int32)) <<< (((2 : Int32) * (x2 / (4 : Int32))) &&& 31))), .int x1, .ref (3 + 3)] _ _ from ?_)
  obtain ⟨c2, h⟩ := zy_if h
  refine zy_27 (c := 3) rfl rfl c2 (show zyR _ _ _ _ [some (.ref (17 + 3)), some (.int x1), some (.int x2), some (.int ((2 : Int32) * (x2 / (4 : Int32))))] [] _ _ from ?_)
  refine zy_0 rfl rfl (show zyR _ _ _ _ [some (.ref (17 + 3)), some (.int x1), some (.int x2), some (.int ((2 : Int32) * (x2 / (4 : Int32))))] [.ref (17 + 3)] _ _ from ?_)
  refine zy_1r (c := 17) rfl rfl rfl (show zyR _ _ _ _ [some (.ref (17 + 3)), some (.int x1), some (.int x2), some (.int ((2 : Int32) * (x2 / (4 : Int32))))] [.ref (18 + 3)] _ _ from ?_)
  refine zy_3 rfl rfl (show zyR _ _ _ _ [some (.ref (17 + 3)), some (.int x1), some (.int x2), some (.int ((2 : Int32) * (x2 / (4 : Int32))))] [.int (3 : Int32), .ref (18 + 3)] _ _ from ?_)
  refine zy_35 rfl rfl rfl (show zyR _ _ _ _ [some (.ref (17 + 3)), some (.int x1), some (.int x2), some (.int ((2 : Int32) * (x2 / (4 : Int32))))] [.int (3 : Int32), .ref (18 + 3), .int (3 : Int32), .ref (18 + 3)] _ _ from ?_)
  refine zy_26 (c := 18) rfl rfl (by decide) (show zyR _ _ _ _ [some (.ref (17 + 3)), some (.int x1), some (.int x2), some (.int ((2 : Int32) * (x2 / (4 : Int32))))] [.int (s.1 18 3), .int (3 : Int32), .ref (18 + 3)] _ _ from ?_)
  refine zy_3 rfl rfl (show zyR _ _ _ _ [some (.ref (17 + 3)), some (.int x1), some (.int x2), some (.int ((2 : Int32) * (x2 / (4 : Int32))))] [.int (1 : Int32), .int (s.1 18 3), .int (3 : Int32), .ref (18 + 3)] _ _ from ?_)
  refine zy_10 rfl (show zyR _ _ _ _ [some (.ref (17 + 3)), some (.int x1), some (.int x2), some (.int ((2 : Int32) * (x2 / (4 : Int32))))] [.int ((s.1 18 3) + (1 : Int32)), .int (3 : Int32), .ref (18 + 3)] _ _ from ?_)
  refine zy_27 (c := 18) rfl rfl (by decide) (show zyR _ _ _ _ [some (.ref (17 + 3)), some (.int x1), some (.int x2), some (.int ((2 : Int32) * (x2 / (4 : Int32))))] [] _ _ from ?_)
  refine zy_0 rfl rfl (show zyR _ _ _ _ [some (.ref (17 + 3)), some (.int x1), some (.int x2), some (.int ((2 : Int32) * (x2 / (4 : Int32))))] [.ref (17 + 3)] _ _ from ?_)
  refine zy_1r (c := 17) rfl rfl rfl (show zyR _ _ _ _ [some (.ref (17 + 3)), some (.int x1), some (.int x2), some (.int ((2 : Int32) * (x2 / (4 : Int32))))] [.ref (1 + 3)] _ _ from ?_)
  refine zy_1r (c := 1) rfl rfl rfl (show zyR _ _ _ _ [some (.ref (17 + 3)), some (.int x1), some (.int x2), some (.int ((2 : Int32) * (x2 / (4 : Int32))))] [.ref (3 + 3)] _ _ from ?_)
  refine zy_2 rfl rfl (show zyR _ _ _ _ [some (.ref (17 + 3)), some (.int x1), some (.int x2), some (.int ((2 : Int32) * (x2 / (4 : Int32))))] [.int x1, .ref (3 + 3)] _ _ from ?_)
  obtain ⟨c3, h⟩ := zy_if h
  refine zy_26 (c := 3) rfl rfl c3 (show zyR _ _ _ _ [some (.ref (17 + 3)), some (.int x1), some (.int x2), some (.int ((2 : Int32) * (x2 / (4 : Int32))))] [.int ((zy_up s 3 (x1).toNatClampNeg (((s.1 3 (x1).toNatClampNeg) &&& (((3 : Int32) <<< (((2 : Int32) * (x2 / (4 : Int32))) &&& 31)) ^^^ (-1 : Int32))) ||| ((x2 - x2 / (4 : Int32) * (4 : Int32)) <<< (((2 : Int32) * (x2 / (4 : Int32))) &&& 31)))).1 3 (x1).toNatClampNeg)] _ _ from ?_)
  obtain ⟨rfl, rfl⟩ := zy_pi h
  exact zy_4 rfl ⟨rfl, rfl⟩
