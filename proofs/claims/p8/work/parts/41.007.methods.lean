/-! PART 41.07: methods as functions. Made by wip/v4/dcp.py. -/
/-! java/lang/Integer.bitCount(I)I -/
noncomputable def zyF63_48   (x0 : Int32) (s : zy_S) : Option (Int32 × zy_S) :=
some ((x0 &&& (63 : Int32)), s)
theorem zyC63_48 {X : zx_X}     {x0 : Int32} {s : zy_S} {r : Int32} {s' : zy_S}  (h : zyF63_48 x0 s = some (r, s')) : zyR X 1 63 48 [some (.int x0)] [] s (zyE (some (.int r)) s') := by
  unfold zyF63_48 at h
  refine zy_2 rfl rfl (show zyR _ _ _ _ [some (.int x0)] [.int x0] _ _ from ?_)
  refine zy_3 rfl rfl (show zyR _ _ _ _ [some (.int x0)] [.int (63 : Int32), .int x0] _ _ from ?_)
  refine zy_13 rfl (show zyR _ _ _ _ [some (.int x0)] [.int (x0 &&& (63 : Int32))] _ _ from ?_)
  obtain ⟨rfl, rfl⟩ := zy_pi h
  exact zy_4 rfl ⟨rfl, rfl⟩
noncomputable def zyF63_41   (x0 : Int32) (s : zy_S) : Option (Int32 × zy_S) :=
zyF63_48 (x0 + ((x0).toUInt32 >>> (((16 : Int32)).toUInt32 &&& Int32.toUInt32 31)).toInt32) s
theorem zyC63_41 {X : zx_X}     {x0 : Int32} {s : zy_S} {r : Int32} {s' : zy_S}  (h : zyF63_41 x0 s = some (r, s')) : zyR X 1 63 41 [some (.int x0)] [] s (zyE (some (.int r)) s') := by
  unfold zyF63_41 at h
  refine zy_2 rfl rfl (show zyR _ _ _ _ [some (.int x0)] [.int x0] _ _ from ?_)
  refine zy_2 rfl rfl (show zyR _ _ _ _ [some (.int x0)] [.int x0, .int x0] _ _ from ?_)
  refine zy_3 rfl rfl (show zyR _ _ _ _ [some (.int x0)] [.int (16 : Int32), .int x0, .int x0] _ _ from ?_)
  refine zy_18 rfl (show zyR _ _ _ _ [some (.int x0)] [.int ((x0).toUInt32 >>> (((16 : Int32)).toUInt32 &&& Int32.toUInt32 31)).toInt32, .int x0] _ _ from ?_)
  refine zy_10 rfl (show zyR _ _ _ _ [some (.int x0)] [.int (x0 + ((x0).toUInt32 >>> (((16 : Int32)).toUInt32 &&& Int32.toUInt32 31)).toInt32)] _ _ from ?_)
  refine zy_23 rfl rfl (show zyR _ _ _ _ [some (.int (x0 + ((x0).toUInt32 >>> (((16 : Int32)).toUInt32 &&& Int32.toUInt32 31)).toInt32))] [] _ _ from ?_)
  exact zy_sub (show zy_le [some (.int (x0 + ((x0).toUInt32 >>> (((16 : Int32)).toUInt32 &&& Int32.toUInt32 31)).toInt32))] [some (.int (x0 + ((x0).toUInt32 >>> (((16 : Int32)).toUInt32 &&& Int32.toUInt32 31)).toInt32))] from ⟨rfl, trivial⟩) (zyC63_48 h)
noncomputable def zyF63_34   (x0 : Int32) (s : zy_S) : Option (Int32 × zy_S) :=
zyF63_41 (x0 + ((x0).toUInt32 >>> (((8 : Int32)).toUInt32 &&& Int32.toUInt32 31)).toInt32) s
theorem zyC63_34 {X : zx_X}     {x0 : Int32} {s : zy_S} {r : Int32} {s' : zy_S}  (h : zyF63_34 x0 s = some (r, s')) : zyR X 1 63 34 [some (.int x0)] [] s (zyE (some (.int r)) s') := by
  unfold zyF63_34 at h
  refine zy_2 rfl rfl (show zyR _ _ _ _ [some (.int x0)] [.int x0] _ _ from ?_)
  refine zy_2 rfl rfl (show zyR _ _ _ _ [some (.int x0)] [.int x0, .int x0] _ _ from ?_)
  refine zy_3 rfl rfl (show zyR _ _ _ _ [some (.int x0)] [.int (8 : Int32), .int x0, .int x0] _ _ from ?_)
  refine zy_18 rfl (show zyR _ _ _ _ [some (.int x0)] [.int ((x0).toUInt32 >>> (((8 : Int32)).toUInt32 &&& Int32.toUInt32 31)).toInt32, .int x0] _ _ from ?_)
  refine zy_10 rfl (show zyR _ _ _ _ [some (.int x0)] [.int (x0 + ((x0).toUInt32 >>> (((8 : Int32)).toUInt32 &&& Int32.toUInt32 31)).toInt32)] _ _ from ?_)
  refine zy_23 rfl rfl (show zyR _ _ _ _ [some (.int (x0 + ((x0).toUInt32 >>> (((8 : Int32)).toUInt32 &&& Int32.toUInt32 31)).toInt32))] [] _ _ from ?_)
  exact zy_sub (show zy_le [some (.int (x0 + ((x0).toUInt32 >>> (((8 : Int32)).toUInt32 &&& Int32.toUInt32 31)).toInt32))] [some (.int (x0 + ((x0).toUInt32 >>> (((8 : Int32)).toUInt32 &&& Int32.toUInt32 31)).toInt32))] from ⟨rfl, trivial⟩) (zyC63_41 h)
noncomputable def zyF63_24   (x0 : Int32) (s : zy_S) : Option (Int32 × zy_S) :=
zyF63_34 ((x0 + ((x0).toUInt32 >>> (((4 : Int32)).toUInt32 &&& Int32.toUInt32 31)).toInt32) &&& (252645135 : Int32)) s
theorem zyC63_24 {X : zx_X}     {x0 : Int32} {s : zy_S} {r : Int32} {s' : zy_S}  (h : zyF63_24 x0 s = some (r, s')) : zyR X 1 63 24 [some (.int x0)] [] s (zyE (some (.int r)) s') := by
  unfold zyF63_24 at h
  refine zy_2 rfl rfl (show zyR _ _ _ _ [some (.int x0)] [.int x0] _ _ from ?_)
  refine zy_2 rfl rfl (show zyR _ _ _ _ [some (.int x0)] [.int x0, .int x0] _ _ from ?_)
  refine zy_3 rfl rfl (show zyR _ _ _ _ [some (.int x0)] [.int (4 : Int32), .int x0, .int x0] _ _ from ?_)
  refine zy_18 rfl (show zyR _ _ _ _ [some (.int x0)] [.int ((x0).toUInt32 >>> (((4 : Int32)).toUInt32 &&& Int32.toUInt32 31)).toInt32, .int x0] _ _ from ?_)
  refine zy_10 rfl (show zyR _ _ _ _ [some (.int x0)] [.int (x0 + ((x0).toUInt32 >>> (((4 : Int32)).toUInt32 &&& Int32.toUInt32 31)).toInt32)] _ _ from ?_)
  refine zy_3c rfl rfl (show zyR _ _ _ _ [some (.int x0)] [.int (252645135 : Int32), .int (x0 + ((x0).toUInt32 >>> (((4 : Int32)).toUInt32 &&& Int32.toUInt32 31)).toInt32)] _ _ from ?_)
  refine zy_13 rfl (show zyR _ _ _ _ [some (.int x0)] [.int ((x0 + ((x0).toUInt32 >>> (((4 : Int32)).toUInt32 &&& Int32.toUInt32 31)).toInt32) &&& (252645135 : Int32))] _ _ from ?_)
  refine zy_23 rfl rfl (show zyR _ _ _ _ [some (.int ((x0 + ((x0).toUInt32 >>> (((4 : Int32)).toUInt32 &&& Int32.toUInt32 31)).toInt32) &&& (252645135 : Int32)))] [] _ _ from ?_)
  exact zy_sub (show zy_le [some (.int ((x0 + ((x0).toUInt32 >>> (((4 : Int32)).toUInt32 &&& Int32.toUInt32 31)).toInt32) &&& (252645135 : Int32)))] [some (.int ((x0 + ((x0).toUInt32 >>> (((4 : Int32)).toUInt32 &&& Int32.toUInt32 31)).toInt32) &&& (252645135 : Int32)))] from ⟨rfl, trivial⟩) (zyC63_34 h)
noncomputable def zyF63   (x0 : Int32) (s : zy_S) : Option (Int32 × zy_S) :=
zyF63_24 (((x0 - (((x0).toUInt32 >>> (((1 : Int32)).toUInt32 &&& Int32.toUInt32 31)).toInt32 &&& (1431655765 : Int32))) &&& (858993459 : Int32)) + ((((x0 - (((x0).toUInt32 >>> (((1 : Int32)).toUInt32 &&& Int32.toUInt32 31)).toInt32 &&& (1431655765 : Int32)))).toUInt32 >>> (((2 : Int32)).toUInt32 &&& Int32.toUInt32 31)).toInt32 &&& (858993459 : Int32))) s
theorem zyC63 {X : zx_X}     {x0 : Int32} {s : zy_S} {r : Int32} {s' : zy_S}  (h : zyF63 x0 s = some (r, s')) : zyR X 1 63 0 [some (.int x0)] [] s (zyE (some (.int r)) s') := by
  unfold zyF63 at h
  refine zy_2 rfl rfl (show zyR _ _ _ _ [some (.int x0)] [.int x0] _ _ from ?_)
  refine zy_2 rfl rfl (show zyR _ _ _ _ [some (.int x0)] [.int x0, .int x0] _ _ from ?_)
  refine zy_3 rfl rfl (show zyR _ _ _ _ [some (.int x0)] [.int (1 : Int32), .int x0, .int x0] _ _ from ?_)
  refine zy_18 rfl (show zyR _ _ _ _ [some (.int x0)] [.int ((x0).toUInt32 >>> (((1 : Int32)).toUInt32 &&& Int32.toUInt32 31)).toInt32, .int x0] _ _ from ?_)
  refine zy_3c rfl rfl (show zyR _ _ _ _ [some (.int x0)] [.int (1431655765 : Int32), .int ((x0).toUInt32 >>> (((1 : Int32)).toUInt32 &&& Int32.toUInt32 31)).toInt32, .int x0] _ _ from ?_)
  refine zy_13 rfl (show zyR _ _ _ _ [some (.int x0)] [.int (((x0).toUInt32 >>> (((1 : Int32)).toUInt32 &&& Int32.toUInt32 31)).toInt32 &&& (1431655765 : Int32)), .int x0] _ _ from ?_)
  refine zy_11 rfl (show zyR _ _ _ _ [some (.int x0)] [.int (x0 - (((x0).toUInt32 >>> (((1 : Int32)).toUInt32 &&& Int32.toUInt32 31)).toInt32 &&& (1431655765 : Int32)))] _ _ from ?_)
  refine zy_23 rfl rfl (show zyR _ _ _ _ [some (.int (x0 - (((x0).toUInt32 >>> (((1 : Int32)).toUInt32 &&& Int32.toUInt32 31)).toInt32 &&& (1431655765 : Int32))))] [] _ _ from ?_)
  refine zy_2 rfl rfl (show zyR _ _ _ _ [some (.int (x0 - (((x0).toUInt32 >>> (((1 : Int32)).toUInt32 &&& Int32.toUInt32 31)).toInt32 &&& (1431655765 : Int32))))] [.int (x0 - (((x0).toUInt32 >>> (((1 : Int32)).toUInt32 &&& Int32.toUInt32 31)).toInt32 &&& (1431655765 : Int32)))] _ _ from ?_)
  refine zy_3c rfl rfl (show zyR _ _ _ _ [some (.int (x0 - (((x0).toUInt32 >>> (((1 : Int32)).toUInt32 &&& Int32.toUInt32 31)).toInt32 &&& (1431655765 : Int32))))] [.int (858993459 : Int32), .int (x0 - (((x0).toUInt32 >>> (((1 : Int32)).toUInt32 &&& Int32.toUInt32 31)).toInt32 &&& (1431655765 : Int32)))] _ _ from ?_)
  refine zy_13 rfl (show zyR _ _ _ _ [some (.int (x0 - (((x0).toUInt32 >>> (((1 : Int32)).toUInt32 &&& Int32.toUInt32 31)).toInt32 &&& (1431655765 : Int32))))] [.int ((x0 - (((x0).toUInt32 >>> (((1 : Int32)).toUInt32 &&& Int32.toUInt32 31)).toInt32 &&& (1431655765 : Int32))) &&& (858993459 : Int32))] _ _ from ?_)
  refine zy_2 rfl rfl (show zyR _ _ _ _ [some (.int (x0 - (((x0).toUInt32 >>> (((1 : Int32)).toUInt32 &&& Int32.toUInt32 31)).toInt32 &&& (1431655765 : Int32))))] [.int (x0 - (((x0).toUInt32 >>> (((1 : Int32)).toUInt32 &&& Int32.toUInt32 31)).toInt32 &&& (1431655765 : Int32))), .int ((x0 - (((x0).toUInt32 >>> (((1 : Int32)).toUInt32 &&& Int32.toUInt32 31)).toInt32 &&& (1431655765 : Int32))) &&& (858993459 : Int32))] _ _ from ?_)
  refine zy_3 rfl rfl (show zyR _ _ _ _ [some (.int (x0 - (((x0).toUInt32 >>> (((1 : Int32)).toUInt32 &&& Int32.toUInt32 31)).toInt32 &&& (1431655765 : Int32))))] [.int (2 : Int32), .int (x0 - (((x0).toUInt32 >>> (((1 : Int32)).toUInt32 &&& Int32.toUInt32 31)).toInt32 &&& (1431655765 : Int32))), .int ((x0 - (((x0).toUInt32 >>> (((1 : Int32)).toUInt32 &&& Int32.toUInt32 31)).toInt32 &&& (1431655765 : Int32))) &&& (858993459 : Int32))] _ _ from ?_)
  refine zy_18 rfl (show zyR _ _ _ _ [some (.int (x0 - (((x0).toUInt32 >>> (((1 : Int32)).toUInt32 &&& Int32.toUInt32 31)).toInt32 &&& (1431655765 : Int32))))] [.int (((x0 - (((x0).toUInt32 >>> (((1 : Int32)).toUInt32 &&& Int32.toUInt32 31)).toInt32 &&& (1431655765 : Int32)))).toUInt32 >>> (((2 : Int32)).toUInt32 &&& Int32.toUInt32 31)).toInt32, .int ((x0 - (((x0).toUInt32 >>> (((1 : Int32)).toUInt32 &&& Int32.toUInt32 31)).toInt32 &&& (1431655765 : Int32))) &&& (858993459 : Int32))] _ _ from ?_)
  refine zy_3c rfl rfl (show zyR _ _ _ _ [some (.int (x0 - (((x0).toUInt32 >>> (((1 : Int32)).toUInt32 &&& Int32.toUInt32 31)).toInt32 &&& (1431655765 : Int32))))] [.int (858993459 : Int32), .int (((x0 - (((x0).toUInt32 >>> (((1 : Int32)).toUInt32 &&& Int32.toUInt32 31)).toInt32 &&& (1431655765 : Int32)))).toUInt32 >>> (((2 : Int32)).toUInt32 &&& Int32.toUInt32 31)).toInt32, .int ((x0 - (((x0).toUInt32 >>> (((1 : Int32)).toUInt32 &&& Int32.toUInt32 31)).toInt32 &&& (1431655765 : Int32))) &&& (858993459 : Int32))] _ _ from ?_)
  refine zy_13 rfl (show zyR _ _ _ _ [some (.int (x0 - (((x0).toUInt32 >>> (((1 : Int32)).toUInt32 &&& Int32.toUInt32 31)).toInt32 &&& (1431655765 : Int32))))] [.int ((((x0 - (((x0).toUInt32 >>> (((1 : Int32)).toUInt32 &&& Int32.toUInt32 31)).toInt32 &&& (1431655765 : Int32)))).toUInt32 >>> (((2 : Int32)).toUInt32 &&& Int32.toUInt32 31)).toInt32 &&& (858993459 : Int32)), .int ((x0 - (((x0).toUInt32 >>> (((1 : Int32)).toUInt32 &&& Int32.toUInt32 31)).toInt32 &&& (1431655765 : Int32))) &&& (858993459 : Int32))] _ _ from ?_)
  refine zy_10 rfl (show zyR _ _ _ _ [some (.int (x0 - (((x0).toUInt32 >>> (((1 : Int32)).toUInt32 &&& Int32.toUInt32 31)).toInt32 &&& (1431655765 : Int32))))] [.int (((x0 - (((x0).toUInt32 >>> (((1 : Int32)).toUInt32 &&& Int32.toUInt32 31)).toInt32 &&& (1431655765 : Int32))) &&& (858993459 : Int32)) + ((((x0 - (((x0).toUInt32 >>> (((1 : Int32)).toUInt32 &&& Int32.toUInt32 31)).toInt32 &&& (1431655765 : Int32)))).toUInt32 >>> (((2 : Int32)).toUInt32 &&& Int32.toUInt32 31)).toInt32 &&& (858993459 : Int32)))] _ _ from ?_)
  refine zy_23 rfl rfl (show zyR _ _ _ _ [some (.int (((x0 - (((x0).toUInt32 >>> (((1 : Int32)).toUInt32 &&& Int32.toUInt32 31)).toInt32 &&& (1431655765 : Int32))) &&& (858993459 : Int32)) + ((((x0 - (((x0).toUInt32 >>> (((1 : Int32)).toUInt32 &&& Int32.toUInt32 31)).toInt32 &&& (1431655765 : Int32)))).toUInt32 >>> (((2 : Int32)).toUInt32 &&& Int32.toUInt32 31)).toInt32 &&& (858993459 : Int32))))] [] _ _ from ?_)
  exact zy_sub (show zy_le [some (.int (((x0 - (((x0).toUInt32 >>> (((1 : Int32)).toUInt32 &&& Int32.toUInt32 31)).toInt32 &&& (1431655765 : Int32))) &&& (858993459 : Int32)) + ((((x0 - (((x0).toUInt32 >>> (((1 : Int32)).toUInt32 &&& Int32.toUInt32 31)).toInt32 &&& (1431655765 : Int32)))).toUInt32 >>> (((2 : Int32)).toUInt32 &&& Int32.toUInt32 31)).toInt32 &&& (858993459 : Int32))))] [some (.int (((x0 - (((x0).toUInt32 >>> (((1 : Int32)).toUInt32 &&& Int32.toUInt32 31)).toInt32 &&& (1431655765 : Int32))) &&& (858993459 : Int32)) + ((((x0 - (((x0).toUInt32 >>> (((1 : Int32)).toUInt32 &&& Int32.toUInt32 31)).toInt32 &&& (1431655765 : Int32)))).toUInt32 >>> (((2 : Int32)).toUInt32 &&& Int32.toUInt32 31)).toInt32 &&& (858993459 : Int32))))] from ⟨rfl, trivial⟩) (zyC63_24 h)
/-! NineOpinions$Town.standing()I -/
noncomputable def zyF92    (s : zy_S) : Option (Int32 × zy_S) :=
(zyF63 (s.1 1 3) s).bind fun p1 =>
some (p1.1, p1.2)
theorem zyC92 {X : zx_X}      {s : zy_S} {r : Int32} {s' : zy_S}  (h : zyF92 s = some (r, s')) : zyR X 2 92 0 [some (.ref (1 + 3))] [] s (zyE (some (.int r)) s') := by
  unfold zyF92 at h
  refine zy_0 rfl rfl (show zyR _ _ _ _ [some (.ref (1 + 3))] [.ref (1 + 3)] _ _ from ?_)
  refine zy_1 (c := 1) rfl rfl rfl (show zyR _ _ _ _ [some (.ref (1 + 3))] [.int (s.1 1 3)] _ _ from ?_)
  obtain ⟨p1, hp1, h⟩ := zy_bind h
  refine zy_60 (as := [.int (s.1 1 3)]) (rest := []) (L := [some (.int (s.1 1 3))]) (d' := 1) rfl rfl (Nat.le_of_ble_eq_true rfl) (Nat.le_of_ble_eq_true rfl) rfl (Nat.le_of_ble_eq_true rfl) rfl rfl (zyC63 hp1) ?_
  show zyR _ _ _ _ [some (.ref (1 + 3))] [.int p1.1] _ _
  obtain ⟨rfl, rfl⟩ := zy_pi h
  exact zy_4 rfl ⟨rfl, rfl⟩
/-! NineOpinions$Town.hasRoom()Z -/
noncomputable def zyF91    (s : zy_S) : Option (Int32 × zy_S) :=
(zyF92 s).bind fun p1 =>
if (p1.2.1 1 4) ≤ p1.1 then
some ((0 : Int32), p1.2)
else
some ((1 : Int32), p1.2)
theorem zyC91 {X : zx_X}      {s : zy_S} {r : Int32} {s' : zy_S}  (h : zyF91 s = some (r, s')) : zyR X 3 91 0 [some (.ref (1 + 3))] [] s (zyE (some (.int r)) s') := by
  unfold zyF91 at h
  refine zy_0 rfl rfl (show zyR _ _ _ _ [some (.ref (1 + 3))] [.ref (1 + 3)] _ _ from ?_)
  obtain ⟨p1, hp1, h⟩ := zy_bind h
  refine zy_5 (c := 1) (as := []) (rest := []) (L := [some (.ref (1 + 3))]) (d' := 2) rfl rfl rfl (Nat.le_of_ble_eq_true rfl) (Nat.le_of_ble_eq_true rfl) rfl (Nat.le_of_ble_eq_true rfl) rfl rfl (zyC92 hp1) ?_
  show zyR _ _ _ _ [some (.ref (1 + 3))] [.int p1.1] _ _
  refine zy_0 rfl rfl (show zyR _ _ _ _ [some (.ref (1 + 3))] [.ref (1 + 3), .int p1.1] _ _ from ?_)
  refine zy_1 (c := 1) rfl rfl rfl (show zyR _ _ _ _ [some (.ref (1 + 3))] [.int (p1.2.1 1 4), .int p1.1] _ _ from ?_)
  refine zy_25_3 rfl (fun b2 => (show zyR _ _ _ _ [some (.ref (1 + 3))] [] _ _ from ?_)) (fun b2 => (show zyR _ _ _ _ [some (.ref (1 + 3))] [] _ _ from ?_))
  · replace h := zy_ifp h b2
    refine zy_3 rfl rfl (show zyR _ _ _ _ [some (.ref (1 + 3))] [.int (0 : Int32)] _ _ from ?_)
    cases h
    exact zy_4b rfl ⟨rfl, rfl⟩ (Or.inl rfl)
  · replace h := zy_ifn h b2
    refine zy_3 rfl rfl (show zyR _ _ _ _ [some (.ref (1 + 3))] [.int (1 : Int32)] _ _ from ?_)
    refine zy_6 rfl (show zyR _ _ _ _ [some (.ref (1 + 3))] [.int (1 : Int32)] _ _ from ?_)
    cases h
    exact zy_4b rfl ⟨rfl, rfl⟩ (Or.inr rfl)
/-! NineOpinions$Deeds.doWrite(I)I -/
noncomputable def zyF132   (x1 : Int32) (s : zy_S) : Option (Int32 × zy_S) :=
if zy_in x1 24 then
(zyF92 (zy_up (zy_up (zy_up s 1 3 ((s.1 1 3) ||| ((1 : Int32) <<< (x1 &&& 31)))) 2 (x1).toNatClampNeg (0 : Int32)) 18 0 ((s.1 18 0) + (1 : Int32)))).bind fun p2 =>
some (p2.1, p2.2)
else none
theorem zyC132 {X : zx_X}     {x1 : Int32} {s : zy_S} {r : Int32} {s' : zy_S}  (h : zyF132 x1 s = some (r, s')) : zyR X 3 132 0 [some (.ref (17 + 3)), some (.int x1)] [] s (zyE (some (.int r)) s') := by
  unfold zyF132 at h
  refine zy_0 rfl rfl (show zyR _ _ _ _ [some (.ref (17 + 3)), some (.int x1)] [.ref (17 + 3)] _ _ from ?_)
  refine zy_1r (c := 17) rfl rfl rfl (show zyR _ _ _ _ [some (.ref (17 + 3)), some (.int x1)] [.ref (1 + 3)] _ _ from ?_)
  refine zy_33 rfl rfl (show zyR _ _ _ _ [some (.ref (17 + 3)), some (.int x1)] [.ref (1 + 3), .ref (1 + 3)] _ _ from ?_)
  refine zy_1 (c := 1) rfl rfl rfl (show zyR _ _ _ _ [some (.ref (17 + 3)), some (.int x1)] [.int (s.1 1 3), .ref (1 + 3)] _ _ from ?_)
  refine zy_3 rfl rfl (show zyR _ _ _ _ [some (.ref (17 + 3)), some (.int x1)] [.int (1 : Int32), .int (s.1 1 3), .ref (1 + 3)] _ _ from ?_)
  refine zy_2 rfl rfl (show zyR _ _ _ _ [some (.ref (17 + 3)), some (.int x1)] [.int x1, .int (1 : Int32), .int (s.1 1 3), .ref (1 + 3)] _ _ from ?_)
  refine zy_16 rfl (show zyR _ _ _ _ [some (.ref (17 + 3)), some (.int x1)] [.int ((1 : Int32) <<< (x1 &&& 31)), .int (s.1 1 3), .ref (1 + 3)] _ _ from ?_)
  refine zy_14 rfl (show zyR _ _ _ _ [some (.ref (17 + 3)), some (.int x1)] [.int ((s.1 1 3) ||| ((1 : Int32) <<< (x1 &&& 31))), .ref (1 + 3)] _ _ from ?_)
  refine zy_52 (c := 1) rfl rfl rfl (show zyR _ _ _ _ [some (.ref (17 + 3)), some (.int x1)] [] _ _ from ?_)
  refine zy_0 rfl rfl (show zyR _ _ _ _ [some (.ref (17 + 3)), some (.int x1)] [.ref (17 + 3)] _ _ from ?_)
  refine zy_1r (c := 17) rfl rfl rfl (show zyR _ _ _ _ [some (.ref (17 + 3)), some (.int x1)] [.ref (1 + 3)] _ _ from ?_)
  refine zy_1r (c := 1) rfl rfl rfl (show zyR _ _ _ _ [some (.ref (17 + 3)), some (.int x1)] [.ref (2 + 3)] _ _ from ?_)
  refine zy_2 rfl rfl (show zyR _ _ _ _ [some (.ref (17 + 3)), some (.int x1)] [.int x1, .ref (2 + 3)] _ _ from ?_)
  refine zy_3 rfl rfl (show zyR _ _ _ _ [some (.ref (17 + 3)), some (.int x1)] [.int (0 : Int32), .int x1, .ref (2 + 3)] _ _ from ?_)
  obtain ⟨c1, h⟩ := zy_if h
  refine zy_27 (c := 2) rfl rfl c1 (show zyR _ _ _ _ [some (.ref (17 + 3)), some (.int x1)] [] _ _ from ?_)
  refine zy_0 rfl rfl (show zyR _ _ _ _ [some (.ref (17 + 3)), some (.int x1)] [.ref (17 + 3)] _ _ from ?_)
  refine zy_1r (c := 17) rfl rfl rfl (show zyR _ _ _ _ [some (.ref (17 + 3)), some (.int x1)] [.ref (18 + 3)] _ _ from ?_)
  refine zy_3 rfl rfl (show zyR _ _ _ _ [some (.ref (17 + 3)), some (.int x1)] [.int (0 : Int32), .ref (18 + 3)] _ _ from ?_)
  refine zy_35 rfl rfl rfl (show zyR _ _ _ _ [some (.ref (17 + 3)), some (.int x1)] [.int (0 : Int32), .ref (18 + 3), .int (0 : Int32), .ref (18 + 3)] _ _ from ?_)
  refine zy_26 (c := 18) rfl rfl (by decide) (show zyR _ _ _ _ [some (.ref (17 + 3)), some (.int x1)] [.int (s.1 18 0), .int (0 : Int32), .ref (18 + 3)] _ _ from ?_)
  refine zy_3 rfl rfl (show zyR _ _ _ _ [some (.ref (17 + 3)), some (.int x1)] [.int (1 : Int32), .int (s.1 18 0), .int (0 : Int32), .ref (18 + 3)] _ _ from ?_)
  refine zy_10 rfl (show zyR _ _ _ _ [some (.ref (17 + 3)), some (.int x1)] [.int ((s.1 18 0) + (1 : Int32)), .int (0 : Int32), .ref (18 + 3)] _ _ from ?_)
  refine zy_27 (c := 18) rfl rfl (by decide) (show zyR _ _ _ _ [some (.ref (17 + 3)), some (.int x1)] [] _ _ from ?_)
  refine zy_0 rfl rfl (show zyR _ _ _ _ [some (.ref (17 + 3)), some (.int x1)] [.ref (17 + 3)] _ _ from ?_)
  refine zy_1r (c := 17) rfl rfl rfl (show zyR _ _ _ _ [some (.ref (17 + 3)), some (.int x1)] [.ref (1 + 3)] _ _ from ?_)
  obtain ⟨p2, hp2, h⟩ := zy_bind h
  refine zy_5 (c := 1) (as := []) (rest := []) (L := [some (.ref (1 + 3))]) (d' := 2) rfl rfl rfl (Nat.le_of_ble_eq_true rfl) (Nat.le_of_ble_eq_true rfl) rfl (Nat.le_of_ble_eq_true rfl) rfl rfl (zyC92 hp2) ?_
  show zyR _ _ _ _ [some (.ref (17 + 3)), some (.int x1)] [.int p2.1] _ _
  obtain ⟨rfl, rfl⟩ := zy_pi h
  exact zy_4 rfl ⟨rfl, rfl⟩
