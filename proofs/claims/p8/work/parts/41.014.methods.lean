/-! PART 41.14: methods as functions. Made by wip/v4/dcp.py. -/
/-! NineOpinions.put(IIJ)I -/
noncomputable def zyF166_37   (x5 : Int32) (s : zy_S) : Option (Int32 × zy_S) :=
if x5 ≠ 0 then
some (x5, s)
else
some ((1 : Int32), s)
theorem zyC166_37 {X : zx_X}     {x5 : Int32} {s : zy_S} {r : Int32} {s' : zy_S}  (h : zyF166_37 x5 s = some (r, s')) : zyR X 4 166 37 [none, none, none, none, none, some (.int x5)] [] s (zyE (some (.int r)) s') := by
  unfold zyF166_37 at h
  refine zy_2 rfl rfl (show zyR _ _ _ _ [none, none, none, none, none, some (.int x5)] [.int x5] _ _ from ?_)
  refine zy_24_1 rfl (fun b1 => (show zyR _ _ _ _ [none, none, none, none, none, some (.int x5)] [] _ _ from ?_)) (fun b1 => (show zyR _ _ _ _ [none, none, none, none, none, some (.int x5)] [] _ _ from ?_))
  · replace h := zy_ifp h b1
    refine zy_2 rfl rfl (show zyR _ _ _ _ [none, none, none, none, none, some (.int x5)] [.int x5] _ _ from ?_)
    obtain ⟨rfl, rfl⟩ := zy_pi h
    exact zy_4 rfl ⟨rfl, rfl⟩
  · replace h := zy_ifn h b1
    refine zy_3 rfl rfl (show zyR _ _ _ _ [none, none, none, none, none, some (.int x5)] [.int (1 : Int32)] _ _ from ?_)
    refine zy_6 rfl (show zyR _ _ _ _ [none, none, none, none, none, some (.int x5)] [.int (1 : Int32)] _ _ from ?_)
    obtain ⟨rfl, rfl⟩ := zy_pi h
    exact zy_4 rfl ⟨rfl, rfl⟩
noncomputable def zyF166   (x1 : Int32) (x2 : Int32) (x3 : Int64) (s : zy_S) : Option (Int32 × zy_S) :=
(zyF18 x1 s).bind fun p2 =>
if p2.1 ≠ 0 then
if zy_in x1 6 then
if zy_Wb p2.2 then
(zyF167 (zy_sh (x1).toNatClampNeg) x2 p2.2).bind fun p5 =>
if p5.1 ≠ 0 then
zyF166_37 p5.1 p5.2
else
if zy_in x1 6 then
if zy_Wb p5.2 then
(zyF168 (zy_sh (x1).toNatClampNeg) x2 x3 p5.2).bind fun p8 =>
zyF166_37 p5.1 p8.2
else none
else none
else none
else none
else
some ((-1 : Int32), p2.2)
theorem zyC166 {X : zx_X}     {x1 : Int32} {x2 : Int32} {x3 : Int64} {s : zy_S} {r : Int32} {s' : zy_S}  (h : zyF166 x1 x2 x3 s = some (r, s')) : zyR X 4 166 0 [some (.ref (0 + 3)), some (.int x1), some (.int x2), some (.long x3), none, none] [] s (zyE (some (.int r)) s') := by
  unfold zyF166 at h
  refine zy_2 rfl rfl (show zyR _ _ _ _ [some (.ref (0 + 3)), some (.int x1), some (.int x2), some (.long x3), none, none] [.int x1] _ _ from ?_)
  obtain ⟨p2, hp2, h⟩ := zy_bind h
  refine zy_60 (as := [.int x1]) (rest := []) (L := [some (.int x1)]) (d' := 1) rfl rfl (Nat.le_of_ble_eq_true rfl) (Nat.le_of_ble_eq_true rfl) rfl (Nat.le_of_ble_eq_true rfl) rfl rfl (zyC18 hp2) ?_
  show zyR _ _ _ _ [some (.ref (0 + 3)), some (.int x1), some (.int x2), some (.long x3), none, none] [.int p2.1] _ _
  refine zy_24_1 rfl (fun b10 => (show zyR _ _ _ _ [some (.ref (0 + 3)), some (.int x1), some (.int x2), some (.long x3), none, none] [] _ _ from ?_)) (fun b10 => (show zyR _ _ _ _ [some (.ref (0 + 3)), some (.int x1), some (.int x2), some (.long x3), none, none] [] _ _ from ?_))
  · replace h := zy_ifp h b10
    refine zy_0 rfl rfl (show zyR _ _ _ _ [some (.ref (0 + 3)), some (.int x1), some (.int x2), some (.long x3), none, none] [.ref (0 + 3)] _ _ from ?_)
    refine zy_1r (c := 0) rfl rfl rfl (show zyR _ _ _ _ [some (.ref (0 + 3)), some (.int x1), some (.int x2), some (.long x3), none, none] [.ref (30 + 3)] _ _ from ?_)
    refine zy_2 rfl rfl (show zyR _ _ _ _ [some (.ref (0 + 3)), some (.int x1), some (.int x2), some (.long x3), none, none] [.int x1, .ref (30 + 3)] _ _ from ?_)
    obtain ⟨c3, h⟩ := zy_if h
    obtain ⟨c4, h⟩ := zy_if h
    refine zy_28 rfl (zy_Wb_g c4) c3 (show zyR _ _ _ _ [some (.ref (0 + 3)), some (.int x1), some (.int x2), some (.long x3), none, none] [.ref ((zy_sh (x1).toNatClampNeg) + 3)] _ _ from ?_)
    refine zy_2 rfl rfl (show zyR _ _ _ _ [some (.ref (0 + 3)), some (.int x1), some (.int x2), some (.long x3), none, none] [.int x2, .ref ((zy_sh (x1).toNatClampNeg) + 3)] _ _ from ?_)
    obtain ⟨p5, hp5, h⟩ := zy_bind h
    refine zy_5 (c := (zy_sh (x1).toNatClampNeg)) (as := [.int x2]) (rest := []) (L := [some (.ref ((zy_sh (x1).toNatClampNeg) + 3)), some (.int x2)]) (d' := 3) rfl rfl (zy_isSh_of (zy_in_lt c3)).1 (Nat.le_of_ble_eq_true rfl) (Nat.le_of_ble_eq_true rfl) rfl (Nat.le_of_ble_eq_true rfl) rfl rfl (zyC167 (zy_isSh_of (zy_in_lt c3)) hp5) ?_
    show zyR _ _ _ _ [some (.ref (0 + 3)), some (.int x1), some (.int x2), some (.long x3), none, none] [.int p5.1] _ _
    refine zy_23 rfl rfl (show zyR _ _ _ _ [some (.ref (0 + 3)), some (.int x1), some (.int x2), some (.long x3), none, some (.int p5.1)] [] _ _ from ?_)
    refine zy_2 rfl rfl (show zyR _ _ _ _ [some (.ref (0 + 3)), some (.int x1), some (.int x2), some (.long x3), none, some (.int p5.1)] [.int p5.1] _ _ from ?_)
    refine zy_24_1 rfl (fun b9 => (show zyR _ _ _ _ [some (.ref (0 + 3)), some (.int x1), some (.int x2), some (.long x3), none, some (.int p5.1)] [] _ _ from ?_)) (fun b9 => (show zyR _ _ _ _ [some (.ref (0 + 3)), some (.int x1), some (.int x2), some (.long x3), none, some (.int p5.1)] [] _ _ from ?_))
    · replace h := zy_ifp h b9
      exact zy_sub (show zy_le [none, none, none, none, none, some (.int p5.1)] [some (.ref (0 + 3)), some (.int x1), some (.int x2), some (.long x3), none, some (.int p5.1)] from ⟨rfl, trivial⟩) (zyC166_37 h)
    · replace h := zy_ifn h b9
      refine zy_0 rfl rfl (show zyR _ _ _ _ [some (.ref (0 + 3)), some (.int x1), some (.int x2), some (.long x3), none, some (.int p5.1)] [.ref (0 + 3)] _ _ from ?_)
      refine zy_1r (c := 0) rfl rfl rfl (show zyR _ _ _ _ [some (.ref (0 + 3)), some (.int x1), some (.int x2), some (.long x3), none, some (.int p5.1)] [.ref (30 + 3)] _ _ from ?_)
      refine zy_2 rfl rfl (show zyR _ _ _ _ [some (.ref (0 + 3)), some (.int x1), some (.int x2), some (.long x3), none, some (.int p5.1)] [.int x1, .ref (30 + 3)] _ _ from ?_)
      obtain ⟨c6, h⟩ := zy_if h
      obtain ⟨c7, h⟩ := zy_if h
      refine zy_28 rfl (zy_Wb_g c7) c6 (show zyR _ _ _ _ [some (.ref (0 + 3)), some (.int x1), some (.int x2), some (.long x3), none, some (.int p5.1)] [.ref ((zy_sh (x1).toNatClampNeg) + 3)] _ _ from ?_)
      refine zy_2 rfl rfl (show zyR _ _ _ _ [some (.ref (0 + 3)), some (.int x1), some (.int x2), some (.long x3), none, some (.int p5.1)] [.int x2, .ref ((zy_sh (x1).toNatClampNeg) + 3)] _ _ from ?_)
      refine zy_37 rfl rfl (show zyR _ _ _ _ [some (.ref (0 + 3)), some (.int x1), some (.int x2), some (.long x3), none, some (.int p5.1)] [.long x3, .int x2, .ref ((zy_sh (x1).toNatClampNeg) + 3)] _ _ from ?_)
      obtain ⟨p8, hp8, h⟩ := zy_bind h
      refine zy_5 (c := (zy_sh (x1).toNatClampNeg)) (as := [.int x2, .long x3]) (rest := []) (L := [some (.ref ((zy_sh (x1).toNatClampNeg) + 3)), some (.int x2), some (.long x3), none]) (d' := 2) rfl rfl (zy_isSh_of (zy_in_lt c6)).1 (Nat.le_of_ble_eq_true rfl) (Nat.le_of_ble_eq_true rfl) rfl (Nat.le_of_ble_eq_true rfl) rfl rfl (zyC168 (zy_isSh_of (zy_in_lt c6)) hp8) ?_
      show zyR _ _ _ _ [some (.ref (0 + 3)), some (.int x1), some (.int x2), some (.long x3), none, some (.int p5.1)] [] _ _
      exact zy_sub (show zy_le [none, none, none, none, none, some (.int p5.1)] [some (.ref (0 + 3)), some (.int x1), some (.int x2), some (.long x3), none, some (.int p5.1)] from ⟨rfl, trivial⟩) (zyC166_37 h)
  · replace h := zy_ifn h b10
    refine zy_3 rfl rfl (show zyR _ _ _ _ [some (.ref (0 + 3)), some (.int x1), some (.int x2), some (.long x3), none, none] [.int (-1 : Int32)] _ _ from ?_)
    obtain ⟨rfl, rfl⟩ := zy_pi h
    exact zy_4 rfl ⟨rfl, rfl⟩
