/-! PART 41.68: methods as functions. Made by wip/v4/dcp.py. -/
/-! NineOpinions.whose(II)I -/
noncomputable def zyF116   (x1 : Int32) (x2 : Int32) (s : zy_S) : Option (Int32 × zy_S) :=
(zyF18 x1 s).bind fun p1 =>
if p1.1 = 0 then
some ((-1 : Int32), p1.2)
else
(zyF84 x2 p1.2).bind fun p2 =>
if p2.1 ≠ 0 then
if zy_in x1 6 then
if zy_Wb p2.2 then
(zyF107 (zy_sh (x1).toNatClampNeg) (0 : Int32) p2.2).bind fun p5 =>
if p5.1 = 0 then
if x2 ≠ 0 then
if zy_in x1 6 then
if zy_Wb p5.2 then
(zyF118 (zy_sh (x1).toNatClampNeg) p5.2).bind fun p8 =>
some (p8.1, p8.2)
else none
else none
else
if zy_in x1 6 then
if zy_Wb p5.2 then
(zyF117 (zy_sh (x1).toNatClampNeg) p5.2).bind fun p11 =>
some (p11.1, p11.2)
else none
else none
else
some (p5.1, p5.2)
else none
else none
else
some ((-1 : Int32), p2.2)
theorem zyC116 {X : zx_X}     {x1 : Int32} {x2 : Int32} {s : zy_S} {r : Int32} {s' : zy_S}  (h : zyF116 x1 x2 s = some (r, s')) : zyR X 7 116 0 [some (.ref (0 + 3)), some (.int x1), some (.int x2), none] [] s (zyE (some (.int r)) s') := by
  unfold zyF116 at h
  refine zy_2 rfl rfl (show zyR _ _ _ _ [some (.ref (0 + 3)), some (.int x1), some (.int x2), none] [.int x1] _ _ from ?_)
  obtain ⟨p1, hp1, h⟩ := zy_bind h
  refine zy_60 (as := [.int x1]) (rest := []) (L := [some (.int x1)]) (d' := 1) rfl rfl (Nat.le_of_ble_eq_true rfl) (Nat.le_of_ble_eq_true rfl) rfl (Nat.le_of_ble_eq_true rfl) rfl rfl (zyC18 hp1) ?_
  show zyR _ _ _ _ [some (.ref (0 + 3)), some (.int x1), some (.int x2), none] [.int p1.1] _ _
  refine zy_24_0 rfl (fun b15 => (show zyR _ _ _ _ [some (.ref (0 + 3)), some (.int x1), some (.int x2), none] [] _ _ from ?_)) (fun b15 => (show zyR _ _ _ _ [some (.ref (0 + 3)), some (.int x1), some (.int x2), none] [] _ _ from ?_))
  · replace h := zy_ifp h b15
    refine zy_3 rfl rfl (show zyR _ _ _ _ [some (.ref (0 + 3)), some (.int x1), some (.int x2), none] [.int (-1 : Int32)] _ _ from ?_)
    obtain ⟨rfl, rfl⟩ := zy_pi h
    exact zy_4 rfl ⟨rfl, rfl⟩
  · replace h := zy_ifn h b15
    refine zy_2 rfl rfl (show zyR _ _ _ _ [some (.ref (0 + 3)), some (.int x1), some (.int x2), none] [.int x2] _ _ from ?_)
    obtain ⟨p2, hp2, h⟩ := zy_bind h
    refine zy_60 (as := [.int x2]) (rest := []) (L := [some (.int x2)]) (d' := 1) rfl rfl (Nat.le_of_ble_eq_true rfl) (Nat.le_of_ble_eq_true rfl) rfl (Nat.le_of_ble_eq_true rfl) rfl rfl (zyC84 hp2) ?_
    show zyR _ _ _ _ [some (.ref (0 + 3)), some (.int x1), some (.int x2), none] [.int p2.1] _ _
    refine zy_24_1 rfl (fun b14 => (show zyR _ _ _ _ [some (.ref (0 + 3)), some (.int x1), some (.int x2), none] [] _ _ from ?_)) (fun b14 => (show zyR _ _ _ _ [some (.ref (0 + 3)), some (.int x1), some (.int x2), none] [] _ _ from ?_))
    · replace h := zy_ifp h b14
      refine zy_0 rfl rfl (show zyR _ _ _ _ [some (.ref (0 + 3)), some (.int x1), some (.int x2), none] [.ref (0 + 3)] _ _ from ?_)
      refine zy_1r (c := 0) rfl rfl rfl (show zyR _ _ _ _ [some (.ref (0 + 3)), some (.int x1), some (.int x2), none] [.ref (30 + 3)] _ _ from ?_)
      refine zy_2 rfl rfl (show zyR _ _ _ _ [some (.ref (0 + 3)), some (.int x1), some (.int x2), none] [.int x1, .ref (30 + 3)] _ _ from ?_)
      obtain ⟨c3, h⟩ := zy_if h
      obtain ⟨c4, h⟩ := zy_if h
      refine zy_28 rfl (zy_Wb_g c4) c3 (show zyR _ _ _ _ [some (.ref (0 + 3)), some (.int x1), some (.int x2), none] [.ref ((zy_sh (x1).toNatClampNeg) + 3)] _ _ from ?_)
      refine zy_3 rfl rfl (show zyR _ _ _ _ [some (.ref (0 + 3)), some (.int x1), some (.int x2), none] [.int (0 : Int32), .ref ((zy_sh (x1).toNatClampNeg) + 3)] _ _ from ?_)
      obtain ⟨p5, hp5, h⟩ := zy_bind h
      refine zy_5 (c := (zy_sh (x1).toNatClampNeg)) (as := [.int (0 : Int32)]) (rest := []) (L := [some (.ref ((zy_sh (x1).toNatClampNeg) + 3)), some (.int (0 : Int32))]) (d' := 3) rfl rfl (zy_isSh_of (zy_in_lt c3)).1 (Nat.le_of_ble_eq_true rfl) (Nat.le_of_ble_eq_true rfl) rfl (Nat.le_of_ble_eq_true rfl) rfl rfl (zyC107 (zy_isSh_of (zy_in_lt c3)) hp5) ?_
      show zyR _ _ _ _ [some (.ref (0 + 3)), some (.int x1), some (.int x2), none] [.int p5.1] _ _
      refine zy_23 rfl rfl (show zyR _ _ _ _ [some (.ref (0 + 3)), some (.int x1), some (.int x2), some (.int p5.1)] [] _ _ from ?_)
      refine zy_2 rfl rfl (show zyR _ _ _ _ [some (.ref (0 + 3)), some (.int x1), some (.int x2), some (.int p5.1)] [.int p5.1] _ _ from ?_)
      refine zy_24_0 rfl (fun b13 => (show zyR _ _ _ _ [some (.ref (0 + 3)), some (.int x1), some (.int x2), some (.int p5.1)] [] _ _ from ?_)) (fun b13 => (show zyR _ _ _ _ [some (.ref (0 + 3)), some (.int x1), some (.int x2), some (.int p5.1)] [] _ _ from ?_))
      · replace h := zy_ifp h b13
        refine zy_2 rfl rfl (show zyR _ _ _ _ [some (.ref (0 + 3)), some (.int x1), some (.int x2), some (.int p5.1)] [.int x2] _ _ from ?_)
        refine zy_24_1 rfl (fun b12 => (show zyR _ _ _ _ [some (.ref (0 + 3)), some (.int x1), some (.int x2), some (.int p5.1)] [] _ _ from ?_)) (fun b12 => (show zyR _ _ _ _ [some (.ref (0 + 3)), some (.int x1), some (.int x2), some (.int p5.1)] [] _ _ from ?_))
        · replace h := zy_ifp h b12
          refine zy_0 rfl rfl (show zyR _ _ _ _ [some (.ref (0 + 3)), some (.int x1), some (.int x2), some (.int p5.1)] [.ref (0 + 3)] _ _ from ?_)
          refine zy_1r (c := 0) rfl rfl rfl (show zyR _ _ _ _ [some (.ref (0 + 3)), some (.int x1), some (.int x2), some (.int p5.1)] [.ref (30 + 3)] _ _ from ?_)
          refine zy_2 rfl rfl (show zyR _ _ _ _ [some (.ref (0 + 3)), some (.int x1), some (.int x2), some (.int p5.1)] [.int x1, .ref (30 + 3)] _ _ from ?_)
          obtain ⟨c6, h⟩ := zy_if h
          obtain ⟨c7, h⟩ := zy_if h
          refine zy_28 rfl (zy_Wb_g c7) c6 (show zyR _ _ _ _ [some (.ref (0 + 3)), some (.int x1), some (.int x2), some (.int p5.1)] [.ref ((zy_sh (x1).toNatClampNeg) + 3)] _ _ from ?_)
          obtain ⟨p8, hp8, h⟩ := zy_bind h
          refine zy_60 (as := [.ref ((zy_sh (x1).toNatClampNeg) + 3)]) (rest := []) (L := [some (.ref ((zy_sh (x1).toNatClampNeg) + 3)), none, none]) (d' := 6) rfl rfl (Nat.le_of_ble_eq_true rfl) (Nat.le_of_ble_eq_true rfl) rfl (Nat.le_of_ble_eq_true rfl) rfl rfl (zyC118 (zy_isSh_of (zy_in_lt c6)) hp8) ?_
          show zyR _ _ _ _ [some (.ref (0 + 3)), some (.int x1), some (.int x2), some (.int p5.1)] [.int p8.1] _ _
          obtain ⟨rfl, rfl⟩ := zy_pi h
          exact zy_4 rfl ⟨rfl, rfl⟩
        · replace h := zy_ifn h b12
          refine zy_0 rfl rfl (show zyR _ _ _ _ [some (.ref (0 + 3)), some (.int x1), some (.int x2), some (.int p5.1)] [.ref (0 + 3)] _ _ from ?_)
          refine zy_0 rfl rfl (show zyR _ _ _ _ [some (.ref (0 + 3)), some (.int x1), some (.int x2), some (.int p5.1)] [.ref (0 + 3), .ref (0 + 3)] _ _ from ?_)
          refine zy_1r (c := 0) rfl rfl rfl (show zyR _ _ _ _ [some (.ref (0 + 3)), some (.int x1), some (.int x2), some (.int p5.1)] [.ref (30 + 3), .ref (0 + 3)] _ _ from ?_)
          refine zy_2 rfl rfl (show zyR _ _ _ _ [some (.ref (0 + 3)), some (.int x1), some (.int x2), some (.int p5.1)] [.int x1, .ref (30 + 3), .ref (0 + 3)] _ _ from ?_)
          obtain ⟨c9, h⟩ := zy_if h
          obtain ⟨c10, h⟩ := zy_if h
          refine zy_28 rfl (zy_Wb_g c10) c9 (show zyR _ _ _ _ [some (.ref (0 + 3)), some (.int x1), some (.int x2), some (.int p5.1)] [.ref ((zy_sh (x1).toNatClampNeg) + 3), .ref (0 + 3)] _ _ from ?_)
          obtain ⟨p11, hp11, h⟩ := zy_bind h
          refine zy_5 (c := 0) (as := [.ref ((zy_sh (x1).toNatClampNeg) + 3)]) (rest := []) (L := [some (.ref (0 + 3)), some (.ref ((zy_sh (x1).toNatClampNeg) + 3)), none, none]) (d' := 5) rfl rfl rfl (Nat.le_of_ble_eq_true rfl) (Nat.le_of_ble_eq_true rfl) rfl (Nat.le_of_ble_eq_true rfl) rfl rfl (zyC117 (zy_isSh_of (zy_in_lt c9)) hp11) ?_
          show zyR _ _ _ _ [some (.ref (0 + 3)), some (.int x1), some (.int x2), some (.int p5.1)] [.int p11.1] _ _
          refine zy_6 rfl (show zyR _ _ _ _ [some (.ref (0 + 3)), some (.int x1), some (.int x2), some (.int p5.1)] [.int p11.1] _ _ from ?_)
          obtain ⟨rfl, rfl⟩ := zy_pi h
          exact zy_4 rfl ⟨rfl, rfl⟩
      · replace h := zy_ifn h b13
        refine zy_2 rfl rfl (show zyR _ _ _ _ [some (.ref (0 + 3)), some (.int x1), some (.int x2), some (.int p5.1)] [.int p5.1] _ _ from ?_)
        obtain ⟨rfl, rfl⟩ := zy_pi h
        exact zy_4 rfl ⟨rfl, rfl⟩
    · replace h := zy_ifn h b14
      refine zy_3 rfl rfl (show zyR _ _ _ _ [some (.ref (0 + 3)), some (.int x1), some (.int x2), none] [.int (-1 : Int32)] _ _ from ?_)
      obtain ⟨rfl, rfl⟩ := zy_pi h
      exact zy_4 rfl ⟨rfl, rfl⟩
