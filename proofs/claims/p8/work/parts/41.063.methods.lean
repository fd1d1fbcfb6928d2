/-! PART 41.63: methods as functions. Made by wip/v4/dcp.py. -/
/-! NineOpinions.believes(III)I -/
noncomputable def zyF112   (x1 : Int32) (x2 : Int32) (x3 : Int32) (s : zy_S) : Option (Int32 × zy_S) :=
(zyF18 x1 s).bind fun p1 =>
if p1.1 = 0 then
some ((-1 : Int32), p1.2)
else
if x2 < 0 then
some ((-1 : Int32), p1.2)
else
if (6 : Int32) ≤ x2 then
some ((-1 : Int32), p1.2)
else
(zyF84 x3 p1.2).bind fun p2 =>
if p2.1 ≠ 0 then
if zy_in x1 6 then
if zy_Wb p2.2 then
(zyF107 (zy_sh (x1).toNatClampNeg) (0 : Int32) p2.2).bind fun p5 =>
if p5.1 = 0 then
if zy_in x1 6 then
if zy_Wb p5.2 then
(zyF113 (zy_sh (x1).toNatClampNeg) x2 p5.2).bind fun p8 =>
if x3 ≠ 0 then
(zyF115 p8.1 p8.2).bind fun p9 =>
some (p9.1, p9.2)
else
(zyF63 p8.1 p8.2).bind fun p10 =>
some (p10.1, p10.2)
else none
else none
else
some (p5.1, p5.2)
else none
else none
else
some ((-1 : Int32), p2.2)
theorem zyC112 {X : zx_X}     {x1 : Int32} {x2 : Int32} {x3 : Int32} {s : zy_S} {r : Int32} {s' : zy_S}  (h : zyF112 x1 x2 x3 s = some (r, s')) : zyR X 6 112 0 [some (.ref (0 + 3)), some (.int x1), some (.int x2), some (.int x3), none, none] [] s (zyE (some (.int r)) s') := by
  unfold zyF112 at h
  refine zy_2 rfl rfl (show zyR _ _ _ _ [some (.ref (0 + 3)), some (.int x1), some (.int x2), some (.int x3), none, none] [.int x1] _ _ from ?_)
  obtain ⟨p1, hp1, h⟩ := zy_bind h
  refine zy_60 (as := [.int x1]) (rest := []) (L := [some (.int x1)]) (d' := 1) rfl rfl (Nat.le_of_ble_eq_true rfl) (Nat.le_of_ble_eq_true rfl) rfl (Nat.le_of_ble_eq_true rfl) rfl rfl (zyC18 hp1) ?_
  show zyR _ _ _ _ [some (.ref (0 + 3)), some (.int x1), some (.int x2), some (.int x3), none, none] [.int p1.1] _ _
  refine zy_24_0 rfl (fun b16 => (show zyR _ _ _ _ [some (.ref (0 + 3)), some (.int x1), some (.int x2), some (.int x3), none, none] [] _ _ from ?_)) (fun b16 => (show zyR _ _ _ _ [some (.ref (0 + 3)), some (.int x1), some (.int x2), some (.int x3), none, none] [] _ _ from ?_))
  · replace h := zy_ifp h b16
    refine zy_3 rfl rfl (show zyR _ _ _ _ [some (.ref (0 + 3)), some (.int x1), some (.int x2), some (.int x3), none, none] [.int (-1 : Int32)] _ _ from ?_)
    obtain ⟨rfl, rfl⟩ := zy_pi h
    exact zy_4 rfl ⟨rfl, rfl⟩
  · replace h := zy_ifn h b16
    refine zy_2 rfl rfl (show zyR _ _ _ _ [some (.ref (0 + 3)), some (.int x1), some (.int x2), some (.int x3), none, none] [.int x2] _ _ from ?_)
    refine zy_24_2 rfl (fun b15 => (show zyR _ _ _ _ [some (.ref (0 + 3)), some (.int x1), some (.int x2), some (.int x3), none, none] [] _ _ from ?_)) (fun b15 => (show zyR _ _ _ _ [some (.ref (0 + 3)), some (.int x1), some (.int x2), some (.int x3), none, none] [] _ _ from ?_))
    · replace h := zy_ifp h b15
      refine zy_3 rfl rfl (show zyR _ _ _ _ [some (.ref (0 + 3)), some (.int x1), some (.int x2), some (.int x3), none, none] [.int (-1 : Int32)] _ _ from ?_)
      obtain ⟨rfl, rfl⟩ := zy_pi h
      exact zy_4 rfl ⟨rfl, rfl⟩
    · replace h := zy_ifn h b15
      refine zy_2 rfl rfl (show zyR _ _ _ _ [some (.ref (0 + 3)), some (.int x1), some (.int x2), some (.int x3), none, none] [.int x2] _ _ from ?_)
      refine zy_3 rfl rfl (show zyR _ _ _ _ [some (.ref (0 + 3)), some (.int x1), some (.int x2), some (.int x3), none, none] [.int (6 : Int32), .int x2] _ _ from ?_)
      refine zy_25_3 rfl (fun b14 => (show zyR _ _ _ _ [some (.ref (0 + 3)), some (.int x1), some (.int x2), some (.int x3), none, none] [] _ _ from ?_)) (fun b14 => (show zyR _ _ _ _ [some (.ref (0 + 3)), some (.int x1), some (.int x2), some (.int x3), none, none] [] _ _ from ?_))
      · replace h := zy_ifp h b14
        refine zy_3 rfl rfl (show zyR _ _ _ _ [some (.ref (0 + 3)), some (.int x1), some (.int x2), some (.int x3), none, none] [.int (-1 : Int32)] _ _ from ?_)
        obtain ⟨rfl, rfl⟩ := zy_pi h
        exact zy_4 rfl ⟨rfl, rfl⟩
      · replace h := zy_ifn h b14
        refine zy_2 rfl rfl (show zyR _ _ _ _ [some (.ref (0 + 3)), some (.int x1), some (.int x2), some (.int x3), none, none] [.int x3] _ _ from ?_)
        obtain ⟨p2, hp2, h⟩ := zy_bind h
        refine zy_60 (as := [.int x3]) (rest := []) (L := [some (.int x3)]) (d' := 1) rfl rfl (Nat.le_of_ble_eq_true rfl) (Nat.le_of_ble_eq_true rfl) rfl (Nat.le_of_ble_eq_true rfl) rfl rfl (zyC84 hp2) ?_
        show zyR _ _ _ _ [some (.ref (0 + 3)), some (.int x1), some (.int x2), some (.int x3), none, none] [.int p2.1] _ _
        refine zy_24_1 rfl (fun b13 => (show zyR _ _ _ _ [some (.ref (0 + 3)), some (.int x1), some (.int x2), some (.int x3), none, none] [] _ _ from ?_)) (fun b13 => (show zyR _ _ _ _ [some (.ref (0 + 3)), some (.int x1), some (.int x2), some (.int x3), none, none] [] _ _ from ?_))
        · replace h := zy_ifp h b13
          refine zy_0 rfl rfl (show zyR _ _ _ _ [some (.ref (0 + 3)), some (.int x1), some (.int x2), some (.int x3), none, none] [.ref (0 + 3)] _ _ from ?_)
          refine zy_1r (c := 0) rfl rfl rfl (show zyR _ _ _ _ [some (.ref (0 + 3)), some (.int x1), some (.int x2), some (.int x3), none, none] [.ref (30 + 3)] _ _ from ?_)
          refine zy_2 rfl rfl (show zyR _ _ _ _ [some (.ref (0 + 3)), some (.int x1), some (.int x2), some (.int x3), none, none] [.int x1, .ref (30 + 3)] _ _ from ?_)
          obtain ⟨c3, h⟩ := zy_if h
          obtain ⟨c4, h⟩ := zy_if h
          refine zy_28 rfl (zy_Wb_g c4) c3 (show zyR _ _ _ _ [some (.ref (0 + 3)), some (.int x1), some (.int x2), some (.int x3), none, none] [.ref ((zy_sh (x1).toNatClampNeg) + 3)] _ _ from ?_)
          refine zy_3 rfl rfl (show zyR _ _ _ _ [some (.ref (0 + 3)), some (.int x1), some (.int x2), some (.int x3), none, none] [.int (0 : Int32), .ref ((zy_sh (x1).toNatClampNeg) + 3)] _ _ from ?_)
          obtain ⟨p5, hp5, h⟩ := zy_bind h
          refine zy_5 (c := (zy_sh (x1).toNatClampNeg)) (as := [.int (0 : Int32)]) (rest := []) (L := [some (.ref ((zy_sh (x1).toNatClampNeg) + 3)), some (.int (0 : Int32))]) (d' := 3) rfl rfl (zy_isSh_of (zy_in_lt c3)).1 (Nat.le_of_ble_eq_true rfl) (Nat.le_of_ble_eq_true rfl) rfl (Nat.le_of_ble_eq_true rfl) rfl rfl (zyC107 (zy_isSh_of (zy_in_lt c3)) hp5) ?_
          show zyR _ _ _ _ [some (.ref (0 + 3)), some (.int x1), some (.int x2), some (.int x3), none, none] [.int p5.1] _ _
          refine zy_23 rfl rfl (show zyR _ _ _ _ [some (.ref (0 + 3)), some (.int x1), some (.int x2), some (.int x3), some (.int p5.1), none] [] _ _ from ?_)
          refine zy_2 rfl rfl (show zyR _ _ _ _ [some (.ref (0 + 3)), some (.int x1), some (.int x2), some (.int x3), some (.int p5.1), none] [.int p5.1] _ _ from ?_)
          refine zy_24_0 rfl (fun b12 => (show zyR _ _ _ _ [some (.ref (0 + 3)), some (.int x1), some (.int x2), some (.int x3), some (.int p5.1), none] [] _ _ from ?_)) (fun b12 => (show zyR _ _ _ _ [some (.ref (0 + 3)), some (.int x1), some (.int x2), some (.int x3), some (.int p5.1), none] [] _ _ from ?_))
          · replace h := zy_ifp h b12
            refine zy_0 rfl rfl (show zyR _ _ _ _ [some (.ref (0 + 3)), some (.int x1), some (.int x2), some (.int x3), some (.int p5.1), none] [.ref (0 + 3)] _ _ from ?_)
            refine zy_1r (c := 0) rfl rfl rfl (show zyR _ _ _ _ [some (.ref (0 + 3)), some (.int x1), some (.int x2), some (.int x3), some (.int p5.1), none] [.ref (30 + 3)] _ _ from ?_)
            refine zy_2 rfl rfl (show zyR _ _ _ _ [some (.ref (0 + 3)), some (.int x1), some (.int x2), some (.int x3), some (.int p5.1), none] [.int x1, .ref (30 + 3)] _ _ from ?_)
            obtain ⟨c6, h⟩ := zy_if h
            obtain ⟨c7, h⟩ := zy_if h
            refine zy_28 rfl (zy_Wb_g c7) c6 (show zyR _ _ _ _ [some (.ref (0 + 3)), some (.int x1), some (.int x2), some (.int x3), some (.int p5.1), none] [.ref ((zy_sh (x1).toNatClampNeg) + 3)] _ _ from ?_)
            refine zy_2 rfl rfl (show zyR _ _ _ _ [some (.ref (0 + 3)), some (.int x1), some (.int x2), some (.int x3), some (.int p5.1), none] [.int x2, .ref ((zy_sh (x1).toNatClampNeg) + 3)] _ _ from ?_)
            obtain ⟨p8, hp8, h⟩ := zy_bind h
            refine zy_60 (as := [.ref ((zy_sh (x1).toNatClampNeg) + 3), .int x2]) (rest := []) (L := [some (.ref ((zy_sh (x1).toNatClampNeg) + 3)), some (.int x2), none, none]) (d' := 5) rfl rfl (Nat.le_of_ble_eq_true rfl) (Nat.le_of_ble_eq_true rfl) rfl (Nat.le_of_ble_eq_true rfl) rfl rfl (zyC113 (zy_isSh_of (zy_in_lt c6)) hp8) ?_
            show zyR _ _ _ _ [some (.ref (0 + 3)), some (.int x1), some (.int x2), some (.int x3), some (.int p5.1), none] [.int p8.1] _ _
            refine zy_23 rfl rfl (show zyR _ _ _ _ [some (.ref (0 + 3)), some (.int x1), some (.int x2), some (.int x3), some (.int p5.1), some (.int p8.1)] [] _ _ from ?_)
            refine zy_2 rfl rfl (show zyR _ _ _ _ [some (.ref (0 + 3)), some (.int x1), some (.int x2), some (.int x3), some (.int p5.1), some (.int p8.1)] [.int x3] _ _ from ?_)
            refine zy_24_1 rfl (fun b11 => (show zyR _ _ _ _ [some (.ref (0 + 3)), some (.int x1), some (.int x2), some (.int x3), some (.int p5.1), some (.int p8.1)] [] _ _ from ?_)) (fun b11 => (show zyR _ _ _ _ [some (.ref (0 + 3)), some (.int x1), some (.int x2), some (.int x3), some (.int p5.1), some (.int p8.1)] [] _ _ from ?_))
            · replace h := zy_ifp h b11
              refine zy_2 rfl rfl (show zyR _ _ _ _ [some (.ref (0 + 3)), some (.int x1), some (.int x2), some (.int x3), some (.int p5.1), some (.int p8.1)] [.int p8.1] _ _ from ?_)
              obtain ⟨p9, hp9, h⟩ := zy_bind h
              refine zy_60 (as := [.int p8.1]) (rest := []) (L := [some (.int p8.1), none]) (d' := 2) rfl rfl (Nat.le_of_ble_eq_true rfl) (Nat.le_of_ble_eq_true rfl) rfl (Nat.le_of_ble_eq_true rfl) rfl rfl (zyC115 hp9) ?_
              show zyR _ _ _ _ [some (.ref (0 + 3)), some (.int x1), some (.int x2), some (.int x3), some (.int p5.1), some (.int p8.1)] [.int p9.1] _ _
              obtain ⟨rfl, rfl⟩ := zy_pi h
              exact zy_4 rfl ⟨rfl, rfl⟩
            · replace h := zy_ifn h b11
              refine zy_2 rfl rfl (show zyR _ _ _ _ [some (.ref (0 + 3)), some (.int x1), some (.int x2), some (.int x3), some (.int p5.1), some (.int p8.1)] [.int p8.1] _ _ from ?_)
              obtain ⟨p10, hp10, h⟩ := zy_bind h
              refine zy_60 (as := [.int p8.1]) (rest := []) (L := [some (.int p8.1)]) (d' := 1) rfl rfl (Nat.le_of_ble_eq_true rfl) (Nat.le_of_ble_eq_true rfl) rfl (Nat.le_of_ble_eq_true rfl) rfl rfl (zyC63 hp10) ?_
              show zyR _ _ _ _ [some (.ref (0 + 3)), some (.int x1), some (.int x2), some (.int x3), some (.int p5.1), some (.int p8.1)] [.int p10.1] _ _
              obtain ⟨rfl, rfl⟩ := zy_pi h
              exact zy_4 rfl ⟨rfl, rfl⟩
          · replace h := zy_ifn h b12
            refine zy_2 rfl rfl (show zyR _ _ _ _ [some (.ref (0 + 3)), some (.int x1), some (.int x2), some (.int x3), some (.int p5.1), none] [.int p5.1] _ _ from ?_)
            obtain ⟨rfl, rfl⟩ := zy_pi h
            exact zy_4 rfl ⟨rfl, rfl⟩
        · replace h := zy_ifn h b13
          refine zy_3 rfl rfl (show zyR _ _ _ _ [some (.ref (0 + 3)), some (.int x1), some (.int x2), some (.int x3), none, none] [.int (-1 : Int32)] _ _ from ?_)
          obtain ⟨rfl, rfl⟩ := zy_pi h
          exact zy_4 rfl ⟨rfl, rfl⟩
