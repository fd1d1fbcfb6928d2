/-! PART 41.15: methods as functions. Made by wip/v4/dcp.py. -/
/-! NineOpinions.shift(IIIII)I -/
noncomputable def zyF171   (x1 : Int32) (x2 : Int32) (x3 : Int32) (x4 : Int32) (x5 : Int32) (s : zy_S) : Option (Int32 × zy_S) :=
(zyF18 x1 s).bind fun p1 =>
if p1.1 = 0 then
some ((-1 : Int32), p1.2)
else
(zyF18 x3 p1.2).bind fun p2 =>
if p2.1 ≠ 0 then
if zy_in x1 6 then
if zy_Wb p2.2 then
if zy_in x3 6 then
if zy_Wb p2.2 then
(zyF19 (zy_sh (x1).toNatClampNeg) p2.2).bind fun p7 =>
if p7.1 ≠ 0 then
some ((-11 : Int32), p7.2)
else
(zyF19 (zy_sh (x3).toNatClampNeg) p7.2).bind fun p8 =>
if p8.1 = 0 then
(zyF20 (zy_sh (x1).toNatClampNeg) p8.2).bind fun p9 =>
if p9.1 = 0 then
some ((-12 : Int32), p9.2)
else
(zyF21 (zy_sh (x3).toNatClampNeg) (p9.2.1 (zy_sh (x1).toNatClampNeg) 2) p9.2).bind fun p10 =>
if p10.1 ≠ 0 then
(zyF23 (zy_sh (x1).toNatClampNeg) x2 x5 p10.2).bind fun p11 =>
if p11.1 = 0 then
some ((-13 : Int32), p11.2)
else
(zyF23 (zy_sh (x3).toNatClampNeg) x4 x5 p11.2).bind fun p12 =>
if p12.1 ≠ 0 then
if zy_cpB x2 x4 x5 60 60 then
some (x5, (zy_ub p12.2 ((zy_sh (x3).toNatClampNeg) + 1) (va_cpy (p12.2.2.1 ((zy_sh (x1).toNatClampNeg) + 1)) (p12.2.2.1 ((zy_sh (x3).toNatClampNeg) + 1)) (x2).toNatClampNeg (x4).toNatClampNeg (x5).toNatClampNeg)))
else none
else
some ((-13 : Int32), p12.2)
else
some ((-12 : Int32), p10.2)
else
some ((-11 : Int32), p8.2)
else none
else none
else none
else none
else
some ((-1 : Int32), p2.2)
theorem zyC171 {X : zx_X}     {x1 : Int32} {x2 : Int32} {x3 : Int32} {x4 : Int32} {x5 : Int32} {s : zy_S} {r : Int32} {s' : zy_S}  (h : zyF171 x1 x2 x3 x4 x5 s = some (r, s')) : zyR X 3 171 0 [some (.ref (0 + 3)), some (.int x1), some (.int x2), some (.int x3), some (.int x4), some (.int x5), none, none] [] s (zyE (some (.int r)) s') := by
  unfold zyF171 at h
  refine zy_2 rfl rfl (show zyR _ _ _ _ [some (.ref (0 + 3)), some (.int x1), some (.int x2), some (.int x3), some (.int x4), some (.int x5), none, none] [.int x1] _ _ from ?_)
  obtain ⟨p1, hp1, h⟩ := zy_bind h
  refine zy_60 (as := [.int x1]) (rest := []) (L := [some (.int x1)]) (d' := 1) rfl rfl (Nat.le_of_ble_eq_true rfl) (Nat.le_of_ble_eq_true rfl) rfl (Nat.le_of_ble_eq_true rfl) rfl rfl (zyC18 hp1) ?_
  show zyR _ _ _ _ [some (.ref (0 + 3)), some (.int x1), some (.int x2), some (.int x3), some (.int x4), some (.int x5), none, none] [.int p1.1] _ _
  refine zy_24_0 rfl (fun b21 => (show zyR _ _ _ _ [some (.ref (0 + 3)), some (.int x1), some (.int x2), some (.int x3), some (.int x4), some (.int x5), none, none] [] _ _ from ?_)) (fun b21 => (show zyR _ _ _ _ [some (.ref (0 + 3)), some (.int x1), some (.int x2), some (.int x3), some (.int x4), some (.int x5), none, none] [] _ _ from ?_))
  · replace h := zy_ifp h b21
    refine zy_3 rfl rfl (show zyR _ _ _ _ [some (.ref (0 + 3)), some (.int x1), some (.int x2), some (.int x3), some (.int x4), some (.int x5), none, none] [.int (-1 : Int32)] _ _ from ?_)
    obtain ⟨rfl, rfl⟩ := zy_pi h
    exact zy_4 rfl ⟨rfl, rfl⟩
  · replace h := zy_ifn h b21
    refine zy_2 rfl rfl (show zyR _ _ _ _ [some (.ref (0 + 3)), some (.int x1), some (.int x2), some (.int x3), some (.int x4), some (.int x5), none, none] [.int x3] _ _ from ?_)
    obtain ⟨p2, hp2, h⟩ := zy_bind h
    refine zy_60 (as := [.int x3]) (rest := []) (L := [some (.int x3)]) (d' := 1) rfl rfl (Nat.le_of_ble_eq_true rfl) (Nat.le_of_ble_eq_true rfl) rfl (Nat.le_of_ble_eq_true rfl) rfl rfl (zyC18 hp2) ?_
    show zyR _ _ _ _ [some (.ref (0 + 3)), some (.int x1), some (.int x2), some (.int x3), some (.int x4), some (.int x5), none, none] [.int p2.1] _ _
    refine zy_24_1 rfl (fun b20 => (show zyR _ _ _ _ [some (.ref (0 + 3)), some (.int x1), some (.int x2), some (.int x3), some (.int x4), some (.int x5), none, none] [] _ _ from ?_)) (fun b20 => (show zyR _ _ _ _ [some (.ref (0 + 3)), some (.int x1), some (.int x2), some (.int x3), some (.int x4), some (.int x5), none, none] [] _ _ from ?_))
    · replace h := zy_ifp h b20
      refine zy_0 rfl rfl (show zyR _ _ _ _ [some (.ref (0 + 3)), some (.int x1), some (.int x2), some (.int x3), some (.int x4), some (.int x5), none, none] [.ref (0 + 3)] _ _ from ?_)
      refine zy_1r (c := 0) rfl rfl rfl (show zyR _ _ _ _ [some (.ref (0 + 3)), some (.int x1), some (.int x2), some (.int x3), some (.int x4), some (.int x5), none, none] [.ref (30 + 3)] _ _ from ?_)
      refine zy_2 rfl rfl (show zyR _ _ _ _ [some (.ref (0 + 3)), some (.int x1), some (.int x2), some (.int x3), some (.int x4), some (.int x5), none, none] [.int x1, .ref (30 + 3)] _ _ from ?_)
      obtain ⟨c3, h⟩ := zy_if h
      obtain ⟨c4, h⟩ := zy_if h
      refine zy_28 rfl (zy_Wb_g c4) c3 (show zyR _ _ _ _ [some (.ref (0 + 3)), some (.int x1), some (.int x2), some (.int x3), some (.int x4), some (.int x5), none, none] [.ref ((zy_sh (x1).toNatClampNeg) + 3)] _ _ from ?_)
      refine zy_39 rfl rfl (show zyR _ _ _ _ [some (.ref (0 + 3)), some (.int x1), some (.int x2), some (.int x3), some (.int x4), some (.int x5), some (.ref ((zy_sh (x1).toNatClampNeg) + 3)), none] [] _ _ from ?_)
      refine zy_0 rfl rfl (show zyR _ _ _ _ [some (.ref (0 + 3)), some (.int x1), some (.int x2), some (.int x3), some (.int x4), some (.int x5), some (.ref ((zy_sh (x1).toNatClampNeg) + 3)), none] [.ref (0 + 3)] _ _ from ?_)
      refine zy_1r (c := 0) rfl rfl rfl (show zyR _ _ _ _ [some (.ref (0 + 3)), some (.int x1), some (.int x2), some (.int x3), some (.int x4), some (.int x5), some (.ref ((zy_sh (x1).toNatClampNeg) + 3)), none] [.ref (30 + 3)] _ _ from ?_)
      refine zy_2 rfl rfl (show zyR _ _ _ _ [some (.ref (0 + 3)), some (.int x1), some (.int x2), some (.int x3), some (.int x4), some (.int x5), some (.ref ((zy_sh (x1).toNatClampNeg) + 3)), none] [.int x3, .ref (30 + 3)] _ _ from ?_)
      obtain ⟨c5, h⟩ := zy_if h
      obtain ⟨c6, h⟩ := zy_if h
      refine zy_28 rfl (zy_Wb_g c6) c5 (show zyR _ _ _ _ [some (.ref (0 + 3)), some (.int x1), some (.int x2), some (.int x3), some (.int x4), some (.int x5), some (.ref ((zy_sh (x1).toNatClampNeg) + 3)), none] [.ref ((zy_sh (x3).toNatClampNeg) + 3)] _ _ from ?_)
      refine zy_39 rfl rfl (show zyR _ _ _ _ [some (.ref (0 + 3)), some (.int x1), some (.int x2), some (.int x3), some (.int x4), some (.int x5), some (.ref ((zy_sh (x1).toNatClampNeg) + 3)), some (.ref ((zy_sh (x3).toNatClampNeg) + 3))] [] _ _ from ?_)
      refine zy_0 rfl rfl (show zyR _ _ _ _ [some (.ref (0 + 3)), some (.int x1), some (.int x2), some (.int x3), some (.int x4), some (.int x5), some (.ref ((zy_sh (x1).toNatClampNeg) + 3)), some (.ref ((zy_sh (x3).toNatClampNeg) + 3))] [.ref ((zy_sh (x1).toNatClampNeg) + 3)] _ _ from ?_)
      obtain ⟨p7, hp7, h⟩ := zy_bind h
      refine zy_5 (c := (zy_sh (x1).toNatClampNeg)) (as := []) (rest := []) (L := [some (.ref ((zy_sh (x1).toNatClampNeg) + 3))]) (d' := 2) rfl rfl (zy_isSh_of (zy_in_lt c3)).1 (Nat.le_of_ble_eq_true rfl) (Nat.le_of_ble_eq_true rfl) rfl (Nat.le_of_ble_eq_true rfl) rfl rfl (zyC19 (zy_isSh_of (zy_in_lt c3)) hp7) ?_
      show zyR _ _ _ _ [some (.ref (0 + 3)), some (.int x1), some (.int x2), some (.int x3), some (.int x4), some (.int x5), some (.ref ((zy_sh (x1).toNatClampNeg) + 3)), some (.ref ((zy_sh (x3).toNatClampNeg) + 3))] [.int p7.1] _ _
      refine zy_24_1 rfl (fun b19 => (show zyR _ _ _ _ [some (.ref (0 + 3)), some (.int x1), some (.int x2), some (.int x3), some (.int x4), some (.int x5), some (.ref ((zy_sh (x1).toNatClampNeg) + 3)), some (.ref ((zy_sh (x3).toNatClampNeg) + 3))] [] _ _ from ?_)) (fun b19 => (show zyR _ _ _ _ [some (.ref (0 + 3)), some (.int x1), some (.int x2), some (.int x3), some (.int x4), some (.int x5), some (.ref ((zy_sh (x1).toNatClampNeg) + 3)), some (.ref ((zy_sh (x3).toNatClampNeg) + 3))] [] _ _ from ?_))
      · replace h := zy_ifp h b19
        refine zy_3 rfl rfl (show zyR _ _ _ _ [some (.ref (0 + 3)), some (.int x1), some (.int x2), some (.int x3), some (.int x4), some (.int x5), some (.ref ((zy_sh (x1).toNatClampNeg) + 3)), some (.ref ((zy_sh (x3).toNatClampNeg) + 3))] [.int (-11 : Int32)] _ _ from ?_)
        obtain ⟨rfl, rfl⟩ := zy_pi h
        exact zy_4 rfl ⟨rfl, rfl⟩
      · replace h := zy_ifn h b19
        refine zy_0 rfl rfl (show zyR _ _ _ _ [some (.ref (0 + 3)), some (.int x1), some (.int x2), some (.int x3), some (.int x4), some (.int x5), some (.ref ((zy_sh (x1).toNatClampNeg) + 3)), some (.ref ((zy_sh (x3).toNatClampNeg) + 3))] [.ref ((zy_sh (x3).toNatClampNeg) + 3)] _ _ from ?_)
        obtain ⟨p8, hp8, h⟩ := zy_bind h
        refine zy_5 (c := (zy_sh (x3).toNatClampNeg)) (as := []) (rest := []) (L := [some (.ref ((zy_sh (x3).toNatClampNeg) + 3))]) (d' := 2) rfl rfl (zy_isSh_of (zy_in_lt c5)).1 (Nat.le_of_ble_eq_true rfl) (Nat.le_of_ble_eq_true rfl) rfl (Nat.le_of_ble_eq_true rfl) rfl rfl (zyC19 (zy_isSh_of (zy_in_lt c5)) hp8) ?_
        show zyR _ _ _ _ [some (.ref (0 + 3)), some (.int x1), some (.int x2), some (.int x3), some (.int x4), some (.int x5), some (.ref ((zy_sh (x1).toNatClampNeg) + 3)), some (.ref ((zy_sh (x3).toNatClampNeg) + 3))] [.int p8.1] _ _
        refine zy_24_0 rfl (fun b18 => (show zyR _ _ _ _ [some (.ref (0 + 3)), some (.int x1), some (.int x2), some (.int x3), some (.int x4), some (.int x5), some (.ref ((zy_sh (x1).toNatClampNeg) + 3)), some (.ref ((zy_sh (x3).toNatClampNeg) + 3))] [] _ _ from ?_)) (fun b18 => (show zyR _ _ _ _ [some (.ref (0 + 3)), some (.int x1), some (.int x2), some (.int x3), some (.int x4), some (.int x5), some (.ref ((zy_sh (x1).toNatClampNeg) + 3)), some (.ref ((zy_sh (x3).toNatClampNeg) + 3))] [] _ _ from ?_))
        · replace h := zy_ifp h b18
          refine zy_0 rfl rfl (show zyR _ _ _ _ [some (.ref (0 + 3)), some (.int x1), some (.int x2), some (.int x3), some (.int x4), some (.int x5), some (.ref ((zy_sh (x1).toNatClampNeg) + 3)), some (.ref ((zy_sh (x3).toNatClampNeg) + 3))] [.ref ((zy_sh (x1).toNatClampNeg) + 3)] _ _ from ?_)
          obtain ⟨p9, hp9, h⟩ := zy_bind h
          refine zy_5 (c := (zy_sh (x1).toNatClampNeg)) (as := []) (rest := []) (L := [some (.ref ((zy_sh (x1).toNatClampNeg) + 3))]) (d' := 1) rfl rfl (zy_isSh_of (zy_in_lt c3)).1 (Nat.le_of_ble_eq_true rfl) (Nat.le_of_ble_eq_true rfl) rfl (Nat.le_of_ble_eq_true rfl) rfl rfl (zyC20 (zy_isSh_of (zy_in_lt c3)) hp9) ?_
          show zyR _ _ _ _ [some (.ref (0 + 3)), some (.int x1), some (.int x2), some (.int x3), some (.int x4), some (.int x5), some (.ref ((zy_sh (x1).toNatClampNeg) + 3)), some (.ref ((zy_sh (x3).toNatClampNeg) + 3))] [.int p9.1] _ _
          refine zy_24_0 rfl (fun b17 => (show zyR _ _ _ _ [some (.ref (0 + 3)), some (.int x1), some (.int x2), some (.int x3), some (.int x4), some (.int x5), some (.ref ((zy_sh (x1).toNatClampNeg) + 3)), some (.ref ((zy_sh (x3).toNatClampNeg) + 3))] [] _ _ from ?_)) (fun b17 => (show zyR _ _ _ _ [some (.ref (0 + 3)), some (.int x1), some (.int x2), some (.int x3), some (.int x4), some (.int x5), some (.ref ((zy_sh (x1).toNatClampNeg) + 3)), some (.ref ((zy_sh (x3).toNatClampNeg) + 3))] [] _ _ from ?_))
          · replace h := zy_ifp h b17
            refine zy_3 rfl rfl (show zyR _ _ _ _ [some (.ref (0 + 3)), some (.int x1), some (.int x2), some (.int x3), some (.int x4), some (.int x5), some (.ref ((zy_sh (x1).toNatClampNeg) + 3)), some (.ref ((zy_sh (x3).toNatClampNeg) + 3))] [.int (-12 : Int32)] _ _ from ?_)
            obtain ⟨rfl, rfl⟩ := zy_pi h
            exact zy_4 rfl ⟨rfl, rfl⟩
          · replace h := zy_ifn h b17
            refine zy_0 rfl rfl (show zyR _ _ _ _ [some (.ref (0 + 3)), some (.int x1), some (.int x2), some (.int x3), some (.int x4), some (.int x5), some (.ref ((zy_sh (x1).toNatClampNeg) + 3)), some (.ref ((zy_sh (x3).toNatClampNeg) + 3))] [.ref ((zy_sh (x3).toNatClampNeg) + 3)] _ _ from ?_)
            refine zy_0 rfl rfl (show zyR _ _ _ _ [some (.ref (0 + 3)), some (.int x1), some (.int x2), some (.int x3), some (.int x4), some (.int x5), some (.ref ((zy_sh (x1).toNatClampNeg) + 3)), some (.ref ((zy_sh (x3).toNatClampNeg) + 3))] [.ref ((zy_sh (x1).toNatClampNeg) + 3), .ref ((zy_sh (x3).toNatClampNeg) + 3)] _ _ from ?_)
            refine zy_1 (c := (zy_sh (x1).toNatClampNeg)) rfl (zy_isSh_of (zy_in_lt c3)).1 rfl (show zyR _ _ _ _ [some (.ref (0 + 3)), some (.int x1), some (.int x2), some (.int x3), some (.int x4), some (.int x5), some (.ref ((zy_sh (x1).toNatClampNeg) + 3)), some (.ref ((zy_sh (x3).toNatClampNeg) + 3))] [.int (p9.2.1 (zy_sh (x1).toNatClampNeg) 2), .ref ((zy_sh (x3).toNatClampNeg) + 3)] _ _ from ?_)
            obtain ⟨p10, hp10, h⟩ := zy_bind h
            refine zy_5 (c := (zy_sh (x3).toNatClampNeg)) (as := [.int (p9.2.1 (zy_sh (x1).toNatClampNeg) 2)]) (rest := []) (L := [some (.ref ((zy_sh (x3).toNatClampNeg) + 3)), some (.int (p9.2.1 (zy_sh (x1).toNatClampNeg) 2))]) (d' := 2) rfl rfl (zy_isSh_of (zy_in_lt c5)).1 (Nat.le_of_ble_eq_true rfl) (Nat.le_of_ble_eq_true rfl) rfl (Nat.le_of_ble_eq_true rfl) rfl rfl (zyC21 (zy_isSh_of (zy_in_lt c5)) hp10) ?_
            show zyR _ _ _ _ [some (.ref (0 + 3)), some (.int x1), some (.int x2), some (.int x3), some (.int x4), some (.int x5), some (.ref ((zy_sh (x1).toNatClampNeg) + 3)), some (.ref ((zy_sh (x3).toNatClampNeg) + 3))] [.int p10.1] _ _
            refine zy_24_1 rfl (fun b16 => (show zyR _ _ _ _ [some (.ref (0 + 3)), some (.int x1), some (.int x2), some (.int x3), some (.int x4), some (.int x5), some (.ref ((zy_sh (x1).toNatClampNeg) + 3)), some (.ref ((zy_sh (x3).toNatClampNeg) + 3))] [] _ _ from ?_)) (fun b16 => (show zyR _ _ _ _ [some (.ref (0 + 3)), some (.int x1), some (.int x2), some (.int x3), some (.int x4), some (.int x5), some (.ref ((zy_sh (x1).toNatClampNeg) + 3)), some (.ref ((zy_sh (x3).toNatClampNeg) + 3))] [] _ _ from ?_))
            · replace h := zy_ifp h b16
              refine zy_0 rfl rfl (show zyR _ _ _ _ [some (.ref (0 + 3)), some (.int x1), some (.int x2), some (.int x3), some (.int x4), some (.int x5), some (.ref ((zy_sh (x1).toNatClampNeg) + 3)), some (.ref ((zy_sh (x3).toNatClampNeg) + 3))] [.ref ((zy_sh (x1).toNatClampNeg) + 3)] _ _ from ?_)
              refine zy_2 rfl rfl (show zyR _ _ _ _ [some (.ref (0 + 3)), some (.int x1), some (.int x2), some (.int x3), some (.int x4), some (.int x5), some (.ref ((zy_sh (x1).toNatClampNeg) + 3)), some (.ref ((zy_sh (x3).toNatClampNeg) + 3))] [.int x2, .ref ((zy_sh (x1).toNatClampNeg) + 3)] _ _ from ?_)
              refine zy_2 rfl rfl (show zyR _ _ _ _ [some (.ref (0 + 3)), some (.int x1), some (.int x2), some (.int x3), some (.int x4), some (.int x5), some (.ref ((zy_sh (x1).toNatClampNeg) + 3)), some (.ref ((zy_sh (x3).toNatClampNeg) + 3))] [.int x5, .int x2, .ref ((zy_sh (x1).toNatClampNeg) + 3)] _ _ from ?_)
              obtain ⟨p11, hp11, h⟩ := zy_bind h
              refine zy_5 (c := (zy_sh (x1).toNatClampNeg)) (as := [.int x2, .int x5]) (rest := []) (L := [some (.ref ((zy_sh (x1).toNatClampNeg) + 3)), some (.int x2), some (.int x5)]) (d' := 1) rfl rfl (zy_isSh_of (zy_in_lt c3)).1 (Nat.le_of_ble_eq_true rfl) (Nat.le_of_ble_eq_true rfl) rfl (Nat.le_of_ble_eq_true rfl) rfl rfl (zyC23 (zy_isSh_of (zy_in_lt c3)) hp11) ?_
              show zyR _ _ _ _ [some (.ref (0 + 3)), some (.int x1), some (.int x2), some (.int x3), some (.int x4), some (.int x5), some (.ref ((zy_sh (x1).toNatClampNeg) + 3)), some (.ref ((zy_sh (x3).toNatClampNeg) + 3))] [.int p11.1] _ _
              refine zy_24_0 rfl (fun b15 => (show zyR _ _ _ _ [some (.ref (0 + 3)), some (.int x1), some (.int x2), some (.int x3), some (.int x4), some (.int x5), some (.ref ((zy_sh (x1).toNatClampNeg) + 3)), some (.ref ((zy_sh (x3).toNatClampNeg) + 3))] [] _ _ from ?_)) (fun b15 => (show zyR _ _ _ _ [some (.ref (0 + 3)), some (.int x1), some (.int x2), some (.int x3), some (.int x4), some (.int x5), some (.ref ((zy_sh (x1).toNatClampNeg) + 3)), some (.ref ((zy_sh (x3).toNatClampNeg) + 3))] [] _ _ from ?_))
              · replace h := zy_ifp h b15
                refine zy_3 rfl rfl (show zyR _ _ _ _ [some (.ref (0 + 3)), some (.int x1), some (.int x2), some (.int x3), some (.int x4), some (.int x5), some (.ref ((zy_sh (x1).toNatClampNeg) + 3)), some (.ref ((zy_sh (x3).toNatClampNeg) + 3))] [.int (-13 : Int32)] _ _ from ?_)
                obtain ⟨rfl, rfl⟩ := zy_pi h
                exact zy_4 rfl ⟨rfl, rfl⟩
              · replace h := zy_ifn h b15
                refine zy_0 rfl rfl (show zyR _ _ _ _ [some (.ref (0 + 3)), some (.int x1), some (.int x2), some (.int x3), some (.int x4), some (.int x5), some (.ref ((zy_sh (x1).toNatClampNeg) + 3)), some (.ref ((zy_sh (x3).toNatClampNeg) + 3))] [.ref ((zy_sh (x3).toNatClampNeg) + 3)] _ _ from ?_)
                refine zy_2 rfl rfl (show zyR _ _ _ _ [some (.ref (0 + 3)), some (.int x1), some (.int x2), some (.int x3), some (.int x4), some (.int x5), some (.ref ((zy_sh (x1).toNatClampNeg) + 3)), some (.ref ((zy_sh (x3).toNatClampNeg) + 3))] [.int x4, .ref ((zy_sh (x3).toNatClampNeg) + 3)] _ _ from ?_)
                refine zy_2 rfl rfl (show zyR _ _ _ _ [some (.ref (0 + 3)), some (.int x1), some (.int x2), some (.int x3), some (.int x4), some (.int x5), some (.ref ((zy_sh (x1).toNatClampNeg) + 3)), some (.ref ((zy_sh (x3).toNatClampNeg) + 3))] [.int x5, .int x4, .ref ((zy_sh (x3).toNatClampNeg) + 3)] _ _ from ?_)
                obtain ⟨p12, hp12, h⟩ := zy_bind h
                refine zy_5 (c := (zy_sh (x3).toNatClampNeg)) (as := [.int x4, .int x5]) (rest := []) (L := [some (.ref ((zy_sh (x3).toNatClampNeg) + 3)), some (.int x4), some (.int x5)]) (d' := 1) rfl rfl (zy_isSh_of (zy_in_lt c5)).1 (Nat.le_of_ble_eq_true rfl) (Nat.le_of_ble_eq_true rfl) rfl (Nat.le_of_ble_eq_true rfl) rfl rfl (zyC23 (zy_isSh_of (zy_in_lt c5)) hp12) ?_
                show zyR _ _ _ _ [some (.ref (0 + 3)), some (.int x1), some (.int x2), some (.int x3), some (.int x4), some (.int x5), some (.ref ((zy_sh (x1).toNatClampNeg) + 3)), some (.ref ((zy_sh (x3).toNatClampNeg) + 3))] [.int p12.1] _ _
                refine zy_24_1 rfl (fun b14 => (show zyR _ _ _ _ [some (.ref (0 + 3)), some (.int x1), some (.int x2), some (.int x3), some (.int x4), some (.int x5), some (.ref ((zy_sh (x1).toNatClampNeg) + 3)), some (.ref ((zy_sh (x3).toNatClampNeg) + 3))] [] _ _ from ?_)) (fun b14 => (show zyR _ _ _ _ [some (.ref (0 + 3)), some (.int x1), some (.int x2), some (.int x3), some (.int x4), some (.int x5), some (.ref ((zy_sh (x1).toNatClampNeg) + 3)), some (.ref ((zy_sh (x3).toNatClampNeg) + 3))] [] _ _ from ?_))
                · replace h := zy_ifp h b14
                  refine zy_0 rfl rfl (show zyR _ _ _ _ [some (.ref (0 + 3)), some (.int x1), some (.int x2), some (.int x3), some (.int x4), some (.int x5), some (.ref ((zy_sh (x1).toNatClampNeg) + 3)), some (.ref ((zy_sh (x3).toNatClampNeg) + 3))] [.ref ((zy_sh (x1).toNatClampNeg) + 3)] _ _ from ?_)
                  refine zy_1r (c := (zy_sh (x1).toNatClampNeg)) rfl (zy_isSh_of (zy_in_lt c3)).1 rfl (show zyR _ _ _ _ [some (.ref (0 + 3)), some (.int x1), some (.int x2), some (.int x3), some (.int x4), some (.int x5), some (.ref ((zy_sh (x1).toNatClampNeg) + 3)), some (.ref ((zy_sh (x3).toNatClampNeg) + 3))] [.ref ((zy_sh (x1).toNatClampNeg) + 1 + 3)] _ _ from ?_)
                  refine zy_2 rfl rfl (show zyR _ _ _ _ [some (.ref (0 + 3)), some (.int x1), some (.int x2), some (.int x3), some (.int x4), some (.int x5), some (.ref ((zy_sh (x1).toNatClampNeg) + 3)), some (.ref ((zy_sh (x3).toNatClampNeg) + 3))] [.int x2, .ref ((zy_sh (x1).toNatClampNeg) + 1 + 3)] _ _ from ?_)
                  refine zy_0 rfl rfl (show zyR _ _ _ _ [some (.ref (0 + 3)), some (.int x1), some (.int x2), some (.int x3), some (.int x4), some (.int x5), some (.ref ((zy_sh (x1).toNatClampNeg) + 3)), some (.ref ((zy_sh (x3).toNatClampNeg) + 3))] [.ref ((zy_sh (x3).toNatClampNeg) + 3), .int x2, .ref ((zy_sh (x1).toNatClampNeg) + 1 + 3)] _ _ from ?_)
                  refine zy_1r (c := (zy_sh (x3).toNatClampNeg)) rfl (zy_isSh_of (zy_in_lt c5)).1 rfl (show zyR _ _ _ _ [some (.ref (0 + 3)), some (.int x1), some (.int x2), some (.int x3), some (.int x4), some (.int x5), some (.ref ((zy_sh (x1).toNatClampNeg) + 3)), some (.ref ((zy_sh (x3).toNatClampNeg) + 3))] [.ref ((zy_sh (x3).toNatClampNeg) + 1 + 3), .int x2, .ref ((zy_sh (x1).toNatClampNeg) + 1 + 3)] _ _ from ?_)
                  refine zy_2 rfl rfl (show zyR _ _ _ _ [some (.ref (0 + 3)), some (.int x1), some (.int x2), some (.int x3), some (.int x4), some (.int x5), some (.ref ((zy_sh (x1).toNatClampNeg) + 3)), some (.ref ((zy_sh (x3).toNatClampNeg) + 3))] [.int x4, .ref ((zy_sh (x3).toNatClampNeg) + 1 + 3), .int x2, .ref ((zy_sh (x1).toNatClampNeg) + 1 + 3)] _ _ from ?_)
                  refine zy_2 rfl rfl (show zyR _ _ _ _ [some (.ref (0 + 3)), some (.int x1), some (.int x2), some (.int x3), some (.int x4), some (.int x5), some (.ref ((zy_sh (x1).toNatClampNeg) + 3)), some (.ref ((zy_sh (x3).toNatClampNeg) + 3))] [.int x5, .int x4, .ref ((zy_sh (x3).toNatClampNeg) + 1 + 3), .int x2, .ref ((zy_sh (x1).toNatClampNeg) + 1 + 3)] _ _ from ?_)
                  obtain ⟨c13, h⟩ := zy_if h
                  refine zy_64j (c0 := ((zy_sh (x1).toNatClampNeg) + 1)) (c1 := ((zy_sh (x3).toNatClampNeg) + 1)) rfl (zy_isSh_of (zy_in_lt c3)).2 (zy_isSh_of (zy_in_lt c5)).2 c13 (Nat.le_of_ble_eq_true rfl) (Nat.le_of_ble_eq_true rfl) (show zyR _ _ _ _ [some (.ref (0 + 3)), some (.int x1), some (.int x2), some (.int x3), some (.int x4), some (.int x5), some (.ref ((zy_sh (x1).toNatClampNeg) + 3)), some (.ref ((zy_sh (x3).toNatClampNeg) + 3))] [] _ _ from ?_)
                  refine zy_2 rfl rfl (show zyR _ _ _ _ [some (.ref (0 + 3)), some (.int x1), some (.int x2), some (.int x3), some (.int x4), some (.int x5), some (.ref ((zy_sh (x1).toNatClampNeg) + 3)), some (.ref ((zy_sh (x3).toNatClampNeg) + 3))] [.int x5] _ _ from ?_)
                  obtain ⟨rfl, rfl⟩ := zy_pi h
                  exact zy_4 rfl ⟨rfl, rfl⟩
                · replace h := zy_ifn h b14
                  refine zy_3 rfl rfl (show zyR _ _ _ _ [some (.ref (0 + 3)), some (.int x1), some (.int x2), some (.int x3), some (.int x4), some (.int x5), some (.ref ((zy_sh (x1).toNatClampNeg) + 3)), some (.ref ((zy_sh (x3).toNatClampNeg) + 3))] [.int (-13 : Int32)] _ _ from ?_)
                  obtain ⟨rfl, rfl⟩ := zy_pi h
                  exact zy_4 rfl ⟨rfl, rfl⟩
            · replace h := zy_ifn h b16
              refine zy_3 rfl rfl (show zyR _ _ _ _ [some (.ref (0 + 3)), some (.int x1), some (.int x2), some (.int x3), some (.int x4), some (.int x5), some (.ref ((zy_sh (x1).toNatClampNeg) + 3)), some (.ref ((zy_sh (x3).toNatClampNeg) + 3))] [.int (-12 : Int32)] _ _ from ?_)
              obtain ⟨rfl, rfl⟩ := zy_pi h
              exact zy_4 rfl ⟨rfl, rfl⟩
        · replace h := zy_ifn h b18
          refine zy_3 rfl rfl (show zyR _ _ _ _ [some (.ref (0 + 3)), some (.int x1), some (.int x2), some (.int x3), some (.int x4), some (.int x5), some (.ref ((zy_sh (x1).toNatClampNeg) + 3)), some (.ref ((zy_sh (x3).toNatClampNeg) + 3))] [.int (-11 : Int32)] _ _ from ?_)
          obtain ⟨rfl, rfl⟩ := zy_pi h
          exact zy_4 rfl ⟨rfl, rfl⟩
    · replace h := zy_ifn h b20
      refine zy_3 rfl rfl (show zyR _ _ _ _ [some (.ref (0 + 3)), some (.int x1), some (.int x2), some (.int x3), some (.int x4), some (.int x5), none, none] [.int (-1 : Int32)] _ _ from ?_)
      obtain ⟨rfl, rfl⟩ := zy_pi h
      exact zy_4 rfl ⟨rfl, rfl⟩
