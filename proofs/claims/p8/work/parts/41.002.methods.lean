/-! PART 41.02: methods as functions. Made by wip/v4/dcp.py. -/
/-! NineOpinions.comes(LNineOpinions$Shelf;I)Z -/
noncomputable def zyF22   (x1 : Nat) (x2 : Int32) (s : zy_S) : Option (Int32 × zy_S) :=
(zyF15 s).bind fun p1 =>
if p1.1 ≠ 0 then
some ((0 : Int32), p1.2)
else
(zyF23 x1 x2 (2 : Int32) p1.2).bind fun p2 =>
if p2.1 ≠ 0 then
if zy_in x2 60 then
if zy_in (x2 + (1 : Int32)) 60 then
(zyF14 (0 : Int32) ((p2.2.2.1 (x1 + 1) (x2).toNatClampNeg)).toInt32 p2.2).bind fun p5 =>
if p5.1 = 0 then
some ((0 : Int32), p5.2)
else
(zyF14 (1 : Int32) ((p2.2.2.1 (x1 + 1) ((x2 + (1 : Int32))).toNatClampNeg)).toInt32 p5.2).bind fun p6 =>
if p6.1 ≠ 0 then
(zyF16 ((p2.2.2.1 (x1 + 1) (x2).toNatClampNeg)).toInt32 ((p2.2.2.1 (x1 + 1) ((x2 + (1 : Int32))).toNatClampNeg)).toInt32 p6.2).bind fun p7 =>
some ((1 : Int32), p7.2)
else
some ((0 : Int32), p6.2)
else none
else none
else
some ((0 : Int32), p2.2)
theorem zyC22 {X : zx_X}     {x1 : Nat} {x2 : Int32} {s : zy_S} {r : Int32} {s' : zy_S} (hs_x1 : zy_isSh x1) (h : zyF22 x1 x2 s = some (r, s')) : zyR X 2 22 0 [some (.ref (0 + 3)), some (.ref (x1 + 3)), some (.int x2), none, none] [] s (zyE (some (.int r)) s') := by
  unfold zyF22 at h
  refine zy_0 rfl rfl (show zyR _ _ _ _ [some (.ref (0 + 3)), some (.ref (x1 + 3)), some (.int x2), none, none] [.ref (0 + 3)] _ _ from ?_)
  refine zy_1r (c := 0) rfl rfl rfl (show zyR _ _ _ _ [some (.ref (0 + 3)), some (.ref (x1 + 3)), some (.int x2), none, none] [.ref (1 + 3)] _ _ from ?_)
  obtain ⟨p1, hp1, h⟩ := zy_bind h
  refine zy_5 (c := 1) (as := []) (rest := []) (L := [some (.ref (1 + 3))]) (d' := 1) rfl rfl rfl (Nat.le_of_ble_eq_true rfl) (Nat.le_of_ble_eq_true rfl) rfl (Nat.le_of_ble_eq_true rfl) rfl rfl (zyC15 hp1) ?_
  show zyR _ _ _ _ [some (.ref (0 + 3)), some (.ref (x1 + 3)), some (.int x2), none, none] [.int p1.1] _ _
  refine zy_24_1 rfl (fun b11 => (show zyR _ _ _ _ [some (.ref (0 + 3)), some (.ref (x1 + 3)), some (.int x2), none, none] [] _ _ from ?_)) (fun b11 => (show zyR _ _ _ _ [some (.ref (0 + 3)), some (.ref (x1 + 3)), some (.int x2), none, none] [] _ _ from ?_))
  · replace h := zy_ifp h b11
    refine zy_3 rfl rfl (show zyR _ _ _ _ [some (.ref (0 + 3)), some (.ref (x1 + 3)), some (.int x2), none, none] [.int (0 : Int32)] _ _ from ?_)
    cases h
    exact zy_4b rfl ⟨rfl, rfl⟩ (Or.inl rfl)
  · replace h := zy_ifn h b11
    refine zy_0 rfl rfl (show zyR _ _ _ _ [some (.ref (0 + 3)), some (.ref (x1 + 3)), some (.int x2), none, none] [.ref (x1 + 3)] _ _ from ?_)
    refine zy_2 rfl rfl (show zyR _ _ _ _ [some (.ref (0 + 3)), some (.ref (x1 + 3)), some (.int x2), none, none] [.int x2, .ref (x1 + 3)] _ _ from ?_)
    refine zy_3 rfl rfl (show zyR _ _ _ _ [some (.ref (0 + 3)), some (.ref (x1 + 3)), some (.int x2), none, none] [.int (2 : Int32), .int x2, .ref (x1 + 3)] _ _ from ?_)
    obtain ⟨p2, hp2, h⟩ := zy_bind h
    refine zy_5 (c := x1) (as := [.int x2, .int (2 : Int32)]) (rest := []) (L := [some (.ref (x1 + 3)), some (.int x2), some (.int (2 : Int32))]) (d' := 1) rfl rfl hs_x1.1 (Nat.le_of_ble_eq_true rfl) (Nat.le_of_ble_eq_true rfl) rfl (Nat.le_of_ble_eq_true rfl) rfl rfl (zyC23 hs_x1 hp2) ?_
    show zyR _ _ _ _ [some (.ref (0 + 3)), some (.ref (x1 + 3)), some (.int x2), none, none] [.int p2.1] _ _
    refine zy_24_1 rfl (fun b10 => (show zyR _ _ _ _ [some (.ref (0 + 3)), some (.ref (x1 + 3)), some (.int x2), none, none] [] _ _ from ?_)) (fun b10 => (show zyR _ _ _ _ [some (.ref (0 + 3)), some (.ref (x1 + 3)), some (.int x2), none, none] [] _ _ from ?_))
    · replace h := zy_ifp h b10
      refine zy_0 rfl rfl (show zyR _ _ _ _ [some (.ref (0 + 3)), some (.ref (x1 + 3)), some (.int x2), none, none] [.ref (x1 + 3)] _ _ from ?_)
      refine zy_1r (c := x1) rfl hs_x1.1 rfl (show zyR _ _ _ _ [some (.ref (0 + 3)), some (.ref (x1 + 3)), some (.int x2), none, none] [.ref (x1 + 1 + 3)] _ _ from ?_)
      refine zy_2 rfl rfl (show zyR _ _ _ _ [some (.ref (0 + 3)), some (.ref (x1 + 3)), some (.int x2), none, none] [.int x2, .ref (x1 + 1 + 3)] _ _ from ?_)
      obtain ⟨c3, h⟩ := zy_if h
      refine zy_30 (c := (x1 + 1)) rfl hs_x1.2 c3 (show zyR _ _ _ _ [some (.ref (0 + 3)), some (.ref (x1 + 3)), some (.int x2), none, none] [.long (p2.2.2.1 (x1 + 1) (x2).toNatClampNeg)] _ _ from ?_)
      refine zy_41 rfl (show zyR _ _ _ _ [some (.ref (0 + 3)), some (.ref (x1 + 3)), some (.int x2), none, none] [.int ((p2.2.2.1 (x1 + 1) (x2).toNatClampNeg)).toInt32] _ _ from ?_)
      refine zy_23 rfl rfl (show zyR _ _ _ _ [some (.ref (0 + 3)), some (.ref (x1 + 3)), some (.int x2), some (.int ((p2.2.2.1 (x1 + 1) (x2).toNatClampNeg)).toInt32), none] [] _ _ from ?_)
      refine zy_0 rfl rfl (show zyR _ _ _ _ [some (.ref (0 + 3)), some (.ref (x1 + 3)), some (.int x2), some (.int ((p2.2.2.1 (x1 + 1) (x2).toNatClampNeg)).toInt32), none] [.ref (x1 + 3)] _ _ from ?_)
      refine zy_1r (c := x1) rfl hs_x1.1 rfl (show zyR _ _ _ _ [some (.ref (0 + 3)), some (.ref (x1 + 3)), some (.int x2), some (.int ((p2.2.2.1 (x1 + 1) (x2).toNatClampNeg)).toInt32), none] [.ref (x1 + 1 + 3)] _ _ from ?_)
      refine zy_2 rfl rfl (show zyR _ _ _ _ [some (.ref (0 + 3)), some (.ref (x1 + 3)), some (.int x2), some (.int ((p2.2.2.1 (x1 + 1) (x2).toNatClampNeg)).toInt32), none] [.int x2, .ref (x1 + 1 + 3)] _ _ from ?_)
      refine zy_3 rfl rfl (show zyR _ _ _ _ [some (.ref (0 + 3)), some (.ref (x1 + 3)), some (.int x2), some (.int ((p2.2.2.1 (x1 + 1) (x2).toNatClampNeg)).toInt32), none] [.int (1 : Int32), .int x2, .ref (x1 + 1 + 3)] _ _ from ?_)
      refine zy_10 rfl (show zyR _ _ _ _ [some (.ref (0 + 3)), some (.ref (x1 + 3)), some (.int x2), some (.int ((p2.2.2.1 (x1 + 1) (x2).toNatClampNeg)).toInt32), none] [.int (x2 + (1 : Int32)), .ref (x1 + 1 + 3)] _ _ from ?_)
      obtain ⟨c4, h⟩ := zy_if h
      refine zy_30 (c := (x1 + 1)) rfl hs_x1.2 c4 (show zyR _ _ _ _ [some (.ref (0 + 3)), some (.ref (x1 + 3)), some (.int x2), some (.int ((p2.2.2.1 (x1 + 1) (x2).toNatClampNeg)).toInt32), none] [.long (p2.2.2.1 (x1 + 1) ((x2 + (1 : Int32))).toNatClampNeg)] _ _ from ?_)
      refine zy_41 rfl (show zyR _ _ _ _ [some (.ref (0 + 3)), some (.ref (x1 + 3)), some (.int x2), some (.int ((p2.2.2.1 (x1 + 1) (x2).toNatClampNeg)).toInt32), none] [.int ((p2.2.2.1 (x1 + 1) ((x2 + (1 : Int32))).toNatClampNeg)).toInt32] _ _ from ?_)
      refine zy_23 rfl rfl (show zyR _ _ _ _ [some (.ref (0 + 3)), some (.ref (x1 + 3)), some (.int x2), some (.int ((p2.2.2.1 (x1 + 1) (x2).toNatClampNeg)).toInt32), some (.int ((p2.2.2.1 (x1 + 1) ((x2 + (1 : Int32))).toNatClampNeg)).toInt32)] [] _ _ from ?_)
      refine zy_0 rfl rfl (show zyR _ _ _ _ [some (.ref (0 + 3)), some (.ref (x1 + 3)), some (.int x2), some (.int ((p2.2.2.1 (x1 + 1) (x2).toNatClampNeg)).toInt32), some (.int ((p2.2.2.1 (x1 + 1) ((x2 + (1 : Int32))).toNatClampNeg)).toInt32)] [.ref (0 + 3)] _ _ from ?_)
      refine zy_1r (c := 0) rfl rfl rfl (show zyR _ _ _ _ [some (.ref (0 + 3)), some (.ref (x1 + 3)), some (.int x2), some (.int ((p2.2.2.1 (x1 + 1) (x2).toNatClampNeg)).toInt32), some (.int ((p2.2.2.1 (x1 + 1) ((x2 + (1 : Int32))).toNatClampNeg)).toInt32)] [.ref (1 + 3)] _ _ from ?_)
      refine zy_3 rfl rfl (show zyR _ _ _ _ [some (.ref (0 + 3)), some (.ref (x1 + 3)), some (.int x2), some (.int ((p2.2.2.1 (x1 + 1) (x2).toNatClampNeg)).toInt32), some (.int ((p2.2.2.1 (x1 + 1) ((x2 + (1 : Int32))).toNatClampNeg)).toInt32)] [.int (0 : Int32), .ref (1 + 3)] _ _ from ?_)
      refine zy_2 rfl rfl (show zyR _ _ _ _ [some (.ref (0 + 3)), some (.ref (x1 + 3)), some (.int x2), some (.int ((p2.2.2.1 (x1 + 1) (x2).toNatClampNeg)).toInt32), some (.int ((p2.2.2.1 (x1 + 1) ((x2 + (1 : Int32))).toNatClampNeg)).toInt32)] [.int ((p2.2.2.1 (x1 + 1) (x2).toNatClampNeg)).toInt32, .int (0 : Int32), .ref (1 + 3)] _ _ from ?_)
      obtain ⟨p5, hp5, h⟩ := zy_bind h
      refine zy_5 (c := 1) (as := [.int (0 : Int32), .int ((p2.2.2.1 (x1 + 1) (x2).toNatClampNeg)).toInt32]) (rest := []) (L := [some (.ref (1 + 3)), some (.int (0 : Int32)), some (.int ((p2.2.2.1 (x1 + 1) (x2).toNatClampNeg)).toInt32)]) (d' := 1) rfl rfl rfl (Nat.le_of_ble_eq_true rfl) (Nat.le_of_ble_eq_true rfl) rfl (Nat.le_of_ble_eq_true rfl) rfl rfl (zy_sub (show zy_le [none, some (.int (0 : Int32)), some (.int ((p2.2.2.1 (x1 + 1) (x2).toNatClampNeg)).toInt32)] [some (.ref (1 + 3)), some (.int (0 : Int32)), some (.int ((p2.2.2.1 (x1 + 1) (x2).toNatClampNeg)).toInt32)] from ⟨rfl, ⟨rfl, trivial⟩⟩) (zyC14 hp5)) ?_
      show zyR _ _ _ _ [some (.ref (0 + 3)), some (.ref (x1 + 3)), some (.int x2), some (.int ((p2.2.2.1 (x1 + 1) (x2).toNatClampNeg)).toInt32), some (.int ((p2.2.2.1 (x1 + 1) ((x2 + (1 : Int32))).toNatClampNeg)).toInt32)] [.int p5.1] _ _
      refine zy_24_0 rfl (fun b9 => (show zyR _ _ _ _ [some (.ref (0 + 3)), some (.ref (x1 + 3)), some (.int x2), some (.int ((p2.2.2.1 (x1 + 1) (x2).toNatClampNeg)).toInt32), some (.int ((p2.2.2.1 (x1 + 1) ((x2 + (1 : Int32))).toNatClampNeg)).toInt32)] [] _ _ from ?_)) (fun b9 => (show zyR _ _ _ _ [some (.ref (0 + 3)), some (.ref (x1 + 3)), some (.int x2), some (.int ((p2.2.2.1 (x1 + 1) (x2).toNatClampNeg)).toInt32), some (.int ((p2.2.2.1 (x1 + 1) ((x2 + (1 : Int32))).toNatClampNeg)).toInt32)] [] _ _ from ?_))
      · replace h := zy_ifp h b9
        refine zy_3 rfl rfl (show zyR _ _ _ _ [some (.ref (0 + 3)), some (.ref (x1 + 3)), some (.int x2), some (.int ((p2.2.2.1 (x1 + 1) (x2).toNatClampNeg)).toInt32), some (.int ((p2.2.2.1 (x1 + 1) ((x2 + (1 : Int32))).toNatClampNeg)).toInt32)] [.int (0 : Int32)] _ _ from ?_)
        cases h
        exact zy_4b rfl ⟨rfl, rfl⟩ (Or.inl rfl)
      · replace h := zy_ifn h b9
        refine zy_0 rfl rfl (show zyR _ _ _ _ [some (.ref (0 + 3)), some (.ref (x1 + 3)), some (.int x2), some (.int ((p2.2.2.1 (x1 + 1) (x2).toNatClampNeg)).toInt32), some (.int ((p2.2.2.1 (x1 + 1) ((x2 + (1 : Int32))).toNatClampNeg)).toInt32)] [.ref (0 + 3)] _ _ from ?_)
        refine zy_1r (c := 0) rfl rfl rfl (show zyR _ _ _ _ [some (.ref (0 + 3)), some (.ref (x1 + 3)), some (.int x2), some (.int ((p2.2.2.1 (x1 + 1) (x2).toNatClampNeg)).toInt32), some (.int ((p2.2.2.1 (x1 + 1) ((x2 + (1 : Int32))).toNatClampNeg)).toInt32)] [.ref (1 + 3)] _ _ from ?_)
        refine zy_3 rfl rfl (show zyR _ _ _ _ [some (.ref (0 + 3)), some (.ref (x1 + 3)), some (.int x2), some (.int ((p2.2.2.1 (x1 + 1) (x2).toNatClampNeg)).toInt32), some (.int ((p2.2.2.1 (x1 + 1) ((x2 + (1 : Int32))).toNatClampNeg)).toInt32)] [.int (1 : Int32), .ref (1 + 3)] _ _ from ?_)
        refine zy_2 rfl rfl (show zyR _ _ _ _ [some (.ref (0 + 3)), some (.ref (x1 + 3)), some (.int x2), some (.int ((p2.2.2.1 (x1 + 1) (x2).toNatClampNeg)).toInt32), some (.int ((p2.2.2.1 (x1 + 1) ((x2 + (1 : Int32))).toNatClampNeg)).toInt32)] [.int ((p2.2.2.1 (x1 + 1) ((x2 + (1 : Int32))).toNatClampNeg)).toInt32, .int (1 : Int32), .ref (1 + 3)] _ _ from ?_)
        obtain ⟨p6, hp6, h⟩ := zy_bind h
        refine zy_5 (c := 1) (as := [.int (1 : Int32), .int ((p2.2.2.1 (x1 + 1) ((x2 + (1 : Int32))).toNatClampNeg)).toInt32]) (rest := []) (L := [some (.ref (1 + 3)), some (.int (1 : Int32)), some (.int ((p2.2.2.1 (x1 + 1) ((x2 + (1 : Int32))).toNatClampNeg)).toInt32)]) (d' := 1) rfl rfl rfl (Nat.le_of_ble_eq_true rfl) (Nat.le_of_ble_eq_true rfl) rfl (Nat.le_of_ble_eq_true rfl) rfl rfl (zy_sub (show zy_le [none, some (.int (1 : Int32)), some (.int ((p2.2.2.1 (x1 + 1) ((x2 + (1 : Int32))).toNatClampNeg)).toInt32)] [some (.ref (1 + 3)), some (.int (1 : Int32)), some (.int ((p2.2.2.1 (x1 + 1) ((x2 + (1 : Int32))).toNatClampNeg)).toInt32)] from ⟨rfl, ⟨rfl, trivial⟩⟩) (zyC14 hp6)) ?_
        show zyR _ _ _ _ [some (.ref (0 + 3)), some (.ref (x1 + 3)), some (.int x2), some (.int ((p2.2.2.1 (x1 + 1) (x2).toNatClampNeg)).toInt32), some (.int ((p2.2.2.1 (x1 + 1) ((x2 + (1 : Int32))).toNatClampNeg)).toInt32)] [.int p6.1] _ _
        refine zy_24_1 rfl (fun b8 => (show zyR _ _ _ _ [some (.ref (0 + 3)), some (.ref (x1 + 3)), some (.int x2), some (.int ((p2.2.2.1 (x1 + 1) (x2).toNatClampNeg)).toInt32), some (.int ((p2.2.2.1 (x1 + 1) ((x2 + (1 : Int32))).toNatClampNeg)).toInt32)] [] _ _ from ?_)) (fun b8 => (show zyR _ _ _ _ [some (.ref (0 + 3)), some (.ref (x1 + 3)), some (.int x2), some (.int ((p2.2.2.1 (x1 + 1) (x2).toNatClampNeg)).toInt32), some (.int ((p2.2.2.1 (x1 + 1) ((x2 + (1 : Int32))).toNatClampNeg)).toInt32)] [] _ _ from ?_))
        · replace h := zy_ifp h b8
          refine zy_0 rfl rfl (show zyR _ _ _ _ [some (.ref (0 + 3)), some (.ref (x1 + 3)), some (.int x2), some (.int ((p2.2.2.1 (x1 + 1) (x2).toNatClampNeg)).toInt32), some (.int ((p2.2.2.1 (x1 + 1) ((x2 + (1 : Int32))).toNatClampNeg)).toInt32)] [.ref (0 + 3)] _ _ from ?_)
          refine zy_1r (c := 0) rfl rfl rfl (show zyR _ _ _ _ [some (.ref (0 + 3)), some (.ref (x1 + 3)), some (.int x2), some (.int ((p2.2.2.1 (x1 + 1) (x2).toNatClampNeg)).toInt32), some (.int ((p2.2.2.1 (x1 + 1) ((x2 + (1 : Int32))).toNatClampNeg)).toInt32)] [.ref (1 + 3)] _ _ from ?_)
          refine zy_2 rfl rfl (show zyR _ _ _ _ [some (.ref (0 + 3)), some (.ref (x1 + 3)), some (.int x2), some (.int ((p2.2.2.1 (x1 + 1) (x2).toNatClampNeg)).toInt32), some (.int ((p2.2.2.1 (x1 + 1) ((x2 + (1 : Int32))).toNatClampNeg)).toInt32)] [.int ((p2.2.2.1 (x1 + 1) (x2).toNatClampNeg)).toInt32, .ref (1 + 3)] _ _ from ?_)
          refine zy_2 rfl rfl (show zyR _ _ _ _ [some (.ref (0 + 3)), some (.ref (x1 + 3)), some (.int x2), some (.int ((p2.2.2.1 (x1 + 1) (x2).toNatClampNeg)).toInt32), some (.int ((p2.2.2.1 (x1 + 1) ((x2 + (1 : Int32))).toNatClampNeg)).toInt32)] [.int ((p2.2.2.1 (x1 + 1) ((x2 + (1 : Int32))).toNatClampNeg)).toInt32, .int ((p2.2.2.1 (x1 + 1) (x2).toNatClampNeg)).toInt32, .ref (1 + 3)] _ _ from ?_)
          obtain ⟨p7, hp7, h⟩ := zy_bind h
          refine zy_5 (c := 1) (as := [.int ((p2.2.2.1 (x1 + 1) (x2).toNatClampNeg)).toInt32, .int ((p2.2.2.1 (x1 + 1) ((x2 + (1 : Int32))).toNatClampNeg)).toInt32]) (rest := []) (L := [some (.ref (1 + 3)), some (.int ((p2.2.2.1 (x1 + 1) (x2).toNatClampNeg)).toInt32), some (.int ((p2.2.2.1 (x1 + 1) ((x2 + (1 : Int32))).toNatClampNeg)).toInt32), none]) (d' := 1) rfl rfl rfl (Nat.le_of_ble_eq_true rfl) (Nat.le_of_ble_eq_true rfl) rfl (Nat.le_of_ble_eq_true rfl) rfl rfl (zyC16 hp7) ?_
          show zyR _ _ _ _ [some (.ref (0 + 3)), some (.ref (x1 + 3)), some (.int x2), some (.int ((p2.2.2.1 (x1 + 1) (x2).toNatClampNeg)).toInt32), some (.int ((p2.2.2.1 (x1 + 1) ((x2 + (1 : Int32))).toNatClampNeg)).toInt32)] [.int p7.1] _ _
          refine zy_34 rfl rfl (show zyR _ _ _ _ [some (.ref (0 + 3)), some (.ref (x1 + 3)), some (.int x2), some (.int ((p2.2.2.1 (x1 + 1) (x2).toNatClampNeg)).toInt32), some (.int ((p2.2.2.1 (x1 + 1) ((x2 + (1 : Int32))).toNatClampNeg)).toInt32)] [] _ _ from ?_)
          refine zy_3 rfl rfl (show zyR _ _ _ _ [some (.ref (0 + 3)), some (.ref (x1 + 3)), some (.int x2), some (.int ((p2.2.2.1 (x1 + 1) (x2).toNatClampNeg)).toInt32), some (.int ((p2.2.2.1 (x1 + 1) ((x2 + (1 : Int32))).toNatClampNeg)).toInt32)] [.int (1 : Int32)] _ _ from ?_)
          cases h
          exact zy_4b rfl ⟨rfl, rfl⟩ (Or.inr rfl)
        · replace h := zy_ifn h b8
          refine zy_3 rfl rfl (show zyR _ _ _ _ [some (.ref (0 + 3)), some (.ref (x1 + 3)), some (.int x2), some (.int ((p2.2.2.1 (x1 + 1) (x2).toNatClampNeg)).toInt32), some (.int ((p2.2.2.1 (x1 + 1) ((x2 + (1 : Int32))).toNatClampNeg)).toInt32)] [.int (0 : Int32)] _ _ from ?_)
          cases h
          exact zy_4b rfl ⟨rfl, rfl⟩ (Or.inl rfl)
    · replace h := zy_ifn h b10
      refine zy_3 rfl rfl (show zyR _ _ _ _ [some (.ref (0 + 3)), some (.ref (x1 + 3)), some (.int x2), none, none] [.int (0 : Int32)] _ _ from ?_)
      cases h
      exact zy_4b rfl ⟨rfl, rfl⟩ (Or.inl rfl)
