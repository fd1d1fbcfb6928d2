/-! PART 41.38: methods as functions. Made by wip/v4/dcp.py. -/
/-! NineOpinionsModel.bytesIs(I)I -/
noncomputable def zyF229   (x1 : Int32) (s : zy_S) : Option (Int32 × zy_S) :=
(zyF182 x1 s).bind fun p1 =>
if p1.1 ≠ 0 then
if zy_in x1 6 then
if 0 ≤ (p1.2.1 60 (x1).toNatClampNeg) then
if zy_in x1 6 then
if (p1.2.1 60 (x1).toNatClampNeg) ≠ (50 : Int32) then
some ((-12 : Int32), p1.2)
else
some ((1 : Int32), p1.2)
else none
else
some ((-11 : Int32), p1.2)
else none
else
some ((-1 : Int32), p1.2)
theorem zyC229 {X : zx_X}     {x1 : Int32} {s : zy_S} {r : Int32} {s' : zy_S}  (h : zyF229 x1 s = some (r, s')) : zyR X 3 229 0 [some (.ref (43 + 3)), some (.int x1)] [] s (zyE (some (.int r)) s') := by
  unfold zyF229 at h
  refine zy_2 rfl rfl (show zyR _ _ _ _ [some (.ref (43 + 3)), some (.int x1)] [.int x1] _ _ from ?_)
  obtain ⟨p1, hp1, h⟩ := zy_bind h
  refine zy_60 (as := [.int x1]) (rest := []) (L := [some (.int x1)]) (d' := 2) rfl rfl (Nat.le_of_ble_eq_true rfl) (Nat.le_of_ble_eq_true rfl) rfl (Nat.le_of_ble_eq_true rfl) rfl rfl (zyC182 hp1) ?_
  show zyR _ _ _ _ [some (.ref (43 + 3)), some (.int x1)] [.int p1.1] _ _
  refine zy_24_1 rfl (fun b6 => (show zyR _ _ _ _ [some (.ref (43 + 3)), some (.int x1)] [] _ _ from ?_)) (fun b6 => (show zyR _ _ _ _ [some (.ref (43 + 3)), some (.int x1)] [] _ _ from ?_))
  · replace h := zy_ifp h b6
    refine zy_0 rfl rfl (show zyR _ _ _ _ [some (.ref (43 + 3)), some (.int x1)] [.ref (43 + 3)] _ _ from ?_)
    refine zy_1r (c := 43) rfl rfl rfl (show zyR _ _ _ _ [some (.ref (43 + 3)), some (.int x1)] [.ref (60 + 3)] _ _ from ?_)
    refine zy_2 rfl rfl (show zyR _ _ _ _ [some (.ref (43 + 3)), some (.int x1)] [.int x1, .ref (60 + 3)] _ _ from ?_)
    obtain ⟨c2, h⟩ := zy_if h
    refine zy_26 (c := 60) rfl rfl c2 (show zyR _ _ _ _ [some (.ref (43 + 3)), some (.int x1)] [.int (p1.2.1 60 (x1).toNatClampNeg)] _ _ from ?_)
    refine zy_24_3 rfl (fun b5 => (show zyR _ _ _ _ [some (.ref (43 + 3)), some (.int x1)] [] _ _ from ?_)) (fun b5 => (show zyR _ _ _ _ [some (.ref (43 + 3)), some (.int x1)] [] _ _ from ?_))
    · replace h := zy_ifp h b5
      refine zy_0 rfl rfl (show zyR _ _ _ _ [some (.ref (43 + 3)), some (.int x1)] [.ref (43 + 3)] _ _ from ?_)
      refine zy_1r (c := 43) rfl rfl rfl (show zyR _ _ _ _ [some (.ref (43 + 3)), some (.int x1)] [.ref (60 + 3)] _ _ from ?_)
      refine zy_2 rfl rfl (show zyR _ _ _ _ [some (.ref (43 + 3)), some (.int x1)] [.int x1, .ref (60 + 3)] _ _ from ?_)
      obtain ⟨c3, h⟩ := zy_if h
      refine zy_26 (c := 60) rfl rfl c3 (show zyR _ _ _ _ [some (.ref (43 + 3)), some (.int x1)] [.int (p1.2.1 60 (x1).toNatClampNeg)] _ _ from ?_)
      refine zy_3 rfl rfl (show zyR _ _ _ _ [some (.ref (43 + 3)), some (.int x1)] [.int (50 : Int32), .int (p1.2.1 60 (x1).toNatClampNeg)] _ _ from ?_)
      refine zy_25_1 rfl (fun b4 => (show zyR _ _ _ _ [some (.ref (43 + 3)), some (.int x1)] [] _ _ from ?_)) (fun b4 => (show zyR _ _ _ _ [some (.ref (43 + 3)), some (.int x1)] [] _ _ from ?_))
      · replace h := zy_ifp h b4
        refine zy_3 rfl rfl (show zyR _ _ _ _ [some (.ref (43 + 3)), some (.int x1)] [.int (-12 : Int32)] _ _ from ?_)
        obtain ⟨rfl, rfl⟩ := zy_pi h
        exact zy_4 rfl ⟨rfl, rfl⟩
      · replace h := zy_ifn h b4
        refine zy_3 rfl rfl (show zyR _ _ _ _ [some (.ref (43 + 3)), some (.int x1)] [.int (1 : Int32)] _ _ from ?_)
        refine zy_6 rfl (show zyR _ _ _ _ [some (.ref (43 + 3)), some (.int x1)] [.int (1 : Int32)] _ _ from ?_)
        obtain ⟨rfl, rfl⟩ := zy_pi h
        exact zy_4 rfl ⟨rfl, rfl⟩
    · replace h := zy_ifn h b5
      refine zy_3 rfl rfl (show zyR _ _ _ _ [some (.ref (43 + 3)), some (.int x1)] [.int (-11 : Int32)] _ _ from ?_)
      refine zy_6 rfl (show zyR _ _ _ _ [some (.ref (43 + 3)), some (.int x1)] [.int (-11 : Int32)] _ _ from ?_)
      obtain ⟨rfl, rfl⟩ := zy_pi h
      exact zy_4 rfl ⟨rfl, rfl⟩
  · replace h := zy_ifn h b6
    refine zy_3 rfl rfl (show zyR _ _ _ _ [some (.ref (43 + 3)), some (.int x1)] [.int (-1 : Int32)] _ _ from ?_)
    refine zy_6 rfl (show zyR _ _ _ _ [some (.ref (43 + 3)), some (.int x1)] [.int (-1 : Int32)] _ _ from ?_)
    obtain ⟨rfl, rfl⟩ := zy_pi h
    exact zy_4 rfl ⟨rfl, rfl⟩
