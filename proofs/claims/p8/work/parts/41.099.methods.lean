/-! PART 41.99: methods as functions. Made by wip/v4/dcp.py. -/
/-! NineOpinions$Law.worked(II)I -/
noncomputable def zyF70   (x1 : Int32) (x2 : Int32) (s : zy_S) : Option (Int32 × zy_S) :=
if x1 = (33 : Int32) then
if x2 ≠ 0 then
some ((0 : Int32), s)
else
some ((1 : Int32), s)
else
if x1 = (126 : Int32) then
some ((-x2), s)
else
(zyF67 s).bind fun p4 =>
(zyF71 p4.1 x1 x2 p4.2).bind fun p5 =>
some (p5.1, p5.2)
theorem zyC70 {X : zx_X}     {x1 : Int32} {x2 : Int32} {s : zy_S} {r : Int32} {s' : zy_S}  (h : zyF70 x1 x2 s = some (r, s')) : zyR X 2 70 0 [some (.ref (5 + 3)), some (.int x1), some (.int x2)] [] s (zyE (some (.int r)) s') := by
  unfold zyF70 at h
  refine zy_2 rfl rfl (show zyR _ _ _ _ [some (.ref (5 + 3)), some (.int x1), some (.int x2)] [.int x1] _ _ from ?_)
  refine zy_51 rfl (by decide) ?_
  refine zy_swp (fun b2 => (show zyR _ _ _ _ [some (.ref (5 + 3)), some (.int x1), some (.int x2)] [] _ _ from ?_)) (fun b2 => ?_)
  · replace h := zy_ifp h b2
    refine zy_2 rfl rfl (show zyR _ _ _ _ [some (.ref (5 + 3)), some (.int x1), some (.int x2)] [.int x2] _ _ from ?_)
    refine zy_24_1 rfl (fun b1 => (show zyR _ _ _ _ [some (.ref (5 + 3)), some (.int x1), some (.int x2)] [] _ _ from ?_)) (fun b1 => (show zyR _ _ _ _ [some (.ref (5 + 3)), some (.int x1), some (.int x2)] [] _ _ from ?_))
    · replace h := zy_ifp h b1
      refine zy_3 rfl rfl (show zyR _ _ _ _ [some (.ref (5 + 3)), some (.int x1), some (.int x2)] [.int (0 : Int32)] _ _ from ?_)
      obtain ⟨rfl, rfl⟩ := zy_pi h
      exact zy_4 rfl ⟨rfl, rfl⟩
    · replace h := zy_ifn h b1
      refine zy_3 rfl rfl (show zyR _ _ _ _ [some (.ref (5 + 3)), some (.int x1), some (.int x2)] [.int (1 : Int32)] _ _ from ?_)
      refine zy_6 rfl (show zyR _ _ _ _ [some (.ref (5 + 3)), some (.int x1), some (.int x2)] [.int (1 : Int32)] _ _ from ?_)
      obtain ⟨rfl, rfl⟩ := zy_pi h
      exact zy_4 rfl ⟨rfl, rfl⟩
  replace h := zy_ifn h b2
  refine zy_swp (fun b3 => (show zyR _ _ _ _ [some (.ref (5 + 3)), some (.int x1), some (.int x2)] [] _ _ from ?_)) (fun b3 => ?_)
  · replace h := zy_ifp h b3
    refine zy_2 rfl rfl (show zyR _ _ _ _ [some (.ref (5 + 3)), some (.int x1), some (.int x2)] [.int x2] _ _ from ?_)
    refine zy_21 rfl (show zyR _ _ _ _ [some (.ref (5 + 3)), some (.int x1), some (.int x2)] [.int (-x2)] _ _ from ?_)
    obtain ⟨rfl, rfl⟩ := zy_pi h
    exact zy_4 rfl ⟨rfl, rfl⟩
  replace h := zy_ifn h b3
  show zyR _ _ _ _ [some (.ref (5 + 3)), some (.int x1), some (.int x2)] [] _ _
  refine zy_0 rfl rfl (show zyR _ _ _ _ [some (.ref (5 + 3)), some (.int x1), some (.int x2)] [.ref (5 + 3)] _ _ from ?_)
  obtain ⟨p4, hp4, h⟩ := zy_bind h
  refine zy_5 (c := 5) (as := []) (rest := []) (L := [some (.ref (5 + 3))]) (d' := 1) rfl rfl rfl (Nat.le_of_ble_eq_true rfl) (Nat.le_of_ble_eq_true rfl) rfl (Nat.le_of_ble_eq_true rfl) rfl rfl (zyC67 hp4) ?_
  show zyR _ _ _ _ [some (.ref (5 + 3)), some (.int x1), some (.int x2)] [.int p4.1] _ _
  refine zy_2 rfl rfl (show zyR _ _ _ _ [some (.ref (5 + 3)), some (.int x1), some (.int x2)] [.int x1, .int p4.1] _ _ from ?_)
  refine zy_2 rfl rfl (show zyR _ _ _ _ [some (.ref (5 + 3)), some (.int x1), some (.int x2)] [.int x2, .int x1, .int p4.1] _ _ from ?_)
  obtain ⟨p5, hp5, h⟩ := zy_bind h
  refine zy_60 (as := [.int p4.1, .int x1, .int x2]) (rest := []) (L := [some (.int p4.1), some (.int x1), some (.int x2)]) (d' := 1) rfl rfl (Nat.le_of_ble_eq_true rfl) (Nat.le_of_ble_eq_true rfl) rfl (Nat.le_of_ble_eq_true rfl) rfl rfl (zyC71 hp5) ?_
  show zyR _ _ _ _ [some (.ref (5 + 3)), some (.int x1), some (.int x2)] [.int p5.1] _ _
  obtain ⟨rfl, rfl⟩ := zy_pi h
  exact zy_4 rfl ⟨rfl, rfl⟩
