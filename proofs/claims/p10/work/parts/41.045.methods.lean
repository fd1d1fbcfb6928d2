/-! PART 41.45: methods as functions. Made by wip/v4/dcp.py. -/
/-! NineOpinionsModel.board(I)I -/
noncomputable def zyF214   (x1 : Int32) (s : zy_S) : Option (Int32 × zy_S) :=
if x1 = (0 : Int32) then
some ((s.1 43 7), s)
else
if x1 = (1 : Int32) then
(zyF215 (0 : Int32) s).bind fun p2 =>
some (p2.1, p2.2)
else
if x1 = (2 : Int32) then
(zyF215 (1 : Int32) s).bind fun p4 =>
some (p4.1, p4.2)
else
if x1 = (3 : Int32) then
(zyF215 (1 : Int32) s).bind fun p6 =>
(zyF209 (p6.1 ^^^ (p6.2.1 43 7)) p6.2).bind fun p7 =>
some (p7.1, p7.2)
else
some ((-1 : Int32), s)
theorem zyC214 {X : zx_X}     {x1 : Int32} {s : zy_S} {r : Int32} {s' : zy_S}  (h : zyF214 x1 s = some (r, s')) : zyR X 107 214 0 [some (.ref (43 + 3)), some (.int x1)] [] s (zyE (some (.int r)) s') := by
  unfold zyF214 at h
  refine zy_2 rfl rfl (show zyR _ _ _ _ [some (.ref (43 + 3)), some (.int x1)] [.int x1] _ _ from ?_)
  refine zy_50 rfl (by decide) ?_
  refine zy_swp (fun b1 => (show zyR _ _ _ _ [some (.ref (43 + 3)), some (.int x1)] [] _ _ from ?_)) (fun b1 => ?_)
  · replace h := zy_ifp h b1
    refine zy_0 rfl rfl (show zyR _ _ _ _ [some (.ref (43 + 3)), some (.int x1)] [.ref (43 + 3)] _ _ from ?_)
    refine zy_1 (c := 43) rfl rfl rfl (show zyR _ _ _ _ [some (.ref (43 + 3)), some (.int x1)] [.int (s.1 43 7)] _ _ from ?_)
    obtain ⟨rfl, rfl⟩ := zy_pi h
    exact zy_4 rfl ⟨rfl, rfl⟩
  replace h := zy_ifn h b1
  refine zy_swp (fun b3 => (show zyR _ _ _ _ [some (.ref (43 + 3)), some (.int x1)] [] _ _ from ?_)) (fun b3 => ?_)
  · replace h := zy_ifp h b3
    refine zy_0 rfl rfl (show zyR _ _ _ _ [some (.ref (43 + 3)), some (.int x1)] [.ref (43 + 3)] _ _ from ?_)
    refine zy_3 rfl rfl (show zyR _ _ _ _ [some (.ref (43 + 3)), some (.int x1)] [.int (0 : Int32), .ref (43 + 3)] _ _ from ?_)
    obtain ⟨p2, hp2, h⟩ := zy_bind h
    refine zy_5 (c := 43) (as := [.int (0 : Int32)]) (rest := []) (L := [some (.ref (43 + 3)), some (.int (0 : Int32)), none, none, none, none, none, none, none]) (d' := 106) rfl rfl rfl (Nat.le_of_ble_eq_true rfl) (Nat.le_of_ble_eq_true rfl) rfl (Nat.le_of_ble_eq_true rfl) rfl rfl (zyC215 hp2) ?_
    show zyR _ _ _ _ [some (.ref (43 + 3)), some (.int x1)] [.int p2.1] _ _
    obtain ⟨rfl, rfl⟩ := zy_pi h
    exact zy_4 rfl ⟨rfl, rfl⟩
  replace h := zy_ifn h b3
  refine zy_swp (fun b5 => (show zyR _ _ _ _ [some (.ref (43 + 3)), some (.int x1)] [] _ _ from ?_)) (fun b5 => ?_)
  · replace h := zy_ifp h b5
    refine zy_0 rfl rfl (show zyR _ _ _ _ [some (.ref (43 + 3)), some (.int x1)] [.ref (43 + 3)] _ _ from ?_)
    refine zy_3 rfl rfl (show zyR _ _ _ _ [some (.ref (43 + 3)), some (.int x1)] [.int (1 : Int32), .ref (43 + 3)] _ _ from ?_)
    obtain ⟨p4, hp4, h⟩ := zy_bind h
    refine zy_5 (c := 43) (as := [.int (1 : Int32)]) (rest := []) (L := [some (.ref (43 + 3)), some (.int (1 : Int32)), none, none, none, none, none, none, none]) (d' := 106) rfl rfl rfl (Nat.le_of_ble_eq_true rfl) (Nat.le_of_ble_eq_true rfl) rfl (Nat.le_of_ble_eq_true rfl) rfl rfl (zyC215 hp4) ?_
    show zyR _ _ _ _ [some (.ref (43 + 3)), some (.int x1)] [.int p4.1] _ _
    obtain ⟨rfl, rfl⟩ := zy_pi h
    exact zy_4 rfl ⟨rfl, rfl⟩
  replace h := zy_ifn h b5
  refine zy_swp (fun b8 => (show zyR _ _ _ _ [some (.ref (43 + 3)), some (.int x1)] [] _ _ from ?_)) (fun b8 => ?_)
  · replace h := zy_ifp h b8
    refine zy_0 rfl rfl (show zyR _ _ _ _ [some (.ref (43 + 3)), some (.int x1)] [.ref (43 + 3)] _ _ from ?_)
    refine zy_3 rfl rfl (show zyR _ _ _ _ [some (.ref (43 + 3)), some (.int x1)] [.int (1 : Int32), .ref (43 + 3)] _ _ from ?_)
    obtain ⟨p6, hp6, h⟩ := zy_bind h
    refine zy_5 (c := 43) (as := [.int (1 : Int32)]) (rest := []) (L := [some (.ref (43 + 3)), some (.int (1 : Int32)), none, none, none, none, none, none, none]) (d' := 106) rfl rfl rfl (Nat.le_of_ble_eq_true rfl) (Nat.le_of_ble_eq_true rfl) rfl (Nat.le_of_ble_eq_true rfl) rfl rfl (zyC215 hp6) ?_
    show zyR _ _ _ _ [some (.ref (43 + 3)), some (.int x1)] [.int p6.1] _ _
    refine zy_0 rfl rfl (show zyR _ _ _ _ [some (.ref (43 + 3)), some (.int x1)] [.ref (43 + 3), .int p6.1] _ _ from ?_)
    refine zy_1 (c := 43) rfl rfl rfl (show zyR _ _ _ _ [some (.ref (43 + 3)), some (.int x1)] [.int (p6.2.1 43 7), .int p6.1] _ _ from ?_)
    refine zy_15 rfl (show zyR _ _ _ _ [some (.ref (43 + 3)), some (.int x1)] [.int (p6.1 ^^^ (p6.2.1 43 7))] _ _ from ?_)
    obtain ⟨p7, hp7, h⟩ := zy_bind h
    refine zy_60 (as := [.int (p6.1 ^^^ (p6.2.1 43 7))]) (rest := []) (L := [some (.int (p6.1 ^^^ (p6.2.1 43 7))), none, none]) (d' := 1) rfl rfl (Nat.le_of_ble_eq_true rfl) (Nat.le_of_ble_eq_true rfl) rfl (Nat.le_of_ble_eq_true rfl) rfl rfl (zyC209 hp7) ?_
    show zyR _ _ _ _ [some (.ref (43 + 3)), some (.int x1)] [.int p7.1] _ _
    obtain ⟨rfl, rfl⟩ := zy_pi h
    exact zy_4 rfl ⟨rfl, rfl⟩
  replace h := zy_ifn h b8
  show zyR _ _ _ _ [some (.ref (43 + 3)), some (.int x1)] [] _ _
  refine zy_3 rfl rfl (show zyR _ _ _ _ [some (.ref (43 + 3)), some (.int x1)] [.int (-1 : Int32)] _ _ from ?_)
  obtain ⟨rfl, rfl⟩ := zy_pi h
  exact zy_4 rfl ⟨rfl, rfl⟩
