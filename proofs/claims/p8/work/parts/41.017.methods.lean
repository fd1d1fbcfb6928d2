/-! PART 41.17: methods as functions. Made by wip/v4/dcp.py. -/
/-! NineOpinionsModel.isShelf(I)Z -/
noncomputable def zyF182   (x0 : Int32) (s : zy_S) : Option (Int32 × zy_S) :=
(zyF179 (x0).toInt64 (0 : Int64) (5 : Int64) s).bind fun p1 =>
if p1.1 = 0 ∨ p1.1 = 1 then
some (p1.1, p1.2)
else none
theorem zyC182 {X : zx_X}     {x0 : Int32} {s : zy_S} {r : Int32} {s' : zy_S}  (h : zyF182 x0 s = some (r, s')) : zyR X 2 182 0 [some (.int x0)] [] s (zyE (some (.int r)) s') := by
  unfold zyF182 at h
  refine zy_2 rfl rfl (show zyR _ _ _ _ [some (.int x0)] [.int x0] _ _ from ?_)
  refine zy_40 rfl (show zyR _ _ _ _ [some (.int x0)] [.long (x0).toInt64] _ _ from ?_)
  refine zy_36 rfl rfl (show zyR _ _ _ _ [some (.int x0)] [.long (0 : Int64), .long (x0).toInt64] _ _ from ?_)
  refine zy_36c rfl rfl (show zyR _ _ _ _ [some (.int x0)] [.long (5 : Int64), .long (0 : Int64), .long (x0).toInt64] _ _ from ?_)
  obtain ⟨p1, hp1, h⟩ := zy_bind h
  refine zy_60 (as := [.long (x0).toInt64, .long (0 : Int64), .long (5 : Int64)]) (rest := []) (L := [some (.long (x0).toInt64), none, some (.long (0 : Int64)), none, some (.long (5 : Int64)), none]) (d' := 1) rfl rfl (Nat.le_of_ble_eq_true rfl) (Nat.le_of_ble_eq_true rfl) rfl (Nat.le_of_ble_eq_true rfl) rfl rfl (zyC179 hp1) ?_
  show zyR _ _ _ _ [some (.int x0)] [.int p1.1] _ _
  obtain ⟨c2, h⟩ := zy_if h
  cases h
  exact zy_4b rfl ⟨rfl, rfl⟩ c2
