/-! PART 41.49: methods as functions. Made by wip/v4/dcp.py. -/
/-! NineOpinionsModel.byTurns(II)I -/
noncomputable def zyF226_227  (k123 : Int32 → Int32 → Int32 → Int32 → Int32 → zy_S → Option (Int32 × zy_S)) (x3 : Int32) (x4 : Int32) (x5 : Int32) (x6 : Int32) (x7 : Int32) (s : zy_S) : Option (Int32 × zy_S) :=
k123 x3 x4 x5 x6 (x7 + (1 : Int32)) s
theorem zyC226_227 {X : zx_X}  {k123 : Int32 → Int32 → Int32 → Int32 → Int32 → zy_S → Option (Int32 × zy_S)}  (hk123 : ∀ (x3 : Int32) (x4 : Int32) (x5 : Int32) (x6 : Int32) (x7 : Int32) (s : zy_S) (r : Int32) (s' : zy_S), k123 x3 x4 x5 x6 x7 s = some (r, s') → zyR X 206 226 123 [some (.ref (43 + 3)), none, none, some (.int x3), some (.int x4), some (.int x5), some (.int x6), some (.int x7), none, none] [] s (zyE (some (.int r)) s')) {x3 : Int32} {x4 : Int32} {x5 : Int32} {x6 : Int32} {x7 : Int32} {s : zy_S} {r : Int32} {s' : zy_S}  (h : zyF226_227 k123 x3 x4 x5 x6 x7 s = some (r, s')) : zyR X 206 226 227 [some (.ref (43 + 3)), none, none, some (.int x3), some (.int x4), some (.int x5), some (.int x6), some (.int x7), none, none] [] s (zyE (some (.int r)) s') := by
  unfold zyF226_227 at h
  refine zy_22 rfl rfl rfl rfl (show zyR _ _ _ _ [some (.ref (43 + 3)), none, none, some (.int x3), some (.int x4), some (.int x5), some (.int x6), some (.int (x7 + (1 : Int32))), none, none] [] _ _ from ?_)
  refine zy_6 rfl (show zyR _ _ _ _ [some (.ref (43 + 3)), none, none, some (.int x3), some (.int x4), some (.int x5), some (.int x6), some (.int (x7 + (1 : Int32))), none, none] [] _ _ from ?_)
  exact zy_sub (show zy_le [some (.ref (43 + 3)), none, none, some (.int x3), some (.int x4), some (.int x5), some (.int x6), some (.int (x7 + (1 : Int32))), none, none] [some (.ref (43 + 3)), none, none, some (.int x3), some (.int x4), some (.int x5), some (.int x6), some (.int (x7 + (1 : Int32))), none, none] from ⟨rfl, ⟨rfl, ⟨rfl, ⟨rfl, ⟨rfl, ⟨rfl, trivial⟩⟩⟩⟩⟩⟩) (hk123 x3 x4 x5 x6 (x7 + (1 : Int32)) s _ _ h)
noncomputable def zyF226_186  (k123 : Int32 → Int32 → Int32 → Int32 → Int32 → zy_S → Option (Int32 × zy_S)) (x3 : Int32) (x4 : Int32) (x5 : Int32) (x6 : Int32) (x7 : Int32) (x8 : Int32) (y0 : Int32) (y1 : Int32) (s : zy_S) : Option (Int32 × zy_S) :=
if zy_in y1 24 then
(zyF227 x3 x4 (1 : Int32) x5 ((s.1 43 7) ^^^ ((1 : Int32) <<< (x7 &&& 31))) (zy_up s 51 (y1).toNatClampNeg y0)).bind fun p2 =>
if zy_in x7 24 then
if p2.1 ≠ x6 then
zyF226_227 k123 x3 x4 x5 x6 x7 (zy_up p2.2 51 (x7).toNatClampNeg x8)
else
some (x7, (zy_up p2.2 51 (x7).toNatClampNeg x8))
else none
else none
theorem zyC226_186 {X : zx_X}  {k123 : Int32 → Int32 → Int32 → Int32 → Int32 → zy_S → Option (Int32 × zy_S)}  (hk123 : ∀ (x3 : Int32) (x4 : Int32) (x5 : Int32) (x6 : Int32) (x7 : Int32) (s : zy_S) (r : Int32) (s' : zy_S), k123 x3 x4 x5 x6 x7 s = some (r, s') → zyR X 206 226 123 [some (.ref (43 + 3)), none, none, some (.int x3), some (.int x4), some (.int x5), some (.int x6), some (.int x7), none, none] [] s (zyE (some (.int r)) s')) {x3 : Int32} {x4 : Int32} {x5 : Int32} {x6 : Int32} {x7 : Int32} {x8 : Int32} {y0 : Int32} {y1 : Int32} {s : zy_S} {r : Int32} {s' : zy_S}  (h : zyF226_186 k123 x3 x4 x5 x6 x7 x8 y0 y1 s = some (r, s')) : zyR X 206 226 186 [some (.ref (43 + 3)), none, none, some (.int x3), some (.int x4), some (.int x5), some (.int x6), some (.int x7), some (.int x8), none] [.int y0, .int y1, .ref (51 + 3)] s (zyE (some (.int r)) s') := by
  unfold zyF226_186 at h
  obtain ⟨c1, h⟩ := zy_if h
  refine zy_27 (c := 51) rfl rfl c1 (show zyR _ _ _ _ [some (.ref (43 + 3)), none, none, some (.int x3), some (.int x4), some (.int x5), some (.int x6), some (.int x7), some (.int x8), none] [] _ _ from ?_)
  refine zy_0 rfl rfl (show zyR _ _ _ _ [some (.ref (43 + 3)), none, none, some (.int x3), some (.int x4), some (.int x5), some (.int x6), some (.int x7), some (.int x8), none] [.ref (43 + 3)] _ _ from ?_)
  refine zy_2 rfl rfl (show zyR _ _ _ _ [some (.ref (43 + 3)), none, none, some (.int x3), some (.int x4), some (.int x5), some (.int x6), some (.int x7), some (.int x8), none] [.int x3, .ref (43 + 3)] _ _ from ?_)
  refine zy_2 rfl rfl (show zyR _ _ _ _ [some (.ref (43 + 3)), none, none, some (.int x3), some (.int x4), some (.int x5), some (.int x6), some (.int x7), some (.int x8), none] [.int x4, .int x3, .ref (43 + 3)] _ _ from ?_)
  refine zy_3 rfl rfl (show zyR _ _ _ _ [some (.ref (43 + 3)), none, none, some (.int x3), some (.int x4), some (.int x5), some (.int x6), some (.int x7), some (.int x8), none] [.int (1 : Int32), .int x4, .int x3, .ref (43 + 3)] _ _ from ?_)
  refine zy_2 rfl rfl (show zyR _ _ _ _ [some (.ref (43 + 3)), none, none, some (.int x3), some (.int x4), some (.int x5), some (.int x6), some (.int x7), some (.int x8), none] [.int x5, .int (1 : Int32), .int x4, .int x3, .ref (43 + 3)] _ _ from ?_)
  refine zy_0 rfl rfl (show zyR _ _ _ _ [some (.ref (43 + 3)), none, none, some (.int x3), some (.int x4), some (.int x5), some (.int x6), some (.int x7), some (.int x8), none] [.ref (43 + 3), .int x5, .int (1 : Int32), .int x4, .int x3, .ref (43 + 3)] _ _ from ?_)
  refine zy_1 (c := 43) rfl rfl rfl (show zyR _ _ _ _ [some (.ref (43 + 3)), none, none, some (.int x3), some (.int x4), some (.int x5), some (.int x6), some (.int x7), some (.int x8), none] [.int (s.1 43 7), .int x5, .int (1 : Int32), .int x4, .int x3, .ref (43 + 3)] _ _ from ?_)
  refine zy_3 rfl rfl (show zyR _ _ _ _ [some (.ref (43 + 3)), none, none, some (.int x3), some (.int x4), some (.int x5), some (.int x6), some (.int x7), some (.int x8), none] [.int (1 : Int32), .int (s.1 43 7), .int x5, .int (1 : Int32), .int x4, .int x3, .ref (43 + 3)] _ _ from ?_)
  refine zy_2 rfl rfl (show zyR _ _ _ _ [some (.ref (43 + 3)), none, none, some (.int x3), some (.int x4), some (.int x5), some (.int x6), some (.int x7), some (.int x8), none] [.int x7, .int (1 : Int32), .int (s.1 43 7), .int x5, .int (1 : Int32), .int x4, .int x3, .ref (43 + 3)] _ _ from ?_)
  refine zy_16 rfl (show zyR _ _ _ _ [some (.ref (43 + 3)), none, none, some (.int x3), some (.int x4), some (.int x5), some (.int x6), some (.int x7), some (.int x8), none] [.int ((1 : Int32) <<< (x7 &&& 31)), .int (s.1 43 7), .int x5, .int (1 : Int32), .int x4, .int x3, .ref (43 + 3)] _ _ from ?_)
  refine zy_15 rfl (show zyR _ _ _ _ [some (.ref (43 + 3)), none, none, some (.int x3), some (.int x4), some (.int x5), some (.int x6), some (.int x7), some (.int x8), none] [.int ((s.1 43 7) ^^^ ((1 : Int32) <<< (x7 &&& 31))), .int x5, .int (1 : Int32), .int x4, .int x3, .ref (43 + 3)] _ _ from ?_)
  obtain ⟨p2, hp2, h⟩ := zy_bind h
  refine zy_5 (c := 43) (as := [.int x3, .int x4, .int (1 : Int32), .int x5, .int ((s.1 43 7) ^^^ ((1 : Int32) <<< (x7 &&& 31)))]) (rest := []) (L := [some (.ref (43 + 3)), some (.int x3), some (.int x4), some (.int (1 : Int32)), some (.int x5), some (.int ((s.1 43 7) ^^^ ((1 : Int32) <<< (x7 &&& 31)))), none, none, none, none]) (d' := 205) rfl rfl rfl (Nat.le_of_ble_eq_true rfl) (Nat.le_of_ble_eq_true rfl) rfl (Nat.le_of_ble_eq_true rfl) rfl rfl (zyC227 hp2) ?_
  show zyR _ _ _ _ [some (.ref (43 + 3)), none, none, some (.int x3), some (.int x4), some (.int x5), some (.int x6), some (.int x7), some (.int x8), none] [.int p2.1] _ _
  refine zy_23 rfl rfl (show zyR _ _ _ _ [some (.ref (43 + 3)), none, none, some (.int x3), some (.int x4), some (.int x5), some (.int x6), some (.int x7), some (.int x8), some (.int p2.1)] [] _ _ from ?_)
  refine zy_0 rfl rfl (show zyR _ _ _ _ [some (.ref (43 + 3)), none, none, some (.int x3), some (.int x4), some (.int x5), some (.int x6), some (.int x7), some (.int x8), some (.int p2.1)] [.ref (43 + 3)] _ _ from ?_)
  refine zy_1r (c := 43) rfl rfl rfl (show zyR _ _ _ _ [some (.ref (43 + 3)), none, none, some (.int x3), some (.int x4), some (.int x5), some (.int x6), some (.int x7), some (.int x8), some (.int p2.1)] [.ref (51 + 3)] _ _ from ?_)
  refine zy_2 rfl rfl (show zyR _ _ _ _ [some (.ref (43 + 3)), none, none, some (.int x3), some (.int x4), some (.int x5), some (.int x6), some (.int x7), some (.int x8), some (.int p2.1)] [.int x7, .ref (51 + 3)] _ _ from ?_)
  refine zy_2 rfl rfl (show zyR _ _ _ _ [some (.ref (43 + 3)), none, none, some (.int x3), some (.int x4), some (.int x5), some (.int x6), some (.int x7), some (.int x8), some (.int p2.1)] [.int x8, .int x7, .ref (51 + 3)] _ _ from ?_)
  obtain ⟨c3, h⟩ := zy_if h
  refine zy_27 (c := 51) rfl rfl c3 (show zyR _ _ _ _ [some (.ref (43 + 3)), none, none, some (.int x3), some (.int x4), some (.int x5), some (.int x6), some (.int x7), some (.int x8), some (.int p2.1)] [] _ _ from ?_)
  refine zy_2 rfl rfl (show zyR _ _ _ _ [some (.ref (43 + 3)), none, none, some (.int x3), some (.int x4), some (.int x5), some (.int x6), some (.int x7), some (.int x8), some (.int p2.1)] [.int p2.1] _ _ from ?_)
  refine zy_2 rfl rfl (show zyR _ _ _ _ [some (.ref (43 + 3)), none, none, some (.int x3), some (.int x4), some (.int x5), some (.int x6), some (.int x7), some (.int x8), some (.int p2.1)] [.int x6, .int p2.1] _ _ from ?_)
  refine zy_25_1 rfl (fun b4 => (show zyR _ _ _ _ [some (.ref (43 + 3)), none, none, some (.int x3), some (.int x4), some (.int x5), some (.int x6), some (.int x7), some (.int x8), some (.int p2.1)] [] _ _ from ?_)) (fun b4 => (show zyR _ _ _ _ [some (.ref (43 + 3)), none, none, some (.int x3), some (.int x4), some (.int x5), some (.int x6), some (.int x7), some (.int x8), some (.int p2.1)] [] _ _ from ?_))
  · replace h := zy_ifp h b4
    exact zy_sub (show zy_le [some (.ref (43 + 3)), none, none, some (.int x3), some (.int x4), some (.int x5), some (.int x6), some (.int x7), none, none] [some (.ref (43 + 3)), none, none, some (.int x3), some (.int x4), some (.int x5), some (.int x6), some (.int x7), some (.int x8), some (.int p2.1)] from ⟨rfl, ⟨rfl, ⟨rfl, ⟨rfl, ⟨rfl, ⟨rfl, trivial⟩⟩⟩⟩⟩⟩) (zyC226_227 hk123 h)
  · replace h := zy_ifn h b4
    refine zy_2 rfl rfl (show zyR _ _ _ _ [some (.ref (43 + 3)), none, none, some (.int x3), some (.int x4), some (.int x5), some (.int x6), some (.int x7), some (.int x8), some (.int p2.1)] [.int x7] _ _ from ?_)
    obtain ⟨rfl, rfl⟩ := zy_pi h
    exact zy_4 rfl ⟨rfl, rfl⟩
noncomputable def zyF226_153  (k123 : Int32 → Int32 → Int32 → Int32 → Int32 → zy_S → Option (Int32 × zy_S)) (x3 : Int32) (x4 : Int32) (x5 : Int32) (x6 : Int32) (x7 : Int32) (s : zy_S) : Option (Int32 × zy_S) :=
if zy_in x7 24 then
(zyF208 (s.1 43 7) x7 s).bind fun p6 =>
if p6.1 = 0 then
zyF226_186 k123 x3 x4 x5 x6 x7 (s.1 51 (x7).toNatClampNeg) (0 : Int32) x7 p6.2
else
zyF226_186 k123 x3 x4 x5 x6 x7 (s.1 51 (x7).toNatClampNeg) (s.1 51 (x7).toNatClampNeg) x7 p6.2
else none
theorem zyC226_153 {X : zx_X}  {k123 : Int32 → Int32 → Int32 → Int32 → Int32 → zy_S → Option (Int32 × zy_S)}  (hk123 : ∀ (x3 : Int32) (x4 : Int32) (x5 : Int32) (x6 : Int32) (x7 : Int32) (s : zy_S) (r : Int32) (s' : zy_S), k123 x3 x4 x5 x6 x7 s = some (r, s') → zyR X 206 226 123 [some (.ref (43 + 3)), none, none, some (.int x3), some (.int x4), some (.int x5), some (.int x6), some (.int x7), none, none] [] s (zyE (some (.int r)) s')) {x3 : Int32} {x4 : Int32} {x5 : Int32} {x6 : Int32} {x7 : Int32} {s : zy_S} {r : Int32} {s' : zy_S}  (h : zyF226_153 k123 x3 x4 x5 x6 x7 s = some (r, s')) : zyR X 206 226 153 [some (.ref (43 + 3)), none, none, some (.int x3), some (.int x4), some (.int x5), some (.int x6), some (.int x7), none, none] [] s (zyE (some (.int r)) s') := by
  unfold zyF226_153 at h
  refine zy_0 rfl rfl (show zyR _ _ _ _ [some (.ref (43 + 3)), none, none, some (.int x3), some (.int x4), some (.int x5), some (.int x6), some (.int x7), none, none] [.ref (43 + 3)] _ _ from ?_)
  refine zy_1r (c := 43) rfl rfl rfl (show zyR _ _ _ _ [some (.ref (43 + 3)), none, none, some (.int x3), some (.int x4), some (.int x5), some (.int x6), some (.int x7), none, none] [.ref (51 + 3)] _ _ from ?_)
  refine zy_2 rfl rfl (show zyR _ _ _ _ [some (.ref (43 + 3)), none, none, some (.int x3), some (.int x4), some (.int x5), some (.int x6), some (.int x7), none, none] [.int x7, .ref (51 + 3)] _ _ from ?_)
  obtain ⟨c5, h⟩ := zy_if h
  refine zy_26 (c := 51) rfl rfl c5 (show zyR _ _ _ _ [some (.ref (43 + 3)), none, none, some (.int x3), some (.int x4), some (.int x5), some (.int x6), some (.int x7), none, none] [.int (s.1 51 (x7).toNatClampNeg)] _ _ from ?_)
  refine zy_23 rfl rfl (show zyR _ _ _ _ [some (.ref (43 + 3)), none, none, some (.int x3), some (.int x4), some (.int x5), some (.int x6), some (.int x7), some (.int (s.1 51 (x7).toNatClampNeg)), none] [] _ _ from ?_)
  refine zy_0 rfl rfl (show zyR _ _ _ _ [some (.ref (43 + 3)), none, none, some (.int x3), some (.int x4), some (.int x5), some (.int x6), some (.int x7), some (.int (s.1 51 (x7).toNatClampNeg)), none] [.ref (43 + 3)] _ _ from ?_)
  refine zy_1r (c := 43) rfl rfl rfl (show zyR _ _ _ _ [some (.ref (43 + 3)), none, none, some (.int x3), some (.int x4), some (.int x5), some (.int x6), some (.int x7), some (.int (s.1 51 (x7).toNatClampNeg)), none] [.ref (51 + 3)] _ _ from ?_)
  refine zy_2 rfl rfl (show zyR _ _ _ _ [some (.ref (43 + 3)), none, none, some (.int x3), some (.int x4), some (.int x5), some (.int x6), some (.int x7), some (.int (s.1 51 (x7).toNatClampNeg)), none] [.int x7, .ref (51 + 3)] _ _ from ?_)
  refine zy_0 rfl rfl (show zyR _ _ _ _ [some (.ref (43 + 3)), none, none, some (.int x3), some (.int x4), some (.int x5), some (.int x6), some (.int x7), some (.int (s.1 51 (x7).toNatClampNeg)), none] [.ref (43 + 3), .int x7, .ref (51 + 3)] _ _ from ?_)
  refine zy_1 (c := 43) rfl rfl rfl (show zyR _ _ _ _ [some (.ref (43 + 3)), none, none, some (.int x3), some (.int x4), some (.int x5), some (.int x6), some (.int x7), some (.int (s.1 51 (x7).toNatClampNeg)), none] [.int (s.1 43 7), .int x7, .ref (51 + 3)] _ _ from ?_)
  refine zy_2 rfl rfl (show zyR _ _ _ _ [some (.ref (43 + 3)), none, none, some (.int x3), some (.int x4), some (.int x5), some (.int x6), some (.int x7), some (.int (s.1 51 (x7).toNatClampNeg)), none] [.int x7, .int (s.1 43 7), .int x7, .ref (51 + 3)] _ _ from ?_)
  obtain ⟨p6, hp6, h⟩ := zy_bind h
  refine zy_60 (as := [.int (s.1 43 7), .int x7]) (rest := [.int x7, .ref (51 + 3)]) (L := [some (.int (s.1 43 7)), some (.int x7)]) (d' := 1) rfl rfl (Nat.le_of_ble_eq_true rfl) (Nat.le_of_ble_eq_true rfl) rfl (Nat.le_of_ble_eq_true rfl) rfl rfl (zyC208 hp6) ?_
  show zyR _ _ _ _ [some (.ref (43 + 3)), none, none, some (.int x3), some (.int x4), some (.int x5), some (.int x6), some (.int x7), some (.int (s.1 51 (x7).toNatClampNeg)), none] [.int p6.1, .int x7, .ref (51 + 3)] _ _
  refine zy_24_0 rfl (fun b7 => (show zyR _ _ _ _ [some (.ref (43 + 3)), none, none, some (.int x3), some (.int x4), some (.int x5), some (.int x6), some (.int x7), some (.int (s.1 51 (x7).toNatClampNeg)), none] [.int x7, .ref (51 + 3)] _ _ from ?_)) (fun b7 => (show zyR _ _ _ _ [some (.ref (43 + 3)), none, none, some (.int x3), some (.int x4), some (.int x5), some (.int x6), some (.int x7), some (.int (s.1 51 (x7).toNatClampNeg)), none] [.int x7, .ref (51 + 3)] _ _ from ?_))
  · replace h := zy_ifp h b7
    refine zy_3 rfl rfl (show zyR _ _ _ _ [some (.ref (43 + 3)), none, none, some (.int x3), some (.int x4), some (.int x5), some (.int x6), some (.int x7), some (.int (s.1 51 (x7).toNatClampNeg)), none] [.int (0 : Int32), .int x7, .ref (51 + 3)] _ _ from ?_)
    exact zy_sub (show zy_le [some (.ref (43 + 3)), none, none, some (.int x3), some (.int x4), some (.int x5), some (.int x6), some (.int x7), some (.int (s.1 51 (x7).toNatClampNeg)), none] [some (.ref (43 + 3)), none, none, some (.int x3), some (.int x4), some (.int x5), some (.int x6), some (.int x7), some (.int (s.1 51 (x7).toNatClampNeg)), none] from ⟨rfl, ⟨rfl, ⟨rfl, ⟨rfl, ⟨rfl, ⟨rfl, ⟨rfl, trivial⟩⟩⟩⟩⟩⟩⟩) (zyC226_186 hk123 h)
  · replace h := zy_ifn h b7
    refine zy_2 rfl rfl (show zyR _ _ _ _ [some (.ref (43 + 3)), none, none, some (.int x3), some (.int x4), some (.int x5), some (.int x6), some (.int x7), some (.int (s.1 51 (x7).toNatClampNeg)), none] [.int (s.1 51 (x7).toNatClampNeg), .int x7, .ref (51 + 3)] _ _ from ?_)
    refine zy_6 rfl (show zyR _ _ _ _ [some (.ref (43 + 3)), none, none, some (.int x3), some (.int x4), some (.int x5), some (.int x6), some (.int x7), some (.int (s.1 51 (x7).toNatClampNeg)), none] [.int (s.1 51 (x7).toNatClampNeg), .int x7, .ref (51 + 3)] _ _ from ?_)
    exact zy_sub (show zy_le [some (.ref (43 + 3)), none, none, some (.int x3), some (.int x4), some (.int x5), some (.int x6), some (.int x7), some (.int (s.1 51 (x7).toNatClampNeg)), none] [some (.ref (43 + 3)), none, none, some (.int x3), some (.int x4), some (.int x5), some (.int x6), some (.int x7), some (.int (s.1 51 (x7).toNatClampNeg)), none] from ⟨rfl, ⟨rfl, ⟨rfl, ⟨rfl, ⟨rfl, ⟨rfl, ⟨rfl, trivial⟩⟩⟩⟩⟩⟩⟩) (zyC226_186 hk123 h)
noncomputable def zyF226_123b  (k123 : Int32 → Int32 → Int32 → Int32 → Int32 → zy_S → Option (Int32 × zy_S)) (x3 : Int32) (x4 : Int32) (x5 : Int32) (x6 : Int32) (x7 : Int32) (s : zy_S) : Option (Int32 × zy_S) :=
if (24 : Int32) ≤ x7 then
some ((24 : Int32), s)
else
(zyF208 (s.1 43 7) x7 s).bind fun p8 =>
if p8.1 ≠ 0 then
zyF226_153 k123 x3 x4 x5 x6 x7 p8.2
else
(zyF219 (p8.2.1 43 7) p8.2).bind fun p9 =>
if p9.1 = 0 then
zyF226_227 k123 x3 x4 x5 x6 x7 p9.2
else
zyF226_153 k123 x3 x4 x5 x6 x7 p9.2
theorem zyC226_123b {X : zx_X}  {k123 : Int32 → Int32 → Int32 → Int32 → Int32 → zy_S → Option (Int32 × zy_S)}  (hk123 : ∀ (x3 : Int32) (x4 : Int32) (x5 : Int32) (x6 : Int32) (x7 : Int32) (s : zy_S) (r : Int32) (s' : zy_S), k123 x3 x4 x5 x6 x7 s = some (r, s') → zyR X 206 226 123 [some (.ref (43 + 3)), none, none, some (.int x3), some (.int x4), some (.int x5), some (.int x6), some (.int x7), none, none] [] s (zyE (some (.int r)) s')) {x3 : Int32} {x4 : Int32} {x5 : Int32} {x6 : Int32} {x7 : Int32} {s : zy_S} {r : Int32} {s' : zy_S}  (h : zyF226_123b k123 x3 x4 x5 x6 x7 s = some (r, s')) : zyR X 206 226 123 [some (.ref (43 + 3)), none, none, some (.int x3), some (.int x4), some (.int x5), some (.int x6), some (.int x7), none, none] [] s (zyE (some (.int r)) s') := by
  unfold zyF226_123b at h
  refine zy_2 rfl rfl (show zyR _ _ _ _ [some (.ref (43 + 3)), none, none, some (.int x3), some (.int x4), some (.int x5), some (.int x6), some (.int x7), none, none] [.int x7] _ _ from ?_)
  refine zy_3 rfl rfl (show zyR _ _ _ _ [some (.ref (43 + 3)), none, none, some (.int x3), some (.int x4), some (.int x5), some (.int x6), some (.int x7), none, none] [.int (24 : Int32), .int x7] _ _ from ?_)
  refine zy_25_3 rfl (fun b12 => (show zyR _ _ _ _ [some (.ref (43 + 3)), none, none, some (.int x3), some (.int x4), some (.int x5), some (.int x6), some (.int x7), none, none] [] _ _ from ?_)) (fun b12 => (show zyR _ _ _ _ [some (.ref (43 + 3)), none, none, some (.int x3), some (.int x4), some (.int x5), some (.int x6), some (.int x7), none, none] [] _ _ from ?_))
  · replace h := zy_ifp h b12
    refine zy_3 rfl rfl (show zyR _ _ _ _ [some (.ref (43 + 3)), none, none, some (.int x3), some (.int x4), some (.int x5), some (.int x6), some (.int x7), none, none] [.int (24 : Int32)] _ _ from ?_)
    obtain ⟨rfl, rfl⟩ := zy_pi h
    exact zy_4 rfl ⟨rfl, rfl⟩
  · replace h := zy_ifn h b12
    refine zy_0 rfl rfl (show zyR _ _ _ _ [some (.ref (43 + 3)), none, none, some (.int x3), some (.int x4), some (.int x5), some (.int x6), some (.int x7), none, none] [.ref (43 + 3)] _ _ from ?_)
    refine zy_1 (c := 43) rfl rfl rfl (show zyR _ _ _ _ [some (.ref (43 + 3)), none, none, some (.int x3), some (.int x4), some (.int x5), some (.int x6), some (.int x7), none, none] [.int (s.1 43 7)] _ _ from ?_)
    refine zy_2 rfl rfl (show zyR _ _ _ _ [some (.ref (43 + 3)), none, none, some (.int x3), some (.int x4), some (.int x5), some (.int x6), some (.int x7), none, none] [.int x7, .int (s.1 43 7)] _ _ from ?_)
    obtain ⟨p8, hp8, h⟩ := zy_bind h
    refine zy_60 (as := [.int (s.1 43 7), .int x7]) (rest := []) (L := [some (.int (s.1 43 7)), some (.int x7)]) (d' := 1) rfl rfl (Nat.le_of_ble_eq_true rfl) (Nat.le_of_ble_eq_true rfl) rfl (Nat.le_of_ble_eq_true rfl) rfl rfl (zyC208 hp8) ?_
    show zyR _ _ _ _ [some (.ref (43 + 3)), none, none, some (.int x3), some (.int x4), some (.int x5), some (.int x6), some (.int x7), none, none] [.int p8.1] _ _
    refine zy_24_1 rfl (fun b11 => (show zyR _ _ _ _ [some (.ref (43 + 3)), none, none, some (.int x3), some (.int x4), some (.int x5), some (.int x6), some (.int x7), none, none] [] _ _ from ?_)) (fun b11 => (show zyR _ _ _ _ [some (.ref (43 + 3)), none, none, some (.int x3), some (.int x4), some (.int x5), some (.int x6), some (.int x7), none, none] [] _ _ from ?_))
    · replace h := zy_ifp h b11
      exact zy_sub (show zy_le [some (.ref (43 + 3)), none, none, some (.int x3), some (.int x4), some (.int x5), some (.int x6), some (.int x7), none, none] [some (.ref (43 + 3)), none, none, some (.int x3), some (.int x4), some (.int x5), some (.int x6), some (.int x7), none, none] from ⟨rfl, ⟨rfl, ⟨rfl, ⟨rfl, ⟨rfl, ⟨rfl, trivial⟩⟩⟩⟩⟩⟩) (zyC226_153 hk123 h)
    · replace h := zy_ifn h b11
      refine zy_0 rfl rfl (show zyR _ _ _ _ [some (.ref (43 + 3)), none, none, some (.int x3), some (.int x4), some (.int x5), some (.int x6), some (.int x7), none, none] [.ref (43 + 3)] _ _ from ?_)
      refine zy_0 rfl rfl (show zyR _ _ _ _ [some (.ref (43 + 3)), none, none, some (.int x3), some (.int x4), some (.int x5), some (.int x6), some (.int x7), none, none] [.ref (43 + 3), .ref (43 + 3)] _ _ from ?_)
      refine zy_1 (c := 43) rfl rfl rfl (show zyR _ _ _ _ [some (.ref (43 + 3)), none, none, some (.int x3), some (.int x4), some (.int x5), some (.int x6), some (.int x7), none, none] [.int (p8.2.1 43 7), .ref (43 + 3)] _ _ from ?_)
      obtain ⟨p9, hp9, h⟩ := zy_bind h
      refine zy_5 (c := 43) (as := [.int (p8.2.1 43 7)]) (rest := []) (L := [some (.ref (43 + 3)), some (.int (p8.2.1 43 7))]) (d' := 2) rfl rfl rfl (Nat.le_of_ble_eq_true rfl) (Nat.le_of_ble_eq_true rfl) rfl (Nat.le_of_ble_eq_true rfl) rfl rfl (zyC219 hp9) ?_
      show zyR _ _ _ _ [some (.ref (43 + 3)), none, none, some (.int x3), some (.int x4), some (.int x5), some (.int x6), some (.int x7), none, none] [.int p9.1] _ _
      refine zy_24_0 rfl (fun b10 => (show zyR _ _ _ _ [some (.ref (43 + 3)), none, none, some (.int x3), some (.int x4), some (.int x5), some (.int x6), some (.int x7), none, none] [] _ _ from ?_)) (fun b10 => (show zyR _ _ _ _ [some (.ref (43 + 3)), none, none, some (.int x3), some (.int x4), some (.int x5), some (.int x6), some (.int x7), none, none] [] _ _ from ?_))
      · replace h := zy_ifp h b10
        exact zy_sub (show zy_le [some (.ref (43 + 3)), none, none, some (.int x3), some (.int x4), some (.int x5), some (.int x6), some (.int x7), none, none] [some (.ref (43 + 3)), none, none, some (.int x3), some (.int x4), some (.int x5), some (.int x6), some (.int x7), none, none] from ⟨rfl, ⟨rfl, ⟨rfl, ⟨rfl, ⟨rfl, ⟨rfl, trivial⟩⟩⟩⟩⟩⟩) (zyC226_227 hk123 h)
      · replace h := zy_ifn h b10
        exact zy_sub (show zy_le [some (.ref (43 + 3)), none, none, some (.int x3), some (.int x4), some (.int x5), some (.int x6), some (.int x7), none, none] [some (.ref (43 + 3)), none, none, some (.int x3), some (.int x4), some (.int x5), some (.int x6), some (.int x7), none, none] from ⟨rfl, ⟨rfl, ⟨rfl, ⟨rfl, ⟨rfl, ⟨rfl, trivial⟩⟩⟩⟩⟩⟩) (zyC226_153 hk123 h)
noncomputable def zyF226_123   (n : Nat) : Int32 → Int32 → Int32 → Int32 → Int32 → zy_S → Option (Int32 × zy_S) := Nat.rec (fun _ _ _ _ _ _ => none) (fun _ k123 => zyF226_123b k123) n
theorem zyC226_123 {X : zx_X}     : ∀ (n : Nat) (x3 : Int32) (x4 : Int32) (x5 : Int32) (x6 : Int32) (x7 : Int32) (s : zy_S) (r : Int32) (s' : zy_S), zyF226_123 n x3 x4 x5 x6 x7 s = some (r, s') → zyR X 206 226 123 [some (.ref (43 + 3)), none, none, some (.int x3), some (.int x4), some (.int x5), some (.int x6), some (.int x7), none, none] [] s (zyE (some (.int r)) s')
  | 0, _, _, _, _, _ => by
    intro s r s'  h
    have h : (none : Option (Int32 × zy_S)) = some (r, s') := h
    cases h
  | n + 1, x3, x4, x5, x6, x7 => by
    intro s r s'  h
    exact zyC226_123b (k123 := zyF226_123 n) (fun x3 x4 x5 x6 x7 s r s'  h => zyC226_123  n x3 x4 x5 x6 x7 s r s'  h) h
noncomputable def zyF226   (x1 : Int32) (x2 : Int32) (s : zy_S) : Option (Int32 × zy_S) :=
if x1 < 0 then
some ((-2000000000 : Int32), s)
else
(zyF185 ((x1 / (100 : Int32))).toInt64 s).bind fun p13 =>
if p13.1 = 0 then
some ((-2000000000 : Int32), p13.2)
else
(zyF185 (((x1 / (10 : Int32)) - (x1 / (10 : Int32)) / (10 : Int32) * (10 : Int32))).toInt64 p13.2).bind fun p14 =>
if p14.1 = 0 then
some ((-2000000000 : Int32), p14.2)
else
if (x1 / (100 : Int32)) = ((x1 / (10 : Int32)) - (x1 / (10 : Int32)) / (10 : Int32) * (10 : Int32)) then
some ((-2000000000 : Int32), p14.2)
else
(zyF179 ((x1 - x1 / (10 : Int32) * (10 : Int32))).toInt64 (1 : Int64) (3 : Int64) p14.2).bind fun p15 =>
if p15.1 = 0 then
some ((-2000000000 : Int32), p15.2)
else
(zyF179 (x2).toInt64 (0 : Int64) (1 : Int64) p15.2).bind fun p16 =>
if p16.1 ≠ 0 then
(zyF203 p16.2).bind fun p17 =>
(zyF227 (x1 / (100 : Int32)) ((x1 / (10 : Int32)) - (x1 / (10 : Int32)) / (10 : Int32) * (10 : Int32)) (0 : Int32) (x1 - x1 / (10 : Int32) * (10 : Int32)) (p17.2.1 43 7) p17.2).bind fun p18 =>
if x2 ≠ 0 then
zyF226_123 zy_fu (x1 / (100 : Int32)) ((x1 / (10 : Int32)) - (x1 / (10 : Int32)) / (10 : Int32) * (10 : Int32)) (x1 - x1 / (10 : Int32) * (10 : Int32)) p18.1 (0 : Int32) p18.2
else
some (p18.1, p18.2)
else
some ((-2000000000 : Int32), p16.2)
theorem zyC226 {X : zx_X}     {x1 : Int32} {x2 : Int32} {s : zy_S} {r : Int32} {s' : zy_S}  (h : zyF226 x1 x2 s = some (r, s')) : zyR X 206 226 0 [some (.ref (43 + 3)), some (.int x1), some (.int x2), none, none, none, none, none, none, none] [] s (zyE (some (.int r)) s') := by
  unfold zyF226 at h
  refine zy_2 rfl rfl (show zyR _ _ _ _ [some (.ref (43 + 3)), some (.int x1), some (.int x2), none, none, none, none, none, none, none] [.int x1] _ _ from ?_)
  refine zy_24_2 rfl (fun b25 => (show zyR _ _ _ _ [some (.ref (43 + 3)), some (.int x1), some (.int x2), none, none, none, none, none, none, none] [] _ _ from ?_)) (fun b25 => (show zyR _ _ _ _ [some (.ref (43 + 3)), some (.int x1), some (.int x2), none, none, none, none, none, none, none] [] _ _ from ?_))
  · replace h := zy_ifp h b25
    refine zy_3c rfl rfl (show zyR _ _ _ _ [some (.ref (43 + 3)), some (.int x1), some (.int x2), none, none, none, none, none, none, none] [.int (-2000000000 : Int32)] _ _ from ?_)
    obtain ⟨rfl, rfl⟩ := zy_pi h
    exact zy_4 rfl ⟨rfl, rfl⟩
  · replace h := zy_ifn h b25
    refine zy_0 rfl rfl (show zyR _ _ _ _ [some (.ref (43 + 3)), some (.int x1), some (.int x2), none, none, none, none, none, none, none] [.ref (43 + 3)] _ _ from ?_)
    refine zy_2 rfl rfl (show zyR _ _ _ _ [some (.ref (43 + 3)), some (.int x1), some (.int x2), none, none, none, none, none, none, none] [.int x1, .ref (43 + 3)] _ _ from ?_)
    refine zy_3 rfl rfl (show zyR _ _ _ _ [some (.ref (43 + 3)), some (.int x1), some (.int x2), none, none, none, none, none, none, none] [.int (100 : Int32), .int x1, .ref (43 + 3)] _ _ from ?_)
    refine zy_19 rfl (by decide) (show zyR _ _ _ _ [some (.ref (43 + 3)), some (.int x1), some (.int x2), none, none, none, none, none, none, none] [.int (x1 / (100 : Int32)), .ref (43 + 3)] _ _ from ?_)
    refine zy_40 rfl (show zyR _ _ _ _ [some (.ref (43 + 3)), some (.int x1), some (.int x2), none, none, none, none, none, none, none] [.long ((x1 / (100 : Int32))).toInt64, .ref (43 + 3)] _ _ from ?_)
    obtain ⟨p13, hp13, h⟩ := zy_bind h
    refine zy_5 (c := 43) (as := [.long ((x1 / (100 : Int32))).toInt64]) (rest := []) (L := [some (.ref (43 + 3)), some (.long ((x1 / (100 : Int32))).toInt64), none]) (d' := 2) rfl rfl rfl (Nat.le_of_ble_eq_true rfl) (Nat.le_of_ble_eq_true rfl) rfl (Nat.le_of_ble_eq_true rfl) rfl rfl (zyC185 hp13) ?_
    show zyR _ _ _ _ [some (.ref (43 + 3)), some (.int x1), some (.int x2), none, none, none, none, none, none, none] [.int p13.1] _ _
    refine zy_24_0 rfl (fun b24 => (show zyR _ _ _ _ [some (.ref (43 + 3)), some (.int x1), some (.int x2), none, none, none, none, none, none, none] [] _ _ from ?_)) (fun b24 => (show zyR _ _ _ _ [some (.ref (43 + 3)), some (.int x1), some (.int x2), none, none, none, none, none, none, none] [] _ _ from ?_))
    · replace h := zy_ifp h b24
      refine zy_3c rfl rfl (show zyR _ _ _ _ [some (.ref (43 + 3)), some (.int x1), some (.int x2), none, none, none, none, none, none, none] [.int (-2000000000 : Int32)] _ _ from ?_)
      obtain ⟨rfl, rfl⟩ := zy_pi h
      exact zy_4 rfl ⟨rfl, rfl⟩
    · replace h := zy_ifn h b24
      refine zy_0 rfl rfl (show zyR _ _ _ _ [some (.ref (43 + 3)), some (.int x1), some (.int x2), none, none, none, none, none, none, none] [.ref (43 + 3)] _ _ from ?_)
      refine zy_2 rfl rfl (show zyR _ _ _ _ [some (.ref (43 + 3)), some (.int x1), some (.int x2), none, none, none, none, none, none, none] [.int x1, .ref (43 + 3)] _ _ from ?_)
      refine zy_3 rfl rfl (show zyR _ _ _ _ [some (.ref (43 + 3)), some (.int x1), some (.int x2), none, none, none, none, none, none, none] [.int (10 : Int32), .int x1, .ref (43 + 3)] _ _ from ?_)
      refine zy_19 rfl (by decide) (show zyR _ _ _ _ [some (.ref (43 + 3)), some (.int x1), some (.int x2), none, none, none, none, none, none, none] [.int (x1 / (10 : Int32)), .ref (43 + 3)] _ _ from ?_)
      refine zy_3 rfl rfl (show zyR _ _ _ _ [some (.ref (43 + 3)), some (.int x1), some (.int x2), none, none, none, none, none, none, none] [.int (10 : Int32), .int (x1 / (10 : Int32)), .ref (43 + 3)] _ _ from ?_)
      refine zy_20 rfl (by decide) (show zyR _ _ _ _ [some (.ref (43 + 3)), some (.int x1), some (.int x2), none, none, none, none, none, none, none] [.int ((x1 / (10 : Int32)) - (x1 / (10 : Int32)) / (10 : Int32) * (10 : Int32)), .ref (43 + 3)] _ _ from ?_)
      refine zy_40 rfl (show zyR _ _ _ _ [some (.ref (43 + 3)), some (.int x1), some (.int x2), none, none, none, none, none, none, none] [.long (((x1 / (10 : Int32)) - (x1 / (10 : Int32)) / (10 : Int32) * (10 : Int32))).toInt64, .ref (43 + 3)] _ _ from ?_)
      obtain ⟨p14, hp14, h⟩ := zy_bind h
      refine zy_5 (c := 43) (as := [.long (((x1 / (10 : Int32)) - (x1 / (10 : Int32)) / (10 : Int32) * (10 : Int32))).toInt64]) (rest := []) (L := [some (.ref (43 + 3)), some (.long (((x1 / (10 : Int32)) - (x1 / (10 : Int32)) / (10 : Int32) * (10 : Int32))).toInt64), none]) (d' := 2) rfl rfl rfl (Nat.le_of_ble_eq_true rfl) (Nat.le_of_ble_eq_true rfl) rfl (Nat.le_of_ble_eq_true rfl) rfl rfl (zyC185 hp14) ?_
      show zyR _ _ _ _ [some (.ref (43 + 3)), some (.int x1), some (.int x2), none, none, none, none, none, none, none] [.int p14.1] _ _
      refine zy_24_0 rfl (fun b23 => (show zyR _ _ _ _ [some (.ref (43 + 3)), some (.int x1), some (.int x2), none, none, none, none, none, none, none] [] _ _ from ?_)) (fun b23 => (show zyR _ _ _ _ [some (.ref (43 + 3)), some (.int x1), some (.int x2), none, none, none, none, none, none, none] [] _ _ from ?_))
      · replace h := zy_ifp h b23
        refine zy_3c rfl rfl (show zyR _ _ _ _ [some (.ref (43 + 3)), some (.int x1), some (.int x2), none, none, none, none, none, none, none] [.int (-2000000000 : Int32)] _ _ from ?_)
        obtain ⟨rfl, rfl⟩ := zy_pi h
        exact zy_4 rfl ⟨rfl, rfl⟩
      · replace h := zy_ifn h b23
        refine zy_2 rfl rfl (show zyR _ _ _ _ [some (.ref (43 + 3)), some (.int x1), some (.int x2), none, none, none, none, none, none, none] [.int x1] _ _ from ?_)
        refine zy_3 rfl rfl (show zyR _ _ _ _ [some (.ref (43 + 3)), some (.int x1), some (.int x2), none, none, none, none, none, none, none] [.int (100 : Int32), .int x1] _ _ from ?_)
        refine zy_19 rfl (by decide) (show zyR _ _ _ _ [some (.ref (43 + 3)), some (.int x1), some (.int x2), none, none, none, none, none, none, none] [.int (x1 / (100 : Int32))] _ _ from ?_)
        refine zy_2 rfl rfl (show zyR _ _ _ _ [some (.ref (43 + 3)), some (.int x1), some (.int x2), none, none, none, none, none, none, none] [.int x1, .int (x1 / (100 : Int32))] _ _ from ?_)
        refine zy_3 rfl rfl (show zyR _ _ _ _ [some (.ref (43 + 3)), some (.int x1), some (.int x2), none, none, none, none, none, none, none] [.int (10 : Int32), .int x1, .int (x1 / (100 : Int32))] _ _ from ?_)
        refine zy_19 rfl (by decide) (show zyR _ _ _ _ [some (.ref (43 + 3)), some (.int x1), some (.int x2), none, none, none, none, none, none, none] [.int (x1 / (10 : Int32)), .int (x1 / (100 : Int32))] _ _ from ?_)
        refine zy_3 rfl rfl (show zyR _ _ _ _ [some (.ref (43 + 3)), some (.int x1), some (.int x2), none, none, none, none, none, none, none] [.int (10 : Int32), .int (x1 / (10 : Int32)), .int (x1 / (100 : Int32))] _ _ from ?_)
        refine zy_20 rfl (by decide) (show zyR _ _ _ _ [some (.ref (43 + 3)), some (.int x1), some (.int x2), none, none, none, none, none, none, none] [.int ((x1 / (10 : Int32)) - (x1 / (10 : Int32)) / (10 : Int32) * (10 : Int32)), .int (x1 / (100 : Int32))] _ _ from ?_)
        refine zy_25_0 rfl (fun b22 => (show zyR _ _ _ _ [some (.ref (43 + 3)), some (.int x1), some (.int x2), none, none, none, none, none, none, none] [] _ _ from ?_)) (fun b22 => (show zyR _ _ _ _ [some (.ref (43 + 3)), some (.int x1), some (.int x2), none, none, none, none, none, none, none] [] _ _ from ?_))
        · replace h := zy_ifp h b22
          refine zy_3c rfl rfl (show zyR _ _ _ _ [some (.ref (43 + 3)), some (.int x1), some (.int x2), none, none, none, none, none, none, none] [.int (-2000000000 : Int32)] _ _ from ?_)
          obtain ⟨rfl, rfl⟩ := zy_pi h
          exact zy_4 rfl ⟨rfl, rfl⟩
        · replace h := zy_ifn h b22
          refine zy_2 rfl rfl (show zyR _ _ _ _ [some (.ref (43 + 3)), some (.int x1), some (.int x2), none, none, none, none, none, none, none] [.int x1] _ _ from ?_)
          refine zy_3 rfl rfl (show zyR _ _ _ _ [some (.ref (43 + 3)), some (.int x1), some (.int x2), none, none, none, none, none, none, none] [.int (10 : Int32), .int x1] _ _ from ?_)
          refine zy_20 rfl (by decide) (show zyR _ _ _ _ [some (.ref (43 + 3)), some (.int x1), some (.int x2), none, none, none, none, none, none, none] [.int (x1 - x1 / (10 : Int32) * (10 : Int32))] _ _ from ?_)
          refine zy_40 rfl (show zyR _ _ _ _ [some (.ref (43 + 3)), some (.int x1), some (.int x2), none, none, none, none, none, none, none] [.long ((x1 - x1 / (10 : Int32) * (10 : Int32))).toInt64] _ _ from ?_)
          refine zy_36 rfl rfl (show zyR _ _ _ _ [some (.ref (43 + 3)), some (.int x1), some (.int x2), none, none, none, none, none, none, none] [.long (1 : Int64), .long ((x1 - x1 / (10 : Int32) * (10 : Int32))).toInt64] _ _ from ?_)
          refine zy_36c rfl rfl (show zyR _ _ _ _ [some (.ref (43 + 3)), some (.int x1), some (.int x2), none, none, none, none, none, none, none] [.long (3 : Int64), .long (1 : Int64), .long ((x1 - x1 / (10 : Int32) * (10 : Int32))).toInt64] _ _ from ?_)
          obtain ⟨p15, hp15, h⟩ := zy_bind h
          refine zy_60 (as := [.long ((x1 - x1 / (10 : Int32) * (10 : Int32))).toInt64, .long (1 : Int64), .long (3 : Int64)]) (rest := []) (L := [some (.long ((x1 - x1 / (10 : Int32) * (10 : Int32))).toInt64), none, some (.long (1 : Int64)), none, some (.long (3 : Int64)), none]) (d' := 1) rfl rfl (Nat.le_of_ble_eq_true rfl) (Nat.le_of_ble_eq_true rfl) rfl (Nat.le_of_ble_eq_true rfl) rfl rfl (zyC179 hp15) ?_
          show zyR _ _ _ _ [some (.ref (43 + 3)), some (.int x1), some (.int x2), none, none, none, none, none, none, none] [.int p15.1] _ _
          refine zy_24_0 rfl (fun b21 => (show zyR _ _ _ _ [some (.ref (43 + 3)), some (.int x1), some (.int x2), none, none, none, none, none, none, none] [] _ _ from ?_)) (fun b21 => (show zyR _ _ _ _ [some (.ref (43 + 3)), some (.int x1), some (.int x2), none, none, none, none, none, none, none] [] _ _ from ?_))
          · replace h := zy_ifp h b21
            refine zy_3c rfl rfl (show zyR _ _ _ _ [some (.ref (43 + 3)), some (.int x1), some (.int x2), none, none, none, none, none, none, none] [.int (-2000000000 : Int32)] _ _ from ?_)
            obtain ⟨rfl, rfl⟩ := zy_pi h
            exact zy_4 rfl ⟨rfl, rfl⟩
          · replace h := zy_ifn h b21
            refine zy_2 rfl rfl (show zyR _ _ _ _ [some (.ref (43 + 3)), some (.int x1), some (.int x2), none, none, none, none, none, none, none] [.int x2] _ _ from ?_)
            refine zy_40 rfl (show zyR _ _ _ _ [some (.ref (43 + 3)), some (.int x1), some (.int x2), none, none, none, none, none, none, none] [.long (x2).toInt64] _ _ from ?_)
            refine zy_36 rfl rfl (show zyR _ _ _ _ [some (.ref (43 + 3)), some (.int x1), some (.int x2), none, none, none, none, none, none, none] [.long (0 : Int64), .long (x2).toInt64] _ _ from ?_)
            refine zy_36 rfl rfl (show zyR _ _ _ _ [some (.ref (43 + 3)), some (.int x1), some (.int x2), none, none, none, none, none, none, none] [.long (1 : Int64), .long (0 : Int64), .long (x2).toInt64] _ _ from ?_)
            obtain ⟨p16, hp16, h⟩ := zy_bind h
            refine zy_60 (as := [.long (x2).toInt64, .long (0 : Int64), .long (1 : Int64)]) (rest := []) (L := [some (.long (x2).toInt64), none, some (.long (0 : Int64)), none, some (.long (1 : Int64)), none]) (d' := 1) rfl rfl (Nat.le_of_ble_eq_true rfl) (Nat.le_of_ble_eq_true rfl) rfl (Nat.le_of_ble_eq_true rfl) rfl rfl (zyC179 hp16) ?_
            show zyR _ _ _ _ [some (.ref (43 + 3)), some (.int x1), some (.int x2), none, none, none, none, none, none, none] [.int p16.1] _ _
            refine zy_24_1 rfl (fun b20 => (show zyR _ _ _ _ [some (.ref (43 + 3)), some (.int x1), some (.int x2), none, none, none, none, none, none, none] [] _ _ from ?_)) (fun b20 => (show zyR _ _ _ _ [some (.ref (43 + 3)), some (.int x1), some (.int x2), none, none, none, none, none, none, none] [] _ _ from ?_))
            · replace h := zy_ifp h b20
              refine zy_2 rfl rfl (show zyR _ _ _ _ [some (.ref (43 + 3)), some (.int x1), some (.int x2), none, none, none, none, none, none, none] [.int x1] _ _ from ?_)
              refine zy_3 rfl rfl (show zyR _ _ _ _ [some (.ref (43 + 3)), some (.int x1), some (.int x2), none, none, none, none, none, none, none] [.int (100 : Int32), .int x1] _ _ from ?_)
              refine zy_19 rfl (by decide) (show zyR _ _ _ _ [some (.ref (43 + 3)), some (.int x1), some (.int x2), none, none, none, none, none, none, none] [.int (x1 / (100 : Int32))] _ _ from ?_)
              refine zy_23 rfl rfl (show zyR _ _ _ _ [some (.ref (43 + 3)), some (.int x1), some (.int x2), some (.int (x1 / (100 : Int32))), none, none, none, none, none, none] [] _ _ from ?_)
              refine zy_2 rfl rfl (show zyR _ _ _ _ [some (.ref (43 + 3)), some (.int x1), some (.int x2), some (.int (x1 / (100 : Int32))), none, none, none, none, none, none] [.int x1] _ _ from ?_)
              refine zy_3 rfl rfl (show zyR _ _ _ _ [some (.ref (43 + 3)), some (.int x1), some (.int x2), some (.int (x1 / (100 : Int32))), none, none, none, none, none, none] [.int (10 : Int32), .int x1] _ _ from ?_)
              refine zy_19 rfl (by decide) (show zyR _ _ _ _ [some (.ref (43 + 3)), some (.int x1), some (.int x2), some (.int (x1 / (100 : Int32))), none, none, none, none, none, none] [.int (x1 / (10 : Int32))] _ _ from ?_)
              refine zy_3 rfl rfl (show zyR _ _ _ _ [some (.ref (43 + 3)), some (.int x1), some (.int x2), some (.int (x1 / (100 : Int32))), none, none, none, none, none, none] [.int (10 : Int32), .int (x1 / (10 : Int32))] _ _ from ?_)
              refine zy_20 rfl (by decide) (show zyR _ _ _ _ [some (.ref (43 + 3)), some (.int x1), some (.int x2), some (.int (x1 / (100 : Int32))), none, none, none, none, none, none] [.int ((x1 / (10 : Int32)) - (x1 / (10 : Int32)) / (10 : Int32) * (10 : Int32))] _ _ from ?_)
              refine zy_23 rfl rfl (show zyR _ _ _ _ [some (.ref (43 + 3)), some (.int x1), some (.int x2), some (.int (x1 / (100 : Int32))), some (.int ((x1 / (10 : Int32)) - (x1 / (10 : Int32)) / (10 : Int32) * (10 : Int32))), none, none, none, none, none] [] _ _ from ?_)
              refine zy_2 rfl rfl (show zyR _ _ _ _ [some (.ref (43 + 3)), some (.int x1), some (.int x2), some (.int (x1 / (100 : Int32))), some (.int ((x1 / (10 : Int32)) - (x1 / (10 : Int32)) / (10 : Int32) * (10 : Int32))), none, none, none, none, none] [.int x1] _ _ from ?_)
              refine zy_3 rfl rfl (show zyR _ _ _ _ [some (.ref (43 + 3)), some (.int x1), some (.int x2), some (.int (x1 / (100 : Int32))), some (.int ((x1 / (10 : Int32)) - (x1 / (10 : Int32)) / (10 : Int32) * (10 : Int32))), none, none, none, none, none] [.int (10 : Int32), .int x1] _ _ from ?_)
              refine zy_20 rfl (by decide) (show zyR _ _ _ _ [some (.ref (43 + 3)), some (.int x1), some (.int x2), some (.int (x1 / (100 : Int32))), some (.int ((x1 / (10 : Int32)) - (x1 / (10 : Int32)) / (10 : Int32) * (10 : Int32))), none, none, none, none, none] [.int (x1 - x1 / (10 : Int32) * (10 : Int32))] _ _ from ?_)
              refine zy_23 rfl rfl (show zyR _ _ _ _ [some (.ref (43 + 3)), some (.int x1), some (.int x2), some (.int (x1 / (100 : Int32))), some (.int ((x1 / (10 : Int32)) - (x1 / (10 : Int32)) / (10 : Int32) * (10 : Int32))), some (.int (x1 - x1 / (10 : Int32) * (10 : Int32))), none, none, none, none] [] _ _ from ?_)
              refine zy_0 rfl rfl (show zyR _ _ _ _ [some (.ref (43 + 3)), some (.int x1), some (.int x2), some (.int (x1 / (100 : Int32))), some (.int ((x1 / (10 : Int32)) - (x1 / (10 : Int32)) / (10 : Int32) * (10 : Int32))), some (.int (x1 - x1 / (10 : Int32) * (10 : Int32))), none, none, none, none] [.ref (43 + 3)] _ _ from ?_)
              obtain ⟨p17, hp17, h⟩ := zy_bind h
              refine zy_5 (c := 43) (as := []) (rest := []) (L := [some (.ref (43 + 3)), none]) (d' := 1) rfl rfl rfl (Nat.le_of_ble_eq_true rfl) (Nat.le_of_ble_eq_true rfl) rfl (Nat.le_of_ble_eq_true rfl) rfl rfl (zyC203 hp17) ?_
              show zyR _ _ _ _ [some (.ref (43 + 3)), some (.int x1), some (.int x2), some (.int (x1 / (100 : Int32))), some (.int ((x1 / (10 : Int32)) - (x1 / (10 : Int32)) / (10 : Int32) * (10 : Int32))), some (.int (x1 - x1 / (10 : Int32) * (10 : Int32))), none, none, none, none] [] _ _
              refine zy_0 rfl rfl (show zyR _ _ _ _ [some (.ref (43 + 3)), some (.int x1), some (.int x2), some (.int (x1 / (100 : Int32))), some (.int ((x1 / (10 : Int32)) - (x1 / (10 : Int32)) / (10 : Int32) * (10 : Int32))), some (.int (x1 - x1 / (10 : Int32) * (10 : Int32))), none, none, none, none] [.ref (43 + 3)] _ _ from ?_)
              refine zy_2 rfl rfl (show zyR _ _ _ _ [some (.ref (43 + 3)), some (.int x1), some (.int x2), some (.int (x1 / (100 : Int32))), some (.int ((x1 / (10 : Int32)) - (x1 / (10 : Int32)) / (10 : Int32) * (10 : Int32))), some (.int (x1 - x1 / (10 : Int32) * (10 : Int32))), none, none, none, none] [.int (x1 / (100 : Int32)), .ref (43 + 3)] _ _ from ?_)
              refine zy_2 rfl rfl (show zyR _ _ _ _ [some (.ref (43 + 3)), some (.int x1), some (.int x2), some (.int (x1 / (100 : Int32))), some (.int ((x1 / (10 : Int32)) - (x1 / (10 : Int32)) / (10 : Int32) * (10 : Int32))), some (.int (x1 - x1 / (10 : Int32) * (10 : Int32))), none, none, none, none] [.int ((x1 / (10 : Int32)) - (x1 / (10 : Int32)) / (10 : Int32) * (10 : Int32)), .int (x1 / (100 : Int32)), .ref (43 + 3)] _ _ from ?_)
              refine zy_3 rfl rfl (show zyR _ _ _ _ [some (.ref (43 + 3)), some (.int x1), some (.int x2), some (.int (x1 / (100 : Int32))), some (.int ((x1 / (10 : Int32)) - (x1 / (10 : Int32)) / (10 : Int32) * (10 : Int32))), some (.int (x1 - x1 / (10 : Int32) * (10 : Int32))), none, none, none, none] [.int (0 : Int32), .int ((x1 / (10 : Int32)) - (x1 / (10 : Int32)) / (10 : Int32) * (10 : Int32)), .int (x1 / (100 : Int32)), .ref (43 + 3)] _ _ from ?_)
              refine zy_2 rfl rfl (show zyR _ _ _ _ [some (.ref (43 + 3)), some (.int x1), some (.int x2), some (.int (x1 / (100 : Int32))), some (.int ((x1 / (10 : Int32)) - (x1 / (10 : Int32)) / (10 : Int32) * (10 : Int32))), some (.int (x1 - x1 / (10 : Int32) * (10 : Int32))), none, none, none, none] [.int (x1 - x1 / (10 : Int32) * (10 : Int32)), .int (0 : Int32), .int ((x1 / (10 : Int32)) - (x1 / (10 : Int32)) / (10 : Int32) * (10 : Int32)), .int (x1 / (100 : Int32)), .ref (43 + 3)] _ _ from ?_)
              refine zy_0 rfl rfl (show zyR _ _ _ _ [some (.ref (43 + 3)), some (.int x1), some (.int x2), some (.int (x1 / (100 : Int32))), some (.int ((x1 / (10 : Int32)) - (x1 / (10 : Int32)) / (10 : Int32) * (10 : Int32))), some (.int (x1 - x1 / (10 : Int32) * (10 : Int32))), none, none, none, none] [.ref (43 + 3), .int (x1 - x1 / (10 : Int32) * (10 : Int32)), .int (0 : Int32), .int ((x1 / (10 : Int32)) - (x1 / (10 : Int32)) / (10 : Int32) * (10 : Int32)), .int (x1 / (100 : Int32)), .ref (43 + 3)] _ _ from ?_)
              refine zy_1 (c := 43) rfl rfl rfl (show zyR _ _ _ _ [some (.ref (43 + 3)), some (.int x1), some (.int x2), some (.int (x1 / (100 : Int32))), some (.int ((x1 / (10 : Int32)) - (x1 / (10 : Int32)) / (10 : Int32) * (10 : Int32))), some (.int (x1 - x1 / (10 : Int32) * (10 : Int32))), none, none, none, none] [.int (p17.2.1 43 7), .int (x1 - x1 / (10 : Int32) * (10 : Int32)), .int (0 : Int32), .int ((x1 / (10 : Int32)) - (x1 / (10 : Int32)) / (10 : Int32) * (10 : Int32)), .int (x1 / (100 : Int32)), .ref (43 + 3)] _ _ from ?_)
              obtain ⟨p18, hp18, h⟩ := zy_bind h
              refine zy_5 (c := 43) (as := [.int (x1 / (100 : Int32)), .int ((x1 / (10 : Int32)) - (x1 / (10 : Int32)) / (10 : Int32) * (10 : Int32)), .int (0 : Int32), .int (x1 - x1 / (10 : Int32) * (10 : Int32)), .int (p17.2.1 43 7)]) (rest := []) (L := [some (.ref (43 + 3)), some (.int (x1 / (100 : Int32))), some (.int ((x1 / (10 : Int32)) - (x1 / (10 : Int32)) / (10 : Int32) * (10 : Int32))), some (.int (0 : Int32)), some (.int (x1 - x1 / (10 : Int32) * (10 : Int32))), some (.int (p17.2.1 43 7)), none, none, none, none]) (d' := 205) rfl rfl rfl (Nat.le_of_ble_eq_true rfl) (Nat.le_of_ble_eq_true rfl) rfl (Nat.le_of_ble_eq_true rfl) rfl rfl (zyC227 hp18) ?_
              show zyR _ _ _ _ [some (.ref (43 + 3)), some (.int x1), some (.int x2), some (.int (x1 / (100 : Int32))), some (.int ((x1 / (10 : Int32)) - (x1 / (10 : Int32)) / (10 : Int32) * (10 : Int32))), some (.int (x1 - x1 / (10 : Int32) * (10 : Int32))), none, none, none, none] [.int p18.1] _ _
              refine zy_23 rfl rfl (show zyR _ _ _ _ [some (.ref (43 + 3)), some (.int x1), some (.int x2), some (.int (x1 / (100 : Int32))), some (.int ((x1 / (10 : Int32)) - (x1 / (10 : Int32)) / (10 : Int32) * (10 : Int32))), some (.int (x1 - x1 / (10 : Int32) * (10 : Int32))), some (.int p18.1), none, none, none] [] _ _ from ?_)
              refine zy_2 rfl rfl (show zyR _ _ _ _ [some (.ref (43 + 3)), some (.int x1), some (.int x2), some (.int (x1 / (100 : Int32))), some (.int ((x1 / (10 : Int32)) - (x1 / (10 : Int32)) / (10 : Int32) * (10 : Int32))), some (.int (x1 - x1 / (10 : Int32) * (10 : Int32))), some (.int p18.1), none, none, none] [.int x2] _ _ from ?_)
              refine zy_24_1 rfl (fun b19 => (show zyR _ _ _ _ [some (.ref (43 + 3)), some (.int x1), some (.int x2), some (.int (x1 / (100 : Int32))), some (.int ((x1 / (10 : Int32)) - (x1 / (10 : Int32)) / (10 : Int32) * (10 : Int32))), some (.int (x1 - x1 / (10 : Int32) * (10 : Int32))), some (.int p18.1), none, none, none] [] _ _ from ?_)) (fun b19 => (show zyR _ _ _ _ [some (.ref (43 + 3)), some (.int x1), some (.int x2), some (.int (x1 / (100 : Int32))), some (.int ((x1 / (10 : Int32)) - (x1 / (10 : Int32)) / (10 : Int32) * (10 : Int32))), some (.int (x1 - x1 / (10 : Int32) * (10 : Int32))), some (.int p18.1), none, none, none] [] _ _ from ?_))
              · replace h := zy_ifp h b19
                refine zy_3 rfl rfl (show zyR _ _ _ _ [some (.ref (43 + 3)), some (.int x1), some (.int x2), some (.int (x1 / (100 : Int32))), some (.int ((x1 / (10 : Int32)) - (x1 / (10 : Int32)) / (10 : Int32) * (10 : Int32))), some (.int (x1 - x1 / (10 : Int32) * (10 : Int32))), some (.int p18.1), none, none, none] [.int (0 : Int32)] _ _ from ?_)
                refine zy_23 rfl rfl (show zyR _ _ _ _ [some (.ref (43 + 3)), some (.int x1), some (.int x2), some (.int (x1 / (100 : Int32))), some (.int ((x1 / (10 : Int32)) - (x1 / (10 : Int32)) / (10 : Int32) * (10 : Int32))), some (.int (x1 - x1 / (10 : Int32) * (10 : Int32))), some (.int p18.1), some (.int (0 : Int32)), none, none] [] _ _ from ?_)
                exact zy_sub (show zy_le [some (.ref (43 + 3)), none, none, some (.int (x1 / (100 : Int32))), some (.int ((x1 / (10 : Int32)) - (x1 / (10 : Int32)) / (10 : Int32) * (10 : Int32))), some (.int (x1 - x1 / (10 : Int32) * (10 : Int32))), some (.int p18.1), some (.int (0 : Int32)), none, none] [some (.ref (43 + 3)), some (.int x1), some (.int x2), some (.int (x1 / (100 : Int32))), some (.int ((x1 / (10 : Int32)) - (x1 / (10 : Int32)) / (10 : Int32) * (10 : Int32))), some (.int (x1 - x1 / (10 : Int32) * (10 : Int32))), some (.int p18.1), some (.int (0 : Int32)), none, none] from ⟨rfl, ⟨rfl, ⟨rfl, ⟨rfl, ⟨rfl, ⟨rfl, trivial⟩⟩⟩⟩⟩⟩) (zyC226_123 zy_fu (x1 / (100 : Int32)) ((x1 / (10 : Int32)) - (x1 / (10 : Int32)) / (10 : Int32) * (10 : Int32)) (x1 - x1 / (10 : Int32) * (10 : Int32)) p18.1 (0 : Int32) p18.2 _ _ h)
              · replace h := zy_ifn h b19
                refine zy_2 rfl rfl (show zyR _ _ _ _ [some (.ref (43 + 3)), some (.int x1), some (.int x2), some (.int (x1 / (100 : Int32))), some (.int ((x1 / (10 : Int32)) - (x1 / (10 : Int32)) / (10 : Int32) * (10 : Int32))), some (.int (x1 - x1 / (10 : Int32) * (10 : Int32))), some (.int p18.1), none, none, none] [.int p18.1] _ _ from ?_)
                obtain ⟨rfl, rfl⟩ := zy_pi h
                exact zy_4 rfl ⟨rfl, rfl⟩
            · replace h := zy_ifn h b20
              refine zy_3c rfl rfl (show zyR _ _ _ _ [some (.ref (43 + 3)), some (.int x1), some (.int x2), none, none, none, none, none, none, none] [.int (-2000000000 : Int32)] _ _ from ?_)
              obtain ⟨rfl, rfl⟩ := zy_pi h
              exact zy_4 rfl ⟨rfl, rfl⟩

