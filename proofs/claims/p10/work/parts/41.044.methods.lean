/-! PART 41.44: methods as functions. Made by wip/v4/dcp.py. -/
/-! NineOpinionsModel.nearestBoard(Z)I -/
noncomputable def zyF215_320  (k254 : Int32 → Int32 → Int32 → Int32 → zy_S → Option (Int32 × zy_S)) (k262 : Int32 → Int32 → Int32 → Int32 → Int32 → zy_S → Option (Int32 × zy_S)) (x2 : Int32) (x3 : Int32) (x4 : Int32) (x5 : Int32) (x6 : Int32) (s : zy_S) : Option (Int32 × zy_S) :=
k262 x2 x3 x4 x5 (x6 + (1 : Int32)) s
theorem zyC215_320 {X : zx_X}  {k254 : Int32 → Int32 → Int32 → Int32 → zy_S → Option (Int32 × zy_S)} {k262 : Int32 → Int32 → Int32 → Int32 → Int32 → zy_S → Option (Int32 × zy_S)}  (hk254 : ∀ (x2 : Int32) (x3 : Int32) (x4 : Int32) (x5 : Int32) (s : zy_S) (r : Int32) (s' : zy_S), k254 x2 x3 x4 x5 s = some (r, s') → zyR X 106 215 254 [some (.ref (43 + 3)), none, some (.int x2), some (.int x3), some (.int x4), some (.int x5), none, none, none] [] s (zyE (some (.int r)) s')) (hk262 : ∀ (x2 : Int32) (x3 : Int32) (x4 : Int32) (x5 : Int32) (x6 : Int32) (s : zy_S) (r : Int32) (s' : zy_S), k262 x2 x3 x4 x5 x6 s = some (r, s') → zyR X 106 215 262 [some (.ref (43 + 3)), none, some (.int x2), some (.int x3), some (.int x4), some (.int x5), some (.int x6), none, none] [] s (zyE (some (.int r)) s')) {x2 : Int32} {x3 : Int32} {x4 : Int32} {x5 : Int32} {x6 : Int32} {s : zy_S} {r : Int32} {s' : zy_S}  (h : zyF215_320 k254 k262 x2 x3 x4 x5 x6 s = some (r, s')) : zyR X 106 215 320 [some (.ref (43 + 3)), none, some (.int x2), some (.int x3), some (.int x4), some (.int x5), some (.int x6), none, none] [] s (zyE (some (.int r)) s') := by
  unfold zyF215_320 at h
  refine zy_22 rfl rfl rfl rfl (show zyR _ _ _ _ [some (.ref (43 + 3)), none, some (.int x2), some (.int x3), some (.int x4), some (.int x5), some (.int (x6 + (1 : Int32))), none, none] [] _ _ from ?_)
  refine zy_6 rfl (show zyR _ _ _ _ [some (.ref (43 + 3)), none, some (.int x2), some (.int x3), some (.int x4), some (.int x5), some (.int (x6 + (1 : Int32))), none, none] [] _ _ from ?_)
  exact zy_sub (show zy_le [some (.ref (43 + 3)), none, some (.int x2), some (.int x3), some (.int x4), some (.int x5), some (.int (x6 + (1 : Int32))), none, none] [some (.ref (43 + 3)), none, some (.int x2), some (.int x3), some (.int x4), some (.int x5), some (.int (x6 + (1 : Int32))), none, none] from ⟨rfl, ⟨rfl, ⟨rfl, ⟨rfl, ⟨rfl, ⟨rfl, trivial⟩⟩⟩⟩⟩⟩) (hk262 x2 x3 x4 x5 (x6 + (1 : Int32)) s _ _ h)
noncomputable def zyF215_262b  (k254 : Int32 → Int32 → Int32 → Int32 → zy_S → Option (Int32 × zy_S)) (k262 : Int32 → Int32 → Int32 → Int32 → Int32 → zy_S → Option (Int32 × zy_S)) (x2 : Int32) (x3 : Int32) (x4 : Int32) (x5 : Int32) (x6 : Int32) (s : zy_S) : Option (Int32 × zy_S) :=
(zyF209 x6 s).bind fun p1 =>
if x3 < p1.1 then
zyF215_320 k254 k262 x2 x3 x4 x5 x6 p1.2
else
if zy_in (((16 : Int32) * (x5 - (1 : Int32))) + x6) 96 then
(zyF209 x6 p1.2).bind fun p3 =>
if zy_in (((x2 * (x5 - (1 : Int32))) + x3) - p3.1) 70 then
if zy_in ((x2 * x5) + x3) 70 then
if ((p1.2.1 53 ((((16 : Int32) * (x5 - (1 : Int32))) + x6)).toNatClampNeg) + (p3.2.1 52 ((((x2 * (x5 - (1 : Int32))) + x3) - p3.1)).toNatClampNeg)) = (p3.2.1 52 (((x2 * x5) + x3)).toNatClampNeg) then
(zyF209 x6 p3.2).bind fun p6 =>
k254 x2 (x3 - p6.1) (x4 ||| (x6 <<< (((4 : Int32) * (x5 - (1 : Int32))) &&& 31))) (x5 + (-1 : Int32)) p6.2
else
zyF215_320 k254 k262 x2 x3 x4 x5 x6 p3.2
else none
else none
else none
theorem zyC215_262b {X : zx_X}  {k254 : Int32 → Int32 → Int32 → Int32 → zy_S → Option (Int32 × zy_S)} {k262 : Int32 → Int32 → Int32 → Int32 → Int32 → zy_S → Option (Int32 × zy_S)}  (hk254 : ∀ (x2 : Int32) (x3 : Int32) (x4 : Int32) (x5 : Int32) (s : zy_S) (r : Int32) (s' : zy_S), k254 x2 x3 x4 x5 s = some (r, s') → zyR X 106 215 254 [some (.ref (43 + 3)), none, some (.int x2), some (.int x3), some (.int x4), some (.int x5), none, none, none] [] s (zyE (some (.int r)) s')) (hk262 : ∀ (x2 : Int32) (x3 : Int32) (x4 : Int32) (x5 : Int32) (x6 : Int32) (s : zy_S) (r : Int32) (s' : zy_S), k262 x2 x3 x4 x5 x6 s = some (r, s') → zyR X 106 215 262 [some (.ref (43 + 3)), none, some (.int x2), some (.int x3), some (.int x4), some (.int x5), some (.int x6), none, none] [] s (zyE (some (.int r)) s')) {x2 : Int32} {x3 : Int32} {x4 : Int32} {x5 : Int32} {x6 : Int32} {s : zy_S} {r : Int32} {s' : zy_S}  (h : zyF215_262b k254 k262 x2 x3 x4 x5 x6 s = some (r, s')) : zyR X 106 215 262 [some (.ref (43 + 3)), none, some (.int x2), some (.int x3), some (.int x4), some (.int x5), some (.int x6), none, none] [] s (zyE (some (.int r)) s') := by
  unfold zyF215_262b at h
  refine zy_2 rfl rfl (show zyR _ _ _ _ [some (.ref (43 + 3)), none, some (.int x2), some (.int x3), some (.int x4), some (.int x5), some (.int x6), none, none] [.int x6] _ _ from ?_)
  obtain ⟨p1, hp1, h⟩ := zy_bind h
  refine zy_60 (as := [.int x6]) (rest := []) (L := [some (.int x6), none, none]) (d' := 1) rfl rfl (Nat.le_of_ble_eq_true rfl) (Nat.le_of_ble_eq_true rfl) rfl (Nat.le_of_ble_eq_true rfl) rfl rfl (zyC209 hp1) ?_
  show zyR _ _ _ _ [some (.ref (43 + 3)), none, some (.int x2), some (.int x3), some (.int x4), some (.int x5), some (.int x6), none, none] [.int p1.1] _ _
  refine zy_2 rfl rfl (show zyR _ _ _ _ [some (.ref (43 + 3)), none, some (.int x2), some (.int x3), some (.int x4), some (.int x5), some (.int x6), none, none] [.int x3, .int p1.1] _ _ from ?_)
  refine zy_25_4 rfl (fun b8 => (show zyR _ _ _ _ [some (.ref (43 + 3)), none, some (.int x2), some (.int x3), some (.int x4), some (.int x5), some (.int x6), none, none] [] _ _ from ?_)) (fun b8 => (show zyR _ _ _ _ [some (.ref (43 + 3)), none, some (.int x2), some (.int x3), some (.int x4), some (.int x5), some (.int x6), none, none] [] _ _ from ?_))
  · replace h := zy_ifp h b8
    exact zy_sub (show zy_le [some (.ref (43 + 3)), none, some (.int x2), some (.int x3), some (.int x4), some (.int x5), some (.int x6), none, none] [some (.ref (43 + 3)), none, some (.int x2), some (.int x3), some (.int x4), some (.int x5), some (.int x6), none, none] from ⟨rfl, ⟨rfl, ⟨rfl, ⟨rfl, ⟨rfl, ⟨rfl, trivial⟩⟩⟩⟩⟩⟩) (zyC215_320 hk254 hk262 h)
  · replace h := zy_ifn h b8
    refine zy_0 rfl rfl (show zyR _ _ _ _ [some (.ref (43 + 3)), none, some (.int x2), some (.int x3), some (.int x4), some (.int x5), some (.int x6), none, none] [.ref (43 + 3)] _ _ from ?_)
    refine zy_1r (c := 43) rfl rfl rfl (show zyR _ _ _ _ [some (.ref (43 + 3)), none, some (.int x2), some (.int x3), some (.int x4), some (.int x5), some (.int x6), none, none] [.ref (53 + 3)] _ _ from ?_)
    refine zy_3 rfl rfl (show zyR _ _ _ _ [some (.ref (43 + 3)), none, some (.int x2), some (.int x3), some (.int x4), some (.int x5), some (.int x6), none, none] [.int (16 : Int32), .ref (53 + 3)] _ _ from ?_)
    refine zy_2 rfl rfl (show zyR _ _ _ _ [some (.ref (43 + 3)), none, some (.int x2), some (.int x3), some (.int x4), some (.int x5), some (.int x6), none, none] [.int x5, .int (16 : Int32), .ref (53 + 3)] _ _ from ?_)
    refine zy_3 rfl rfl (show zyR _ _ _ _ [some (.ref (43 + 3)), none, some (.int x2), some (.int x3), some (.int x4), some (.int x5), some (.int x6), none, none] [.int (1 : Int32), .int x5, .int (16 : Int32), .ref (53 + 3)] _ _ from ?_)
    refine zy_11 rfl (show zyR _ _ _ _ [some (.ref (43 + 3)), none, some (.int x2), some (.int x3), some (.int x4), some (.int x5), some (.int x6), none, none] [.int (x5 - (1 : Int32)), .int (16 : Int32), .ref (53 + 3)] _ _ from ?_)
    refine zy_12 rfl (show zyR _ _ _ _ [some (.ref (43 + 3)), none, some (.int x2), some (.int x3), some (.int x4), some (.int x5), some (.int x6), none, none] [.int ((16 : Int32) * (x5 - (1 : Int32))), .ref (53 + 3)] _ _ from ?_)
    refine zy_2 rfl rfl (show zyR _ _ _ _ [some (.ref (43 + 3)), none, some (.int x2), some (.int x3), some (.int x4), some (.int x5), some (.int x6), none, none] [.int x6, .int ((16 : Int32) * (x5 - (1 : Int32))), .ref (53 + 3)] _ _ from ?_)
    refine zy_10 rfl (show zyR _ _ _ _ [some (.ref (43 + 3)), none, some (.int x2), some (.int x3), some (.int x4), some (.int x5), some (.int x6), none, none] [.int (((16 : Int32) * (x5 - (1 : Int32))) + x6), .ref (53 + 3)] _ _ from ?_)
    obtain ⟨c2, h⟩ := zy_if h
    refine zy_26 (c := 53) rfl rfl c2 (show zyR _ _ _ _ [some (.ref (43 + 3)), none, some (.int x2), some (.int x3), some (.int x4), some (.int x5), some (.int x6), none, none] [.int (p1.2.1 53 ((((16 : Int32) * (x5 - (1 : Int32))) + x6)).toNatClampNeg)] _ _ from ?_)
    refine zy_0 rfl rfl (show zyR _ _ _ _ [some (.ref (43 + 3)), none, some (.int x2), some (.int x3), some (.int x4), some (.int x5), some (.int x6), none, none] [.ref (43 + 3), .int (p1.2.1 53 ((((16 : Int32) * (x5 - (1 : Int32))) + x6)).toNatClampNeg)] _ _ from ?_)
    refine zy_1r (c := 43) rfl rfl rfl (show zyR _ _ _ _ [some (.ref (43 + 3)), none, some (.int x2), some (.int x3), some (.int x4), some (.int x5), some (.int x6), none, none] [.ref (52 + 3), .int (p1.2.1 53 ((((16 : Int32) * (x5 - (1 : Int32))) + x6)).toNatClampNeg)] _ _ from ?_)
    refine zy_2 rfl rfl (show zyR _ _ _ _ [some (.ref (43 + 3)), none, some (.int x2), some (.int x3), some (.int x4), some (.int x5), some (.int x6), none, none] [.int x2, .ref (52 + 3), .int (p1.2.1 53 ((((16 : Int32) * (x5 - (1 : Int32))) + x6)).toNatClampNeg)] _ _ from ?_)
    refine zy_2 rfl rfl (show zyR _ _ _ _ [some (.ref (43 + 3)), none, some (.int x2), some (.int x3), some (.int x4), some (.int x5), some (.int x6), none, none] [.int x5, .int x2, .ref (52 + 3), .int (p1.2.1 53 ((((16 : Int32) * (x5 - (1 : Int32))) + x6)).toNatClampNeg)] _ _ from ?_)
    refine zy_3 rfl rfl (show zyR _ _ _ _ [some (.ref (43 + 3)), none, some (.int x2), some (.int x3), some (.int x4), some (.int x5), some (.int x6), none, none] [.int (1 : Int32), .int x5, .int x2, .ref (52 + 3), .int (p1.2.1 53 ((((16 : Int32) * (x5 - (1 : Int32))) + x6)).toNatClampNeg)] _ _ from ?_)
    refine zy_11 rfl (show zyR _ _ _ _ [some (.ref (43 + 3)), none, some (.int x2), some (.int x3), some (.int x4), some (.int x5), some (.int x6), none, none] [.int (x5 - (1 : Int32)), .int x2, .ref (52 + 3), .int (p1.2.1 53 ((((16 : Int32) * (x5 - (1 : Int32))) + x6)).toNatClampNeg)] _ _ from ?_)
    refine zy_12 rfl (show zyR _ _ _ _ [some (.ref (43 + 3)), none, some (.int x2), some (.int x3), some (.int x4), some (.int x5), some (.int x6), none, none] [.int (x2 * (x5 - (1 : Int32))), .ref (52 + 3), .int (p1.2.1 53 ((((16 : Int32) * (x5 - (1 : Int32))) + x6)).toNatClampNeg)] _ _ from ?_)
    refine zy_2 rfl rfl (show zyR _ _ _ _ [some (.ref (43 + 3)), none, some (.int x2), some (.int x3), some (.int x4), some (.int x5), some (.int x6), none, none] [.int x3, .int (x2 * (x5 - (1 : Int32))), .ref (52 + 3), .int (p1.2.1 53 ((((16 : Int32) * (x5 - (1 : Int32))) + x6)).toNatClampNeg)] _ _ from ?_)
    refine zy_10 rfl (show zyR _ _ _ _ [some (.ref (43 + 3)), none, some (.int x2), some (.int x3), some (.int x4), some (.int x5), some (.int x6), none, none] [.int ((x2 * (x5 - (1 : Int32))) + x3), .ref (52 + 3), .int (p1.2.1 53 ((((16 : Int32) * (x5 - (1 : Int32))) + x6)).toNatClampNeg)] _ _ from ?_)
    refine zy_2 rfl rfl (show zyR _ _ _ _ [some (.ref (43 + 3)), none, some (.int x2), some (.int x3), some (.int x4), some (.int x5), some (.int x6), none, none] [.int x6, .int ((x2 * (x5 - (1 : Int32))) + x3), .ref (52 + 3), .int (p1.2.1 53 ((((16 : Int32) * (x5 - (1 : Int32))) + x6)).toNatClampNeg)] _ _ from ?_)
    obtain ⟨p3, hp3, h⟩ := zy_bind h
    refine zy_60 (as := [.int x6]) (rest := [.int ((x2 * (x5 - (1 : Int32))) + x3), .ref (52 + 3), .int (p1.2.1 53 ((((16 : Int32) * (x5 - (1 : Int32))) + x6)).toNatClampNeg)]) (L := [some (.int x6), none, none]) (d' := 1) rfl rfl (Nat.le_of_ble_eq_true rfl) (Nat.le_of_ble_eq_true rfl) rfl (Nat.le_of_ble_eq_true rfl) rfl rfl (zyC209 hp3) ?_
    show zyR _ _ _ _ [some (.ref (43 + 3)), none, some (.int x2), some (.int x3), some (.int x4), some (.int x5), some (.int x6), none, none] [.int p3.1, .int ((x2 * (x5 - (1 : Int32))) + x3), .ref (52 + 3), .int (p1.2.1 53 ((((16 : Int32) * (x5 - (1 : Int32))) + x6)).toNatClampNeg)] _ _
    refine zy_11 rfl (show zyR _ _ _ _ [some (.ref (43 + 3)), none, some (.int x2), some (.int x3), some (.int x4), some (.int x5), some (.int x6), none, none] [.int (((x2 * (x5 - (1 : Int32))) + x3) - p3.1), .ref (52 + 3), .int (p1.2.1 53 ((((16 : Int32) * (x5 - (1 : Int32))) + x6)).toNatClampNeg)] _ _ from ?_)
    obtain ⟨c4, h⟩ := zy_if h
    refine zy_26 (c := 52) rfl rfl c4 (show zyR _ _ _ _ [some (.ref (43 + 3)), none, some (.int x2), some (.int x3), some (.int x4), some (.int x5), some (.int x6), none, none] [.int (p3.2.1 52 ((((x2 * (x5 - (1 : Int32))) + x3) - p3.1)).toNatClampNeg), .int (p1.2.1 53 ((((16 : Int32) * (x5 - (1 : Int32))) + x6)).toNatClampNeg)] _ _ from ?_)
    refine zy_10 rfl (show zyR _ _ _ _ [some (.ref (43 + 3)), none, some (.int x2), some (.int x3), some (.int x4), some (.int x5), some (.int x6), none, none] [.int ((p1.2.1 53 ((((16 : Int32) * (x5 - (1 : Int32))) + x6)).toNatClampNeg) + (p3.2.1 52 ((((x2 * (x5 - (1 : Int32))) + x3) - p3.1)).toNatClampNeg))] _ _ from ?_)
    refine zy_0 rfl rfl (show zyR _ _ _ _ [some (.ref (43 + 3)), none, some (.int x2), some (.int x3), some (.int x4), some (.int x5), some (.int x6), none, none] [.ref (43 + 3), .int ((p1.2.1 53 ((((16 : Int32) * (x5 - (1 : Int32))) + x6)).toNatClampNeg) + (p3.2.1 52 ((((x2 * (x5 - (1 : Int32))) + x3) - p3.1)).toNatClampNeg))] _ _ from ?_)
    refine zy_1r (c := 43) rfl rfl rfl (show zyR _ _ _ _ [some (.ref (43 + 3)), none, some (.int x2), some (.int x3), some (.int x4), some (.int x5), some (.int x6), none, none] [.ref (52 + 3), .int ((p1.2.1 53 ((((16 : Int32) * (x5 - (1 : Int32))) + x6)).toNatClampNeg) + (p3.2.1 52 ((((x2 * (x5 - (1 : Int32))) + x3) - p3.1)).toNatClampNeg))] _ _ from ?_)
    refine zy_2 rfl rfl (show zyR _ _ _ _ [some (.ref (43 + 3)), none, some (.int x2), some (.int x3), some (.int x4), some (.int x5), some (.int x6), none, none] [.int x2, .ref (52 + 3), .int ((p1.2.1 53 ((((16 : Int32) * (x5 - (1 : Int32))) + x6)).toNatClampNeg) + (p3.2.1 52 ((((x2 * (x5 - (1 : Int32))) + x3) - p3.1)).toNatClampNeg))] _ _ from ?_)
    refine zy_2 rfl rfl (show zyR _ _ _ _ [some (.ref (43 + 3)), none, some (.int x2), some (.int x3), some (.int x4), some (.int x5), some (.int x6), none, none] [.int x5, .int x2, .ref (52 + 3), .int ((p1.2.1 53 ((((16 : Int32) * (x5 - (1 : Int32))) + x6)).toNatClampNeg) + (p3.2.1 52 ((((x2 * (x5 - (1 : Int32))) + x3) - p3.1)).toNatClampNeg))] _ _ from ?_)
    refine zy_12 rfl (show zyR _ _ _ _ [some (.ref (43 + 3)), none, some (.int x2), some (.int x3), some (.int x4), some (.int x5), some (.int x6), none, none] [.int (x2 * x5), .ref (52 + 3), .int ((p1.2.1 53 ((((16 : Int32) * (x5 - (1 : Int32))) + x6)).toNatClampNeg) + (p3.2.1 52 ((((x2 * (x5 - (1 : Int32))) + x3) - p3.1)).toNatClampNeg))] _ _ from ?_)
    refine zy_2 rfl rfl (show zyR _ _ _ _ [some (.ref (43 + 3)), none, some (.int x2), some (.int x3), some (.int x4), some (.int x5), some (.int x6), none, none] [.int x3, .int (x2 * x5), .ref (52 + 3), .int ((p1.2.1 53 ((((16 : Int32) * (x5 - (1 : Int32))) + x6)).toNatClampNeg) + (p3.2.1 52 ((((x2 * (x5 - (1 : Int32))) + x3) - p3.1)).toNatClampNeg))] _ _ from ?_)
    refine zy_10 rfl (show zyR _ _ _ _ [some (.ref (43 + 3)), none, some (.int x2), some (.int x3), some (.int x4), some (.int x5), some (.int x6), none, none] [.int ((x2 * x5) + x3), .ref (52 + 3), .int ((p1.2.1 53 ((((16 : Int32) * (x5 - (1 : Int32))) + x6)).toNatClampNeg) + (p3.2.1 52 ((((x2 * (x5 - (1 : Int32))) + x3) - p3.1)).toNatClampNeg))] _ _ from ?_)
    obtain ⟨c5, h⟩ := zy_if h
    refine zy_26 (c := 52) rfl rfl c5 (show zyR _ _ _ _ [some (.ref (43 + 3)), none, some (.int x2), some (.int x3), some (.int x4), some (.int x5), some (.int x6), none, none] [.int (p3.2.1 52 (((x2 * x5) + x3)).toNatClampNeg), .int ((p1.2.1 53 ((((16 : Int32) * (x5 - (1 : Int32))) + x6)).toNatClampNeg) + (p3.2.1 52 ((((x2 * (x5 - (1 : Int32))) + x3) - p3.1)).toNatClampNeg))] _ _ from ?_)
    refine zy_25_0 rfl (fun b7 => (show zyR _ _ _ _ [some (.ref (43 + 3)), none, some (.int x2), some (.int x3), some (.int x4), some (.int x5), some (.int x6), none, none] [] _ _ from ?_)) (fun b7 => (show zyR _ _ _ _ [some (.ref (43 + 3)), none, some (.int x2), some (.int x3), some (.int x4), some (.int x5), some (.int x6), none, none] [] _ _ from ?_))
    · replace h := zy_ifp h b7
      refine zy_2 rfl rfl (show zyR _ _ _ _ [some (.ref (43 + 3)), none, some (.int x2), some (.int x3), some (.int x4), some (.int x5), some (.int x6), none, none] [.int x4] _ _ from ?_)
      refine zy_2 rfl rfl (show zyR _ _ _ _ [some (.ref (43 + 3)), none, some (.int x2), some (.int x3), some (.int x4), some (.int x5), some (.int x6), none, none] [.int x6, .int x4] _ _ from ?_)
      refine zy_3 rfl rfl (show zyR _ _ _ _ [some (.ref (43 + 3)), none, some (.int x2), some (.int x3), some (.int x4), some (.int x5), some (.int x6), none, none] [.int (4 : Int32), .int x6, .int x4] _ _ from ?_)
      refine zy_2 rfl rfl (show zyR _ _ _ _ [some (.ref (43 + 3)), none, some (.int x2), some (.int x3), some (.int x4), some (.int x5), some (.int x6), none, none] [.int x5, .int (4 : Int32), .int x6, .int x4] _ _ from ?_)
      refine zy_3 rfl rfl (show zyR _ _ _ _ [some (.ref (43 + 3)), none, some (.int x2), some (.int x3), some (.int x4), some (.int x5), some (.int x6), none, none] [.int (1 : Int32), .int x5, .int (4 : Int32), .int x6, .int x4] _ _ from ?_)
      refine zy_11 rfl (show zyR _ _ _ _ [some (.ref (43 + 3)), none, some (.int x2), some (.int x3), some (.int x4), some (.int x5), some (.int x6), none, none] [.int (x5 - (1 : Int32)), .int (4 : Int32), .int x6, .int x4] _ _ from ?_)
      refine zy_12 rfl (show zyR _ _ _ _ [some (.ref (43 + 3)), none, some (.int x2), some (.int x3), some (.int x4), some (.int x5), some (.int x6), none, none] [.int ((4 : Int32) * (x5 - (1 : Int32))), .int x6, .int x4] _ _ from ?_)
      refine zy_16 rfl (show zyR _ _ _ _ [some (.ref (43 + 3)), none, some (.int x2), some (.int x3), some (.int x4), some (.int x5), some (.int x6), none, none] [.int (x6 <<< (((4 : Int32) * (x5 - (1 : Int32))) &&& 31)), .int x4] _ _ from ?_)
      refine zy_14 rfl (show zyR _ _ _ _ [some (.ref (43 + 3)), none, some (.int x2), some (.int x3), some (.int x4), some (.int x5), some (.int x6), none, none] [.int (x4 ||| (x6 <<< (((4 : Int32) * (x5 - (1 : Int32))) &&& 31)))] _ _ from ?_)
      refine zy_23 rfl rfl (show zyR _ _ _ _ [some (.ref (43 + 3)), none, some (.int x2), some (.int x3), some (.int (x4 ||| (x6 <<< (((4 : Int32) * (x5 - (1 : Int32))) &&& 31)))), some (.int x5), some (.int x6), none, none] [] _ _ from ?_)
      refine zy_2 rfl rfl (show zyR _ _ _ _ [some (.ref (43 + 3)), none, some (.int x2), some (.int x3), some (.int (x4 ||| (x6 <<< (((4 : Int32) * (x5 - (1 : Int32))) &&& 31)))), some (.int x5), some (.int x6), none, none] [.int x3] _ _ from ?_)
      refine zy_2 rfl rfl (show zyR _ _ _ _ [some (.ref (43 + 3)), none, some (.int x2), some (.int x3), some (.int (x4 ||| (x6 <<< (((4 : Int32) * (x5 - (1 : Int32))) &&& 31)))), some (.int x5), some (.int x6), none, none] [.int x6, .int x3] _ _ from ?_)
      obtain ⟨p6, hp6, h⟩ := zy_bind h
      refine zy_60 (as := [.int x6]) (rest := [.int x3]) (L := [some (.int x6), none, none]) (d' := 1) rfl rfl (Nat.le_of_ble_eq_true rfl) (Nat.le_of_ble_eq_true rfl) rfl (Nat.le_of_ble_eq_true rfl) rfl rfl (zyC209 hp6) ?_
      show zyR _ _ _ _ [some (.ref (43 + 3)), none, some (.int x2), some (.int x3), some (.int (x4 ||| (x6 <<< (((4 : Int32) * (x5 - (1 : Int32))) &&& 31)))), some (.int x5), some (.int x6), none, none] [.int p6.1, .int x3] _ _
      refine zy_11 rfl (show zyR _ _ _ _ [some (.ref (43 + 3)), none, some (.int x2), some (.int x3), some (.int (x4 ||| (x6 <<< (((4 : Int32) * (x5 - (1 : Int32))) &&& 31)))), some (.int x5), some (.int x6), none, none] [.int (x3 - p6.1)] _ _ from ?_)
      refine zy_23 rfl rfl (show zyR _ _ _ _ [some (.ref (43 + 3)), none, some (.int x2), some (.int (x3 - p6.1)), some (.int (x4 ||| (x6 <<< (((4 : Int32) * (x5 - (1 : Int32))) &&& 31)))), some (.int x5), some (.int x6), none, none] [] _ _ from ?_)
      refine zy_22 rfl rfl rfl rfl (show zyR _ _ _ _ [some (.ref (43 + 3)), none, some (.int x2), some (.int (x3 - p6.1)), some (.int (x4 ||| (x6 <<< (((4 : Int32) * (x5 - (1 : Int32))) &&& 31)))), some (.int (x5 + (-1 : Int32))), some (.int x6), none, none] [] _ _ from ?_)
      refine zy_6 rfl (show zyR _ _ _ _ [some (.ref (43 + 3)), none, some (.int x2), some (.int (x3 - p6.1)), some (.int (x4 ||| (x6 <<< (((4 : Int32) * (x5 - (1 : Int32))) &&& 31)))), some (.int (x5 + (-1 : Int32))), some (.int x6), none, none] [] _ _ from ?_)
      exact zy_sub (show zy_le [some (.ref (43 + 3)), none, some (.int x2), some (.int (x3 - p6.1)), some (.int (x4 ||| (x6 <<< (((4 : Int32) * (x5 - (1 : Int32))) &&& 31)))), some (.int (x5 + (-1 : Int32))), none, none, none] [some (.ref (43 + 3)), none, some (.int x2), some (.int (x3 - p6.1)), some (.int (x4 ||| (x6 <<< (((4 : Int32) * (x5 - (1 : Int32))) &&& 31)))), some (.int (x5 + (-1 : Int32))), some (.int x6), none, none] from ⟨rfl, ⟨rfl, ⟨rfl, ⟨rfl, ⟨rfl, trivial⟩⟩⟩⟩⟩) (hk254 x2 (x3 - p6.1) (x4 ||| (x6 <<< (((4 : Int32) * (x5 - (1 : Int32))) &&& 31))) (x5 + (-1 : Int32)) p6.2 _ _ h)
    · replace h := zy_ifn h b7
      exact zy_sub (show zy_le [some (.ref (43 + 3)), none, some (.int x2), some (.int x3), some (.int x4), some (.int x5), some (.int x6), none, none] [some (.ref (43 + 3)), none, some (.int x2), some (.int x3), some (.int x4), some (.int x5), some (.int x6), none, none] from ⟨rfl, ⟨rfl, ⟨rfl, ⟨rfl, ⟨rfl, ⟨rfl, trivial⟩⟩⟩⟩⟩⟩) (zyC215_320 hk254 hk262 h)
noncomputable def zyF215_262  (k254 : Int32 → Int32 → Int32 → Int32 → zy_S → Option (Int32 × zy_S)) (n : Nat) : Int32 → Int32 → Int32 → Int32 → Int32 → zy_S → Option (Int32 × zy_S) := Nat.rec (fun _ _ _ _ _ _ => none) (fun _ k262 => zyF215_262b k254 k262) n
theorem zyC215_262 {X : zx_X}  {k254 : Int32 → Int32 → Int32 → Int32 → zy_S → Option (Int32 × zy_S)}  (hk254 : ∀ (x2 : Int32) (x3 : Int32) (x4 : Int32) (x5 : Int32) (s : zy_S) (r : Int32) (s' : zy_S), k254 x2 x3 x4 x5 s = some (r, s') → zyR X 106 215 254 [some (.ref (43 + 3)), none, some (.int x2), some (.int x3), some (.int x4), some (.int x5), none, none, none] [] s (zyE (some (.int r)) s')) : ∀ (n : Nat) (x2 : Int32) (x3 : Int32) (x4 : Int32) (x5 : Int32) (x6 : Int32) (s : zy_S) (r : Int32) (s' : zy_S), zyF215_262 k254 n x2 x3 x4 x5 x6 s = some (r, s') → zyR X 106 215 262 [some (.ref (43 + 3)), none, some (.int x2), some (.int x3), some (.int x4), some (.int x5), some (.int x6), none, none] [] s (zyE (some (.int r)) s')
  | 0, _, _, _, _, _ => by
    intro s r s'  h
    have h : (none : Option (Int32 × zy_S)) = some (r, s') := h
    cases h
  | n + 1, x2, x3, x4, x5, x6 => by
    intro s r s'  h
    exact zyC215_262b (k262 := zyF215_262 k254 n) hk254 (fun x2 x3 x4 x5 x6 s r s'  h => zyC215_262 hk254 n x2 x3 x4 x5 x6 s r s'  h) h
noncomputable def zyF215_254b  (k254 : Int32 → Int32 → Int32 → Int32 → zy_S → Option (Int32 × zy_S)) (x2 : Int32) (x3 : Int32) (x4 : Int32) (x5 : Int32) (s : zy_S) : Option (Int32 × zy_S) :=
if x5 ≤ 0 then
some (x4, s)
else
zyF215_262 k254 zy_fu x2 x3 x4 x5 (0 : Int32) s
theorem zyC215_254b {X : zx_X}  {k254 : Int32 → Int32 → Int32 → Int32 → zy_S → Option (Int32 × zy_S)}  (hk254 : ∀ (x2 : Int32) (x3 : Int32) (x4 : Int32) (x5 : Int32) (s : zy_S) (r : Int32) (s' : zy_S), k254 x2 x3 x4 x5 s = some (r, s') → zyR X 106 215 254 [some (.ref (43 + 3)), none, some (.int x2), some (.int x3), some (.int x4), some (.int x5), none, none, none] [] s (zyE (some (.int r)) s')) {x2 : Int32} {x3 : Int32} {x4 : Int32} {x5 : Int32} {s : zy_S} {r : Int32} {s' : zy_S}  (h : zyF215_254b k254 x2 x3 x4 x5 s = some (r, s')) : zyR X 106 215 254 [some (.ref (43 + 3)), none, some (.int x2), some (.int x3), some (.int x4), some (.int x5), none, none, none] [] s (zyE (some (.int r)) s') := by
  unfold zyF215_254b at h
  refine zy_2 rfl rfl (show zyR _ _ _ _ [some (.ref (43 + 3)), none, some (.int x2), some (.int x3), some (.int x4), some (.int x5), none, none, none] [.int x5] _ _ from ?_)
  refine zy_24_5 rfl (fun b9 => (show zyR _ _ _ _ [some (.ref (43 + 3)), none, some (.int x2), some (.int x3), some (.int x4), some (.int x5), none, none, none] [] _ _ from ?_)) (fun b9 => (show zyR _ _ _ _ [some (.ref (43 + 3)), none, some (.int x2), some (.int x3), some (.int x4), some (.int x5), none, none, none] [] _ _ from ?_))
  · replace h := zy_ifp h b9
    refine zy_2 rfl rfl (show zyR _ _ _ _ [some (.ref (43 + 3)), none, some (.int x2), some (.int x3), some (.int x4), some (.int x5), none, none, none] [.int x4] _ _ from ?_)
    obtain ⟨rfl, rfl⟩ := zy_pi h
    exact zy_4 rfl ⟨rfl, rfl⟩
  · replace h := zy_ifn h b9
    refine zy_3 rfl rfl (show zyR _ _ _ _ [some (.ref (43 + 3)), none, some (.int x2), some (.int x3), some (.int x4), some (.int x5), none, none, none] [.int (0 : Int32)] _ _ from ?_)
    refine zy_23 rfl rfl (show zyR _ _ _ _ [some (.ref (43 + 3)), none, some (.int x2), some (.int x3), some (.int x4), some (.int x5), some (.int (0 : Int32)), none, none] [] _ _ from ?_)
    exact zy_sub (show zy_le [some (.ref (43 + 3)), none, some (.int x2), some (.int x3), some (.int x4), some (.int x5), some (.int (0 : Int32)), none, none] [some (.ref (43 + 3)), none, some (.int x2), some (.int x3), some (.int x4), some (.int x5), some (.int (0 : Int32)), none, none] from ⟨rfl, ⟨rfl, ⟨rfl, ⟨rfl, ⟨rfl, ⟨rfl, trivial⟩⟩⟩⟩⟩⟩) (zyC215_262 hk254 zy_fu x2 x3 x4 x5 (0 : Int32) s _ _ h)
noncomputable def zyF215_254   (n : Nat) : Int32 → Int32 → Int32 → Int32 → zy_S → Option (Int32 × zy_S) := Nat.rec (fun _ _ _ _ _ => none) (fun _ k254 => zyF215_254b k254) n
theorem zyC215_254 {X : zx_X}     : ∀ (n : Nat) (x2 : Int32) (x3 : Int32) (x4 : Int32) (x5 : Int32) (s : zy_S) (r : Int32) (s' : zy_S), zyF215_254 n x2 x3 x4 x5 s = some (r, s') → zyR X 106 215 254 [some (.ref (43 + 3)), none, some (.int x2), some (.int x3), some (.int x4), some (.int x5), none, none, none] [] s (zyE (some (.int r)) s')
  | 0, _, _, _, _ => by
    intro s r s'  h
    have h : (none : Option (Int32 × zy_S)) = some (r, s') := h
    cases h
  | n + 1, x2, x3, x4, x5 => by
    intro s r s'  h
    exact zyC215_254b (k254 := zyF215_254 n) (fun x2 x3 x4 x5 s r s'  h => zyC215_254  n x2 x3 x4 x5 s r s'  h) h
noncomputable def zyF215_198  (k82 : Int32 → Int32 → Int32 → zy_S → Option (Int32 × zy_S)) (k91 : Int32 → Int32 → Int32 → Int32 → zy_S → Option (Int32 × zy_S)) (x1 : Int32) (x2 : Int32) (x3 : Int32) (x4 : Int32) (x5 : Int32) (s : zy_S) : Option (Int32 × zy_S) :=
if zy_in ((x2 * x3) + x4) 70 then
k91 x1 x2 x3 (x4 + (1 : Int32)) (zy_up s 52 (((x2 * x3) + x4)).toNatClampNeg x5)
else none
theorem zyC215_198 {X : zx_X}  {k82 : Int32 → Int32 → Int32 → zy_S → Option (Int32 × zy_S)} {k91 : Int32 → Int32 → Int32 → Int32 → zy_S → Option (Int32 × zy_S)}  (hk82 : ∀ (x1 : Int32) (x2 : Int32) (x3 : Int32) (s : zy_S) (r : Int32) (s' : zy_S), k82 x1 x2 x3 s = some (r, s') → zyR X 106 215 82 [some (.ref (43 + 3)), some (.int x1), some (.int x2), some (.int x3), none, none, none, none, none] [] s (zyE (some (.int r)) s')) (hk91 : ∀ (x1 : Int32) (x2 : Int32) (x3 : Int32) (x4 : Int32) (s : zy_S) (r : Int32) (s' : zy_S), k91 x1 x2 x3 x4 s = some (r, s') → zyR X 106 215 91 [some (.ref (43 + 3)), some (.int x1), some (.int x2), some (.int x3), some (.int x4), none, none, none, none] [] s (zyE (some (.int r)) s')) {x1 : Int32} {x2 : Int32} {x3 : Int32} {x4 : Int32} {x5 : Int32} {s : zy_S} {r : Int32} {s' : zy_S}  (h : zyF215_198 k82 k91 x1 x2 x3 x4 x5 s = some (r, s')) : zyR X 106 215 198 [some (.ref (43 + 3)), some (.int x1), some (.int x2), some (.int x3), some (.int x4), some (.int x5), none, none, none] [] s (zyE (some (.int r)) s') := by
  unfold zyF215_198 at h
  refine zy_0 rfl rfl (show zyR _ _ _ _ [some (.ref (43 + 3)), some (.int x1), some (.int x2), some (.int x3), some (.int x4), some (.int x5), none, none, none] [.ref (43 + 3)] _ _ from ?_)
  refine zy_1r (c := 43) rfl rfl rfl (show zyR _ _ _ _ [some (.ref (43 + 3)), some (.int x1), some (.int x2), some (.int x3), some (.int x4), some (.int x5), none, none, none] [.ref (52 + 3)] _ _ from ?_)
  refine zy_2 rfl rfl (show zyR _ _ _ _ [some (.ref (43 + 3)), some (.int x1), some (.int x2), some (.int x3), some (.int x4), some (.int x5), none, none, none] [.int x2, .ref (52 + 3)] _ _ from ?_)
  refine zy_2 rfl rfl (show zyR _ _ _ _ [some (.ref (43 + 3)), some (.int x1), some (.int x2), some (.int x3), some (.int x4), some (.int x5), none, none, none] [.int x3, .int x2, .ref (52 + 3)] _ _ from ?_)
  refine zy_12 rfl (show zyR _ _ _ _ [some (.ref (43 + 3)), some (.int x1), some (.int x2), some (.int x3), some (.int x4), some (.int x5), none, none, none] [.int (x2 * x3), .ref (52 + 3)] _ _ from ?_)
  refine zy_2 rfl rfl (show zyR _ _ _ _ [some (.ref (43 + 3)), some (.int x1), some (.int x2), some (.int x3), some (.int x4), some (.int x5), none, none, none] [.int x4, .int (x2 * x3), .ref (52 + 3)] _ _ from ?_)
  refine zy_10 rfl (show zyR _ _ _ _ [some (.ref (43 + 3)), some (.int x1), some (.int x2), some (.int x3), some (.int x4), some (.int x5), none, none, none] [.int ((x2 * x3) + x4), .ref (52 + 3)] _ _ from ?_)
  refine zy_2 rfl rfl (show zyR _ _ _ _ [some (.ref (43 + 3)), some (.int x1), some (.int x2), some (.int x3), some (.int x4), some (.int x5), none, none, none] [.int x5, .int ((x2 * x3) + x4), .ref (52 + 3)] _ _ from ?_)
  obtain ⟨c10, h⟩ := zy_if h
  refine zy_27 (c := 52) rfl rfl c10 (show zyR _ _ _ _ [some (.ref (43 + 3)), some (.int x1), some (.int x2), some (.int x3), some (.int x4), some (.int x5), none, none, none] [] _ _ from ?_)
  refine zy_22 rfl rfl rfl rfl (show zyR _ _ _ _ [some (.ref (43 + 3)), some (.int x1), some (.int x2), some (.int x3), some (.int (x4 + (1 : Int32))), some (.int x5), none, none, none] [] _ _ from ?_)
  refine zy_6 rfl (show zyR _ _ _ _ [some (.ref (43 + 3)), some (.int x1), some (.int x2), some (.int x3), some (.int (x4 + (1 : Int32))), some (.int x5), none, none, none] [] _ _ from ?_)
  exact zy_sub (show zy_le [some (.ref (43 + 3)), some (.int x1), some (.int x2), some (.int x3), some (.int (x4 + (1 : Int32))), none, none, none, none] [some (.ref (43 + 3)), some (.int x1), some (.int x2), some (.int x3), some (.int (x4 + (1 : Int32))), some (.int x5), none, none, none] from ⟨rfl, ⟨rfl, ⟨rfl, ⟨rfl, ⟨rfl, trivial⟩⟩⟩⟩⟩) (hk91 x1 x2 x3 (x4 + (1 : Int32)) (zy_up s 52 (((x2 * x3) + x4)).toNatClampNeg x5) _ _ h)
noncomputable def zyF215_190  (k82 : Int32 → Int32 → Int32 → zy_S → Option (Int32 × zy_S)) (k91 : Int32 → Int32 → Int32 → Int32 → zy_S → Option (Int32 × zy_S)) (k113 : Int32 → Int32 → Int32 → Int32 → Int32 → Int32 → zy_S → Option (Int32 × zy_S)) (x1 : Int32) (x2 : Int32) (x3 : Int32) (x4 : Int32) (x6 : Int32) (y0 : Int32) (s : zy_S) : Option (Int32 × zy_S) :=
k113 x1 x2 x3 x4 y0 (x6 + (1 : Int32)) s
theorem zyC215_190 {X : zx_X}  {k82 : Int32 → Int32 → Int32 → zy_S → Option (Int32 × zy_S)} {k91 : Int32 → Int32 → Int32 → Int32 → zy_S → Option (Int32 × zy_S)} {k113 : Int32 → Int32 → Int32 → Int32 → Int32 → Int32 → zy_S → Option (Int32 × zy_S)}  (hk82 : ∀ (x1 : Int32) (x2 : Int32) (x3 : Int32) (s : zy_S) (r : Int32) (s' : zy_S), k82 x1 x2 x3 s = some (r, s') → zyR X 106 215 82 [some (.ref (43 + 3)), some (.int x1), some (.int x2), some (.int x3), none, none, none, none, none] [] s (zyE (some (.int r)) s')) (hk91 : ∀ (x1 : Int32) (x2 : Int32) (x3 : Int32) (x4 : Int32) (s : zy_S) (r : Int32) (s' : zy_S), k91 x1 x2 x3 x4 s = some (r, s') → zyR X 106 215 91 [some (.ref (43 + 3)), some (.int x1), some (.int x2), some (.int x3), some (.int x4), none, none, none, none] [] s (zyE (some (.int r)) s')) (hk113 : ∀ (x1 : Int32) (x2 : Int32) (x3 : Int32) (x4 : Int32) (x5 : Int32) (x6 : Int32) (s : zy_S) (r : Int32) (s' : zy_S), k113 x1 x2 x3 x4 x5 x6 s = some (r, s') → zyR X 106 215 113 [some (.ref (43 + 3)), some (.int x1), some (.int x2), some (.int x3), some (.int x4), some (.int x5), some (.int x6), none, none] [] s (zyE (some (.int r)) s')) {x1 : Int32} {x2 : Int32} {x3 : Int32} {x4 : Int32} {x6 : Int32} {y0 : Int32} {s : zy_S} {r : Int32} {s' : zy_S}  (h : zyF215_190 k82 k91 k113 x1 x2 x3 x4 x6 y0 s = some (r, s')) : zyR X 106 215 190 [some (.ref (43 + 3)), some (.int x1), some (.int x2), some (.int x3), some (.int x4), none, some (.int x6), none, none] [.int y0] s (zyE (some (.int r)) s') := by
  unfold zyF215_190 at h
  refine zy_23 rfl rfl (show zyR _ _ _ _ [some (.ref (43 + 3)), some (.int x1), some (.int x2), some (.int x3), some (.int x4), some (.int y0), some (.int x6), none, none] [] _ _ from ?_)
  refine zy_22 rfl rfl rfl rfl (show zyR _ _ _ _ [some (.ref (43 + 3)), some (.int x1), some (.int x2), some (.int x3), some (.int x4), some (.int y0), some (.int (x6 + (1 : Int32))), none, none] [] _ _ from ?_)
  refine zy_6 rfl (show zyR _ _ _ _ [some (.ref (43 + 3)), some (.int x1), some (.int x2), some (.int x3), some (.int x4), some (.int y0), some (.int (x6 + (1 : Int32))), none, none] [] _ _ from ?_)
  exact zy_sub (show zy_le [some (.ref (43 + 3)), some (.int x1), some (.int x2), some (.int x3), some (.int x4), some (.int y0), some (.int (x6 + (1 : Int32))), none, none] [some (.ref (43 + 3)), some (.int x1), some (.int x2), some (.int x3), some (.int x4), some (.int y0), some (.int (x6 + (1 : Int32))), none, none] from ⟨rfl, ⟨rfl, ⟨rfl, ⟨rfl, ⟨rfl, ⟨rfl, ⟨rfl, trivial⟩⟩⟩⟩⟩⟩⟩) (hk113 x1 x2 x3 x4 y0 (x6 + (1 : Int32)) s _ _ h)
noncomputable def zyF215_174  (k82 : Int32 → Int32 → Int32 → zy_S → Option (Int32 × zy_S)) (k91 : Int32 → Int32 → Int32 → Int32 → zy_S → Option (Int32 × zy_S)) (k113 : Int32 → Int32 → Int32 → Int32 → Int32 → Int32 → zy_S → Option (Int32 × zy_S)) (x1 : Int32) (x2 : Int32) (x3 : Int32) (x4 : Int32) (x5 : Int32) (x6 : Int32) (y0 : Int32) (s : zy_S) : Option (Int32 × zy_S) :=
if x5 ≤ y0 then
zyF215_190 k82 k91 k113 x1 x2 x3 x4 x6 x5 s
else
zyF215_190 k82 k91 k113 x1 x2 x3 x4 x6 y0 s
theorem zyC215_174 {X : zx_X}  {k82 : Int32 → Int32 → Int32 → zy_S → Option (Int32 × zy_S)} {k91 : Int32 → Int32 → Int32 → Int32 → zy_S → Option (Int32 × zy_S)} {k113 : Int32 → Int32 → Int32 → Int32 → Int32 → Int32 → zy_S → Option (Int32 × zy_S)}  (hk82 : ∀ (x1 : Int32) (x2 : Int32) (x3 : Int32) (s : zy_S) (r : Int32) (s' : zy_S), k82 x1 x2 x3 s = some (r, s') → zyR X 106 215 82 [some (.ref (43 + 3)), some (.int x1), some (.int x2), some (.int x3), none, none, none, none, none] [] s (zyE (some (.int r)) s')) (hk91 : ∀ (x1 : Int32) (x2 : Int32) (x3 : Int32) (x4 : Int32) (s : zy_S) (r : Int32) (s' : zy_S), k91 x1 x2 x3 x4 s = some (r, s') → zyR X 106 215 91 [some (.ref (43 + 3)), some (.int x1), some (.int x2), some (.int x3), some (.int x4), none, none, none, none] [] s (zyE (some (.int r)) s')) (hk113 : ∀ (x1 : Int32) (x2 : Int32) (x3 : Int32) (x4 : Int32) (x5 : Int32) (x6 : Int32) (s : zy_S) (r : Int32) (s' : zy_S), k113 x1 x2 x3 x4 x5 x6 s = some (r, s') → zyR X 106 215 113 [some (.ref (43 + 3)), some (.int x1), some (.int x2), some (.int x3), some (.int x4), some (.int x5), some (.int x6), none, none] [] s (zyE (some (.int r)) s')) {x1 : Int32} {x2 : Int32} {x3 : Int32} {x4 : Int32} {x5 : Int32} {x6 : Int32} {y0 : Int32} {s : zy_S} {r : Int32} {s' : zy_S}  (h : zyF215_174 k82 k91 k113 x1 x2 x3 x4 x5 x6 y0 s = some (r, s')) : zyR X 106 215 174 [some (.ref (43 + 3)), some (.int x1), some (.int x2), some (.int x3), some (.int x4), some (.int x5), some (.int x6), none, none] [.int y0] s (zyE (some (.int r)) s') := by
  unfold zyF215_174 at h
  refine zy_23 rfl rfl (show zyR _ _ _ _ [some (.ref (43 + 3)), some (.int x1), some (.int x2), some (.int x3), some (.int x4), some (.int x5), some (.int x6), none, some (.int y0)] [] _ _ from ?_)
  refine zy_2 rfl rfl (show zyR _ _ _ _ [some (.ref (43 + 3)), some (.int x1), some (.int x2), some (.int x3), some (.int x4), some (.int x5), some (.int x6), none, some (.int y0)] [.int y0] _ _ from ?_)
  refine zy_2 rfl rfl (show zyR _ _ _ _ [some (.ref (43 + 3)), some (.int x1), some (.int x2), some (.int x3), some (.int x4), some (.int x5), some (.int x6), none, some (.int y0)] [.int x5, .int y0] _ _ from ?_)
  refine zy_25_3 rfl (fun b11 => (show zyR _ _ _ _ [some (.ref (43 + 3)), some (.int x1), some (.int x2), some (.int x3), some (.int x4), some (.int x5), some (.int x6), none, some (.int y0)] [] _ _ from ?_)) (fun b11 => (show zyR _ _ _ _ [some (.ref (43 + 3)), some (.int x1), some (.int x2), some (.int x3), some (.int x4), some (.int x5), some (.int x6), none, some (.int y0)] [] _ _ from ?_))
  · replace h := zy_ifp h b11
    refine zy_2 rfl rfl (show zyR _ _ _ _ [some (.ref (43 + 3)), some (.int x1), some (.int x2), some (.int x3), some (.int x4), some (.int x5), some (.int x6), none, some (.int y0)] [.int x5] _ _ from ?_)
    exact zy_sub (show zy_le [some (.ref (43 + 3)), some (.int x1), some (.int x2), some (.int x3), some (.int x4), none, some (.int x6), none, none] [some (.ref (43 + 3)), some (.int x1), some (.int x2), some (.int x3), some (.int x4), some (.int x5), some (.int x6), none, some (.int y0)] from ⟨rfl, ⟨rfl, ⟨rfl, ⟨rfl, ⟨rfl, ⟨rfl, trivial⟩⟩⟩⟩⟩⟩) (zyC215_190 hk82 hk91 hk113 h)
  · replace h := zy_ifn h b11
    refine zy_2 rfl rfl (show zyR _ _ _ _ [some (.ref (43 + 3)), some (.int x1), some (.int x2), some (.int x3), some (.int x4), some (.int x5), some (.int x6), none, some (.int y0)] [.int y0] _ _ from ?_)
    refine zy_6 rfl (show zyR _ _ _ _ [some (.ref (43 + 3)), some (.int x1), some (.int x2), some (.int x3), some (.int x4), some (.int x5), some (.int x6), none, some (.int y0)] [.int y0] _ _ from ?_)
    exact zy_sub (show zy_le [some (.ref (43 + 3)), some (.int x1), some (.int x2), some (.int x3), some (.int x4), none, some (.int x6), none, none] [some (.ref (43 + 3)), some (.int x1), some (.int x2), some (.int x3), some (.int x4), some (.int x5), some (.int x6), none, some (.int y0)] from ⟨rfl, ⟨rfl, ⟨rfl, ⟨rfl, ⟨rfl, ⟨rfl, trivial⟩⟩⟩⟩⟩⟩) (zyC215_190 hk82 hk91 hk113 h)
noncomputable def zyF215_113b  (k82 : Int32 → Int32 → Int32 → zy_S → Option (Int32 × zy_S)) (k91 : Int32 → Int32 → Int32 → Int32 → zy_S → Option (Int32 × zy_S)) (k113 : Int32 → Int32 → Int32 → Int32 → Int32 → Int32 → zy_S → Option (Int32 × zy_S)) (x1 : Int32) (x2 : Int32) (x3 : Int32) (x4 : Int32) (x5 : Int32) (x6 : Int32) (s : zy_S) : Option (Int32 × zy_S) :=
if (16 : Int32) ≤ x6 then
zyF215_198 k82 k91 x1 x2 x3 x4 x5 s
else
if x3 ≤ 0 then
zyF215_198 k82 k91 x1 x2 x3 x4 x5 s
else
(zyF209 x6 s).bind fun p12 =>
if p12.1 ≤ x4 then
if zy_in (((16 : Int32) * (x3 - (1 : Int32))) + x6) 96 then
if zy_in (((x2 * (x3 - (1 : Int32))) + x4) - p12.1) 70 then
zyF215_174 k82 k91 k113 x1 x2 x3 x4 x5 x6 ((p12.2.1 53 ((((16 : Int32) * (x3 - (1 : Int32))) + x6)).toNatClampNeg) + (p12.2.1 52 ((((x2 * (x3 - (1 : Int32))) + x4) - p12.1)).toNatClampNeg)) p12.2
else none
else none
else
zyF215_174 k82 k91 k113 x1 x2 x3 x4 x5 x6 (1000000 : Int32) p12.2
theorem zyC215_113b {X : zx_X}  {k82 : Int32 → Int32 → Int32 → zy_S → Option (Int32 × zy_S)} {k91 : Int32 → Int32 → Int32 → Int32 → zy_S → Option (Int32 × zy_S)} {k113 : Int32 → Int32 → Int32 → Int32 → Int32 → Int32 → zy_S → Option (Int32 × zy_S)}  (hk82 : ∀ (x1 : Int32) (x2 : Int32) (x3 : Int32) (s : zy_S) (r : Int32) (s' : zy_S), k82 x1 x2 x3 s = some (r, s') → zyR X 106 215 82 [some (.ref (43 + 3)), some (.int x1), some (.int x2), some (.int x3), none, none, none, none, none] [] s (zyE (some (.int r)) s')) (hk91 : ∀ (x1 : Int32) (x2 : Int32) (x3 : Int32) (x4 : Int32) (s : zy_S) (r : Int32) (s' : zy_S), k91 x1 x2 x3 x4 s = some (r, s') → zyR X 106 215 91 [some (.ref (43 + 3)), some (.int x1), some (.int x2), some (.int x3), some (.int x4), none, none, none, none] [] s (zyE (some (.int r)) s')) (hk113 : ∀ (x1 : Int32) (x2 : Int32) (x3 : Int32) (x4 : Int32) (x5 : Int32) (x6 : Int32) (s : zy_S) (r : Int32) (s' : zy_S), k113 x1 x2 x3 x4 x5 x6 s = some (r, s') → zyR X 106 215 113 [some (.ref (43 + 3)), some (.int x1), some (.int x2), some (.int x3), some (.int x4), some (.int x5), some (.int x6), none, none] [] s (zyE (some (.int r)) s')) {x1 : Int32} {x2 : Int32} {x3 : Int32} {x4 : Int32} {x5 : Int32} {x6 : Int32} {s : zy_S} {r : Int32} {s' : zy_S}  (h : zyF215_113b k82 k91 k113 x1 x2 x3 x4 x5 x6 s = some (r, s')) : zyR X 106 215 113 [some (.ref (43 + 3)), some (.int x1), some (.int x2), some (.int x3), some (.int x4), some (.int x5), some (.int x6), none, none] [] s (zyE (some (.int r)) s') := by
  unfold zyF215_113b at h
  refine zy_2 rfl rfl (show zyR _ _ _ _ [some (.ref (43 + 3)), some (.int x1), some (.int x2), some (.int x3), some (.int x4), some (.int x5), some (.int x6), none, none] [.int x6] _ _ from ?_)
  refine zy_3 rfl rfl (show zyR _ _ _ _ [some (.ref (43 + 3)), some (.int x1), some (.int x2), some (.int x3), some (.int x4), some (.int x5), some (.int x6), none, none] [.int (16 : Int32), .int x6] _ _ from ?_)
  refine zy_25_3 rfl (fun b17 => (show zyR _ _ _ _ [some (.ref (43 + 3)), some (.int x1), some (.int x2), some (.int x3), some (.int x4), some (.int x5), some (.int x6), none, none] [] _ _ from ?_)) (fun b17 => (show zyR _ _ _ _ [some (.ref (43 + 3)), some (.int x1), some (.int x2), some (.int x3), some (.int x4), some (.int x5), some (.int x6), none, none] [] _ _ from ?_))
  · replace h := zy_ifp h b17
    exact zy_sub (show zy_le [some (.ref (43 + 3)), some (.int x1), some (.int x2), some (.int x3), some (.int x4), some (.int x5), none, none, none] [some (.ref (43 + 3)), some (.int x1), some (.int x2), some (.int x3), some (.int x4), some (.int x5), some (.int x6), none, none] from ⟨rfl, ⟨rfl, ⟨rfl, ⟨rfl, ⟨rfl, ⟨rfl, trivial⟩⟩⟩⟩⟩⟩) (zyC215_198 hk82 hk91 h)
  · replace h := zy_ifn h b17
    refine zy_2 rfl rfl (show zyR _ _ _ _ [some (.ref (43 + 3)), some (.int x1), some (.int x2), some (.int x3), some (.int x4), some (.int x5), some (.int x6), none, none] [.int x3] _ _ from ?_)
    refine zy_24_5 rfl (fun b16 => (show zyR _ _ _ _ [some (.ref (43 + 3)), some (.int x1), some (.int x2), some (.int x3), some (.int x4), some (.int x5), some (.int x6), none, none] [] _ _ from ?_)) (fun b16 => (show zyR _ _ _ _ [some (.ref (43 + 3)), some (.int x1), some (.int x2), some (.int x3), some (.int x4), some (.int x5), some (.int x6), none, none] [] _ _ from ?_))
    · replace h := zy_ifp h b16
      exact zy_sub (show zy_le [some (.ref (43 + 3)), some (.int x1), some (.int x2), some (.int x3), some (.int x4), some (.int x5), none, none, none] [some (.ref (43 + 3)), some (.int x1), some (.int x2), some (.int x3), some (.int x4), some (.int x5), some (.int x6), none, none] from ⟨rfl, ⟨rfl, ⟨rfl, ⟨rfl, ⟨rfl, ⟨rfl, trivial⟩⟩⟩⟩⟩⟩) (zyC215_198 hk82 hk91 h)
    · replace h := zy_ifn h b16
      refine zy_2 rfl rfl (show zyR _ _ _ _ [some (.ref (43 + 3)), some (.int x1), some (.int x2), some (.int x3), some (.int x4), some (.int x5), some (.int x6), none, none] [.int x6] _ _ from ?_)
      obtain ⟨p12, hp12, h⟩ := zy_bind h
      refine zy_60 (as := [.int x6]) (rest := []) (L := [some (.int x6), none, none]) (d' := 1) rfl rfl (Nat.le_of_ble_eq_true rfl) (Nat.le_of_ble_eq_true rfl) rfl (Nat.le_of_ble_eq_true rfl) rfl rfl (zyC209 hp12) ?_
      show zyR _ _ _ _ [some (.ref (43 + 3)), some (.int x1), some (.int x2), some (.int x3), some (.int x4), some (.int x5), some (.int x6), none, none] [.int p12.1] _ _
      refine zy_23 rfl rfl (show zyR _ _ _ _ [some (.ref (43 + 3)), some (.int x1), some (.int x2), some (.int x3), some (.int x4), some (.int x5), some (.int x6), some (.int p12.1), none] [] _ _ from ?_)
      refine zy_2 rfl rfl (show zyR _ _ _ _ [some (.ref (43 + 3)), some (.int x1), some (.int x2), some (.int x3), some (.int x4), some (.int x5), some (.int x6), some (.int p12.1), none] [.int p12.1] _ _ from ?_)
      refine zy_2 rfl rfl (show zyR _ _ _ _ [some (.ref (43 + 3)), some (.int x1), some (.int x2), some (.int x3), some (.int x4), some (.int x5), some (.int x6), some (.int p12.1), none] [.int x4, .int p12.1] _ _ from ?_)
      refine zy_25_5 rfl (fun b15 => (show zyR _ _ _ _ [some (.ref (43 + 3)), some (.int x1), some (.int x2), some (.int x3), some (.int x4), some (.int x5), some (.int x6), some (.int p12.1), none] [] _ _ from ?_)) (fun b15 => (show zyR _ _ _ _ [some (.ref (43 + 3)), some (.int x1), some (.int x2), some (.int x3), some (.int x4), some (.int x5), some (.int x6), some (.int p12.1), none] [] _ _ from ?_))
      · replace h := zy_ifp h b15
        refine zy_0 rfl rfl (show zyR _ _ _ _ [some (.ref (43 + 3)), some (.int x1), some (.int x2), some (.int x3), some (.int x4), some (.int x5), some (.int x6), some (.int p12.1), none] [.ref (43 + 3)] _ _ from ?_)
        refine zy_1r (c := 43) rfl rfl rfl (show zyR _ _ _ _ [some (.ref (43 + 3)), some (.int x1), some (.int x2), some (.int x3), some (.int x4), some (.int x5), some (.int x6), some (.int p12.1), none] [.ref (53 + 3)] _ _ from ?_)
        refine zy_3 rfl rfl (show zyR _ _ _ _ [some (.ref (43 + 3)), some (.int x1), some (.int x2), some (.int x3), some (.int x4), some (.int x5), some (.int x6), some (.int p12.1), none] [.int (16 : Int32), .ref (53 + 3)] _ _ from ?_)
        refine zy_2 rfl rfl (show zyR _ _ _ _ [some (.ref (43 + 3)), some (.int x1), some (.int x2), some (.int x3), some (.int x4), some (.int x5), some (.int x6), some (.int p12.1), none] [.int x3, .int (16 : Int32), .ref (53 + 3)] _ _ from ?_)
        refine zy_3 rfl rfl (show zyR _ _ _ _ [some (.ref (43 + 3)), some (.int x1), some (.int x2), some (.int x3), some (.int x4), some (.int x5), some (.int x6), some (.int p12.1), none] [.int (1 : Int32), .int x3, .int (16 : Int32), .ref (53 + 3)] _ _ from ?_)
        refine zy_11 rfl (show zyR _ _ _ _ [some (.ref (43 + 3)), some (.int x1), some (.int x2), some (.int x3), some (.int x4), some (.int x5), some (.int x6), some (.int p12.1), none] [.int (x3 - (1 : Int32)), .int (16 : Int32), .ref (53 + 3)] _ _ from ?_)
        refine zy_12 rfl (show zyR _ _ _ _ [some (.ref (43 + 3)), some (.int x1), some (.int x2), some (.int x3), some (.int x4), some (.int x5), some (.int x6), some (.int p12.1), none] [.int ((16 : Int32) * (x3 - (1 : Int32))), .ref (53 + 3)] _ _ from ?_)
        refine zy_2 rfl rfl (show zyR _ _ _ _ [some (.ref (43 + 3)), some (.int x1), some (.int x2), some (.int x3), some (.int x4), some (.int x5), some (.int x6), some (.int p12.1), none] [.int x6, .int ((16 : Int32) * (x3 - (1 : Int32))), .ref (53 + 3)] _ _ from ?_)
        refine zy_10 rfl (show zyR _ _ _ _ [some (.ref (43 + 3)), some (.int x1), some (.int x2), some (.int x3), some (.int x4), some (.int x5), some (.int x6), some (.int p12.1), none] [.int (((16 : Int32) * (x3 - (1 : Int32))) + x6), .ref (53 + 3)] _ _ from ?_)
        obtain ⟨c13, h⟩ := zy_if h
        refine zy_26 (c := 53) rfl rfl c13 (show zyR _ _ _ _ [some (.ref (43 + 3)), some (.int x1), some (.int x2), some (.int x3), some (.int x4), some (.int x5), some (.int x6), some (.int p12.1), none] [.int (p12.2.1 53 ((((16 : Int32) * (x3 - (1 : Int32))) + x6)).toNatClampNeg)] _ _ from ?_)
        refine zy_0 rfl rfl (show zyR _ _ _ _ [some (.ref (43 + 3)), some (.int x1), some (.int x2), some (.int x3), some (.int x4), some (.int x5), some (.int x6), some (.int p12.1), none] [.ref (43 + 3), .int (p12.2.1 53 ((((16 : Int32) * (x3 - (1 : Int32))) + x6)).toNatClampNeg)] _ _ from ?_)
        refine zy_1r (c := 43) rfl rfl rfl (show zyR _ _ _ _ [some (.ref (43 + 3)), some (.int x1), some (.int x2), some (.int x3), some (.int x4), some (.int x5), some (.int x6), some (.int p12.1), none] [.ref (52 + 3), .int (p12.2.1 53 ((((16 : Int32) * (x3 - (1 : Int32))) + x6)).toNatClampNeg)] _ _ from ?_)
        refine zy_2 rfl rfl (show zyR _ _ _ _ [some (.ref (43 + 3)), some (.int x1), some (.int x2), some (.int x3), some (.int x4), some (.int x5), some (.int x6), some (.int p12.1), none] [.int x2, .ref (52 + 3), .int (p12.2.1 53 ((((16 : Int32) * (x3 - (1 : Int32))) + x6)).toNatClampNeg)] _ _ from ?_)
        refine zy_2 rfl rfl (show zyR _ _ _ _ [some (.ref (43 + 3)), some (.int x1), some (.int x2), some (.int x3), some (.int x4), some (.int x5), some (.int x6), some (.int p12.1), none] [.int x3, .int x2, .ref (52 + 3), .int (p12.2.1 53 ((((16 : Int32) * (x3 - (1 : Int32))) + x6)).toNatClampNeg)] _ _ from ?_)
        refine zy_3 rfl rfl (show zyR _ _ _ _ [some (.ref (43 + 3)), some (.int x1), some (.int x2), some (.int x3), some (.int x4), some (.int x5), some (.int x6), some (.int p12.1), none] [.int (1 : Int32), .int x3, .int x2, .ref (52 + 3), .int (p12.2.1 53 ((((16 : Int32) * (x3 - (1 : Int32))) + x6)).toNatClampNeg)] _ _ from ?_)
        refine zy_11 rfl (show zyR _ _ _ _ [some (.ref (43 + 3)), some (.int x1), some (.int x2), some (.int x3), some (.int x4), some (.int x5), some (.int x6), some (.int p12.1), none] [.int (x3 - (1 : Int32)), .int x2, .ref (52 + 3), .int (p12.2.1 53 ((((16 : Int32) * (x3 - (1 : Int32))) + x6)).toNatClampNeg)] _ _ from ?_)
        refine zy_12 rfl (show zyR _ _ _ _ [some (.ref (43 + 3)), some (.int x1), some (.int x2), some (.int x3), some (.int x4), some (.int x5), some (.int x6), some (.int p12.1), none] [.int (x2 * (x3 - (1 : Int32))), .ref (52 + 3), .int (p12.2.1 53 ((((16 : Int32) * (x3 - (1 : Int32))) + x6)).toNatClampNeg)] _ _ from ?_)
        refine zy_2 rfl rfl (show zyR _ _ _ _ [some (.ref (43 + 3)), some (.int x1), some (.int x2), some (.int x3), some (.int x4), some (.int x5), some (.int x6), some (.int p12.1), none] [.int x4, .int (x2 * (x3 - (1 : Int32))), .ref (52 + 3), .int (p12.2.1 53 ((((16 : Int32) * (x3 - (1 : Int32))) + x6)).toNatClampNeg)] _ _ from ?_)
        refine zy_10 rfl (show zyR _ _ _ _ [some (.ref (43 + 3)), some (.int x1), some (.int x2), some (.int x3), some (.int x4), some (.int x5), some (.int x6), some (.int p12.1), none] [.int ((x2 * (x3 - (1 : Int32))) + x4), .ref (52 + 3), .int (p12.2.1 53 ((((16 : Int32) * (x3 - (1 : Int32))) + x6)).toNatClampNeg)] _ _ from ?_)
        refine zy_2 rfl rfl (show zyR _ _ _ _ [some (.ref (43 + 3)), some (.int x1), some (.int x2), some (.int x3), some (.int x4), some (.int x5), some (.int x6), some (.int p12.1), none] [.int p12.1, .int ((x2 * (x3 - (1 : Int32))) + x4), .ref (52 + 3), .int (p12.2.1 53 ((((16 : Int32) * (x3 - (1 : Int32))) + x6)).toNatClampNeg)] _ _ from ?_)
        refine zy_11 rfl (show zyR _ _ _ _ [some (.ref (43 + 3)), some (.int x1), some (.int x2), some (.int x3), some (.int x4), some (.int x5), some (.int x6), some (.int p12.1), none] [.int (((x2 * (x3 - (1 : Int32))) + x4) - p12.1), .ref (52 + 3), .int (p12.2.1 53 ((((16 : Int32) * (x3 - (1 : Int32))) + x6)).toNatClampNeg)] _ _ from ?_)
        obtain ⟨c14, h⟩ := zy_if h
        refine zy_26 (c := 52) rfl rfl c14 (show zyR _ _ _ _ [some (.ref (43 + 3)), some (.int x1), some (.int x2), some (.int x3), some (.int x4), some (.int x5), some (.int x6), some (.int p12.1), none] [.int (p12.2.1 52 ((((x2 * (x3 - (1 : Int32))) + x4) - p12.1)).toNatClampNeg), .int (p12.2.1 53 ((((16 : Int32) * (x3 - (1 : Int32))) + x6)).toNatClampNeg)] _ _ from ?_)
        refine zy_10 rfl (show zyR _ _ _ _ [some (.ref (43 + 3)), some (.int x1), some (.int x2), some (.int x3), some (.int x4), some (.int x5), some (.int x6), some (.int p12.1), none] [.int ((p12.2.1 53 ((((16 : Int32) * (x3 - (1 : Int32))) + x6)).toNatClampNeg) + (p12.2.1 52 ((((x2 * (x3 - (1 : Int32))) + x4) - p12.1)).toNatClampNeg))] _ _ from ?_)
        exact zy_sub (show zy_le [some (.ref (43 + 3)), some (.int x1), some (.int x2), some (.int x3), some (.int x4), some (.int x5), some (.int x6), none, none] [some (.ref (43 + 3)), some (.int x1), some (.int x2), some (.int x3), some (.int x4), some (.int x5), some (.int x6), some (.int p12.1), none] from ⟨rfl, ⟨rfl, ⟨rfl, ⟨rfl, ⟨rfl, ⟨rfl, ⟨rfl, trivial⟩⟩⟩⟩⟩⟩⟩) (zyC215_174 hk82 hk91 hk113 h)
      · replace h := zy_ifn h b15
        refine zy_3c rfl rfl (show zyR _ _ _ _ [some (.ref (43 + 3)), some (.int x1), some (.int x2), some (.int x3), some (.int x4), some (.int x5), some (.int x6), some (.int p12.1), none] [.int (1000000 : Int32)] _ _ from ?_)
        refine zy_6 rfl (show zyR _ _ _ _ [some (.ref (43 + 3)), some (.int x1), some (.int x2), some (.int x3), some (.int x4), some (.int x5), some (.int x6), some (.int p12.1), none] [.int (1000000 : Int32)] _ _ from ?_)
        exact zy_sub (show zy_le [some (.ref (43 + 3)), some (.int x1), some (.int x2), some (.int x3), some (.int x4), some (.int x5), some (.int x6), none, none] [some (.ref (43 + 3)), some (.int x1), some (.int x2), some (.int x3), some (.int x4), some (.int x5), some (.int x6), some (.int p12.1), none] from ⟨rfl, ⟨rfl, ⟨rfl, ⟨rfl, ⟨rfl, ⟨rfl, ⟨rfl, trivial⟩⟩⟩⟩⟩⟩⟩) (zyC215_174 hk82 hk91 hk113 h)
noncomputable def zyF215_113  (k82 : Int32 → Int32 → Int32 → zy_S → Option (Int32 × zy_S)) (k91 : Int32 → Int32 → Int32 → Int32 → zy_S → Option (Int32 × zy_S)) (n : Nat) : Int32 → Int32 → Int32 → Int32 → Int32 → Int32 → zy_S → Option (Int32 × zy_S) := Nat.rec (fun _ _ _ _ _ _ _ => none) (fun _ k113 => zyF215_113b k82 k91 k113) n
theorem zyC215_113 {X : zx_X}  {k82 : Int32 → Int32 → Int32 → zy_S → Option (Int32 × zy_S)} {k91 : Int32 → Int32 → Int32 → Int32 → zy_S → Option (Int32 × zy_S)}  (hk82 : ∀ (x1 : Int32) (x2 : Int32) (x3 : Int32) (s : zy_S) (r : Int32) (s' : zy_S), k82 x1 x2 x3 s = some (r, s') → zyR X 106 215 82 [some (.ref (43 + 3)), some (.int x1), some (.int x2), some (.int x3), none, none, none, none, none] [] s (zyE (some (.int r)) s')) (hk91 : ∀ (x1 : Int32) (x2 : Int32) (x3 : Int32) (x4 : Int32) (s : zy_S) (r : Int32) (s' : zy_S), k91 x1 x2 x3 x4 s = some (r, s') → zyR X 106 215 91 [some (.ref (43 + 3)), some (.int x1), some (.int x2), some (.int x3), some (.int x4), none, none, none, none] [] s (zyE (some (.int r)) s')) : ∀ (n : Nat) (x1 : Int32) (x2 : Int32) (x3 : Int32) (x4 : Int32) (x5 : Int32) (x6 : Int32) (s : zy_S) (r : Int32) (s' : zy_S), zyF215_113 k82 k91 n x1 x2 x3 x4 x5 x6 s = some (r, s') → zyR X 106 215 113 [some (.ref (43 + 3)), some (.int x1), some (.int x2), some (.int x3), some (.int x4), some (.int x5), some (.int x6), none, none] [] s (zyE (some (.int r)) s')
  | 0, _, _, _, _, _, _ => by
    intro s r s'  h
    have h : (none : Option (Int32 × zy_S)) = some (r, s') := h
    cases h
  | n + 1, x1, x2, x3, x4, x5, x6 => by
    intro s r s'  h
    exact zyC215_113b (k113 := zyF215_113 k82 k91 n) hk82 hk91 (fun x1 x2 x3 x4 x5 x6 s r s'  h => zyC215_113 hk82 hk91 n x1 x2 x3 x4 x5 x6 s r s'  h) h
noncomputable def zyF215_108  (k82 : Int32 → Int32 → Int32 → zy_S → Option (Int32 × zy_S)) (k91 : Int32 → Int32 → Int32 → Int32 → zy_S → Option (Int32 × zy_S)) (x1 : Int32) (x2 : Int32) (x3 : Int32) (x4 : Int32) (y0 : Int32) (s : zy_S) : Option (Int32 × zy_S) :=
zyF215_113 k82 k91 zy_fu x1 x2 x3 x4 y0 (0 : Int32) s
theorem zyC215_108 {X : zx_X}  {k82 : Int32 → Int32 → Int32 → zy_S → Option (Int32 × zy_S)} {k91 : Int32 → Int32 → Int32 → Int32 → zy_S → Option (Int32 × zy_S)}  (hk82 : ∀ (x1 : Int32) (x2 : Int32) (x3 : Int32) (s : zy_S) (r : Int32) (s' : zy_S), k82 x1 x2 x3 s = some (r, s') → zyR X 106 215 82 [some (.ref (43 + 3)), some (.int x1), some (.int x2), some (.int x3), none, none, none, none, none] [] s (zyE (some (.int r)) s')) (hk91 : ∀ (x1 : Int32) (x2 : Int32) (x3 : Int32) (x4 : Int32) (s : zy_S) (r : Int32) (s' : zy_S), k91 x1 x2 x3 x4 s = some (r, s') → zyR X 106 215 91 [some (.ref (43 + 3)), some (.int x1), some (.int x2), some (.int x3), some (.int x4), none, none, none, none] [] s (zyE (some (.int r)) s')) {x1 : Int32} {x2 : Int32} {x3 : Int32} {x4 : Int32} {y0 : Int32} {s : zy_S} {r : Int32} {s' : zy_S}  (h : zyF215_108 k82 k91 x1 x2 x3 x4 y0 s = some (r, s')) : zyR X 106 215 108 [some (.ref (43 + 3)), some (.int x1), some (.int x2), some (.int x3), some (.int x4), none, none, none, none] [.int y0] s (zyE (some (.int r)) s') := by
  unfold zyF215_108 at h
  refine zy_23 rfl rfl (show zyR _ _ _ _ [some (.ref (43 + 3)), some (.int x1), some (.int x2), some (.int x3), some (.int x4), some (.int y0), none, none, none] [] _ _ from ?_)
  refine zy_3 rfl rfl (show zyR _ _ _ _ [some (.ref (43 + 3)), some (.int x1), some (.int x2), some (.int x3), some (.int x4), some (.int y0), none, none, none] [.int (0 : Int32)] _ _ from ?_)
  refine zy_23 rfl rfl (show zyR _ _ _ _ [some (.ref (43 + 3)), some (.int x1), some (.int x2), some (.int x3), some (.int x4), some (.int y0), some (.int (0 : Int32)), none, none] [] _ _ from ?_)
  exact zy_sub (show zy_le [some (.ref (43 + 3)), some (.int x1), some (.int x2), some (.int x3), some (.int x4), some (.int y0), some (.int (0 : Int32)), none, none] [some (.ref (43 + 3)), some (.int x1), some (.int x2), some (.int x3), some (.int x4), some (.int y0), some (.int (0 : Int32)), none, none] from ⟨rfl, ⟨rfl, ⟨rfl, ⟨rfl, ⟨rfl, ⟨rfl, ⟨rfl, trivial⟩⟩⟩⟩⟩⟩⟩) (zyC215_113 hk82 hk91 zy_fu x1 x2 x3 x4 y0 (0 : Int32) s _ _ h)
noncomputable def zyF215_91b  (k82 : Int32 → Int32 → Int32 → zy_S → Option (Int32 × zy_S)) (k91 : Int32 → Int32 → Int32 → Int32 → zy_S → Option (Int32 × zy_S)) (x1 : Int32) (x2 : Int32) (x3 : Int32) (x4 : Int32) (s : zy_S) : Option (Int32 × zy_S) :=
if (9 : Int32) < x4 then
k82 x1 x2 (x3 + (1 : Int32)) s
else
if x3 ≠ 0 then
zyF215_108 k82 k91 x1 x2 x3 x4 (1000000 : Int32) s
else
zyF215_108 k82 k91 x1 x2 x3 x4 (0 : Int32) s
theorem zyC215_91b {X : zx_X}  {k82 : Int32 → Int32 → Int32 → zy_S → Option (Int32 × zy_S)} {k91 : Int32 → Int32 → Int32 → Int32 → zy_S → Option (Int32 × zy_S)}  (hk82 : ∀ (x1 : Int32) (x2 : Int32) (x3 : Int32) (s : zy_S) (r : Int32) (s' : zy_S), k82 x1 x2 x3 s = some (r, s') → zyR X 106 215 82 [some (.ref (43 + 3)), some (.int x1), some (.int x2), some (.int x3), none, none, none, none, none] [] s (zyE (some (.int r)) s')) (hk91 : ∀ (x1 : Int32) (x2 : Int32) (x3 : Int32) (x4 : Int32) (s : zy_S) (r : Int32) (s' : zy_S), k91 x1 x2 x3 x4 s = some (r, s') → zyR X 106 215 91 [some (.ref (43 + 3)), some (.int x1), some (.int x2), some (.int x3), some (.int x4), none, none, none, none] [] s (zyE (some (.int r)) s')) {x1 : Int32} {x2 : Int32} {x3 : Int32} {x4 : Int32} {s : zy_S} {r : Int32} {s' : zy_S}  (h : zyF215_91b k82 k91 x1 x2 x3 x4 s = some (r, s')) : zyR X 106 215 91 [some (.ref (43 + 3)), some (.int x1), some (.int x2), some (.int x3), some (.int x4), none, none, none, none] [] s (zyE (some (.int r)) s') := by
  unfold zyF215_91b at h
  refine zy_2 rfl rfl (show zyR _ _ _ _ [some (.ref (43 + 3)), some (.int x1), some (.int x2), some (.int x3), some (.int x4), none, none, none, none] [.int x4] _ _ from ?_)
  refine zy_3 rfl rfl (show zyR _ _ _ _ [some (.ref (43 + 3)), some (.int x1), some (.int x2), some (.int x3), some (.int x4), none, none, none, none] [.int (9 : Int32), .int x4] _ _ from ?_)
  refine zy_25_4 rfl (fun b19 => (show zyR _ _ _ _ [some (.ref (43 + 3)), some (.int x1), some (.int x2), some (.int x3), some (.int x4), none, none, none, none] [] _ _ from ?_)) (fun b19 => (show zyR _ _ _ _ [some (.ref (43 + 3)), some (.int x1), some (.int x2), some (.int x3), some (.int x4), none, none, none, none] [] _ _ from ?_))
  · replace h := zy_ifp h b19
    refine zy_22 rfl rfl rfl rfl (show zyR _ _ _ _ [some (.ref (43 + 3)), some (.int x1), some (.int x2), some (.int (x3 + (1 : Int32))), some (.int x4), none, none, none, none] [] _ _ from ?_)
    refine zy_6 rfl (show zyR _ _ _ _ [some (.ref (43 + 3)), some (.int x1), some (.int x2), some (.int (x3 + (1 : Int32))), some (.int x4), none, none, none, none] [] _ _ from ?_)
    exact zy_sub (show zy_le [some (.ref (43 + 3)), some (.int x1), some (.int x2), some (.int (x3 + (1 : Int32))), none, none, none, none, none] [some (.ref (43 + 3)), some (.int x1), some (.int x2), some (.int (x3 + (1 : Int32))), some (.int x4), none, none, none, none] from ⟨rfl, ⟨rfl, ⟨rfl, ⟨rfl, trivial⟩⟩⟩⟩) (hk82 x1 x2 (x3 + (1 : Int32)) s _ _ h)
  · replace h := zy_ifn h b19
    refine zy_2 rfl rfl (show zyR _ _ _ _ [some (.ref (43 + 3)), some (.int x1), some (.int x2), some (.int x3), some (.int x4), none, none, none, none] [.int x3] _ _ from ?_)
    refine zy_24_1 rfl (fun b18 => (show zyR _ _ _ _ [some (.ref (43 + 3)), some (.int x1), some (.int x2), some (.int x3), some (.int x4), none, none, none, none] [] _ _ from ?_)) (fun b18 => (show zyR _ _ _ _ [some (.ref (43 + 3)), some (.int x1), some (.int x2), some (.int x3), some (.int x4), none, none, none, none] [] _ _ from ?_))
    · replace h := zy_ifp h b18
      refine zy_3c rfl rfl (show zyR _ _ _ _ [some (.ref (43 + 3)), some (.int x1), some (.int x2), some (.int x3), some (.int x4), none, none, none, none] [.int (1000000 : Int32)] _ _ from ?_)
      exact zy_sub (show zy_le [some (.ref (43 + 3)), some (.int x1), some (.int x2), some (.int x3), some (.int x4), none, none, none, none] [some (.ref (43 + 3)), some (.int x1), some (.int x2), some (.int x3), some (.int x4), none, none, none, none] from ⟨rfl, ⟨rfl, ⟨rfl, ⟨rfl, ⟨rfl, trivial⟩⟩⟩⟩⟩) (zyC215_108 hk82 hk91 h)
    · replace h := zy_ifn h b18
      refine zy_3 rfl rfl (show zyR _ _ _ _ [some (.ref (43 + 3)), some (.int x1), some (.int x2), some (.int x3), some (.int x4), none, none, none, none] [.int (0 : Int32)] _ _ from ?_)
      refine zy_6 rfl (show zyR _ _ _ _ [some (.ref (43 + 3)), some (.int x1), some (.int x2), some (.int x3), some (.int x4), none, none, none, none] [.int (0 : Int32)] _ _ from ?_)
      exact zy_sub (show zy_le [some (.ref (43 + 3)), some (.int x1), some (.int x2), some (.int x3), some (.int x4), none, none, none, none] [some (.ref (43 + 3)), some (.int x1), some (.int x2), some (.int x3), some (.int x4), none, none, none, none] from ⟨rfl, ⟨rfl, ⟨rfl, ⟨rfl, ⟨rfl, trivial⟩⟩⟩⟩⟩) (zyC215_108 hk82 hk91 h)
noncomputable def zyF215_91  (k82 : Int32 → Int32 → Int32 → zy_S → Option (Int32 × zy_S)) (n : Nat) : Int32 → Int32 → Int32 → Int32 → zy_S → Option (Int32 × zy_S) := Nat.rec (fun _ _ _ _ _ => none) (fun _ k91 => zyF215_91b k82 k91) n
theorem zyC215_91 {X : zx_X}  {k82 : Int32 → Int32 → Int32 → zy_S → Option (Int32 × zy_S)}  (hk82 : ∀ (x1 : Int32) (x2 : Int32) (x3 : Int32) (s : zy_S) (r : Int32) (s' : zy_S), k82 x1 x2 x3 s = some (r, s') → zyR X 106 215 82 [some (.ref (43 + 3)), some (.int x1), some (.int x2), some (.int x3), none, none, none, none, none] [] s (zyE (some (.int r)) s')) : ∀ (n : Nat) (x1 : Int32) (x2 : Int32) (x3 : Int32) (x4 : Int32) (s : zy_S) (r : Int32) (s' : zy_S), zyF215_91 k82 n x1 x2 x3 x4 s = some (r, s') → zyR X 106 215 91 [some (.ref (43 + 3)), some (.int x1), some (.int x2), some (.int x3), some (.int x4), none, none, none, none] [] s (zyE (some (.int r)) s')
  | 0, _, _, _, _ => by
    intro s r s'  h
    have h : (none : Option (Int32 × zy_S)) = some (r, s') := h
    cases h
  | n + 1, x1, x2, x3, x4 => by
    intro s r s'  h
    exact zyC215_91b (k91 := zyF215_91 k82 n) hk82 (fun x1 x2 x3 x4 s r s'  h => zyC215_91 hk82 n x1 x2 x3 x4 s r s'  h) h
noncomputable def zyF215_82b  (k82 : Int32 → Int32 → Int32 → zy_S → Option (Int32 × zy_S)) (x1 : Int32) (x2 : Int32) (x3 : Int32) (s : zy_S) : Option (Int32 × zy_S) :=
if (6 : Int32) < x3 then
if x1 ≠ 0 then
zyF215_254 zy_fu x2 (s.1 44 40) (0 : Int32) (6 : Int32) s
else
if zy_in ((x2 * (6 : Int32)) + (s.1 44 40)) 70 then
some ((s.1 52 (((x2 * (6 : Int32)) + (s.1 44 40))).toNatClampNeg), s)
else none
else
zyF215_91 k82 zy_fu x1 x2 x3 (0 : Int32) s
theorem zyC215_82b {X : zx_X}  {k82 : Int32 → Int32 → Int32 → zy_S → Option (Int32 × zy_S)}  (hk82 : ∀ (x1 : Int32) (x2 : Int32) (x3 : Int32) (s : zy_S) (r : Int32) (s' : zy_S), k82 x1 x2 x3 s = some (r, s') → zyR X 106 215 82 [some (.ref (43 + 3)), some (.int x1), some (.int x2), some (.int x3), none, none, none, none, none] [] s (zyE (some (.int r)) s')) {x1 : Int32} {x2 : Int32} {x3 : Int32} {s : zy_S} {r : Int32} {s' : zy_S}  (h : zyF215_82b k82 x1 x2 x3 s = some (r, s')) : zyR X 106 215 82 [some (.ref (43 + 3)), some (.int x1), some (.int x2), some (.int x3), none, none, none, none, none] [] s (zyE (some (.int r)) s') := by
  unfold zyF215_82b at h
  refine zy_2 rfl rfl (show zyR _ _ _ _ [some (.ref (43 + 3)), some (.int x1), some (.int x2), some (.int x3), none, none, none, none, none] [.int x3] _ _ from ?_)
  refine zy_3 rfl rfl (show zyR _ _ _ _ [some (.ref (43 + 3)), some (.int x1), some (.int x2), some (.int x3), none, none, none, none, none] [.int (6 : Int32), .int x3] _ _ from ?_)
  refine zy_25_4 rfl (fun b22 => (show zyR _ _ _ _ [some (.ref (43 + 3)), some (.int x1), some (.int x2), some (.int x3), none, none, none, none, none] [] _ _ from ?_)) (fun b22 => (show zyR _ _ _ _ [some (.ref (43 + 3)), some (.int x1), some (.int x2), some (.int x3), none, none, none, none, none] [] _ _ from ?_))
  · replace h := zy_ifp h b22
    refine zy_0 rfl rfl (show zyR _ _ _ _ [some (.ref (43 + 3)), some (.int x1), some (.int x2), some (.int x3), none, none, none, none, none] [.ref (43 + 3)] _ _ from ?_)
    refine zy_1r (c := 43) rfl rfl rfl (show zyR _ _ _ _ [some (.ref (43 + 3)), some (.int x1), some (.int x2), some (.int x3), none, none, none, none, none] [.ref (44 + 3)] _ _ from ?_)
    refine zy_3 rfl rfl (show zyR _ _ _ _ [some (.ref (43 + 3)), some (.int x1), some (.int x2), some (.int x3), none, none, none, none, none] [.int (40 : Int32), .ref (44 + 3)] _ _ from ?_)
    refine zy_26 (c := 44) rfl rfl (by decide) (show zyR _ _ _ _ [some (.ref (43 + 3)), some (.int x1), some (.int x2), some (.int x3), none, none, none, none, none] [.int (s.1 44 40)] _ _ from ?_)
    refine zy_23 rfl rfl (show zyR _ _ _ _ [some (.ref (43 + 3)), some (.int x1), some (.int x2), some (.int (s.1 44 40)), none, none, none, none, none] [] _ _ from ?_)
    refine zy_2 rfl rfl (show zyR _ _ _ _ [some (.ref (43 + 3)), some (.int x1), some (.int x2), some (.int (s.1 44 40)), none, none, none, none, none] [.int x1] _ _ from ?_)
    refine zy_24_1 rfl (fun b21 => (show zyR _ _ _ _ [some (.ref (43 + 3)), some (.int x1), some (.int x2), some (.int (s.1 44 40)), none, none, none, none, none] [] _ _ from ?_)) (fun b21 => (show zyR _ _ _ _ [some (.ref (43 + 3)), some (.int x1), some (.int x2), some (.int (s.1 44 40)), none, none, none, none, none] [] _ _ from ?_))
    · replace h := zy_ifp h b21
      refine zy_3 rfl rfl (show zyR _ _ _ _ [some (.ref (43 + 3)), some (.int x1), some (.int x2), some (.int (s.1 44 40)), none, none, none, none, none] [.int (0 : Int32)] _ _ from ?_)
      refine zy_23 rfl rfl (show zyR _ _ _ _ [some (.ref (43 + 3)), some (.int x1), some (.int x2), some (.int (s.1 44 40)), some (.int (0 : Int32)), none, none, none, none] [] _ _ from ?_)
      refine zy_3 rfl rfl (show zyR _ _ _ _ [some (.ref (43 + 3)), some (.int x1), some (.int x2), some (.int (s.1 44 40)), some (.int (0 : Int32)), none, none, none, none] [.int (6 : Int32)] _ _ from ?_)
      refine zy_23 rfl rfl (show zyR _ _ _ _ [some (.ref (43 + 3)), some (.int x1), some (.int x2), some (.int (s.1 44 40)), some (.int (0 : Int32)), some (.int (6 : Int32)), none, none, none] [] _ _ from ?_)
      exact zy_sub (show zy_le [some (.ref (43 + 3)), none, some (.int x2), some (.int (s.1 44 40)), some (.int (0 : Int32)), some (.int (6 : Int32)), none, none, none] [some (.ref (43 + 3)), some (.int x1), some (.int x2), some (.int (s.1 44 40)), some (.int (0 : Int32)), some (.int (6 : Int32)), none, none, none] from ⟨rfl, ⟨rfl, ⟨rfl, ⟨rfl, ⟨rfl, trivial⟩⟩⟩⟩⟩) (zyC215_254 zy_fu x2 (s.1 44 40) (0 : Int32) (6 : Int32) s _ _ h)
    · replace h := zy_ifn h b21
      refine zy_0 rfl rfl (show zyR _ _ _ _ [some (.ref (43 + 3)), some (.int x1), some (.int x2), some (.int (s.1 44 40)), none, none, none, none, none] [.ref (43 + 3)] _ _ from ?_)
      refine zy_1r (c := 43) rfl rfl rfl (show zyR _ _ _ _ [some (.ref (43 + 3)), some (.int x1), some (.int x2), some (.int (s.1 44 40)), none, none, none, none, none] [.ref (52 + 3)] _ _ from ?_)
      refine zy_2 rfl rfl (show zyR _ _ _ _ [some (.ref (43 + 3)), some (.int x1), some (.int x2), some (.int (s.1 44 40)), none, none, none, none, none] [.int x2, .ref (52 + 3)] _ _ from ?_)
      refine zy_3 rfl rfl (show zyR _ _ _ _ [some (.ref (43 + 3)), some (.int x1), some (.int x2), some (.int (s.1 44 40)), none, none, none, none, none] [.int (6 : Int32), .int x2, .ref (52 + 3)] _ _ from ?_)
      refine zy_12 rfl (show zyR _ _ _ _ [some (.ref (43 + 3)), some (.int x1), some (.int x2), some (.int (s.1 44 40)), none, none, none, none, none] [.int (x2 * (6 : Int32)), .ref (52 + 3)] _ _ from ?_)
      refine zy_2 rfl rfl (show zyR _ _ _ _ [some (.ref (43 + 3)), some (.int x1), some (.int x2), some (.int (s.1 44 40)), none, none, none, none, none] [.int (s.1 44 40), .int (x2 * (6 : Int32)), .ref (52 + 3)] _ _ from ?_)
      refine zy_10 rfl (show zyR _ _ _ _ [some (.ref (43 + 3)), some (.int x1), some (.int x2), some (.int (s.1 44 40)), none, none, none, none, none] [.int ((x2 * (6 : Int32)) + (s.1 44 40)), .ref (52 + 3)] _ _ from ?_)
      obtain ⟨c20, h⟩ := zy_if h
      refine zy_26 (c := 52) rfl rfl c20 (show zyR _ _ _ _ [some (.ref (43 + 3)), some (.int x1), some (.int x2), some (.int (s.1 44 40)), none, none, none, none, none] [.int (s.1 52 (((x2 * (6 : Int32)) + (s.1 44 40))).toNatClampNeg)] _ _ from ?_)
      obtain ⟨rfl, rfl⟩ := zy_pi h
      exact zy_4 rfl ⟨rfl, rfl⟩
  · replace h := zy_ifn h b22
    refine zy_3 rfl rfl (show zyR _ _ _ _ [some (.ref (43 + 3)), some (.int x1), some (.int x2), some (.int x3), none, none, none, none, none] [.int (0 : Int32)] _ _ from ?_)
    refine zy_23 rfl rfl (show zyR _ _ _ _ [some (.ref (43 + 3)), some (.int x1), some (.int x2), some (.int x3), some (.int (0 : Int32)), none, none, none, none] [] _ _ from ?_)
    exact zy_sub (show zy_le [some (.ref (43 + 3)), some (.int x1), some (.int x2), some (.int x3), some (.int (0 : Int32)), none, none, none, none] [some (.ref (43 + 3)), some (.int x1), some (.int x2), some (.int x3), some (.int (0 : Int32)), none, none, none, none] from ⟨rfl, ⟨rfl, ⟨rfl, ⟨rfl, ⟨rfl, trivial⟩⟩⟩⟩⟩) (zyC215_91 hk82 zy_fu x1 x2 x3 (0 : Int32) s _ _ h)
noncomputable def zyF215_82   (n : Nat) : Int32 → Int32 → Int32 → zy_S → Option (Int32 × zy_S) := Nat.rec (fun _ _ _ _ => none) (fun _ k82 => zyF215_82b k82) n
theorem zyC215_82 {X : zx_X}     : ∀ (n : Nat) (x1 : Int32) (x2 : Int32) (x3 : Int32) (s : zy_S) (r : Int32) (s' : zy_S), zyF215_82 n x1 x2 x3 s = some (r, s') → zyR X 106 215 82 [some (.ref (43 + 3)), some (.int x1), some (.int x2), some (.int x3), none, none, none, none, none] [] s (zyE (some (.int r)) s')
  | 0, _, _, _ => by
    intro s r s'  h
    have h : (none : Option (Int32 × zy_S)) = some (r, s') := h
    cases h
  | n + 1, x1, x2, x3 => by
    intro s r s'  h
    exact zyC215_82b (k82 := zyF215_82 n) (fun x1 x2 x3 s r s'  h => zyC215_82  n x1 x2 x3 s r s'  h) h
noncomputable def zyF215_47b  (k47 : Int32 → Int32 → zy_S → Option (Int32 × zy_S)) (x1 : Int32) (x2 : Int32) (s : zy_S) : Option (Int32 × zy_S) :=
if (96 : Int32) ≤ x2 then
zyF215_82 zy_fu x1 (10 : Int32) (0 : Int32) s
else
(zyF216 (x2 / (16 : Int32)) (x2 - x2 / (16 : Int32) * (16 : Int32)) s).bind fun p23 =>
if zy_in x2 96 then
k47 x1 (x2 + (1 : Int32)) (zy_up p23.2 53 (x2).toNatClampNeg p23.1)
else none
theorem zyC215_47b {X : zx_X}  {k47 : Int32 → Int32 → zy_S → Option (Int32 × zy_S)}  (hk47 : ∀ (x1 : Int32) (x2 : Int32) (s : zy_S) (r : Int32) (s' : zy_S), k47 x1 x2 s = some (r, s') → zyR X 106 215 47 [some (.ref (43 + 3)), some (.int x1), some (.int x2), none, none, none, none, none, none] [] s (zyE (some (.int r)) s')) {x1 : Int32} {x2 : Int32} {s : zy_S} {r : Int32} {s' : zy_S}  (h : zyF215_47b k47 x1 x2 s = some (r, s')) : zyR X 106 215 47 [some (.ref (43 + 3)), some (.int x1), some (.int x2), none, none, none, none, none, none] [] s (zyE (some (.int r)) s') := by
  unfold zyF215_47b at h
  refine zy_2 rfl rfl (show zyR _ _ _ _ [some (.ref (43 + 3)), some (.int x1), some (.int x2), none, none, none, none, none, none] [.int x2] _ _ from ?_)
  refine zy_3 rfl rfl (show zyR _ _ _ _ [some (.ref (43 + 3)), some (.int x1), some (.int x2), none, none, none, none, none, none] [.int (96 : Int32), .int x2] _ _ from ?_)
  refine zy_25_3 rfl (fun b25 => (show zyR _ _ _ _ [some (.ref (43 + 3)), some (.int x1), some (.int x2), none, none, none, none, none, none] [] _ _ from ?_)) (fun b25 => (show zyR _ _ _ _ [some (.ref (43 + 3)), some (.int x1), some (.int x2), none, none, none, none, none, none] [] _ _ from ?_))
  · replace h := zy_ifp h b25
    refine zy_3 rfl rfl (show zyR _ _ _ _ [some (.ref (43 + 3)), some (.int x1), some (.int x2), none, none, none, none, none, none] [.int (10 : Int32)] _ _ from ?_)
    refine zy_23 rfl rfl (show zyR _ _ _ _ [some (.ref (43 + 3)), some (.int x1), some (.int (10 : Int32)), none, none, none, none, none, none] [] _ _ from ?_)
    refine zy_3 rfl rfl (show zyR _ _ _ _ [some (.ref (43 + 3)), some (.int x1), some (.int (10 : Int32)), none, none, none, none, none, none] [.int (0 : Int32)] _ _ from ?_)
    refine zy_23 rfl rfl (show zyR _ _ _ _ [some (.ref (43 + 3)), some (.int x1), some (.int (10 : Int32)), some (.int (0 : Int32)), none, none, none, none, none] [] _ _ from ?_)
    exact zy_sub (show zy_le [some (.ref (43 + 3)), some (.int x1), some (.int (10 : Int32)), some (.int (0 : Int32)), none, none, none, none, none] [some (.ref (43 + 3)), some (.int x1), some (.int (10 : Int32)), some (.int (0 : Int32)), none, none, none, none, none] from ⟨rfl, ⟨rfl, ⟨rfl, ⟨rfl, trivial⟩⟩⟩⟩) (zyC215_82 zy_fu x1 (10 : Int32) (0 : Int32) s _ _ h)
  · replace h := zy_ifn h b25
    refine zy_0 rfl rfl (show zyR _ _ _ _ [some (.ref (43 + 3)), some (.int x1), some (.int x2), none, none, none, none, none, none] [.ref (43 + 3)] _ _ from ?_)
    refine zy_1r (c := 43) rfl rfl rfl (show zyR _ _ _ _ [some (.ref (43 + 3)), some (.int x1), some (.int x2), none, none, none, none, none, none] [.ref (53 + 3)] _ _ from ?_)
    refine zy_2 rfl rfl (show zyR _ _ _ _ [some (.ref (43 + 3)), some (.int x1), some (.int x2), none, none, none, none, none, none] [.int x2, .ref (53 + 3)] _ _ from ?_)
    refine zy_0 rfl rfl (show zyR _ _ _ _ [some (.ref (43 + 3)), some (.int x1), some (.int x2), none, none, none, none, none, none] [.ref (43 + 3), .int x2, .ref (53 + 3)] _ _ from ?_)
    refine zy_2 rfl rfl (show zyR _ _ _ _ [some (.ref (43 + 3)), some (.int x1), some (.int x2), none, none, none, none, none, none] [.int x2, .ref (43 + 3), .int x2, .ref (53 + 3)] _ _ from ?_)
    refine zy_3 rfl rfl (show zyR _ _ _ _ [some (.ref (43 + 3)), some (.int x1), some (.int x2), none, none, none, none, none, none] [.int (16 : Int32), .int x2, .ref (43 + 3), .int x2, .ref (53 + 3)] _ _ from ?_)
    refine zy_19 rfl (by decide) (show zyR _ _ _ _ [some (.ref (43 + 3)), some (.int x1), some (.int x2), none, none, none, none, none, none] [.int (x2 / (16 : Int32)), .ref (43 + 3), .int x2, .ref (53 + 3)] _ _ from ?_)
    refine zy_2 rfl rfl (show zyR _ _ _ _ [some (.ref (43 + 3)), some (.int x1), some (.int x2), none, none, none, none, none, none] [.int x2, .int (x2 / (16 : Int32)), .ref (43 + 3), .int x2, .ref (53 + 3)] _ _ from ?_)
    refine zy_3 rfl rfl (show zyR _ _ _ _ [some (.ref (43 + 3)), some (.int x1), some (.int x2), none, none, none, none, none, none] [.int (16 : Int32), .int x2, .int (x2 / (16 : Int32)), .ref (43 + 3), .int x2, .ref (53 + 3)] _ _ from ?_)
    refine zy_20 rfl (by decide) (show zyR _ _ _ _ [some (.ref (43 + 3)), some (.int x1), some (.int x2), none, none, none, none, none, none] [.int (x2 - x2 / (16 : Int32) * (16 : Int32)), .int (x2 / (16 : Int32)), .ref (43 + 3), .int x2, .ref (53 + 3)] _ _ from ?_)
    obtain ⟨p23, hp23, h⟩ := zy_bind h
    refine zy_5 (c := 43) (as := [.int (x2 / (16 : Int32)), .int (x2 - x2 / (16 : Int32) * (16 : Int32))]) (rest := [.int x2, .ref (53 + 3)]) (L := [some (.ref (43 + 3)), some (.int (x2 / (16 : Int32))), some (.int (x2 - x2 / (16 : Int32) * (16 : Int32))), none, none]) (d' := 105) rfl rfl rfl (Nat.le_of_ble_eq_true rfl) (Nat.le_of_ble_eq_true rfl) rfl (Nat.le_of_ble_eq_true rfl) rfl rfl (zyC216 hp23) ?_
    show zyR _ _ _ _ [some (.ref (43 + 3)), some (.int x1), some (.int x2), none, none, none, none, none, none] [.int p23.1, .int x2, .ref (53 + 3)] _ _
    obtain ⟨c24, h⟩ := zy_if h
    refine zy_27 (c := 53) rfl rfl c24 (show zyR _ _ _ _ [some (.ref (43 + 3)), some (.int x1), some (.int x2), none, none, none, none, none, none] [] _ _ from ?_)
    refine zy_22 rfl rfl rfl rfl (show zyR _ _ _ _ [some (.ref (43 + 3)), some (.int x1), some (.int (x2 + (1 : Int32))), none, none, none, none, none, none] [] _ _ from ?_)
    refine zy_6 rfl (show zyR _ _ _ _ [some (.ref (43 + 3)), some (.int x1), some (.int (x2 + (1 : Int32))), none, none, none, none, none, none] [] _ _ from ?_)
    exact zy_sub (show zy_le [some (.ref (43 + 3)), some (.int x1), some (.int (x2 + (1 : Int32))), none, none, none, none, none, none] [some (.ref (43 + 3)), some (.int x1), some (.int (x2 + (1 : Int32))), none, none, none, none, none, none] from ⟨rfl, ⟨rfl, ⟨rfl, trivial⟩⟩⟩) (hk47 x1 (x2 + (1 : Int32)) (zy_up p23.2 53 (x2).toNatClampNeg p23.1) _ _ h)
noncomputable def zyF215_47   (n : Nat) : Int32 → Int32 → zy_S → Option (Int32 × zy_S) := Nat.rec (fun _ _ _ => none) (fun _ k47 => zyF215_47b k47) n
theorem zyC215_47 {X : zx_X}     : ∀ (n : Nat) (x1 : Int32) (x2 : Int32) (s : zy_S) (r : Int32) (s' : zy_S), zyF215_47 n x1 x2 s = some (r, s') → zyR X 106 215 47 [some (.ref (43 + 3)), some (.int x1), some (.int x2), none, none, none, none, none, none] [] s (zyE (some (.int r)) s')
  | 0, _, _ => by
    intro s r s'  h
    have h : (none : Option (Int32 × zy_S)) = some (r, s') := h
    cases h
  | n + 1, x1, x2 => by
    intro s r s'  h
    exact zyC215_47b (k47 := zyF215_47 n) (fun x1 x2 s r s'  h => zyC215_47  n x1 x2 s r s'  h) h
noncomputable def zyF215_38  (k6 : Int32 → Int32 → zy_S → Option (Int32 × zy_S)) (x1 : Int32) (x2 : Int32) (y0 : Int32) (y1 : Int32) (s : zy_S) : Option (Int32 × zy_S) :=
if zy_in y1 24 then
k6 x1 (x2 + (1 : Int32)) (zy_up s 51 (y1).toNatClampNeg y0)
else none
theorem zyC215_38 {X : zx_X}  {k6 : Int32 → Int32 → zy_S → Option (Int32 × zy_S)}  (hk6 : ∀ (x1 : Int32) (x2 : Int32) (s : zy_S) (r : Int32) (s' : zy_S), k6 x1 x2 s = some (r, s') → zyR X 106 215 6 [some (.ref (43 + 3)), some (.int x1), some (.int x2), none, none, none, none, none, none] [] s (zyE (some (.int r)) s')) {x1 : Int32} {x2 : Int32} {y0 : Int32} {y1 : Int32} {s : zy_S} {r : Int32} {s' : zy_S}  (h : zyF215_38 k6 x1 x2 y0 y1 s = some (r, s')) : zyR X 106 215 38 [some (.ref (43 + 3)), some (.int x1), some (.int x2), none, none, none, none, none, none] [.int y0, .int y1, .ref (51 + 3)] s (zyE (some (.int r)) s') := by
  unfold zyF215_38 at h
  obtain ⟨c26, h⟩ := zy_if h
  refine zy_27 (c := 51) rfl rfl c26 (show zyR _ _ _ _ [some (.ref (43 + 3)), some (.int x1), some (.int x2), none, none, none, none, none, none] [] _ _ from ?_)
  refine zy_22 rfl rfl rfl rfl (show zyR _ _ _ _ [some (.ref (43 + 3)), some (.int x1), some (.int (x2 + (1 : Int32))), none, none, none, none, none, none] [] _ _ from ?_)
  refine zy_6 rfl (show zyR _ _ _ _ [some (.ref (43 + 3)), some (.int x1), some (.int (x2 + (1 : Int32))), none, none, none, none, none, none] [] _ _ from ?_)
  exact zy_sub (show zy_le [some (.ref (43 + 3)), some (.int x1), some (.int (x2 + (1 : Int32))), none, none, none, none, none, none] [some (.ref (43 + 3)), some (.int x1), some (.int (x2 + (1 : Int32))), none, none, none, none, none, none] from ⟨rfl, ⟨rfl, ⟨rfl, trivial⟩⟩⟩) (hk6 x1 (x2 + (1 : Int32)) (zy_up s 51 (y1).toNatClampNeg y0) _ _ h)
noncomputable def zyF215_6b  (k6 : Int32 → Int32 → zy_S → Option (Int32 × zy_S)) (x1 : Int32) (x2 : Int32) (s : zy_S) : Option (Int32 × zy_S) :=
if (24 : Int32) ≤ x2 then
zyF215_47 zy_fu x1 (0 : Int32) s
else
(zyF208 (s.1 43 7) x2 s).bind fun p27 =>
if p27.1 = 0 then
zyF215_38 k6 x1 x2 (0 : Int32) x2 p27.2
else
if zy_in x2 24 then
zyF215_38 k6 x1 x2 (p27.2.1 51 (x2).toNatClampNeg) x2 p27.2
else none
theorem zyC215_6b {X : zx_X}  {k6 : Int32 → Int32 → zy_S → Option (Int32 × zy_S)}  (hk6 : ∀ (x1 : Int32) (x2 : Int32) (s : zy_S) (r : Int32) (s' : zy_S), k6 x1 x2 s = some (r, s') → zyR X 106 215 6 [some (.ref (43 + 3)), some (.int x1), some (.int x2), none, none, none, none, none, none] [] s (zyE (some (.int r)) s')) {x1 : Int32} {x2 : Int32} {s : zy_S} {r : Int32} {s' : zy_S}  (h : zyF215_6b k6 x1 x2 s = some (r, s')) : zyR X 106 215 6 [some (.ref (43 + 3)), some (.int x1), some (.int x2), none, none, none, none, none, none] [] s (zyE (some (.int r)) s') := by
  unfold zyF215_6b at h
  refine zy_2 rfl rfl (show zyR _ _ _ _ [some (.ref (43 + 3)), some (.int x1), some (.int x2), none, none, none, none, none, none] [.int x2] _ _ from ?_)
  refine zy_3 rfl rfl (show zyR _ _ _ _ [some (.ref (43 + 3)), some (.int x1), some (.int x2), none, none, none, none, none, none] [.int (24 : Int32), .int x2] _ _ from ?_)
  refine zy_25_3 rfl (fun b30 => (show zyR _ _ _ _ [some (.ref (43 + 3)), some (.int x1), some (.int x2), none, none, none, none, none, none] [] _ _ from ?_)) (fun b30 => (show zyR _ _ _ _ [some (.ref (43 + 3)), some (.int x1), some (.int x2), none, none, none, none, none, none] [] _ _ from ?_))
  · replace h := zy_ifp h b30
    refine zy_3 rfl rfl (show zyR _ _ _ _ [some (.ref (43 + 3)), some (.int x1), some (.int x2), none, none, none, none, none, none] [.int (0 : Int32)] _ _ from ?_)
    refine zy_23 rfl rfl (show zyR _ _ _ _ [some (.ref (43 + 3)), some (.int x1), some (.int (0 : Int32)), none, none, none, none, none, none] [] _ _ from ?_)
    exact zy_sub (show zy_le [some (.ref (43 + 3)), some (.int x1), some (.int (0 : Int32)), none, none, none, none, none, none] [some (.ref (43 + 3)), some (.int x1), some (.int (0 : Int32)), none, none, none, none, none, none] from ⟨rfl, ⟨rfl, ⟨rfl, trivial⟩⟩⟩) (zyC215_47 zy_fu x1 (0 : Int32) s _ _ h)
  · replace h := zy_ifn h b30
    refine zy_0 rfl rfl (show zyR _ _ _ _ [some (.ref (43 + 3)), some (.int x1), some (.int x2), none, none, none, none, none, none] [.ref (43 + 3)] _ _ from ?_)
    refine zy_1r (c := 43) rfl rfl rfl (show zyR _ _ _ _ [some (.ref (43 + 3)), some (.int x1), some (.int x2), none, none, none, none, none, none] [.ref (51 + 3)] _ _ from ?_)
    refine zy_2 rfl rfl (show zyR _ _ _ _ [some (.ref (43 + 3)), some (.int x1), some (.int x2), none, none, none, none, none, none] [.int x2, .ref (51 + 3)] _ _ from ?_)
    refine zy_0 rfl rfl (show zyR _ _ _ _ [some (.ref (43 + 3)), some (.int x1), some (.int x2), none, none, none, none, none, none] [.ref (43 + 3), .int x2, .ref (51 + 3)] _ _ from ?_)
    refine zy_1 (c := 43) rfl rfl rfl (show zyR _ _ _ _ [some (.ref (43 + 3)), some (.int x1), some (.int x2), none, none, none, none, none, none] [.int (s.1 43 7), .int x2, .ref (51 + 3)] _ _ from ?_)
    refine zy_2 rfl rfl (show zyR _ _ _ _ [some (.ref (43 + 3)), some (.int x1), some (.int x2), none, none, none, none, none, none] [.int x2, .int (s.1 43 7), .int x2, .ref (51 + 3)] _ _ from ?_)
    obtain ⟨p27, hp27, h⟩ := zy_bind h
    refine zy_60 (as := [.int (s.1 43 7), .int x2]) (rest := [.int x2, .ref (51 + 3)]) (L := [some (.int (s.1 43 7)), some (.int x2)]) (d' := 1) rfl rfl (Nat.le_of_ble_eq_true rfl) (Nat.le_of_ble_eq_true rfl) rfl (Nat.le_of_ble_eq_true rfl) rfl rfl (zyC208 hp27) ?_
    show zyR _ _ _ _ [some (.ref (43 + 3)), some (.int x1), some (.int x2), none, none, none, none, none, none] [.int p27.1, .int x2, .ref (51 + 3)] _ _
    refine zy_24_0 rfl (fun b29 => (show zyR _ _ _ _ [some (.ref (43 + 3)), some (.int x1), some (.int x2), none, none, none, none, none, none] [.int x2, .ref (51 + 3)] _ _ from ?_)) (fun b29 => (show zyR _ _ _ _ [some (.ref (43 + 3)), some (.int x1), some (.int x2), none, none, none, none, none, none] [.int x2, .ref (51 + 3)] _ _ from ?_))
    · replace h := zy_ifp h b29
      refine zy_3 rfl rfl (show zyR _ _ _ _ [some (.ref (43 + 3)), some (.int x1), some (.int x2), none, none, none, none, none, none] [.int (0 : Int32), .int x2, .ref (51 + 3)] _ _ from ?_)
      exact zy_sub (show zy_le [some (.ref (43 + 3)), some (.int x1), some (.int x2), none, none, none, none, none, none] [some (.ref (43 + 3)), some (.int x1), some (.int x2), none, none, none, none, none, none] from ⟨rfl, ⟨rfl, ⟨rfl, trivial⟩⟩⟩) (zyC215_38 hk6 h)
    · replace h := zy_ifn h b29
      refine zy_0 rfl rfl (show zyR _ _ _ _ [some (.ref (43 + 3)), some (.int x1), some (.int x2), none, none, none, none, none, none] [.ref (43 + 3), .int x2, .ref (51 + 3)] _ _ from ?_)
      refine zy_1r (c := 43) rfl rfl rfl (show zyR _ _ _ _ [some (.ref (43 + 3)), some (.int x1), some (.int x2), none, none, none, none, none, none] [.ref (51 + 3), .int x2, .ref (51 + 3)] _ _ from ?_)
      refine zy_2 rfl rfl (show zyR _ _ _ _ [some (.ref (43 + 3)), some (.int x1), some (.int x2), none, none, none, none, none, none] [.int x2, .ref (51 + 3), .int x2, .ref (51 + 3)] _ _ from ?_)
      obtain ⟨c28, h⟩ := zy_if h
      refine zy_26 (c := 51) rfl rfl c28 (show zyR _ _ _ _ [some (.ref (43 + 3)), some (.int x1), some (.int x2), none, none, none, none, none, none] [.int (p27.2.1 51 (x2).toNatClampNeg), .int x2, .ref (51 + 3)] _ _ from ?_)
      refine zy_6 rfl (show zyR _ _ _ _ [some (.ref (43 + 3)), some (.int x1), some (.int x2), none, none, none, none, none, none] [.int (p27.2.1 51 (x2).toNatClampNeg), .int x2, .ref (51 + 3)] _ _ from ?_)
      exact zy_sub (show zy_le [some (.ref (43 + 3)), some (.int x1), some (.int x2), none, none, none, none, none, none] [some (.ref (43 + 3)), some (.int x1), some (.int x2), none, none, none, none, none, none] from ⟨rfl, ⟨rfl, ⟨rfl, trivial⟩⟩⟩) (zyC215_38 hk6 h)
noncomputable def zyF215_6   (n : Nat) : Int32 → Int32 → zy_S → Option (Int32 × zy_S) := Nat.rec (fun _ _ _ => none) (fun _ k6 => zyF215_6b k6) n
theorem zyC215_6 {X : zx_X}     : ∀ (n : Nat) (x1 : Int32) (x2 : Int32) (s : zy_S) (r : Int32) (s' : zy_S), zyF215_6 n x1 x2 s = some (r, s') → zyR X 106 215 6 [some (.ref (43 + 3)), some (.int x1), some (.int x2), none, none, none, none, none, none] [] s (zyE (some (.int r)) s')
  | 0, _, _ => by
    intro s r s'  h
    have h : (none : Option (Int32 × zy_S)) = some (r, s') := h
    cases h
  | n + 1, x1, x2 => by
    intro s r s'  h
    exact zyC215_6b (k6 := zyF215_6 n) (fun x1 x2 s r s'  h => zyC215_6  n x1 x2 s r s'  h) h
noncomputable def zyF215   (x1 : Int32) (s : zy_S) : Option (Int32 × zy_S) :=
(zyF203 s).bind fun p31 =>
zyF215_6 zy_fu x1 (0 : Int32) p31.2
theorem zyC215 {X : zx_X}     {x1 : Int32} {s : zy_S} {r : Int32} {s' : zy_S}  (h : zyF215 x1 s = some (r, s')) : zyR X 106 215 0 [some (.ref (43 + 3)), some (.int x1), none, none, none, none, none, none, none] [] s (zyE (some (.int r)) s') := by
  unfold zyF215 at h
  refine zy_0 rfl rfl (show zyR _ _ _ _ [some (.ref (43 + 3)), some (.int x1), none, none, none, none, none, none, none] [.ref (43 + 3)] _ _ from ?_)
  obtain ⟨p31, hp31, h⟩ := zy_bind h
  refine zy_5 (c := 43) (as := []) (rest := []) (L := [some (.ref (43 + 3)), none]) (d' := 1) rfl rfl rfl (Nat.le_of_ble_eq_true rfl) (Nat.le_of_ble_eq_true rfl) rfl (Nat.le_of_ble_eq_true rfl) rfl rfl (zyC203 hp31) ?_
  show zyR _ _ _ _ [some (.ref (43 + 3)), some (.int x1), none, none, none, none, none, none, none] [] _ _
  refine zy_3 rfl rfl (show zyR _ _ _ _ [some (.ref (43 + 3)), some (.int x1), none, none, none, none, none, none, none] [.int (0 : Int32)] _ _ from ?_)
  refine zy_23 rfl rfl (show zyR _ _ _ _ [some (.ref (43 + 3)), some (.int x1), some (.int (0 : Int32)), none, none, none, none, none, none] [] _ _ from ?_)
  exact zy_sub (show zy_le [some (.ref (43 + 3)), some (.int x1), some (.int (0 : Int32)), none, none, none, none, none, none] [some (.ref (43 + 3)), some (.int x1), some (.int (0 : Int32)), none, none, none, none, none, none] from ⟨rfl, ⟨rfl, ⟨rfl, trivial⟩⟩⟩) (zyC215_6 zy_fu x1 (0 : Int32) p31.2 _ _ h)
