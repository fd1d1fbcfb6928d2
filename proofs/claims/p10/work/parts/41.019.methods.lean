/-! PART 41.19: methods as functions. Made by wip/v4/dcp.py. -/
/-! NineOpinionsModel.win(II)I -/
noncomputable def zyF224_79  (k26 : Int32 → Int32 → Int32 → Int32 → zy_S → Option (Int32 × zy_S)) (x1 : Int32) (x2 : Int32) (x3 : Int32) (x4 : Int32) (s : zy_S) : Option (Int32 × zy_S) :=
k26 x1 x2 x3 (x4 + (1 : Int32)) s
theorem zyC224_79 {X : zx_X}  {k26 : Int32 → Int32 → Int32 → Int32 → zy_S → Option (Int32 × zy_S)}  (hk26 : ∀ (x1 : Int32) (x2 : Int32) (x3 : Int32) (x4 : Int32) (s : zy_S) (r : Int32) (s' : zy_S), k26 x1 x2 x3 x4 s = some (r, s') → zyR X 5 224 26 [some (.ref (43 + 3)), some (.int x1), some (.int x2), some (.int x3), some (.int x4)] [] s (zyE (some (.int r)) s')) {x1 : Int32} {x2 : Int32} {x3 : Int32} {x4 : Int32} {s : zy_S} {r : Int32} {s' : zy_S}  (h : zyF224_79 k26 x1 x2 x3 x4 s = some (r, s')) : zyR X 5 224 79 [some (.ref (43 + 3)), some (.int x1), some (.int x2), some (.int x3), some (.int x4)] [] s (zyE (some (.int r)) s') := by
  unfold zyF224_79 at h
  refine zy_22 rfl rfl rfl rfl (show zyR _ _ _ _ [some (.ref (43 + 3)), some (.int x1), some (.int x2), some (.int x3), some (.int (x4 + (1 : Int32)))] [] _ _ from ?_)
  refine zy_6 rfl (show zyR _ _ _ _ [some (.ref (43 + 3)), some (.int x1), some (.int x2), some (.int x3), some (.int (x4 + (1 : Int32)))] [] _ _ from ?_)
  exact zy_sub (show zy_le [some (.ref (43 + 3)), some (.int x1), some (.int x2), some (.int x3), some (.int (x4 + (1 : Int32)))] [some (.ref (43 + 3)), some (.int x1), some (.int x2), some (.int x3), some (.int (x4 + (1 : Int32)))] from ⟨rfl, ⟨rfl, ⟨rfl, ⟨rfl, ⟨rfl, trivial⟩⟩⟩⟩⟩) (hk26 x1 x2 x3 (x4 + (1 : Int32)) s _ _ h)
noncomputable def zyF224_66  (k26 : Int32 → Int32 → Int32 → Int32 → zy_S → Option (Int32 × zy_S)) (x1 : Int32) (x2 : Int32) (x3 : Int32) (x4 : Int32) (s : zy_S) : Option (Int32 × zy_S) :=
(zyF221 x1 x4 s).bind fun p1 =>
if p1.1 = 0 then
zyF224_79 k26 x1 x2 x3 x4 p1.2
else
zyF224_79 k26 x1 x2 x4 x4 p1.2
theorem zyC224_66 {X : zx_X}  {k26 : Int32 → Int32 → Int32 → Int32 → zy_S → Option (Int32 × zy_S)}  (hk26 : ∀ (x1 : Int32) (x2 : Int32) (x3 : Int32) (x4 : Int32) (s : zy_S) (r : Int32) (s' : zy_S), k26 x1 x2 x3 x4 s = some (r, s') → zyR X 5 224 26 [some (.ref (43 + 3)), some (.int x1), some (.int x2), some (.int x3), some (.int x4)] [] s (zyE (some (.int r)) s')) {x1 : Int32} {x2 : Int32} {x3 : Int32} {x4 : Int32} {s : zy_S} {r : Int32} {s' : zy_S}  (h : zyF224_66 k26 x1 x2 x3 x4 s = some (r, s')) : zyR X 5 224 66 [some (.ref (43 + 3)), some (.int x1), some (.int x2), some (.int x3), some (.int x4)] [] s (zyE (some (.int r)) s') := by
  unfold zyF224_66 at h
  refine zy_0 rfl rfl (show zyR _ _ _ _ [some (.ref (43 + 3)), some (.int x1), some (.int x2), some (.int x3), some (.int x4)] [.ref (43 + 3)] _ _ from ?_)
  refine zy_2 rfl rfl (show zyR _ _ _ _ [some (.ref (43 + 3)), some (.int x1), some (.int x2), some (.int x3), some (.int x4)] [.int x1, .ref (43 + 3)] _ _ from ?_)
  refine zy_2 rfl rfl (show zyR _ _ _ _ [some (.ref (43 + 3)), some (.int x1), some (.int x2), some (.int x3), some (.int x4)] [.int x4, .int x1, .ref (43 + 3)] _ _ from ?_)
  obtain ⟨p1, hp1, h⟩ := zy_bind h
  refine zy_5 (c := 43) (as := [.int x1, .int x4]) (rest := []) (L := [some (.ref (43 + 3)), some (.int x1), some (.int x4), none, none, none]) (d' := 4) rfl rfl rfl (Nat.le_of_ble_eq_true rfl) (Nat.le_of_ble_eq_true rfl) rfl (Nat.le_of_ble_eq_true rfl) rfl rfl (zyC221 hp1) ?_
  show zyR _ _ _ _ [some (.ref (43 + 3)), some (.int x1), some (.int x2), some (.int x3), some (.int x4)] [.int p1.1] _ _
  refine zy_24_0 rfl (fun b2 => (show zyR _ _ _ _ [some (.ref (43 + 3)), some (.int x1), some (.int x2), some (.int x3), some (.int x4)] [] _ _ from ?_)) (fun b2 => (show zyR _ _ _ _ [some (.ref (43 + 3)), some (.int x1), some (.int x2), some (.int x3), some (.int x4)] [] _ _ from ?_))
  · replace h := zy_ifp h b2
    exact zy_sub (show zy_le [some (.ref (43 + 3)), some (.int x1), some (.int x2), some (.int x3), some (.int x4)] [some (.ref (43 + 3)), some (.int x1), some (.int x2), some (.int x3), some (.int x4)] from ⟨rfl, ⟨rfl, ⟨rfl, ⟨rfl, ⟨rfl, trivial⟩⟩⟩⟩⟩) (zyC224_79 hk26 h)
  · replace h := zy_ifn h b2
    refine zy_2 rfl rfl (show zyR _ _ _ _ [some (.ref (43 + 3)), some (.int x1), some (.int x2), some (.int x3), some (.int x4)] [.int x4] _ _ from ?_)
    refine zy_23 rfl rfl (show zyR _ _ _ _ [some (.ref (43 + 3)), some (.int x1), some (.int x2), some (.int x4), some (.int x4)] [] _ _ from ?_)
    exact zy_sub (show zy_le [some (.ref (43 + 3)), some (.int x1), some (.int x2), some (.int x4), some (.int x4)] [some (.ref (43 + 3)), some (.int x1), some (.int x2), some (.int x4), some (.int x4)] from ⟨rfl, ⟨rfl, ⟨rfl, ⟨rfl, ⟨rfl, trivial⟩⟩⟩⟩⟩) (zyC224_79 hk26 h)
noncomputable def zyF224_26b  (k26 : Int32 → Int32 → Int32 → Int32 → zy_S → Option (Int32 × zy_S)) (x1 : Int32) (x2 : Int32) (x3 : Int32) (x4 : Int32) (s : zy_S) : Option (Int32 × zy_S) :=
if ((1 : Int32) <<< ((s.1 43 6) &&& 31)) ≤ x4 then
if x3 < 0 then
some (x3, s)
else
if x2 ≠ (1 : Int32) then
(zyF209 x3 s).bind fun p3 =>
some (p3.1, p3.2)
else
some (x3, s)
else
(zyF223 x1 s).bind fun p6 =>
if (x4 &&& (p6.1 ^^^ (-1 : Int32))) ≠ 0 then
zyF224_79 k26 x1 x2 x3 x4 p6.2
else
if x3 < 0 then
zyF224_66 k26 x1 x2 x3 x4 p6.2
else
(zyF209 x4 p6.2).bind fun p7 =>
(zyF209 x3 p7.2).bind fun p8 =>
if p8.1 ≤ p7.1 then
zyF224_79 k26 x1 x2 x3 x4 p8.2
else
zyF224_66 k26 x1 x2 x3 x4 p8.2
theorem zyC224_26b {X : zx_X}  {k26 : Int32 → Int32 → Int32 → Int32 → zy_S → Option (Int32 × zy_S)}  (hk26 : ∀ (x1 : Int32) (x2 : Int32) (x3 : Int32) (x4 : Int32) (s : zy_S) (r : Int32) (s' : zy_S), k26 x1 x2 x3 x4 s = some (r, s') → zyR X 5 224 26 [some (.ref (43 + 3)), some (.int x1), some (.int x2), some (.int x3), some (.int x4)] [] s (zyE (some (.int r)) s')) {x1 : Int32} {x2 : Int32} {x3 : Int32} {x4 : Int32} {s : zy_S} {r : Int32} {s' : zy_S}  (h : zyF224_26b k26 x1 x2 x3 x4 s = some (r, s')) : zyR X 5 224 26 [some (.ref (43 + 3)), some (.int x1), some (.int x2), some (.int x3), some (.int x4)] [] s (zyE (some (.int r)) s') := by
  unfold zyF224_26b at h
  refine zy_2 rfl rfl (show zyR _ _ _ _ [some (.ref (43 + 3)), some (.int x1), some (.int x2), some (.int x3), some (.int x4)] [.int x4] _ _ from ?_)
  refine zy_3 rfl rfl (show zyR _ _ _ _ [some (.ref (43 + 3)), some (.int x1), some (.int x2), some (.int x3), some (.int x4)] [.int (1 : Int32), .int x4] _ _ from ?_)
  refine zy_0 rfl rfl (show zyR _ _ _ _ [some (.ref (43 + 3)), some (.int x1), some (.int x2), some (.int x3), some (.int x4)] [.ref (43 + 3), .int (1 : Int32), .int x4] _ _ from ?_)
  refine zy_1 (c := 43) rfl rfl rfl (show zyR _ _ _ _ [some (.ref (43 + 3)), some (.int x1), some (.int x2), some (.int x3), some (.int x4)] [.int (s.1 43 6), .int (1 : Int32), .int x4] _ _ from ?_)
  refine zy_16 rfl (show zyR _ _ _ _ [some (.ref (43 + 3)), some (.int x1), some (.int x2), some (.int x3), some (.int x4)] [.int ((1 : Int32) <<< ((s.1 43 6) &&& 31)), .int x4] _ _ from ?_)
  refine zy_25_3 rfl (fun b12 => (show zyR _ _ _ _ [some (.ref (43 + 3)), some (.int x1), some (.int x2), some (.int x3), some (.int x4)] [] _ _ from ?_)) (fun b12 => (show zyR _ _ _ _ [some (.ref (43 + 3)), some (.int x1), some (.int x2), some (.int x3), some (.int x4)] [] _ _ from ?_))
  · replace h := zy_ifp h b12
    refine zy_2 rfl rfl (show zyR _ _ _ _ [some (.ref (43 + 3)), some (.int x1), some (.int x2), some (.int x3), some (.int x4)] [.int x3] _ _ from ?_)
    refine zy_24_2 rfl (fun b5 => (show zyR _ _ _ _ [some (.ref (43 + 3)), some (.int x1), some (.int x2), some (.int x3), some (.int x4)] [] _ _ from ?_)) (fun b5 => (show zyR _ _ _ _ [some (.ref (43 + 3)), some (.int x1), some (.int x2), some (.int x3), some (.int x4)] [] _ _ from ?_))
    · replace h := zy_ifp h b5
      refine zy_2 rfl rfl (show zyR _ _ _ _ [some (.ref (43 + 3)), some (.int x1), some (.int x2), some (.int x3), some (.int x4)] [.int x3] _ _ from ?_)
      refine zy_6 rfl (show zyR _ _ _ _ [some (.ref (43 + 3)), some (.int x1), some (.int x2), some (.int x3), some (.int x4)] [.int x3] _ _ from ?_)
      obtain ⟨rfl, rfl⟩ := zy_pi h
      exact zy_4 rfl ⟨rfl, rfl⟩
    · replace h := zy_ifn h b5
      refine zy_2 rfl rfl (show zyR _ _ _ _ [some (.ref (43 + 3)), some (.int x1), some (.int x2), some (.int x3), some (.int x4)] [.int x2] _ _ from ?_)
      refine zy_3 rfl rfl (show zyR _ _ _ _ [some (.ref (43 + 3)), some (.int x1), some (.int x2), some (.int x3), some (.int x4)] [.int (1 : Int32), .int x2] _ _ from ?_)
      refine zy_25_1 rfl (fun b4 => (show zyR _ _ _ _ [some (.ref (43 + 3)), some (.int x1), some (.int x2), some (.int x3), some (.int x4)] [] _ _ from ?_)) (fun b4 => (show zyR _ _ _ _ [some (.ref (43 + 3)), some (.int x1), some (.int x2), some (.int x3), some (.int x4)] [] _ _ from ?_))
      · replace h := zy_ifp h b4
        refine zy_2 rfl rfl (show zyR _ _ _ _ [some (.ref (43 + 3)), some (.int x1), some (.int x2), some (.int x3), some (.int x4)] [.int x3] _ _ from ?_)
        obtain ⟨p3, hp3, h⟩ := zy_bind h
        refine zy_60 (as := [.int x3]) (rest := []) (L := [some (.int x3), none, none]) (d' := 1) rfl rfl (Nat.le_of_ble_eq_true rfl) (Nat.le_of_ble_eq_true rfl) rfl (Nat.le_of_ble_eq_true rfl) rfl rfl (zyC209 hp3) ?_
        show zyR _ _ _ _ [some (.ref (43 + 3)), some (.int x1), some (.int x2), some (.int x3), some (.int x4)] [.int p3.1] _ _
        obtain ⟨rfl, rfl⟩ := zy_pi h
        exact zy_4 rfl ⟨rfl, rfl⟩
      · replace h := zy_ifn h b4
        refine zy_2 rfl rfl (show zyR _ _ _ _ [some (.ref (43 + 3)), some (.int x1), some (.int x2), some (.int x3), some (.int x4)] [.int x3] _ _ from ?_)
        refine zy_6 rfl (show zyR _ _ _ _ [some (.ref (43 + 3)), some (.int x1), some (.int x2), some (.int x3), some (.int x4)] [.int x3] _ _ from ?_)
        obtain ⟨rfl, rfl⟩ := zy_pi h
        exact zy_4 rfl ⟨rfl, rfl⟩
  · replace h := zy_ifn h b12
    refine zy_2 rfl rfl (show zyR _ _ _ _ [some (.ref (43 + 3)), some (.int x1), some (.int x2), some (.int x3), some (.int x4)] [.int x4] _ _ from ?_)
    refine zy_0 rfl rfl (show zyR _ _ _ _ [some (.ref (43 + 3)), some (.int x1), some (.int x2), some (.int x3), some (.int x4)] [.ref (43 + 3), .int x4] _ _ from ?_)
    refine zy_2 rfl rfl (show zyR _ _ _ _ [some (.ref (43 + 3)), some (.int x1), some (.int x2), some (.int x3), some (.int x4)] [.int x1, .ref (43 + 3), .int x4] _ _ from ?_)
    obtain ⟨p6, hp6, h⟩ := zy_bind h
    refine zy_5 (c := 43) (as := [.int x1]) (rest := [.int x4]) (L := [some (.ref (43 + 3)), some (.int x1), none, none]) (d' := 4) rfl rfl rfl (Nat.le_of_ble_eq_true rfl) (Nat.le_of_ble_eq_true rfl) rfl (Nat.le_of_ble_eq_true rfl) rfl rfl (zyC223 hp6) ?_
    show zyR _ _ _ _ [some (.ref (43 + 3)), some (.int x1), some (.int x2), some (.int x3), some (.int x4)] [.int p6.1, .int x4] _ _
    refine zy_3 rfl rfl (show zyR _ _ _ _ [some (.ref (43 + 3)), some (.int x1), some (.int x2), some (.int x3), some (.int x4)] [.int (-1 : Int32), .int p6.1, .int x4] _ _ from ?_)
    refine zy_15 rfl (show zyR _ _ _ _ [some (.ref (43 + 3)), some (.int x1), some (.int x2), some (.int x3), some (.int x4)] [.int (p6.1 ^^^ (-1 : Int32)), .int x4] _ _ from ?_)
    refine zy_13 rfl (show zyR _ _ _ _ [some (.ref (43 + 3)), some (.int x1), some (.int x2), some (.int x3), some (.int x4)] [.int (x4 &&& (p6.1 ^^^ (-1 : Int32)))] _ _ from ?_)
    refine zy_24_1 rfl (fun b11 => (show zyR _ _ _ _ [some (.ref (43 + 3)), some (.int x1), some (.int x2), some (.int x3), some (.int x4)] [] _ _ from ?_)) (fun b11 => (show zyR _ _ _ _ [some (.ref (43 + 3)), some (.int x1), some (.int x2), some (.int x3), some (.int x4)] [] _ _ from ?_))
    · replace h := zy_ifp h b11
      exact zy_sub (show zy_le [some (.ref (43 + 3)), some (.int x1), some (.int x2), some (.int x3), some (.int x4)] [some (.ref (43 + 3)), some (.int x1), some (.int x2), some (.int x3), some (.int x4)] from ⟨rfl, ⟨rfl, ⟨rfl, ⟨rfl, ⟨rfl, trivial⟩⟩⟩⟩⟩) (zyC224_79 hk26 h)
    · replace h := zy_ifn h b11
      refine zy_2 rfl rfl (show zyR _ _ _ _ [some (.ref (43 + 3)), some (.int x1), some (.int x2), some (.int x3), some (.int x4)] [.int x3] _ _ from ?_)
      refine zy_24_2 rfl (fun b10 => (show zyR _ _ _ _ [some (.ref (43 + 3)), some (.int x1), some (.int x2), some (.int x3), some (.int x4)] [] _ _ from ?_)) (fun b10 => (show zyR _ _ _ _ [some (.ref (43 + 3)), some (.int x1), some (.int x2), some (.int x3), some (.int x4)] [] _ _ from ?_))
      · replace h := zy_ifp h b10
        exact zy_sub (show zy_le [some (.ref (43 + 3)), some (.int x1), some (.int x2), some (.int x3), some (.int x4)] [some (.ref (43 + 3)), some (.int x1), some (.int x2), some (.int x3), some (.int x4)] from ⟨rfl, ⟨rfl, ⟨rfl, ⟨rfl, ⟨rfl, trivial⟩⟩⟩⟩⟩) (zyC224_66 hk26 h)
      · replace h := zy_ifn h b10
        refine zy_2 rfl rfl (show zyR _ _ _ _ [some (.ref (43 + 3)), some (.int x1), some (.int x2), some (.int x3), some (.int x4)] [.int x4] _ _ from ?_)
        obtain ⟨p7, hp7, h⟩ := zy_bind h
        refine zy_60 (as := [.int x4]) (rest := []) (L := [some (.int x4), none, none]) (d' := 1) rfl rfl (Nat.le_of_ble_eq_true rfl) (Nat.le_of_ble_eq_true rfl) rfl (Nat.le_of_ble_eq_true rfl) rfl rfl (zyC209 hp7) ?_
        show zyR _ _ _ _ [some (.ref (43 + 3)), some (.int x1), some (.int x2), some (.int x3), some (.int x4)] [.int p7.1] _ _
        refine zy_2 rfl rfl (show zyR _ _ _ _ [some (.ref (43 + 3)), some (.int x1), some (.int x2), some (.int x3), some (.int x4)] [.int x3, .int p7.1] _ _ from ?_)
        obtain ⟨p8, hp8, h⟩ := zy_bind h
        refine zy_60 (as := [.int x3]) (rest := [.int p7.1]) (L := [some (.int x3), none, none]) (d' := 1) rfl rfl (Nat.le_of_ble_eq_true rfl) (Nat.le_of_ble_eq_true rfl) rfl (Nat.le_of_ble_eq_true rfl) rfl rfl (zyC209 hp8) ?_
        show zyR _ _ _ _ [some (.ref (43 + 3)), some (.int x1), some (.int x2), some (.int x3), some (.int x4)] [.int p8.1, .int p7.1] _ _
        refine zy_25_3 rfl (fun b9 => (show zyR _ _ _ _ [some (.ref (43 + 3)), some (.int x1), some (.int x2), some (.int x3), some (.int x4)] [] _ _ from ?_)) (fun b9 => (show zyR _ _ _ _ [some (.ref (43 + 3)), some (.int x1), some (.int x2), some (.int x3), some (.int x4)] [] _ _ from ?_))
        · replace h := zy_ifp h b9
          exact zy_sub (show zy_le [some (.ref (43 + 3)), some (.int x1), some (.int x2), some (.int x3), some (.int x4)] [some (.ref (43 + 3)), some (.int x1), some (.int x2), some (.int x3), some (.int x4)] from ⟨rfl, ⟨rfl, ⟨rfl, ⟨rfl, ⟨rfl, trivial⟩⟩⟩⟩⟩) (zyC224_79 hk26 h)
        · replace h := zy_ifn h b9
          exact zy_sub (show zy_le [some (.ref (43 + 3)), some (.int x1), some (.int x2), some (.int x3), some (.int x4)] [some (.ref (43 + 3)), some (.int x1), some (.int x2), some (.int x3), some (.int x4)] from ⟨rfl, ⟨rfl, ⟨rfl, ⟨rfl, ⟨rfl, trivial⟩⟩⟩⟩⟩) (zyC224_66 hk26 h)
noncomputable def zyF224_26   (n : Nat) : Int32 → Int32 → Int32 → Int32 → zy_S → Option (Int32 × zy_S) := Nat.rec (fun _ _ _ _ _ => none) (fun _ k26 => zyF224_26b k26) n
theorem zyC224_26 {X : zx_X}     : ∀ (n : Nat) (x1 : Int32) (x2 : Int32) (x3 : Int32) (x4 : Int32) (s : zy_S) (r : Int32) (s' : zy_S), zyF224_26 n x1 x2 x3 x4 s = some (r, s') → zyR X 5 224 26 [some (.ref (43 + 3)), some (.int x1), some (.int x2), some (.int x3), some (.int x4)] [] s (zyE (some (.int r)) s')
  | 0, _, _, _, _ => by
    intro s r s'  h
    have h : (none : Option (Int32 × zy_S)) = some (r, s') := h
    cases h
  | n + 1, x1, x2, x3, x4 => by
    intro s r s'  h
    exact zyC224_26b (k26 := zyF224_26 n) (fun x1 x2 x3 x4 s r s'  h => zyC224_26  n x1 x2 x3 x4 s r s'  h) h
noncomputable def zyF224   (x1 : Int32) (x2 : Int32) (s : zy_S) : Option (Int32 × zy_S) :=
(zyF186 (x1).toInt64 s).bind fun p13 =>
if p13.1 = 0 then
some ((-1 : Int32), p13.2)
else
(zyF179 (x2).toInt64 (0 : Int64) (1 : Int64) p13.2).bind fun p14 =>
if p14.1 ≠ 0 then
zyF224_26 zy_fu x1 x2 (-2 : Int32) (0 : Int32) p14.2
else
some ((-1 : Int32), p14.2)
theorem zyC224 {X : zx_X}     {x1 : Int32} {x2 : Int32} {s : zy_S} {r : Int32} {s' : zy_S}  (h : zyF224 x1 x2 s = some (r, s')) : zyR X 5 224 0 [some (.ref (43 + 3)), some (.int x1), some (.int x2), none, none] [] s (zyE (some (.int r)) s') := by
  unfold zyF224 at h
  refine zy_2 rfl rfl (show zyR _ _ _ _ [some (.ref (43 + 3)), some (.int x1), some (.int x2), none, none] [.int x1] _ _ from ?_)
  refine zy_40 rfl (show zyR _ _ _ _ [some (.ref (43 + 3)), some (.int x1), some (.int x2), none, none] [.long (x1).toInt64] _ _ from ?_)
  obtain ⟨p13, hp13, h⟩ := zy_bind h
  refine zy_60 (as := [.long (x1).toInt64]) (rest := []) (L := [some (.long (x1).toInt64), none]) (d' := 2) rfl rfl (Nat.le_of_ble_eq_true rfl) (Nat.le_of_ble_eq_true rfl) rfl (Nat.le_of_ble_eq_true rfl) rfl rfl (zyC186 hp13) ?_
  show zyR _ _ _ _ [some (.ref (43 + 3)), some (.int x1), some (.int x2), none, none] [.int p13.1] _ _
  refine zy_24_0 rfl (fun b16 => (show zyR _ _ _ _ [some (.ref (43 + 3)), some (.int x1), some (.int x2), none, none] [] _ _ from ?_)) (fun b16 => (show zyR _ _ _ _ [some (.ref (43 + 3)), some (.int x1), some (.int x2), none, none] [] _ _ from ?_))
  · replace h := zy_ifp h b16
    refine zy_3 rfl rfl (show zyR _ _ _ _ [some (.ref (43 + 3)), some (.int x1), some (.int x2), none, none] [.int (-1 : Int32)] _ _ from ?_)
    obtain ⟨rfl, rfl⟩ := zy_pi h
    exact zy_4 rfl ⟨rfl, rfl⟩
  · replace h := zy_ifn h b16
    refine zy_2 rfl rfl (show zyR _ _ _ _ [some (.ref (43 + 3)), some (.int x1), some (.int x2), none, none] [.int x2] _ _ from ?_)
    refine zy_40 rfl (show zyR _ _ _ _ [some (.ref (43 + 3)), some (.int x1), some (.int x2), none, none] [.long (x2).toInt64] _ _ from ?_)
    refine zy_36 rfl rfl (show zyR _ _ _ _ [some (.ref (43 + 3)), some (.int x1), some (.int x2), none, none] [.long (0 : Int64), .long (x2).toInt64] _ _ from ?_)
    refine zy_36 rfl rfl (show zyR _ _ _ _ [some (.ref (43 + 3)), some (.int x1), some (.int x2), none, none] [.long (1 : Int64), .long (0 : Int64), .long (x2).toInt64] _ _ from ?_)
    obtain ⟨p14, hp14, h⟩ := zy_bind h
    refine zy_60 (as := [.long (x2).toInt64, .long (0 : Int64), .long (1 : Int64)]) (rest := []) (L := [some (.long (x2).toInt64), none, some (.long (0 : Int64)), none, some (.long (1 : Int64)), none]) (d' := 1) rfl rfl (Nat.le_of_ble_eq_true rfl) (Nat.le_of_ble_eq_true rfl) rfl (Nat.le_of_ble_eq_true rfl) rfl rfl (zyC179 hp14) ?_
    show zyR _ _ _ _ [some (.ref (43 + 3)), some (.int x1), some (.int x2), none, none] [.int p14.1] _ _
    refine zy_24_1 rfl (fun b15 => (show zyR _ _ _ _ [some (.ref (43 + 3)), some (.int x1), some (.int x2), none, none] [] _ _ from ?_)) (fun b15 => (show zyR _ _ _ _ [some (.ref (43 + 3)), some (.int x1), some (.int x2), none, none] [] _ _ from ?_))
    · replace h := zy_ifp h b15
      refine zy_3 rfl rfl (show zyR _ _ _ _ [some (.ref (43 + 3)), some (.int x1), some (.int x2), none, none] [.int (-2 : Int32)] _ _ from ?_)
      refine zy_23 rfl rfl (show zyR _ _ _ _ [some (.ref (43 + 3)), some (.int x1), some (.int x2), some (.int (-2 : Int32)), none] [] _ _ from ?_)
      refine zy_3 rfl rfl (show zyR _ _ _ _ [some (.ref (43 + 3)), some (.int x1), some (.int x2), some (.int (-2 : Int32)), none] [.int (0 : Int32)] _ _ from ?_)
      refine zy_23 rfl rfl (show zyR _ _ _ _ [some (.ref (43 + 3)), some (.int x1), some (.int x2), some (.int (-2 : Int32)), some (.int (0 : Int32))] [] _ _ from ?_)
      exact zy_sub (show zy_le [some (.ref (43 + 3)), some (.int x1), some (.int x2), some (.int (-2 : Int32)), some (.int (0 : Int32))] [some (.ref (43 + 3)), some (.int x1), some (.int x2), some (.int (-2 : Int32)), some (.int (0 : Int32))] from ⟨rfl, ⟨rfl, ⟨rfl, ⟨rfl, ⟨rfl, trivial⟩⟩⟩⟩⟩) (zyC224_26 zy_fu x1 x2 (-2 : Int32) (0 : Int32) p14.2 _ _ h)
    · replace h := zy_ifn h b15
      refine zy_3 rfl rfl (show zyR _ _ _ _ [some (.ref (43 + 3)), some (.int x1), some (.int x2), none, none] [.int (-1 : Int32)] _ _ from ?_)
      obtain ⟨rfl, rfl⟩ := zy_pi h
      exact zy_4 rfl ⟨rfl, rfl⟩
/-! NineOpinions$Book.fits(LNineOpinions$Shelf;II)Z -/
noncomputable def zyF114_67  (k5 : Nat → Int32 → Int32 → Int32 → Int32 → zy_S → Option (Int32 × zy_S)) (x0 : Nat) (x1 : Int32) (x2 : Int32) (x4 : Int32) (y0 : Int32) (s : zy_S) : Option (Int32 × zy_S) :=
k5 x0 x1 x2 y0 (x4 + (1 : Int32)) s
theorem zyC114_67 {X : zx_X}  {k5 : Nat → Int32 → Int32 → Int32 → Int32 → zy_S → Option (Int32 × zy_S)}  (hk5 : ∀ (x0 : Nat) (x1 : Int32) (x2 : Int32) (x3 : Int32) (x4 : Int32) (s : zy_S) (r : Int32) (s' : zy_S) (hs_x0 : zy_isSh x0), k5 x0 x1 x2 x3 x4 s = some (r, s') → zyR X 4 114 5 [some (.ref (x0 + 3)), some (.int x1), some (.int x2), some (.int x3), some (.int x4), none, none] [] s (zyE (some (.int r)) s')) {x0 : Nat} {x1 : Int32} {x2 : Int32} {x4 : Int32} {y0 : Int32} {s : zy_S} {r : Int32} {s' : zy_S} (hs_x0 : zy_isSh x0) (h : zyF114_67 k5 x0 x1 x2 x4 y0 s = some (r, s')) : zyR X 4 114 67 [some (.ref (x0 + 3)), some (.int x1), some (.int x2), none, some (.int x4), none, none] [.int y0] s (zyE (some (.int r)) s') := by
  unfold zyF114_67 at h
  refine zy_23 rfl rfl (show zyR _ _ _ _ [some (.ref (x0 + 3)), some (.int x1), some (.int x2), some (.int y0), some (.int x4), none, none] [] _ _ from ?_)
  refine zy_22 rfl rfl rfl rfl (show zyR _ _ _ _ [some (.ref (x0 + 3)), some (.int x1), some (.int x2), some (.int y0), some (.int (x4 + (1 : Int32))), none, none] [] _ _ from ?_)
  refine zy_6 rfl (show zyR _ _ _ _ [some (.ref (x0 + 3)), some (.int x1), some (.int x2), some (.int y0), some (.int (x4 + (1 : Int32))), none, none] [] _ _ from ?_)
  exact zy_sub (show zy_le [some (.ref (x0 + 3)), some (.int x1), some (.int x2), some (.int y0), some (.int (x4 + (1 : Int32))), none, none] [some (.ref (x0 + 3)), some (.int x1), some (.int x2), some (.int y0), some (.int (x4 + (1 : Int32))), none, none] from ⟨rfl, ⟨rfl, ⟨rfl, ⟨rfl, ⟨rfl, trivial⟩⟩⟩⟩⟩) (hk5 x0 x1 x2 y0 (x4 + (1 : Int32)) s _ _ hs_x0 h)
noncomputable def zyF114_66  (k5 : Nat → Int32 → Int32 → Int32 → Int32 → zy_S → Option (Int32 × zy_S)) (x0 : Nat) (x1 : Int32) (x2 : Int32) (x4 : Int32) (s : zy_S) : Option (Int32 × zy_S) :=
zyF114_67 k5 x0 x1 x2 x4 (0 : Int32) s
theorem zyC114_66 {X : zx_X}  {k5 : Nat → Int32 → Int32 → Int32 → Int32 → zy_S → Option (Int32 × zy_S)}  (hk5 : ∀ (x0 : Nat) (x1 : Int32) (x2 : Int32) (x3 : Int32) (x4 : Int32) (s : zy_S) (r : Int32) (s' : zy_S) (hs_x0 : zy_isSh x0), k5 x0 x1 x2 x3 x4 s = some (r, s') → zyR X 4 114 5 [some (.ref (x0 + 3)), some (.int x1), some (.int x2), some (.int x3), some (.int x4), none, none] [] s (zyE (some (.int r)) s')) {x0 : Nat} {x1 : Int32} {x2 : Int32} {x4 : Int32} {s : zy_S} {r : Int32} {s' : zy_S} (hs_x0 : zy_isSh x0) (h : zyF114_66 k5 x0 x1 x2 x4 s = some (r, s')) : zyR X 4 114 66 [some (.ref (x0 + 3)), some (.int x1), some (.int x2), none, some (.int x4), none, none] [] s (zyE (some (.int r)) s') := by
  unfold zyF114_66 at h
  refine zy_3 rfl rfl (show zyR _ _ _ _ [some (.ref (x0 + 3)), some (.int x1), some (.int x2), none, some (.int x4), none, none] [.int (0 : Int32)] _ _ from ?_)
  exact zy_sub (show zy_le [some (.ref (x0 + 3)), some (.int x1), some (.int x2), none, some (.int x4), none, none] [some (.ref (x0 + 3)), some (.int x1), some (.int x2), none, some (.int x4), none, none] from ⟨rfl, ⟨rfl, ⟨rfl, ⟨rfl, trivial⟩⟩⟩⟩) (zyC114_67 hk5 hs_x0 h)
noncomputable def zyF114_62  (k5 : Nat → Int32 → Int32 → Int32 → Int32 → zy_S → Option (Int32 × zy_S)) (x0 : Nat) (x1 : Int32) (x2 : Int32) (x4 : Int32) (s : zy_S) : Option (Int32 × zy_S) :=
zyF114_67 k5 x0 x1 x2 x4 (1 : Int32) s
theorem zyC114_62 {X : zx_X}  {k5 : Nat → Int32 → Int32 → Int32 → Int32 → zy_S → Option (Int32 × zy_S)}  (hk5 : ∀ (x0 : Nat) (x1 : Int32) (x2 : Int32) (x3 : Int32) (x4 : Int32) (s : zy_S) (r : Int32) (s' : zy_S) (hs_x0 : zy_isSh x0), k5 x0 x1 x2 x3 x4 s = some (r, s') → zyR X 4 114 5 [some (.ref (x0 + 3)), some (.int x1), some (.int x2), some (.int x3), some (.int x4), none, none] [] s (zyE (some (.int r)) s')) {x0 : Nat} {x1 : Int32} {x2 : Int32} {x4 : Int32} {s : zy_S} {r : Int32} {s' : zy_S} (hs_x0 : zy_isSh x0) (h : zyF114_62 k5 x0 x1 x2 x4 s = some (r, s')) : zyR X 4 114 62 [some (.ref (x0 + 3)), some (.int x1), some (.int x2), none, some (.int x4), none, none] [] s (zyE (some (.int r)) s') := by
  unfold zyF114_62 at h
  refine zy_3 rfl rfl (show zyR _ _ _ _ [some (.ref (x0 + 3)), some (.int x1), some (.int x2), none, some (.int x4), none, none] [.int (1 : Int32)] _ _ from ?_)
  refine zy_6 rfl (show zyR _ _ _ _ [some (.ref (x0 + 3)), some (.int x1), some (.int x2), none, some (.int x4), none, none] [.int (1 : Int32)] _ _ from ?_)
  exact zy_sub (show zy_le [some (.ref (x0 + 3)), some (.int x1), some (.int x2), none, some (.int x4), none, none] [some (.ref (x0 + 3)), some (.int x1), some (.int x2), none, some (.int x4), none, none] from ⟨rfl, ⟨rfl, ⟨rfl, ⟨rfl, trivial⟩⟩⟩⟩) (zyC114_67 hk5 hs_x0 h)
noncomputable def zyF114_41  (k5 : Nat → Int32 → Int32 → Int32 → Int32 → zy_S → Option (Int32 × zy_S)) (x0 : Nat) (x1 : Int32) (x2 : Int32) (x3 : Int32) (x4 : Int32) (y0 : Int32) (s : zy_S) : Option (Int32 × zy_S) :=
if x3 = 0 then
zyF114_66 k5 x0 x1 x2 x4 s
else
if y0 = 0 then
zyF114_62 k5 x0 x1 x2 x4 s
else
(zyF111 x0 x4 x2 s).bind fun p1 =>
if p1.1 = 0 then
zyF114_66 k5 x0 x1 x2 x4 p1.2
else
zyF114_62 k5 x0 x1 x2 x4 p1.2
theorem zyC114_41 {X : zx_X}  {k5 : Nat → Int32 → Int32 → Int32 → Int32 → zy_S → Option (Int32 × zy_S)}  (hk5 : ∀ (x0 : Nat) (x1 : Int32) (x2 : Int32) (x3 : Int32) (x4 : Int32) (s : zy_S) (r : Int32) (s' : zy_S) (hs_x0 : zy_isSh x0), k5 x0 x1 x2 x3 x4 s = some (r, s') → zyR X 4 114 5 [some (.ref (x0 + 3)), some (.int x1), some (.int x2), some (.int x3), some (.int x4), none, none] [] s (zyE (some (.int r)) s')) {x0 : Nat} {x1 : Int32} {x2 : Int32} {x3 : Int32} {x4 : Int32} {y0 : Int32} {s : zy_S} {r : Int32} {s' : zy_S} (hs_x0 : zy_isSh x0) (h : zyF114_41 k5 x0 x1 x2 x3 x4 y0 s = some (r, s')) : zyR X 4 114 41 [some (.ref (x0 + 3)), some (.int x1), some (.int x2), some (.int x3), some (.int x4), none, none] [.int y0] s (zyE (some (.int r)) s') := by
  unfold zyF114_41 at h
  refine zy_23 rfl rfl (show zyR _ _ _ _ [some (.ref (x0 + 3)), some (.int x1), some (.int x2), some (.int x3), some (.int x4), none, some (.int y0)] [] _ _ from ?_)
  refine zy_2 rfl rfl (show zyR _ _ _ _ [some (.ref (x0 + 3)), some (.int x1), some (.int x2), some (.int x3), some (.int x4), none, some (.int y0)] [.int x3] _ _ from ?_)
  refine zy_24_0 rfl (fun b4 => (show zyR _ _ _ _ [some (.ref (x0 + 3)), some (.int x1), some (.int x2), some (.int x3), some (.int x4), none, some (.int y0)] [] _ _ from ?_)) (fun b4 => (show zyR _ _ _ _ [some (.ref (x0 + 3)), some (.int x1), some (.int x2), some (.int x3), some (.int x4), none, some (.int y0)] [] _ _ from ?_))
  · replace h := zy_ifp h b4
    exact zy_sub (show zy_le [some (.ref (x0 + 3)), some (.int x1), some (.int x2), none, some (.int x4), none, none] [some (.ref (x0 + 3)), some (.int x1), some (.int x2), some (.int x3), some (.int x4), none, some (.int y0)] from ⟨rfl, ⟨rfl, ⟨rfl, ⟨rfl, trivial⟩⟩⟩⟩) (zyC114_66 hk5 hs_x0 h)
  · replace h := zy_ifn h b4
    refine zy_2 rfl rfl (show zyR _ _ _ _ [some (.ref (x0 + 3)), some (.int x1), some (.int x2), some (.int x3), some (.int x4), none, some (.int y0)] [.int y0] _ _ from ?_)
    refine zy_24_0 rfl (fun b3 => (show zyR _ _ _ _ [some (.ref (x0 + 3)), some (.int x1), some (.int x2), some (.int x3), some (.int x4), none, some (.int y0)] [] _ _ from ?_)) (fun b3 => (show zyR _ _ _ _ [some (.ref (x0 + 3)), some (.int x1), some (.int x2), some (.int x3), some (.int x4), none, some (.int y0)] [] _ _ from ?_))
    · replace h := zy_ifp h b3
      exact zy_sub (show zy_le [some (.ref (x0 + 3)), some (.int x1), some (.int x2), none, some (.int x4), none, none] [some (.ref (x0 + 3)), some (.int x1), some (.int x2), some (.int x3), some (.int x4), none, some (.int y0)] from ⟨rfl, ⟨rfl, ⟨rfl, ⟨rfl, trivial⟩⟩⟩⟩) (zyC114_62 hk5 hs_x0 h)
    · replace h := zy_ifn h b3
      refine zy_0 rfl rfl (show zyR _ _ _ _ [some (.ref (x0 + 3)), some (.int x1), some (.int x2), some (.int x3), some (.int x4), none, some (.int y0)] [.ref (x0 + 3)] _ _ from ?_)
      refine zy_2 rfl rfl (show zyR _ _ _ _ [some (.ref (x0 + 3)), some (.int x1), some (.int x2), some (.int x3), some (.int x4), none, some (.int y0)] [.int x4, .ref (x0 + 3)] _ _ from ?_)
      refine zy_2 rfl rfl (show zyR _ _ _ _ [some (.ref (x0 + 3)), some (.int x1), some (.int x2), some (.int x3), some (.int x4), none, some (.int y0)] [.int x2, .int x4, .ref (x0 + 3)] _ _ from ?_)
      obtain ⟨p1, hp1, h⟩ := zy_bind h
      refine zy_60 (as := [.ref (x0 + 3), .int x4, .int x2]) (rest := []) (L := [some (.ref (x0 + 3)), some (.int x4), some (.int x2), none]) (d' := 3) rfl rfl (Nat.le_of_ble_eq_true rfl) (Nat.le_of_ble_eq_true rfl) rfl (Nat.le_of_ble_eq_true rfl) rfl rfl (zyC111 hs_x0 hp1) ?_
      show zyR _ _ _ _ [some (.ref (x0 + 3)), some (.int x1), some (.int x2), some (.int x3), some (.int x4), none, some (.int y0)] [.int p1.1] _ _
      refine zy_24_0 rfl (fun b2 => (show zyR _ _ _ _ [some (.ref (x0 + 3)), some (.int x1), some (.int x2), some (.int x3), some (.int x4), none, some (.int y0)] [] _ _ from ?_)) (fun b2 => (show zyR _ _ _ _ [some (.ref (x0 + 3)), some (.int x1), some (.int x2), some (.int x3), some (.int x4), none, some (.int y0)] [] _ _ from ?_))
      · replace h := zy_ifp h b2
        exact zy_sub (show zy_le [some (.ref (x0 + 3)), some (.int x1), some (.int x2), none, some (.int x4), none, none] [some (.ref (x0 + 3)), some (.int x1), some (.int x2), some (.int x3), some (.int x4), none, some (.int y0)] from ⟨rfl, ⟨rfl, ⟨rfl, ⟨rfl, trivial⟩⟩⟩⟩) (zyC114_66 hk5 hs_x0 h)
      · replace h := zy_ifn h b2
        exact zy_sub (show zy_le [some (.ref (x0 + 3)), some (.int x1), some (.int x2), none, some (.int x4), none, none] [some (.ref (x0 + 3)), some (.int x1), some (.int x2), some (.int x3), some (.int x4), none, some (.int y0)] from ⟨rfl, ⟨rfl, ⟨rfl, ⟨rfl, trivial⟩⟩⟩⟩) (zyC114_62 hk5 hs_x0 h)
noncomputable def zyF114_40  (k5 : Nat → Int32 → Int32 → Int32 → Int32 → zy_S → Option (Int32 × zy_S)) (x0 : Nat) (x1 : Int32) (x2 : Int32) (x3 : Int32) (x4 : Int32) (s : zy_S) : Option (Int32 × zy_S) :=
zyF114_41 k5 x0 x1 x2 x3 x4 (0 : Int32) s
theorem zyC114_40 {X : zx_X}  {k5 : Nat → Int32 → Int32 → Int32 → Int32 → zy_S → Option (Int32 × zy_S)}  (hk5 : ∀ (x0 : Nat) (x1 : Int32) (x2 : Int32) (x3 : Int32) (x4 : Int32) (s : zy_S) (r : Int32) (s' : zy_S) (hs_x0 : zy_isSh x0), k5 x0 x1 x2 x3 x4 s = some (r, s') → zyR X 4 114 5 [some (.ref (x0 + 3)), some (.int x1), some (.int x2), some (.int x3), some (.int x4), none, none] [] s (zyE (some (.int r)) s')) {x0 : Nat} {x1 : Int32} {x2 : Int32} {x3 : Int32} {x4 : Int32} {s : zy_S} {r : Int32} {s' : zy_S} (hs_x0 : zy_isSh x0) (h : zyF114_40 k5 x0 x1 x2 x3 x4 s = some (r, s')) : zyR X 4 114 40 [some (.ref (x0 + 3)), some (.int x1), some (.int x2), some (.int x3), some (.int x4), none, none] [] s (zyE (some (.int r)) s') := by
  unfold zyF114_40 at h
  refine zy_3 rfl rfl (show zyR _ _ _ _ [some (.ref (x0 + 3)), some (.int x1), some (.int x2), some (.int x3), some (.int x4), none, none] [.int (0 : Int32)] _ _ from ?_)
  exact zy_sub (show zy_le [some (.ref (x0 + 3)), some (.int x1), some (.int x2), some (.int x3), some (.int x4), none, none] [some (.ref (x0 + 3)), some (.int x1), some (.int x2), some (.int x3), some (.int x4), none, none] from ⟨rfl, ⟨rfl, ⟨rfl, ⟨rfl, ⟨rfl, trivial⟩⟩⟩⟩⟩) (zyC114_41 hk5 hs_x0 h)
noncomputable def zyF114_5b  (k5 : Nat → Int32 → Int32 → Int32 → Int32 → zy_S → Option (Int32 × zy_S)) (x0 : Nat) (x1 : Int32) (x2 : Int32) (x3 : Int32) (x4 : Int32) (s : zy_S) : Option (Int32 × zy_S) :=
(zyF109 x0 s).bind fun p5 =>
if p5.1 ≤ x4 then
if x3 = 0 ∨ x3 = 1 then
some (x3, p5.2)
else none
else
(zyF110 x0 x4 p5.2).bind fun p7 =>
if p7.1 = (-1 : Int32) then
zyF114_40 k5 x0 x1 x2 x3 x4 p7.2
else
if (p7.1 / (4 : Int32)) ≠ x1 then
zyF114_40 k5 x0 x1 x2 x3 x4 p7.2
else
zyF114_41 k5 x0 x1 x2 x3 x4 (1 : Int32) p7.2
theorem zyC114_5b {X : zx_X}  {k5 : Nat → Int32 → Int32 → Int32 → Int32 → zy_S → Option (Int32 × zy_S)}  (hk5 : ∀ (x0 : Nat) (x1 : Int32) (x2 : Int32) (x3 : Int32) (x4 : Int32) (s : zy_S) (r : Int32) (s' : zy_S) (hs_x0 : zy_isSh x0), k5 x0 x1 x2 x3 x4 s = some (r, s') → zyR X 4 114 5 [some (.ref (x0 + 3)), some (.int x1), some (.int x2), some (.int x3), some (.int x4), none, none] [] s (zyE (some (.int r)) s')) {x0 : Nat} {x1 : Int32} {x2 : Int32} {x3 : Int32} {x4 : Int32} {s : zy_S} {r : Int32} {s' : zy_S} (hs_x0 : zy_isSh x0) (h : zyF114_5b k5 x0 x1 x2 x3 x4 s = some (r, s')) : zyR X 4 114 5 [some (.ref (x0 + 3)), some (.int x1), some (.int x2), some (.int x3), some (.int x4), none, none] [] s (zyE (some (.int r)) s') := by
  unfold zyF114_5b at h
  refine zy_2 rfl rfl (show zyR _ _ _ _ [some (.ref (x0 + 3)), some (.int x1), some (.int x2), some (.int x3), some (.int x4), none, none] [.int x4] _ _ from ?_)
  refine zy_0 rfl rfl (show zyR _ _ _ _ [some (.ref (x0 + 3)), some (.int x1), some (.int x2), some (.int x3), some (.int x4), none, none] [.ref (x0 + 3), .int x4] _ _ from ?_)
  obtain ⟨p5, hp5, h⟩ := zy_bind h
  refine zy_60 (as := [.ref (x0 + 3)]) (rest := [.int x4]) (L := [some (.ref (x0 + 3))]) (d' := 1) rfl rfl (Nat.le_of_ble_eq_true rfl) (Nat.le_of_ble_eq_true rfl) rfl (Nat.le_of_ble_eq_true rfl) rfl rfl (zyC109 hs_x0 hp5) ?_
  show zyR _ _ _ _ [some (.ref (x0 + 3)), some (.int x1), some (.int x2), some (.int x3), some (.int x4), none, none] [.int p5.1, .int x4] _ _
  refine zy_25_3 rfl (fun b10 => (show zyR _ _ _ _ [some (.ref (x0 + 3)), some (.int x1), some (.int x2), some (.int x3), some (.int x4), none, none] [] _ _ from ?_)) (fun b10 => (show zyR _ _ _ _ [some (.ref (x0 + 3)), some (.int x1), some (.int x2), some (.int x3), some (.int x4), none, none] [] _ _ from ?_))
  · replace h := zy_ifp h b10
    refine zy_2 rfl rfl (show zyR _ _ _ _ [some (.ref (x0 + 3)), some (.int x1), some (.int x2), some (.int x3), some (.int x4), none, none] [.int x3] _ _ from ?_)
    obtain ⟨c6, h⟩ := zy_if h
    cases h
    exact zy_4b rfl ⟨rfl, rfl⟩ c6
  · replace h := zy_ifn h b10
    refine zy_0 rfl rfl (show zyR _ _ _ _ [some (.ref (x0 + 3)), some (.int x1), some (.int x2), some (.int x3), some (.int x4), none, none] [.ref (x0 + 3)] _ _ from ?_)
    refine zy_2 rfl rfl (show zyR _ _ _ _ [some (.ref (x0 + 3)), some (.int x1), some (.int x2), some (.int x3), some (.int x4), none, none] [.int x4, .ref (x0 + 3)] _ _ from ?_)
    obtain ⟨p7, hp7, h⟩ := zy_bind h
    refine zy_60 (as := [.ref (x0 + 3), .int x4]) (rest := []) (L := [some (.ref (x0 + 3)), some (.int x4), none]) (d' := 2) rfl rfl (Nat.le_of_ble_eq_true rfl) (Nat.le_of_ble_eq_true rfl) rfl (Nat.le_of_ble_eq_true rfl) rfl rfl (zyC110 hs_x0 hp7) ?_
    show zyR _ _ _ _ [some (.ref (x0 + 3)), some (.int x1), some (.int x2), some (.int x3), some (.int x4), none, none] [.int p7.1] _ _
    refine zy_23 rfl rfl (show zyR _ _ _ _ [some (.ref (x0 + 3)), some (.int x1), some (.int x2), some (.int x3), some (.int x4), some (.int p7.1), none] [] _ _ from ?_)
    refine zy_2 rfl rfl (show zyR _ _ _ _ [some (.ref (x0 + 3)), some (.int x1), some (.int x2), some (.int x3), some (.int x4), some (.int p7.1), none] [.int p7.1] _ _ from ?_)
    refine zy_3 rfl rfl (show zyR _ _ _ _ [some (.ref (x0 + 3)), some (.int x1), some (.int x2), some (.int x3), some (.int x4), some (.int p7.1), none] [.int (-1 : Int32), .int p7.1] _ _ from ?_)
    refine zy_25_0 rfl (fun b9 => (show zyR _ _ _ _ [some (.ref (x0 + 3)), some (.int x1), some (.int x2), some (.int x3), some (.int x4), some (.int p7.1), none] [] _ _ from ?_)) (fun b9 => (show zyR _ _ _ _ [some (.ref (x0 + 3)), some (.int x1), some (.int x2), some (.int x3), some (.int x4), some (.int p7.1), none] [] _ _ from ?_))
    · replace h := zy_ifp h b9
      exact zy_sub (show zy_le [some (.ref (x0 + 3)), some (.int x1), some (.int x2), some (.int x3), some (.int x4), none, none] [some (.ref (x0 + 3)), some (.int x1), some (.int x2), some (.int x3), some (.int x4), some (.int p7.1), none] from ⟨rfl, ⟨rfl, ⟨rfl, ⟨rfl, ⟨rfl, trivial⟩⟩⟩⟩⟩) (zyC114_40 hk5 hs_x0 h)
    · replace h := zy_ifn h b9
      refine zy_2 rfl rfl (show zyR _ _ _ _ [some (.ref (x0 + 3)), some (.int x1), some (.int x2), some (.int x3), some (.int x4), some (.int p7.1), none] [.int p7.1] _ _ from ?_)
      refine zy_3 rfl rfl (show zyR _ _ _ _ [some (.ref (x0 + 3)), some (.int x1), some (.int x2), some (.int x3), some (.int x4), some (.int p7.1), none] [.int (4 : Int32), .int p7.1] _ _ from ?_)
      refine zy_19 rfl (by decide) (show zyR _ _ _ _ [some (.ref (x0 + 3)), some (.int x1), some (.int x2), some (.int x3), some (.int x4), some (.int p7.1), none] [.int (p7.1 / (4 : Int32))] _ _ from ?_)
      refine zy_2 rfl rfl (show zyR _ _ _ _ [some (.ref (x0 + 3)), some (.int x1), some (.int x2), some (.int x3), some (.int x4), some (.int p7.1), none] [.int x1, .int (p7.1 / (4 : Int32))] _ _ from ?_)
      refine zy_25_1 rfl (fun b8 => (show zyR _ _ _ _ [some (.ref (x0 + 3)), some (.int x1), some (.int x2), some (.int x3), some (.int x4), some (.int p7.1), none] [] _ _ from ?_)) (fun b8 => (show zyR _ _ _ _ [some (.ref (x0 + 3)), some (.int x1), some (.int x2), some (.int x3), some (.int x4), some (.int p7.1), none] [] _ _ from ?_))
      · replace h := zy_ifp h b8
        exact zy_sub (show zy_le [some (.ref (x0 + 3)), some (.int x1), some (.int x2), some (.int x3), some (.int x4), none, none] [some (.ref (x0 + 3)), some (.int x1), some (.int x2), some (.int x3), some (.int x4), some (.int p7.1), none] from ⟨rfl, ⟨rfl, ⟨rfl, ⟨rfl, ⟨rfl, trivial⟩⟩⟩⟩⟩) (zyC114_40 hk5 hs_x0 h)
      · replace h := zy_ifn h b8
        refine zy_3 rfl rfl (show zyR _ _ _ _ [some (.ref (x0 + 3)), some (.int x1), some (.int x2), some (.int x3), some (.int x4), some (.int p7.1), none] [.int (1 : Int32)] _ _ from ?_)
        refine zy_6 rfl (show zyR _ _ _ _ [some (.ref (x0 + 3)), some (.int x1), some (.int x2), some (.int x3), some (.int x4), some (.int p7.1), none] [.int (1 : Int32)] _ _ from ?_)
        exact zy_sub (show zy_le [some (.ref (x0 + 3)), some (.int x1), some (.int x2), some (.int x3), some (.int x4), none, none] [some (.ref (x0 + 3)), some (.int x1), some (.int x2), some (.int x3), some (.int x4), some (.int p7.1), none] from ⟨rfl, ⟨rfl, ⟨rfl, ⟨rfl, ⟨rfl, trivial⟩⟩⟩⟩⟩) (zyC114_41 hk5 hs_x0 h)
noncomputable def zyF114_5   (n : Nat) : Nat → Int32 → Int32 → Int32 → Int32 → zy_S → Option (Int32 × zy_S) := Nat.rec (fun _ _ _ _ _ _ => none) (fun _ k5 => zyF114_5b k5) n
theorem zyC114_5 {X : zx_X}     : ∀ (n : Nat) (x0 : Nat) (x1 : Int32) (x2 : Int32) (x3 : Int32) (x4 : Int32) (s : zy_S) (r : Int32) (s' : zy_S) (hs_x0 : zy_isSh x0), zyF114_5 n x0 x1 x2 x3 x4 s = some (r, s') → zyR X 4 114 5 [some (.ref (x0 + 3)), some (.int x1), some (.int x2), some (.int x3), some (.int x4), none, none] [] s (zyE (some (.int r)) s')
  | 0, _, _, _, _, _ => by
    intro s r s' hs_x0 h
    have h : (none : Option (Int32 × zy_S)) = some (r, s') := h
    cases h
  | n + 1, x0, x1, x2, x3, x4 => by
    intro s r s' hs_x0 h
    exact zyC114_5b (k5 := zyF114_5 n) (fun x0 x1 x2 x3 x4 s r s' hs_x0 h => zyC114_5  n x0 x1 x2 x3 x4 s r s' hs_x0 h) hs_x0 h
noncomputable def zyF114   (x0 : Nat) (x1 : Int32) (x2 : Int32) (s : zy_S) : Option (Int32 × zy_S) :=
zyF114_5 zy_fu x0 x1 x2 (1 : Int32) (0 : Int32) s
theorem zyC114 {X : zx_X}     {x0 : Nat} {x1 : Int32} {x2 : Int32} {s : zy_S} {r : Int32} {s' : zy_S} (hs_x0 : zy_isSh x0) (h : zyF114 x0 x1 x2 s = some (r, s')) : zyR X 4 114 0 [some (.ref (x0 + 3)), some (.int x1), some (.int x2), none, none, none, none] [] s (zyE (some (.int r)) s') := by
  unfold zyF114 at h
  refine zy_3 rfl rfl (show zyR _ _ _ _ [some (.ref (x0 + 3)), some (.int x1), some (.int x2), none, none, none, none] [.int (1 : Int32)] _ _ from ?_)
  refine zy_23 rfl rfl (show zyR _ _ _ _ [some (.ref (x0 + 3)), some (.int x1), some (.int x2), some (.int (1 : Int32)), none, none, none] [] _ _ from ?_)
  refine zy_3 rfl rfl (show zyR _ _ _ _ [some (.ref (x0 + 3)), some (.int x1), some (.int x2), some (.int (1 : Int32)), none, none, none] [.int (0 : Int32)] _ _ from ?_)
  refine zy_23 rfl rfl (show zyR _ _ _ _ [some (.ref (x0 + 3)), some (.int x1), some (.int x2), some (.int (1 : Int32)), some (.int (0 : Int32)), none, none] [] _ _ from ?_)
  exact zy_sub (show zy_le [some (.ref (x0 + 3)), some (.int x1), some (.int x2), some (.int (1 : Int32)), some (.int (0 : Int32)), none, none] [some (.ref (x0 + 3)), some (.int x1), some (.int x2), some (.int (1 : Int32)), some (.int (0 : Int32)), none, none] from ⟨rfl, ⟨rfl, ⟨rfl, ⟨rfl, ⟨rfl, trivial⟩⟩⟩⟩⟩) (zyC114_5 zy_fu x0 x1 x2 (1 : Int32) (0 : Int32) s _ _ hs_x0 h)
/-! NineOpinions$Book.viewsFor(LNineOpinions$Shelf;I)I -/
noncomputable def zyF113_26  (k4 : Nat → Int32 → Int32 → Int32 → zy_S → Option (Int32 × zy_S)) (x0 : Nat) (x1 : Int32) (x3 : Int32) (y0 : Int32) (y1 : Int32) (s : zy_S) : Option (Int32 × zy_S) :=
k4 x0 x1 (y1 ||| y0) (x3 + (1 : Int32)) s
theorem zyC113_26 {X : zx_X}  {k4 : Nat → Int32 → Int32 → Int32 → zy_S → Option (Int32 × zy_S)}  (hk4 : ∀ (x0 : Nat) (x1 : Int32) (x2 : Int32) (x3 : Int32) (s : zy_S) (r : Int32) (s' : zy_S) (hs_x0 : zy_isSh x0), k4 x0 x1 x2 x3 s = some (r, s') → zyR X 5 113 4 [some (.ref (x0 + 3)), some (.int x1), some (.int x2), some (.int x3)] [] s (zyE (some (.int r)) s')) {x0 : Nat} {x1 : Int32} {x3 : Int32} {y0 : Int32} {y1 : Int32} {s : zy_S} {r : Int32} {s' : zy_S} (hs_x0 : zy_isSh x0) (h : zyF113_26 k4 x0 x1 x3 y0 y1 s = some (r, s')) : zyR X 5 113 26 [some (.ref (x0 + 3)), some (.int x1), none, some (.int x3)] [.int y0, .int y1] s (zyE (some (.int r)) s') := by
  unfold zyF113_26 at h
  refine zy_14 rfl (show zyR _ _ _ _ [some (.ref (x0 + 3)), some (.int x1), none, some (.int x3)] [.int (y1 ||| y0)] _ _ from ?_)
  refine zy_23 rfl rfl (show zyR _ _ _ _ [some (.ref (x0 + 3)), some (.int x1), some (.int (y1 ||| y0)), some (.int x3)] [] _ _ from ?_)
  refine zy_22 rfl rfl rfl rfl (show zyR _ _ _ _ [some (.ref (x0 + 3)), some (.int x1), some (.int (y1 ||| y0)), some (.int (x3 + (1 : Int32)))] [] _ _ from ?_)
  refine zy_6 rfl (show zyR _ _ _ _ [some (.ref (x0 + 3)), some (.int x1), some (.int (y1 ||| y0)), some (.int (x3 + (1 : Int32)))] [] _ _ from ?_)
  exact zy_sub (show zy_le [some (.ref (x0 + 3)), some (.int x1), some (.int (y1 ||| y0)), some (.int (x3 + (1 : Int32)))] [some (.ref (x0 + 3)), some (.int x1), some (.int (y1 ||| y0)), some (.int (x3 + (1 : Int32)))] from ⟨rfl, ⟨rfl, ⟨rfl, ⟨rfl, trivial⟩⟩⟩⟩) (hk4 x0 x1 (y1 ||| y0) (x3 + (1 : Int32)) s _ _ hs_x0 h)
noncomputable def zyF113_4b  (k4 : Nat → Int32 → Int32 → Int32 → zy_S → Option (Int32 × zy_S)) (x0 : Nat) (x1 : Int32) (x2 : Int32) (x3 : Int32) (s : zy_S) : Option (Int32 × zy_S) :=
if (4 : Int32) ≤ x3 then
some (x2, s)
else
(zyF114 x0 x1 x3 s).bind fun p1 =>
if p1.1 = 0 then
zyF113_26 k4 x0 x1 x3 (0 : Int32) x2 p1.2
else
zyF113_26 k4 x0 x1 x3 ((1 : Int32) <<< (x3 &&& 31)) x2 p1.2
theorem zyC113_4b {X : zx_X}  {k4 : Nat → Int32 → Int32 → Int32 → zy_S → Option (Int32 × zy_S)}  (hk4 : ∀ (x0 : Nat) (x1 : Int32) (x2 : Int32) (x3 : Int32) (s : zy_S) (r : Int32) (s' : zy_S) (hs_x0 : zy_isSh x0), k4 x0 x1 x2 x3 s = some (r, s') → zyR X 5 113 4 [some (.ref (x0 + 3)), some (.int x1), some (.int x2), some (.int x3)] [] s (zyE (some (.int r)) s')) {x0 : Nat} {x1 : Int32} {x2 : Int32} {x3 : Int32} {s : zy_S} {r : Int32} {s' : zy_S} (hs_x0 : zy_isSh x0) (h : zyF113_4b k4 x0 x1 x2 x3 s = some (r, s')) : zyR X 5 113 4 [some (.ref (x0 + 3)), some (.int x1), some (.int x2), some (.int x3)] [] s (zyE (some (.int r)) s') := by
  unfold zyF113_4b at h
  refine zy_2 rfl rfl (show zyR _ _ _ _ [some (.ref (x0 + 3)), some (.int x1), some (.int x2), some (.int x3)] [.int x3] _ _ from ?_)
  refine zy_3 rfl rfl (show zyR _ _ _ _ [some (.ref (x0 + 3)), some (.int x1), some (.int x2), some (.int x3)] [.int (4 : Int32), .int x3] _ _ from ?_)
  refine zy_25_3 rfl (fun b3 => (show zyR _ _ _ _ [some (.ref (x0 + 3)), some (.int x1), some (.int x2), some (.int x3)] [] _ _ from ?_)) (fun b3 => (show zyR _ _ _ _ [some (.ref (x0 + 3)), some (.int x1), some (.int x2), some (.int x3)] [] _ _ from ?_))
  · replace h := zy_ifp h b3
    refine zy_2 rfl rfl (show zyR _ _ _ _ [some (.ref (x0 + 3)), some (.int x1), some (.int x2), some (.int x3)] [.int x2] _ _ from ?_)
    obtain ⟨rfl, rfl⟩ := zy_pi h
    exact zy_4 rfl ⟨rfl, rfl⟩
  · replace h := zy_ifn h b3
    refine zy_2 rfl rfl (show zyR _ _ _ _ [some (.ref (x0 + 3)), some (.int x1), some (.int x2), some (.int x3)] [.int x2] _ _ from ?_)
    refine zy_0 rfl rfl (show zyR _ _ _ _ [some (.ref (x0 + 3)), some (.int x1), some (.int x2), some (.int x3)] [.ref (x0 + 3), .int x2] _ _ from ?_)
    refine zy_2 rfl rfl (show zyR _ _ _ _ [some (.ref (x0 + 3)), some (.int x1), some (.int x2), some (.int x3)] [.int x1, .ref (x0 + 3), .int x2] _ _ from ?_)
    refine zy_2 rfl rfl (show zyR _ _ _ _ [some (.ref (x0 + 3)), some (.int x1), some (.int x2), some (.int x3)] [.int x3, .int x1, .ref (x0 + 3), .int x2] _ _ from ?_)
    obtain ⟨p1, hp1, h⟩ := zy_bind h
    refine zy_60 (as := [.ref (x0 + 3), .int x1, .int x3]) (rest := [.int x2]) (L := [some (.ref (x0 + 3)), some (.int x1), some (.int x3), none, none, none, none]) (d' := 4) rfl rfl (Nat.le_of_ble_eq_true rfl) (Nat.le_of_ble_eq_true rfl) rfl (Nat.le_of_ble_eq_true rfl) rfl rfl (zyC114 hs_x0 hp1) ?_
    show zyR _ _ _ _ [some (.ref (x0 + 3)), some (.int x1), some (.int x2), some (.int x3)] [.int p1.1, .int x2] _ _
    refine zy_24_0 rfl (fun b2 => (show zyR _ _ _ _ [some (.ref (x0 + 3)), some (.int x1), some (.int x2), some (.int x3)] [.int x2] _ _ from ?_)) (fun b2 => (show zyR _ _ _ _ [some (.ref (x0 + 3)), some (.int x1), some (.int x2), some (.int x3)] [.int x2] _ _ from ?_))
    · replace h := zy_ifp h b2
      refine zy_3 rfl rfl (show zyR _ _ _ _ [some (.ref (x0 + 3)), some (.int x1), some (.int x2), some (.int x3)] [.int (0 : Int32), .int x2] _ _ from ?_)
      exact zy_sub (show zy_le [some (.ref (x0 + 3)), some (.int x1), none, some (.int x3)] [some (.ref (x0 + 3)), some (.int x1), some (.int x2), some (.int x3)] from ⟨rfl, ⟨rfl, ⟨rfl, trivial⟩⟩⟩) (zyC113_26 hk4 hs_x0 h)
    · replace h := zy_ifn h b2
      refine zy_3 rfl rfl (show zyR _ _ _ _ [some (.ref (x0 + 3)), some (.int x1), some (.int x2), some (.int x3)] [.int (1 : Int32), .int x2] _ _ from ?_)
      refine zy_2 rfl rfl (show zyR _ _ _ _ [some (.ref (x0 + 3)), some (.int x1), some (.int x2), some (.int x3)] [.int x3, .int (1 : Int32), .int x2] _ _ from ?_)
      refine zy_16 rfl (show zyR _ _ _ _ [some (.ref (x0 + 3)), some (.int x1), some (.int x2), some (.int x3)] [.int ((1 : Int32) <<< (x3 &&& 31)), .int x2] _ _ from ?_)
      refine zy_6 rfl (show zyR _ _ _ _ [some (.ref (x0 + 3)), some (.int x1), some (.int x2), some (.int x3)] [.int ((1 : Int32) <<< (x3 &&& 31)), .int x2] _ _ from ?_)
      exact zy_sub (show zy_le [some (.ref (x0 + 3)), some (.int x1), none, some (.int x3)] [some (.ref (x0 + 3)), some (.int x1), some (.int x2), some (.int x3)] from ⟨rfl, ⟨rfl, ⟨rfl, trivial⟩⟩⟩) (zyC113_26 hk4 hs_x0 h)
noncomputable def zyF113_4   (n : Nat) : Nat → Int32 → Int32 → Int32 → zy_S → Option (Int32 × zy_S) := Nat.rec (fun _ _ _ _ _ => none) (fun _ k4 => zyF113_4b k4) n
theorem zyC113_4 {X : zx_X}     : ∀ (n : Nat) (x0 : Nat) (x1 : Int32) (x2 : Int32) (x3 : Int32) (s : zy_S) (r : Int32) (s' : zy_S) (hs_x0 : zy_isSh x0), zyF113_4 n x0 x1 x2 x3 s = some (r, s') → zyR X 5 113 4 [some (.ref (x0 + 3)), some (.int x1), some (.int x2), some (.int x3)] [] s (zyE (some (.int r)) s')
  | 0, _, _, _, _ => by
    intro s r s' hs_x0 h
    have h : (none : Option (Int32 × zy_S)) = some (r, s') := h
    cases h
  | n + 1, x0, x1, x2, x3 => by
    intro s r s' hs_x0 h
    exact zyC113_4b (k4 := zyF113_4 n) (fun x0 x1 x2 x3 s r s' hs_x0 h => zyC113_4  n x0 x1 x2 x3 s r s' hs_x0 h) hs_x0 h
noncomputable def zyF113   (x0 : Nat) (x1 : Int32) (s : zy_S) : Option (Int32 × zy_S) :=
zyF113_4 zy_fu x0 x1 (0 : Int32) (0 : Int32) s
theorem zyC113 {X : zx_X}     {x0 : Nat} {x1 : Int32} {s : zy_S} {r : Int32} {s' : zy_S} (hs_x0 : zy_isSh x0) (h : zyF113 x0 x1 s = some (r, s')) : zyR X 5 113 0 [some (.ref (x0 + 3)), some (.int x1), none, none] [] s (zyE (some (.int r)) s') := by
  unfold zyF113 at h
  refine zy_3 rfl rfl (show zyR _ _ _ _ [some (.ref (x0 + 3)), some (.int x1), none, none] [.int (0 : Int32)] _ _ from ?_)
  refine zy_23 rfl rfl (show zyR _ _ _ _ [some (.ref (x0 + 3)), some (.int x1), some (.int (0 : Int32)), none] [] _ _ from ?_)
  refine zy_3 rfl rfl (show zyR _ _ _ _ [some (.ref (x0 + 3)), some (.int x1), some (.int (0 : Int32)), none] [.int (0 : Int32)] _ _ from ?_)
  refine zy_23 rfl rfl (show zyR _ _ _ _ [some (.ref (x0 + 3)), some (.int x1), some (.int (0 : Int32)), some (.int (0 : Int32))] [] _ _ from ?_)
  exact zy_sub (show zy_le [some (.ref (x0 + 3)), some (.int x1), some (.int (0 : Int32)), some (.int (0 : Int32))] [some (.ref (x0 + 3)), some (.int x1), some (.int (0 : Int32)), some (.int (0 : Int32))] from ⟨rfl, ⟨rfl, ⟨rfl, ⟨rfl, trivial⟩⟩⟩⟩) (zyC113_4 zy_fu x0 x1 (0 : Int32) (0 : Int32) s _ _ hs_x0 h)
/-! NineOpinions.lowestViewOrNot(I)I -/
noncomputable def zyF115_2b  (k2 : Int32 → Int32 → zy_S → Option (Int32 × zy_S)) (x0 : Int32) (x1 : Int32) (s : zy_S) : Option (Int32 × zy_S) :=
if (4 : Int32) ≤ x1 then
some ((-2 : Int32), s)
else
(zyF32 x0 x1 s).bind fun p1 =>
if p1.1 ≠ (1 : Int32) then
k2 x0 (x1 + (1 : Int32)) p1.2
else
some (x1, p1.2)
theorem zyC115_2b {X : zx_X}  {k2 : Int32 → Int32 → zy_S → Option (Int32 × zy_S)}  (hk2 : ∀ (x0 : Int32) (x1 : Int32) (s : zy_S) (r : Int32) (s' : zy_S), k2 x0 x1 s = some (r, s') → zyR X 2 115 2 [some (.int x0), some (.int x1)] [] s (zyE (some (.int r)) s')) {x0 : Int32} {x1 : Int32} {s : zy_S} {r : Int32} {s' : zy_S}  (h : zyF115_2b k2 x0 x1 s = some (r, s')) : zyR X 2 115 2 [some (.int x0), some (.int x1)] [] s (zyE (some (.int r)) s') := by
  unfold zyF115_2b at h
  refine zy_2 rfl rfl (show zyR _ _ _ _ [some (.int x0), some (.int x1)] [.int x1] _ _ from ?_)
  refine zy_3 rfl rfl (show zyR _ _ _ _ [some (.int x0), some (.int x1)] [.int (4 : Int32), .int x1] _ _ from ?_)
  refine zy_25_3 rfl (fun b3 => (show zyR _ _ _ _ [some (.int x0), some (.int x1)] [] _ _ from ?_)) (fun b3 => (show zyR _ _ _ _ [some (.int x0), some (.int x1)] [] _ _ from ?_))
  · replace h := zy_ifp h b3
    refine zy_3 rfl rfl (show zyR _ _ _ _ [some (.int x0), some (.int x1)] [.int (-2 : Int32)] _ _ from ?_)
    obtain ⟨rfl, rfl⟩ := zy_pi h
    exact zy_4 rfl ⟨rfl, rfl⟩
  · replace h := zy_ifn h b3
    refine zy_2 rfl rfl (show zyR _ _ _ _ [some (.int x0), some (.int x1)] [.int x0] _ _ from ?_)
    refine zy_2 rfl rfl (show zyR _ _ _ _ [some (.int x0), some (.int x1)] [.int x1, .int x0] _ _ from ?_)
    obtain ⟨p1, hp1, h⟩ := zy_bind h
    refine zy_60 (as := [.int x0, .int x1]) (rest := []) (L := [some (.int x0), some (.int x1)]) (d' := 1) rfl rfl (Nat.le_of_ble_eq_true rfl) (Nat.le_of_ble_eq_true rfl) rfl (Nat.le_of_ble_eq_true rfl) rfl rfl (zyC32 hp1) ?_
    show zyR _ _ _ _ [some (.int x0), some (.int x1)] [.int p1.1] _ _
    refine zy_3 rfl rfl (show zyR _ _ _ _ [some (.int x0), some (.int x1)] [.int (1 : Int32), .int p1.1] _ _ from ?_)
    refine zy_25_1 rfl (fun b2 => (show zyR _ _ _ _ [some (.int x0), some (.int x1)] [] _ _ from ?_)) (fun b2 => (show zyR _ _ _ _ [some (.int x0), some (.int x1)] [] _ _ from ?_))
    · replace h := zy_ifp h b2
      refine zy_22 rfl rfl rfl rfl (show zyR _ _ _ _ [some (.int x0), some (.int (x1 + (1 : Int32)))] [] _ _ from ?_)
      refine zy_6 rfl (show zyR _ _ _ _ [some (.int x0), some (.int (x1 + (1 : Int32)))] [] _ _ from ?_)
      exact zy_sub (show zy_le [some (.int x0), some (.int (x1 + (1 : Int32)))] [some (.int x0), some (.int (x1 + (1 : Int32)))] from ⟨rfl, ⟨rfl, trivial⟩⟩) (hk2 x0 (x1 + (1 : Int32)) p1.2 _ _ h)
    · replace h := zy_ifn h b2
      refine zy_2 rfl rfl (show zyR _ _ _ _ [some (.int x0), some (.int x1)] [.int x1] _ _ from ?_)
      obtain ⟨rfl, rfl⟩ := zy_pi h
      exact zy_4 rfl ⟨rfl, rfl⟩
noncomputable def zyF115_2   (n : Nat) : Int32 → Int32 → zy_S → Option (Int32 × zy_S) := Nat.rec (fun _ _ _ => none) (fun _ k2 => zyF115_2b k2) n
theorem zyC115_2 {X : zx_X}     : ∀ (n : Nat) (x0 : Int32) (x1 : Int32) (s : zy_S) (r : Int32) (s' : zy_S), zyF115_2 n x0 x1 s = some (r, s') → zyR X 2 115 2 [some (.int x0), some (.int x1)] [] s (zyE (some (.int r)) s')
  | 0, _, _ => by
    intro s r s'  h
    have h : (none : Option (Int32 × zy_S)) = some (r, s') := h
    cases h
  | n + 1, x0, x1 => by
    intro s r s'  h
    exact zyC115_2b (k2 := zyF115_2 n) (fun x0 x1 s r s'  h => zyC115_2  n x0 x1 s r s'  h) h
noncomputable def zyF115   (x0 : Int32) (s : zy_S) : Option (Int32 × zy_S) :=
zyF115_2 zy_fu x0 (0 : Int32) s
theorem zyC115 {X : zx_X}     {x0 : Int32} {s : zy_S} {r : Int32} {s' : zy_S}  (h : zyF115 x0 s = some (r, s')) : zyR X 2 115 0 [some (.int x0), none] [] s (zyE (some (.int r)) s') := by
  unfold zyF115 at h
  refine zy_3 rfl rfl (show zyR _ _ _ _ [some (.int x0), none] [.int (0 : Int32)] _ _ from ?_)
  refine zy_23 rfl rfl (show zyR _ _ _ _ [some (.int x0), some (.int (0 : Int32))] [] _ _ from ?_)
  exact zy_sub (show zy_le [some (.int x0), some (.int (0 : Int32))] [some (.int x0), some (.int (0 : Int32))] from ⟨rfl, ⟨rfl, trivial⟩⟩) (zyC115_2 zy_fu x0 (0 : Int32) s _ _ h)
