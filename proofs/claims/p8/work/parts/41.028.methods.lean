/-! PART 41.28: methods as functions. Made by wip/v4/dcp.py. -/
/-! NineOpinionsModel.row(III)I -/
noncomputable def zyF257_57b  (k57 : Int32 → Int32 → zy_S → Option (Int32 × zy_S)) (x1 : Int32) (x4 : Int32) (s : zy_S) : Option (Int32 × zy_S) :=
if (((60 : Int32) * x1) + (60 : Int32)) ≤ x4 then
some ((1 : Int32), s)
else
if zy_in x4 360 then
k57 x1 (x4 + (1 : Int32)) (zy_uj s 62 (x4).toNatClampNeg (0 : Int64))
else none
theorem zyC257_57b {X : zx_X}  {k57 : Int32 → Int32 → zy_S → Option (Int32 × zy_S)}  (hk57 : ∀ (x1 : Int32) (x4 : Int32) (s : zy_S) (r : Int32) (s' : zy_S), k57 x1 x4 s = some (r, s') → zyR X 3 257 57 [some (.ref (43 + 3)), some (.int x1), none, none, some (.int x4)] [] s (zyE (some (.int r)) s')) {x1 : Int32} {x4 : Int32} {s : zy_S} {r : Int32} {s' : zy_S}  (h : zyF257_57b k57 x1 x4 s = some (r, s')) : zyR X 3 257 57 [some (.ref (43 + 3)), some (.int x1), none, none, some (.int x4)] [] s (zyE (some (.int r)) s') := by
  unfold zyF257_57b at h
  refine zy_2 rfl rfl (show zyR _ _ _ _ [some (.ref (43 + 3)), some (.int x1), none, none, some (.int x4)] [.int x4] _ _ from ?_)
  refine zy_3 rfl rfl (show zyR _ _ _ _ [some (.ref (43 + 3)), some (.int x1), none, none, some (.int x4)] [.int (60 : Int32), .int x4] _ _ from ?_)
  refine zy_2 rfl rfl (show zyR _ _ _ _ [some (.ref (43 + 3)), some (.int x1), none, none, some (.int x4)] [.int x1, .int (60 : Int32), .int x4] _ _ from ?_)
  refine zy_12 rfl (show zyR _ _ _ _ [some (.ref (43 + 3)), some (.int x1), none, none, some (.int x4)] [.int ((60 : Int32) * x1), .int x4] _ _ from ?_)
  refine zy_3 rfl rfl (show zyR _ _ _ _ [some (.ref (43 + 3)), some (.int x1), none, none, some (.int x4)] [.int (60 : Int32), .int ((60 : Int32) * x1), .int x4] _ _ from ?_)
  refine zy_10 rfl (show zyR _ _ _ _ [some (.ref (43 + 3)), some (.int x1), none, none, some (.int x4)] [.int (((60 : Int32) * x1) + (60 : Int32)), .int x4] _ _ from ?_)
  refine zy_25_3 rfl (fun b2 => (show zyR _ _ _ _ [some (.ref (43 + 3)), some (.int x1), none, none, some (.int x4)] [] _ _ from ?_)) (fun b2 => (show zyR _ _ _ _ [some (.ref (43 + 3)), some (.int x1), none, none, some (.int x4)] [] _ _ from ?_))
  · replace h := zy_ifp h b2
    refine zy_3 rfl rfl (show zyR _ _ _ _ [some (.ref (43 + 3)), some (.int x1), none, none, some (.int x4)] [.int (1 : Int32)] _ _ from ?_)
    obtain ⟨rfl, rfl⟩ := zy_pi h
    exact zy_4 rfl ⟨rfl, rfl⟩
  · replace h := zy_ifn h b2
    refine zy_0 rfl rfl (show zyR _ _ _ _ [some (.ref (43 + 3)), some (.int x1), none, none, some (.int x4)] [.ref (43 + 3)] _ _ from ?_)
    refine zy_1r (c := 43) rfl rfl rfl (show zyR _ _ _ _ [some (.ref (43 + 3)), some (.int x1), none, none, some (.int x4)] [.ref (62 + 3)] _ _ from ?_)
    refine zy_2 rfl rfl (show zyR _ _ _ _ [some (.ref (43 + 3)), some (.int x1), none, none, some (.int x4)] [.int x4, .ref (62 + 3)] _ _ from ?_)
    refine zy_36 rfl rfl (show zyR _ _ _ _ [some (.ref (43 + 3)), some (.int x1), none, none, some (.int x4)] [.long (0 : Int64), .int x4, .ref (62 + 3)] _ _ from ?_)
    obtain ⟨c1, h⟩ := zy_if h
    refine zy_31 (c := 62) rfl rfl c1 (show zyR _ _ _ _ [some (.ref (43 + 3)), some (.int x1), none, none, some (.int x4)] [] _ _ from ?_)
    refine zy_22 rfl rfl rfl rfl (show zyR _ _ _ _ [some (.ref (43 + 3)), some (.int x1), none, none, some (.int (x4 + (1 : Int32)))] [] _ _ from ?_)
    refine zy_6 rfl (show zyR _ _ _ _ [some (.ref (43 + 3)), some (.int x1), none, none, some (.int (x4 + (1 : Int32)))] [] _ _ from ?_)
    exact zy_sub (show zy_le [some (.ref (43 + 3)), some (.int x1), none, none, some (.int (x4 + (1 : Int32)))] [some (.ref (43 + 3)), some (.int x1), none, none, some (.int (x4 + (1 : Int32)))] from ⟨rfl, ⟨rfl, ⟨rfl, trivial⟩⟩⟩) (hk57 x1 (x4 + (1 : Int32)) (zy_uj s 62 (x4).toNatClampNeg (0 : Int64)) _ _ h)
noncomputable def zyF257_57   (n : Nat) : Int32 → Int32 → zy_S → Option (Int32 × zy_S) := Nat.rec (fun _ _ _ => none) (fun _ k57 => zyF257_57b k57) n
theorem zyC257_57 {X : zx_X}     : ∀ (n : Nat) (x1 : Int32) (x4 : Int32) (s : zy_S) (r : Int32) (s' : zy_S), zyF257_57 n x1 x4 s = some (r, s') → zyR X 3 257 57 [some (.ref (43 + 3)), some (.int x1), none, none, some (.int x4)] [] s (zyE (some (.int r)) s')
  | 0, _, _ => by
    intro s r s'  h
    have h : (none : Option (Int32 × zy_S)) = some (r, s') := h
    cases h
  | n + 1, x1, x4 => by
    intro s r s'  h
    exact zyC257_57b (k57 := zyF257_57 n) (fun x1 x4 s r s'  h => zyC257_57  n x1 x4 s r s'  h) h
noncomputable def zyF257   (x1 : Int32) (x2 : Int32) (x3 : Int32) (s : zy_S) : Option (Int32 × zy_S) :=
(zyF182 x1 s).bind fun p3 =>
if p3.1 = 0 then
some ((-1 : Int32), p3.2)
else
(zyF179 (x2).toInt64 (0 : Int64) (4 : Int64) p3.2).bind fun p4 =>
if p4.1 = 0 then
some ((-1 : Int32), p4.2)
else
if x3 ≤ (60 : Int32) then
if 0 ≤ x3 then
if zy_in x1 6 then
if zy_in x1 6 then
zyF257_57 zy_fu x1 ((60 : Int32) * x1) (zy_up (zy_up p4.2 60 (x1).toNatClampNeg ((50 : Int32) + x2)) 61 (x1).toNatClampNeg x3)
else none
else none
else
some ((-14 : Int32), p4.2)
else
some ((-1 : Int32), p4.2)
theorem zyC257 {X : zx_X}     {x1 : Int32} {x2 : Int32} {x3 : Int32} {s : zy_S} {r : Int32} {s' : zy_S}  (h : zyF257 x1 x2 x3 s = some (r, s')) : zyR X 3 257 0 [some (.ref (43 + 3)), some (.int x1), some (.int x2), some (.int x3), none] [] s (zyE (some (.int r)) s') := by
  unfold zyF257 at h
  refine zy_2 rfl rfl (show zyR _ _ _ _ [some (.ref (43 + 3)), some (.int x1), some (.int x2), some (.int x3), none] [.int x1] _ _ from ?_)
  obtain ⟨p3, hp3, h⟩ := zy_bind h
  refine zy_60 (as := [.int x1]) (rest := []) (L := [some (.int x1)]) (d' := 2) rfl rfl (Nat.le_of_ble_eq_true rfl) (Nat.le_of_ble_eq_true rfl) rfl (Nat.le_of_ble_eq_true rfl) rfl rfl (zyC182 hp3) ?_
  show zyR _ _ _ _ [some (.ref (43 + 3)), some (.int x1), some (.int x2), some (.int x3), none] [.int p3.1] _ _
  refine zy_24_0 rfl (fun b10 => (show zyR _ _ _ _ [some (.ref (43 + 3)), some (.int x1), some (.int x2), some (.int x3), none] [] _ _ from ?_)) (fun b10 => (show zyR _ _ _ _ [some (.ref (43 + 3)), some (.int x1), some (.int x2), some (.int x3), none] [] _ _ from ?_))
  · replace h := zy_ifp h b10
    refine zy_3 rfl rfl (show zyR _ _ _ _ [some (.ref (43 + 3)), some (.int x1), some (.int x2), some (.int x3), none] [.int (-1 : Int32)] _ _ from ?_)
    obtain ⟨rfl, rfl⟩ := zy_pi h
    exact zy_4 rfl ⟨rfl, rfl⟩
  · replace h := zy_ifn h b10
    refine zy_2 rfl rfl (show zyR _ _ _ _ [some (.ref (43 + 3)), some (.int x1), some (.int x2), some (.int x3), none] [.int x2] _ _ from ?_)
    refine zy_40 rfl (show zyR _ _ _ _ [some (.ref (43 + 3)), some (.int x1), some (.int x2), some (.int x3), none] [.long (x2).toInt64] _ _ from ?_)
    refine zy_36 rfl rfl (show zyR _ _ _ _ [some (.ref (43 + 3)), some (.int x1), some (.int x2), some (.int x3), none] [.long (0 : Int64), .long (x2).toInt64] _ _ from ?_)
    refine zy_36c rfl rfl (show zyR _ _ _ _ [some (.ref (43 + 3)), some (.int x1), some (.int x2), some (.int x3), none] [.long (4 : Int64), .long (0 : Int64), .long (x2).toInt64] _ _ from ?_)
    obtain ⟨p4, hp4, h⟩ := zy_bind h
    refine zy_60 (as := [.long (x2).toInt64, .long (0 : Int64), .long (4 : Int64)]) (rest := []) (L := [some (.long (x2).toInt64), none, some (.long (0 : Int64)), none, some (.long (4 : Int64)), none]) (d' := 1) rfl rfl (Nat.le_of_ble_eq_true rfl) (Nat.le_of_ble_eq_true rfl) rfl (Nat.le_of_ble_eq_true rfl) rfl rfl (zyC179 hp4) ?_
    show zyR _ _ _ _ [some (.ref (43 + 3)), some (.int x1), some (.int x2), some (.int x3), none] [.int p4.1] _ _
    refine zy_24_0 rfl (fun b9 => (show zyR _ _ _ _ [some (.ref (43 + 3)), some (.int x1), some (.int x2), some (.int x3), none] [] _ _ from ?_)) (fun b9 => (show zyR _ _ _ _ [some (.ref (43 + 3)), some (.int x1), some (.int x2), some (.int x3), none] [] _ _ from ?_))
    · replace h := zy_ifp h b9
      refine zy_3 rfl rfl (show zyR _ _ _ _ [some (.ref (43 + 3)), some (.int x1), some (.int x2), some (.int x3), none] [.int (-1 : Int32)] _ _ from ?_)
      obtain ⟨rfl, rfl⟩ := zy_pi h
      exact zy_4 rfl ⟨rfl, rfl⟩
    · replace h := zy_ifn h b9
      refine zy_2 rfl rfl (show zyR _ _ _ _ [some (.ref (43 + 3)), some (.int x1), some (.int x2), some (.int x3), none] [.int x3] _ _ from ?_)
      refine zy_3 rfl rfl (show zyR _ _ _ _ [some (.ref (43 + 3)), some (.int x1), some (.int x2), some (.int x3), none] [.int (60 : Int32), .int x3] _ _ from ?_)
      refine zy_25_5 rfl (fun b8 => (show zyR _ _ _ _ [some (.ref (43 + 3)), some (.int x1), some (.int x2), some (.int x3), none] [] _ _ from ?_)) (fun b8 => (show zyR _ _ _ _ [some (.ref (43 + 3)), some (.int x1), some (.int x2), some (.int x3), none] [] _ _ from ?_))
      · replace h := zy_ifp h b8
        refine zy_2 rfl rfl (show zyR _ _ _ _ [some (.ref (43 + 3)), some (.int x1), some (.int x2), some (.int x3), none] [.int x3] _ _ from ?_)
        refine zy_24_3 rfl (fun b7 => (show zyR _ _ _ _ [some (.ref (43 + 3)), some (.int x1), some (.int x2), some (.int x3), none] [] _ _ from ?_)) (fun b7 => (show zyR _ _ _ _ [some (.ref (43 + 3)), some (.int x1), some (.int x2), some (.int x3), none] [] _ _ from ?_))
        · replace h := zy_ifp h b7
          refine zy_0 rfl rfl (show zyR _ _ _ _ [some (.ref (43 + 3)), some (.int x1), some (.int x2), some (.int x3), none] [.ref (43 + 3)] _ _ from ?_)
          refine zy_1r (c := 43) rfl rfl rfl (show zyR _ _ _ _ [some (.ref (43 + 3)), some (.int x1), some (.int x2), some (.int x3), none] [.ref (60 + 3)] _ _ from ?_)
          refine zy_2 rfl rfl (show zyR _ _ _ _ [some (.ref (43 + 3)), some (.int x1), some (.int x2), some (.int x3), none] [.int x1, .ref (60 + 3)] _ _ from ?_)
          refine zy_3 rfl rfl (show zyR _ _ _ _ [some (.ref (43 + 3)), some (.int x1), some (.int x2), some (.int x3), none] [.int (50 : Int32), .int x1, .ref (60 + 3)] _ _ from ?_)
          refine zy_2 rfl rfl (show zyR _ _ _ _ [some (.ref (43 + 3)), some (.int x1), some (.int x2), some (.int x3), none] [.int x2, .int (50 : Int32), .int x1, .ref (60 + 3)] _ _ from ?_)
          refine zy_10 rfl (show zyR _ _ _ _ [some (.ref (43 + 3)), some (.int x1), some (.int x2), some (.int x3), none] [.int ((50 : Int32) + x2), .int x1, .ref (60 + 3)] _ _ from ?_)
          obtain ⟨c5, h⟩ := zy_if h
          refine zy_27 (c := 60) rfl rfl c5 (show zyR _ _ _ _ [some (.ref (43 + 3)), some (.int x1), some (.int x2), some (.int x3), none] [] _ _ from ?_)
          refine zy_0 rfl rfl (show zyR _ _ _ _ [some (.ref (43 + 3)), some (.int x1), some (.int x2), some (.int x3), none] [.ref (43 + 3)] _ _ from ?_)
          refine zy_1r (c := 43) rfl rfl rfl (show zyR _ _ _ _ [some (.ref (43 + 3)), some (.int x1), some (.int x2), some (.int x3), none] [.ref (61 + 3)] _ _ from ?_)
          refine zy_2 rfl rfl (show zyR _ _ _ _ [some (.ref (43 + 3)), some (.int x1), some (.int x2), some (.int x3), none] [.int x1, .ref (61 + 3)] _ _ from ?_)
          refine zy_2 rfl rfl (show zyR _ _ _ _ [some (.ref (43 + 3)), some (.int x1), some (.int x2), some (.int x3), none] [.int x3, .int x1, .ref (61 + 3)] _ _ from ?_)
          obtain ⟨c6, h⟩ := zy_if h
          refine zy_27 (c := 61) rfl rfl c6 (show zyR _ _ _ _ [some (.ref (43 + 3)), some (.int x1), some (.int x2), some (.int x3), none] [] _ _ from ?_)
          refine zy_3 rfl rfl (show zyR _ _ _ _ [some (.ref (43 + 3)), some (.int x1), some (.int x2), some (.int x3), none] [.int (60 : Int32)] _ _ from ?_)
          refine zy_2 rfl rfl (show zyR _ _ _ _ [some (.ref (43 + 3)), some (.int x1), some (.int x2), some (.int x3), none] [.int x1, .int (60 : Int32)] _ _ from ?_)
          refine zy_12 rfl (show zyR _ _ _ _ [some (.ref (43 + 3)), some (.int x1), some (.int x2), some (.int x3), none] [.int ((60 : Int32) * x1)] _ _ from ?_)
          refine zy_23 rfl rfl (show zyR _ _ _ _ [some (.ref (43 + 3)), some (.int x1), some (.int x2), some (.int x3), some (.int ((60 : Int32) * x1))] [] _ _ from ?_)
          exact zy_sub (show zy_le [some (.ref (43 + 3)), some (.int x1), none, none, some (.int ((60 : Int32) * x1))] [some (.ref (43 + 3)), some (.int x1), some (.int x2), some (.int x3), some (.int ((60 : Int32) * x1))] from ⟨rfl, ⟨rfl, ⟨rfl, trivial⟩⟩⟩) (zyC257_57 zy_fu x1 ((60 : Int32) * x1) (zy_up (zy_up p4.2 60 (x1).toNatClampNeg ((50 : Int32) + x2)) 61 (x1).toNatClampNeg x3) _ _ h)
        · replace h := zy_ifn h b7
          refine zy_3 rfl rfl (show zyR _ _ _ _ [some (.ref (43 + 3)), some (.int x1), some (.int x2), some (.int x3), none] [.int (-14 : Int32)] _ _ from ?_)
          obtain ⟨rfl, rfl⟩ := zy_pi h
          exact zy_4 rfl ⟨rfl, rfl⟩
      · replace h := zy_ifn h b8
        refine zy_3 rfl rfl (show zyR _ _ _ _ [some (.ref (43 + 3)), some (.int x1), some (.int x2), some (.int x3), none] [.int (-1 : Int32)] _ _ from ?_)
        obtain ⟨rfl, rfl⟩ := zy_pi h
        exact zy_4 rfl ⟨rfl, rfl⟩
/-! NineOpinionsModel.refusal(II)I -/
noncomputable def zyF259   (x1 : Int32) (x2 : Int32) (s : zy_S) : Option (Int32 × zy_S) :=
(zyF182 x1 s).bind fun p1 =>
if p1.1 ≠ 0 then
if zy_in x1 6 then
if 0 ≤ (p1.2.1 60 (x1).toNatClampNeg) then
if zy_in x1 6 then
if (50 : Int32) ≤ (p1.2.1 60 (x1).toNatClampNeg) then
if x2 < 0 then
some ((-13 : Int32), p1.2)
else
if zy_in x1 6 then
if (p1.2.1 61 (x1).toNatClampNeg) ≤ x2 then
some ((-13 : Int32), p1.2)
else
some ((0 : Int32), p1.2)
else none
else
some ((-12 : Int32), p1.2)
else none
else
some ((-11 : Int32), p1.2)
else none
else
some ((-1 : Int32), p1.2)
theorem zyC259 {X : zx_X}     {x1 : Int32} {x2 : Int32} {s : zy_S} {r : Int32} {s' : zy_S}  (h : zyF259 x1 x2 s = some (r, s')) : zyR X 3 259 0 [some (.ref (43 + 3)), some (.int x1), some (.int x2)] [] s (zyE (some (.int r)) s') := by
  unfold zyF259 at h
  refine zy_2 rfl rfl (show zyR _ _ _ _ [some (.ref (43 + 3)), some (.int x1), some (.int x2)] [.int x1] _ _ from ?_)
  obtain ⟨p1, hp1, h⟩ := zy_bind h
  refine zy_60 (as := [.int x1]) (rest := []) (L := [some (.int x1)]) (d' := 2) rfl rfl (Nat.le_of_ble_eq_true rfl) (Nat.le_of_ble_eq_true rfl) rfl (Nat.le_of_ble_eq_true rfl) rfl rfl (zyC182 hp1) ?_
  show zyR _ _ _ _ [some (.ref (43 + 3)), some (.int x1), some (.int x2)] [.int p1.1] _ _
  refine zy_24_1 rfl (fun b9 => (show zyR _ _ _ _ [some (.ref (43 + 3)), some (.int x1), some (.int x2)] [] _ _ from ?_)) (fun b9 => (show zyR _ _ _ _ [some (.ref (43 + 3)), some (.int x1), some (.int x2)] [] _ _ from ?_))
  · replace h := zy_ifp h b9
    refine zy_0 rfl rfl (show zyR _ _ _ _ [some (.ref (43 + 3)), some (.int x1), some (.int x2)] [.ref (43 + 3)] _ _ from ?_)
    refine zy_1r (c := 43) rfl rfl rfl (show zyR _ _ _ _ [some (.ref (43 + 3)), some (.int x1), some (.int x2)] [.ref (60 + 3)] _ _ from ?_)
    refine zy_2 rfl rfl (show zyR _ _ _ _ [some (.ref (43 + 3)), some (.int x1), some (.int x2)] [.int x1, .ref (60 + 3)] _ _ from ?_)
    obtain ⟨c2, h⟩ := zy_if h
    refine zy_26 (c := 60) rfl rfl c2 (show zyR _ _ _ _ [some (.ref (43 + 3)), some (.int x1), some (.int x2)] [.int (p1.2.1 60 (x1).toNatClampNeg)] _ _ from ?_)
    refine zy_24_3 rfl (fun b8 => (show zyR _ _ _ _ [some (.ref (43 + 3)), some (.int x1), some (.int x2)] [] _ _ from ?_)) (fun b8 => (show zyR _ _ _ _ [some (.ref (43 + 3)), some (.int x1), some (.int x2)] [] _ _ from ?_))
    · replace h := zy_ifp h b8
      refine zy_0 rfl rfl (show zyR _ _ _ _ [some (.ref (43 + 3)), some (.int x1), some (.int x2)] [.ref (43 + 3)] _ _ from ?_)
      refine zy_1r (c := 43) rfl rfl rfl (show zyR _ _ _ _ [some (.ref (43 + 3)), some (.int x1), some (.int x2)] [.ref (60 + 3)] _ _ from ?_)
      refine zy_2 rfl rfl (show zyR _ _ _ _ [some (.ref (43 + 3)), some (.int x1), some (.int x2)] [.int x1, .ref (60 + 3)] _ _ from ?_)
      obtain ⟨c3, h⟩ := zy_if h
      refine zy_26 (c := 60) rfl rfl c3 (show zyR _ _ _ _ [some (.ref (43 + 3)), some (.int x1), some (.int x2)] [.int (p1.2.1 60 (x1).toNatClampNeg)] _ _ from ?_)
      refine zy_3 rfl rfl (show zyR _ _ _ _ [some (.ref (43 + 3)), some (.int x1), some (.int x2)] [.int (50 : Int32), .int (p1.2.1 60 (x1).toNatClampNeg)] _ _ from ?_)
      refine zy_25_3 rfl (fun b7 => (show zyR _ _ _ _ [some (.ref (43 + 3)), some (.int x1), some (.int x2)] [] _ _ from ?_)) (fun b7 => (show zyR _ _ _ _ [some (.ref (43 + 3)), some (.int x1), some (.int x2)] [] _ _ from ?_))
      · replace h := zy_ifp h b7
        refine zy_2 rfl rfl (show zyR _ _ _ _ [some (.ref (43 + 3)), some (.int x1), some (.int x2)] [.int x2] _ _ from ?_)
        refine zy_24_2 rfl (fun b6 => (show zyR _ _ _ _ [some (.ref (43 + 3)), some (.int x1), some (.int x2)] [] _ _ from ?_)) (fun b6 => (show zyR _ _ _ _ [some (.ref (43 + 3)), some (.int x1), some (.int x2)] [] _ _ from ?_))
        · replace h := zy_ifp h b6
          refine zy_3 rfl rfl (show zyR _ _ _ _ [some (.ref (43 + 3)), some (.int x1), some (.int x2)] [.int (-13 : Int32)] _ _ from ?_)
          obtain ⟨rfl, rfl⟩ := zy_pi h
          exact zy_4 rfl ⟨rfl, rfl⟩
        · replace h := zy_ifn h b6
          refine zy_2 rfl rfl (show zyR _ _ _ _ [some (.ref (43 + 3)), some (.int x1), some (.int x2)] [.int x2] _ _ from ?_)
          refine zy_0 rfl rfl (show zyR _ _ _ _ [some (.ref (43 + 3)), some (.int x1), some (.int x2)] [.ref (43 + 3), .int x2] _ _ from ?_)
          refine zy_1r (c := 43) rfl rfl rfl (show zyR _ _ _ _ [some (.ref (43 + 3)), some (.int x1), some (.int x2)] [.ref (61 + 3), .int x2] _ _ from ?_)
          refine zy_2 rfl rfl (show zyR _ _ _ _ [some (.ref (43 + 3)), some (.int x1), some (.int x2)] [.int x1, .ref (61 + 3), .int x2] _ _ from ?_)
          obtain ⟨c4, h⟩ := zy_if h
          refine zy_26 (c := 61) rfl rfl c4 (show zyR _ _ _ _ [some (.ref (43 + 3)), some (.int x1), some (.int x2)] [.int (p1.2.1 61 (x1).toNatClampNeg), .int x2] _ _ from ?_)
          refine zy_25_3 rfl (fun b5 => (show zyR _ _ _ _ [some (.ref (43 + 3)), some (.int x1), some (.int x2)] [] _ _ from ?_)) (fun b5 => (show zyR _ _ _ _ [some (.ref (43 + 3)), some (.int x1), some (.int x2)] [] _ _ from ?_))
          · replace h := zy_ifp h b5
            refine zy_3 rfl rfl (show zyR _ _ _ _ [some (.ref (43 + 3)), some (.int x1), some (.int x2)] [.int (-13 : Int32)] _ _ from ?_)
            obtain ⟨rfl, rfl⟩ := zy_pi h
            exact zy_4 rfl ⟨rfl, rfl⟩
          · replace h := zy_ifn h b5
            refine zy_3 rfl rfl (show zyR _ _ _ _ [some (.ref (43 + 3)), some (.int x1), some (.int x2)] [.int (0 : Int32)] _ _ from ?_)
            refine zy_6 rfl (show zyR _ _ _ _ [some (.ref (43 + 3)), some (.int x1), some (.int x2)] [.int (0 : Int32)] _ _ from ?_)
            obtain ⟨rfl, rfl⟩ := zy_pi h
            exact zy_4 rfl ⟨rfl, rfl⟩
      · replace h := zy_ifn h b7
        refine zy_3 rfl rfl (show zyR _ _ _ _ [some (.ref (43 + 3)), some (.int x1), some (.int x2)] [.int (-12 : Int32)] _ _ from ?_)
        obtain ⟨rfl, rfl⟩ := zy_pi h
        exact zy_4 rfl ⟨rfl, rfl⟩
    · replace h := zy_ifn h b8
      refine zy_3 rfl rfl (show zyR _ _ _ _ [some (.ref (43 + 3)), some (.int x1), some (.int x2)] [.int (-11 : Int32)] _ _ from ?_)
      obtain ⟨rfl, rfl⟩ := zy_pi h
      exact zy_4 rfl ⟨rfl, rfl⟩
  · replace h := zy_ifn h b9
    refine zy_3 rfl rfl (show zyR _ _ _ _ [some (.ref (43 + 3)), some (.int x1), some (.int x2)] [.int (-1 : Int32)] _ _ from ?_)
    obtain ⟨rfl, rfl⟩ := zy_pi h
    exact zy_4 rfl ⟨rfl, rfl⟩
