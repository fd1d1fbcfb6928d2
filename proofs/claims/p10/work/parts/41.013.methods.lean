/-! PART 41.13: methods as functions. Made by wip/v4/dcp.py. -/
/-! NineOpinions.agree(II)I -/
noncomputable def zyF119   (x1 : Int32) (x2 : Int32) (s : zy_S) : Option (Int32 × zy_S) :=
if x1 < 0 then
some ((-1 : Int32), s)
else
(zyF84 x2 s).bind fun p1 =>
if p1.1 = 0 then
some ((-1 : Int32), p1.2)
else
(zyF25 (0 : Int32) (x1 / (10 : Int32)) p1.2).bind fun p2 =>
if p2.1 = 0 then
some ((-1 : Int32), p2.2)
else
(zyF25 (0 : Int32) (x1 - x1 / (10 : Int32) * (10 : Int32)) p2.2).bind fun p3 =>
if p3.1 ≠ 0 then
if x2 ≠ 0 then
(zyF122 (x1 / (10 : Int32)) (x1 - x1 / (10 : Int32) * (10 : Int32)) p3.2).bind fun p4 =>
some (p4.1, p4.2)
else
(zyF120 (x1 / (10 : Int32)) (x1 - x1 / (10 : Int32) * (10 : Int32)) p3.2).bind fun p5 =>
some (p5.1, p5.2)
else
some ((-1 : Int32), p3.2)
theorem zyC119 {X : zx_X}     {x1 : Int32} {x2 : Int32} {s : zy_S} {r : Int32} {s' : zy_S}  (h : zyF119 x1 x2 s = some (r, s')) : zyR X 4 119 0 [some (.ref (0 + 3)), some (.int x1), some (.int x2)] [] s (zyE (some (.int r)) s') := by
  unfold zyF119 at h
  refine zy_2 rfl rfl (show zyR _ _ _ _ [some (.ref (0 + 3)), some (.int x1), some (.int x2)] [.int x1] _ _ from ?_)
  refine zy_24_2 rfl (fun b10 => (show zyR _ _ _ _ [some (.ref (0 + 3)), some (.int x1), some (.int x2)] [] _ _ from ?_)) (fun b10 => (show zyR _ _ _ _ [some (.ref (0 + 3)), some (.int x1), some (.int x2)] [] _ _ from ?_))
  · replace h := zy_ifp h b10
    refine zy_3 rfl rfl (show zyR _ _ _ _ [some (.ref (0 + 3)), some (.int x1), some (.int x2)] [.int (-1 : Int32)] _ _ from ?_)
    obtain ⟨rfl, rfl⟩ := zy_pi h
    exact zy_4 rfl ⟨rfl, rfl⟩
  · replace h := zy_ifn h b10
    refine zy_2 rfl rfl (show zyR _ _ _ _ [some (.ref (0 + 3)), some (.int x1), some (.int x2)] [.int x2] _ _ from ?_)
    obtain ⟨p1, hp1, h⟩ := zy_bind h
    refine zy_60 (as := [.int x2]) (rest := []) (L := [some (.int x2)]) (d' := 1) rfl rfl (Nat.le_of_ble_eq_true rfl) (Nat.le_of_ble_eq_true rfl) rfl (Nat.le_of_ble_eq_true rfl) rfl rfl (zyC84 hp1) ?_
    show zyR _ _ _ _ [some (.ref (0 + 3)), some (.int x1), some (.int x2)] [.int p1.1] _ _
    refine zy_24_0 rfl (fun b9 => (show zyR _ _ _ _ [some (.ref (0 + 3)), some (.int x1), some (.int x2)] [] _ _ from ?_)) (fun b9 => (show zyR _ _ _ _ [some (.ref (0 + 3)), some (.int x1), some (.int x2)] [] _ _ from ?_))
    · replace h := zy_ifp h b9
      refine zy_3 rfl rfl (show zyR _ _ _ _ [some (.ref (0 + 3)), some (.int x1), some (.int x2)] [.int (-1 : Int32)] _ _ from ?_)
      obtain ⟨rfl, rfl⟩ := zy_pi h
      exact zy_4 rfl ⟨rfl, rfl⟩
    · replace h := zy_ifn h b9
      refine zy_0 rfl rfl (show zyR _ _ _ _ [some (.ref (0 + 3)), some (.int x1), some (.int x2)] [.ref (0 + 3)] _ _ from ?_)
      refine zy_1r (c := 0) rfl rfl rfl (show zyR _ _ _ _ [some (.ref (0 + 3)), some (.int x1), some (.int x2)] [.ref (1 + 3)] _ _ from ?_)
      refine zy_3 rfl rfl (show zyR _ _ _ _ [some (.ref (0 + 3)), some (.int x1), some (.int x2)] [.int (0 : Int32), .ref (1 + 3)] _ _ from ?_)
      refine zy_2 rfl rfl (show zyR _ _ _ _ [some (.ref (0 + 3)), some (.int x1), some (.int x2)] [.int x1, .int (0 : Int32), .ref (1 + 3)] _ _ from ?_)
      refine zy_3 rfl rfl (show zyR _ _ _ _ [some (.ref (0 + 3)), some (.int x1), some (.int x2)] [.int (10 : Int32), .int x1, .int (0 : Int32), .ref (1 + 3)] _ _ from ?_)
      refine zy_19 rfl (by decide) (show zyR _ _ _ _ [some (.ref (0 + 3)), some (.int x1), some (.int x2)] [.int (x1 / (10 : Int32)), .int (0 : Int32), .ref (1 + 3)] _ _ from ?_)
      obtain ⟨p2, hp2, h⟩ := zy_bind h
      refine zy_5 (c := 1) (as := [.int (0 : Int32), .int (x1 / (10 : Int32))]) (rest := []) (L := [some (.ref (1 + 3)), some (.int (0 : Int32)), some (.int (x1 / (10 : Int32)))]) (d' := 2) rfl rfl rfl (Nat.le_of_ble_eq_true rfl) (Nat.le_of_ble_eq_true rfl) rfl (Nat.le_of_ble_eq_true rfl) rfl rfl (zyC25 hp2) ?_
      show zyR _ _ _ _ [some (.ref (0 + 3)), some (.int x1), some (.int x2)] [.int p2.1] _ _
      refine zy_24_0 rfl (fun b8 => (show zyR _ _ _ _ [some (.ref (0 + 3)), some (.int x1), some (.int x2)] [] _ _ from ?_)) (fun b8 => (show zyR _ _ _ _ [some (.ref (0 + 3)), some (.int x1), some (.int x2)] [] _ _ from ?_))
      · replace h := zy_ifp h b8
        refine zy_3 rfl rfl (show zyR _ _ _ _ [some (.ref (0 + 3)), some (.int x1), some (.int x2)] [.int (-1 : Int32)] _ _ from ?_)
        obtain ⟨rfl, rfl⟩ := zy_pi h
        exact zy_4 rfl ⟨rfl, rfl⟩
      · replace h := zy_ifn h b8
        refine zy_0 rfl rfl (show zyR _ _ _ _ [some (.ref (0 + 3)), some (.int x1), some (.int x2)] [.ref (0 + 3)] _ _ from ?_)
        refine zy_1r (c := 0) rfl rfl rfl (show zyR _ _ _ _ [some (.ref (0 + 3)), some (.int x1), some (.int x2)] [.ref (1 + 3)] _ _ from ?_)
        refine zy_3 rfl rfl (show zyR _ _ _ _ [some (.ref (0 + 3)), some (.int x1), some (.int x2)] [.int (0 : Int32), .ref (1 + 3)] _ _ from ?_)
        refine zy_2 rfl rfl (show zyR _ _ _ _ [some (.ref (0 + 3)), some (.int x1), some (.int x2)] [.int x1, .int (0 : Int32), .ref (1 + 3)] _ _ from ?_)
        refine zy_3 rfl rfl (show zyR _ _ _ _ [some (.ref (0 + 3)), some (.int x1), some (.int x2)] [.int (10 : Int32), .int x1, .int (0 : Int32), .ref (1 + 3)] _ _ from ?_)
        refine zy_20 rfl (by decide) (show zyR _ _ _ _ [some (.ref (0 + 3)), some (.int x1), some (.int x2)] [.int (x1 - x1 / (10 : Int32) * (10 : Int32)), .int (0 : Int32), .ref (1 + 3)] _ _ from ?_)
        obtain ⟨p3, hp3, h⟩ := zy_bind h
        refine zy_5 (c := 1) (as := [.int (0 : Int32), .int (x1 - x1 / (10 : Int32) * (10 : Int32))]) (rest := []) (L := [some (.ref (1 + 3)), some (.int (0 : Int32)), some (.int (x1 - x1 / (10 : Int32) * (10 : Int32)))]) (d' := 2) rfl rfl rfl (Nat.le_of_ble_eq_true rfl) (Nat.le_of_ble_eq_true rfl) rfl (Nat.le_of_ble_eq_true rfl) rfl rfl (zyC25 hp3) ?_
        show zyR _ _ _ _ [some (.ref (0 + 3)), some (.int x1), some (.int x2)] [.int p3.1] _ _
        refine zy_24_1 rfl (fun b7 => (show zyR _ _ _ _ [some (.ref (0 + 3)), some (.int x1), some (.int x2)] [] _ _ from ?_)) (fun b7 => (show zyR _ _ _ _ [some (.ref (0 + 3)), some (.int x1), some (.int x2)] [] _ _ from ?_))
        · replace h := zy_ifp h b7
          refine zy_2 rfl rfl (show zyR _ _ _ _ [some (.ref (0 + 3)), some (.int x1), some (.int x2)] [.int x2] _ _ from ?_)
          refine zy_24_1 rfl (fun b6 => (show zyR _ _ _ _ [some (.ref (0 + 3)), some (.int x1), some (.int x2)] [] _ _ from ?_)) (fun b6 => (show zyR _ _ _ _ [some (.ref (0 + 3)), some (.int x1), some (.int x2)] [] _ _ from ?_))
          · replace h := zy_ifp h b6
            refine zy_0 rfl rfl (show zyR _ _ _ _ [some (.ref (0 + 3)), some (.int x1), some (.int x2)] [.ref (0 + 3)] _ _ from ?_)
            refine zy_1r (c := 0) rfl rfl rfl (show zyR _ _ _ _ [some (.ref (0 + 3)), some (.int x1), some (.int x2)] [.ref (16 + 3)] _ _ from ?_)
            refine zy_2 rfl rfl (show zyR _ _ _ _ [some (.ref (0 + 3)), some (.int x1), some (.int x2)] [.int x1, .ref (16 + 3)] _ _ from ?_)
            refine zy_3 rfl rfl (show zyR _ _ _ _ [some (.ref (0 + 3)), some (.int x1), some (.int x2)] [.int (10 : Int32), .int x1, .ref (16 + 3)] _ _ from ?_)
            refine zy_19 rfl (by decide) (show zyR _ _ _ _ [some (.ref (0 + 3)), some (.int x1), some (.int x2)] [.int (x1 / (10 : Int32)), .ref (16 + 3)] _ _ from ?_)
            refine zy_2 rfl rfl (show zyR _ _ _ _ [some (.ref (0 + 3)), some (.int x1), some (.int x2)] [.int x1, .int (x1 / (10 : Int32)), .ref (16 + 3)] _ _ from ?_)
            refine zy_3 rfl rfl (show zyR _ _ _ _ [some (.ref (0 + 3)), some (.int x1), some (.int x2)] [.int (10 : Int32), .int x1, .int (x1 / (10 : Int32)), .ref (16 + 3)] _ _ from ?_)
            refine zy_20 rfl (by decide) (show zyR _ _ _ _ [some (.ref (0 + 3)), some (.int x1), some (.int x2)] [.int (x1 - x1 / (10 : Int32) * (10 : Int32)), .int (x1 / (10 : Int32)), .ref (16 + 3)] _ _ from ?_)
            obtain ⟨p4, hp4, h⟩ := zy_bind h
            refine zy_5 (c := 16) (as := [.int (x1 / (10 : Int32)), .int (x1 - x1 / (10 : Int32) * (10 : Int32))]) (rest := []) (L := [some (.ref (16 + 3)), some (.int (x1 / (10 : Int32))), some (.int (x1 - x1 / (10 : Int32) * (10 : Int32))), none, none]) (d' := 3) rfl rfl rfl (Nat.le_of_ble_eq_true rfl) (Nat.le_of_ble_eq_true rfl) rfl (Nat.le_of_ble_eq_true rfl) rfl rfl (zyC122 hp4) ?_
            show zyR _ _ _ _ [some (.ref (0 + 3)), some (.int x1), some (.int x2)] [.int p4.1] _ _
            obtain ⟨rfl, rfl⟩ := zy_pi h
            exact zy_4 rfl ⟨rfl, rfl⟩
          · replace h := zy_ifn h b6
            refine zy_0 rfl rfl (show zyR _ _ _ _ [some (.ref (0 + 3)), some (.int x1), some (.int x2)] [.ref (0 + 3)] _ _ from ?_)
            refine zy_1r (c := 0) rfl rfl rfl (show zyR _ _ _ _ [some (.ref (0 + 3)), some (.int x1), some (.int x2)] [.ref (16 + 3)] _ _ from ?_)
            refine zy_2 rfl rfl (show zyR _ _ _ _ [some (.ref (0 + 3)), some (.int x1), some (.int x2)] [.int x1, .ref (16 + 3)] _ _ from ?_)
            refine zy_3 rfl rfl (show zyR _ _ _ _ [some (.ref (0 + 3)), some (.int x1), some (.int x2)] [.int (10 : Int32), .int x1, .ref (16 + 3)] _ _ from ?_)
            refine zy_19 rfl (by decide) (show zyR _ _ _ _ [some (.ref (0 + 3)), some (.int x1), some (.int x2)] [.int (x1 / (10 : Int32)), .ref (16 + 3)] _ _ from ?_)
            refine zy_2 rfl rfl (show zyR _ _ _ _ [some (.ref (0 + 3)), some (.int x1), some (.int x2)] [.int x1, .int (x1 / (10 : Int32)), .ref (16 + 3)] _ _ from ?_)
            refine zy_3 rfl rfl (show zyR _ _ _ _ [some (.ref (0 + 3)), some (.int x1), some (.int x2)] [.int (10 : Int32), .int x1, .int (x1 / (10 : Int32)), .ref (16 + 3)] _ _ from ?_)
            refine zy_20 rfl (by decide) (show zyR _ _ _ _ [some (.ref (0 + 3)), some (.int x1), some (.int x2)] [.int (x1 - x1 / (10 : Int32) * (10 : Int32)), .int (x1 / (10 : Int32)), .ref (16 + 3)] _ _ from ?_)
            obtain ⟨p5, hp5, h⟩ := zy_bind h
            refine zy_5 (c := 16) (as := [.int (x1 / (10 : Int32)), .int (x1 - x1 / (10 : Int32) * (10 : Int32))]) (rest := []) (L := [some (.ref (16 + 3)), some (.int (x1 / (10 : Int32))), some (.int (x1 - x1 / (10 : Int32) * (10 : Int32))), none, none]) (d' := 3) rfl rfl rfl (Nat.le_of_ble_eq_true rfl) (Nat.le_of_ble_eq_true rfl) rfl (Nat.le_of_ble_eq_true rfl) rfl rfl (zyC120 hp5) ?_
            show zyR _ _ _ _ [some (.ref (0 + 3)), some (.int x1), some (.int x2)] [.int p5.1] _ _
            refine zy_6 rfl (show zyR _ _ _ _ [some (.ref (0 + 3)), some (.int x1), some (.int x2)] [.int p5.1] _ _ from ?_)
            obtain ⟨rfl, rfl⟩ := zy_pi h
            exact zy_4 rfl ⟨rfl, rfl⟩
        · replace h := zy_ifn h b7
          refine zy_3 rfl rfl (show zyR _ _ _ _ [some (.ref (0 + 3)), some (.int x1), some (.int x2)] [.int (-1 : Int32)] _ _ from ?_)
          obtain ⟨rfl, rfl⟩ := zy_pi h
          exact zy_4 rfl ⟨rfl, rfl⟩
/-! NineOpinionsModel.farOf(II)I -/
noncomputable def zyF235_43  (k5 : Int32 → Int32 → Int32 → Int32 → zy_S → Option (Int32 × zy_S)) (x1 : Int32) (x2 : Int32) (x4 : Int32) (y0 : Int32) (y1 : Int32) (s : zy_S) : Option (Int32 × zy_S) :=
k5 x1 x2 (y1 + y0) (x4 + (1 : Int32)) s
theorem zyC235_43 {X : zx_X}  {k5 : Int32 → Int32 → Int32 → Int32 → zy_S → Option (Int32 × zy_S)}  (hk5 : ∀ (x1 : Int32) (x2 : Int32) (x3 : Int32) (x4 : Int32) (s : zy_S) (r : Int32) (s' : zy_S), k5 x1 x2 x3 x4 s = some (r, s') → zyR X 3 235 5 [some (.ref (43 + 3)), some (.int x1), some (.int x2), some (.int x3), some (.int x4), none] [] s (zyE (some (.int r)) s')) {x1 : Int32} {x2 : Int32} {x4 : Int32} {y0 : Int32} {y1 : Int32} {s : zy_S} {r : Int32} {s' : zy_S}  (h : zyF235_43 k5 x1 x2 x4 y0 y1 s = some (r, s')) : zyR X 3 235 43 [some (.ref (43 + 3)), some (.int x1), some (.int x2), none, some (.int x4), none] [.int y0, .int y1] s (zyE (some (.int r)) s') := by
  unfold zyF235_43 at h
  refine zy_10 rfl (show zyR _ _ _ _ [some (.ref (43 + 3)), some (.int x1), some (.int x2), none, some (.int x4), none] [.int (y1 + y0)] _ _ from ?_)
  refine zy_23 rfl rfl (show zyR _ _ _ _ [some (.ref (43 + 3)), some (.int x1), some (.int x2), some (.int (y1 + y0)), some (.int x4), none] [] _ _ from ?_)
  refine zy_22 rfl rfl rfl rfl (show zyR _ _ _ _ [some (.ref (43 + 3)), some (.int x1), some (.int x2), some (.int (y1 + y0)), some (.int (x4 + (1 : Int32))), none] [] _ _ from ?_)
  refine zy_6 rfl (show zyR _ _ _ _ [some (.ref (43 + 3)), some (.int x1), some (.int x2), some (.int (y1 + y0)), some (.int (x4 + (1 : Int32))), none] [] _ _ from ?_)
  exact zy_sub (show zy_le [some (.ref (43 + 3)), some (.int x1), some (.int x2), some (.int (y1 + y0)), some (.int (x4 + (1 : Int32))), none] [some (.ref (43 + 3)), some (.int x1), some (.int x2), some (.int (y1 + y0)), some (.int (x4 + (1 : Int32))), none] from ⟨rfl, ⟨rfl, ⟨rfl, ⟨rfl, ⟨rfl, trivial⟩⟩⟩⟩⟩) (hk5 x1 x2 (y1 + y0) (x4 + (1 : Int32)) s _ _ h)
noncomputable def zyF235_5b  (k5 : Int32 → Int32 → Int32 → Int32 → zy_S → Option (Int32 × zy_S)) (x1 : Int32) (x2 : Int32) (x3 : Int32) (x4 : Int32) (s : zy_S) : Option (Int32 × zy_S) :=
if (6 : Int32) ≤ x4 then
some (x3, s)
else
(zyF205 x1 x4 s).bind fun p1 =>
(zyF205 x2 x4 p1.2).bind fun p2 =>
if 0 ≤ (p1.1 - p2.1) then
zyF235_43 k5 x1 x2 x4 (p1.1 - p2.1) x3 p2.2
else
zyF235_43 k5 x1 x2 x4 (-(p1.1 - p2.1)) x3 p2.2
theorem zyC235_5b {X : zx_X}  {k5 : Int32 → Int32 → Int32 → Int32 → zy_S → Option (Int32 × zy_S)}  (hk5 : ∀ (x1 : Int32) (x2 : Int32) (x3 : Int32) (x4 : Int32) (s : zy_S) (r : Int32) (s' : zy_S), k5 x1 x2 x3 x4 s = some (r, s') → zyR X 3 235 5 [some (.ref (43 + 3)), some (.int x1), some (.int x2), some (.int x3), some (.int x4), none] [] s (zyE (some (.int r)) s')) {x1 : Int32} {x2 : Int32} {x3 : Int32} {x4 : Int32} {s : zy_S} {r : Int32} {s' : zy_S}  (h : zyF235_5b k5 x1 x2 x3 x4 s = some (r, s')) : zyR X 3 235 5 [some (.ref (43 + 3)), some (.int x1), some (.int x2), some (.int x3), some (.int x4), none] [] s (zyE (some (.int r)) s') := by
  unfold zyF235_5b at h
  refine zy_2 rfl rfl (show zyR _ _ _ _ [some (.ref (43 + 3)), some (.int x1), some (.int x2), some (.int x3), some (.int x4), none] [.int x4] _ _ from ?_)
  refine zy_3 rfl rfl (show zyR _ _ _ _ [some (.ref (43 + 3)), some (.int x1), some (.int x2), some (.int x3), some (.int x4), none] [.int (6 : Int32), .int x4] _ _ from ?_)
  refine zy_25_3 rfl (fun b4 => (show zyR _ _ _ _ [some (.ref (43 + 3)), some (.int x1), some (.int x2), some (.int x3), some (.int x4), none] [] _ _ from ?_)) (fun b4 => (show zyR _ _ _ _ [some (.ref (43 + 3)), some (.int x1), some (.int x2), some (.int x3), some (.int x4), none] [] _ _ from ?_))
  · replace h := zy_ifp h b4
    refine zy_2 rfl rfl (show zyR _ _ _ _ [some (.ref (43 + 3)), some (.int x1), some (.int x2), some (.int x3), some (.int x4), none] [.int x3] _ _ from ?_)
    obtain ⟨rfl, rfl⟩ := zy_pi h
    exact zy_4 rfl ⟨rfl, rfl⟩
  · replace h := zy_ifn h b4
    refine zy_0 rfl rfl (show zyR _ _ _ _ [some (.ref (43 + 3)), some (.int x1), some (.int x2), some (.int x3), some (.int x4), none] [.ref (43 + 3)] _ _ from ?_)
    refine zy_2 rfl rfl (show zyR _ _ _ _ [some (.ref (43 + 3)), some (.int x1), some (.int x2), some (.int x3), some (.int x4), none] [.int x1, .ref (43 + 3)] _ _ from ?_)
    refine zy_2 rfl rfl (show zyR _ _ _ _ [some (.ref (43 + 3)), some (.int x1), some (.int x2), some (.int x3), some (.int x4), none] [.int x4, .int x1, .ref (43 + 3)] _ _ from ?_)
    obtain ⟨p1, hp1, h⟩ := zy_bind h
    refine zy_5 (c := 43) (as := [.int x1, .int x4]) (rest := []) (L := [some (.ref (43 + 3)), some (.int x1), some (.int x4)]) (d' := 2) rfl rfl rfl (Nat.le_of_ble_eq_true rfl) (Nat.le_of_ble_eq_true rfl) rfl (Nat.le_of_ble_eq_true rfl) rfl rfl (zyC205 hp1) ?_
    show zyR _ _ _ _ [some (.ref (43 + 3)), some (.int x1), some (.int x2), some (.int x3), some (.int x4), none] [.int p1.1] _ _
    refine zy_0 rfl rfl (show zyR _ _ _ _ [some (.ref (43 + 3)), some (.int x1), some (.int x2), some (.int x3), some (.int x4), none] [.ref (43 + 3), .int p1.1] _ _ from ?_)
    refine zy_2 rfl rfl (show zyR _ _ _ _ [some (.ref (43 + 3)), some (.int x1), some (.int x2), some (.int x3), some (.int x4), none] [.int x2, .ref (43 + 3), .int p1.1] _ _ from ?_)
    refine zy_2 rfl rfl (show zyR _ _ _ _ [some (.ref (43 + 3)), some (.int x1), some (.int x2), some (.int x3), some (.int x4), none] [.int x4, .int x2, .ref (43 + 3), .int p1.1] _ _ from ?_)
    obtain ⟨p2, hp2, h⟩ := zy_bind h
    refine zy_5 (c := 43) (as := [.int x2, .int x4]) (rest := [.int p1.1]) (L := [some (.ref (43 + 3)), some (.int x2), some (.int x4)]) (d' := 2) rfl rfl rfl (Nat.le_of_ble_eq_true rfl) (Nat.le_of_ble_eq_true rfl) rfl (Nat.le_of_ble_eq_true rfl) rfl rfl (zyC205 hp2) ?_
    show zyR _ _ _ _ [some (.ref (43 + 3)), some (.int x1), some (.int x2), some (.int x3), some (.int x4), none] [.int p2.1, .int p1.1] _ _
    refine zy_11 rfl (show zyR _ _ _ _ [some (.ref (43 + 3)), some (.int x1), some (.int x2), some (.int x3), some (.int x4), none] [.int (p1.1 - p2.1)] _ _ from ?_)
    refine zy_23 rfl rfl (show zyR _ _ _ _ [some (.ref (43 + 3)), some (.int x1), some (.int x2), some (.int x3), some (.int x4), some (.int (p1.1 - p2.1))] [] _ _ from ?_)
    refine zy_2 rfl rfl (show zyR _ _ _ _ [some (.ref (43 + 3)), some (.int x1), some (.int x2), some (.int x3), some (.int x4), some (.int (p1.1 - p2.1))] [.int x3] _ _ from ?_)
    refine zy_2 rfl rfl (show zyR _ _ _ _ [some (.ref (43 + 3)), some (.int x1), some (.int x2), some (.int x3), some (.int x4), some (.int (p1.1 - p2.1))] [.int (p1.1 - p2.1), .int x3] _ _ from ?_)
    refine zy_24_3 rfl (fun b3 => (show zyR _ _ _ _ [some (.ref (43 + 3)), some (.int x1), some (.int x2), some (.int x3), some (.int x4), some (.int (p1.1 - p2.1))] [.int x3] _ _ from ?_)) (fun b3 => (show zyR _ _ _ _ [some (.ref (43 + 3)), some (.int x1), some (.int x2), some (.int x3), some (.int x4), some (.int (p1.1 - p2.1))] [.int x3] _ _ from ?_))
    · replace h := zy_ifp h b3
      refine zy_2 rfl rfl (show zyR _ _ _ _ [some (.ref (43 + 3)), some (.int x1), some (.int x2), some (.int x3), some (.int x4), some (.int (p1.1 - p2.1))] [.int (p1.1 - p2.1), .int x3] _ _ from ?_)
      exact zy_sub (show zy_le [some (.ref (43 + 3)), some (.int x1), some (.int x2), none, some (.int x4), none] [some (.ref (43 + 3)), some (.int x1), some (.int x2), some (.int x3), some (.int x4), some (.int (p1.1 - p2.1))] from ⟨rfl, ⟨rfl, ⟨rfl, ⟨rfl, trivial⟩⟩⟩⟩) (zyC235_43 hk5 h)
    · replace h := zy_ifn h b3
      refine zy_2 rfl rfl (show zyR _ _ _ _ [some (.ref (43 + 3)), some (.int x1), some (.int x2), some (.int x3), some (.int x4), some (.int (p1.1 - p2.1))] [.int (p1.1 - p2.1), .int x3] _ _ from ?_)
      refine zy_21 rfl (show zyR _ _ _ _ [some (.ref (43 + 3)), some (.int x1), some (.int x2), some (.int x3), some (.int x4), some (.int (p1.1 - p2.1))] [.int (-(p1.1 - p2.1)), .int x3] _ _ from ?_)
      refine zy_6 rfl (show zyR _ _ _ _ [some (.ref (43 + 3)), some (.int x1), some (.int x2), some (.int x3), some (.int x4), some (.int (p1.1 - p2.1))] [.int (-(p1.1 - p2.1)), .int x3] _ _ from ?_)
      exact zy_sub (show zy_le [some (.ref (43 + 3)), some (.int x1), some (.int x2), none, some (.int x4), none] [some (.ref (43 + 3)), some (.int x1), some (.int x2), some (.int x3), some (.int x4), some (.int (p1.1 - p2.1))] from ⟨rfl, ⟨rfl, ⟨rfl, ⟨rfl, trivial⟩⟩⟩⟩) (zyC235_43 hk5 h)
noncomputable def zyF235_5   (n : Nat) : Int32 → Int32 → Int32 → Int32 → zy_S → Option (Int32 × zy_S) := Nat.rec (fun _ _ _ _ _ => none) (fun _ k5 => zyF235_5b k5) n
theorem zyC235_5 {X : zx_X}     : ∀ (n : Nat) (x1 : Int32) (x2 : Int32) (x3 : Int32) (x4 : Int32) (s : zy_S) (r : Int32) (s' : zy_S), zyF235_5 n x1 x2 x3 x4 s = some (r, s') → zyR X 3 235 5 [some (.ref (43 + 3)), some (.int x1), some (.int x2), some (.int x3), some (.int x4), none] [] s (zyE (some (.int r)) s')
  | 0, _, _, _, _ => by
    intro s r s'  h
    have h : (none : Option (Int32 × zy_S)) = some (r, s') := h
    cases h
  | n + 1, x1, x2, x3, x4 => by
    intro s r s'  h
    exact zyC235_5b (k5 := zyF235_5 n) (fun x1 x2 x3 x4 s r s'  h => zyC235_5  n x1 x2 x3 x4 s r s'  h) h
noncomputable def zyF235   (x1 : Int32) (x2 : Int32) (s : zy_S) : Option (Int32 × zy_S) :=
zyF235_5 zy_fu x1 x2 (0 : Int32) (0 : Int32) s
theorem zyC235 {X : zx_X}     {x1 : Int32} {x2 : Int32} {s : zy_S} {r : Int32} {s' : zy_S}  (h : zyF235 x1 x2 s = some (r, s')) : zyR X 3 235 0 [some (.ref (43 + 3)), some (.int x1), some (.int x2), none, none, none] [] s (zyE (some (.int r)) s') := by
  unfold zyF235 at h
  refine zy_3 rfl rfl (show zyR _ _ _ _ [some (.ref (43 + 3)), some (.int x1), some (.int x2), none, none, none] [.int (0 : Int32)] _ _ from ?_)
  refine zy_23 rfl rfl (show zyR _ _ _ _ [some (.ref (43 + 3)), some (.int x1), some (.int x2), some (.int (0 : Int32)), none, none] [] _ _ from ?_)
  refine zy_3 rfl rfl (show zyR _ _ _ _ [some (.ref (43 + 3)), some (.int x1), some (.int x2), some (.int (0 : Int32)), none, none] [.int (0 : Int32)] _ _ from ?_)
  refine zy_23 rfl rfl (show zyR _ _ _ _ [some (.ref (43 + 3)), some (.int x1), some (.int x2), some (.int (0 : Int32)), some (.int (0 : Int32)), none] [] _ _ from ?_)
  exact zy_sub (show zy_le [some (.ref (43 + 3)), some (.int x1), some (.int x2), some (.int (0 : Int32)), some (.int (0 : Int32)), none] [some (.ref (43 + 3)), some (.int x1), some (.int x2), some (.int (0 : Int32)), some (.int (0 : Int32)), none] from ⟨rfl, ⟨rfl, ⟨rfl, ⟨rfl, ⟨rfl, trivial⟩⟩⟩⟩⟩) (zyC235_5 zy_fu x1 x2 (0 : Int32) (0 : Int32) s _ _ h)
/-! NineOpinionsModel.agree(II)I -/
noncomputable def zyF234_81  (k45 : Int32 → Int32 → Int32 → Int32 → zy_S → Option (Int32 × zy_S)) (x1 : Int32) (x2 : Int32) (x4 : Int32) (y0 : Int32) (y1 : Int32) (s : zy_S) : Option (Int32 × zy_S) :=
k45 x1 x2 (y1 + y0) (x4 + (1 : Int32)) s
theorem zyC234_81 {X : zx_X}  {k45 : Int32 → Int32 → Int32 → Int32 → zy_S → Option (Int32 × zy_S)}  (hk45 : ∀ (x1 : Int32) (x2 : Int32) (x3 : Int32) (x4 : Int32) (s : zy_S) (r : Int32) (s' : zy_S), k45 x1 x2 x3 x4 s = some (r, s') → zyR X 4 234 45 [some (.ref (43 + 3)), some (.int x1), some (.int x2), some (.int x3), some (.int x4)] [] s (zyE (some (.int r)) s')) {x1 : Int32} {x2 : Int32} {x4 : Int32} {y0 : Int32} {y1 : Int32} {s : zy_S} {r : Int32} {s' : zy_S}  (h : zyF234_81 k45 x1 x2 x4 y0 y1 s = some (r, s')) : zyR X 4 234 81 [some (.ref (43 + 3)), some (.int x1), some (.int x2), none, some (.int x4)] [.int y0, .int y1] s (zyE (some (.int r)) s') := by
  unfold zyF234_81 at h
  refine zy_10 rfl (show zyR _ _ _ _ [some (.ref (43 + 3)), some (.int x1), some (.int x2), none, some (.int x4)] [.int (y1 + y0)] _ _ from ?_)
  refine zy_23 rfl rfl (show zyR _ _ _ _ [some (.ref (43 + 3)), some (.int x1), some (.int x2), some (.int (y1 + y0)), some (.int x4)] [] _ _ from ?_)
  refine zy_22 rfl rfl rfl rfl (show zyR _ _ _ _ [some (.ref (43 + 3)), some (.int x1), some (.int x2), some (.int (y1 + y0)), some (.int (x4 + (1 : Int32)))] [] _ _ from ?_)
  refine zy_6 rfl (show zyR _ _ _ _ [some (.ref (43 + 3)), some (.int x1), some (.int x2), some (.int (y1 + y0)), some (.int (x4 + (1 : Int32)))] [] _ _ from ?_)
  exact zy_sub (show zy_le [some (.ref (43 + 3)), some (.int x1), some (.int x2), some (.int (y1 + y0)), some (.int (x4 + (1 : Int32)))] [some (.ref (43 + 3)), some (.int x1), some (.int x2), some (.int (y1 + y0)), some (.int (x4 + (1 : Int32)))] from ⟨rfl, ⟨rfl, ⟨rfl, ⟨rfl, ⟨rfl, trivial⟩⟩⟩⟩⟩) (hk45 x1 x2 (y1 + y0) (x4 + (1 : Int32)) s _ _ h)
noncomputable def zyF234_45b  (k45 : Int32 → Int32 → Int32 → Int32 → zy_S → Option (Int32 × zy_S)) (x1 : Int32) (x2 : Int32) (x3 : Int32) (x4 : Int32) (s : zy_S) : Option (Int32 × zy_S) :=
if (6 : Int32) ≤ x4 then
if x2 ≠ 0 then
(zyF235 (x1 / (10 : Int32)) (x1 - x1 / (10 : Int32) * (10 : Int32)) s).bind fun p1 =>
some (p1.1, p1.2)
else
some (x3, s)
else
(zyF205 (x1 / (10 : Int32)) x4 s).bind fun p3 =>
(zyF205 (x1 - x1 / (10 : Int32) * (10 : Int32)) x4 p3.2).bind fun p4 =>
if p3.1 ≠ p4.1 then
zyF234_81 k45 x1 x2 x4 (0 : Int32) x3 p4.2
else
zyF234_81 k45 x1 x2 x4 (1 : Int32) x3 p4.2
theorem zyC234_45b {X : zx_X}  {k45 : Int32 → Int32 → Int32 → Int32 → zy_S → Option (Int32 × zy_S)}  (hk45 : ∀ (x1 : Int32) (x2 : Int32) (x3 : Int32) (x4 : Int32) (s : zy_S) (r : Int32) (s' : zy_S), k45 x1 x2 x3 x4 s = some (r, s') → zyR X 4 234 45 [some (.ref (43 + 3)), some (.int x1), some (.int x2), some (.int x3), some (.int x4)] [] s (zyE (some (.int r)) s')) {x1 : Int32} {x2 : Int32} {x3 : Int32} {x4 : Int32} {s : zy_S} {r : Int32} {s' : zy_S}  (h : zyF234_45b k45 x1 x2 x3 x4 s = some (r, s')) : zyR X 4 234 45 [some (.ref (43 + 3)), some (.int x1), some (.int x2), some (.int x3), some (.int x4)] [] s (zyE (some (.int r)) s') := by
  unfold zyF234_45b at h
  refine zy_2 rfl rfl (show zyR _ _ _ _ [some (.ref (43 + 3)), some (.int x1), some (.int x2), some (.int x3), some (.int x4)] [.int x4] _ _ from ?_)
  refine zy_3 rfl rfl (show zyR _ _ _ _ [some (.ref (43 + 3)), some (.int x1), some (.int x2), some (.int x3), some (.int x4)] [.int (6 : Int32), .int x4] _ _ from ?_)
  refine zy_25_3 rfl (fun b6 => (show zyR _ _ _ _ [some (.ref (43 + 3)), some (.int x1), some (.int x2), some (.int x3), some (.int x4)] [] _ _ from ?_)) (fun b6 => (show zyR _ _ _ _ [some (.ref (43 + 3)), some (.int x1), some (.int x2), some (.int x3), some (.int x4)] [] _ _ from ?_))
  · replace h := zy_ifp h b6
    refine zy_2 rfl rfl (show zyR _ _ _ _ [some (.ref (43 + 3)), some (.int x1), some (.int x2), some (.int x3), some (.int x4)] [.int x2] _ _ from ?_)
    refine zy_24_1 rfl (fun b2 => (show zyR _ _ _ _ [some (.ref (43 + 3)), some (.int x1), some (.int x2), some (.int x3), some (.int x4)] [] _ _ from ?_)) (fun b2 => (show zyR _ _ _ _ [some (.ref (43 + 3)), some (.int x1), some (.int x2), some (.int x3), some (.int x4)] [] _ _ from ?_))
    · replace h := zy_ifp h b2
      refine zy_0 rfl rfl (show zyR _ _ _ _ [some (.ref (43 + 3)), some (.int x1), some (.int x2), some (.int x3), some (.int x4)] [.ref (43 + 3)] _ _ from ?_)
      refine zy_2 rfl rfl (show zyR _ _ _ _ [some (.ref (43 + 3)), some (.int x1), some (.int x2), some (.int x3), some (.int x4)] [.int x1, .ref (43 + 3)] _ _ from ?_)
      refine zy_3 rfl rfl (show zyR _ _ _ _ [some (.ref (43 + 3)), some (.int x1), some (.int x2), some (.int x3), some (.int x4)] [.int (10 : Int32), .int x1, .ref (43 + 3)] _ _ from ?_)
      refine zy_19 rfl (by decide) (show zyR _ _ _ _ [some (.ref (43 + 3)), some (.int x1), some (.int x2), some (.int x3), some (.int x4)] [.int (x1 / (10 : Int32)), .ref (43 + 3)] _ _ from ?_)
      refine zy_2 rfl rfl (show zyR _ _ _ _ [some (.ref (43 + 3)), some (.int x1), some (.int x2), some (.int x3), some (.int x4)] [.int x1, .int (x1 / (10 : Int32)), .ref (43 + 3)] _ _ from ?_)
      refine zy_3 rfl rfl (show zyR _ _ _ _ [some (.ref (43 + 3)), some (.int x1), some (.int x2), some (.int x3), some (.int x4)] [.int (10 : Int32), .int x1, .int (x1 / (10 : Int32)), .ref (43 + 3)] _ _ from ?_)
      refine zy_20 rfl (by decide) (show zyR _ _ _ _ [some (.ref (43 + 3)), some (.int x1), some (.int x2), some (.int x3), some (.int x4)] [.int (x1 - x1 / (10 : Int32) * (10 : Int32)), .int (x1 / (10 : Int32)), .ref (43 + 3)] _ _ from ?_)
      obtain ⟨p1, hp1, h⟩ := zy_bind h
      refine zy_5 (c := 43) (as := [.int (x1 / (10 : Int32)), .int (x1 - x1 / (10 : Int32) * (10 : Int32))]) (rest := []) (L := [some (.ref (43 + 3)), some (.int (x1 / (10 : Int32))), some (.int (x1 - x1 / (10 : Int32) * (10 : Int32))), none, none, none]) (d' := 3) rfl rfl rfl (Nat.le_of_ble_eq_true rfl) (Nat.le_of_ble_eq_true rfl) rfl (Nat.le_of_ble_eq_true rfl) rfl rfl (zyC235 hp1) ?_
      show zyR _ _ _ _ [some (.ref (43 + 3)), some (.int x1), some (.int x2), some (.int x3), some (.int x4)] [.int p1.1] _ _
      obtain ⟨rfl, rfl⟩ := zy_pi h
      exact zy_4 rfl ⟨rfl, rfl⟩
    · replace h := zy_ifn h b2
      refine zy_2 rfl rfl (show zyR _ _ _ _ [some (.ref (43 + 3)), some (.int x1), some (.int x2), some (.int x3), some (.int x4)] [.int x3] _ _ from ?_)
      refine zy_6 rfl (show zyR _ _ _ _ [some (.ref (43 + 3)), some (.int x1), some (.int x2), some (.int x3), some (.int x4)] [.int x3] _ _ from ?_)
      obtain ⟨rfl, rfl⟩ := zy_pi h
      exact zy_4 rfl ⟨rfl, rfl⟩
  · replace h := zy_ifn h b6
    refine zy_2 rfl rfl (show zyR _ _ _ _ [some (.ref (43 + 3)), some (.int x1), some (.int x2), some (.int x3), some (.int x4)] [.int x3] _ _ from ?_)
    refine zy_0 rfl rfl (show zyR _ _ _ _ [some (.ref (43 + 3)), some (.int x1), some (.int x2), some (.int x3), some (.int x4)] [.ref (43 + 3), .int x3] _ _ from ?_)
    refine zy_2 rfl rfl (show zyR _ _ _ _ [some (.ref (43 + 3)), some (.int x1), some (.int x2), some (.int x3), some (.int x4)] [.int x1, .ref (43 + 3), .int x3] _ _ from ?_)
    refine zy_3 rfl rfl (show zyR _ _ _ _ [some (.ref (43 + 3)), some (.int x1), some (.int x2), some (.int x3), some (.int x4)] [.int (10 : Int32), .int x1, .ref (43 + 3), .int x3] _ _ from ?_)
    refine zy_19 rfl (by decide) (show zyR _ _ _ _ [some (.ref (43 + 3)), some (.int x1), some (.int x2), some (.int x3), some (.int x4)] [.int (x1 / (10 : Int32)), .ref (43 + 3), .int x3] _ _ from ?_)
    refine zy_2 rfl rfl (show zyR _ _ _ _ [some (.ref (43 + 3)), some (.int x1), some (.int x2), some (.int x3), some (.int x4)] [.int x4, .int (x1 / (10 : Int32)), .ref (43 + 3), .int x3] _ _ from ?_)
    obtain ⟨p3, hp3, h⟩ := zy_bind h
    refine zy_5 (c := 43) (as := [.int (x1 / (10 : Int32)), .int x4]) (rest := [.int x3]) (L := [some (.ref (43 + 3)), some (.int (x1 / (10 : Int32))), some (.int x4)]) (d' := 2) rfl rfl rfl (Nat.le_of_ble_eq_true rfl) (Nat.le_of_ble_eq_true rfl) rfl (Nat.le_of_ble_eq_true rfl) rfl rfl (zyC205 hp3) ?_
    show zyR _ _ _ _ [some (.ref (43 + 3)), some (.int x1), some (.int x2), some (.int x3), some (.int x4)] [.int p3.1, .int x3] _ _
    refine zy_0 rfl rfl (show zyR _ _ _ _ [some (.ref (43 + 3)), some (.int x1), some (.int x2), some (.int x3), some (.int x4)] [.ref (43 + 3), .int p3.1, .int x3] _ _ from ?_)
    refine zy_2 rfl rfl (show zyR _ _ _ _ [some (.ref (43 + 3)), some (.int x1), some (.int x2), some (.int x3), some (.int x4)] [.int x1, .ref (43 + 3), .int p3.1, .int x3] _ _ from ?_)
    refine zy_3 rfl rfl (show zyR _ _ _ _ [some (.ref (43 + 3)), some (.int x1), some (.int x2), some (.int x3), some (.int x4)] [.int (10 : Int32), .int x1, .ref (43 + 3), .int p3.1, .int x3] _ _ from ?_)
    refine zy_20 rfl (by decide) (show zyR _ _ _ _ [some (.ref (43 + 3)), some (.int x1), some (.int x2), some (.int x3), some (.int x4)] [.int (x1 - x1 / (10 : Int32) * (10 : Int32)), .ref (43 + 3), .int p3.1, .int x3] _ _ from ?_)
    refine zy_2 rfl rfl (show zyR _ _ _ _ [some (.ref (43 + 3)), some (.int x1), some (.int x2), some (.int x3), some (.int x4)] [.int x4, .int (x1 - x1 / (10 : Int32) * (10 : Int32)), .ref (43 + 3), .int p3.1, .int x3] _ _ from ?_)
    obtain ⟨p4, hp4, h⟩ := zy_bind h
    refine zy_5 (c := 43) (as := [.int (x1 - x1 / (10 : Int32) * (10 : Int32)), .int x4]) (rest := [.int p3.1, .int x3]) (L := [some (.ref (43 + 3)), some (.int (x1 - x1 / (10 : Int32) * (10 : Int32))), some (.int x4)]) (d' := 2) rfl rfl rfl (Nat.le_of_ble_eq_true rfl) (Nat.le_of_ble_eq_true rfl) rfl (Nat.le_of_ble_eq_true rfl) rfl rfl (zyC205 hp4) ?_
    show zyR _ _ _ _ [some (.ref (43 + 3)), some (.int x1), some (.int x2), some (.int x3), some (.int x4)] [.int p4.1, .int p3.1, .int x3] _ _
    refine zy_25_1 rfl (fun b5 => (show zyR _ _ _ _ [some (.ref (43 + 3)), some (.int x1), some (.int x2), some (.int x3), some (.int x4)] [.int x3] _ _ from ?_)) (fun b5 => (show zyR _ _ _ _ [some (.ref (43 + 3)), some (.int x1), some (.int x2), some (.int x3), some (.int x4)] [.int x3] _ _ from ?_))
    · replace h := zy_ifp h b5
      refine zy_3 rfl rfl (show zyR _ _ _ _ [some (.ref (43 + 3)), some (.int x1), some (.int x2), some (.int x3), some (.int x4)] [.int (0 : Int32), .int x3] _ _ from ?_)
      exact zy_sub (show zy_le [some (.ref (43 + 3)), some (.int x1), some (.int x2), none, some (.int x4)] [some (.ref (43 + 3)), some (.int x1), some (.int x2), some (.int x3), some (.int x4)] from ⟨rfl, ⟨rfl, ⟨rfl, ⟨rfl, trivial⟩⟩⟩⟩) (zyC234_81 hk45 h)
    · replace h := zy_ifn h b5
      refine zy_3 rfl rfl (show zyR _ _ _ _ [some (.ref (43 + 3)), some (.int x1), some (.int x2), some (.int x3), some (.int x4)] [.int (1 : Int32), .int x3] _ _ from ?_)
      refine zy_6 rfl (show zyR _ _ _ _ [some (.ref (43 + 3)), some (.int x1), some (.int x2), some (.int x3), some (.int x4)] [.int (1 : Int32), .int x3] _ _ from ?_)
      exact zy_sub (show zy_le [some (.ref (43 + 3)), some (.int x1), some (.int x2), none, some (.int x4)] [some (.ref (43 + 3)), some (.int x1), some (.int x2), some (.int x3), some (.int x4)] from ⟨rfl, ⟨rfl, ⟨rfl, ⟨rfl, trivial⟩⟩⟩⟩) (zyC234_81 hk45 h)
noncomputable def zyF234_45   (n : Nat) : Int32 → Int32 → Int32 → Int32 → zy_S → Option (Int32 × zy_S) := Nat.rec (fun _ _ _ _ _ => none) (fun _ k45 => zyF234_45b k45) n
theorem zyC234_45 {X : zx_X}     : ∀ (n : Nat) (x1 : Int32) (x2 : Int32) (x3 : Int32) (x4 : Int32) (s : zy_S) (r : Int32) (s' : zy_S), zyF234_45 n x1 x2 x3 x4 s = some (r, s') → zyR X 4 234 45 [some (.ref (43 + 3)), some (.int x1), some (.int x2), some (.int x3), some (.int x4)] [] s (zyE (some (.int r)) s')
  | 0, _, _, _, _ => by
    intro s r s'  h
    have h : (none : Option (Int32 × zy_S)) = some (r, s') := h
    cases h
  | n + 1, x1, x2, x3, x4 => by
    intro s r s'  h
    exact zyC234_45b (k45 := zyF234_45 n) (fun x1 x2 x3 x4 s r s'  h => zyC234_45  n x1 x2 x3 x4 s r s'  h) h
noncomputable def zyF234   (x1 : Int32) (x2 : Int32) (s : zy_S) : Option (Int32 × zy_S) :=
if x1 < 0 then
some ((-1 : Int32), s)
else
(zyF185 ((x1 / (10 : Int32))).toInt64 s).bind fun p7 =>
if p7.1 = 0 then
some ((-1 : Int32), p7.2)
else
(zyF185 ((x1 - x1 / (10 : Int32) * (10 : Int32))).toInt64 p7.2).bind fun p8 =>
if p8.1 = 0 then
some ((-1 : Int32), p8.2)
else
(zyF179 (x2).toInt64 (0 : Int64) (1 : Int64) p8.2).bind fun p9 =>
if p9.1 ≠ 0 then
zyF234_45 zy_fu x1 x2 (0 : Int32) (0 : Int32) p9.2
else
some ((-1 : Int32), p9.2)
theorem zyC234 {X : zx_X}     {x1 : Int32} {x2 : Int32} {s : zy_S} {r : Int32} {s' : zy_S}  (h : zyF234 x1 x2 s = some (r, s')) : zyR X 4 234 0 [some (.ref (43 + 3)), some (.int x1), some (.int x2), none, none] [] s (zyE (some (.int r)) s') := by
  unfold zyF234 at h
  refine zy_2 rfl rfl (show zyR _ _ _ _ [some (.ref (43 + 3)), some (.int x1), some (.int x2), none, none] [.int x1] _ _ from ?_)
  refine zy_24_2 rfl (fun b13 => (show zyR _ _ _ _ [some (.ref (43 + 3)), some (.int x1), some (.int x2), none, none] [] _ _ from ?_)) (fun b13 => (show zyR _ _ _ _ [some (.ref (43 + 3)), some (.int x1), some (.int x2), none, none] [] _ _ from ?_))
  · replace h := zy_ifp h b13
    refine zy_3 rfl rfl (show zyR _ _ _ _ [some (.ref (43 + 3)), some (.int x1), some (.int x2), none, none] [.int (-1 : Int32)] _ _ from ?_)
    obtain ⟨rfl, rfl⟩ := zy_pi h
    exact zy_4 rfl ⟨rfl, rfl⟩
  · replace h := zy_ifn h b13
    refine zy_0 rfl rfl (show zyR _ _ _ _ [some (.ref (43 + 3)), some (.int x1), some (.int x2), none, none] [.ref (43 + 3)] _ _ from ?_)
    refine zy_2 rfl rfl (show zyR _ _ _ _ [some (.ref (43 + 3)), some (.int x1), some (.int x2), none, none] [.int x1, .ref (43 + 3)] _ _ from ?_)
    refine zy_3 rfl rfl (show zyR _ _ _ _ [some (.ref (43 + 3)), some (.int x1), some (.int x2), none, none] [.int (10 : Int32), .int x1, .ref (43 + 3)] _ _ from ?_)
    refine zy_19 rfl (by decide) (show zyR _ _ _ _ [some (.ref (43 + 3)), some (.int x1), some (.int x2), none, none] [.int (x1 / (10 : Int32)), .ref (43 + 3)] _ _ from ?_)
    refine zy_40 rfl (show zyR _ _ _ _ [some (.ref (43 + 3)), some (.int x1), some (.int x2), none, none] [.long ((x1 / (10 : Int32))).toInt64, .ref (43 + 3)] _ _ from ?_)
    obtain ⟨p7, hp7, h⟩ := zy_bind h
    refine zy_5 (c := 43) (as := [.long ((x1 / (10 : Int32))).toInt64]) (rest := []) (L := [some (.ref (43 + 3)), some (.long ((x1 / (10 : Int32))).toInt64), none]) (d' := 2) rfl rfl rfl (Nat.le_of_ble_eq_true rfl) (Nat.le_of_ble_eq_true rfl) rfl (Nat.le_of_ble_eq_true rfl) rfl rfl (zyC185 hp7) ?_
    show zyR _ _ _ _ [some (.ref (43 + 3)), some (.int x1), some (.int x2), none, none] [.int p7.1] _ _
    refine zy_24_0 rfl (fun b12 => (show zyR _ _ _ _ [some (.ref (43 + 3)), some (.int x1), some (.int x2), none, none] [] _ _ from ?_)) (fun b12 => (show zyR _ _ _ _ [some (.ref (43 + 3)), some (.int x1), some (.int x2), none, none] [] _ _ from ?_))
    · replace h := zy_ifp h b12
      refine zy_3 rfl rfl (show zyR _ _ _ _ [some (.ref (43 + 3)), some (.int x1), some (.int x2), none, none] [.int (-1 : Int32)] _ _ from ?_)
      obtain ⟨rfl, rfl⟩ := zy_pi h
      exact zy_4 rfl ⟨rfl, rfl⟩
    · replace h := zy_ifn h b12
      refine zy_0 rfl rfl (show zyR _ _ _ _ [some (.ref (43 + 3)), some (.int x1), some (.int x2), none, none] [.ref (43 + 3)] _ _ from ?_)
      refine zy_2 rfl rfl (show zyR _ _ _ _ [some (.ref (43 + 3)), some (.int x1), some (.int x2), none, none] [.int x1, .ref (43 + 3)] _ _ from ?_)
      refine zy_3 rfl rfl (show zyR _ _ _ _ [some (.ref (43 + 3)), some (.int x1), some (.int x2), none, none] [.int (10 : Int32), .int x1, .ref (43 + 3)] _ _ from ?_)
      refine zy_20 rfl (by decide) (show zyR _ _ _ _ [some (.ref (43 + 3)), some (.int x1), some (.int x2), none, none] [.int (x1 - x1 / (10 : Int32) * (10 : Int32)), .ref (43 + 3)] _ _ from ?_)
      refine zy_40 rfl (show zyR _ _ _ _ [some (.ref (43 + 3)), some (.int x1), some (.int x2), none, none] [.long ((x1 - x1 / (10 : Int32) * (10 : Int32))).toInt64, .ref (43 + 3)] _ _ from ?_)
      obtain ⟨p8, hp8, h⟩ := zy_bind h
      refine zy_5 (c := 43) (as := [.long ((x1 - x1 / (10 : Int32) * (10 : Int32))).toInt64]) (rest := []) (L := [some (.ref (43 + 3)), some (.long ((x1 - x1 / (10 : Int32) * (10 : Int32))).toInt64), none]) (d' := 2) rfl rfl rfl (Nat.le_of_ble_eq_true rfl) (Nat.le_of_ble_eq_true rfl) rfl (Nat.le_of_ble_eq_true rfl) rfl rfl (zyC185 hp8) ?_
      show zyR _ _ _ _ [some (.ref (43 + 3)), some (.int x1), some (.int x2), none, none] [.int p8.1] _ _
      refine zy_24_0 rfl (fun b11 => (show zyR _ _ _ _ [some (.ref (43 + 3)), some (.int x1), some (.int x2), none, none] [] _ _ from ?_)) (fun b11 => (show zyR _ _ _ _ [some (.ref (43 + 3)), some (.int x1), some (.int x2), none, none] [] _ _ from ?_))
      · replace h := zy_ifp h b11
        refine zy_3 rfl rfl (show zyR _ _ _ _ [some (.ref (43 + 3)), some (.int x1), some (.int x2), none, none] [.int (-1 : Int32)] _ _ from ?_)
        obtain ⟨rfl, rfl⟩ := zy_pi h
        exact zy_4 rfl ⟨rfl, rfl⟩
      · replace h := zy_ifn h b11
        refine zy_2 rfl rfl (show zyR _ _ _ _ [some (.ref (43 + 3)), some (.int x1), some (.int x2), none, none] [.int x2] _ _ from ?_)
        refine zy_40 rfl (show zyR _ _ _ _ [some (.ref (43 + 3)), some (.int x1), some (.int x2), none, none] [.long (x2).toInt64] _ _ from ?_)
        refine zy_36 rfl rfl (show zyR _ _ _ _ [some (.ref (43 + 3)), some (.int x1), some (.int x2), none, none] [.long (0 : Int64), .long (x2).toInt64] _ _ from ?_)
        refine zy_36 rfl rfl (show zyR _ _ _ _ [some (.ref (43 + 3)), some (.int x1), some (.int x2), none, none] [.long (1 : Int64), .long (0 : Int64), .long (x2).toInt64] _ _ from ?_)
        obtain ⟨p9, hp9, h⟩ := zy_bind h
        refine zy_60 (as := [.long (x2).toInt64, .long (0 : Int64), .long (1 : Int64)]) (rest := []) (L := [some (.long (x2).toInt64), none, some (.long (0 : Int64)), none, some (.long (1 : Int64)), none]) (d' := 1) rfl rfl (Nat.le_of_ble_eq_true rfl) (Nat.le_of_ble_eq_true rfl) rfl (Nat.le_of_ble_eq_true rfl) rfl rfl (zyC179 hp9) ?_
        show zyR _ _ _ _ [some (.ref (43 + 3)), some (.int x1), some (.int x2), none, none] [.int p9.1] _ _
        refine zy_24_1 rfl (fun b10 => (show zyR _ _ _ _ [some (.ref (43 + 3)), some (.int x1), some (.int x2), none, none] [] _ _ from ?_)) (fun b10 => (show zyR _ _ _ _ [some (.ref (43 + 3)), some (.int x1), some (.int x2), none, none] [] _ _ from ?_))
        · replace h := zy_ifp h b10
          refine zy_3 rfl rfl (show zyR _ _ _ _ [some (.ref (43 + 3)), some (.int x1), some (.int x2), none, none] [.int (0 : Int32)] _ _ from ?_)
          refine zy_23 rfl rfl (show zyR _ _ _ _ [some (.ref (43 + 3)), some (.int x1), some (.int x2), some (.int (0 : Int32)), none] [] _ _ from ?_)
          refine zy_3 rfl rfl (show zyR _ _ _ _ [some (.ref (43 + 3)), some (.int x1), some (.int x2), some (.int (0 : Int32)), none] [.int (0 : Int32)] _ _ from ?_)
          refine zy_23 rfl rfl (show zyR _ _ _ _ [some (.ref (43 + 3)), some (.int x1), some (.int x2), some (.int (0 : Int32)), some (.int (0 : Int32))] [] _ _ from ?_)
          exact zy_sub (show zy_le [some (.ref (43 + 3)), some (.int x1), some (.int x2), some (.int (0 : Int32)), some (.int (0 : Int32))] [some (.ref (43 + 3)), some (.int x1), some (.int x2), some (.int (0 : Int32)), some (.int (0 : Int32))] from ⟨rfl, ⟨rfl, ⟨rfl, ⟨rfl, ⟨rfl, trivial⟩⟩⟩⟩⟩) (zyC234_45 zy_fu x1 x2 (0 : Int32) (0 : Int32) p9.2 _ _ h)
        · replace h := zy_ifn h b10
          refine zy_3 rfl rfl (show zyR _ _ _ _ [some (.ref (43 + 3)), some (.int x1), some (.int x2), none, none] [.int (-1 : Int32)] _ _ from ?_)
          obtain ⟨rfl, rfl⟩ := zy_pi h
          exact zy_4 rfl ⟨rfl, rfl⟩
/-! NineOpinions$Votes.leastFar(I)I -/
noncomputable def zyF124_44  (k5 : Int32 → Int32 → Int32 → zy_S → Option (Int32 × zy_S)) (x1 : Int32) (x2 : Int32) (x3 : Int32) (s : zy_S) : Option (Int32 × zy_S) :=
k5 x1 x2 (x3 + (1 : Int32)) s
theorem zyC124_44 {X : zx_X}  {k5 : Int32 → Int32 → Int32 → zy_S → Option (Int32 × zy_S)}  (hk5 : ∀ (x1 : Int32) (x2 : Int32) (x3 : Int32) (s : zy_S) (r : Int32) (s' : zy_S), k5 x1 x2 x3 s = some (r, s') → zyR X 4 124 5 [some (.ref (16 + 3)), some (.int x1), some (.int x2), some (.int x3)] [] s (zyE (some (.int r)) s')) {x1 : Int32} {x2 : Int32} {x3 : Int32} {s : zy_S} {r : Int32} {s' : zy_S}  (h : zyF124_44 k5 x1 x2 x3 s = some (r, s')) : zyR X 4 124 44 [some (.ref (16 + 3)), some (.int x1), some (.int x2), some (.int x3)] [] s (zyE (some (.int r)) s') := by
  unfold zyF124_44 at h
  refine zy_22 rfl rfl rfl rfl (show zyR _ _ _ _ [some (.ref (16 + 3)), some (.int x1), some (.int x2), some (.int (x3 + (1 : Int32)))] [] _ _ from ?_)
  refine zy_6 rfl (show zyR _ _ _ _ [some (.ref (16 + 3)), some (.int x1), some (.int x2), some (.int (x3 + (1 : Int32)))] [] _ _ from ?_)
  exact zy_sub (show zy_le [some (.ref (16 + 3)), some (.int x1), some (.int x2), some (.int (x3 + (1 : Int32)))] [some (.ref (16 + 3)), some (.int x1), some (.int x2), some (.int (x3 + (1 : Int32)))] from ⟨rfl, ⟨rfl, ⟨rfl, ⟨rfl, trivial⟩⟩⟩⟩) (hk5 x1 x2 (x3 + (1 : Int32)) s _ _ h)
noncomputable def zyF124_42  (k5 : Int32 → Int32 → Int32 → zy_S → Option (Int32 × zy_S)) (x1 : Int32) (x3 : Int32) (s : zy_S) : Option (Int32 × zy_S) :=
zyF124_44 k5 x1 x3 x3 s
theorem zyC124_42 {X : zx_X}  {k5 : Int32 → Int32 → Int32 → zy_S → Option (Int32 × zy_S)}  (hk5 : ∀ (x1 : Int32) (x2 : Int32) (x3 : Int32) (s : zy_S) (r : Int32) (s' : zy_S), k5 x1 x2 x3 s = some (r, s') → zyR X 4 124 5 [some (.ref (16 + 3)), some (.int x1), some (.int x2), some (.int x3)] [] s (zyE (some (.int r)) s')) {x1 : Int32} {x3 : Int32} {s : zy_S} {r : Int32} {s' : zy_S}  (h : zyF124_42 k5 x1 x3 s = some (r, s')) : zyR X 4 124 42 [some (.ref (16 + 3)), some (.int x1), none, some (.int x3)] [] s (zyE (some (.int r)) s') := by
  unfold zyF124_42 at h
  refine zy_2 rfl rfl (show zyR _ _ _ _ [some (.ref (16 + 3)), some (.int x1), none, some (.int x3)] [.int x3] _ _ from ?_)
  refine zy_23 rfl rfl (show zyR _ _ _ _ [some (.ref (16 + 3)), some (.int x1), some (.int x3), some (.int x3)] [] _ _ from ?_)
  exact zy_sub (show zy_le [some (.ref (16 + 3)), some (.int x1), some (.int x3), some (.int x3)] [some (.ref (16 + 3)), some (.int x1), some (.int x3), some (.int x3)] from ⟨rfl, ⟨rfl, ⟨rfl, ⟨rfl, trivial⟩⟩⟩⟩) (zyC124_44 hk5 h)
noncomputable def zyF124_5b  (k5 : Int32 → Int32 → Int32 → zy_S → Option (Int32 × zy_S)) (x1 : Int32) (x2 : Int32) (x3 : Int32) (s : zy_S) : Option (Int32 × zy_S) :=
if (s.1 1 5) ≤ x3 then
some (x2, s)
else
if x3 = x1 then
zyF124_44 k5 x1 x2 x3 s
else
if x2 = (-2 : Int32) then
zyF124_42 k5 x1 x3 s
else
(zyF122 x1 x3 s).bind fun p1 =>
(zyF122 x1 x2 p1.2).bind fun p2 =>
if p2.1 ≤ p1.1 then
zyF124_44 k5 x1 x2 x3 p2.2
else
zyF124_42 k5 x1 x3 p2.2
theorem zyC124_5b {X : zx_X}  {k5 : Int32 → Int32 → Int32 → zy_S → Option (Int32 × zy_S)}  (hk5 : ∀ (x1 : Int32) (x2 : Int32) (x3 : Int32) (s : zy_S) (r : Int32) (s' : zy_S), k5 x1 x2 x3 s = some (r, s') → zyR X 4 124 5 [some (.ref (16 + 3)), some (.int x1), some (.int x2), some (.int x3)] [] s (zyE (some (.int r)) s')) {x1 : Int32} {x2 : Int32} {x3 : Int32} {s : zy_S} {r : Int32} {s' : zy_S}  (h : zyF124_5b k5 x1 x2 x3 s = some (r, s')) : zyR X 4 124 5 [some (.ref (16 + 3)), some (.int x1), some (.int x2), some (.int x3)] [] s (zyE (some (.int r)) s') := by
  unfold zyF124_5b at h
  refine zy_2 rfl rfl (show zyR _ _ _ _ [some (.ref (16 + 3)), some (.int x1), some (.int x2), some (.int x3)] [.int x3] _ _ from ?_)
  refine zy_0 rfl rfl (show zyR _ _ _ _ [some (.ref (16 + 3)), some (.int x1), some (.int x2), some (.int x3)] [.ref (16 + 3), .int x3] _ _ from ?_)
  refine zy_1r (c := 16) rfl rfl rfl (show zyR _ _ _ _ [some (.ref (16 + 3)), some (.int x1), some (.int x2), some (.int x3)] [.ref (1 + 3), .int x3] _ _ from ?_)
  refine zy_1 (c := 1) rfl rfl rfl (show zyR _ _ _ _ [some (.ref (16 + 3)), some (.int x1), some (.int x2), some (.int x3)] [.int (s.1 1 5), .int x3] _ _ from ?_)
  refine zy_25_3 rfl (fun b6 => (show zyR _ _ _ _ [some (.ref (16 + 3)), some (.int x1), some (.int x2), some (.int x3)] [] _ _ from ?_)) (fun b6 => (show zyR _ _ _ _ [some (.ref (16 + 3)), some (.int x1), some (.int x2), some (.int x3)] [] _ _ from ?_))
  · replace h := zy_ifp h b6
    refine zy_2 rfl rfl (show zyR _ _ _ _ [some (.ref (16 + 3)), some (.int x1), some (.int x2), some (.int x3)] [.int x2] _ _ from ?_)
    obtain ⟨rfl, rfl⟩ := zy_pi h
    exact zy_4 rfl ⟨rfl, rfl⟩
  · replace h := zy_ifn h b6
    refine zy_2 rfl rfl (show zyR _ _ _ _ [some (.ref (16 + 3)), some (.int x1), some (.int x2), some (.int x3)] [.int x3] _ _ from ?_)
    refine zy_2 rfl rfl (show zyR _ _ _ _ [some (.ref (16 + 3)), some (.int x1), some (.int x2), some (.int x3)] [.int x1, .int x3] _ _ from ?_)
    refine zy_25_0 rfl (fun b5 => (show zyR _ _ _ _ [some (.ref (16 + 3)), some (.int x1), some (.int x2), some (.int x3)] [] _ _ from ?_)) (fun b5 => (show zyR _ _ _ _ [some (.ref (16 + 3)), some (.int x1), some (.int x2), some (.int x3)] [] _ _ from ?_))
    · replace h := zy_ifp h b5
      exact zy_sub (show zy_le [some (.ref (16 + 3)), some (.int x1), some (.int x2), some (.int x3)] [some (.ref (16 + 3)), some (.int x1), some (.int x2), some (.int x3)] from ⟨rfl, ⟨rfl, ⟨rfl, ⟨rfl, trivial⟩⟩⟩⟩) (zyC124_44 hk5 h)
    · replace h := zy_ifn h b5
      refine zy_2 rfl rfl (show zyR _ _ _ _ [some (.ref (16 + 3)), some (.int x1), some (.int x2), some (.int x3)] [.int x2] _ _ from ?_)
      refine zy_3 rfl rfl (show zyR _ _ _ _ [some (.ref (16 + 3)), some (.int x1), some (.int x2), some (.int x3)] [.int (-2 : Int32), .int x2] _ _ from ?_)
      refine zy_25_0 rfl (fun b4 => (show zyR _ _ _ _ [some (.ref (16 + 3)), some (.int x1), some (.int x2), some (.int x3)] [] _ _ from ?_)) (fun b4 => (show zyR _ _ _ _ [some (.ref (16 + 3)), some (.int x1), some (.int x2), some (.int x3)] [] _ _ from ?_))
      · replace h := zy_ifp h b4
        exact zy_sub (show zy_le [some (.ref (16 + 3)), some (.int x1), none, some (.int x3)] [some (.ref (16 + 3)), some (.int x1), some (.int x2), some (.int x3)] from ⟨rfl, ⟨rfl, ⟨rfl, trivial⟩⟩⟩) (zyC124_42 hk5 h)
      · replace h := zy_ifn h b4
        refine zy_0 rfl rfl (show zyR _ _ _ _ [some (.ref (16 + 3)), some (.int x1), some (.int x2), some (.int x3)] [.ref (16 + 3)] _ _ from ?_)
        refine zy_2 rfl rfl (show zyR _ _ _ _ [some (.ref (16 + 3)), some (.int x1), some (.int x2), some (.int x3)] [.int x1, .ref (16 + 3)] _ _ from ?_)
        refine zy_2 rfl rfl (show zyR _ _ _ _ [some (.ref (16 + 3)), some (.int x1), some (.int x2), some (.int x3)] [.int x3, .int x1, .ref (16 + 3)] _ _ from ?_)
        obtain ⟨p1, hp1, h⟩ := zy_bind h
        refine zy_5 (c := 16) (as := [.int x1, .int x3]) (rest := []) (L := [some (.ref (16 + 3)), some (.int x1), some (.int x3), none, none]) (d' := 3) rfl rfl rfl (Nat.le_of_ble_eq_true rfl) (Nat.le_of_ble_eq_true rfl) rfl (Nat.le_of_ble_eq_true rfl) rfl rfl (zyC122 hp1) ?_
        show zyR _ _ _ _ [some (.ref (16 + 3)), some (.int x1), some (.int x2), some (.int x3)] [.int p1.1] _ _
        refine zy_0 rfl rfl (show zyR _ _ _ _ [some (.ref (16 + 3)), some (.int x1), some (.int x2), some (.int x3)] [.ref (16 + 3), .int p1.1] _ _ from ?_)
        refine zy_2 rfl rfl (show zyR _ _ _ _ [some (.ref (16 + 3)), some (.int x1), some (.int x2), some (.int x3)] [.int x1, .ref (16 + 3), .int p1.1] _ _ from ?_)
        refine zy_2 rfl rfl (show zyR _ _ _ _ [some (.ref (16 + 3)), some (.int x1), some (.int x2), some (.int x3)] [.int x2, .int x1, .ref (16 + 3), .int p1.1] _ _ from ?_)
        obtain ⟨p2, hp2, h⟩ := zy_bind h
        refine zy_5 (c := 16) (as := [.int x1, .int x2]) (rest := [.int p1.1]) (L := [some (.ref (16 + 3)), some (.int x1), some (.int x2), none, none]) (d' := 3) rfl rfl rfl (Nat.le_of_ble_eq_true rfl) (Nat.le_of_ble_eq_true rfl) rfl (Nat.le_of_ble_eq_true rfl) rfl rfl (zyC122 hp2) ?_
        show zyR _ _ _ _ [some (.ref (16 + 3)), some (.int x1), some (.int x2), some (.int x3)] [.int p2.1, .int p1.1] _ _
        refine zy_25_3 rfl (fun b3 => (show zyR _ _ _ _ [some (.ref (16 + 3)), some (.int x1), some (.int x2), some (.int x3)] [] _ _ from ?_)) (fun b3 => (show zyR _ _ _ _ [some (.ref (16 + 3)), some (.int x1), some (.int x2), some (.int x3)] [] _ _ from ?_))
        · replace h := zy_ifp h b3
          exact zy_sub (show zy_le [some (.ref (16 + 3)), some (.int x1), some (.int x2), some (.int x3)] [some (.ref (16 + 3)), some (.int x1), some (.int x2), some (.int x3)] from ⟨rfl, ⟨rfl, ⟨rfl, ⟨rfl, trivial⟩⟩⟩⟩) (zyC124_44 hk5 h)
        · replace h := zy_ifn h b3
          exact zy_sub (show zy_le [some (.ref (16 + 3)), some (.int x1), none, some (.int x3)] [some (.ref (16 + 3)), some (.int x1), some (.int x2), some (.int x3)] from ⟨rfl, ⟨rfl, ⟨rfl, trivial⟩⟩⟩) (zyC124_42 hk5 h)
noncomputable def zyF124_5   (n : Nat) : Int32 → Int32 → Int32 → zy_S → Option (Int32 × zy_S) := Nat.rec (fun _ _ _ _ => none) (fun _ k5 => zyF124_5b k5) n
theorem zyC124_5 {X : zx_X}     : ∀ (n : Nat) (x1 : Int32) (x2 : Int32) (x3 : Int32) (s : zy_S) (r : Int32) (s' : zy_S), zyF124_5 n x1 x2 x3 s = some (r, s') → zyR X 4 124 5 [some (.ref (16 + 3)), some (.int x1), some (.int x2), some (.int x3)] [] s (zyE (some (.int r)) s')
  | 0, _, _, _ => by
    intro s r s'  h
    have h : (none : Option (Int32 × zy_S)) = some (r, s') := h
    cases h
  | n + 1, x1, x2, x3 => by
    intro s r s'  h
    exact zyC124_5b (k5 := zyF124_5 n) (fun x1 x2 x3 s r s'  h => zyC124_5  n x1 x2 x3 s r s'  h) h
noncomputable def zyF124   (x1 : Int32) (s : zy_S) : Option (Int32 × zy_S) :=
zyF124_5 zy_fu x1 (-2 : Int32) (0 : Int32) s
theorem zyC124 {X : zx_X}     {x1 : Int32} {s : zy_S} {r : Int32} {s' : zy_S}  (h : zyF124 x1 s = some (r, s')) : zyR X 4 124 0 [some (.ref (16 + 3)), some (.int x1), none, none] [] s (zyE (some (.int r)) s') := by
  unfold zyF124 at h
  refine zy_3 rfl rfl (show zyR _ _ _ _ [some (.ref (16 + 3)), some (.int x1), none, none] [.int (-2 : Int32)] _ _ from ?_)
  refine zy_23 rfl rfl (show zyR _ _ _ _ [some (.ref (16 + 3)), some (.int x1), some (.int (-2 : Int32)), none] [] _ _ from ?_)
  refine zy_3 rfl rfl (show zyR _ _ _ _ [some (.ref (16 + 3)), some (.int x1), some (.int (-2 : Int32)), none] [.int (0 : Int32)] _ _ from ?_)
  refine zy_23 rfl rfl (show zyR _ _ _ _ [some (.ref (16 + 3)), some (.int x1), some (.int (-2 : Int32)), some (.int (0 : Int32))] [] _ _ from ?_)
  exact zy_sub (show zy_le [some (.ref (16 + 3)), some (.int x1), some (.int (-2 : Int32)), some (.int (0 : Int32))] [some (.ref (16 + 3)), some (.int x1), some (.int (-2 : Int32)), some (.int (0 : Int32))] from ⟨rfl, ⟨rfl, ⟨rfl, ⟨rfl, trivial⟩⟩⟩⟩) (zyC124_5 zy_fu x1 (-2 : Int32) (0 : Int32) s _ _ h)
/-! NineOpinions.like(I)I -/
noncomputable def zyF123   (x1 : Int32) (s : zy_S) : Option (Int32 × zy_S) :=
(zyF25 (0 : Int32) x1 s).bind fun p1 =>
if p1.1 = 0 then
some ((-1 : Int32), p1.2)
else
(zyF124 x1 p1.2).bind fun p2 =>
some (p2.1, p2.2)
theorem zyC123 {X : zx_X}     {x1 : Int32} {s : zy_S} {r : Int32} {s' : zy_S}  (h : zyF123 x1 s = some (r, s')) : zyR X 5 123 0 [some (.ref (0 + 3)), some (.int x1)] [] s (zyE (some (.int r)) s') := by
  unfold zyF123 at h
  refine zy_0 rfl rfl (show zyR _ _ _ _ [some (.ref (0 + 3)), some (.int x1)] [.ref (0 + 3)] _ _ from ?_)
  refine zy_1r (c := 0) rfl rfl rfl (show zyR _ _ _ _ [some (.ref (0 + 3)), some (.int x1)] [.ref (1 + 3)] _ _ from ?_)
  refine zy_3 rfl rfl (show zyR _ _ _ _ [some (.ref (0 + 3)), some (.int x1)] [.int (0 : Int32), .ref (1 + 3)] _ _ from ?_)
  refine zy_2 rfl rfl (show zyR _ _ _ _ [some (.ref (0 + 3)), some (.int x1)] [.int x1, .int (0 : Int32), .ref (1 + 3)] _ _ from ?_)
  obtain ⟨p1, hp1, h⟩ := zy_bind h
  refine zy_5 (c := 1) (as := [.int (0 : Int32), .int x1]) (rest := []) (L := [some (.ref (1 + 3)), some (.int (0 : Int32)), some (.int x1)]) (d' := 2) rfl rfl rfl (Nat.le_of_ble_eq_true rfl) (Nat.le_of_ble_eq_true rfl) rfl (Nat.le_of_ble_eq_true rfl) rfl rfl (zyC25 hp1) ?_
  show zyR _ _ _ _ [some (.ref (0 + 3)), some (.int x1)] [.int p1.1] _ _
  refine zy_24_0 rfl (fun b3 => (show zyR _ _ _ _ [some (.ref (0 + 3)), some (.int x1)] [] _ _ from ?_)) (fun b3 => (show zyR _ _ _ _ [some (.ref (0 + 3)), some (.int x1)] [] _ _ from ?_))
  · replace h := zy_ifp h b3
    refine zy_3 rfl rfl (show zyR _ _ _ _ [some (.ref (0 + 3)), some (.int x1)] [.int (-1 : Int32)] _ _ from ?_)
    obtain ⟨rfl, rfl⟩ := zy_pi h
    exact zy_4 rfl ⟨rfl, rfl⟩
  · replace h := zy_ifn h b3
    refine zy_0 rfl rfl (show zyR _ _ _ _ [some (.ref (0 + 3)), some (.int x1)] [.ref (0 + 3)] _ _ from ?_)
    refine zy_1r (c := 0) rfl rfl rfl (show zyR _ _ _ _ [some (.ref (0 + 3)), some (.int x1)] [.ref (16 + 3)] _ _ from ?_)
    refine zy_2 rfl rfl (show zyR _ _ _ _ [some (.ref (0 + 3)), some (.int x1)] [.int x1, .ref (16 + 3)] _ _ from ?_)
    obtain ⟨p2, hp2, h⟩ := zy_bind h
    refine zy_5 (c := 16) (as := [.int x1]) (rest := []) (L := [some (.ref (16 + 3)), some (.int x1), none, none]) (d' := 4) rfl rfl rfl (Nat.le_of_ble_eq_true rfl) (Nat.le_of_ble_eq_true rfl) rfl (Nat.le_of_ble_eq_true rfl) rfl rfl (zyC124 hp2) ?_
    show zyR _ _ _ _ [some (.ref (0 + 3)), some (.int x1)] [.int p2.1] _ _
    refine zy_6 rfl (show zyR _ _ _ _ [some (.ref (0 + 3)), some (.int x1)] [.int p2.1] _ _ from ?_)
    obtain ⟨rfl, rfl⟩ := zy_pi h
    exact zy_4 rfl ⟨rfl, rfl⟩
