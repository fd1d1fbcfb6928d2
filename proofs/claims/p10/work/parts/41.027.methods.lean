/-! PART 41.27: methods as functions. Made by wip/v4/dcp.py. -/
/-! NineOpinionsModel.workOut(II)I -/
noncomputable def zyF191_96  (k33 : Int32 → Int32 → Int32 → zy_S → Option (Int32 × zy_S)) (x3 : Int32) (x4 : Int32) (s : zy_S) : Option (Int32 × zy_S) :=
(zyF200 (59 : Int32) s).bind fun p1 =>
k33 x3 x4 p1.1 p1.2
theorem zyC191_96 {X : zx_X}  {k33 : Int32 → Int32 → Int32 → zy_S → Option (Int32 × zy_S)}  (hk33 : ∀ (x3 : Int32) (x4 : Int32) (x5 : Int32) (s : zy_S) (r : Int32) (s' : zy_S), k33 x3 x4 x5 s = some (r, s') → zyR X 103 191 33 [some (.ref (43 + 3)), none, none, some (.int x3), some (.int x4), some (.int x5), none, none] [] s (zyE (some (.int r)) s')) {x3 : Int32} {x4 : Int32} {s : zy_S} {r : Int32} {s' : zy_S}  (h : zyF191_96 k33 x3 x4 s = some (r, s')) : zyR X 103 191 96 [some (.ref (43 + 3)), none, none, some (.int x3), some (.int x4), none, none, none] [] s (zyE (some (.int r)) s') := by
  unfold zyF191_96 at h
  refine zy_0 rfl rfl (show zyR _ _ _ _ [some (.ref (43 + 3)), none, none, some (.int x3), some (.int x4), none, none, none] [.ref (43 + 3)] _ _ from ?_)
  refine zy_3 rfl rfl (show zyR _ _ _ _ [some (.ref (43 + 3)), none, none, some (.int x3), some (.int x4), none, none, none] [.int (59 : Int32), .ref (43 + 3)] _ _ from ?_)
  obtain ⟨p1, hp1, h⟩ := zy_bind h
  refine zy_5 (c := 43) (as := [.int (59 : Int32)]) (rest := []) (L := [some (.ref (43 + 3)), some (.int (59 : Int32))]) (d' := 2) rfl rfl rfl (Nat.le_of_ble_eq_true rfl) (Nat.le_of_ble_eq_true rfl) rfl (Nat.le_of_ble_eq_true rfl) rfl rfl (zyC200 hp1) ?_
  show zyR _ _ _ _ [some (.ref (43 + 3)), none, none, some (.int x3), some (.int x4), none, none, none] [.int p1.1] _ _
  refine zy_23 rfl rfl (show zyR _ _ _ _ [some (.ref (43 + 3)), none, none, some (.int x3), some (.int x4), some (.int p1.1), none, none] [] _ _ from ?_)
  refine zy_6 rfl (show zyR _ _ _ _ [some (.ref (43 + 3)), none, none, some (.int x3), some (.int x4), some (.int p1.1), none, none] [] _ _ from ?_)
  exact zy_sub (show zy_le [some (.ref (43 + 3)), none, none, some (.int x3), some (.int x4), some (.int p1.1), none, none] [some (.ref (43 + 3)), none, none, some (.int x3), some (.int x4), some (.int p1.1), none, none] from ⟨rfl, ⟨rfl, ⟨rfl, ⟨rfl, trivial⟩⟩⟩⟩) (hk33 x3 x4 p1.1 p1.2 _ _ h)
noncomputable def zyF191_74  (k33 : Int32 → Int32 → Int32 → zy_S → Option (Int32 × zy_S)) (x3 : Int32) (x4 : Int32) (x6 : Int32) (x7 : Int32) (s : zy_S) : Option (Int32 × zy_S) :=
if 0 ≤ (s.1 43 15) then
zyF191_96 k33 x3 x4 s
else
if x7 = 0 then
zyF191_96 k33 x3 x4 s
else
if x3 ≠ 0 then
zyF191_96 k33 x3 x4 s
else
zyF191_96 k33 (1 : Int32) x6 s
theorem zyC191_74 {X : zx_X}  {k33 : Int32 → Int32 → Int32 → zy_S → Option (Int32 × zy_S)}  (hk33 : ∀ (x3 : Int32) (x4 : Int32) (x5 : Int32) (s : zy_S) (r : Int32) (s' : zy_S), k33 x3 x4 x5 s = some (r, s') → zyR X 103 191 33 [some (.ref (43 + 3)), none, none, some (.int x3), some (.int x4), some (.int x5), none, none] [] s (zyE (some (.int r)) s')) {x3 : Int32} {x4 : Int32} {x6 : Int32} {x7 : Int32} {s : zy_S} {r : Int32} {s' : zy_S}  (h : zyF191_74 k33 x3 x4 x6 x7 s = some (r, s')) : zyR X 103 191 74 [some (.ref (43 + 3)), none, none, some (.int x3), some (.int x4), none, some (.int x6), some (.int x7)] [] s (zyE (some (.int r)) s') := by
  unfold zyF191_74 at h
  refine zy_0 rfl rfl (show zyR _ _ _ _ [some (.ref (43 + 3)), none, none, some (.int x3), some (.int x4), none, some (.int x6), some (.int x7)] [.ref (43 + 3)] _ _ from ?_)
  refine zy_1 (c := 43) rfl rfl rfl (show zyR _ _ _ _ [some (.ref (43 + 3)), none, none, some (.int x3), some (.int x4), none, some (.int x6), some (.int x7)] [.int (s.1 43 15)] _ _ from ?_)
  refine zy_24_3 rfl (fun b4 => (show zyR _ _ _ _ [some (.ref (43 + 3)), none, none, some (.int x3), some (.int x4), none, some (.int x6), some (.int x7)] [] _ _ from ?_)) (fun b4 => (show zyR _ _ _ _ [some (.ref (43 + 3)), none, none, some (.int x3), some (.int x4), none, some (.int x6), some (.int x7)] [] _ _ from ?_))
  · replace h := zy_ifp h b4
    exact zy_sub (show zy_le [some (.ref (43 + 3)), none, none, some (.int x3), some (.int x4), none, none, none] [some (.ref (43 + 3)), none, none, some (.int x3), some (.int x4), none, some (.int x6), some (.int x7)] from ⟨rfl, ⟨rfl, ⟨rfl, trivial⟩⟩⟩) (zyC191_96 hk33 h)
  · replace h := zy_ifn h b4
    refine zy_2 rfl rfl (show zyR _ _ _ _ [some (.ref (43 + 3)), none, none, some (.int x3), some (.int x4), none, some (.int x6), some (.int x7)] [.int x7] _ _ from ?_)
    refine zy_24_0 rfl (fun b3 => (show zyR _ _ _ _ [some (.ref (43 + 3)), none, none, some (.int x3), some (.int x4), none, some (.int x6), some (.int x7)] [] _ _ from ?_)) (fun b3 => (show zyR _ _ _ _ [some (.ref (43 + 3)), none, none, some (.int x3), some (.int x4), none, some (.int x6), some (.int x7)] [] _ _ from ?_))
    · replace h := zy_ifp h b3
      exact zy_sub (show zy_le [some (.ref (43 + 3)), none, none, some (.int x3), some (.int x4), none, none, none] [some (.ref (43 + 3)), none, none, some (.int x3), some (.int x4), none, some (.int x6), some (.int x7)] from ⟨rfl, ⟨rfl, ⟨rfl, trivial⟩⟩⟩) (zyC191_96 hk33 h)
    · replace h := zy_ifn h b3
      refine zy_2 rfl rfl (show zyR _ _ _ _ [some (.ref (43 + 3)), none, none, some (.int x3), some (.int x4), none, some (.int x6), some (.int x7)] [.int x3] _ _ from ?_)
      refine zy_24_1 rfl (fun b2 => (show zyR _ _ _ _ [some (.ref (43 + 3)), none, none, some (.int x3), some (.int x4), none, some (.int x6), some (.int x7)] [] _ _ from ?_)) (fun b2 => (show zyR _ _ _ _ [some (.ref (43 + 3)), none, none, some (.int x3), some (.int x4), none, some (.int x6), some (.int x7)] [] _ _ from ?_))
      · replace h := zy_ifp h b2
        exact zy_sub (show zy_le [some (.ref (43 + 3)), none, none, some (.int x3), some (.int x4), none, none, none] [some (.ref (43 + 3)), none, none, some (.int x3), some (.int x4), none, some (.int x6), some (.int x7)] from ⟨rfl, ⟨rfl, ⟨rfl, trivial⟩⟩⟩) (zyC191_96 hk33 h)
      · replace h := zy_ifn h b2
        refine zy_3 rfl rfl (show zyR _ _ _ _ [some (.ref (43 + 3)), none, none, some (.int x3), some (.int x4), none, some (.int x6), some (.int x7)] [.int (1 : Int32)] _ _ from ?_)
        refine zy_23 rfl rfl (show zyR _ _ _ _ [some (.ref (43 + 3)), none, none, some (.int (1 : Int32)), some (.int x4), none, some (.int x6), some (.int x7)] [] _ _ from ?_)
        refine zy_2 rfl rfl (show zyR _ _ _ _ [some (.ref (43 + 3)), none, none, some (.int (1 : Int32)), some (.int x4), none, some (.int x6), some (.int x7)] [.int x6] _ _ from ?_)
        refine zy_23 rfl rfl (show zyR _ _ _ _ [some (.ref (43 + 3)), none, none, some (.int (1 : Int32)), some (.int x6), none, some (.int x6), some (.int x7)] [] _ _ from ?_)
        exact zy_sub (show zy_le [some (.ref (43 + 3)), none, none, some (.int (1 : Int32)), some (.int x6), none, none, none] [some (.ref (43 + 3)), none, none, some (.int (1 : Int32)), some (.int x6), none, some (.int x6), some (.int x7)] from ⟨rfl, ⟨rfl, ⟨rfl, trivial⟩⟩⟩) (zyC191_96 hk33 h)
noncomputable def zyF191_66  (k33 : Int32 → Int32 → Int32 → zy_S → Option (Int32 × zy_S)) (x3 : Int32) (x4 : Int32) (y0 : Int32) (s : zy_S) : Option (Int32 × zy_S) :=
(zyF192 s).bind fun p5 =>
zyF191_74 k33 x3 x4 p5.1 y0 p5.2
theorem zyC191_66 {X : zx_X}  {k33 : Int32 → Int32 → Int32 → zy_S → Option (Int32 × zy_S)}  (hk33 : ∀ (x3 : Int32) (x4 : Int32) (x5 : Int32) (s : zy_S) (r : Int32) (s' : zy_S), k33 x3 x4 x5 s = some (r, s') → zyR X 103 191 33 [some (.ref (43 + 3)), none, none, some (.int x3), some (.int x4), some (.int x5), none, none] [] s (zyE (some (.int r)) s')) {x3 : Int32} {x4 : Int32} {y0 : Int32} {s : zy_S} {r : Int32} {s' : zy_S}  (h : zyF191_66 k33 x3 x4 y0 s = some (r, s')) : zyR X 103 191 66 [some (.ref (43 + 3)), none, none, some (.int x3), some (.int x4), none, none, none] [.int y0] s (zyE (some (.int r)) s') := by
  unfold zyF191_66 at h
  refine zy_23 rfl rfl (show zyR _ _ _ _ [some (.ref (43 + 3)), none, none, some (.int x3), some (.int x4), none, none, some (.int y0)] [] _ _ from ?_)
  refine zy_0 rfl rfl (show zyR _ _ _ _ [some (.ref (43 + 3)), none, none, some (.int x3), some (.int x4), none, none, some (.int y0)] [.ref (43 + 3)] _ _ from ?_)
  obtain ⟨p5, hp5, h⟩ := zy_bind h
  refine zy_5 (c := 43) (as := []) (rest := []) (L := [some (.ref (43 + 3)), none, none]) (d' := 102) rfl rfl rfl (Nat.le_of_ble_eq_true rfl) (Nat.le_of_ble_eq_true rfl) rfl (Nat.le_of_ble_eq_true rfl) rfl rfl (zyC192 hp5) ?_
  show zyR _ _ _ _ [some (.ref (43 + 3)), none, none, some (.int x3), some (.int x4), none, none, some (.int y0)] [.int p5.1] _ _
  refine zy_23 rfl rfl (show zyR _ _ _ _ [some (.ref (43 + 3)), none, none, some (.int x3), some (.int x4), none, some (.int p5.1), some (.int y0)] [] _ _ from ?_)
  exact zy_sub (show zy_le [some (.ref (43 + 3)), none, none, some (.int x3), some (.int x4), none, some (.int p5.1), some (.int y0)] [some (.ref (43 + 3)), none, none, some (.int x3), some (.int x4), none, some (.int p5.1), some (.int y0)] from ⟨rfl, ⟨rfl, ⟨rfl, ⟨rfl, ⟨rfl, trivial⟩⟩⟩⟩⟩) (zyC191_74 hk33 h)
noncomputable def zyF191_33b  (k33 : Int32 → Int32 → Int32 → zy_S → Option (Int32 × zy_S)) (x3 : Int32) (x4 : Int32) (x5 : Int32) (s : zy_S) : Option (Int32 × zy_S) :=
if x5 = 0 then
if 0 ≤ (s.1 43 15) then
some (x4, s)
else
if (s.1 43 14) ≤ (s.1 43 13) then
some (x4, s)
else
(zyF199 s).bind fun p6 =>
some (p6.1, p6.2)
else
(zyF192 s).bind fun p9 =>
(zyF200 (63 : Int32) p9.2).bind fun p10 =>
if p10.1 = 0 then
zyF191_74 k33 x3 x4 p9.1 (1 : Int32) p10.2
else
if p9.1 = 0 then
zyF191_66 k33 x3 x4 (0 : Int32) p10.2
else
zyF191_66 k33 x3 x4 (1 : Int32) p10.2
theorem zyC191_33b {X : zx_X}  {k33 : Int32 → Int32 → Int32 → zy_S → Option (Int32 × zy_S)}  (hk33 : ∀ (x3 : Int32) (x4 : Int32) (x5 : Int32) (s : zy_S) (r : Int32) (s' : zy_S), k33 x3 x4 x5 s = some (r, s') → zyR X 103 191 33 [some (.ref (43 + 3)), none, none, some (.int x3), some (.int x4), some (.int x5), none, none] [] s (zyE (some (.int r)) s')) {x3 : Int32} {x4 : Int32} {x5 : Int32} {s : zy_S} {r : Int32} {s' : zy_S}  (h : zyF191_33b k33 x3 x4 x5 s = some (r, s')) : zyR X 103 191 33 [some (.ref (43 + 3)), none, none, some (.int x3), some (.int x4), some (.int x5), none, none] [] s (zyE (some (.int r)) s') := by
  unfold zyF191_33b at h
  refine zy_2 rfl rfl (show zyR _ _ _ _ [some (.ref (43 + 3)), none, none, some (.int x3), some (.int x4), some (.int x5), none, none] [.int x5] _ _ from ?_)
  refine zy_24_0 rfl (fun b13 => (show zyR _ _ _ _ [some (.ref (43 + 3)), none, none, some (.int x3), some (.int x4), some (.int x5), none, none] [] _ _ from ?_)) (fun b13 => (show zyR _ _ _ _ [some (.ref (43 + 3)), none, none, some (.int x3), some (.int x4), some (.int x5), none, none] [] _ _ from ?_))
  · replace h := zy_ifp h b13
    refine zy_0 rfl rfl (show zyR _ _ _ _ [some (.ref (43 + 3)), none, none, some (.int x3), some (.int x4), some (.int x5), none, none] [.ref (43 + 3)] _ _ from ?_)
    refine zy_1 (c := 43) rfl rfl rfl (show zyR _ _ _ _ [some (.ref (43 + 3)), none, none, some (.int x3), some (.int x4), some (.int x5), none, none] [.int (s.1 43 15)] _ _ from ?_)
    refine zy_24_3 rfl (fun b8 => (show zyR _ _ _ _ [some (.ref (43 + 3)), none, none, some (.int x3), some (.int x4), some (.int x5), none, none] [] _ _ from ?_)) (fun b8 => (show zyR _ _ _ _ [some (.ref (43 + 3)), none, none, some (.int x3), some (.int x4), some (.int x5), none, none] [] _ _ from ?_))
    · replace h := zy_ifp h b8
      refine zy_2 rfl rfl (show zyR _ _ _ _ [some (.ref (43 + 3)), none, none, some (.int x3), some (.int x4), some (.int x5), none, none] [.int x4] _ _ from ?_)
      obtain ⟨rfl, rfl⟩ := zy_pi h
      exact zy_4 rfl ⟨rfl, rfl⟩
    · replace h := zy_ifn h b8
      refine zy_0 rfl rfl (show zyR _ _ _ _ [some (.ref (43 + 3)), none, none, some (.int x3), some (.int x4), some (.int x5), none, none] [.ref (43 + 3)] _ _ from ?_)
      refine zy_1 (c := 43) rfl rfl rfl (show zyR _ _ _ _ [some (.ref (43 + 3)), none, none, some (.int x3), some (.int x4), some (.int x5), none, none] [.int (s.1 43 13)] _ _ from ?_)
      refine zy_0 rfl rfl (show zyR _ _ _ _ [some (.ref (43 + 3)), none, none, some (.int x3), some (.int x4), some (.int x5), none, none] [.ref (43 + 3), .int (s.1 43 13)] _ _ from ?_)
      refine zy_1 (c := 43) rfl rfl rfl (show zyR _ _ _ _ [some (.ref (43 + 3)), none, none, some (.int x3), some (.int x4), some (.int x5), none, none] [.int (s.1 43 14), .int (s.1 43 13)] _ _ from ?_)
      refine zy_25_3 rfl (fun b7 => (show zyR _ _ _ _ [some (.ref (43 + 3)), none, none, some (.int x3), some (.int x4), some (.int x5), none, none] [] _ _ from ?_)) (fun b7 => (show zyR _ _ _ _ [some (.ref (43 + 3)), none, none, some (.int x3), some (.int x4), some (.int x5), none, none] [] _ _ from ?_))
      · replace h := zy_ifp h b7
        refine zy_2 rfl rfl (show zyR _ _ _ _ [some (.ref (43 + 3)), none, none, some (.int x3), some (.int x4), some (.int x5), none, none] [.int x4] _ _ from ?_)
        obtain ⟨rfl, rfl⟩ := zy_pi h
        exact zy_4 rfl ⟨rfl, rfl⟩
      · replace h := zy_ifn h b7
        refine zy_0 rfl rfl (show zyR _ _ _ _ [some (.ref (43 + 3)), none, none, some (.int x3), some (.int x4), some (.int x5), none, none] [.ref (43 + 3)] _ _ from ?_)
        obtain ⟨p6, hp6, h⟩ := zy_bind h
        refine zy_5 (c := 43) (as := []) (rest := []) (L := [some (.ref (43 + 3))]) (d' := 1) rfl rfl rfl (Nat.le_of_ble_eq_true rfl) (Nat.le_of_ble_eq_true rfl) rfl (Nat.le_of_ble_eq_true rfl) rfl rfl (zyC199 hp6) ?_
        show zyR _ _ _ _ [some (.ref (43 + 3)), none, none, some (.int x3), some (.int x4), some (.int x5), none, none] [.int p6.1] _ _
        obtain ⟨rfl, rfl⟩ := zy_pi h
        exact zy_4 rfl ⟨rfl, rfl⟩
  · replace h := zy_ifn h b13
    refine zy_0 rfl rfl (show zyR _ _ _ _ [some (.ref (43 + 3)), none, none, some (.int x3), some (.int x4), some (.int x5), none, none] [.ref (43 + 3)] _ _ from ?_)
    obtain ⟨p9, hp9, h⟩ := zy_bind h
    refine zy_5 (c := 43) (as := []) (rest := []) (L := [some (.ref (43 + 3)), none, none]) (d' := 102) rfl rfl rfl (Nat.le_of_ble_eq_true rfl) (Nat.le_of_ble_eq_true rfl) rfl (Nat.le_of_ble_eq_true rfl) rfl rfl (zyC192 hp9) ?_
    show zyR _ _ _ _ [some (.ref (43 + 3)), none, none, some (.int x3), some (.int x4), some (.int x5), none, none] [.int p9.1] _ _
    refine zy_23 rfl rfl (show zyR _ _ _ _ [some (.ref (43 + 3)), none, none, some (.int x3), some (.int x4), some (.int x5), some (.int p9.1), none] [] _ _ from ?_)
    refine zy_3 rfl rfl (show zyR _ _ _ _ [some (.ref (43 + 3)), none, none, some (.int x3), some (.int x4), some (.int x5), some (.int p9.1), none] [.int (1 : Int32)] _ _ from ?_)
    refine zy_23 rfl rfl (show zyR _ _ _ _ [some (.ref (43 + 3)), none, none, some (.int x3), some (.int x4), some (.int x5), some (.int p9.1), some (.int (1 : Int32))] [] _ _ from ?_)
    refine zy_0 rfl rfl (show zyR _ _ _ _ [some (.ref (43 + 3)), none, none, some (.int x3), some (.int x4), some (.int x5), some (.int p9.1), some (.int (1 : Int32))] [.ref (43 + 3)] _ _ from ?_)
    refine zy_3 rfl rfl (show zyR _ _ _ _ [some (.ref (43 + 3)), none, none, some (.int x3), some (.int x4), some (.int x5), some (.int p9.1), some (.int (1 : Int32))] [.int (63 : Int32), .ref (43 + 3)] _ _ from ?_)
    obtain ⟨p10, hp10, h⟩ := zy_bind h
    refine zy_5 (c := 43) (as := [.int (63 : Int32)]) (rest := []) (L := [some (.ref (43 + 3)), some (.int (63 : Int32))]) (d' := 2) rfl rfl rfl (Nat.le_of_ble_eq_true rfl) (Nat.le_of_ble_eq_true rfl) rfl (Nat.le_of_ble_eq_true rfl) rfl rfl (zyC200 hp10) ?_
    show zyR _ _ _ _ [some (.ref (43 + 3)), none, none, some (.int x3), some (.int x4), some (.int x5), some (.int p9.1), some (.int (1 : Int32))] [.int p10.1] _ _
    refine zy_24_0 rfl (fun b12 => (show zyR _ _ _ _ [some (.ref (43 + 3)), none, none, some (.int x3), some (.int x4), some (.int x5), some (.int p9.1), some (.int (1 : Int32))] [] _ _ from ?_)) (fun b12 => (show zyR _ _ _ _ [some (.ref (43 + 3)), none, none, some (.int x3), some (.int x4), some (.int x5), some (.int p9.1), some (.int (1 : Int32))] [] _ _ from ?_))
    · replace h := zy_ifp h b12
      exact zy_sub (show zy_le [some (.ref (43 + 3)), none, none, some (.int x3), some (.int x4), none, some (.int p9.1), some (.int (1 : Int32))] [some (.ref (43 + 3)), none, none, some (.int x3), some (.int x4), some (.int x5), some (.int p9.1), some (.int (1 : Int32))] from ⟨rfl, ⟨rfl, ⟨rfl, ⟨rfl, ⟨rfl, trivial⟩⟩⟩⟩⟩) (zyC191_74 hk33 h)
    · replace h := zy_ifn h b12
      refine zy_2 rfl rfl (show zyR _ _ _ _ [some (.ref (43 + 3)), none, none, some (.int x3), some (.int x4), some (.int x5), some (.int p9.1), some (.int (1 : Int32))] [.int p9.1] _ _ from ?_)
      refine zy_24_0 rfl (fun b11 => (show zyR _ _ _ _ [some (.ref (43 + 3)), none, none, some (.int x3), some (.int x4), some (.int x5), some (.int p9.1), some (.int (1 : Int32))] [] _ _ from ?_)) (fun b11 => (show zyR _ _ _ _ [some (.ref (43 + 3)), none, none, some (.int x3), some (.int x4), some (.int x5), some (.int p9.1), some (.int (1 : Int32))] [] _ _ from ?_))
      · replace h := zy_ifp h b11
        refine zy_3 rfl rfl (show zyR _ _ _ _ [some (.ref (43 + 3)), none, none, some (.int x3), some (.int x4), some (.int x5), some (.int p9.1), some (.int (1 : Int32))] [.int (0 : Int32)] _ _ from ?_)
        exact zy_sub (show zy_le [some (.ref (43 + 3)), none, none, some (.int x3), some (.int x4), none, none, none] [some (.ref (43 + 3)), none, none, some (.int x3), some (.int x4), some (.int x5), some (.int p9.1), some (.int (1 : Int32))] from ⟨rfl, ⟨rfl, ⟨rfl, trivial⟩⟩⟩) (zyC191_66 hk33 h)
      · replace h := zy_ifn h b11
        refine zy_3 rfl rfl (show zyR _ _ _ _ [some (.ref (43 + 3)), none, none, some (.int x3), some (.int x4), some (.int x5), some (.int p9.1), some (.int (1 : Int32))] [.int (1 : Int32)] _ _ from ?_)
        refine zy_6 rfl (show zyR _ _ _ _ [some (.ref (43 + 3)), none, none, some (.int x3), some (.int x4), some (.int x5), some (.int p9.1), some (.int (1 : Int32))] [.int (1 : Int32)] _ _ from ?_)
        exact zy_sub (show zy_le [some (.ref (43 + 3)), none, none, some (.int x3), some (.int x4), none, none, none] [some (.ref (43 + 3)), none, none, some (.int x3), some (.int x4), some (.int x5), some (.int p9.1), some (.int (1 : Int32))] from ⟨rfl, ⟨rfl, ⟨rfl, trivial⟩⟩⟩) (zyC191_66 hk33 h)
noncomputable def zyF191_33   (n : Nat) : Int32 → Int32 → Int32 → zy_S → Option (Int32 × zy_S) := Nat.rec (fun _ _ _ _ => none) (fun _ k33 => zyF191_33b k33) n
theorem zyC191_33 {X : zx_X}     : ∀ (n : Nat) (x3 : Int32) (x4 : Int32) (x5 : Int32) (s : zy_S) (r : Int32) (s' : zy_S), zyF191_33 n x3 x4 x5 s = some (r, s') → zyR X 103 191 33 [some (.ref (43 + 3)), none, none, some (.int x3), some (.int x4), some (.int x5), none, none] [] s (zyE (some (.int r)) s')
  | 0, _, _, _ => by
    intro s r s'  h
    have h : (none : Option (Int32 × zy_S)) = some (r, s') := h
    cases h
  | n + 1, x3, x4, x5 => by
    intro s r s'  h
    exact zyC191_33b (k33 := zyF191_33 n) (fun x3 x4 x5 s r s'  h => zyC191_33  n x3 x4 x5 s r s'  h) h
noncomputable def zyF191   (x1 : Int32) (x2 : Int32) (s : zy_S) : Option (Int32 × zy_S) :=
zyF191_33 zy_fu (0 : Int32) (0 : Int32) (1 : Int32) (zy_up (zy_up (zy_up (zy_up (zy_up s 43 12 x1) 43 13 (0 : Int32)) 43 14 x2) 43 15 (-1 : Int32)) 43 16 (0 : Int32))
theorem zyC191 {X : zx_X}     {x1 : Int32} {x2 : Int32} {s : zy_S} {r : Int32} {s' : zy_S}  (h : zyF191 x1 x2 s = some (r, s')) : zyR X 103 191 0 [some (.ref (43 + 3)), some (.int x1), some (.int x2), none, none, none, none, none] [] s (zyE (some (.int r)) s') := by
  unfold zyF191 at h
  refine zy_0 rfl rfl (show zyR _ _ _ _ [some (.ref (43 + 3)), some (.int x1), some (.int x2), none, none, none, none, none] [.ref (43 + 3)] _ _ from ?_)
  refine zy_2 rfl rfl (show zyR _ _ _ _ [some (.ref (43 + 3)), some (.int x1), some (.int x2), none, none, none, none, none] [.int x1, .ref (43 + 3)] _ _ from ?_)
  refine zy_52 (c := 43) rfl rfl rfl (show zyR _ _ _ _ [some (.ref (43 + 3)), some (.int x1), some (.int x2), none, none, none, none, none] [] _ _ from ?_)
  refine zy_0 rfl rfl (show zyR _ _ _ _ [some (.ref (43 + 3)), some (.int x1), some (.int x2), none, none, none, none, none] [.ref (43 + 3)] _ _ from ?_)
  refine zy_3 rfl rfl (show zyR _ _ _ _ [some (.ref (43 + 3)), some (.int x1), some (.int x2), none, none, none, none, none] [.int (0 : Int32), .ref (43 + 3)] _ _ from ?_)
  refine zy_52 (c := 43) rfl rfl rfl (show zyR _ _ _ _ [some (.ref (43 + 3)), some (.int x1), some (.int x2), none, none, none, none, none] [] _ _ from ?_)
  refine zy_0 rfl rfl (show zyR _ _ _ _ [some (.ref (43 + 3)), some (.int x1), some (.int x2), none, none, none, none, none] [.ref (43 + 3)] _ _ from ?_)
  refine zy_2 rfl rfl (show zyR _ _ _ _ [some (.ref (43 + 3)), some (.int x1), some (.int x2), none, none, none, none, none] [.int x2, .ref (43 + 3)] _ _ from ?_)
  refine zy_52 (c := 43) rfl rfl rfl (show zyR _ _ _ _ [some (.ref (43 + 3)), some (.int x1), some (.int x2), none, none, none, none, none] [] _ _ from ?_)
  refine zy_0 rfl rfl (show zyR _ _ _ _ [some (.ref (43 + 3)), some (.int x1), some (.int x2), none, none, none, none, none] [.ref (43 + 3)] _ _ from ?_)
  refine zy_3 rfl rfl (show zyR _ _ _ _ [some (.ref (43 + 3)), some (.int x1), some (.int x2), none, none, none, none, none] [.int (-1 : Int32), .ref (43 + 3)] _ _ from ?_)
  refine zy_52 (c := 43) rfl rfl rfl (show zyR _ _ _ _ [some (.ref (43 + 3)), some (.int x1), some (.int x2), none, none, none, none, none] [] _ _ from ?_)
  refine zy_0 rfl rfl (show zyR _ _ _ _ [some (.ref (43 + 3)), some (.int x1), some (.int x2), none, none, none, none, none] [.ref (43 + 3)] _ _ from ?_)
  refine zy_3 rfl rfl (show zyR _ _ _ _ [some (.ref (43 + 3)), some (.int x1), some (.int x2), none, none, none, none, none] [.int (0 : Int32), .ref (43 + 3)] _ _ from ?_)
  refine zy_52 (c := 43) rfl rfl rfl (show zyR _ _ _ _ [some (.ref (43 + 3)), some (.int x1), some (.int x2), none, none, none, none, none] [] _ _ from ?_)
  refine zy_3 rfl rfl (show zyR _ _ _ _ [some (.ref (43 + 3)), some (.int x1), some (.int x2), none, none, none, none, none] [.int (0 : Int32)] _ _ from ?_)
  refine zy_23 rfl rfl (show zyR _ _ _ _ [some (.ref (43 + 3)), some (.int x1), some (.int x2), some (.int (0 : Int32)), none, none, none, none] [] _ _ from ?_)
  refine zy_3 rfl rfl (show zyR _ _ _ _ [some (.ref (43 + 3)), some (.int x1), some (.int x2), some (.int (0 : Int32)), none, none, none, none] [.int (0 : Int32)] _ _ from ?_)
  refine zy_23 rfl rfl (show zyR _ _ _ _ [some (.ref (43 + 3)), some (.int x1), some (.int x2), some (.int (0 : Int32)), some (.int (0 : Int32)), none, none, none] [] _ _ from ?_)
  refine zy_3 rfl rfl (show zyR _ _ _ _ [some (.ref (43 + 3)), some (.int x1), some (.int x2), some (.int (0 : Int32)), some (.int (0 : Int32)), none, none, none] [.int (1 : Int32)] _ _ from ?_)
  refine zy_23 rfl rfl (show zyR _ _ _ _ [some (.ref (43 + 3)), some (.int x1), some (.int x2), some (.int (0 : Int32)), some (.int (0 : Int32)), some (.int (1 : Int32)), none, none] [] _ _ from ?_)
  exact zy_sub (show zy_le [some (.ref (43 + 3)), none, none, some (.int (0 : Int32)), some (.int (0 : Int32)), some (.int (1 : Int32)), none, none] [some (.ref (43 + 3)), some (.int x1), some (.int x2), some (.int (0 : Int32)), some (.int (0 : Int32)), some (.int (1 : Int32)), none, none] from ⟨rfl, ⟨rfl, ⟨rfl, ⟨rfl, trivial⟩⟩⟩⟩) (zyC191_33 zy_fu (0 : Int32) (0 : Int32) (1 : Int32) (zy_up (zy_up (zy_up (zy_up (zy_up s 43 12 x1) 43 13 (0 : Int32)) 43 14 x2) 43 15 (-1 : Int32)) 43 16 (0 : Int32)) _ _ h)
/-! NineOpinionsModel.law()I -/
noncomputable def zyF190_37b  (k37 : Int32 → Int32 → zy_S → Option (Int32 × zy_S)) (x2 : Int32) (x3 : Int32) (s : zy_S) : Option (Int32 × zy_S) :=
if x2 ≤ x3 then
some ((1 : Int32), (zy_up s 43 11 x2))
else
if zy_in x3 120 then
if zy_in x3 120 then
k37 x2 (x3 + (1 : Int32)) (zy_up s 49 (x3).toNatClampNeg (s.1 48 (x3).toNatClampNeg))
else none
else none
theorem zyC190_37b {X : zx_X}  {k37 : Int32 → Int32 → zy_S → Option (Int32 × zy_S)}  (hk37 : ∀ (x2 : Int32) (x3 : Int32) (s : zy_S) (r : Int32) (s' : zy_S), k37 x2 x3 s = some (r, s') → zyR X 104 190 37 [some (.ref (43 + 3)), none, some (.int x2), some (.int x3)] [] s (zyE (some (.int r)) s')) {x2 : Int32} {x3 : Int32} {s : zy_S} {r : Int32} {s' : zy_S}  (h : zyF190_37b k37 x2 x3 s = some (r, s')) : zyR X 104 190 37 [some (.ref (43 + 3)), none, some (.int x2), some (.int x3)] [] s (zyE (some (.int r)) s') := by
  unfold zyF190_37b at h
  refine zy_2 rfl rfl (show zyR _ _ _ _ [some (.ref (43 + 3)), none, some (.int x2), some (.int x3)] [.int x3] _ _ from ?_)
  refine zy_2 rfl rfl (show zyR _ _ _ _ [some (.ref (43 + 3)), none, some (.int x2), some (.int x3)] [.int x2, .int x3] _ _ from ?_)
  refine zy_25_3 rfl (fun b3 => (show zyR _ _ _ _ [some (.ref (43 + 3)), none, some (.int x2), some (.int x3)] [] _ _ from ?_)) (fun b3 => (show zyR _ _ _ _ [some (.ref (43 + 3)), none, some (.int x2), some (.int x3)] [] _ _ from ?_))
  · replace h := zy_ifp h b3
    refine zy_0 rfl rfl (show zyR _ _ _ _ [some (.ref (43 + 3)), none, some (.int x2), some (.int x3)] [.ref (43 + 3)] _ _ from ?_)
    refine zy_2 rfl rfl (show zyR _ _ _ _ [some (.ref (43 + 3)), none, some (.int x2), some (.int x3)] [.int x2, .ref (43 + 3)] _ _ from ?_)
    refine zy_52 (c := 43) rfl rfl rfl (show zyR _ _ _ _ [some (.ref (43 + 3)), none, some (.int x2), some (.int x3)] [] _ _ from ?_)
    refine zy_3 rfl rfl (show zyR _ _ _ _ [some (.ref (43 + 3)), none, some (.int x2), some (.int x3)] [.int (1 : Int32)] _ _ from ?_)
    obtain ⟨rfl, rfl⟩ := zy_pi h
    exact zy_4 rfl ⟨rfl, rfl⟩
  · replace h := zy_ifn h b3
    refine zy_0 rfl rfl (show zyR _ _ _ _ [some (.ref (43 + 3)), none, some (.int x2), some (.int x3)] [.ref (43 + 3)] _ _ from ?_)
    refine zy_1r (c := 43) rfl rfl rfl (show zyR _ _ _ _ [some (.ref (43 + 3)), none, some (.int x2), some (.int x3)] [.ref (49 + 3)] _ _ from ?_)
    refine zy_2 rfl rfl (show zyR _ _ _ _ [some (.ref (43 + 3)), none, some (.int x2), some (.int x3)] [.int x3, .ref (49 + 3)] _ _ from ?_)
    refine zy_0 rfl rfl (show zyR _ _ _ _ [some (.ref (43 + 3)), none, some (.int x2), some (.int x3)] [.ref (43 + 3), .int x3, .ref (49 + 3)] _ _ from ?_)
    refine zy_1r (c := 43) rfl rfl rfl (show zyR _ _ _ _ [some (.ref (43 + 3)), none, some (.int x2), some (.int x3)] [.ref (48 + 3), .int x3, .ref (49 + 3)] _ _ from ?_)
    refine zy_2 rfl rfl (show zyR _ _ _ _ [some (.ref (43 + 3)), none, some (.int x2), some (.int x3)] [.int x3, .ref (48 + 3), .int x3, .ref (49 + 3)] _ _ from ?_)
    obtain ⟨c1, h⟩ := zy_if h
    refine zy_26 (c := 48) rfl rfl c1 (show zyR _ _ _ _ [some (.ref (43 + 3)), none, some (.int x2), some (.int x3)] [.int (s.1 48 (x3).toNatClampNeg), .int x3, .ref (49 + 3)] _ _ from ?_)
    obtain ⟨c2, h⟩ := zy_if h
    refine zy_27 (c := 49) rfl rfl c2 (show zyR _ _ _ _ [some (.ref (43 + 3)), none, some (.int x2), some (.int x3)] [] _ _ from ?_)
    refine zy_22 rfl rfl rfl rfl (show zyR _ _ _ _ [some (.ref (43 + 3)), none, some (.int x2), some (.int (x3 + (1 : Int32)))] [] _ _ from ?_)
    refine zy_6 rfl (show zyR _ _ _ _ [some (.ref (43 + 3)), none, some (.int x2), some (.int (x3 + (1 : Int32)))] [] _ _ from ?_)
    exact zy_sub (show zy_le [some (.ref (43 + 3)), none, some (.int x2), some (.int (x3 + (1 : Int32)))] [some (.ref (43 + 3)), none, some (.int x2), some (.int (x3 + (1 : Int32)))] from ⟨rfl, ⟨rfl, ⟨rfl, trivial⟩⟩⟩) (hk37 x2 (x3 + (1 : Int32)) (zy_up s 49 (x3).toNatClampNeg (s.1 48 (x3).toNatClampNeg)) _ _ h)
noncomputable def zyF190_37   (n : Nat) : Int32 → Int32 → zy_S → Option (Int32 × zy_S) := Nat.rec (fun _ _ _ => none) (fun _ k37 => zyF190_37b k37) n
theorem zyC190_37 {X : zx_X}     : ∀ (n : Nat) (x2 : Int32) (x3 : Int32) (s : zy_S) (r : Int32) (s' : zy_S), zyF190_37 n x2 x3 s = some (r, s') → zyR X 104 190 37 [some (.ref (43 + 3)), none, some (.int x2), some (.int x3)] [] s (zyE (some (.int r)) s')
  | 0, _, _ => by
    intro s r s'  h
    have h : (none : Option (Int32 × zy_S)) = some (r, s') := h
    cases h
  | n + 1, x2, x3 => by
    intro s r s'  h
    exact zyC190_37b (k37 := zyF190_37 n) (fun x2 x3 s r s'  h => zyC190_37  n x2 x3 s r s'  h) h
noncomputable def zyF190    (s : zy_S) : Option (Int32 × zy_S) :=
(zyF191 (-1 : Int32) (s.1 43 9) s).bind fun p4 =>
if (p4.2.1 43 15) < 0 then
zyF190_37 zy_fu (p4.2.1 43 9) (0 : Int32) (zy_up p4.2 43 9 (0 : Int32))
else
some (((-100 : Int32) - (p4.2.1 43 15)), (zy_up p4.2 43 9 (0 : Int32)))
theorem zyC190 {X : zx_X}      {s : zy_S} {r : Int32} {s' : zy_S}  (h : zyF190 s = some (r, s')) : zyR X 104 190 0 [some (.ref (43 + 3)), none, none, none] [] s (zyE (some (.int r)) s') := by
  unfold zyF190 at h
  refine zy_0 rfl rfl (show zyR _ _ _ _ [some (.ref (43 + 3)), none, none, none] [.ref (43 + 3)] _ _ from ?_)
  refine zy_3 rfl rfl (show zyR _ _ _ _ [some (.ref (43 + 3)), none, none, none] [.int (-1 : Int32), .ref (43 + 3)] _ _ from ?_)
  refine zy_0 rfl rfl (show zyR _ _ _ _ [some (.ref (43 + 3)), none, none, none] [.ref (43 + 3), .int (-1 : Int32), .ref (43 + 3)] _ _ from ?_)
  refine zy_1 (c := 43) rfl rfl rfl (show zyR _ _ _ _ [some (.ref (43 + 3)), none, none, none] [.int (s.1 43 9), .int (-1 : Int32), .ref (43 + 3)] _ _ from ?_)
  obtain ⟨p4, hp4, h⟩ := zy_bind h
  refine zy_5 (c := 43) (as := [.int (-1 : Int32), .int (s.1 43 9)]) (rest := []) (L := [some (.ref (43 + 3)), some (.int (-1 : Int32)), some (.int (s.1 43 9)), none, none, none, none, none]) (d' := 103) rfl rfl rfl (Nat.le_of_ble_eq_true rfl) (Nat.le_of_ble_eq_true rfl) rfl (Nat.le_of_ble_eq_true rfl) rfl rfl (zyC191 hp4) ?_
  show zyR _ _ _ _ [some (.ref (43 + 3)), none, none, none] [.int p4.1] _ _
  refine zy_23 rfl rfl (show zyR _ _ _ _ [some (.ref (43 + 3)), some (.int p4.1), none, none] [] _ _ from ?_)
  refine zy_0 rfl rfl (show zyR _ _ _ _ [some (.ref (43 + 3)), some (.int p4.1), none, none] [.ref (43 + 3)] _ _ from ?_)
  refine zy_1 (c := 43) rfl rfl rfl (show zyR _ _ _ _ [some (.ref (43 + 3)), some (.int p4.1), none, none] [.int (p4.2.1 43 9)] _ _ from ?_)
  refine zy_23 rfl rfl (show zyR _ _ _ _ [some (.ref (43 + 3)), some (.int p4.1), some (.int (p4.2.1 43 9)), none] [] _ _ from ?_)
  refine zy_0 rfl rfl (show zyR _ _ _ _ [some (.ref (43 + 3)), some (.int p4.1), some (.int (p4.2.1 43 9)), none] [.ref (43 + 3)] _ _ from ?_)
  refine zy_3 rfl rfl (show zyR _ _ _ _ [some (.ref (43 + 3)), some (.int p4.1), some (.int (p4.2.1 43 9)), none] [.int (0 : Int32), .ref (43 + 3)] _ _ from ?_)
  refine zy_52 (c := 43) rfl rfl rfl (show zyR _ _ _ _ [some (.ref (43 + 3)), some (.int p4.1), some (.int (p4.2.1 43 9)), none] [] _ _ from ?_)
  refine zy_0 rfl rfl (show zyR _ _ _ _ [some (.ref (43 + 3)), some (.int p4.1), some (.int (p4.2.1 43 9)), none] [.ref (43 + 3)] _ _ from ?_)
  refine zy_1 (c := 43) rfl rfl rfl (show zyR _ _ _ _ [some (.ref (43 + 3)), some (.int p4.1), some (.int (p4.2.1 43 9)), none] [.int (p4.2.1 43 15)] _ _ from ?_)
  refine zy_24_2 rfl (fun b5 => (show zyR _ _ _ _ [some (.ref (43 + 3)), some (.int p4.1), some (.int (p4.2.1 43 9)), none] [] _ _ from ?_)) (fun b5 => (show zyR _ _ _ _ [some (.ref (43 + 3)), some (.int p4.1), some (.int (p4.2.1 43 9)), none] [] _ _ from ?_))
  · replace h := zy_ifp h b5
    refine zy_3 rfl rfl (show zyR _ _ _ _ [some (.ref (43 + 3)), some (.int p4.1), some (.int (p4.2.1 43 9)), none] [.int (0 : Int32)] _ _ from ?_)
    refine zy_23 rfl rfl (show zyR _ _ _ _ [some (.ref (43 + 3)), some (.int p4.1), some (.int (p4.2.1 43 9)), some (.int (0 : Int32))] [] _ _ from ?_)
    exact zy_sub (show zy_le [some (.ref (43 + 3)), none, some (.int (p4.2.1 43 9)), some (.int (0 : Int32))] [some (.ref (43 + 3)), some (.int p4.1), some (.int (p4.2.1 43 9)), some (.int (0 : Int32))] from ⟨rfl, ⟨rfl, ⟨rfl, trivial⟩⟩⟩) (zyC190_37 zy_fu (p4.2.1 43 9) (0 : Int32) (zy_up p4.2 43 9 (0 : Int32)) _ _ h)
  · replace h := zy_ifn h b5
    refine zy_3 rfl rfl (show zyR _ _ _ _ [some (.ref (43 + 3)), some (.int p4.1), some (.int (p4.2.1 43 9)), none] [.int (-100 : Int32)] _ _ from ?_)
    refine zy_0 rfl rfl (show zyR _ _ _ _ [some (.ref (43 + 3)), some (.int p4.1), some (.int (p4.2.1 43 9)), none] [.ref (43 + 3), .int (-100 : Int32)] _ _ from ?_)
    refine zy_1 (c := 43) rfl rfl rfl (show zyR _ _ _ _ [some (.ref (43 + 3)), some (.int p4.1), some (.int (p4.2.1 43 9)), none] [.int (p4.2.1 43 15), .int (-100 : Int32)] _ _ from ?_)
    refine zy_11 rfl (show zyR _ _ _ _ [some (.ref (43 + 3)), some (.int p4.1), some (.int (p4.2.1 43 9)), none] [.int ((-100 : Int32) - (p4.2.1 43 15))] _ _ from ?_)
    obtain ⟨rfl, rfl⟩ := zy_pi h
    exact zy_4 rfl ⟨rfl, rfl⟩
/-! NineOpinions$Bodies.note(I)V -/
noncomputable def zyF156_19    (s : zy_S) : Option (Int32 × zy_S) :=
some ((0 : Int32), (zy_up s 27 3 ((s.1 27 3) + (1 : Int32))))
theorem zyC156_19 {X : zx_X}      {s : zy_S} {r : Int32} {s' : zy_S}  (h : zyF156_19 s = some (r, s')) : zyR X 1 156 19 [some (.ref (27 + 3)), none] [] s (zyE none s') := by
  unfold zyF156_19 at h
  refine zy_0 rfl rfl (show zyR _ _ _ _ [some (.ref (27 + 3)), none] [.ref (27 + 3)] _ _ from ?_)
  refine zy_33 rfl rfl (show zyR _ _ _ _ [some (.ref (27 + 3)), none] [.ref (27 + 3), .ref (27 + 3)] _ _ from ?_)
  refine zy_1 (c := 27) rfl rfl rfl (show zyR _ _ _ _ [some (.ref (27 + 3)), none] [.int (s.1 27 3), .ref (27 + 3)] _ _ from ?_)
  refine zy_3 rfl rfl (show zyR _ _ _ _ [some (.ref (27 + 3)), none] [.int (1 : Int32), .int (s.1 27 3), .ref (27 + 3)] _ _ from ?_)
  refine zy_10 rfl (show zyR _ _ _ _ [some (.ref (27 + 3)), none] [.int ((s.1 27 3) + (1 : Int32)), .ref (27 + 3)] _ _ from ?_)
  refine zy_52 (c := 27) rfl rfl rfl (show zyR _ _ _ _ [some (.ref (27 + 3)), none] [] _ _ from ?_)
  cases h
  exact zy_66 rfl ⟨rfl, rfl⟩
noncomputable def zyF156   (x1 : Int32) (s : zy_S) : Option (Int32 × zy_S) :=
if (24 : Int32) ≤ (s.1 27 3) then
zyF156_19 s
else
if zy_in (s.1 27 3) 24 then
zyF156_19 (zy_up s 29 ((s.1 27 3)).toNatClampNeg x1)
else none
theorem zyC156 {X : zx_X}     {x1 : Int32} {s : zy_S} {r : Int32} {s' : zy_S}  (h : zyF156 x1 s = some (r, s')) : zyR X 1 156 0 [some (.ref (27 + 3)), some (.int x1)] [] s (zyE none s') := by
  unfold zyF156 at h
  refine zy_0 rfl rfl (show zyR _ _ _ _ [some (.ref (27 + 3)), some (.int x1)] [.ref (27 + 3)] _ _ from ?_)
  refine zy_1 (c := 27) rfl rfl rfl (show zyR _ _ _ _ [some (.ref (27 + 3)), some (.int x1)] [.int (s.1 27 3)] _ _ from ?_)
  refine zy_3 rfl rfl (show zyR _ _ _ _ [some (.ref (27 + 3)), some (.int x1)] [.int (24 : Int32), .int (s.1 27 3)] _ _ from ?_)
  refine zy_25_3 rfl (fun b2 => (show zyR _ _ _ _ [some (.ref (27 + 3)), some (.int x1)] [] _ _ from ?_)) (fun b2 => (show zyR _ _ _ _ [some (.ref (27 + 3)), some (.int x1)] [] _ _ from ?_))
  · replace h := zy_ifp h b2
    exact zy_sub (show zy_le [some (.ref (27 + 3)), none] [some (.ref (27 + 3)), some (.int x1)] from ⟨rfl, trivial⟩) (zyC156_19 h)
  · replace h := zy_ifn h b2
    refine zy_0 rfl rfl (show zyR _ _ _ _ [some (.ref (27 + 3)), some (.int x1)] [.ref (27 + 3)] _ _ from ?_)
    refine zy_1r (c := 27) rfl rfl rfl (show zyR _ _ _ _ [some (.ref (27 + 3)), some (.int x1)] [.ref (29 + 3)] _ _ from ?_)
    refine zy_0 rfl rfl (show zyR _ _ _ _ [some (.ref (27 + 3)), some (.int x1)] [.ref (27 + 3), .ref (29 + 3)] _ _ from ?_)
    refine zy_1 (c := 27) rfl rfl rfl (show zyR _ _ _ _ [some (.ref (27 + 3)), some (.int x1)] [.int (s.1 27 3), .ref (29 + 3)] _ _ from ?_)
    refine zy_2 rfl rfl (show zyR _ _ _ _ [some (.ref (27 + 3)), some (.int x1)] [.int x1, .int (s.1 27 3), .ref (29 + 3)] _ _ from ?_)
    obtain ⟨c1, h⟩ := zy_if h
    refine zy_27 (c := 29) rfl rfl c1 (show zyR _ _ _ _ [some (.ref (27 + 3)), some (.int x1)] [] _ _ from ?_)
    exact zy_sub (show zy_le [some (.ref (27 + 3)), none] [some (.ref (27 + 3)), some (.int x1)] from ⟨rfl, trivial⟩) (zyC156_19 h)
