/-! PART 41.33: methods as functions. Made by wip/v4/dcp.py. -/
/-! NineOpinions$Law.worth()I -/
noncomputable def zyF65_145  (k23 : Int32 → Int32 → zy_S → Option (Int32 × zy_S)) (x1 : Int32) (x2 : Int32) (s : zy_S) : Option (Int32 × zy_S) :=
k23 x1 (x2 + (1 : Int32)) s
theorem zyC65_145 {X : zx_X}  {k23 : Int32 → Int32 → zy_S → Option (Int32 × zy_S)}  (hk23 : ∀ (x1 : Int32) (x2 : Int32) (s : zy_S) (r : Int32) (s' : zy_S), k23 x1 x2 s = some (r, s') → zyR X 3 65 23 [some (.ref (5 + 3)), some (.int x1), some (.int x2), none] [] s (zyE (some (.int r)) s')) {x1 : Int32} {x2 : Int32} {s : zy_S} {r : Int32} {s' : zy_S}  (h : zyF65_145 k23 x1 x2 s = some (r, s')) : zyR X 3 65 145 [some (.ref (5 + 3)), some (.int x1), some (.int x2), none] [] s (zyE (some (.int r)) s') := by
  unfold zyF65_145 at h
  refine zy_22 rfl rfl rfl rfl (show zyR _ _ _ _ [some (.ref (5 + 3)), some (.int x1), some (.int (x2 + (1 : Int32))), none] [] _ _ from ?_)
  refine zy_6 rfl (show zyR _ _ _ _ [some (.ref (5 + 3)), some (.int x1), some (.int (x2 + (1 : Int32))), none] [] _ _ from ?_)
  exact zy_sub (show zy_le [some (.ref (5 + 3)), some (.int x1), some (.int (x2 + (1 : Int32))), none] [some (.ref (5 + 3)), some (.int x1), some (.int (x2 + (1 : Int32))), none] from ⟨rfl, ⟨rfl, ⟨rfl, trivial⟩⟩⟩) (hk23 x1 (x2 + (1 : Int32)) s _ _ h)
noncomputable def zyF65_127  (k23 : Int32 → Int32 → zy_S → Option (Int32 × zy_S)) (x2 : Int32) (y0 : Int32) (s : zy_S) : Option (Int32 × zy_S) :=
zyF65_145 k23 y0 x2 s
theorem zyC65_127 {X : zx_X}  {k23 : Int32 → Int32 → zy_S → Option (Int32 × zy_S)}  (hk23 : ∀ (x1 : Int32) (x2 : Int32) (s : zy_S) (r : Int32) (s' : zy_S), k23 x1 x2 s = some (r, s') → zyR X 3 65 23 [some (.ref (5 + 3)), some (.int x1), some (.int x2), none] [] s (zyE (some (.int r)) s')) {x2 : Int32} {y0 : Int32} {s : zy_S} {r : Int32} {s' : zy_S}  (h : zyF65_127 k23 x2 y0 s = some (r, s')) : zyR X 3 65 127 [some (.ref (5 + 3)), none, some (.int x2), none] [.int y0] s (zyE (some (.int r)) s') := by
  unfold zyF65_127 at h
  refine zy_23 rfl rfl (show zyR _ _ _ _ [some (.ref (5 + 3)), some (.int y0), some (.int x2), none] [] _ _ from ?_)
  refine zy_6 rfl (show zyR _ _ _ _ [some (.ref (5 + 3)), some (.int y0), some (.int x2), none] [] _ _ from ?_)
  exact zy_sub (show zy_le [some (.ref (5 + 3)), some (.int y0), some (.int x2), none] [some (.ref (5 + 3)), some (.int y0), some (.int x2), none] from ⟨rfl, ⟨rfl, ⟨rfl, trivial⟩⟩⟩) (zyC65_145 hk23 h)
noncomputable def zyF65_83  (k23 : Int32 → Int32 → zy_S → Option (Int32 × zy_S)) (x1 : Int32) (x2 : Int32) (y0 : Int32) (s : zy_S) : Option (Int32 × zy_S) :=
(zyF66 y0 s).bind fun p1 =>
zyF65_145 k23 x1 x2 p1.2
theorem zyC65_83 {X : zx_X}  {k23 : Int32 → Int32 → zy_S → Option (Int32 × zy_S)}  (hk23 : ∀ (x1 : Int32) (x2 : Int32) (s : zy_S) (r : Int32) (s' : zy_S), k23 x1 x2 s = some (r, s') → zyR X 3 65 23 [some (.ref (5 + 3)), some (.int x1), some (.int x2), none] [] s (zyE (some (.int r)) s')) {x1 : Int32} {x2 : Int32} {y0 : Int32} {s : zy_S} {r : Int32} {s' : zy_S}  (h : zyF65_83 k23 x1 x2 y0 s = some (r, s')) : zyR X 3 65 83 [some (.ref (5 + 3)), some (.int x1), some (.int x2), none] [.int y0, .ref (5 + 3)] s (zyE (some (.int r)) s') := by
  unfold zyF65_83 at h
  obtain ⟨p1, hp1, h⟩ := zy_bind h
  refine zy_5 (c := 5) (as := [.int y0]) (rest := []) (L := [some (.ref (5 + 3)), some (.int y0)]) (d' := 1) rfl rfl rfl (Nat.le_of_ble_eq_true rfl) (Nat.le_of_ble_eq_true rfl) rfl (Nat.le_of_ble_eq_true rfl) rfl rfl (zyC66 hp1) ?_
  show zyR _ _ _ _ [some (.ref (5 + 3)), some (.int x1), some (.int x2), none] [] _ _
  refine zy_6 rfl (show zyR _ _ _ _ [some (.ref (5 + 3)), some (.int x1), some (.int x2), none] [] _ _ from ?_)
  exact zy_sub (show zy_le [some (.ref (5 + 3)), some (.int x1), some (.int x2), none] [some (.ref (5 + 3)), some (.int x1), some (.int x2), none] from ⟨rfl, ⟨rfl, ⟨rfl, trivial⟩⟩⟩) (zyC65_145 hk23 h)
noncomputable def zyF65_53  (k23 : Int32 → Int32 → zy_S → Option (Int32 × zy_S)) (x2 : Int32) (y0 : Int32) (s : zy_S) : Option (Int32 × zy_S) :=
zyF65_145 k23 y0 x2 s
theorem zyC65_53 {X : zx_X}  {k23 : Int32 → Int32 → zy_S → Option (Int32 × zy_S)}  (hk23 : ∀ (x1 : Int32) (x2 : Int32) (s : zy_S) (r : Int32) (s' : zy_S), k23 x1 x2 s = some (r, s') → zyR X 3 65 23 [some (.ref (5 + 3)), some (.int x1), some (.int x2), none] [] s (zyE (some (.int r)) s')) {x2 : Int32} {y0 : Int32} {s : zy_S} {r : Int32} {s' : zy_S}  (h : zyF65_53 k23 x2 y0 s = some (r, s')) : zyR X 3 65 53 [some (.ref (5 + 3)), none, some (.int x2), none] [.int y0] s (zyE (some (.int r)) s') := by
  unfold zyF65_53 at h
  refine zy_23 rfl rfl (show zyR _ _ _ _ [some (.ref (5 + 3)), some (.int y0), some (.int x2), none] [] _ _ from ?_)
  refine zy_6 rfl (show zyR _ _ _ _ [some (.ref (5 + 3)), some (.int y0), some (.int x2), none] [] _ _ from ?_)
  exact zy_sub (show zy_le [some (.ref (5 + 3)), some (.int y0), some (.int x2), none] [some (.ref (5 + 3)), some (.int y0), some (.int x2), none] from ⟨rfl, ⟨rfl, ⟨rfl, trivial⟩⟩⟩) (zyC65_145 hk23 h)
noncomputable def zyF65_23b  (k23 : Int32 → Int32 → zy_S → Option (Int32 × zy_S)) (x1 : Int32) (x2 : Int32) (s : zy_S) : Option (Int32 × zy_S) :=
if (s.1 5 3) ≤ x2 then
some ((0 : Int32), s)
else
if zy_in x2 128 then
if x1 = 0 then
if (s.1 6 (x2).toNatClampNeg) < 0 then
if (s.1 6 (x2).toNatClampNeg) ≠ (-59 : Int32) then
if (s.1 6 (x2).toNatClampNeg) ≠ (-63 : Int32) then
(zyF67 s).bind fun p3 =>
(zyF70 (-(s.1 6 (x2).toNatClampNeg)) p3.1 p3.2).bind fun p4 =>
(zyF66 p4.1 p4.2).bind fun p5 =>
zyF65_145 k23 x1 x2 p5.2
else
(zyF67 s).bind fun p6 =>
if p6.1 ≠ 0 then
zyF65_127 k23 x2 (0 : Int32) p6.2
else
zyF65_127 k23 x2 (1 : Int32) p6.2
else
(zyF67 s).bind fun p9 =>
(zyF68 (99 : Int32) p9.1 p9.2).bind fun p10 =>
(zyF69 (0 : Int32) p10.1 p10.2).bind fun p11 =>
some (p11.1, p11.2)
else
if (10000 : Int32) ≤ (s.1 6 (x2).toNatClampNeg) then
if zy_in ((s.1 6 (x2).toNatClampNeg) - (10000 : Int32)) 6 then
zyF65_83 k23 x1 x2 (s.1 8 (((s.1 6 (x2).toNatClampNeg) - (10000 : Int32))).toNatClampNeg) s
else none
else
zyF65_83 k23 x1 x2 (s.1 6 (x2).toNatClampNeg) s
else
if (s.1 6 (x2).toNatClampNeg) = (-59 : Int32) then
zyF65_53 k23 x2 (0 : Int32) s
else
zyF65_53 k23 x2 (1 : Int32) s
else none
theorem zyC65_23b {X : zx_X}  {k23 : Int32 → Int32 → zy_S → Option (Int32 × zy_S)}  (hk23 : ∀ (x1 : Int32) (x2 : Int32) (s : zy_S) (r : Int32) (s' : zy_S), k23 x1 x2 s = some (r, s') → zyR X 3 65 23 [some (.ref (5 + 3)), some (.int x1), some (.int x2), none] [] s (zyE (some (.int r)) s')) {x1 : Int32} {x2 : Int32} {s : zy_S} {r : Int32} {s' : zy_S}  (h : zyF65_23b k23 x1 x2 s = some (r, s')) : zyR X 3 65 23 [some (.ref (5 + 3)), some (.int x1), some (.int x2), none] [] s (zyE (some (.int r)) s') := by
  unfold zyF65_23b at h
  refine zy_2 rfl rfl (show zyR _ _ _ _ [some (.ref (5 + 3)), some (.int x1), some (.int x2), none] [.int x2] _ _ from ?_)
  refine zy_0 rfl rfl (show zyR _ _ _ _ [some (.ref (5 + 3)), some (.int x1), some (.int x2), none] [.ref (5 + 3), .int x2] _ _ from ?_)
  refine zy_1 (c := 5) rfl rfl rfl (show zyR _ _ _ _ [some (.ref (5 + 3)), some (.int x1), some (.int x2), none] [.int (s.1 5 3), .int x2] _ _ from ?_)
  refine zy_25_3 rfl (fun b18 => (show zyR _ _ _ _ [some (.ref (5 + 3)), some (.int x1), some (.int x2), none] [] _ _ from ?_)) (fun b18 => (show zyR _ _ _ _ [some (.ref (5 + 3)), some (.int x1), some (.int x2), none] [] _ _ from ?_))
  · replace h := zy_ifp h b18
    refine zy_3 rfl rfl (show zyR _ _ _ _ [some (.ref (5 + 3)), some (.int x1), some (.int x2), none] [.int (0 : Int32)] _ _ from ?_)
    obtain ⟨rfl, rfl⟩ := zy_pi h
    exact zy_4 rfl ⟨rfl, rfl⟩
  · replace h := zy_ifn h b18
    refine zy_0 rfl rfl (show zyR _ _ _ _ [some (.ref (5 + 3)), some (.int x1), some (.int x2), none] [.ref (5 + 3)] _ _ from ?_)
    refine zy_1r (c := 5) rfl rfl rfl (show zyR _ _ _ _ [some (.ref (5 + 3)), some (.int x1), some (.int x2), none] [.ref (6 + 3)] _ _ from ?_)
    refine zy_2 rfl rfl (show zyR _ _ _ _ [some (.ref (5 + 3)), some (.int x1), some (.int x2), none] [.int x2, .ref (6 + 3)] _ _ from ?_)
    obtain ⟨c2, h⟩ := zy_if h
    refine zy_26 (c := 6) rfl rfl c2 (show zyR _ _ _ _ [some (.ref (5 + 3)), some (.int x1), some (.int x2), none] [.int (s.1 6 (x2).toNatClampNeg)] _ _ from ?_)
    refine zy_23 rfl rfl (show zyR _ _ _ _ [some (.ref (5 + 3)), some (.int x1), some (.int x2), some (.int (s.1 6 (x2).toNatClampNeg))] [] _ _ from ?_)
    refine zy_2 rfl rfl (show zyR _ _ _ _ [some (.ref (5 + 3)), some (.int x1), some (.int x2), some (.int (s.1 6 (x2).toNatClampNeg))] [.int x1] _ _ from ?_)
    refine zy_24_0 rfl (fun b17 => (show zyR _ _ _ _ [some (.ref (5 + 3)), some (.int x1), some (.int x2), some (.int (s.1 6 (x2).toNatClampNeg))] [] _ _ from ?_)) (fun b17 => (show zyR _ _ _ _ [some (.ref (5 + 3)), some (.int x1), some (.int x2), some (.int (s.1 6 (x2).toNatClampNeg))] [] _ _ from ?_))
    · replace h := zy_ifp h b17
      refine zy_2 rfl rfl (show zyR _ _ _ _ [some (.ref (5 + 3)), some (.int x1), some (.int x2), some (.int (s.1 6 (x2).toNatClampNeg))] [.int (s.1 6 (x2).toNatClampNeg)] _ _ from ?_)
      refine zy_24_2 rfl (fun b15 => (show zyR _ _ _ _ [some (.ref (5 + 3)), some (.int x1), some (.int x2), some (.int (s.1 6 (x2).toNatClampNeg))] [] _ _ from ?_)) (fun b15 => (show zyR _ _ _ _ [some (.ref (5 + 3)), some (.int x1), some (.int x2), some (.int (s.1 6 (x2).toNatClampNeg))] [] _ _ from ?_))
      · replace h := zy_ifp h b15
        refine zy_2 rfl rfl (show zyR _ _ _ _ [some (.ref (5 + 3)), some (.int x1), some (.int x2), some (.int (s.1 6 (x2).toNatClampNeg))] [.int (s.1 6 (x2).toNatClampNeg)] _ _ from ?_)
        refine zy_3 rfl rfl (show zyR _ _ _ _ [some (.ref (5 + 3)), some (.int x1), some (.int x2), some (.int (s.1 6 (x2).toNatClampNeg))] [.int (-59 : Int32), .int (s.1 6 (x2).toNatClampNeg)] _ _ from ?_)
        refine zy_25_1 rfl (fun b12 => (show zyR _ _ _ _ [some (.ref (5 + 3)), some (.int x1), some (.int x2), some (.int (s.1 6 (x2).toNatClampNeg))] [] _ _ from ?_)) (fun b12 => (show zyR _ _ _ _ [some (.ref (5 + 3)), some (.int x1), some (.int x2), some (.int (s.1 6 (x2).toNatClampNeg))] [] _ _ from ?_))
        · replace h := zy_ifp h b12
          refine zy_2 rfl rfl (show zyR _ _ _ _ [some (.ref (5 + 3)), some (.int x1), some (.int x2), some (.int (s.1 6 (x2).toNatClampNeg))] [.int (s.1 6 (x2).toNatClampNeg)] _ _ from ?_)
          refine zy_3 rfl rfl (show zyR _ _ _ _ [some (.ref (5 + 3)), some (.int x1), some (.int x2), some (.int (s.1 6 (x2).toNatClampNeg))] [.int (-63 : Int32), .int (s.1 6 (x2).toNatClampNeg)] _ _ from ?_)
          refine zy_25_1 rfl (fun b8 => (show zyR _ _ _ _ [some (.ref (5 + 3)), some (.int x1), some (.int x2), some (.int (s.1 6 (x2).toNatClampNeg))] [] _ _ from ?_)) (fun b8 => (show zyR _ _ _ _ [some (.ref (5 + 3)), some (.int x1), some (.int x2), some (.int (s.1 6 (x2).toNatClampNeg))] [] _ _ from ?_))
          · replace h := zy_ifp h b8
            refine zy_0 rfl rfl (show zyR _ _ _ _ [some (.ref (5 + 3)), some (.int x1), some (.int x2), some (.int (s.1 6 (x2).toNatClampNeg))] [.ref (5 + 3)] _ _ from ?_)
            refine zy_0 rfl rfl (show zyR _ _ _ _ [some (.ref (5 + 3)), some (.int x1), some (.int x2), some (.int (s.1 6 (x2).toNatClampNeg))] [.ref (5 + 3), .ref (5 + 3)] _ _ from ?_)
            refine zy_2 rfl rfl (show zyR _ _ _ _ [some (.ref (5 + 3)), some (.int x1), some (.int x2), some (.int (s.1 6 (x2).toNatClampNeg))] [.int (s.1 6 (x2).toNatClampNeg), .ref (5 + 3), .ref (5 + 3)] _ _ from ?_)
            refine zy_21 rfl (show zyR _ _ _ _ [some (.ref (5 + 3)), some (.int x1), some (.int x2), some (.int (s.1 6 (x2).toNatClampNeg))] [.int (-(s.1 6 (x2).toNatClampNeg)), .ref (5 + 3), .ref (5 + 3)] _ _ from ?_)
            refine zy_0 rfl rfl (show zyR _ _ _ _ [some (.ref (5 + 3)), some (.int x1), some (.int x2), some (.int (s.1 6 (x2).toNatClampNeg))] [.ref (5 + 3), .int (-(s.1 6 (x2).toNatClampNeg)), .ref (5 + 3), .ref (5 + 3)] _ _ from ?_)
            obtain ⟨p3, hp3, h⟩ := zy_bind h
            refine zy_5 (c := 5) (as := []) (rest := [.int (-(s.1 6 (x2).toNatClampNeg)), .ref (5 + 3), .ref (5 + 3)]) (L := [some (.ref (5 + 3))]) (d' := 1) rfl rfl rfl (Nat.le_of_ble_eq_true rfl) (Nat.le_of_ble_eq_true rfl) rfl (Nat.le_of_ble_eq_true rfl) rfl rfl (zyC67 hp3) ?_
            show zyR _ _ _ _ [some (.ref (5 + 3)), some (.int x1), some (.int x2), some (.int (s.1 6 (x2).toNatClampNeg))] [.int p3.1, .int (-(s.1 6 (x2).toNatClampNeg)), .ref (5 + 3), .ref (5 + 3)] _ _
            obtain ⟨p4, hp4, h⟩ := zy_bind h
            refine zy_5 (c := 5) (as := [.int (-(s.1 6 (x2).toNatClampNeg)), .int p3.1]) (rest := [.ref (5 + 3)]) (L := [some (.ref (5 + 3)), some (.int (-(s.1 6 (x2).toNatClampNeg))), some (.int p3.1)]) (d' := 2) rfl rfl rfl (Nat.le_of_ble_eq_true rfl) (Nat.le_of_ble_eq_true rfl) rfl (Nat.le_of_ble_eq_true rfl) rfl rfl (zyC70 hp4) ?_
            show zyR _ _ _ _ [some (.ref (5 + 3)), some (.int x1), some (.int x2), some (.int (s.1 6 (x2).toNatClampNeg))] [.int p4.1, .ref (5 + 3)] _ _
            obtain ⟨p5, hp5, h⟩ := zy_bind h
            refine zy_5 (c := 5) (as := [.int p4.1]) (rest := []) (L := [some (.ref (5 + 3)), some (.int p4.1)]) (d' := 1) rfl rfl rfl (Nat.le_of_ble_eq_true rfl) (Nat.le_of_ble_eq_true rfl) rfl (Nat.le_of_ble_eq_true rfl) rfl rfl (zyC66 hp5) ?_
            show zyR _ _ _ _ [some (.ref (5 + 3)), some (.int x1), some (.int x2), some (.int (s.1 6 (x2).toNatClampNeg))] [] _ _
            exact zy_sub (show zy_le [some (.ref (5 + 3)), some (.int x1), some (.int x2), none] [some (.ref (5 + 3)), some (.int x1), some (.int x2), some (.int (s.1 6 (x2).toNatClampNeg))] from ⟨rfl, ⟨rfl, ⟨rfl, trivial⟩⟩⟩) (zyC65_145 hk23 h)
          · replace h := zy_ifn h b8
            refine zy_0 rfl rfl (show zyR _ _ _ _ [some (.ref (5 + 3)), some (.int x1), some (.int x2), some (.int (s.1 6 (x2).toNatClampNeg))] [.ref (5 + 3)] _ _ from ?_)
            obtain ⟨p6, hp6, h⟩ := zy_bind h
            refine zy_5 (c := 5) (as := []) (rest := []) (L := [some (.ref (5 + 3))]) (d' := 1) rfl rfl rfl (Nat.le_of_ble_eq_true rfl) (Nat.le_of_ble_eq_true rfl) rfl (Nat.le_of_ble_eq_true rfl) rfl rfl (zyC67 hp6) ?_
            show zyR _ _ _ _ [some (.ref (5 + 3)), some (.int x1), some (.int x2), some (.int (s.1 6 (x2).toNatClampNeg))] [.int p6.1] _ _
            refine zy_24_1 rfl (fun b7 => (show zyR _ _ _ _ [some (.ref (5 + 3)), some (.int x1), some (.int x2), some (.int (s.1 6 (x2).toNatClampNeg))] [] _ _ from ?_)) (fun b7 => (show zyR _ _ _ _ [some (.ref (5 + 3)), some (.int x1), some (.int x2), some (.int (s.1 6 (x2).toNatClampNeg))] [] _ _ from ?_))
            · replace h := zy_ifp h b7
              refine zy_3 rfl rfl (show zyR _ _ _ _ [some (.ref (5 + 3)), some (.int x1), some (.int x2), some (.int (s.1 6 (x2).toNatClampNeg))] [.int (0 : Int32)] _ _ from ?_)
              exact zy_sub (show zy_le [some (.ref (5 + 3)), none, some (.int x2), none] [some (.ref (5 + 3)), some (.int x1), some (.int x2), some (.int (s.1 6 (x2).toNatClampNeg))] from ⟨rfl, ⟨rfl, trivial⟩⟩) (zyC65_127 hk23 h)
            · replace h := zy_ifn h b7
              refine zy_3 rfl rfl (show zyR _ _ _ _ [some (.ref (5 + 3)), some (.int x1), some (.int x2), some (.int (s.1 6 (x2).toNatClampNeg))] [.int (1 : Int32)] _ _ from ?_)
              refine zy_6 rfl (show zyR _ _ _ _ [some (.ref (5 + 3)), some (.int x1), some (.int x2), some (.int (s.1 6 (x2).toNatClampNeg))] [.int (1 : Int32)] _ _ from ?_)
              exact zy_sub (show zy_le [some (.ref (5 + 3)), none, some (.int x2), none] [some (.ref (5 + 3)), some (.int x1), some (.int x2), some (.int (s.1 6 (x2).toNatClampNeg))] from ⟨rfl, ⟨rfl, trivial⟩⟩) (zyC65_127 hk23 h)
        · replace h := zy_ifn h b12
          refine zy_3 rfl rfl (show zyR _ _ _ _ [some (.ref (5 + 3)), some (.int x1), some (.int x2), some (.int (s.1 6 (x2).toNatClampNeg))] [.int (0 : Int32)] _ _ from ?_)
          refine zy_3 rfl rfl (show zyR _ _ _ _ [some (.ref (5 + 3)), some (.int x1), some (.int x2), some (.int (s.1 6 (x2).toNatClampNeg))] [.int (99 : Int32), .int (0 : Int32)] _ _ from ?_)
          refine zy_0 rfl rfl (show zyR _ _ _ _ [some (.ref (5 + 3)), some (.int x1), some (.int x2), some (.int (s.1 6 (x2).toNatClampNeg))] [.ref (5 + 3), .int (99 : Int32), .int (0 : Int32)] _ _ from ?_)
          obtain ⟨p9, hp9, h⟩ := zy_bind h
          refine zy_5 (c := 5) (as := []) (rest := [.int (99 : Int32), .int (0 : Int32)]) (L := [some (.ref (5 + 3))]) (d' := 1) rfl rfl rfl (Nat.le_of_ble_eq_true rfl) (Nat.le_of_ble_eq_true rfl) rfl (Nat.le_of_ble_eq_true rfl) rfl rfl (zyC67 hp9) ?_
          show zyR _ _ _ _ [some (.ref (5 + 3)), some (.int x1), some (.int x2), some (.int (s.1 6 (x2).toNatClampNeg))] [.int p9.1, .int (99 : Int32), .int (0 : Int32)] _ _
          obtain ⟨p10, hp10, h⟩ := zy_bind h
          refine zy_60 (as := [.int (99 : Int32), .int p9.1]) (rest := [.int (0 : Int32)]) (L := [some (.int (99 : Int32)), some (.int p9.1)]) (d' := 1) rfl rfl (Nat.le_of_ble_eq_true rfl) (Nat.le_of_ble_eq_true rfl) rfl (Nat.le_of_ble_eq_true rfl) rfl rfl (zyC68 hp10) ?_
          show zyR _ _ _ _ [some (.ref (5 + 3)), some (.int x1), some (.int x2), some (.int (s.1 6 (x2).toNatClampNeg))] [.int p10.1, .int (0 : Int32)] _ _
          obtain ⟨p11, hp11, h⟩ := zy_bind h
          refine zy_60 (as := [.int (0 : Int32), .int p10.1]) (rest := []) (L := [some (.int (0 : Int32)), some (.int p10.1)]) (d' := 1) rfl rfl (Nat.le_of_ble_eq_true rfl) (Nat.le_of_ble_eq_true rfl) rfl (Nat.le_of_ble_eq_true rfl) rfl rfl (zyC69 hp11) ?_
          show zyR _ _ _ _ [some (.ref (5 + 3)), some (.int x1), some (.int x2), some (.int (s.1 6 (x2).toNatClampNeg))] [.int p11.1] _ _
          obtain ⟨rfl, rfl⟩ := zy_pi h
          exact zy_4 rfl ⟨rfl, rfl⟩
      · replace h := zy_ifn h b15
        refine zy_0 rfl rfl (show zyR _ _ _ _ [some (.ref (5 + 3)), some (.int x1), some (.int x2), some (.int (s.1 6 (x2).toNatClampNeg))] [.ref (5 + 3)] _ _ from ?_)
        refine zy_2 rfl rfl (show zyR _ _ _ _ [some (.ref (5 + 3)), some (.int x1), some (.int x2), some (.int (s.1 6 (x2).toNatClampNeg))] [.int (s.1 6 (x2).toNatClampNeg), .ref (5 + 3)] _ _ from ?_)
        refine zy_3 rfl rfl (show zyR _ _ _ _ [some (.ref (5 + 3)), some (.int x1), some (.int x2), some (.int (s.1 6 (x2).toNatClampNeg))] [.int (10000 : Int32), .int (s.1 6 (x2).toNatClampNeg), .ref (5 + 3)] _ _ from ?_)
        refine zy_25_3 rfl (fun b14 => (show zyR _ _ _ _ [some (.ref (5 + 3)), some (.int x1), some (.int x2), some (.int (s.1 6 (x2).toNatClampNeg))] [.ref (5 + 3)] _ _ from ?_)) (fun b14 => (show zyR _ _ _ _ [some (.ref (5 + 3)), some (.int x1), some (.int x2), some (.int (s.1 6 (x2).toNatClampNeg))] [.ref (5 + 3)] _ _ from ?_))
        · replace h := zy_ifp h b14
          refine zy_0 rfl rfl (show zyR _ _ _ _ [some (.ref (5 + 3)), some (.int x1), some (.int x2), some (.int (s.1 6 (x2).toNatClampNeg))] [.ref (5 + 3), .ref (5 + 3)] _ _ from ?_)
          refine zy_1r (c := 5) rfl rfl rfl (show zyR _ _ _ _ [some (.ref (5 + 3)), some (.int x1), some (.int x2), some (.int (s.1 6 (x2).toNatClampNeg))] [.ref (8 + 3), .ref (5 + 3)] _ _ from ?_)
          refine zy_2 rfl rfl (show zyR _ _ _ _ [some (.ref (5 + 3)), some (.int x1), some (.int x2), some (.int (s.1 6 (x2).toNatClampNeg))] [.int (s.1 6 (x2).toNatClampNeg), .ref (8 + 3), .ref (5 + 3)] _ _ from ?_)
          refine zy_3 rfl rfl (show zyR _ _ _ _ [some (.ref (5 + 3)), some (.int x1), some (.int x2), some (.int (s.1 6 (x2).toNatClampNeg))] [.int (10000 : Int32), .int (s.1 6 (x2).toNatClampNeg), .ref (8 + 3), .ref (5 + 3)] _ _ from ?_)
          refine zy_11 rfl (show zyR _ _ _ _ [some (.ref (5 + 3)), some (.int x1), some (.int x2), some (.int (s.1 6 (x2).toNatClampNeg))] [.int ((s.1 6 (x2).toNatClampNeg) - (10000 : Int32)), .ref (8 + 3), .ref (5 + 3)] _ _ from ?_)
          obtain ⟨c13, h⟩ := zy_if h
          refine zy_26 (c := 8) rfl rfl c13 (show zyR _ _ _ _ [some (.ref (5 + 3)), some (.int x1), some (.int x2), some (.int (s.1 6 (x2).toNatClampNeg))] [.int (s.1 8 (((s.1 6 (x2).toNatClampNeg) - (10000 : Int32))).toNatClampNeg), .ref (5 + 3)] _ _ from ?_)
          exact zy_sub (show zy_le [some (.ref (5 + 3)), some (.int x1), some (.int x2), none] [some (.ref (5 + 3)), some (.int x1), some (.int x2), some (.int (s.1 6 (x2).toNatClampNeg))] from ⟨rfl, ⟨rfl, ⟨rfl, trivial⟩⟩⟩) (zyC65_83 hk23 h)
        · replace h := zy_ifn h b14
          refine zy_2 rfl rfl (show zyR _ _ _ _ [some (.ref (5 + 3)), some (.int x1), some (.int x2), some (.int (s.1 6 (x2).toNatClampNeg))] [.int (s.1 6 (x2).toNatClampNeg), .ref (5 + 3)] _ _ from ?_)
          refine zy_6 rfl (show zyR _ _ _ _ [some (.ref (5 + 3)), some (.int x1), some (.int x2), some (.int (s.1 6 (x2).toNatClampNeg))] [.int (s.1 6 (x2).toNatClampNeg), .ref (5 + 3)] _ _ from ?_)
          exact zy_sub (show zy_le [some (.ref (5 + 3)), some (.int x1), some (.int x2), none] [some (.ref (5 + 3)), some (.int x1), some (.int x2), some (.int (s.1 6 (x2).toNatClampNeg))] from ⟨rfl, ⟨rfl, ⟨rfl, trivial⟩⟩⟩) (zyC65_83 hk23 h)
    · replace h := zy_ifn h b17
      refine zy_2 rfl rfl (show zyR _ _ _ _ [some (.ref (5 + 3)), some (.int x1), some (.int x2), some (.int (s.1 6 (x2).toNatClampNeg))] [.int (s.1 6 (x2).toNatClampNeg)] _ _ from ?_)
      refine zy_3 rfl rfl (show zyR _ _ _ _ [some (.ref (5 + 3)), some (.int x1), some (.int x2), some (.int (s.1 6 (x2).toNatClampNeg))] [.int (-59 : Int32), .int (s.1 6 (x2).toNatClampNeg)] _ _ from ?_)
      refine zy_25_0 rfl (fun b16 => (show zyR _ _ _ _ [some (.ref (5 + 3)), some (.int x1), some (.int x2), some (.int (s.1 6 (x2).toNatClampNeg))] [] _ _ from ?_)) (fun b16 => (show zyR _ _ _ _ [some (.ref (5 + 3)), some (.int x1), some (.int x2), some (.int (s.1 6 (x2).toNatClampNeg))] [] _ _ from ?_))
      · replace h := zy_ifp h b16
        refine zy_3 rfl rfl (show zyR _ _ _ _ [some (.ref (5 + 3)), some (.int x1), some (.int x2), some (.int (s.1 6 (x2).toNatClampNeg))] [.int (0 : Int32)] _ _ from ?_)
        exact zy_sub (show zy_le [some (.ref (5 + 3)), none, some (.int x2), none] [some (.ref (5 + 3)), some (.int x1), some (.int x2), some (.int (s.1 6 (x2).toNatClampNeg))] from ⟨rfl, ⟨rfl, trivial⟩⟩) (zyC65_53 hk23 h)
      · replace h := zy_ifn h b16
        refine zy_3 rfl rfl (show zyR _ _ _ _ [some (.ref (5 + 3)), some (.int x1), some (.int x2), some (.int (s.1 6 (x2).toNatClampNeg))] [.int (1 : Int32)] _ _ from ?_)
        refine zy_6 rfl (show zyR _ _ _ _ [some (.ref (5 + 3)), some (.int x1), some (.int x2), some (.int (s.1 6 (x2).toNatClampNeg))] [.int (1 : Int32)] _ _ from ?_)
        exact zy_sub (show zy_le [some (.ref (5 + 3)), none, some (.int x2), none] [some (.ref (5 + 3)), some (.int x1), some (.int x2), some (.int (s.1 6 (x2).toNatClampNeg))] from ⟨rfl, ⟨rfl, trivial⟩⟩) (zyC65_53 hk23 h)
noncomputable def zyF65_23   (n : Nat) : Int32 → Int32 → zy_S → Option (Int32 × zy_S) := Nat.rec (fun _ _ _ => none) (fun _ k23 => zyF65_23b k23) n
theorem zyC65_23 {X : zx_X}     : ∀ (n : Nat) (x1 : Int32) (x2 : Int32) (s : zy_S) (r : Int32) (s' : zy_S), zyF65_23 n x1 x2 s = some (r, s') → zyR X 3 65 23 [some (.ref (5 + 3)), some (.int x1), some (.int x2), none] [] s (zyE (some (.int r)) s')
  | 0, _, _ => by
    intro s r s'  h
    have h : (none : Option (Int32 × zy_S)) = some (r, s') := h
    cases h
  | n + 1, x1, x2 => by
    intro s r s'  h
    exact zyC65_23b (k23 := zyF65_23 n) (fun x1 x2 s r s'  h => zyC65_23  n x1 x2 s r s'  h) h
noncomputable def zyF65    (s : zy_S) : Option (Int32 × zy_S) :=
if (s.1 5 3) ≠ 0 then
zyF65_23 zy_fu (0 : Int32) (0 : Int32) (zy_up s 5 4 (0 : Int32))
else
some ((s.1 8 0), s)
theorem zyC65 {X : zx_X}      {s : zy_S} {r : Int32} {s' : zy_S}  (h : zyF65 s = some (r, s')) : zyR X 3 65 0 [some (.ref (5 + 3)), none, none, none] [] s (zyE (some (.int r)) s') := by
  unfold zyF65 at h
  refine zy_0 rfl rfl (show zyR _ _ _ _ [some (.ref (5 + 3)), none, none, none] [.ref (5 + 3)] _ _ from ?_)
  refine zy_1 (c := 5) rfl rfl rfl (show zyR _ _ _ _ [some (.ref (5 + 3)), none, none, none] [.int (s.1 5 3)] _ _ from ?_)
  refine zy_24_1 rfl (fun b19 => (show zyR _ _ _ _ [some (.ref (5 + 3)), none, none, none] [] _ _ from ?_)) (fun b19 => (show zyR _ _ _ _ [some (.ref (5 + 3)), none, none, none] [] _ _ from ?_))
  · replace h := zy_ifp h b19
    refine zy_0 rfl rfl (show zyR _ _ _ _ [some (.ref (5 + 3)), none, none, none] [.ref (5 + 3)] _ _ from ?_)
    refine zy_3 rfl rfl (show zyR _ _ _ _ [some (.ref (5 + 3)), none, none, none] [.int (0 : Int32), .ref (5 + 3)] _ _ from ?_)
    refine zy_52 (c := 5) rfl rfl rfl (show zyR _ _ _ _ [some (.ref (5 + 3)), none, none, none] [] _ _ from ?_)
    refine zy_3 rfl rfl (show zyR _ _ _ _ [some (.ref (5 + 3)), none, none, none] [.int (0 : Int32)] _ _ from ?_)
    refine zy_23 rfl rfl (show zyR _ _ _ _ [some (.ref (5 + 3)), some (.int (0 : Int32)), none, none] [] _ _ from ?_)
    refine zy_3 rfl rfl (show zyR _ _ _ _ [some (.ref (5 + 3)), some (.int (0 : Int32)), none, none] [.int (0 : Int32)] _ _ from ?_)
    refine zy_23 rfl rfl (show zyR _ _ _ _ [some (.ref (5 + 3)), some (.int (0 : Int32)), some (.int (0 : Int32)), none] [] _ _ from ?_)
    exact zy_sub (show zy_le [some (.ref (5 + 3)), some (.int (0 : Int32)), some (.int (0 : Int32)), none] [some (.ref (5 + 3)), some (.int (0 : Int32)), some (.int (0 : Int32)), none] from ⟨rfl, ⟨rfl, ⟨rfl, trivial⟩⟩⟩) (zyC65_23 zy_fu (0 : Int32) (0 : Int32) (zy_up s 5 4 (0 : Int32)) _ _ h)
  · replace h := zy_ifn h b19
    refine zy_0 rfl rfl (show zyR _ _ _ _ [some (.ref (5 + 3)), none, none, none] [.ref (5 + 3)] _ _ from ?_)
    refine zy_1r (c := 5) rfl rfl rfl (show zyR _ _ _ _ [some (.ref (5 + 3)), none, none, none] [.ref (8 + 3)] _ _ from ?_)
    refine zy_3 rfl rfl (show zyR _ _ _ _ [some (.ref (5 + 3)), none, none, none] [.int (0 : Int32), .ref (8 + 3)] _ _ from ?_)
    refine zy_26 (c := 8) rfl rfl (by decide) (show zyR _ _ _ _ [some (.ref (5 + 3)), none, none, none] [.int (s.1 8 0)] _ _ from ?_)
    obtain ⟨rfl, rfl⟩ := zy_pi h
    exact zy_4 rfl ⟨rfl, rfl⟩
/-! NineOpinions$Thought.weigh(III)I -/
noncomputable def zyF58_68  (k6 : Int32 → Int32 → Int32 → Int32 → Int32 → zy_S → Option (Int32 × zy_S)) (x1 : Int32) (x2 : Int32) (x3 : Int32) (x4 : Int32) (x5 : Int32) (s : zy_S) : Option (Int32 × zy_S) :=
k6 x1 x2 x3 x4 (x5 + (1 : Int32)) s
theorem zyC58_68 {X : zx_X}  {k6 : Int32 → Int32 → Int32 → Int32 → Int32 → zy_S → Option (Int32 × zy_S)}  (hk6 : ∀ (x1 : Int32) (x2 : Int32) (x3 : Int32) (x4 : Int32) (x5 : Int32) (s : zy_S) (r : Int32) (s' : zy_S), k6 x1 x2 x3 x4 x5 s = some (r, s') → zyR X 4 58 6 [some (.ref (12 + 3)), some (.int x1), some (.int x2), some (.int x3), some (.int x4), some (.int x5), none] [] s (zyE (some (.int r)) s')) {x1 : Int32} {x2 : Int32} {x3 : Int32} {x4 : Int32} {x5 : Int32} {s : zy_S} {r : Int32} {s' : zy_S}  (h : zyF58_68 k6 x1 x2 x3 x4 x5 s = some (r, s')) : zyR X 4 58 68 [some (.ref (12 + 3)), some (.int x1), some (.int x2), some (.int x3), some (.int x4), some (.int x5), none] [] s (zyE (some (.int r)) s') := by
  unfold zyF58_68 at h
  refine zy_22 rfl rfl rfl rfl (show zyR _ _ _ _ [some (.ref (12 + 3)), some (.int x1), some (.int x2), some (.int x3), some (.int x4), some (.int (x5 + (1 : Int32))), none] [] _ _ from ?_)
  refine zy_6 rfl (show zyR _ _ _ _ [some (.ref (12 + 3)), some (.int x1), some (.int x2), some (.int x3), some (.int x4), some (.int (x5 + (1 : Int32))), none] [] _ _ from ?_)
  exact zy_sub (show zy_le [some (.ref (12 + 3)), some (.int x1), some (.int x2), some (.int x3), some (.int x4), some (.int (x5 + (1 : Int32))), none] [some (.ref (12 + 3)), some (.int x1), some (.int x2), some (.int x3), some (.int x4), some (.int (x5 + (1 : Int32))), none] from ⟨rfl, ⟨rfl, ⟨rfl, ⟨rfl, ⟨rfl, ⟨rfl, trivial⟩⟩⟩⟩⟩⟩) (hk6 x1 x2 x3 x4 (x5 + (1 : Int32)) s _ _ h)
noncomputable def zyF58_6b  (k6 : Int32 → Int32 → Int32 → Int32 → Int32 → zy_S → Option (Int32 × zy_S)) (x1 : Int32) (x2 : Int32) (x3 : Int32) (x4 : Int32) (x5 : Int32) (s : zy_S) : Option (Int32 × zy_S) :=
if (s.1 1 5) ≤ x5 then
some (x4, s)
else
(zyF32 (s.1 12 4) x5 s).bind fun p1 =>
(zyF32 (p1.2.1 12 5) x5 p1.2).bind fun p2 =>
if (p1.1 - p2.1) = 0 then
zyF58_68 k6 x1 x2 x3 x4 x5 p2.2
else
(zyF59 x5 x1 x2 x3 p2.2).bind fun p3 =>
(zyF65 p3.2).bind fun p4 =>
zyF58_68 k6 x1 x2 x3 (x4 + ((p1.1 - p2.1) * p4.1)) x5 p4.2
theorem zyC58_6b {X : zx_X}  {k6 : Int32 → Int32 → Int32 → Int32 → Int32 → zy_S → Option (Int32 × zy_S)}  (hk6 : ∀ (x1 : Int32) (x2 : Int32) (x3 : Int32) (x4 : Int32) (x5 : Int32) (s : zy_S) (r : Int32) (s' : zy_S), k6 x1 x2 x3 x4 x5 s = some (r, s') → zyR X 4 58 6 [some (.ref (12 + 3)), some (.int x1), some (.int x2), some (.int x3), some (.int x4), some (.int x5), none] [] s (zyE (some (.int r)) s')) {x1 : Int32} {x2 : Int32} {x3 : Int32} {x4 : Int32} {x5 : Int32} {s : zy_S} {r : Int32} {s' : zy_S}  (h : zyF58_6b k6 x1 x2 x3 x4 x5 s = some (r, s')) : zyR X 4 58 6 [some (.ref (12 + 3)), some (.int x1), some (.int x2), some (.int x3), some (.int x4), some (.int x5), none] [] s (zyE (some (.int r)) s') := by
  unfold zyF58_6b at h
  refine zy_2 rfl rfl (show zyR _ _ _ _ [some (.ref (12 + 3)), some (.int x1), some (.int x2), some (.int x3), some (.int x4), some (.int x5), none] [.int x5] _ _ from ?_)
  refine zy_0 rfl rfl (show zyR _ _ _ _ [some (.ref (12 + 3)), some (.int x1), some (.int x2), some (.int x3), some (.int x4), some (.int x5), none] [.ref (12 + 3), .int x5] _ _ from ?_)
  refine zy_1r (c := 12) rfl rfl rfl (show zyR _ _ _ _ [some (.ref (12 + 3)), some (.int x1), some (.int x2), some (.int x3), some (.int x4), some (.int x5), none] [.ref (1 + 3), .int x5] _ _ from ?_)
  refine zy_1 (c := 1) rfl rfl rfl (show zyR _ _ _ _ [some (.ref (12 + 3)), some (.int x1), some (.int x2), some (.int x3), some (.int x4), some (.int x5), none] [.int (s.1 1 5), .int x5] _ _ from ?_)
  refine zy_25_3 rfl (fun b6 => (show zyR _ _ _ _ [some (.ref (12 + 3)), some (.int x1), some (.int x2), some (.int x3), some (.int x4), some (.int x5), none] [] _ _ from ?_)) (fun b6 => (show zyR _ _ _ _ [some (.ref (12 + 3)), some (.int x1), some (.int x2), some (.int x3), some (.int x4), some (.int x5), none] [] _ _ from ?_))
  · replace h := zy_ifp h b6
    refine zy_2 rfl rfl (show zyR _ _ _ _ [some (.ref (12 + 3)), some (.int x1), some (.int x2), some (.int x3), some (.int x4), some (.int x5), none] [.int x4] _ _ from ?_)
    obtain ⟨rfl, rfl⟩ := zy_pi h
    exact zy_4 rfl ⟨rfl, rfl⟩
  · replace h := zy_ifn h b6
    refine zy_0 rfl rfl (show zyR _ _ _ _ [some (.ref (12 + 3)), some (.int x1), some (.int x2), some (.int x3), some (.int x4), some (.int x5), none] [.ref (12 + 3)] _ _ from ?_)
    refine zy_1 (c := 12) rfl rfl rfl (show zyR _ _ _ _ [some (.ref (12 + 3)), some (.int x1), some (.int x2), some (.int x3), some (.int x4), some (.int x5), none] [.int (s.1 12 4)] _ _ from ?_)
    refine zy_2 rfl rfl (show zyR _ _ _ _ [some (.ref (12 + 3)), some (.int x1), some (.int x2), some (.int x3), some (.int x4), some (.int x5), none] [.int x5, .int (s.1 12 4)] _ _ from ?_)
    obtain ⟨p1, hp1, h⟩ := zy_bind h
    refine zy_61 (as := [.int (s.1 12 4), .int x5]) (rest := []) (L := [some (.int (s.1 12 4)), some (.int x5)]) (d' := 1) rfl rfl (Nat.le_of_ble_eq_true rfl) (Nat.le_of_ble_eq_true rfl) rfl (Nat.le_of_ble_eq_true rfl) rfl rfl (zyC32 hp1) ?_
    show zyR _ _ _ _ [some (.ref (12 + 3)), some (.int x1), some (.int x2), some (.int x3), some (.int x4), some (.int x5), none] [.int p1.1] _ _
    refine zy_0 rfl rfl (show zyR _ _ _ _ [some (.ref (12 + 3)), some (.int x1), some (.int x2), some (.int x3), some (.int x4), some (.int x5), none] [.ref (12 + 3), .int p1.1] _ _ from ?_)
    refine zy_1 (c := 12) rfl rfl rfl (show zyR _ _ _ _ [some (.ref (12 + 3)), some (.int x1), some (.int x2), some (.int x3), some (.int x4), some (.int x5), none] [.int (p1.2.1 12 5), .int p1.1] _ _ from ?_)
    refine zy_2 rfl rfl (show zyR _ _ _ _ [some (.ref (12 + 3)), some (.int x1), some (.int x2), some (.int x3), some (.int x4), some (.int x5), none] [.int x5, .int (p1.2.1 12 5), .int p1.1] _ _ from ?_)
    obtain ⟨p2, hp2, h⟩ := zy_bind h
    refine zy_61 (as := [.int (p1.2.1 12 5), .int x5]) (rest := [.int p1.1]) (L := [some (.int (p1.2.1 12 5)), some (.int x5)]) (d' := 1) rfl rfl (Nat.le_of_ble_eq_true rfl) (Nat.le_of_ble_eq_true rfl) rfl (Nat.le_of_ble_eq_true rfl) rfl rfl (zyC32 hp2) ?_
    show zyR _ _ _ _ [some (.ref (12 + 3)), some (.int x1), some (.int x2), some (.int x3), some (.int x4), some (.int x5), none] [.int p2.1, .int p1.1] _ _
    refine zy_11 rfl (show zyR _ _ _ _ [some (.ref (12 + 3)), some (.int x1), some (.int x2), some (.int x3), some (.int x4), some (.int x5), none] [.int (p1.1 - p2.1)] _ _ from ?_)
    refine zy_23 rfl rfl (show zyR _ _ _ _ [some (.ref (12 + 3)), some (.int x1), some (.int x2), some (.int x3), some (.int x4), some (.int x5), some (.int (p1.1 - p2.1))] [] _ _ from ?_)
    refine zy_2 rfl rfl (show zyR _ _ _ _ [some (.ref (12 + 3)), some (.int x1), some (.int x2), some (.int x3), some (.int x4), some (.int x5), some (.int (p1.1 - p2.1))] [.int (p1.1 - p2.1)] _ _ from ?_)
    refine zy_24_0 rfl (fun b5 => (show zyR _ _ _ _ [some (.ref (12 + 3)), some (.int x1), some (.int x2), some (.int x3), some (.int x4), some (.int x5), some (.int (p1.1 - p2.1))] [] _ _ from ?_)) (fun b5 => (show zyR _ _ _ _ [some (.ref (12 + 3)), some (.int x1), some (.int x2), some (.int x3), some (.int x4), some (.int x5), some (.int (p1.1 - p2.1))] [] _ _ from ?_))
    · replace h := zy_ifp h b5
      exact zy_sub (show zy_le [some (.ref (12 + 3)), some (.int x1), some (.int x2), some (.int x3), some (.int x4), some (.int x5), none] [some (.ref (12 + 3)), some (.int x1), some (.int x2), some (.int x3), some (.int x4), some (.int x5), some (.int (p1.1 - p2.1))] from ⟨rfl, ⟨rfl, ⟨rfl, ⟨rfl, ⟨rfl, ⟨rfl, trivial⟩⟩⟩⟩⟩⟩) (zyC58_68 hk6 h)
    · replace h := zy_ifn h b5
      refine zy_0 rfl rfl (show zyR _ _ _ _ [some (.ref (12 + 3)), some (.int x1), some (.int x2), some (.int x3), some (.int x4), some (.int x5), some (.int (p1.1 - p2.1))] [.ref (12 + 3)] _ _ from ?_)
      refine zy_2 rfl rfl (show zyR _ _ _ _ [some (.ref (12 + 3)), some (.int x1), some (.int x2), some (.int x3), some (.int x4), some (.int x5), some (.int (p1.1 - p2.1))] [.int x5, .ref (12 + 3)] _ _ from ?_)
      refine zy_2 rfl rfl (show zyR _ _ _ _ [some (.ref (12 + 3)), some (.int x1), some (.int x2), some (.int x3), some (.int x4), some (.int x5), some (.int (p1.1 - p2.1))] [.int x1, .int x5, .ref (12 + 3)] _ _ from ?_)
      refine zy_2 rfl rfl (show zyR _ _ _ _ [some (.ref (12 + 3)), some (.int x1), some (.int x2), some (.int x3), some (.int x4), some (.int x5), some (.int (p1.1 - p2.1))] [.int x2, .int x1, .int x5, .ref (12 + 3)] _ _ from ?_)
      refine zy_2 rfl rfl (show zyR _ _ _ _ [some (.ref (12 + 3)), some (.int x1), some (.int x2), some (.int x3), some (.int x4), some (.int x5), some (.int (p1.1 - p2.1))] [.int x3, .int x2, .int x1, .int x5, .ref (12 + 3)] _ _ from ?_)
      obtain ⟨p3, hp3, h⟩ := zy_bind h
      refine zy_5 (c := 12) (as := [.int x5, .int x1, .int x2, .int x3]) (rest := []) (L := [some (.ref (12 + 3)), some (.int x5), some (.int x1), some (.int x2), some (.int x3), none, none, none, none, none]) (d' := 3) rfl rfl rfl (Nat.le_of_ble_eq_true rfl) (Nat.le_of_ble_eq_true rfl) rfl (Nat.le_of_ble_eq_true rfl) rfl rfl (zyC59 hp3) ?_
      show zyR _ _ _ _ [some (.ref (12 + 3)), some (.int x1), some (.int x2), some (.int x3), some (.int x4), some (.int x5), some (.int (p1.1 - p2.1))] [] _ _
      refine zy_2 rfl rfl (show zyR _ _ _ _ [some (.ref (12 + 3)), some (.int x1), some (.int x2), some (.int x3), some (.int x4), some (.int x5), some (.int (p1.1 - p2.1))] [.int x4] _ _ from ?_)
      refine zy_2 rfl rfl (show zyR _ _ _ _ [some (.ref (12 + 3)), some (.int x1), some (.int x2), some (.int x3), some (.int x4), some (.int x5), some (.int (p1.1 - p2.1))] [.int (p1.1 - p2.1), .int x4] _ _ from ?_)
      refine zy_0 rfl rfl (show zyR _ _ _ _ [some (.ref (12 + 3)), some (.int x1), some (.int x2), some (.int x3), some (.int x4), some (.int x5), some (.int (p1.1 - p2.1))] [.ref (12 + 3), .int (p1.1 - p2.1), .int x4] _ _ from ?_)
      refine zy_1r (c := 12) rfl rfl rfl (show zyR _ _ _ _ [some (.ref (12 + 3)), some (.int x1), some (.int x2), some (.int x3), some (.int x4), some (.int x5), some (.int (p1.1 - p2.1))] [.ref (5 + 3), .int (p1.1 - p2.1), .int x4] _ _ from ?_)
      obtain ⟨p4, hp4, h⟩ := zy_bind h
      refine zy_5 (c := 5) (as := []) (rest := [.int (p1.1 - p2.1), .int x4]) (L := [some (.ref (5 + 3)), none, none, none]) (d' := 3) rfl rfl rfl (Nat.le_of_ble_eq_true rfl) (Nat.le_of_ble_eq_true rfl) rfl (Nat.le_of_ble_eq_true rfl) rfl rfl (zyC65 hp4) ?_
      show zyR _ _ _ _ [some (.ref (12 + 3)), some (.int x1), some (.int x2), some (.int x3), some (.int x4), some (.int x5), some (.int (p1.1 - p2.1))] [.int p4.1, .int (p1.1 - p2.1), .int x4] _ _
      refine zy_12 rfl (show zyR _ _ _ _ [some (.ref (12 + 3)), some (.int x1), some (.int x2), some (.int x3), some (.int x4), some (.int x5), some (.int (p1.1 - p2.1))] [.int ((p1.1 - p2.1) * p4.1), .int x4] _ _ from ?_)
      refine zy_10 rfl (show zyR _ _ _ _ [some (.ref (12 + 3)), some (.int x1), some (.int x2), some (.int x3), some (.int x4), some (.int x5), some (.int (p1.1 - p2.1))] [.int (x4 + ((p1.1 - p2.1) * p4.1))] _ _ from ?_)
      refine zy_23 rfl rfl (show zyR _ _ _ _ [some (.ref (12 + 3)), some (.int x1), some (.int x2), some (.int x3), some (.int (x4 + ((p1.1 - p2.1) * p4.1))), some (.int x5), some (.int (p1.1 - p2.1))] [] _ _ from ?_)
      exact zy_sub (show zy_le [some (.ref (12 + 3)), some (.int x1), some (.int x2), some (.int x3), some (.int (x4 + ((p1.1 - p2.1) * p4.1))), some (.int x5), none] [some (.ref (12 + 3)), some (.int x1), some (.int x2), some (.int x3), some (.int (x4 + ((p1.1 - p2.1) * p4.1))), some (.int x5), some (.int (p1.1 - p2.1))] from ⟨rfl, ⟨rfl, ⟨rfl, ⟨rfl, ⟨rfl, ⟨rfl, trivial⟩⟩⟩⟩⟩⟩) (zyC58_68 hk6 h)
noncomputable def zyF58_6   (n : Nat) : Int32 → Int32 → Int32 → Int32 → Int32 → zy_S → Option (Int32 × zy_S) := Nat.rec (fun _ _ _ _ _ _ => none) (fun _ k6 => zyF58_6b k6) n
theorem zyC58_6 {X : zx_X}     : ∀ (n : Nat) (x1 : Int32) (x2 : Int32) (x3 : Int32) (x4 : Int32) (x5 : Int32) (s : zy_S) (r : Int32) (s' : zy_S), zyF58_6 n x1 x2 x3 x4 x5 s = some (r, s') → zyR X 4 58 6 [some (.ref (12 + 3)), some (.int x1), some (.int x2), some (.int x3), some (.int x4), some (.int x5), none] [] s (zyE (some (.int r)) s')
  | 0, _, _, _, _, _ => by
    intro s r s'  h
    have h : (none : Option (Int32 × zy_S)) = some (r, s') := h
    cases h
  | n + 1, x1, x2, x3, x4, x5 => by
    intro s r s'  h
    exact zyC58_6b (k6 := zyF58_6 n) (fun x1 x2 x3 x4 x5 s r s'  h => zyC58_6  n x1 x2 x3 x4 x5 s r s'  h) h
noncomputable def zyF58   (x1 : Int32) (x2 : Int32) (x3 : Int32) (s : zy_S) : Option (Int32 × zy_S) :=
zyF58_6 zy_fu x1 x2 x3 (0 : Int32) (0 : Int32) s
theorem zyC58 {X : zx_X}     {x1 : Int32} {x2 : Int32} {x3 : Int32} {s : zy_S} {r : Int32} {s' : zy_S}  (h : zyF58 x1 x2 x3 s = some (r, s')) : zyR X 4 58 0 [some (.ref (12 + 3)), some (.int x1), some (.int x2), some (.int x3), none, none, none] [] s (zyE (some (.int r)) s') := by
  unfold zyF58 at h
  refine zy_3 rfl rfl (show zyR _ _ _ _ [some (.ref (12 + 3)), some (.int x1), some (.int x2), some (.int x3), none, none, none] [.int (0 : Int32)] _ _ from ?_)
  refine zy_23 rfl rfl (show zyR _ _ _ _ [some (.ref (12 + 3)), some (.int x1), some (.int x2), some (.int x3), some (.int (0 : Int32)), none, none] [] _ _ from ?_)
  refine zy_3 rfl rfl (show zyR _ _ _ _ [some (.ref (12 + 3)), some (.int x1), some (.int x2), some (.int x3), some (.int (0 : Int32)), none, none] [.int (0 : Int32)] _ _ from ?_)
  refine zy_23 rfl rfl (show zyR _ _ _ _ [some (.ref (12 + 3)), some (.int x1), some (.int x2), some (.int x3), some (.int (0 : Int32)), some (.int (0 : Int32)), none] [] _ _ from ?_)
  exact zy_sub (show zy_le [some (.ref (12 + 3)), some (.int x1), some (.int x2), some (.int x3), some (.int (0 : Int32)), some (.int (0 : Int32)), none] [some (.ref (12 + 3)), some (.int x1), some (.int x2), some (.int x3), some (.int (0 : Int32)), some (.int (0 : Int32)), none] from ⟨rfl, ⟨rfl, ⟨rfl, ⟨rfl, ⟨rfl, ⟨rfl, trivial⟩⟩⟩⟩⟩⟩) (zyC58_6 zy_fu x1 x2 x3 (0 : Int32) (0 : Int32) s _ _ h)
/-! NineOpinions$Thought.onMatter(III)I -/
noncomputable def zyF55_44   (x4 : Int32) (s : zy_S) : Option (Int32 × zy_S) :=
if zy_in x4 1536 then
some ((s.1 13 (x4).toNatClampNeg), s)
else none
theorem zyC55_44 {X : zx_X}     {x4 : Int32} {s : zy_S} {r : Int32} {s' : zy_S}  (h : zyF55_44 x4 s = some (r, s')) : zyR X 5 55 44 [some (.ref (12 + 3)), none, none, none, some (.int x4)] [] s (zyE (some (.int r)) s') := by
  unfold zyF55_44 at h
  refine zy_0 rfl rfl (show zyR _ _ _ _ [some (.ref (12 + 3)), none, none, none, some (.int x4)] [.ref (12 + 3)] _ _ from ?_)
  refine zy_1r (c := 12) rfl rfl rfl (show zyR _ _ _ _ [some (.ref (12 + 3)), none, none, none, some (.int x4)] [.ref (13 + 3)] _ _ from ?_)
  refine zy_2 rfl rfl (show zyR _ _ _ _ [some (.ref (12 + 3)), none, none, none, some (.int x4)] [.int x4, .ref (13 + 3)] _ _ from ?_)
  obtain ⟨c1, h⟩ := zy_if h
  refine zy_26 (c := 13) rfl rfl c1 (show zyR _ _ _ _ [some (.ref (12 + 3)), none, none, none, some (.int x4)] [.int (s.1 13 (x4).toNatClampNeg)] _ _ from ?_)
  obtain ⟨rfl, rfl⟩ := zy_pi h
  exact zy_4 rfl ⟨rfl, rfl⟩
noncomputable def zyF55   (x1 : Int32) (x2 : Int32) (x3 : Int32) (s : zy_S) : Option (Int32 × zy_S) :=
(zyF56 x1 x2 x3 s).bind fun p2 =>
if zy_in p2.1 1536 then
if (p2.2.1 13 (p2.1).toNatClampNeg) ≠ (-2000000000 : Int32) then
zyF55_44 p2.1 p2.2
else
(zyF57 x2 x1 p2.2).bind fun p4 =>
(zyF57 (x2 &&& x3) x1 p4.2).bind fun p5 =>
(zyF58 x1 p4.1 p5.1 p5.2).bind fun p6 =>
if zy_in p2.1 1536 then
zyF55_44 p2.1 (zy_up p6.2 13 (p2.1).toNatClampNeg p6.1)
else none
else none
theorem zyC55 {X : zx_X}     {x1 : Int32} {x2 : Int32} {x3 : Int32} {s : zy_S} {r : Int32} {s' : zy_S}  (h : zyF55 x1 x2 x3 s = some (r, s')) : zyR X 5 55 0 [some (.ref (12 + 3)), some (.int x1), some (.int x2), some (.int x3), none] [] s (zyE (some (.int r)) s') := by
  unfold zyF55 at h
  refine zy_2 rfl rfl (show zyR _ _ _ _ [some (.ref (12 + 3)), some (.int x1), some (.int x2), some (.int x3), none] [.int x1] _ _ from ?_)
  refine zy_2 rfl rfl (show zyR _ _ _ _ [some (.ref (12 + 3)), some (.int x1), some (.int x2), some (.int x3), none] [.int x2, .int x1] _ _ from ?_)
  refine zy_2 rfl rfl (show zyR _ _ _ _ [some (.ref (12 + 3)), some (.int x1), some (.int x2), some (.int x3), none] [.int x3, .int x2, .int x1] _ _ from ?_)
  obtain ⟨p2, hp2, h⟩ := zy_bind h
  refine zy_60 (as := [.int x1, .int x2, .int x3]) (rest := []) (L := [some (.int x1), some (.int x2), some (.int x3)]) (d' := 2) rfl rfl (Nat.le_of_ble_eq_true rfl) (Nat.le_of_ble_eq_true rfl) rfl (Nat.le_of_ble_eq_true rfl) rfl rfl (zyC56 hp2) ?_
  show zyR _ _ _ _ [some (.ref (12 + 3)), some (.int x1), some (.int x2), some (.int x3), none] [.int p2.1] _ _
  refine zy_23 rfl rfl (show zyR _ _ _ _ [some (.ref (12 + 3)), some (.int x1), some (.int x2), some (.int x3), some (.int p2.1)] [] _ _ from ?_)
  refine zy_0 rfl rfl (show zyR _ _ _ _ [some (.ref (12 + 3)), some (.int x1), some (.int x2), some (.int x3), some (.int p2.1)] [.ref (12 + 3)] _ _ from ?_)
  refine zy_1r (c := 12) rfl rfl rfl (show zyR _ _ _ _ [some (.ref (12 + 3)), some (.int x1), some (.int x2), some (.int x3), some (.int p2.1)] [.ref (13 + 3)] _ _ from ?_)
  refine zy_2 rfl rfl (show zyR _ _ _ _ [some (.ref (12 + 3)), some (.int x1), some (.int x2), some (.int x3), some (.int p2.1)] [.int p2.1, .ref (13 + 3)] _ _ from ?_)
  obtain ⟨c3, h⟩ := zy_if h
  refine zy_26 (c := 13) rfl rfl c3 (show zyR _ _ _ _ [some (.ref (12 + 3)), some (.int x1), some (.int x2), some (.int x3), some (.int p2.1)] [.int (p2.2.1 13 (p2.1).toNatClampNeg)] _ _ from ?_)
  refine zy_3c rfl rfl (show zyR _ _ _ _ [some (.ref (12 + 3)), some (.int x1), some (.int x2), some (.int x3), some (.int p2.1)] [.int (-2000000000 : Int32), .int (p2.2.1 13 (p2.1).toNatClampNeg)] _ _ from ?_)
  refine zy_25_1 rfl (fun b8 => (show zyR _ _ _ _ [some (.ref (12 + 3)), some (.int x1), some (.int x2), some (.int x3), some (.int p2.1)] [] _ _ from ?_)) (fun b8 => (show zyR _ _ _ _ [some (.ref (12 + 3)), some (.int x1), some (.int x2), some (.int x3), some (.int p2.1)] [] _ _ from ?_))
  · replace h := zy_ifp h b8
    exact zy_sub (show zy_le [some (.ref (12 + 3)), none, none, none, some (.int p2.1)] [some (.ref (12 + 3)), some (.int x1), some (.int x2), some (.int x3), some (.int p2.1)] from ⟨rfl, ⟨rfl, trivial⟩⟩) (zyC55_44 h)
  · replace h := zy_ifn h b8
    refine zy_0 rfl rfl (show zyR _ _ _ _ [some (.ref (12 + 3)), some (.int x1), some (.int x2), some (.int x3), some (.int p2.1)] [.ref (12 + 3)] _ _ from ?_)
    refine zy_1r (c := 12) rfl rfl rfl (show zyR _ _ _ _ [some (.ref (12 + 3)), some (.int x1), some (.int x2), some (.int x3), some (.int p2.1)] [.ref (13 + 3)] _ _ from ?_)
    refine zy_2 rfl rfl (show zyR _ _ _ _ [some (.ref (12 + 3)), some (.int x1), some (.int x2), some (.int x3), some (.int p2.1)] [.int p2.1, .ref (13 + 3)] _ _ from ?_)
    refine zy_0 rfl rfl (show zyR _ _ _ _ [some (.ref (12 + 3)), some (.int x1), some (.int x2), some (.int x3), some (.int p2.1)] [.ref (12 + 3), .int p2.1, .ref (13 + 3)] _ _ from ?_)
    refine zy_2 rfl rfl (show zyR _ _ _ _ [some (.ref (12 + 3)), some (.int x1), some (.int x2), some (.int x3), some (.int p2.1)] [.int x1, .ref (12 + 3), .int p2.1, .ref (13 + 3)] _ _ from ?_)
    refine zy_2 rfl rfl (show zyR _ _ _ _ [some (.ref (12 + 3)), some (.int x1), some (.int x2), some (.int x3), some (.int p2.1)] [.int x2, .int x1, .ref (12 + 3), .int p2.1, .ref (13 + 3)] _ _ from ?_)
    refine zy_2 rfl rfl (show zyR _ _ _ _ [some (.ref (12 + 3)), some (.int x1), some (.int x2), some (.int x3), some (.int p2.1)] [.int x1, .int x2, .int x1, .ref (12 + 3), .int p2.1, .ref (13 + 3)] _ _ from ?_)
    obtain ⟨p4, hp4, h⟩ := zy_bind h
    refine zy_61 (as := [.int x2, .int x1]) (rest := [.int x1, .ref (12 + 3), .int p2.1, .ref (13 + 3)]) (L := [some (.int x2), some (.int x1)]) (d' := 1) rfl rfl (Nat.le_of_ble_eq_true rfl) (Nat.le_of_ble_eq_true rfl) rfl (Nat.le_of_ble_eq_true rfl) rfl rfl (zyC57 hp4) ?_
    show zyR _ _ _ _ [some (.ref (12 + 3)), some (.int x1), some (.int x2), some (.int x3), some (.int p2.1)] [.int p4.1, .int x1, .ref (12 + 3), .int p2.1, .ref (13 + 3)] _ _
    refine zy_2 rfl rfl (show zyR _ _ _ _ [some (.ref (12 + 3)), some (.int x1), some (.int x2), some (.int x3), some (.int p2.1)] [.int x2, .int p4.1, .int x1, .ref (12 + 3), .int p2.1, .ref (13 + 3)] _ _ from ?_)
    refine zy_2 rfl rfl (show zyR _ _ _ _ [some (.ref (12 + 3)), some (.int x1), some (.int x2), some (.int x3), some (.int p2.1)] [.int x3, .int x2, .int p4.1, .int x1, .ref (12 + 3), .int p2.1, .ref (13 + 3)] _ _ from ?_)
    refine zy_13 rfl (show zyR _ _ _ _ [some (.ref (12 + 3)), some (.int x1), some (.int x2), some (.int x3), some (.int p2.1)] [.int (x2 &&& x3), .int p4.1, .int x1, .ref (12 + 3), .int p2.1, .ref (13 + 3)] _ _ from ?_)
    refine zy_2 rfl rfl (show zyR _ _ _ _ [some (.ref (12 + 3)), some (.int x1), some (.int x2), some (.int x3), some (.int p2.1)] [.int x1, .int (x2 &&& x3), .int p4.1, .int x1, .ref (12 + 3), .int p2.1, .ref (13 + 3)] _ _ from ?_)
    obtain ⟨p5, hp5, h⟩ := zy_bind h
    refine zy_61 (as := [.int (x2 &&& x3), .int x1]) (rest := [.int p4.1, .int x1, .ref (12 + 3), .int p2.1, .ref (13 + 3)]) (L := [some (.int (x2 &&& x3)), some (.int x1)]) (d' := 1) rfl rfl (Nat.le_of_ble_eq_true rfl) (Nat.le_of_ble_eq_true rfl) rfl (Nat.le_of_ble_eq_true rfl) rfl rfl (zyC57 hp5) ?_
    show zyR _ _ _ _ [some (.ref (12 + 3)), some (.int x1), some (.int x2), some (.int x3), some (.int p2.1)] [.int p5.1, .int p4.1, .int x1, .ref (12 + 3), .int p2.1, .ref (13 + 3)] _ _
    obtain ⟨p6, hp6, h⟩ := zy_bind h
    refine zy_5 (c := 12) (as := [.int x1, .int p4.1, .int p5.1]) (rest := [.int p2.1, .ref (13 + 3)]) (L := [some (.ref (12 + 3)), some (.int x1), some (.int p4.1), some (.int p5.1), none, none, none]) (d' := 4) rfl rfl rfl (Nat.le_of_ble_eq_true rfl) (Nat.le_of_ble_eq_true rfl) rfl (Nat.le_of_ble_eq_true rfl) rfl rfl (zyC58 hp6) ?_
    show zyR _ _ _ _ [some (.ref (12 + 3)), some (.int x1), some (.int x2), some (.int x3), some (.int p2.1)] [.int p6.1, .int p2.1, .ref (13 + 3)] _ _
    obtain ⟨c7, h⟩ := zy_if h
    refine zy_27 (c := 13) rfl rfl c7 (show zyR _ _ _ _ [some (.ref (12 + 3)), some (.int x1), some (.int x2), some (.int x3), some (.int p2.1)] [] _ _ from ?_)
    exact zy_sub (show zy_le [some (.ref (12 + 3)), none, none, none, some (.int p2.1)] [some (.ref (12 + 3)), some (.int x1), some (.int x2), some (.int x3), some (.int p2.1)] from ⟨rfl, ⟨rfl, trivial⟩⟩) (zyC55_44 h)
/-! NineOpinions$Thought.inAll(II)I -/
noncomputable def zyF54_5b  (k5 : Int32 → Int32 → Int32 → Int32 → zy_S → Option (Int32 × zy_S)) (x1 : Int32) (x2 : Int32) (x3 : Int32) (x4 : Int32) (s : zy_S) : Option (Int32 × zy_S) :=
if (6 : Int32) ≤ x4 then
some (x3, s)
else
(zyF55 x4 x1 x2 s).bind fun p1 =>
k5 x1 x2 (x3 + p1.1) (x4 + (1 : Int32)) p1.2
theorem zyC54_5b {X : zx_X}  {k5 : Int32 → Int32 → Int32 → Int32 → zy_S → Option (Int32 × zy_S)}  (hk5 : ∀ (x1 : Int32) (x2 : Int32) (x3 : Int32) (x4 : Int32) (s : zy_S) (r : Int32) (s' : zy_S), k5 x1 x2 x3 x4 s = some (r, s') → zyR X 6 54 5 [some (.ref (12 + 3)), some (.int x1), some (.int x2), some (.int x3), some (.int x4)] [] s (zyE (some (.int r)) s')) {x1 : Int32} {x2 : Int32} {x3 : Int32} {x4 : Int32} {s : zy_S} {r : Int32} {s' : zy_S}  (h : zyF54_5b k5 x1 x2 x3 x4 s = some (r, s')) : zyR X 6 54 5 [some (.ref (12 + 3)), some (.int x1), some (.int x2), some (.int x3), some (.int x4)] [] s (zyE (some (.int r)) s') := by
  unfold zyF54_5b at h
  refine zy_2 rfl rfl (show zyR _ _ _ _ [some (.ref (12 + 3)), some (.int x1), some (.int x2), some (.int x3), some (.int x4)] [.int x4] _ _ from ?_)
  refine zy_3 rfl rfl (show zyR _ _ _ _ [some (.ref (12 + 3)), some (.int x1), some (.int x2), some (.int x3), some (.int x4)] [.int (6 : Int32), .int x4] _ _ from ?_)
  refine zy_25_3 rfl (fun b2 => (show zyR _ _ _ _ [some (.ref (12 + 3)), some (.int x1), some (.int x2), some (.int x3), some (.int x4)] [] _ _ from ?_)) (fun b2 => (show zyR _ _ _ _ [some (.ref (12 + 3)), some (.int x1), some (.int x2), some (.int x3), some (.int x4)] [] _ _ from ?_))
  · replace h := zy_ifp h b2
    refine zy_2 rfl rfl (show zyR _ _ _ _ [some (.ref (12 + 3)), some (.int x1), some (.int x2), some (.int x3), some (.int x4)] [.int x3] _ _ from ?_)
    obtain ⟨rfl, rfl⟩ := zy_pi h
    exact zy_4 rfl ⟨rfl, rfl⟩
  · replace h := zy_ifn h b2
    refine zy_2 rfl rfl (show zyR _ _ _ _ [some (.ref (12 + 3)), some (.int x1), some (.int x2), some (.int x3), some (.int x4)] [.int x3] _ _ from ?_)
    refine zy_0 rfl rfl (show zyR _ _ _ _ [some (.ref (12 + 3)), some (.int x1), some (.int x2), some (.int x3), some (.int x4)] [.ref (12 + 3), .int x3] _ _ from ?_)
    refine zy_2 rfl rfl (show zyR _ _ _ _ [some (.ref (12 + 3)), some (.int x1), some (.int x2), some (.int x3), some (.int x4)] [.int x4, .ref (12 + 3), .int x3] _ _ from ?_)
    refine zy_2 rfl rfl (show zyR _ _ _ _ [some (.ref (12 + 3)), some (.int x1), some (.int x2), some (.int x3), some (.int x4)] [.int x1, .int x4, .ref (12 + 3), .int x3] _ _ from ?_)
    refine zy_2 rfl rfl (show zyR _ _ _ _ [some (.ref (12 + 3)), some (.int x1), some (.int x2), some (.int x3), some (.int x4)] [.int x2, .int x1, .int x4, .ref (12 + 3), .int x3] _ _ from ?_)
    obtain ⟨p1, hp1, h⟩ := zy_bind h
    refine zy_5 (c := 12) (as := [.int x4, .int x1, .int x2]) (rest := [.int x3]) (L := [some (.ref (12 + 3)), some (.int x4), some (.int x1), some (.int x2), none]) (d' := 5) rfl rfl rfl (Nat.le_of_ble_eq_true rfl) (Nat.le_of_ble_eq_true rfl) rfl (Nat.le_of_ble_eq_true rfl) rfl rfl (zyC55 hp1) ?_
    show zyR _ _ _ _ [some (.ref (12 + 3)), some (.int x1), some (.int x2), some (.int x3), some (.int x4)] [.int p1.1, .int x3] _ _
    refine zy_10 rfl (show zyR _ _ _ _ [some (.ref (12 + 3)), some (.int x1), some (.int x2), some (.int x3), some (.int x4)] [.int (x3 + p1.1)] _ _ from ?_)
    refine zy_23 rfl rfl (show zyR _ _ _ _ [some (.ref (12 + 3)), some (.int x1), some (.int x2), some (.int (x3 + p1.1)), some (.int x4)] [] _ _ from ?_)
    refine zy_22 rfl rfl rfl rfl (show zyR _ _ _ _ [some (.ref (12 + 3)), some (.int x1), some (.int x2), some (.int (x3 + p1.1)), some (.int (x4 + (1 : Int32)))] [] _ _ from ?_)
    refine zy_6 rfl (show zyR _ _ _ _ [some (.ref (12 + 3)), some (.int x1), some (.int x2), some (.int (x3 + p1.1)), some (.int (x4 + (1 : Int32)))] [] _ _ from ?_)
    exact zy_sub (show zy_le [some (.ref (12 + 3)), some (.int x1), some (.int x2), some (.int (x3 + p1.1)), some (.int (x4 + (1 : Int32)))] [some (.ref (12 + 3)), some (.int x1), some (.int x2), some (.int (x3 + p1.1)), some (.int (x4 + (1 : Int32)))] from ⟨rfl, ⟨rfl, ⟨rfl, ⟨rfl, ⟨rfl, trivial⟩⟩⟩⟩⟩) (hk5 x1 x2 (x3 + p1.1) (x4 + (1 : Int32)) p1.2 _ _ h)
noncomputable def zyF54_5   (n : Nat) : Int32 → Int32 → Int32 → Int32 → zy_S → Option (Int32 × zy_S) := Nat.rec (fun _ _ _ _ _ => none) (fun _ k5 => zyF54_5b k5) n
theorem zyC54_5 {X : zx_X}     : ∀ (n : Nat) (x1 : Int32) (x2 : Int32) (x3 : Int32) (x4 : Int32) (s : zy_S) (r : Int32) (s' : zy_S), zyF54_5 n x1 x2 x3 x4 s = some (r, s') → zyR X 6 54 5 [some (.ref (12 + 3)), some (.int x1), some (.int x2), some (.int x3), some (.int x4)] [] s (zyE (some (.int r)) s')
  | 0, _, _, _, _ => by
    intro s r s'  h
    have h : (none : Option (Int32 × zy_S)) = some (r, s') := h
    cases h
  | n + 1, x1, x2, x3, x4 => by
    intro s r s'  h
    exact zyC54_5b (k5 := zyF54_5 n) (fun x1 x2 x3 x4 s r s'  h => zyC54_5  n x1 x2 x3 x4 s r s'  h) h
noncomputable def zyF54   (x1 : Int32) (x2 : Int32) (s : zy_S) : Option (Int32 × zy_S) :=
zyF54_5 zy_fu x1 x2 (0 : Int32) (0 : Int32) s
theorem zyC54 {X : zx_X}     {x1 : Int32} {x2 : Int32} {s : zy_S} {r : Int32} {s' : zy_S}  (h : zyF54 x1 x2 s = some (r, s')) : zyR X 6 54 0 [some (.ref (12 + 3)), some (.int x1), some (.int x2), none, none] [] s (zyE (some (.int r)) s') := by
  unfold zyF54 at h
  refine zy_3 rfl rfl (show zyR _ _ _ _ [some (.ref (12 + 3)), some (.int x1), some (.int x2), none, none] [.int (0 : Int32)] _ _ from ?_)
  refine zy_23 rfl rfl (show zyR _ _ _ _ [some (.ref (12 + 3)), some (.int x1), some (.int x2), some (.int (0 : Int32)), none] [] _ _ from ?_)
  refine zy_3 rfl rfl (show zyR _ _ _ _ [some (.ref (12 + 3)), some (.int x1), some (.int x2), some (.int (0 : Int32)), none] [.int (0 : Int32)] _ _ from ?_)
  refine zy_23 rfl rfl (show zyR _ _ _ _ [some (.ref (12 + 3)), some (.int x1), some (.int x2), some (.int (0 : Int32)), some (.int (0 : Int32))] [] _ _ from ?_)
  exact zy_sub (show zy_le [some (.ref (12 + 3)), some (.int x1), some (.int x2), some (.int (0 : Int32)), some (.int (0 : Int32))] [some (.ref (12 + 3)), some (.int x1), some (.int x2), some (.int (0 : Int32)), some (.int (0 : Int32))] from ⟨rfl, ⟨rfl, ⟨rfl, ⟨rfl, ⟨rfl, trivial⟩⟩⟩⟩⟩) (zyC54_5 zy_fu x1 x2 (0 : Int32) (0 : Int32) s _ _ h)
