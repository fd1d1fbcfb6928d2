/-! PART 41.100: methods as functions. Made by wip/v4/dcp.py. -/
/-! NineOpinions$Law.worth()I -/
noncomputable def zyF65_145  (k23 : Int32 → Int32 → zy_S → Option (Int32 × zy_S)) (x1 : Int32) (x2 : Int32) (s : zy_S) : Option (Int32 × zy_S) :=
k23 x1 (x2 + (1 : Int32)) s
theorem zyC65_145 {X : zx_X}  {k23 : Int32 → Int32 → zy_S → Option (Int32 × zy_S)}  (hk23 : ∀ (x1 : Int32) (x2 : Int32) (s : zy_S) (r : Int32) (s' : zy_S), k23 x1 x2 s = some (r, s') → zyR X 3 65 23 [some (.ref (5 + 3)), some (.int x1), some (.int x2), none] [] s (zyE (some (.int r)) s')) {x1 : Int32} {x2 : Int32} {s : zy_S} {r : Int32} {s' : zy_S}  (h : zyF65_145 k23 x1 x2 s = some (r, s')) : zyR X 3 65 145 [some (.ref (5 + 3)), some (.int x1), some (.int x2), none] [] s (zyE (some (.int r)) s') := by
  unfold zyF65_145 at h
  refine zy_22 rfl rfl rfl rfl (show zyR _ _ _ _ [some (.ref (5 + 3)), some (.int x1), some (.int (x2 + (1 : Int32))), none] [] _ _ from ?_)
  refine zy_6 rfl (show zyR _ _ _ _ [some (.ref (5 + 3)), some (.int x1), some (.int (x2 + (1 : Int32))), none] [] _ _ from ?_)
  exact zy_sub (show zy_le [some (.ref (5 + 3)), some (.int x1), some (.int (x2 + (1 : Int32))), none] [some (.ref (5 + 3)), some (.int x1), some (.int (x2 + (1 : Int32))), none] from ⟨rfl, ⟨rfl, ⟨rfl, trivial⟩⟩⟩) (hk23 x1 (x2 + (1 : Int32)) s _ _ h)
noncomputable def zyF65_127  (k23 : Int32 → Int32 → zy_S → Option (Int32 × zy_S)) (x2 : Int32) (y0 : Int32) (s : zy_S) : Option (Int32 × zy_S) :=
zyF65_145 k23 y0 x2 s
theorem zyC65_127 {X : zx_X}  {k23 : Int32 → Int32 → zy_S → Option (Int32 × zy_S)}  (hk23 : ∀ (x1 : Int32) (x2 : Int32) (s : zy_S) (r : Int32) (s' : zy_S), k23 x1 x2 s = some (r, s') → zyR X 3 65 23 [some (.ref (5 + 3)), some (.int x1), some (.int x2), none] [] s (zyE (some (.int r)) s')) {x2 : Int32} {y0 : Int32} {s : zy_S} {r : Int32} {s' : zy_S}  (h : zyF65_127 k23 x2 y0 s = some (r, s')) : zyR X 3 65 127 [some (.ref (5 + 3)), none, some (.int x2), none] [.int y0] s (zyE (some (.int r)) s') := by
  unfold zyF65_127 at h
  refine zy_23 rfl rfl (show zyR _ _ _ _ [some (.ref (5 + 3)), some (.int y0), some (.int x2), none] [] _ _ from ?_)
  refine zy_6 rfl (show zyR _ _ _ _ [some (.ref (5 + 3)), some (.int y0), some (.int x2), none] [] _ _ from ?_)
  exact zy_sub (show zy_le [some (.ref (5 + 3)), some (.int y0), some (.int x2), none] [some (.ref (5 + 3)), some (.int y0), some (.int x2), none] from ⟨rfl, ⟨rfl, ⟨rfl, trivial⟩⟩⟩) (zyC65_145 hk23 h)
noncomputable def zyF65_83  (k23 : Int32 → Int32 → zy_S → Option (Int32 × zy_S)) (x1 : Int32) (x2 : Int32) (y0 : Int32) (s : zy_S) : Option (Int32 × zy_S) :=
(zyF66 y0 s).bind fun p1 =>
zyF65_145 k23 x1 x2 p1.2
theorem zyC65_83 {X : zx_X}  {k23 : Int32 → Int32 → zy_S → Option (Int32 × zy_S)}  (hk23 : ∀ (x1 : Int32) (x2 : Int32) (s : zy_S) (r : Int32) (s' : zy_S), k23 x1 x2 s = some (r, s') → zyR X 3 65 23 [some (.ref (5 + 3)), some (.int x1), some (.int x2), none] [] s (zyE (some (.int r)) s')) {x1 : Int32} {x2 : Int32} {y0 : Int32} {s : zy_S} {r : Int32} {s' : zy_S}  (h : zyF65_83 k23 x1 x2 y0 s = some (r, s')) : zyR X 3 65 83 [some (.ref (5 + 3)), some (.int x1), some (.int x2), none] [.int y0, .ref (5 + 3)] s (zyE (some (.int r)) s') := by
  unfold zyF65_83 at h
  obtain ⟨p1, hp1, h⟩ := zy_bind h
  refine zy_5 (c := 5) (as := [.int y0]) (rest := []) (L := [some (.ref (5 + 3)), some (.int y0)]) (d' := 1) rfl rfl rfl (Nat.le_of_ble_eq_true rfl) (Nat.le_of_ble_eq_true rfl) rfl (Nat.le_of_ble_eq_true rfl) rfl rfl (zyC66 hp1) ?_
  show zyR _ _ _ _ [some (.ref (5 + 3)), some (.int x1), some (.int x2), none] [] _ _
  refine zy_6 rfl (show zyR _ _ _ _ [some (.ref (5 + 3)), some (.int x1), some (.int x2), none] [] _ _ from ?_)
  exact zy_sub (show zy_le [some (.ref (5 + 3)), some (.int x1), some (.int x2), none] [some (.ref (5 + 3)), some (.int x1), some (.int x2), none] from ⟨rfl, ⟨rfl, ⟨rfl, trivial⟩⟩⟩) (zyC65_145 hk23 h)
noncomputable def zyF65_53  (k23 : Int32 → Int32 → zy_S → Option (Int32 × zy_S)) (x2 : Int32) (y0 : Int32) (s : zy_S) : Option (Int32 × zy_S) :=
zyF65_145 k23 y0 x2 s
theorem zyC65_53 {X : zx_X}  {k23 : Int32 → Int32 → zy_S → Option (Int32 × zy_S)}  (hk23 : ∀ (x1 : Int32) (x2 : Int32) (s : zy_S) (r : Int32) (s' : zy_S), k23 x1 x2 s = some (r, s') → zyR X 3 65 23 [some (.ref (5 + 3)), some (.int x1), some (.int x2), none] [] s (zyE (some (.int r)) s')) {x2 : Int32} {y0 : Int32} {s : zy_S} {r : Int32} {s' : zy_S}  (h : zyF65_53 k23 x2 y0 s = some (r, s')) : zyR X 3 65 53 [some (.ref (5 + 3)), none, some (.int x2), none] [.int y0] s (zyE (some (.int r)) s') := by
  unfold zyF65_53 at h
  refine zy_23 rfl rfl (show zyR _ _ _ _ [some (.ref (5 + 3)), some (.int y0), some (.int x2), none] [] _ _ from ?_)
  refine zy_6 rfl (show zyR _ _ _ _ [some (.ref (5 + 3)), some (.int y0), some (.int x2), none] [] _ _ from ?_)
  exact zy_sub (show zy_le [some (.ref (5 + 3)), some (.int y0), some (.int x2), none] [some (.ref (5 + 3)), some (.int y0), some (.int x2), none] from ⟨rfl, ⟨rfl, ⟨rfl, trivial⟩⟩⟩) (zyC65_145 hk23 h)
noncomputable def zyF65_23b  (k23 : Int32 → Int32 → zy_S → Option (Int32 × zy_S)) (x1 : Int32) (x2 : Int32) (s : zy_S) : Option (Int32 × zy_S) :=
if (s.1 5 3) ≤ x2 then
some ((0 : Int32), s)
else
if zy_in x2 128 then
if x1 = 0 then
if (s.1 6 (x2).toNatClampNeg) < 0 then
if (s.1 6 (x2).toNatClampNeg) ≠ (-59 : Int32) then
if (s.1 6 (x2).toNatClampNeg) ≠ (-63 : Int32) then
(zyF67 s).bind fun p3 =>
(zyF70 (-(s.1 6 (x2).toNatClampNeg)) p3.1 p3.2).bind fun p4 =>
(zyF66 p4.1 p4.2).bind fun p5 =>
zyF65_145 k23 x1 x2 p5.2
else
(zyF67 s).bind fun p6 =>
if p6.1 ≠ 0 then
zyF65_127 k23 x2 (0 : Int32) p6.2
else
zyF65_127 k23 x2 (1 : Int32) p6.2
else
(zyF67 s).bind fun p9 =>
(zyF68 (99 : Int32) p9.1 p9.2).bind fun p10 =>
(zyF69 (0 : Int32) p10.1 p10.2).bind fun p11 =>
some (p11.1, p11.2)
else
if (10000 : Int32) ≤ (s.1 6 (x2).toNatClampNeg) then
if zy_in ((s.1 6 (x2).toNatClampNeg) - (10000 : Int32)) 6 then
zyF65_83 k23 x1 x2 (s.1 8 (((s.1 6 (x2).toNatClampNeg) - (10000 : Int32))).toNatClampNeg) s
else none
else
zyF65_83 k23 x1 x2 (s.1 6 (x2).toNatClampNeg) s
else
if (s.1 6 (x2).toNatClampNeg) = (-59 : Int32) then
zyF65_53 k23 x2 (0 : Int32) s
else
zyF65_53 k23 x2 (1 : Int32) s
else none
theorem zyC65_23b {X : zx_X}  {k23 : Int32 → Int32 → zy_S → Option (Int32 × zy_S)}  (hk23 : ∀ (x1 : Int32) (x2 : Int32) (s : zy_S) (r : Int32) (s' : zy_S), k23 x1 x2 s = some (r, s') → zyR X 3 65 23 [some (.ref (5 + 3)), some (.int x1), some (.int x2), none] [] s (zyE (some (.int r)) s')) {x1 : Int32} {x2 : Int32} {s : zy_S} {r : Int32} {s' : zy_S}  (h : zyF65_23b k23 x1 x2 s = some (r, s')) : zyR X 3 65 23 [some (.ref (5 + 3)), some (.int x1), some (.int x2), none] [] s (zyE (some (.int r)) s') := by
  unfold zyF65_23b at h
  refine zy_2 rfl rfl (show zyR _ _ _ _ [some (.ref (5 + 3)), some (.int x1), some (.int x2), none] [.int x2] _ _ from ?_)
  refine zy_0 rfl rfl (show zyR _ _ _ _ [some (.ref (5 + 3)), some (.int x1), some (.int x2), none] [.ref (5 + 3), .int x2] _ _ from ?_)
  refine zy_1 (c := 5) rfl rfl rfl (show zyR _ _ _ _ [some (.ref (5 + 3)), some (.int x1), some (.int x2), none] [.int (s.1 5 3), .int x2] _ _ from ?_)
  refine zy_25_3 rfl (fun b18 => (show zyR _ _ _ _ [some (.ref (5 + 3)), some (.int x1), some (.int x2), none] [] _ _ from ?_)) (fun b18 => (show zyR _ _ _ _ [some (.ref (5 + 3)), some (.int x1), some (.int x2), none] [] _ _ from ?_))
  · replace h := zy_ifp h b18
    refine zy_3 rfl rfl (show zyR _ _ _ _ [some (.ref (5 + 3)), some (.int x1), some (.int x2), none] [.int (0 : Int32)] _ _ from ?_)
    obtain ⟨rfl, rfl⟩ := zy_pi h
    exact zy_4 rfl ⟨rfl, rfl⟩
  · replace h := zy_ifn h b18
    refine zy_0 rfl rfl (show zyR _ _ _ _ [some (.ref (5 + 3)), some (.int x1), some (.int x2), none] [.ref (5 + 3)] _ _ from ?_)
    refine zy_1r (c := 5) rfl rfl rfl (show zyR _ _ _ _ [some (.ref (5 + 3)), some (.int x1), some (.int x2), none] [.ref (6 + 3)] _ _ from ?_)
    refine zy_2 rfl rfl (show zyR _ _ _ _ [some (.ref (5 + 3)), some (.int x1), some (.int x2), none] [.int x2, .ref (6 + 3)] _ _ from ?_)
    obtain ⟨c2, h⟩ := zy_if h
    refine zy_26 (c := 6) rfl rfl c2 (show zyR _ _ _ _ [some (.ref (5 + 3)), some (.int x1), some (.int x2), none] [.int (s.1 6 (x2).toNatClampNeg)] _ _ from ?_)
    refine zy_23 rfl rfl (show zyR _ _ _ _ [some (.ref (5 + 3)), some (.int x1), some (.int x2), some (.int (s.1 6 (x2).toNatClampNeg))] [] _ _ from ?_)
    refine zy_2 rfl rfl (show zyR _ _ _ _ [some (.ref (5 + 3)), some (.int x1), some (.int x2), some (.int (s.1 6 (x2).toNatClampNeg))] [.int x1] _ _ from ?_)
    refine zy_24_0 rfl (fun b17 => (show zyR _ _ _ _ [some (.ref (5 + 3)), some (.int x1), some (.int x2), some (.int (s.1 6 (x2).toNatClampNeg))] [] _ _ from ?_)) (fun b17 => (show zyR _ _ _ _ [some (.ref (5 + 3)), some (.int x1), some (.int x2), some (.int (s.1 6 (x2).toNatClampNeg))] [] _ _ from ?_))
    · replace h := zy_ifp h b17
      refine zy_2 rfl rfl (show zyR _ _ _ _ [some (.ref (5 + 3)), some (.int x1), some (.int x2), some (.int (s.1 6 (x2).toNatClampNeg))] [.int (s.1 6 (x2).toNatClampNeg)] _ _ from ?_)
      refine zy_24_2 rfl (fun b15 => (show zyR _ _ _ _ [some (.ref (5 + 3)), some (.int x1), some (.int x2), some (.int (s.1 6 (x2).toNatClampNeg))] [] _ _ from ?_)) (fun b15 => (show zyR _ _ _ _ [some (.ref (5 + 3)), some (.int x1), some (.int x2), some (.int (s.1 6 (x2).toNatClampNeg))] [] _ _ from ?_))
      · replace h := zy_ifp h b15
        refine zy_2 rfl rfl (show zyR _ _ _ _ [some (.ref (5 + 3)), some (.int x1), some (.int x2), some (.int (s.1 6 (x2).toNatClampNeg))] [.int (s.1 6 (x2).toNatClampNeg)] _ _ from ?_)
        refine zy_3 rfl rfl (show zyR _ _ _ _ [some (.ref (5 + 3)), some (.int x1), some (.int x2), some (.int (s.1 6 (x2).toNatClampNeg))] [.int (-59 : Int32), .int (s.1 6 (x2).toNatClampNeg)] _ _ from ?_)
        refine zy_25_1 rfl (fun b12 => (show zyR _ _ _ _ [some (.ref (5 + 3)), some (.int x1), some (.int x2), some (.int (s.1 6 (x2).toNatClampNeg))] [] _ _ from ?_)) (fun b12 => (show zyR _ _ _ _ [some (.ref (5 + 3)), some (.int x1), some (.int x2), some (.int (s.1 6 (x2).toNatClampNeg))] [] _ _ from ?_))
        · replace h := zy_ifp h b12
          refine zy_2 rfl rfl (show zyR _ _ _ _ [some (.ref (5 + 3)), some (.int x1), some (.int x2), some (.int (s.1 6 (x2).toNatClampNeg))] [.int (s.1 6 (x2).toNatClampNeg)] _ _ from ?_)
          refine zy_3 rfl rfl (show zyR _ _ _ _ [some (.ref (5 + 3)), some (.int x1), some (.int x2), some (.int (s.1 6 (x2).toNatClampNeg))] [.int (-63 : Int32), .int (s.1 6 (x2).toNatClampNeg)] _ _ from ?_)
          refine zy_25_1 rfl (fun b8 => (show zyR _ _ _ _ [some (.ref (5 + 3)), some (.int x1), some (.int x2), some (.int (s.1 6 (x2).toNatClampNeg))] [] _ _ from ?_)) (fun b8 => (show zyR _ _ _ _ [some (.ref (5 + 3)), some (.int x1), some (.int x2), some (.int (s.1 6 (x2).toNatClampNeg))] [] _ _ from ?_))
          · replace h := zy_ifp h b8
            refine zy_0 rfl rfl (show zyR _ _ _ _ [some (.ref (5 + 3)), some (.int x1), some (.int x2), some (.int (s.1 6 (x2).toNatClampNeg))] [.ref (5 + 3)] _ _ from ?_)
            refine zy_0 rfl rfl (show zyR _ _ _ _ [some (.ref (5 + 3)), some (.int x1), some (.int x2), some (.int (s.1 6 (x2).toNatClampNeg))] [.ref (5 + 3), .ref (5 + 3)] _ _ from ?_)
            refine zy_2 rfl rfl (show zyR _ _ _ _ [some (.ref (5 + 3)), some (.int x1), some (.int x2), some (.int (s.1 6 (x2).toNatClampNeg))] [.int (s.1 6 (x2).toNatClampNeg), .ref (5 + 3), .ref (5 + 3)] _ _ from ?_)
            refine zy_21 rfl (show zyR _ _ _ _ [some (.ref (5 + 3)), some (.int x1), some (.int x2), some (.int (s.1 6 (x2).toNatClampNeg))] [.int (-(s.1 6 (x2).toNatClampNeg)), .ref (5 + 3), .ref (5 + 3)] _ _ from ?_)
            refine zy_0 rfl rfl (show zyR _ _ _ _ [some (.ref (5 + 3)), some (.int x1), some (.int x2), some (.int (s.1 6 (x2).toNatClampNeg))] [.ref (5 + 3), .int (-(s.1 6 (x2).toNatClampNeg)), .ref (5 + 3), .ref (5 + 3)] _ _ from ?_)
            obtain ⟨p3, hp3, h⟩ := zy_bind h
            refine zy_5 (c := 5) (as := []) (rest := [.int (-(s.1 6 (x2).toNatClampNeg)), .ref (5 + 3), .ref (5 + 3)]) (L := [some (.ref (5 + 3))]) (d' := 1) rfl rfl rfl (Nat.le_of_ble_eq_true rfl) (Nat.le_of_ble_eq_true rfl) rfl (Nat.le_of_ble_eq_true rfl) rfl rfl (zyC67 hp3) ?_
            show zyR _ _ _ _ [some (.ref (5 + 3)), some (.int x1), some (.int x2), some (.int (s.1 6 (x2).toNatClampNeg))] [.int p3.1, .int (-(s.1 6 (x2).toNatClampNeg)), .ref (5 + 3), .ref (5 + 3)] _ _
            obtain ⟨p4, hp4, h⟩ := zy_bind h
            refine zy_5 (c := 5) (as := [.int (-(s.1 6 (x2).toNatClampNeg)), .int p3.1]) (rest := [.ref (5 + 3)]) (L := [some (.ref (5 + 3)), some (.int (-(s.1 6 (x2).toNatClampNeg))), some (.int p3.1)]) (d' := 2) rfl rfl rfl (Nat.le_of_ble_eq_true rfl) (Nat.le_of_ble_eq_true rfl) rfl (Nat.le_of_ble_eq_true rfl) rfl rfl (zyC70 hp4) ?_
            show zyR _ _ _ _ [some (.ref (5 + 3)), some (.int x1), some (.int x2), some (.int (s.1 6 (x2).toNatClampNeg))] [.int p4.1, .ref (5 + 3)] _ _
            obtain ⟨p5, hp5, h⟩ := zy_bind h
            refine zy_5 (c := 5) (as := [.int p4.1]) (rest := []) (L := [some (.ref (5 + 3)), some (.int p4.1)]) (d' := 1) rfl rfl rfl (Nat.le_of_ble_eq_true rfl) (Nat.le_of_ble_eq_true rfl) rfl (Nat.le_of_ble_eq_true rfl) rfl rfl (zyC66 hp5) ?_
            show zyR _ _ _ _ [some (.ref (5 + 3)), some (.int x1), some (.int x2), some (.int (s.1 6 (x2).toNatClampNeg))] [] _ _
            exact zy_sub (show zy_le [some (.ref (5 + 3)), some (.int x1), some (.int x2), none] [some (.ref (5 + 3)), some (.int x1), some (.int x2), some (.int (s.1 6 (x2).toNatClampNeg))] from ⟨rfl, ⟨rfl, ⟨rfl, trivial⟩⟩⟩) (zyC65_145 hk23 h)
          · replace h := zy_ifn h b8
            refine zy_0 rfl rfl (show zyR _ _ _ _ [some (.ref (5 + 3)), some (.int x1), some (.int x2), some (.int (s.1 6 (x2).toNatClampNeg))] [.ref (5 + 3)] _ _ from ?_)
            obtain ⟨p6, hp6, h⟩ := zy_bind h
            refine zy_5 (c := 5) (as := []) (rest := []) (L := [some (.ref (5 + 3))]) (d' := 1) rfl rfl rfl (Nat.le_of_ble_eq_true rfl) (Nat.le_of_ble_eq_true rfl) rfl (Nat.le_of_ble_eq_true rfl) rfl rfl (zyC67 hp6) ?_
            show zyR _ _ _ _ [some (.ref (5 + 3)), some (.int x1), some (.int x2), some (.int (s.1 6 (x2).toNatClampNeg))] [.int p6.1] _ _
            refine zy_24_1 rfl (fun b7 => (show zyR _ _ _ _ [some (.ref (5 + 3)), some (.int x1), some (.int x2), some (.int (s.1 6 (x2).toNatClampNeg))] [] _ _ from ?_)) (fun b7 => (show zyR _ _ _ _ [some (.ref (5 + 3)), some (.int x1), some (.int x2), some (.int (s.1 6 (x2).toNatClampNeg))] [] _ _ from ?_))
            · replace h := zy_ifp h b7
              refine zy_3 rfl rfl (show zyR _ _ _ _ [some (.ref (5 + 3)), some (.int x1), some (.int x2), some (.int (s.1 6 (x2).toNatClampNeg))] [.int (0 : Int32)] _ _ from ?_)
              exact zy_sub (show zy_le [some (.ref (5 + 3)), none, some (.int x2), none] [some (.ref (5 + 3)), some (.int x1), some (.int x2), some (.int (s.1 6 (x2).toNatClampNeg))] from ⟨rfl, ⟨rfl, trivial⟩⟩) (zyC65_127 hk23 h)
            · replace h := zy_ifn h b7
              refine zy_3 rfl rfl (show zyR _ _ _ _ [some (.ref (5 + 3)), some (.int x1), some (.int x2), some (.int (s.1 6 (x2).toNatClampNeg))] [.int (1 : Int32)] _ _ from ?_)
              refine zy_6 rfl (show zyR _ _ _ _ [some (.ref (5 + 3)), some (.int x1), some (.int x2), some (.int (s.1 6 (x2).toNatClampNeg))] [.int (1 : Int32)] _ _ from ?_)
              exact zy_sub (show zy_le [some (.ref (5 + 3)), none, some (.int x2), none] [some (.ref (5 + 3)), some (.int x1), some (.int x2), some (.int (s.1 6 (x2).toNatClampNeg))] from ⟨rfl, ⟨rfl, trivial⟩⟩) (zyC65_127 hk23 h)
        · replace h := zy_ifn h b12
          refine zy_3 rfl rfl (show zyR _ _ _ _ [some (.ref (5 + 3)), some (.int x1), some (.int x2), some (.int (s.1 6 (x2).toNatClampNeg))] [.int (0 : Int32)] _ _ from ?_)
          refine zy_3 rfl rfl (show zyR _ _ _ _ [some (.ref (5 + 3)), some (.int x1), some (.int x2), some (.int (s.1 6 (x2).toNatClampNeg))] [.int (99 : Int32), .int (0 : Int32)] _ _ from ?_)
          refine zy_0 rfl rfl (show zyR _ _ _ _ [some (.ref (5 + 3)), some (.int x1), some (.int x2), some (.int (s.1 6 (x2).toNatClampNeg))] [.ref (5 + 3), .int (99 : Int32), .int (0 : Int32)] _ _ from ?_)
          obtain ⟨p9, hp9, h⟩ := zy_bind h
          refine zy_5 (c := 5) (as := []) (rest := [.int (99 : Int32), .int (0 : Int32)]) (L := [some (.ref (5 + 3))]) (d' := 1) rfl rfl rfl (Nat.le_of_ble_eq_true rfl) (Nat.le_of_ble_eq_true rfl) rfl (Nat.le_of_ble_eq_true rfl) rfl rfl (zyC67 hp9) ?_
          show zyR _ _ _ _ [some (.ref (5 + 3)), some (.int x1), some (.int x2), some (.int (s.1 6 (x2).toNatClampNeg))] [.int p9.1, .int (99 : Int32), .int (0 : Int32)] _ _
          obtain ⟨p10, hp10, h⟩ := zy_bind h
          refine zy_60 (as := [.int (99 : Int32), .int p9.1]) (rest := [.int (0 : Int32)]) (L := [some (.int (99 : Int32)), some (.int p9.1)]) (d' := 1) rfl rfl (Nat.le_of_ble_eq_true rfl) (Nat.le_of_ble_eq_true rfl) rfl (Nat.le_of_ble_eq_true rfl) rfl rfl (zyC68 hp10) ?_
          show zyR _ _ _ _ [some (.ref (5 + 3)), some (.int x1), some (.int x2), some (.int (s.1 6 (x2).toNatClampNeg))] [.int p10.1, .int (0 : Int32)] _ _
          obtain ⟨p11, hp11, h⟩ := zy_bind h
          refine zy_60 (as := [.int (0 : Int32), .int p10.1]) (rest := []) (L := [some (.int (0 : Int32)), some (.int p10.1)]) (d' := 1) rfl rfl (Nat.le_of_ble_eq_true rfl) (Nat.le_of_ble_eq_true rfl) rfl (Nat.le_of_ble_eq_true rfl) rfl rfl (zyC69 hp11) ?_
          show zyR _ _ _ _ [some (.ref (5 + 3)), some (.int x1), some (.int x2), some (.int (s.1 6 (x2).toNatClampNeg))] [.int p11.1] _ _
          obtain ⟨rfl, rfl⟩ := zy_pi h
          exact zy_4 rfl ⟨rfl, rfl⟩
      · replace h := zy_ifn h b15
        refine zy_0 rfl rfl (show zyR _ _ _ _ [some (.ref (5 + 3)), some (.int x1), some (.int x2), some (.int (s.1 6 (x2).toNatClampNeg))] [.ref (5 + 3)] _ _ from ?_)
        refine zy_2 rfl rfl (show zyR _ _ _ _ [some (.ref (5 + 3)), some (.int x1), some (.int x2), some (.int (s.1 6 (x2).toNatClampNeg))] [.int (s.1 6 (x2).toNatClampNeg), .ref (5 + 3)] _ _ from ?_)
        refine zy_3 rfl rfl (show zyR _ _ _ _ [some (.ref (5 + 3)), some (.int x1), some (.int x2), some (.int (s.1 6 (x2).toNatClampNeg))] [.int (10000 : Int32), .int (s.1 6 (x2).toNatClampNeg), .ref (5 + 3)] _ _ from ?_)
        refine zy_25_3 rfl (fun b14 => (show zyR _ _ _ _ [some (.ref (5 + 3)), some (.int x1), some (.int x2), some (.int (s.1 6 (x2).toNatClampNeg))] [.ref (5 + 3)] _ _ from ?_)) (fun b14 => (show zyR _ _ _ _ [some (.ref (5 + 3)), some (.int x1), some (.int x2), some (.int (s.1 6 (x2).toNatClampNeg))] [.ref (5 + 3)] _ _ from ?_))
        · replace h := zy_ifp h b14
          refine zy_0 rfl rfl (show zyR _ _ _ _ [some (.ref (5 + 3)), some (.int x1), some (.int x2), some (.int (s.1 6 (x2).toNatClampNeg))] [.ref (5 + 3), .ref (5 + 3)] _ _ from ?_)
          refine zy_1r (c := 5) rfl rfl rfl (show zyR _ _ _ _ [some (.ref (5 + 3)), some (.int x1), some (.int x2), some (.int (s.1 6 (x2).toNatClampNeg))] [.ref (8 + 3), .ref (5 + 3)] _ _ from ?_)
          refine zy_2 rfl rfl (show zyR _ _ _ _ [some (.ref (5 + 3)), some (.int x1), some (.int x2), some (.int (s.1 6 (x2).toNatClampNeg))] [.int (s.1 6 (x2).toNatClampNeg), .ref (8 + 3), .ref (5 + 3)] _ _ from ?_)
          refine zy_3 rfl rfl (show zyR _ _ _ _ [some (.ref (5 + 3)), some (.int x1), some (.int x2), some (.int (s.1 6 (x2).toNatClampNeg))] [.int (10000 : Int32), .int (s.1 6 (x2).toNatClampNeg), .ref (8 + 3), .ref (5 + 3)] _ _ from ?_)
          refine zy_11 rfl (show zyR _ _ _ _ [some (.ref (5 + 3)), some (.int x1), some (.int x2), some (.int (s.1 6 (x2).toNatClampNeg))] [.int ((s.1 6 (x2).toNatClampNeg) - (10000 : Int32)), .ref (8 + 3), .ref (5 + 3)] _ _ from ?_)
          obtain ⟨c13, h⟩ := zy_if h
          refine zy_26 (c := 8) rfl rfl c13 (show zyR _ _ _ _ [some (.ref (5 + 3)), some (.int x1), some (.int x2), some (.int (s.1 6 (x2).toNatClampNeg))] [.int (s.1 8 (((s.1 6 (x2).toNatClampNeg) - (10000 : Int32))).toNatClampNeg), .ref (5 + 3)] _ _ from ?_)
          exact zy_sub (show zy_le [some (.ref (5 + 3)), some (.int x1), some (.int x2), none] [some (.ref (5 + 3)), some (.int x1), some (.int x2), some (.int (s.1 6 (x2).toNatClampNeg))] from ⟨rfl, ⟨rfl, ⟨rfl, trivial⟩⟩⟩) (zyC65_83 hk23 h)
        · replace h := zy_ifn h b14
          refine zy_2 rfl rfl (show zyR _ _ _ _ [some (.ref (5 + 3)), some (.int x1), some (.int x2), some (.int (s.1 6 (x2).toNatClampNeg))] [.int (s.1 6 (x2).toNatClampNeg), .ref (5 + 3)] _ _ from ?_)
          refine zy_6 rfl (show zyR _ _ _ _ [some (.ref (5 + 3)), some (.int x1), some (.int x2), some (.int (s.1 6 (x2).toNatClampNeg))] [.int (s.1 6 (x2).toNatClampNeg), .ref (5 + 3)] _ _ from ?_)
          exact zy_sub (show zy_le [some (.ref (5 + 3)), some (.int x1), some (.int x2), none] [some (.ref (5 + 3)), some (.int x1), some (.int x2), some (.int (s.1 6 (x2).toNatClampNeg))] from ⟨rfl, ⟨rfl, ⟨rfl, trivial⟩⟩⟩) (zyC65_83 hk23 h)
    · replace h := zy_ifn h b17
      refine zy_2 rfl rfl (show zyR _ _ _ _ [some (.ref (5 + 3)), some (.int x1), some (.int x2), some (.int (s.1 6 (x2).toNatClampNeg))] [.int (s.1 6 (x2).toNatClampNeg)] _ _ from ?_)
      refine zy_3 rfl rfl (show zyR _ _ _ _ [some (.ref (5 + 3)), some (.int x1), some (.int x2), some (.int (s.1 6 (x2).toNatClampNeg))] [.int (-59 : Int32), .int (s.1 6 (x2).toNatClampNeg)] _ _ from ?_)
      refine zy_25_0 rfl (fun b16 => (show zyR _ _ _ _ [some (.ref (5 + 3)), some (.int x1), some (.int x2), some (.int (s.1 6 (x2).toNatClampNeg))] [] _ _ from ?_)) (fun b16 => (show zyR _ _ _ _ [some (.ref (5 + 3)), some (.int x1), some (.int x2), some (.int (s.1 6 (x2).toNatClampNeg))] [] _ _ from ?_))
      · replace h := zy_ifp h b16
        refine zy_3 rfl rfl (show zyR _ _ _ _ [some (.ref (5 + 3)), some (.int x1), some (.int x2), some (.int (s.1 6 (x2).toNatClampNeg))] [.int (0 : Int32)] _ _ from ?_)
        exact zy_sub (show zy_le [some (.ref (5 + 3)), none, some (.int x2), none] [some (.ref (5 + 3)), some (.int x1), some (.int x2), some (.int (s.1 6 (x2).toNatClampNeg))] from ⟨rfl, ⟨rfl, trivial⟩⟩) (zyC65_53 hk23 h)
      · replace h := zy_ifn h b16
        refine zy_3 rfl rfl (show zyR _ _ _ _ [some (.ref (5 + 3)), some (.int x1), some (.int x2), some (.int (s.1 6 (x2).toNatClampNeg))] [.int (1 : Int32)] _ _ from ?_)
        refine zy_6 rfl (show zyR _ _ _ _ [some (.ref (5 + 3)), some (.int x1), some (.int x2), some (.int (s.1 6 (x2).toNatClampNeg))] [.int (1 : Int32)] _ _ from ?_)
        exact zy_sub (show zy_le [some (.ref (5 + 3)), none, some (.int x2), none] [some (.ref (5 + 3)), some (.int x1), some (.int x2), some (.int (s.1 6 (x2).toNatClampNeg))] from ⟨rfl, ⟨rfl, trivial⟩⟩) (zyC65_53 hk23 h)
noncomputable def zyF65_23   (n : Nat) : Int32 → Int32 → zy_S → Option (Int32 × zy_S) := Nat.rec (fun _ _ _ => none) (fun _ k23 => zyF65_23b k23) n
theorem zyC65_23 {X : zx_X}     : ∀ (n : Nat) (x1 : Int32) (x2 : Int32) (s : zy_S) (r : Int32) (s' : zy_S), zyF65_23 n x1 x2 s = some (r, s') → zyR X 3 65 23 [some (.ref (5 + 3)), some (.int x1), some (.int x2), none] [] s (zyE (some (.int r)) s')
  | 0, _, _ => by
    intro s r s'  h
    have h : (none : Option (Int32 × zy_S)) = some (r, s') := h
    cases h
  | n + 1, x1, x2 => by
    intro s r s'  h
    exact zyC65_23b (k23 := zyF65_23 n) (fun x1 x2 s r s'  h => zyC65_23  n x1 x2 s r s'  h) h
noncomputable def zyF65    (s : zy_S) : Option (Int32 × zy_S) :=
if (s.1 5 3) ≠ 0 then
zyF65_23 zy_fu (0 : Int32) (0 : Int32) (zy_up s 5 4 (0 : Int32))
else
some ((s.1 8 0), s)
theorem zyC65 {X : zx_X}      {s : zy_S} {r : Int32} {s' : zy_S}  (h : zyF65 s = some (r, s')) : zyR X 3 65 0 [some (.ref (5 + 3)), none, none, none] [] s (zyE (some (.int r)) s') := by
  unfold zyF65 at h
  refine zy_0 rfl rfl (show zyR _ _ _ _ [some (.ref (5 + 3)), none, none, none] [.ref (5 + 3)] _ _ from ?_)
  refine zy_1 (c := 5) rfl rfl rfl (show zyR _ _ _ _ [some (.ref (5 + 3)), none, none, none] [.int (s.1 5 3)] _ _ from ?_)
  refine zy_24_1 rfl (fun b19 => (show zyR _ _ _ _ [some (.ref (5 + 3)), none, none, none] [] _ _ from ?_)) (fun b19 => (show zyR _ _ _ _ [some (.ref (5 + 3)), none, none, none] [] _ _ from ?_))
  · replace h := zy_ifp h b19
    refine zy_0 rfl rfl (show zyR _ _ _ _ [some (.ref (5 + 3)), none, none, none] [.ref (5 + 3)] _ _ from ?_)
    refine zy_3 rfl rfl (show zyR _ _ _ _ [some (.ref (5 + 3)), none, none, none] [.int (0 : Int32), .ref (5 + 3)] _ _ from ?_)
    refine zy_52 (c := 5) rfl rfl rfl (show zyR _ _ _ _ [some (.ref (5 + 3)), none, none, none] [] _ _ from ?_)
    refine zy_3 rfl rfl (show zyR _ _ _ _ [some (.ref (5 + 3)), none, none, none] [.int (0 : Int32)] _ _ from ?_)
    refine zy_23 rfl rfl (show zyR _ _ _ _ [some (.ref (5 + 3)), some (.int (0 : Int32)), none, none] [] _ _ from ?_)
    refine zy_3 rfl rfl (show zyR _ _ _ _ [some (.ref (5 + 3)), some (.int (0 : Int32)), none, none] [.int (0 : Int32)] _ _ from ?_)
    refine zy_23 rfl rfl (show zyR _ _ _ _ [some (.ref (5 + 3)), some (.int (0 : Int32)), some (.int (0 : Int32)), none] [] _ _ from ?_)
    exact zy_sub (show zy_le [some (.ref (5 + 3)), some (.int (0 : Int32)), some (.int (0 : Int32)), none] [some (.ref (5 + 3)), some (.int (0 : Int32)), some (.int (0 : Int32)), none] from ⟨rfl, ⟨rfl, ⟨rfl, trivial⟩⟩⟩) (zyC65_23 zy_fu (0 : Int32) (0 : Int32) (zy_up s 5 4 (0 : Int32)) _ _ h)
  · replace h := zy_ifn h b19
    refine zy_0 rfl rfl (show zyR _ _ _ _ [some (.ref (5 + 3)), none, none, none] [.ref (5 + 3)] _ _ from ?_)
    refine zy_1r (c := 5) rfl rfl rfl (show zyR _ _ _ _ [some (.ref (5 + 3)), none, none, none] [.ref (8 + 3)] _ _ from ?_)
    refine zy_3 rfl rfl (show zyR _ _ _ _ [some (.ref (5 + 3)), none, none, none] [.int (0 : Int32), .ref (8 + 3)] _ _ from ?_)
    refine zy_26 (c := 8) rfl rfl (by decide) (show zyR _ _ _ _ [some (.ref (5 + 3)), none, none, none] [.int (s.1 8 0)] _ _ from ?_)
    obtain ⟨rfl, rfl⟩ := zy_pi h
    exact zy_4 rfl ⟨rfl, rfl⟩
