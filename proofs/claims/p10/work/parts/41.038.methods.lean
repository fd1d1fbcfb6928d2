/-! PART 41.38: methods as functions. Made by wip/v4/dcp.py. -/
/-! NineOpinionsModel.helps(I)I -/
noncomputable def zyF218_85  (k31 : Int32 → Int32 → Int32 → Int32 → zy_S → Option (Int32 × zy_S)) (x1 : Int32) (x2 : Int32) (x3 : Int32) (x4 : Int32) (s : zy_S) : Option (Int32 × zy_S) :=
k31 x1 x2 x3 (x4 + (1 : Int32)) s
theorem zyC218_85 {X : zx_X}  {k31 : Int32 → Int32 → Int32 → Int32 → zy_S → Option (Int32 × zy_S)}  (hk31 : ∀ (x1 : Int32) (x2 : Int32) (x3 : Int32) (x4 : Int32) (s : zy_S) (r : Int32) (s' : zy_S), k31 x1 x2 x3 x4 s = some (r, s') → zyR X 108 218 31 [some (.ref (43 + 3)), some (.int x1), some (.int x2), some (.int x3), some (.int x4), none] [] s (zyE (some (.int r)) s')) {x1 : Int32} {x2 : Int32} {x3 : Int32} {x4 : Int32} {s : zy_S} {r : Int32} {s' : zy_S}  (h : zyF218_85 k31 x1 x2 x3 x4 s = some (r, s')) : zyR X 108 218 85 [some (.ref (43 + 3)), some (.int x1), some (.int x2), some (.int x3), some (.int x4), none] [] s (zyE (some (.int r)) s') := by
  unfold zyF218_85 at h
  refine zy_22 rfl rfl rfl rfl (show zyR _ _ _ _ [some (.ref (43 + 3)), some (.int x1), some (.int x2), some (.int x3), some (.int (x4 + (1 : Int32))), none] [] _ _ from ?_)
  refine zy_6 rfl (show zyR _ _ _ _ [some (.ref (43 + 3)), some (.int x1), some (.int x2), some (.int x3), some (.int (x4 + (1 : Int32))), none] [] _ _ from ?_)
  exact zy_sub (show zy_le [some (.ref (43 + 3)), some (.int x1), some (.int x2), some (.int x3), some (.int (x4 + (1 : Int32))), none] [some (.ref (43 + 3)), some (.int x1), some (.int x2), some (.int x3), some (.int (x4 + (1 : Int32))), none] from ⟨rfl, ⟨rfl, ⟨rfl, ⟨rfl, ⟨rfl, trivial⟩⟩⟩⟩⟩) (hk31 x1 x2 x3 (x4 + (1 : Int32)) s _ _ h)
noncomputable def zyF218_61  (k31 : Int32 → Int32 → Int32 → Int32 → zy_S → Option (Int32 × zy_S)) (x1 : Int32) (x2 : Int32) (x3 : Int32) (x4 : Int32) (s : zy_S) : Option (Int32 × zy_S) :=
(zyF211 x4 (s.1 43 7) s).bind fun p1 =>
if x3 ≤ p1.1 then
zyF218_85 k31 x1 x2 x3 x4 p1.2
else
zyF218_85 k31 x1 x4 p1.1 x4 p1.2
theorem zyC218_61 {X : zx_X}  {k31 : Int32 → Int32 → Int32 → Int32 → zy_S → Option (Int32 × zy_S)}  (hk31 : ∀ (x1 : Int32) (x2 : Int32) (x3 : Int32) (x4 : Int32) (s : zy_S) (r : Int32) (s' : zy_S), k31 x1 x2 x3 x4 s = some (r, s') → zyR X 108 218 31 [some (.ref (43 + 3)), some (.int x1), some (.int x2), some (.int x3), some (.int x4), none] [] s (zyE (some (.int r)) s')) {x1 : Int32} {x2 : Int32} {x3 : Int32} {x4 : Int32} {s : zy_S} {r : Int32} {s' : zy_S}  (h : zyF218_61 k31 x1 x2 x3 x4 s = some (r, s')) : zyR X 108 218 61 [some (.ref (43 + 3)), some (.int x1), some (.int x2), some (.int x3), some (.int x4), none] [] s (zyE (some (.int r)) s') := by
  unfold zyF218_61 at h
  refine zy_0 rfl rfl (show zyR _ _ _ _ [some (.ref (43 + 3)), some (.int x1), some (.int x2), some (.int x3), some (.int x4), none] [.ref (43 + 3)] _ _ from ?_)
  refine zy_2 rfl rfl (show zyR _ _ _ _ [some (.ref (43 + 3)), some (.int x1), some (.int x2), some (.int x3), some (.int x4), none] [.int x4, .ref (43 + 3)] _ _ from ?_)
  refine zy_0 rfl rfl (show zyR _ _ _ _ [some (.ref (43 + 3)), some (.int x1), some (.int x2), some (.int x3), some (.int x4), none] [.ref (43 + 3), .int x4, .ref (43 + 3)] _ _ from ?_)
  refine zy_1 (c := 43) rfl rfl rfl (show zyR _ _ _ _ [some (.ref (43 + 3)), some (.int x1), some (.int x2), some (.int x3), some (.int x4), none] [.int (s.1 43 7), .int x4, .ref (43 + 3)] _ _ from ?_)
  obtain ⟨p1, hp1, h⟩ := zy_bind h
  refine zy_5 (c := 43) (as := [.int x4, .int (s.1 43 7)]) (rest := []) (L := [some (.ref (43 + 3)), some (.int x4), some (.int (s.1 43 7)), none, none]) (d' := 107) rfl rfl rfl (Nat.le_of_ble_eq_true rfl) (Nat.le_of_ble_eq_true rfl) rfl (Nat.le_of_ble_eq_true rfl) rfl rfl (zyC211 hp1) ?_
  show zyR _ _ _ _ [some (.ref (43 + 3)), some (.int x1), some (.int x2), some (.int x3), some (.int x4), none] [.int p1.1] _ _
  refine zy_23 rfl rfl (show zyR _ _ _ _ [some (.ref (43 + 3)), some (.int x1), some (.int x2), some (.int x3), some (.int x4), some (.int p1.1)] [] _ _ from ?_)
  refine zy_2 rfl rfl (show zyR _ _ _ _ [some (.ref (43 + 3)), some (.int x1), some (.int x2), some (.int x3), some (.int x4), some (.int p1.1)] [.int p1.1] _ _ from ?_)
  refine zy_2 rfl rfl (show zyR _ _ _ _ [some (.ref (43 + 3)), some (.int x1), some (.int x2), some (.int x3), some (.int x4), some (.int p1.1)] [.int x3, .int p1.1] _ _ from ?_)
  refine zy_25_3 rfl (fun b2 => (show zyR _ _ _ _ [some (.ref (43 + 3)), some (.int x1), some (.int x2), some (.int x3), some (.int x4), some (.int p1.1)] [] _ _ from ?_)) (fun b2 => (show zyR _ _ _ _ [some (.ref (43 + 3)), some (.int x1), some (.int x2), some (.int x3), some (.int x4), some (.int p1.1)] [] _ _ from ?_))
  · replace h := zy_ifp h b2
    exact zy_sub (show zy_le [some (.ref (43 + 3)), some (.int x1), some (.int x2), some (.int x3), some (.int x4), none] [some (.ref (43 + 3)), some (.int x1), some (.int x2), some (.int x3), some (.int x4), some (.int p1.1)] from ⟨rfl, ⟨rfl, ⟨rfl, ⟨rfl, ⟨rfl, trivial⟩⟩⟩⟩⟩) (zyC218_85 hk31 h)
  · replace h := zy_ifn h b2
    refine zy_2 rfl rfl (show zyR _ _ _ _ [some (.ref (43 + 3)), some (.int x1), some (.int x2), some (.int x3), some (.int x4), some (.int p1.1)] [.int x4] _ _ from ?_)
    refine zy_23 rfl rfl (show zyR _ _ _ _ [some (.ref (43 + 3)), some (.int x1), some (.int x4), some (.int x3), some (.int x4), some (.int p1.1)] [] _ _ from ?_)
    refine zy_2 rfl rfl (show zyR _ _ _ _ [some (.ref (43 + 3)), some (.int x1), some (.int x4), some (.int x3), some (.int x4), some (.int p1.1)] [.int p1.1] _ _ from ?_)
    refine zy_23 rfl rfl (show zyR _ _ _ _ [some (.ref (43 + 3)), some (.int x1), some (.int x4), some (.int p1.1), some (.int x4), some (.int p1.1)] [] _ _ from ?_)
    exact zy_sub (show zy_le [some (.ref (43 + 3)), some (.int x1), some (.int x4), some (.int p1.1), some (.int x4), none] [some (.ref (43 + 3)), some (.int x1), some (.int x4), some (.int p1.1), some (.int x4), some (.int p1.1)] from ⟨rfl, ⟨rfl, ⟨rfl, ⟨rfl, ⟨rfl, trivial⟩⟩⟩⟩⟩) (zyC218_85 hk31 h)
noncomputable def zyF218_31b  (k31 : Int32 → Int32 → Int32 → Int32 → zy_S → Option (Int32 × zy_S)) (x1 : Int32) (x2 : Int32) (x3 : Int32) (x4 : Int32) (s : zy_S) : Option (Int32 × zy_S) :=
if (24 : Int32) ≤ x4 then
if x2 < 0 then
some (x2, s)
else
if x1 ≠ 0 then
some (x3, s)
else
some (x2, s)
else
(zyF208 (s.1 43 7) x4 s).bind fun p5 =>
if p5.1 ≠ 0 then
zyF218_61 k31 x1 x2 x3 x4 p5.2
else
(zyF219 (p5.2.1 43 7) p5.2).bind fun p6 =>
if p6.1 = 0 then
zyF218_85 k31 x1 x2 x3 x4 p6.2
else
zyF218_61 k31 x1 x2 x3 x4 p6.2
theorem zyC218_31b {X : zx_X}  {k31 : Int32 → Int32 → Int32 → Int32 → zy_S → Option (Int32 × zy_S)}  (hk31 : ∀ (x1 : Int32) (x2 : Int32) (x3 : Int32) (x4 : Int32) (s : zy_S) (r : Int32) (s' : zy_S), k31 x1 x2 x3 x4 s = some (r, s') → zyR X 108 218 31 [some (.ref (43 + 3)), some (.int x1), some (.int x2), some (.int x3), some (.int x4), none] [] s (zyE (some (.int r)) s')) {x1 : Int32} {x2 : Int32} {x3 : Int32} {x4 : Int32} {s : zy_S} {r : Int32} {s' : zy_S}  (h : zyF218_31b k31 x1 x2 x3 x4 s = some (r, s')) : zyR X 108 218 31 [some (.ref (43 + 3)), some (.int x1), some (.int x2), some (.int x3), some (.int x4), none] [] s (zyE (some (.int r)) s') := by
  unfold zyF218_31b at h
  refine zy_2 rfl rfl (show zyR _ _ _ _ [some (.ref (43 + 3)), some (.int x1), some (.int x2), some (.int x3), some (.int x4), none] [.int x4] _ _ from ?_)
  refine zy_3 rfl rfl (show zyR _ _ _ _ [some (.ref (43 + 3)), some (.int x1), some (.int x2), some (.int x3), some (.int x4), none] [.int (24 : Int32), .int x4] _ _ from ?_)
  refine zy_25_3 rfl (fun b9 => (show zyR _ _ _ _ [some (.ref (43 + 3)), some (.int x1), some (.int x2), some (.int x3), some (.int x4), none] [] _ _ from ?_)) (fun b9 => (show zyR _ _ _ _ [some (.ref (43 + 3)), some (.int x1), some (.int x2), some (.int x3), some (.int x4), none] [] _ _ from ?_))
  · replace h := zy_ifp h b9
    refine zy_2 rfl rfl (show zyR _ _ _ _ [some (.ref (43 + 3)), some (.int x1), some (.int x2), some (.int x3), some (.int x4), none] [.int x2] _ _ from ?_)
    refine zy_24_2 rfl (fun b4 => (show zyR _ _ _ _ [some (.ref (43 + 3)), some (.int x1), some (.int x2), some (.int x3), some (.int x4), none] [] _ _ from ?_)) (fun b4 => (show zyR _ _ _ _ [some (.ref (43 + 3)), some (.int x1), some (.int x2), some (.int x3), some (.int x4), none] [] _ _ from ?_))
    · replace h := zy_ifp h b4
      refine zy_2 rfl rfl (show zyR _ _ _ _ [some (.ref (43 + 3)), some (.int x1), some (.int x2), some (.int x3), some (.int x4), none] [.int x2] _ _ from ?_)
      refine zy_6 rfl (show zyR _ _ _ _ [some (.ref (43 + 3)), some (.int x1), some (.int x2), some (.int x3), some (.int x4), none] [.int x2] _ _ from ?_)
      obtain ⟨rfl, rfl⟩ := zy_pi h
      exact zy_4 rfl ⟨rfl, rfl⟩
    · replace h := zy_ifn h b4
      refine zy_2 rfl rfl (show zyR _ _ _ _ [some (.ref (43 + 3)), some (.int x1), some (.int x2), some (.int x3), some (.int x4), none] [.int x1] _ _ from ?_)
      refine zy_24_1 rfl (fun b3 => (show zyR _ _ _ _ [some (.ref (43 + 3)), some (.int x1), some (.int x2), some (.int x3), some (.int x4), none] [] _ _ from ?_)) (fun b3 => (show zyR _ _ _ _ [some (.ref (43 + 3)), some (.int x1), some (.int x2), some (.int x3), some (.int x4), none] [] _ _ from ?_))
      · replace h := zy_ifp h b3
        refine zy_2 rfl rfl (show zyR _ _ _ _ [some (.ref (43 + 3)), some (.int x1), some (.int x2), some (.int x3), some (.int x4), none] [.int x3] _ _ from ?_)
        obtain ⟨rfl, rfl⟩ := zy_pi h
        exact zy_4 rfl ⟨rfl, rfl⟩
      · replace h := zy_ifn h b3
        refine zy_2 rfl rfl (show zyR _ _ _ _ [some (.ref (43 + 3)), some (.int x1), some (.int x2), some (.int x3), some (.int x4), none] [.int x2] _ _ from ?_)
        refine zy_6 rfl (show zyR _ _ _ _ [some (.ref (43 + 3)), some (.int x1), some (.int x2), some (.int x3), some (.int x4), none] [.int x2] _ _ from ?_)
        obtain ⟨rfl, rfl⟩ := zy_pi h
        exact zy_4 rfl ⟨rfl, rfl⟩
  · replace h := zy_ifn h b9
    refine zy_0 rfl rfl (show zyR _ _ _ _ [some (.ref (43 + 3)), some (.int x1), some (.int x2), some (.int x3), some (.int x4), none] [.ref (43 + 3)] _ _ from ?_)
    refine zy_1 (c := 43) rfl rfl rfl (show zyR _ _ _ _ [some (.ref (43 + 3)), some (.int x1), some (.int x2), some (.int x3), some (.int x4), none] [.int (s.1 43 7)] _ _ from ?_)
    refine zy_2 rfl rfl (show zyR _ _ _ _ [some (.ref (43 + 3)), some (.int x1), some (.int x2), some (.int x3), some (.int x4), none] [.int x4, .int (s.1 43 7)] _ _ from ?_)
    obtain ⟨p5, hp5, h⟩ := zy_bind h
    refine zy_60 (as := [.int (s.1 43 7), .int x4]) (rest := []) (L := [some (.int (s.1 43 7)), some (.int x4)]) (d' := 1) rfl rfl (Nat.le_of_ble_eq_true rfl) (Nat.le_of_ble_eq_true rfl) rfl (Nat.le_of_ble_eq_true rfl) rfl rfl (zyC208 hp5) ?_
    show zyR _ _ _ _ [some (.ref (43 + 3)), some (.int x1), some (.int x2), some (.int x3), some (.int x4), none] [.int p5.1] _ _
    refine zy_24_1 rfl (fun b8 => (show zyR _ _ _ _ [some (.ref (43 + 3)), some (.int x1), some (.int x2), some (.int x3), some (.int x4), none] [] _ _ from ?_)) (fun b8 => (show zyR _ _ _ _ [some (.ref (43 + 3)), some (.int x1), some (.int x2), some (.int x3), some (.int x4), none] [] _ _ from ?_))
    · replace h := zy_ifp h b8
      exact zy_sub (show zy_le [some (.ref (43 + 3)), some (.int x1), some (.int x2), some (.int x3), some (.int x4), none] [some (.ref (43 + 3)), some (.int x1), some (.int x2), some (.int x3), some (.int x4), none] from ⟨rfl, ⟨rfl, ⟨rfl, ⟨rfl, ⟨rfl, trivial⟩⟩⟩⟩⟩) (zyC218_61 hk31 h)
    · replace h := zy_ifn h b8
      refine zy_0 rfl rfl (show zyR _ _ _ _ [some (.ref (43 + 3)), some (.int x1), some (.int x2), some (.int x3), some (.int x4), none] [.ref (43 + 3)] _ _ from ?_)
      refine zy_0 rfl rfl (show zyR _ _ _ _ [some (.ref (43 + 3)), some (.int x1), some (.int x2), some (.int x3), some (.int x4), none] [.ref (43 + 3), .ref (43 + 3)] _ _ from ?_)
      refine zy_1 (c := 43) rfl rfl rfl (show zyR _ _ _ _ [some (.ref (43 + 3)), some (.int x1), some (.int x2), some (.int x3), some (.int x4), none] [.int (p5.2.1 43 7), .ref (43 + 3)] _ _ from ?_)
      obtain ⟨p6, hp6, h⟩ := zy_bind h
      refine zy_5 (c := 43) (as := [.int (p5.2.1 43 7)]) (rest := []) (L := [some (.ref (43 + 3)), some (.int (p5.2.1 43 7))]) (d' := 2) rfl rfl rfl (Nat.le_of_ble_eq_true rfl) (Nat.le_of_ble_eq_true rfl) rfl (Nat.le_of_ble_eq_true rfl) rfl rfl (zyC219 hp6) ?_
      show zyR _ _ _ _ [some (.ref (43 + 3)), some (.int x1), some (.int x2), some (.int x3), some (.int x4), none] [.int p6.1] _ _
      refine zy_24_0 rfl (fun b7 => (show zyR _ _ _ _ [some (.ref (43 + 3)), some (.int x1), some (.int x2), some (.int x3), some (.int x4), none] [] _ _ from ?_)) (fun b7 => (show zyR _ _ _ _ [some (.ref (43 + 3)), some (.int x1), some (.int x2), some (.int x3), some (.int x4), none] [] _ _ from ?_))
      · replace h := zy_ifp h b7
        exact zy_sub (show zy_le [some (.ref (43 + 3)), some (.int x1), some (.int x2), some (.int x3), some (.int x4), none] [some (.ref (43 + 3)), some (.int x1), some (.int x2), some (.int x3), some (.int x4), none] from ⟨rfl, ⟨rfl, ⟨rfl, ⟨rfl, ⟨rfl, trivial⟩⟩⟩⟩⟩) (zyC218_85 hk31 h)
      · replace h := zy_ifn h b7
        exact zy_sub (show zy_le [some (.ref (43 + 3)), some (.int x1), some (.int x2), some (.int x3), some (.int x4), none] [some (.ref (43 + 3)), some (.int x1), some (.int x2), some (.int x3), some (.int x4), none] from ⟨rfl, ⟨rfl, ⟨rfl, ⟨rfl, ⟨rfl, trivial⟩⟩⟩⟩⟩) (zyC218_61 hk31 h)
noncomputable def zyF218_31   (n : Nat) : Int32 → Int32 → Int32 → Int32 → zy_S → Option (Int32 × zy_S) := Nat.rec (fun _ _ _ _ _ => none) (fun _ k31 => zyF218_31b k31) n
theorem zyC218_31 {X : zx_X}     : ∀ (n : Nat) (x1 : Int32) (x2 : Int32) (x3 : Int32) (x4 : Int32) (s : zy_S) (r : Int32) (s' : zy_S), zyF218_31 n x1 x2 x3 x4 s = some (r, s') → zyR X 108 218 31 [some (.ref (43 + 3)), some (.int x1), some (.int x2), some (.int x3), some (.int x4), none] [] s (zyE (some (.int r)) s')
  | 0, _, _, _, _ => by
    intro s r s'  h
    have h : (none : Option (Int32 × zy_S)) = some (r, s') := h
    cases h
  | n + 1, x1, x2, x3, x4 => by
    intro s r s'  h
    exact zyC218_31b (k31 := zyF218_31 n) (fun x1 x2 x3 x4 s r s'  h => zyC218_31  n x1 x2 x3 x4 s r s'  h) h
noncomputable def zyF218   (x1 : Int32) (s : zy_S) : Option (Int32 × zy_S) :=
(zyF179 (x1).toInt64 (0 : Int64) (1 : Int64) s).bind fun p10 =>
if p10.1 ≠ 0 then
(zyF203 p10.2).bind fun p11 =>
(zyF212 (p11.2.1 43 7) p11.2).bind fun p12 =>
zyF218_31 zy_fu x1 (-2 : Int32) p12.1 (0 : Int32) p12.2
else
some ((-1 : Int32), p10.2)
theorem zyC218 {X : zx_X}     {x1 : Int32} {s : zy_S} {r : Int32} {s' : zy_S}  (h : zyF218 x1 s = some (r, s')) : zyR X 108 218 0 [some (.ref (43 + 3)), some (.int x1), none, none, none, none] [] s (zyE (some (.int r)) s') := by
  unfold zyF218 at h
  refine zy_2 rfl rfl (show zyR _ _ _ _ [some (.ref (43 + 3)), some (.int x1), none, none, none, none] [.int x1] _ _ from ?_)
  refine zy_40 rfl (show zyR _ _ _ _ [some (.ref (43 + 3)), some (.int x1), none, none, none, none] [.long (x1).toInt64] _ _ from ?_)
  refine zy_36 rfl rfl (show zyR _ _ _ _ [some (.ref (43 + 3)), some (.int x1), none, none, none, none] [.long (0 : Int64), .long (x1).toInt64] _ _ from ?_)
  refine zy_36 rfl rfl (show zyR _ _ _ _ [some (.ref (43 + 3)), some (.int x1), none, none, none, none] [.long (1 : Int64), .long (0 : Int64), .long (x1).toInt64] _ _ from ?_)
  obtain ⟨p10, hp10, h⟩ := zy_bind h
  refine zy_60 (as := [.long (x1).toInt64, .long (0 : Int64), .long (1 : Int64)]) (rest := []) (L := [some (.long (x1).toInt64), none, some (.long (0 : Int64)), none, some (.long (1 : Int64)), none]) (d' := 1) rfl rfl (Nat.le_of_ble_eq_true rfl) (Nat.le_of_ble_eq_true rfl) rfl (Nat.le_of_ble_eq_true rfl) rfl rfl (zyC179 hp10) ?_
  show zyR _ _ _ _ [some (.ref (43 + 3)), some (.int x1), none, none, none, none] [.int p10.1] _ _
  refine zy_24_1 rfl (fun b13 => (show zyR _ _ _ _ [some (.ref (43 + 3)), some (.int x1), none, none, none, none] [] _ _ from ?_)) (fun b13 => (show zyR _ _ _ _ [some (.ref (43 + 3)), some (.int x1), none, none, none, none] [] _ _ from ?_))
  · replace h := zy_ifp h b13
    refine zy_0 rfl rfl (show zyR _ _ _ _ [some (.ref (43 + 3)), some (.int x1), none, none, none, none] [.ref (43 + 3)] _ _ from ?_)
    obtain ⟨p11, hp11, h⟩ := zy_bind h
    refine zy_5 (c := 43) (as := []) (rest := []) (L := [some (.ref (43 + 3)), none]) (d' := 1) rfl rfl rfl (Nat.le_of_ble_eq_true rfl) (Nat.le_of_ble_eq_true rfl) rfl (Nat.le_of_ble_eq_true rfl) rfl rfl (zyC203 hp11) ?_
    show zyR _ _ _ _ [some (.ref (43 + 3)), some (.int x1), none, none, none, none] [] _ _
    refine zy_3 rfl rfl (show zyR _ _ _ _ [some (.ref (43 + 3)), some (.int x1), none, none, none, none] [.int (-2 : Int32)] _ _ from ?_)
    refine zy_23 rfl rfl (show zyR _ _ _ _ [some (.ref (43 + 3)), some (.int x1), some (.int (-2 : Int32)), none, none, none] [] _ _ from ?_)
    refine zy_0 rfl rfl (show zyR _ _ _ _ [some (.ref (43 + 3)), some (.int x1), some (.int (-2 : Int32)), none, none, none] [.ref (43 + 3)] _ _ from ?_)
    refine zy_0 rfl rfl (show zyR _ _ _ _ [some (.ref (43 + 3)), some (.int x1), some (.int (-2 : Int32)), none, none, none] [.ref (43 + 3), .ref (43 + 3)] _ _ from ?_)
    refine zy_1 (c := 43) rfl rfl rfl (show zyR _ _ _ _ [some (.ref (43 + 3)), some (.int x1), some (.int (-2 : Int32)), none, none, none] [.int (p11.2.1 43 7), .ref (43 + 3)] _ _ from ?_)
    obtain ⟨p12, hp12, h⟩ := zy_bind h
    refine zy_5 (c := 43) (as := [.int (p11.2.1 43 7)]) (rest := []) (L := [some (.ref (43 + 3)), some (.int (p11.2.1 43 7)), none, none]) (d' := 106) rfl rfl rfl (Nat.le_of_ble_eq_true rfl) (Nat.le_of_ble_eq_true rfl) rfl (Nat.le_of_ble_eq_true rfl) rfl rfl (zyC212 hp12) ?_
    show zyR _ _ _ _ [some (.ref (43 + 3)), some (.int x1), some (.int (-2 : Int32)), none, none, none] [.int p12.1] _ _
    refine zy_23 rfl rfl (show zyR _ _ _ _ [some (.ref (43 + 3)), some (.int x1), some (.int (-2 : Int32)), some (.int p12.1), none, none] [] _ _ from ?_)
    refine zy_3 rfl rfl (show zyR _ _ _ _ [some (.ref (43 + 3)), some (.int x1), some (.int (-2 : Int32)), some (.int p12.1), none, none] [.int (0 : Int32)] _ _ from ?_)
    refine zy_23 rfl rfl (show zyR _ _ _ _ [some (.ref (43 + 3)), some (.int x1), some (.int (-2 : Int32)), some (.int p12.1), some (.int (0 : Int32)), none] [] _ _ from ?_)
    exact zy_sub (show zy_le [some (.ref (43 + 3)), some (.int x1), some (.int (-2 : Int32)), some (.int p12.1), some (.int (0 : Int32)), none] [some (.ref (43 + 3)), some (.int x1), some (.int (-2 : Int32)), some (.int p12.1), some (.int (0 : Int32)), none] from ⟨rfl, ⟨rfl, ⟨rfl, ⟨rfl, ⟨rfl, trivial⟩⟩⟩⟩⟩) (zyC218_31 zy_fu x1 (-2 : Int32) p12.1 (0 : Int32) p12.2 _ _ h)
  · replace h := zy_ifn h b13
    refine zy_3 rfl rfl (show zyR _ _ _ _ [some (.ref (43 + 3)), some (.int x1), none, none, none, none] [.int (-1 : Int32)] _ _ from ?_)
    obtain ⟨rfl, rfl⟩ := zy_pi h
    exact zy_4 rfl ⟨rfl, rfl⟩
