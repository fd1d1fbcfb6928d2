/-! PART 41.23: methods as functions. Made by wip/v4/dcp.py. -/
/-! NineOpinions$Tape.readOperand(I)V, over what it calls -/
noncomputable def zyF40_157 (g39 : Int32 → Int32 → zy_S → Option (Int32 × zy_S)) (g40 : Int32 → zy_S → Option (Int32 × zy_S))   (s : zy_S) : Option (Int32 × zy_S) :=
some ((0 : Int32), (zy_up s 9 5 (1 : Int32)))
theorem zyC40_157 {X : zx_X} {d : Nat} {g39 : Int32 → Int32 → zy_S → Option (Int32 × zy_S)} {g40 : Int32 → zy_S → Option (Int32 × zy_S)}  (hd : 2 ≤ d) (hg39 : ∀ (x1 : Int32) (x2 : Int32) (s : zy_S) (r : Int32) (s' : zy_S), g39 x1 x2 s = some (r, s') → zyR X d 39 0 [some (.ref (9 + 3)), some (.int x1), some (.int x2), none, none, none] [] s (zyE none s')) (hg40 : ∀ (x1 : Int32) (s : zy_S) (r : Int32) (s' : zy_S), g40 x1 s = some (r, s') → zyR X d 40 0 [some (.ref (9 + 3)), some (.int x1), none] [] s (zyE none s'))   {s : zy_S} {r : Int32} {s' : zy_S}  (h : zyF40_157 g39 g40 s = some (r, s')) : zyR X (d + 1) 40 157 [some (.ref (9 + 3)), none, none] [] s (zyE none s') := by
  unfold zyF40_157 at h
  refine zy_0 rfl rfl (show zyR _ _ _ _ [some (.ref (9 + 3)), none, none] [.ref (9 + 3)] _ _ from ?_)
  refine zy_3 rfl rfl (show zyR _ _ _ _ [some (.ref (9 + 3)), none, none] [.int (1 : Int32), .ref (9 + 3)] _ _ from ?_)
  refine zy_52b (c := 9) rfl rfl rfl (Or.inr rfl) (show zyR _ _ _ _ [some (.ref (9 + 3)), none, none] [] _ _ from ?_)
  cases h
  exact zy_66 rfl ⟨rfl, rfl⟩
noncomputable def zyF40_126 (g39 : Int32 → Int32 → zy_S → Option (Int32 × zy_S)) (g40 : Int32 → zy_S → Option (Int32 × zy_S))  (x1 : Int32) (s : zy_S) : Option (Int32 × zy_S) :=
if (6 : Int32) ≤ x1 then
zyF40_157 g39 g40 s
else
(zyF46 (45 : Int32) s).bind fun p1 =>
if p1.1 = 0 then
zyF40_157 g39 g40 p1.2
else
(g40 (x1 + (1 : Int32)) p1.2).bind fun p2 =>
(zyF44 (-126 : Int32) p2.2).bind fun p3 =>
some ((0 : Int32), p3.2)
theorem zyC40_126 {X : zx_X} {d : Nat} {g39 : Int32 → Int32 → zy_S → Option (Int32 × zy_S)} {g40 : Int32 → zy_S → Option (Int32 × zy_S)}  (hd : 2 ≤ d) (hg39 : ∀ (x1 : Int32) (x2 : Int32) (s : zy_S) (r : Int32) (s' : zy_S), g39 x1 x2 s = some (r, s') → zyR X d 39 0 [some (.ref (9 + 3)), some (.int x1), some (.int x2), none, none, none] [] s (zyE none s')) (hg40 : ∀ (x1 : Int32) (s : zy_S) (r : Int32) (s' : zy_S), g40 x1 s = some (r, s') → zyR X d 40 0 [some (.ref (9 + 3)), some (.int x1), none] [] s (zyE none s'))  {x1 : Int32} {s : zy_S} {r : Int32} {s' : zy_S}  (h : zyF40_126 g39 g40 x1 s = some (r, s')) : zyR X (d + 1) 40 126 [some (.ref (9 + 3)), some (.int x1), none] [] s (zyE none s') := by
  unfold zyF40_126 at h
  refine zy_2 rfl rfl (show zyR _ _ _ _ [some (.ref (9 + 3)), some (.int x1), none] [.int x1] _ _ from ?_)
  refine zy_3 rfl rfl (show zyR _ _ _ _ [some (.ref (9 + 3)), some (.int x1), none] [.int (6 : Int32), .int x1] _ _ from ?_)
  refine zy_25_3 rfl (fun b5 => (show zyR _ _ _ _ [some (.ref (9 + 3)), some (.int x1), none] [] _ _ from ?_)) (fun b5 => (show zyR _ _ _ _ [some (.ref (9 + 3)), some (.int x1), none] [] _ _ from ?_))
  · replace h := zy_ifp h b5
    exact zy_sub (show zy_le [some (.ref (9 + 3)), none, none] [some (.ref (9 + 3)), some (.int x1), none] from ⟨rfl, trivial⟩) (zyC40_157 hd hg39 hg40 h)
  · replace h := zy_ifn h b5
    refine zy_0 rfl rfl (show zyR _ _ _ _ [some (.ref (9 + 3)), some (.int x1), none] [.ref (9 + 3)] _ _ from ?_)
    refine zy_3 rfl rfl (show zyR _ _ _ _ [some (.ref (9 + 3)), some (.int x1), none] [.int (45 : Int32), .ref (9 + 3)] _ _ from ?_)
    obtain ⟨p1, hp1, h⟩ := zy_bind h
    refine zy_5 (c := 9) (as := [.int (45 : Int32)]) (rest := []) (L := [some (.ref (9 + 3)), some (.int (45 : Int32)), none]) (d' := 2) rfl rfl rfl (Nat.le_of_ble_eq_true rfl) (by omega) rfl (Nat.le_of_ble_eq_true rfl) rfl rfl (zyC46 hp1) ?_
    show zyR _ _ _ _ [some (.ref (9 + 3)), some (.int x1), none] [.int p1.1] _ _
    refine zy_24_0 rfl (fun b4 => (show zyR _ _ _ _ [some (.ref (9 + 3)), some (.int x1), none] [] _ _ from ?_)) (fun b4 => (show zyR _ _ _ _ [some (.ref (9 + 3)), some (.int x1), none] [] _ _ from ?_))
    · replace h := zy_ifp h b4
      exact zy_sub (show zy_le [some (.ref (9 + 3)), none, none] [some (.ref (9 + 3)), some (.int x1), none] from ⟨rfl, trivial⟩) (zyC40_157 hd hg39 hg40 h)
    · replace h := zy_ifn h b4
      refine zy_0 rfl rfl (show zyR _ _ _ _ [some (.ref (9 + 3)), some (.int x1), none] [.ref (9 + 3)] _ _ from ?_)
      refine zy_2 rfl rfl (show zyR _ _ _ _ [some (.ref (9 + 3)), some (.int x1), none] [.int x1, .ref (9 + 3)] _ _ from ?_)
      refine zy_3 rfl rfl (show zyR _ _ _ _ [some (.ref (9 + 3)), some (.int x1), none] [.int (1 : Int32), .int x1, .ref (9 + 3)] _ _ from ?_)
      refine zy_10 rfl (show zyR _ _ _ _ [some (.ref (9 + 3)), some (.int x1), none] [.int (x1 + (1 : Int32)), .ref (9 + 3)] _ _ from ?_)
      obtain ⟨p2, hp2, h⟩ := zy_bind h
      refine zy_5 (c := 9) (as := [.int (x1 + (1 : Int32))]) (rest := []) (L := [some (.ref (9 + 3)), some (.int (x1 + (1 : Int32))), none]) (d' := d) rfl rfl rfl (Nat.le_of_ble_eq_true rfl) (by omega) rfl (Nat.le_of_ble_eq_true rfl) rfl rfl (hg40 (x1 + (1 : Int32)) p1.2 _ _ hp2) ?_
      show zyR _ _ _ _ [some (.ref (9 + 3)), some (.int x1), none] [] _ _
      refine zy_0 rfl rfl (show zyR _ _ _ _ [some (.ref (9 + 3)), some (.int x1), none] [.ref (9 + 3)] _ _ from ?_)
      refine zy_3 rfl rfl (show zyR _ _ _ _ [some (.ref (9 + 3)), some (.int x1), none] [.int (-126 : Int32), .ref (9 + 3)] _ _ from ?_)
      obtain ⟨p3, hp3, h⟩ := zy_bind h
      refine zy_5 (c := 9) (as := [.int (-126 : Int32)]) (rest := []) (L := [some (.ref (9 + 3)), some (.int (-126 : Int32))]) (d' := 1) rfl rfl rfl (Nat.le_of_ble_eq_true rfl) (by omega) rfl (Nat.le_of_ble_eq_true rfl) rfl rfl (zyC44 hp3) ?_
      show zyR _ _ _ _ [some (.ref (9 + 3)), some (.int x1), none] [] _ _
      refine zy_6 rfl (show zyR _ _ _ _ [some (.ref (9 + 3)), some (.int x1), none] [] _ _ from ?_)
      cases h
      exact zy_66 rfl ⟨rfl, rfl⟩
noncomputable def zyF40_95 (g39 : Int32 → Int32 → zy_S → Option (Int32 × zy_S)) (g40 : Int32 → zy_S → Option (Int32 × zy_S))  (x1 : Int32) (s : zy_S) : Option (Int32 × zy_S) :=
if (6 : Int32) ≤ x1 then
zyF40_126 g39 g40 x1 s
else
(zyF46 (33 : Int32) s).bind fun p6 =>
if p6.1 = 0 then
zyF40_126 g39 g40 x1 p6.2
else
(g40 (x1 + (1 : Int32)) p6.2).bind fun p7 =>
(zyF44 (-33 : Int32) p7.2).bind fun p8 =>
some ((0 : Int32), p8.2)
theorem zyC40_95 {X : zx_X} {d : Nat} {g39 : Int32 → Int32 → zy_S → Option (Int32 × zy_S)} {g40 : Int32 → zy_S → Option (Int32 × zy_S)}  (hd : 2 ≤ d) (hg39 : ∀ (x1 : Int32) (x2 : Int32) (s : zy_S) (r : Int32) (s' : zy_S), g39 x1 x2 s = some (r, s') → zyR X d 39 0 [some (.ref (9 + 3)), some (.int x1), some (.int x2), none, none, none] [] s (zyE none s')) (hg40 : ∀ (x1 : Int32) (s : zy_S) (r : Int32) (s' : zy_S), g40 x1 s = some (r, s') → zyR X d 40 0 [some (.ref (9 + 3)), some (.int x1), none] [] s (zyE none s'))  {x1 : Int32} {s : zy_S} {r : Int32} {s' : zy_S}  (h : zyF40_95 g39 g40 x1 s = some (r, s')) : zyR X (d + 1) 40 95 [some (.ref (9 + 3)), some (.int x1), none] [] s (zyE none s') := by
  unfold zyF40_95 at h
  refine zy_2 rfl rfl (show zyR _ _ _ _ [some (.ref (9 + 3)), some (.int x1), none] [.int x1] _ _ from ?_)
  refine zy_3 rfl rfl (show zyR _ _ _ _ [some (.ref (9 + 3)), some (.int x1), none] [.int (6 : Int32), .int x1] _ _ from ?_)
  refine zy_25_3 rfl (fun b10 => (show zyR _ _ _ _ [some (.ref (9 + 3)), some (.int x1), none] [] _ _ from ?_)) (fun b10 => (show zyR _ _ _ _ [some (.ref (9 + 3)), some (.int x1), none] [] _ _ from ?_))
  · replace h := zy_ifp h b10
    exact zy_sub (show zy_le [some (.ref (9 + 3)), some (.int x1), none] [some (.ref (9 + 3)), some (.int x1), none] from ⟨rfl, ⟨rfl, trivial⟩⟩) (zyC40_126 hd hg39 hg40 h)
  · replace h := zy_ifn h b10
    refine zy_0 rfl rfl (show zyR _ _ _ _ [some (.ref (9 + 3)), some (.int x1), none] [.ref (9 + 3)] _ _ from ?_)
    refine zy_3 rfl rfl (show zyR _ _ _ _ [some (.ref (9 + 3)), some (.int x1), none] [.int (33 : Int32), .ref (9 + 3)] _ _ from ?_)
    obtain ⟨p6, hp6, h⟩ := zy_bind h
    refine zy_5 (c := 9) (as := [.int (33 : Int32)]) (rest := []) (L := [some (.ref (9 + 3)), some (.int (33 : Int32)), none]) (d' := 2) rfl rfl rfl (Nat.le_of_ble_eq_true rfl) (by omega) rfl (Nat.le_of_ble_eq_true rfl) rfl rfl (zyC46 hp6) ?_
    show zyR _ _ _ _ [some (.ref (9 + 3)), some (.int x1), none] [.int p6.1] _ _
    refine zy_24_0 rfl (fun b9 => (show zyR _ _ _ _ [some (.ref (9 + 3)), some (.int x1), none] [] _ _ from ?_)) (fun b9 => (show zyR _ _ _ _ [some (.ref (9 + 3)), some (.int x1), none] [] _ _ from ?_))
    · replace h := zy_ifp h b9
      exact zy_sub (show zy_le [some (.ref (9 + 3)), some (.int x1), none] [some (.ref (9 + 3)), some (.int x1), none] from ⟨rfl, ⟨rfl, trivial⟩⟩) (zyC40_126 hd hg39 hg40 h)
    · replace h := zy_ifn h b9
      refine zy_0 rfl rfl (show zyR _ _ _ _ [some (.ref (9 + 3)), some (.int x1), none] [.ref (9 + 3)] _ _ from ?_)
      refine zy_2 rfl rfl (show zyR _ _ _ _ [some (.ref (9 + 3)), some (.int x1), none] [.int x1, .ref (9 + 3)] _ _ from ?_)
      refine zy_3 rfl rfl (show zyR _ _ _ _ [some (.ref (9 + 3)), some (.int x1), none] [.int (1 : Int32), .int x1, .ref (9 + 3)] _ _ from ?_)
      refine zy_10 rfl (show zyR _ _ _ _ [some (.ref (9 + 3)), some (.int x1), none] [.int (x1 + (1 : Int32)), .ref (9 + 3)] _ _ from ?_)
      obtain ⟨p7, hp7, h⟩ := zy_bind h
      refine zy_5 (c := 9) (as := [.int (x1 + (1 : Int32))]) (rest := []) (L := [some (.ref (9 + 3)), some (.int (x1 + (1 : Int32))), none]) (d' := d) rfl rfl rfl (Nat.le_of_ble_eq_true rfl) (by omega) rfl (Nat.le_of_ble_eq_true rfl) rfl rfl (hg40 (x1 + (1 : Int32)) p6.2 _ _ hp7) ?_
      show zyR _ _ _ _ [some (.ref (9 + 3)), some (.int x1), none] [] _ _
      refine zy_0 rfl rfl (show zyR _ _ _ _ [some (.ref (9 + 3)), some (.int x1), none] [.ref (9 + 3)] _ _ from ?_)
      refine zy_3 rfl rfl (show zyR _ _ _ _ [some (.ref (9 + 3)), some (.int x1), none] [.int (-33 : Int32), .ref (9 + 3)] _ _ from ?_)
      obtain ⟨p8, hp8, h⟩ := zy_bind h
      refine zy_5 (c := 9) (as := [.int (-33 : Int32)]) (rest := []) (L := [some (.ref (9 + 3)), some (.int (-33 : Int32))]) (d' := 1) rfl rfl rfl (Nat.le_of_ble_eq_true rfl) (by omega) rfl (Nat.le_of_ble_eq_true rfl) rfl rfl (zyC44 hp8) ?_
      show zyR _ _ _ _ [some (.ref (9 + 3)), some (.int x1), none] [] _ _
      refine zy_6 rfl (show zyR _ _ _ _ [some (.ref (9 + 3)), some (.int x1), none] [] _ _ from ?_)
      cases h
      exact zy_66 rfl ⟨rfl, rfl⟩
noncomputable def zyF40_89 (g39 : Int32 → Int32 → zy_S → Option (Int32 × zy_S)) (g40 : Int32 → zy_S → Option (Int32 × zy_S))  (y0 : Int32) (s : zy_S) : Option (Int32 × zy_S) :=
if y0 = 0 ∨ y0 = 1 then
some ((0 : Int32), (zy_up s 9 5 y0))
else none
theorem zyC40_89 {X : zx_X} {d : Nat} {g39 : Int32 → Int32 → zy_S → Option (Int32 × zy_S)} {g40 : Int32 → zy_S → Option (Int32 × zy_S)}  (hd : 2 ≤ d) (hg39 : ∀ (x1 : Int32) (x2 : Int32) (s : zy_S) (r : Int32) (s' : zy_S), g39 x1 x2 s = some (r, s') → zyR X d 39 0 [some (.ref (9 + 3)), some (.int x1), some (.int x2), none, none, none] [] s (zyE none s')) (hg40 : ∀ (x1 : Int32) (s : zy_S) (r : Int32) (s' : zy_S), g40 x1 s = some (r, s') → zyR X d 40 0 [some (.ref (9 + 3)), some (.int x1), none] [] s (zyE none s'))  {y0 : Int32} {s : zy_S} {r : Int32} {s' : zy_S}  (h : zyF40_89 g39 g40 y0 s = some (r, s')) : zyR X (d + 1) 40 89 [none, none, none] [.int y0, .ref (9 + 3)] s (zyE none s') := by
  unfold zyF40_89 at h
  obtain ⟨c11, h⟩ := zy_if h
  refine zy_52b (c := 9) rfl rfl rfl c11 (show zyR _ _ _ _ [none, none, none] [] _ _ from ?_)
  refine zy_6 rfl (show zyR _ _ _ _ [none, none, none] [] _ _ from ?_)
  cases h
  exact zy_66 rfl ⟨rfl, rfl⟩
noncomputable def zyF40_0 (g39 : Int32 → Int32 → zy_S → Option (Int32 × zy_S)) (g40 : Int32 → zy_S → Option (Int32 × zy_S))  (x1 : Int32) (s : zy_S) : Option (Int32 × zy_S) :=
(zyF41 s).bind fun p12 =>
(zyF42 p12.1 p12.2).bind fun p13 =>
if p13.1 = 0 then
(zyF45 p12.1 p13.2).bind fun p14 =>
if p14.1 < 0 then
if (6 : Int32) ≤ x1 then
zyF40_95 g39 g40 x1 p14.2
else
(zyF46 (40 : Int32) p14.2).bind fun p15 =>
if p15.1 = 0 then
zyF40_95 g39 g40 x1 p15.2
else
(g39 (0 : Int32) (x1 + (1 : Int32)) p15.2).bind fun p16 =>
(zyF46 (41 : Int32) p16.2).bind fun p17 =>
if p17.1 ≠ 0 then
zyF40_89 g39 g40 (0 : Int32) p17.2
else
zyF40_89 g39 g40 (1 : Int32) p17.2
else
(zyF45 p12.1 (zy_up p14.2 9 4 ((p14.2.1 9 4) + (1 : Int32)))).bind fun p21 =>
(zyF44 ((10000 : Int32) + p21.1) p21.2).bind fun p22 =>
some ((0 : Int32), p22.2)
else
(zyF43 p13.2).bind fun p24 =>
some ((0 : Int32), p24.2)
theorem zyC40_0 {X : zx_X} {d : Nat} {g39 : Int32 → Int32 → zy_S → Option (Int32 × zy_S)} {g40 : Int32 → zy_S → Option (Int32 × zy_S)}  (hd : 2 ≤ d) (hg39 : ∀ (x1 : Int32) (x2 : Int32) (s : zy_S) (r : Int32) (s' : zy_S), g39 x1 x2 s = some (r, s') → zyR X d 39 0 [some (.ref (9 + 3)), some (.int x1), some (.int x2), none, none, none] [] s (zyE none s')) (hg40 : ∀ (x1 : Int32) (s : zy_S) (r : Int32) (s' : zy_S), g40 x1 s = some (r, s') → zyR X d 40 0 [some (.ref (9 + 3)), some (.int x1), none] [] s (zyE none s'))  {x1 : Int32} {s : zy_S} {r : Int32} {s' : zy_S}  (h : zyF40_0 g39 g40 x1 s = some (r, s')) : zyR X (d + 1) 40 0 [some (.ref (9 + 3)), some (.int x1), none] [] s (zyE none s') := by
  unfold zyF40_0 at h
  refine zy_0 rfl rfl (show zyR _ _ _ _ [some (.ref (9 + 3)), some (.int x1), none] [.ref (9 + 3)] _ _ from ?_)
  obtain ⟨p12, hp12, h⟩ := zy_bind h
  refine zy_5 (c := 9) (as := []) (rest := []) (L := [some (.ref (9 + 3))]) (d' := 1) rfl rfl rfl (Nat.le_of_ble_eq_true rfl) (by omega) rfl (Nat.le_of_ble_eq_true rfl) rfl rfl (zyC41 hp12) ?_
  show zyR _ _ _ _ [some (.ref (9 + 3)), some (.int x1), none] [.int p12.1] _ _
  refine zy_23 rfl rfl (show zyR _ _ _ _ [some (.ref (9 + 3)), some (.int x1), some (.int p12.1)] [] _ _ from ?_)
  refine zy_2 rfl rfl (show zyR _ _ _ _ [some (.ref (9 + 3)), some (.int x1), some (.int p12.1)] [.int p12.1] _ _ from ?_)
  obtain ⟨p13, hp13, h⟩ := zy_bind h
  refine zy_60 (as := [.int p12.1]) (rest := []) (L := [some (.int p12.1)]) (d' := 1) rfl rfl (Nat.le_of_ble_eq_true rfl) (by omega) rfl (Nat.le_of_ble_eq_true rfl) rfl rfl (zyC42 hp13) ?_
  show zyR _ _ _ _ [some (.ref (9 + 3)), some (.int x1), some (.int p12.1)] [.int p13.1] _ _
  refine zy_24_0 rfl (fun b25 => (show zyR _ _ _ _ [some (.ref (9 + 3)), some (.int x1), some (.int p12.1)] [] _ _ from ?_)) (fun b25 => (show zyR _ _ _ _ [some (.ref (9 + 3)), some (.int x1), some (.int p12.1)] [] _ _ from ?_))
  · replace h := zy_ifp h b25
    refine zy_2 rfl rfl (show zyR _ _ _ _ [some (.ref (9 + 3)), some (.int x1), some (.int p12.1)] [.int p12.1] _ _ from ?_)
    obtain ⟨p14, hp14, h⟩ := zy_bind h
    refine zy_60 (as := [.int p12.1]) (rest := []) (L := [some (.int p12.1)]) (d' := 1) rfl rfl (Nat.le_of_ble_eq_true rfl) (by omega) rfl (Nat.le_of_ble_eq_true rfl) rfl rfl (zyC45 hp14) ?_
    show zyR _ _ _ _ [some (.ref (9 + 3)), some (.int x1), some (.int p12.1)] [.int p14.1] _ _
    refine zy_24_2 rfl (fun b23 => (show zyR _ _ _ _ [some (.ref (9 + 3)), some (.int x1), some (.int p12.1)] [] _ _ from ?_)) (fun b23 => (show zyR _ _ _ _ [some (.ref (9 + 3)), some (.int x1), some (.int p12.1)] [] _ _ from ?_))
    · replace h := zy_ifp h b23
      refine zy_2 rfl rfl (show zyR _ _ _ _ [some (.ref (9 + 3)), some (.int x1), some (.int p12.1)] [.int x1] _ _ from ?_)
      refine zy_3 rfl rfl (show zyR _ _ _ _ [some (.ref (9 + 3)), some (.int x1), some (.int p12.1)] [.int (6 : Int32), .int x1] _ _ from ?_)
      refine zy_25_3 rfl (fun b20 => (show zyR _ _ _ _ [some (.ref (9 + 3)), some (.int x1), some (.int p12.1)] [] _ _ from ?_)) (fun b20 => (show zyR _ _ _ _ [some (.ref (9 + 3)), some (.int x1), some (.int p12.1)] [] _ _ from ?_))
      · replace h := zy_ifp h b20
        exact zy_sub (show zy_le [some (.ref (9 + 3)), some (.int x1), none] [some (.ref (9 + 3)), some (.int x1), some (.int p12.1)] from ⟨rfl, ⟨rfl, trivial⟩⟩) (zyC40_95 hd hg39 hg40 h)
      · replace h := zy_ifn h b20
        refine zy_0 rfl rfl (show zyR _ _ _ _ [some (.ref (9 + 3)), some (.int x1), some (.int p12.1)] [.ref (9 + 3)] _ _ from ?_)
        refine zy_3 rfl rfl (show zyR _ _ _ _ [some (.ref (9 + 3)), some (.int x1), some (.int p12.1)] [.int (40 : Int32), .ref (9 + 3)] _ _ from ?_)
        obtain ⟨p15, hp15, h⟩ := zy_bind h
        refine zy_5 (c := 9) (as := [.int (40 : Int32)]) (rest := []) (L := [some (.ref (9 + 3)), some (.int (40 : Int32)), none]) (d' := 2) rfl rfl rfl (Nat.le_of_ble_eq_true rfl) (by omega) rfl (Nat.le_of_ble_eq_true rfl) rfl rfl (zyC46 hp15) ?_
        show zyR _ _ _ _ [some (.ref (9 + 3)), some (.int x1), some (.int p12.1)] [.int p15.1] _ _
        refine zy_24_0 rfl (fun b19 => (show zyR _ _ _ _ [some (.ref (9 + 3)), some (.int x1), some (.int p12.1)] [] _ _ from ?_)) (fun b19 => (show zyR _ _ _ _ [some (.ref (9 + 3)), some (.int x1), some (.int p12.1)] [] _ _ from ?_))
        · replace h := zy_ifp h b19
          exact zy_sub (show zy_le [some (.ref (9 + 3)), some (.int x1), none] [some (.ref (9 + 3)), some (.int x1), some (.int p12.1)] from ⟨rfl, ⟨rfl, trivial⟩⟩) (zyC40_95 hd hg39 hg40 h)
        · replace h := zy_ifn h b19
          refine zy_0 rfl rfl (show zyR _ _ _ _ [some (.ref (9 + 3)), some (.int x1), some (.int p12.1)] [.ref (9 + 3)] _ _ from ?_)
          refine zy_3 rfl rfl (show zyR _ _ _ _ [some (.ref (9 + 3)), some (.int x1), some (.int p12.1)] [.int (0 : Int32), .ref (9 + 3)] _ _ from ?_)
          refine zy_2 rfl rfl (show zyR _ _ _ _ [some (.ref (9 + 3)), some (.int x1), some (.int p12.1)] [.int x1, .int (0 : Int32), .ref (9 + 3)] _ _ from ?_)
          refine zy_3 rfl rfl (show zyR _ _ _ _ [some (.ref (9 + 3)), some (.int x1), some (.int p12.1)] [.int (1 : Int32), .int x1, .int (0 : Int32), .ref (9 + 3)] _ _ from ?_)
          refine zy_10 rfl (show zyR _ _ _ _ [some (.ref (9 + 3)), some (.int x1), some (.int p12.1)] [.int (x1 + (1 : Int32)), .int (0 : Int32), .ref (9 + 3)] _ _ from ?_)
          obtain ⟨p16, hp16, h⟩ := zy_bind h
          refine zy_5 (c := 9) (as := [.int (0 : Int32), .int (x1 + (1 : Int32))]) (rest := []) (L := [some (.ref (9 + 3)), some (.int (0 : Int32)), some (.int (x1 + (1 : Int32))), none, none, none]) (d' := d) rfl rfl rfl (Nat.le_of_ble_eq_true rfl) (by omega) rfl (Nat.le_of_ble_eq_true rfl) rfl rfl (hg39 (0 : Int32) (x1 + (1 : Int32)) p15.2 _ _ hp16) ?_
          show zyR _ _ _ _ [some (.ref (9 + 3)), some (.int x1), some (.int p12.1)] [] _ _
          refine zy_0 rfl rfl (show zyR _ _ _ _ [some (.ref (9 + 3)), some (.int x1), some (.int p12.1)] [.ref (9 + 3)] _ _ from ?_)
          refine zy_0 rfl rfl (show zyR _ _ _ _ [some (.ref (9 + 3)), some (.int x1), some (.int p12.1)] [.ref (9 + 3), .ref (9 + 3)] _ _ from ?_)
          refine zy_3 rfl rfl (show zyR _ _ _ _ [some (.ref (9 + 3)), some (.int x1), some (.int p12.1)] [.int (41 : Int32), .ref (9 + 3), .ref (9 + 3)] _ _ from ?_)
          obtain ⟨p17, hp17, h⟩ := zy_bind h
          refine zy_5 (c := 9) (as := [.int (41 : Int32)]) (rest := [.ref (9 + 3)]) (L := [some (.ref (9 + 3)), some (.int (41 : Int32)), none]) (d' := 2) rfl rfl rfl (Nat.le_of_ble_eq_true rfl) (by omega) rfl (Nat.le_of_ble_eq_true rfl) rfl rfl (zyC46 hp17) ?_
          show zyR _ _ _ _ [some (.ref (9 + 3)), some (.int x1), some (.int p12.1)] [.int p17.1, .ref (9 + 3)] _ _
          refine zy_24_1 rfl (fun b18 => (show zyR _ _ _ _ [some (.ref (9 + 3)), some (.int x1), some (.int p12.1)] [.ref (9 + 3)] _ _ from ?_)) (fun b18 => (show zyR _ _ _ _ [some (.ref (9 + 3)), some (.int x1), some (.int p12.1)] [.ref (9 + 3)] _ _ from ?_))
          · replace h := zy_ifp h b18
            refine zy_3 rfl rfl (show zyR _ _ _ _ [some (.ref (9 + 3)), some (.int x1), some (.int p12.1)] [.int (0 : Int32), .ref (9 + 3)] _ _ from ?_)
            exact zy_sub (show zy_le [none, none, none] [some (.ref (9 + 3)), some (.int x1), some (.int p12.1)] from trivial) (zyC40_89 hd hg39 hg40 h)
          · replace h := zy_ifn h b18
            refine zy_3 rfl rfl (show zyR _ _ _ _ [some (.ref (9 + 3)), some (.int x1), some (.int p12.1)] [.int (1 : Int32), .ref (9 + 3)] _ _ from ?_)
            refine zy_6 rfl (show zyR _ _ _ _ [some (.ref (9 + 3)), some (.int x1), some (.int p12.1)] [.int (1 : Int32), .ref (9 + 3)] _ _ from ?_)
            exact zy_sub (show zy_le [none, none, none] [some (.ref (9 + 3)), some (.int x1), some (.int p12.1)] from trivial) (zyC40_89 hd hg39 hg40 h)
    · replace h := zy_ifn h b23
      refine zy_0 rfl rfl (show zyR _ _ _ _ [some (.ref (9 + 3)), some (.int x1), some (.int p12.1)] [.ref (9 + 3)] _ _ from ?_)
      refine zy_33 rfl rfl (show zyR _ _ _ _ [some (.ref (9 + 3)), some (.int x1), some (.int p12.1)] [.ref (9 + 3), .ref (9 + 3)] _ _ from ?_)
      refine zy_1 (c := 9) rfl rfl rfl (show zyR _ _ _ _ [some (.ref (9 + 3)), some (.int x1), some (.int p12.1)] [.int (p14.2.1 9 4), .ref (9 + 3)] _ _ from ?_)
      refine zy_3 rfl rfl (show zyR _ _ _ _ [some (.ref (9 + 3)), some (.int x1), some (.int p12.1)] [.int (1 : Int32), .int (p14.2.1 9 4), .ref (9 + 3)] _ _ from ?_)
      refine zy_10 rfl (show zyR _ _ _ _ [some (.ref (9 + 3)), some (.int x1), some (.int p12.1)] [.int ((p14.2.1 9 4) + (1 : Int32)), .ref (9 + 3)] _ _ from ?_)
      refine zy_52 (c := 9) rfl rfl rfl (show zyR _ _ _ _ [some (.ref (9 + 3)), some (.int x1), some (.int p12.1)] [] _ _ from ?_)
      refine zy_0 rfl rfl (show zyR _ _ _ _ [some (.ref (9 + 3)), some (.int x1), some (.int p12.1)] [.ref (9 + 3)] _ _ from ?_)
      refine zy_3 rfl rfl (show zyR _ _ _ _ [some (.ref (9 + 3)), some (.int x1), some (.int p12.1)] [.int (10000 : Int32), .ref (9 + 3)] _ _ from ?_)
      refine zy_2 rfl rfl (show zyR _ _ _ _ [some (.ref (9 + 3)), some (.int x1), some (.int p12.1)] [.int p12.1, .int (10000 : Int32), .ref (9 + 3)] _ _ from ?_)
      obtain ⟨p21, hp21, h⟩ := zy_bind h
      refine zy_60 (as := [.int p12.1]) (rest := [.int (10000 : Int32), .ref (9 + 3)]) (L := [some (.int p12.1)]) (d' := 1) rfl rfl (Nat.le_of_ble_eq_true rfl) (by omega) rfl (Nat.le_of_ble_eq_true rfl) rfl rfl (zyC45 hp21) ?_
      show zyR _ _ _ _ [some (.ref (9 + 3)), some (.int x1), some (.int p12.1)] [.int p21.1, .int (10000 : Int32), .ref (9 + 3)] _ _
      refine zy_10 rfl (show zyR _ _ _ _ [some (.ref (9 + 3)), some (.int x1), some (.int p12.1)] [.int ((10000 : Int32) + p21.1), .ref (9 + 3)] _ _ from ?_)
      obtain ⟨p22, hp22, h⟩ := zy_bind h
      refine zy_5 (c := 9) (as := [.int ((10000 : Int32) + p21.1)]) (rest := []) (L := [some (.ref (9 + 3)), some (.int ((10000 : Int32) + p21.1))]) (d' := 1) rfl rfl rfl (Nat.le_of_ble_eq_true rfl) (by omega) rfl (Nat.le_of_ble_eq_true rfl) rfl rfl (zyC44 hp22) ?_
      show zyR _ _ _ _ [some (.ref (9 + 3)), some (.int x1), some (.int p12.1)] [] _ _
      refine zy_6 rfl (show zyR _ _ _ _ [some (.ref (9 + 3)), some (.int x1), some (.int p12.1)] [] _ _ from ?_)
      cases h
      exact zy_66 rfl ⟨rfl, rfl⟩
  · replace h := zy_ifn h b25
    refine zy_0 rfl rfl (show zyR _ _ _ _ [some (.ref (9 + 3)), some (.int x1), some (.int p12.1)] [.ref (9 + 3)] _ _ from ?_)
    obtain ⟨p24, hp24, h⟩ := zy_bind h
    refine zy_5 (c := 9) (as := []) (rest := []) (L := [some (.ref (9 + 3)), none, none]) (d' := 2) rfl rfl rfl (Nat.le_of_ble_eq_true rfl) (by omega) rfl (Nat.le_of_ble_eq_true rfl) rfl rfl (zyC43 hp24) ?_
    show zyR _ _ _ _ [some (.ref (9 + 3)), some (.int x1), some (.int p12.1)] [] _ _
    refine zy_6 rfl (show zyR _ _ _ _ [some (.ref (9 + 3)), some (.int x1), some (.int p12.1)] [] _ _ from ?_)
    cases h
    exact zy_66 rfl ⟨rfl, rfl⟩
noncomputable def zyG39 (n : Nat) : (Int32 → Int32 → zy_S → Option (Int32 × zy_S)) × (Int32 → zy_S → Option (Int32 × zy_S)) := Nat.rec ((fun _ _ _ => none), (fun _ _ => none)) (fun _ g => ((fun x1 x2 s => zyF39_0 g.1 g.2 x1 x2 s), (fun x1 s => zyF40_0 g.1 g.2 x1 s))) n
theorem zyG39_s (n : Nat) : zyG39 (n + 1) = ((fun x1 x2 s => zyF39_0 (zyG39 n).1 (zyG39 n).2 x1 x2 s), (fun x1 s => zyF40_0 (zyG39 n).1 (zyG39 n).2 x1 s)) := rfl
theorem zyS39 (n : Nat) (x1 : Int32) (x2 : Int32) (s : zy_S) : (zyG39 (n + 1)).1 x1 x2 s = zyF39_0 (zyG39 n).1 (zyG39 n).2 x1 x2 s := by
  rw [zyG39_s]
theorem zyS40 (n : Nat) (x1 : Int32) (s : zy_S) : (zyG39 (n + 1)).2 x1 s = zyF40_0 (zyG39 n).1 (zyG39 n).2 x1 s := by
  rw [zyG39_s]
theorem zyG39_ok {X : zx_X} : ∀ n : Nat, (∀ (x1 : Int32) (x2 : Int32) (s : zy_S) (r : Int32) (s' : zy_S), (zyG39 n).1 x1 x2 s = some (r, s') → zyR X (2 + n) 39 0 [some (.ref (9 + 3)), some (.int x1), some (.int x2), none, none, none] [] s (zyE none s')) ∧ (∀ (x1 : Int32) (s : zy_S) (r : Int32) (s' : zy_S), (zyG39 n).2 x1 s = some (r, s') → zyR X (2 + n) 40 0 [some (.ref (9 + 3)), some (.int x1), none] [] s (zyE none s'))
  | 0 => by
    refine ⟨?_, ?_⟩
    · intro x1 x2 s r s'  h
      have h : (none : Option (Int32 × zy_S)) = some (r, s') := h
      cases h
    · intro x1 s r s'  h
      have h : (none : Option (Int32 × zy_S)) = some (r, s') := h
      cases h
  | n + 1 => by
    obtain ⟨i0, i1⟩ := zyG39_ok (X := X) n
    refine ⟨?_, ?_⟩
    · intro x1 x2 s r s'  h
      rw [zyS39] at h
      exact zy_sub (show zy_le [some (.ref (9 + 3)), some (.int x1), some (.int x2), none, none, none] [some (.ref (9 + 3)), some (.int x1), some (.int x2), none, none, none] from ⟨rfl, ⟨rfl, ⟨rfl, trivial⟩⟩⟩) (zyC39_0 (d := 2 + n) (g39 := (zyG39 n).1) (g40 := (zyG39 n).2) (by omega) i0 i1  h)
    · intro x1 s r s'  h
      rw [zyS40] at h
      exact zy_sub (show zy_le [some (.ref (9 + 3)), some (.int x1), none] [some (.ref (9 + 3)), some (.int x1), none] from ⟨rfl, ⟨rfl, trivial⟩⟩) (zyC40_0 (d := 2 + n) (g39 := (zyG39 n).1) (g40 := (zyG39 n).2) (by omega) i0 i1  h)
noncomputable def zyF39 : Int32 → Int32 → zy_S → Option (Int32 × zy_S) := (zyG39 100).1
theorem zyC39 {X : zx_X} {x1 : Int32} {x2 : Int32} {s : zy_S} {r : Int32} {s' : zy_S}  (h : zyF39 x1 x2 s = some (r, s')) : zyR X 102 39 0 [some (.ref (9 + 3)), some (.int x1), some (.int x2), none, none, none] [] s (zyE none s') := (zyG39_ok (X := X) 100).1 x1 x2 s r s'  h
noncomputable def zyF40 : Int32 → zy_S → Option (Int32 × zy_S) := (zyG39 100).2
theorem zyC40 {X : zx_X} {x1 : Int32} {s : zy_S} {r : Int32} {s' : zy_S}  (h : zyF40 x1 s = some (r, s')) : zyR X 102 40 0 [some (.ref (9 + 3)), some (.int x1), none] [] s (zyE none s') := (zyG39_ok (X := X) 100).2 x1 s r s'  h
/-! NineOpinions$Tape.readLine()V -/
noncomputable def zyF38_27    (s : zy_S) : Option (Int32 × zy_S) :=
(zyF44 (-59 : Int32) s).bind fun p1 =>
some ((0 : Int32), p1.2)
theorem zyC38_27 {X : zx_X}      {s : zy_S} {r : Int32} {s' : zy_S}  (h : zyF38_27 s = some (r, s')) : zyR X 103 38 27 [some (.ref (9 + 3))] [] s (zyE none s') := by
  unfold zyF38_27 at h
  refine zy_0 rfl rfl (show zyR _ _ _ _ [some (.ref (9 + 3))] [.ref (9 + 3)] _ _ from ?_)
  refine zy_3 rfl rfl (show zyR _ _ _ _ [some (.ref (9 + 3))] [.int (-59 : Int32), .ref (9 + 3)] _ _ from ?_)
  obtain ⟨p1, hp1, h⟩ := zy_bind h
  refine zy_5 (c := 9) (as := [.int (-59 : Int32)]) (rest := []) (L := [some (.ref (9 + 3)), some (.int (-59 : Int32))]) (d' := 1) rfl rfl rfl (Nat.le_of_ble_eq_true rfl) (Nat.le_of_ble_eq_true rfl) rfl (Nat.le_of_ble_eq_true rfl) rfl rfl (zyC44 hp1) ?_
  show zyR _ _ _ _ [some (.ref (9 + 3))] [] _ _
  cases h
  exact zy_66 rfl ⟨rfl, rfl⟩
noncomputable def zyF38    (s : zy_S) : Option (Int32 × zy_S) :=
(zyF39 (0 : Int32) (0 : Int32) s).bind fun p2 =>
(zyF46 (63 : Int32) p2.2).bind fun p3 =>
if p3.1 = 0 then
zyF38_27 p3.2
else
(zyF44 (-63 : Int32) p3.2).bind fun p4 =>
(zyF39 (0 : Int32) (0 : Int32) p4.2).bind fun p5 =>
zyF38_27 p5.2
theorem zyC38 {X : zx_X}      {s : zy_S} {r : Int32} {s' : zy_S}  (h : zyF38 s = some (r, s')) : zyR X 103 38 0 [some (.ref (9 + 3))] [] s (zyE none s') := by
  unfold zyF38 at h
  refine zy_0 rfl rfl (show zyR _ _ _ _ [some (.ref (9 + 3))] [.ref (9 + 3)] _ _ from ?_)
  refine zy_3 rfl rfl (show zyR _ _ _ _ [some (.ref (9 + 3))] [.int (0 : Int32), .ref (9 + 3)] _ _ from ?_)
  refine zy_3 rfl rfl (show zyR _ _ _ _ [some (.ref (9 + 3))] [.int (0 : Int32), .int (0 : Int32), .ref (9 + 3)] _ _ from ?_)
  obtain ⟨p2, hp2, h⟩ := zy_bind h
  refine zy_5 (c := 9) (as := [.int (0 : Int32), .int (0 : Int32)]) (rest := []) (L := [some (.ref (9 + 3)), some (.int (0 : Int32)), some (.int (0 : Int32)), none, none, none]) (d' := 102) rfl rfl rfl (Nat.le_of_ble_eq_true rfl) (Nat.le_of_ble_eq_true rfl) rfl (Nat.le_of_ble_eq_true rfl) rfl rfl (zyC39 hp2) ?_
  show zyR _ _ _ _ [some (.ref (9 + 3))] [] _ _
  refine zy_0 rfl rfl (show zyR _ _ _ _ [some (.ref (9 + 3))] [.ref (9 + 3)] _ _ from ?_)
  refine zy_3 rfl rfl (show zyR _ _ _ _ [some (.ref (9 + 3))] [.int (63 : Int32), .ref (9 + 3)] _ _ from ?_)
  obtain ⟨p3, hp3, h⟩ := zy_bind h
  refine zy_5 (c := 9) (as := [.int (63 : Int32)]) (rest := []) (L := [some (.ref (9 + 3)), some (.int (63 : Int32)), none]) (d' := 2) rfl rfl rfl (Nat.le_of_ble_eq_true rfl) (Nat.le_of_ble_eq_true rfl) rfl (Nat.le_of_ble_eq_true rfl) rfl rfl (zyC46 hp3) ?_
  show zyR _ _ _ _ [some (.ref (9 + 3))] [.int p3.1] _ _
  refine zy_24_0 rfl (fun b6 => (show zyR _ _ _ _ [some (.ref (9 + 3))] [] _ _ from ?_)) (fun b6 => (show zyR _ _ _ _ [some (.ref (9 + 3))] [] _ _ from ?_))
  · replace h := zy_ifp h b6
    exact zy_sub (show zy_le [some (.ref (9 + 3))] [some (.ref (9 + 3))] from ⟨rfl, trivial⟩) (zyC38_27 h)
  · replace h := zy_ifn h b6
    refine zy_0 rfl rfl (show zyR _ _ _ _ [some (.ref (9 + 3))] [.ref (9 + 3)] _ _ from ?_)
    refine zy_3 rfl rfl (show zyR _ _ _ _ [some (.ref (9 + 3))] [.int (-63 : Int32), .ref (9 + 3)] _ _ from ?_)
    obtain ⟨p4, hp4, h⟩ := zy_bind h
    refine zy_5 (c := 9) (as := [.int (-63 : Int32)]) (rest := []) (L := [some (.ref (9 + 3)), some (.int (-63 : Int32))]) (d' := 1) rfl rfl rfl (Nat.le_of_ble_eq_true rfl) (Nat.le_of_ble_eq_true rfl) rfl (Nat.le_of_ble_eq_true rfl) rfl rfl (zyC44 hp4) ?_
    show zyR _ _ _ _ [some (.ref (9 + 3))] [] _ _
    refine zy_0 rfl rfl (show zyR _ _ _ _ [some (.ref (9 + 3))] [.ref (9 + 3)] _ _ from ?_)
    refine zy_3 rfl rfl (show zyR _ _ _ _ [some (.ref (9 + 3))] [.int (0 : Int32), .ref (9 + 3)] _ _ from ?_)
    refine zy_3 rfl rfl (show zyR _ _ _ _ [some (.ref (9 + 3))] [.int (0 : Int32), .int (0 : Int32), .ref (9 + 3)] _ _ from ?_)
    obtain ⟨p5, hp5, h⟩ := zy_bind h
    refine zy_5 (c := 9) (as := [.int (0 : Int32), .int (0 : Int32)]) (rest := []) (L := [some (.ref (9 + 3)), some (.int (0 : Int32)), some (.int (0 : Int32)), none, none, none]) (d' := 102) rfl rfl rfl (Nat.le_of_ble_eq_true rfl) (Nat.le_of_ble_eq_true rfl) rfl (Nat.le_of_ble_eq_true rfl) rfl rfl (zyC39 hp5) ?_
    show zyR _ _ _ _ [some (.ref (9 + 3))] [] _ _
    exact zy_sub (show zy_le [some (.ref (9 + 3))] [some (.ref (9 + 3))] from ⟨rfl, trivial⟩) (zyC38_27 h)
/-! NineOpinions$Tape.read()I -/
noncomputable def zyF37_46    (s : zy_S) : Option (Int32 × zy_S) :=
if (s.1 9 5) ≠ 0 then
some ((s.1 9 4), s)
else
if (s.1 9 2) ≤ (s.1 9 4) then
some ((-1 : Int32), s)
else
some ((s.1 9 4), s)
theorem zyC37_46 {X : zx_X}      {s : zy_S} {r : Int32} {s' : zy_S}  (h : zyF37_46 s = some (r, s')) : zyR X 104 37 46 [some (.ref (9 + 3)), none] [] s (zyE (some (.int r)) s') := by
  unfold zyF37_46 at h
  refine zy_0 rfl rfl (show zyR _ _ _ _ [some (.ref (9 + 3)), none] [.ref (9 + 3)] _ _ from ?_)
  refine zy_1 (c := 9) rfl rfl rfl (show zyR _ _ _ _ [some (.ref (9 + 3)), none] [.int (s.1 9 5)] _ _ from ?_)
  refine zy_24_1 rfl (fun b2 => (show zyR _ _ _ _ [some (.ref (9 + 3)), none] [] _ _ from ?_)) (fun b2 => (show zyR _ _ _ _ [some (.ref (9 + 3)), none] [] _ _ from ?_))
  · replace h := zy_ifp h b2
    refine zy_0 rfl rfl (show zyR _ _ _ _ [some (.ref (9 + 3)), none] [.ref (9 + 3)] _ _ from ?_)
    refine zy_1 (c := 9) rfl rfl rfl (show zyR _ _ _ _ [some (.ref (9 + 3)), none] [.int (s.1 9 4)] _ _ from ?_)
    refine zy_6 rfl (show zyR _ _ _ _ [some (.ref (9 + 3)), none] [.int (s.1 9 4)] _ _ from ?_)
    obtain ⟨rfl, rfl⟩ := zy_pi h
    exact zy_4 rfl ⟨rfl, rfl⟩
  · replace h := zy_ifn h b2
    refine zy_0 rfl rfl (show zyR _ _ _ _ [some (.ref (9 + 3)), none] [.ref (9 + 3)] _ _ from ?_)
    refine zy_1 (c := 9) rfl rfl rfl (show zyR _ _ _ _ [some (.ref (9 + 3)), none] [.int (s.1 9 4)] _ _ from ?_)
    refine zy_0 rfl rfl (show zyR _ _ _ _ [some (.ref (9 + 3)), none] [.ref (9 + 3), .int (s.1 9 4)] _ _ from ?_)
    refine zy_1 (c := 9) rfl rfl rfl (show zyR _ _ _ _ [some (.ref (9 + 3)), none] [.int (s.1 9 2), .int (s.1 9 4)] _ _ from ?_)
    refine zy_25_3 rfl (fun b1 => (show zyR _ _ _ _ [some (.ref (9 + 3)), none] [] _ _ from ?_)) (fun b1 => (show zyR _ _ _ _ [some (.ref (9 + 3)), none] [] _ _ from ?_))
    · replace h := zy_ifp h b1
      refine zy_3 rfl rfl (show zyR _ _ _ _ [some (.ref (9 + 3)), none] [.int (-1 : Int32)] _ _ from ?_)
      obtain ⟨rfl, rfl⟩ := zy_pi h
      exact zy_4 rfl ⟨rfl, rfl⟩
    · replace h := zy_ifn h b1
      refine zy_0 rfl rfl (show zyR _ _ _ _ [some (.ref (9 + 3)), none] [.ref (9 + 3)] _ _ from ?_)
      refine zy_1 (c := 9) rfl rfl rfl (show zyR _ _ _ _ [some (.ref (9 + 3)), none] [.int (s.1 9 4)] _ _ from ?_)
      refine zy_6 rfl (show zyR _ _ _ _ [some (.ref (9 + 3)), none] [.int (s.1 9 4)] _ _ from ?_)
      obtain ⟨rfl, rfl⟩ := zy_pi h
      exact zy_4 rfl ⟨rfl, rfl⟩
noncomputable def zyF37_21b  (k21 : Int32 → zy_S → Option (Int32 × zy_S)) (x1 : Int32) (s : zy_S) : Option (Int32 × zy_S) :=
if (120 : Int32) ≤ x1 then
zyF37_46 s
else
(zyF46 (59 : Int32) s).bind fun p3 =>
if p3.1 = 0 then
zyF37_46 p3.2
else
(zyF38 p3.2).bind fun p4 =>
k21 (x1 + (1 : Int32)) p4.2
theorem zyC37_21b {X : zx_X}  {k21 : Int32 → zy_S → Option (Int32 × zy_S)}  (hk21 : ∀ (x1 : Int32) (s : zy_S) (r : Int32) (s' : zy_S), k21 x1 s = some (r, s') → zyR X 104 37 21 [some (.ref (9 + 3)), some (.int x1)] [] s (zyE (some (.int r)) s')) {x1 : Int32} {s : zy_S} {r : Int32} {s' : zy_S}  (h : zyF37_21b k21 x1 s = some (r, s')) : zyR X 104 37 21 [some (.ref (9 + 3)), some (.int x1)] [] s (zyE (some (.int r)) s') := by
  unfold zyF37_21b at h
  refine zy_2 rfl rfl (show zyR _ _ _ _ [some (.ref (9 + 3)), some (.int x1)] [.int x1] _ _ from ?_)
  refine zy_3 rfl rfl (show zyR _ _ _ _ [some (.ref (9 + 3)), some (.int x1)] [.int (120 : Int32), .int x1] _ _ from ?_)
  refine zy_25_3 rfl (fun b6 => (show zyR _ _ _ _ [some (.ref (9 + 3)), some (.int x1)] [] _ _ from ?_)) (fun b6 => (show zyR _ _ _ _ [some (.ref (9 + 3)), some (.int x1)] [] _ _ from ?_))
  · replace h := zy_ifp h b6
    exact zy_sub (show zy_le [some (.ref (9 + 3)), none] [some (.ref (9 + 3)), some (.int x1)] from ⟨rfl, trivial⟩) (zyC37_46 h)
  · replace h := zy_ifn h b6
    refine zy_0 rfl rfl (show zyR _ _ _ _ [some (.ref (9 + 3)), some (.int x1)] [.ref (9 + 3)] _ _ from ?_)
    refine zy_3 rfl rfl (show zyR _ _ _ _ [some (.ref (9 + 3)), some (.int x1)] [.int (59 : Int32), .ref (9 + 3)] _ _ from ?_)
    obtain ⟨p3, hp3, h⟩ := zy_bind h
    refine zy_5 (c := 9) (as := [.int (59 : Int32)]) (rest := []) (L := [some (.ref (9 + 3)), some (.int (59 : Int32)), none]) (d' := 2) rfl rfl rfl (Nat.le_of_ble_eq_true rfl) (Nat.le_of_ble_eq_true rfl) rfl (Nat.le_of_ble_eq_true rfl) rfl rfl (zyC46 hp3) ?_
    show zyR _ _ _ _ [some (.ref (9 + 3)), some (.int x1)] [.int p3.1] _ _
    refine zy_24_0 rfl (fun b5 => (show zyR _ _ _ _ [some (.ref (9 + 3)), some (.int x1)] [] _ _ from ?_)) (fun b5 => (show zyR _ _ _ _ [some (.ref (9 + 3)), some (.int x1)] [] _ _ from ?_))
    · replace h := zy_ifp h b5
      exact zy_sub (show zy_le [some (.ref (9 + 3)), none] [some (.ref (9 + 3)), some (.int x1)] from ⟨rfl, trivial⟩) (zyC37_46 h)
    · replace h := zy_ifn h b5
      refine zy_0 rfl rfl (show zyR _ _ _ _ [some (.ref (9 + 3)), some (.int x1)] [.ref (9 + 3)] _ _ from ?_)
      obtain ⟨p4, hp4, h⟩ := zy_bind h
      refine zy_5 (c := 9) (as := []) (rest := []) (L := [some (.ref (9 + 3))]) (d' := 103) rfl rfl rfl (Nat.le_of_ble_eq_true rfl) (Nat.le_of_ble_eq_true rfl) rfl (Nat.le_of_ble_eq_true rfl) rfl rfl (zyC38 hp4) ?_
      show zyR _ _ _ _ [some (.ref (9 + 3)), some (.int x1)] [] _ _
      refine zy_22 rfl rfl rfl rfl (show zyR _ _ _ _ [some (.ref (9 + 3)), some (.int (x1 + (1 : Int32)))] [] _ _ from ?_)
      refine zy_6 rfl (show zyR _ _ _ _ [some (.ref (9 + 3)), some (.int (x1 + (1 : Int32)))] [] _ _ from ?_)
      exact zy_sub (show zy_le [some (.ref (9 + 3)), some (.int (x1 + (1 : Int32)))] [some (.ref (9 + 3)), some (.int (x1 + (1 : Int32)))] from ⟨rfl, ⟨rfl, trivial⟩⟩) (hk21 (x1 + (1 : Int32)) p4.2 _ _ h)
noncomputable def zyF37_21   (n : Nat) : Int32 → zy_S → Option (Int32 × zy_S) := Nat.rec (fun _ _ => none) (fun _ k21 => zyF37_21b k21) n
theorem zyC37_21 {X : zx_X}     : ∀ (n : Nat) (x1 : Int32) (s : zy_S) (r : Int32) (s' : zy_S), zyF37_21 n x1 s = some (r, s') → zyR X 104 37 21 [some (.ref (9 + 3)), some (.int x1)] [] s (zyE (some (.int r)) s')
  | 0, _ => by
    intro s r s'  h
    have h : (none : Option (Int32 × zy_S)) = some (r, s') := h
    cases h
  | n + 1, x1 => by
    intro s r s'  h
    exact zyC37_21b (k21 := zyF37_21 n) (fun x1 s r s'  h => zyC37_21  n x1 s r s'  h) h
noncomputable def zyF37    (s : zy_S) : Option (Int32 × zy_S) :=
(zyF38 (zy_up (zy_up (zy_up s 9 4 (0 : Int32)) 9 3 (0 : Int32)) 9 5 (0 : Int32))).bind fun p7 =>
zyF37_21 zy_fu (0 : Int32) p7.2
theorem zyC37 {X : zx_X}      {s : zy_S} {r : Int32} {s' : zy_S}  (h : zyF37 s = some (r, s')) : zyR X 104 37 0 [some (.ref (9 + 3)), none] [] s (zyE (some (.int r)) s') := by
  unfold zyF37 at h
  refine zy_0 rfl rfl (show zyR _ _ _ _ [some (.ref (9 + 3)), none] [.ref (9 + 3)] _ _ from ?_)
  refine zy_3 rfl rfl (show zyR _ _ _ _ [some (.ref (9 + 3)), none] [.int (0 : Int32), .ref (9 + 3)] _ _ from ?_)
  refine zy_52 (c := 9) rfl rfl rfl (show zyR _ _ _ _ [some (.ref (9 + 3)), none] [] _ _ from ?_)
  refine zy_0 rfl rfl (show zyR _ _ _ _ [some (.ref (9 + 3)), none] [.ref (9 + 3)] _ _ from ?_)
  refine zy_3 rfl rfl (show zyR _ _ _ _ [some (.ref (9 + 3)), none] [.int (0 : Int32), .ref (9 + 3)] _ _ from ?_)
  refine zy_52 (c := 9) rfl rfl rfl (show zyR _ _ _ _ [some (.ref (9 + 3)), none] [] _ _ from ?_)
  refine zy_0 rfl rfl (show zyR _ _ _ _ [some (.ref (9 + 3)), none] [.ref (9 + 3)] _ _ from ?_)
  refine zy_3 rfl rfl (show zyR _ _ _ _ [some (.ref (9 + 3)), none] [.int (0 : Int32), .ref (9 + 3)] _ _ from ?_)
  refine zy_52b (c := 9) rfl rfl rfl (Or.inl rfl) (show zyR _ _ _ _ [some (.ref (9 + 3)), none] [] _ _ from ?_)
  refine zy_0 rfl rfl (show zyR _ _ _ _ [some (.ref (9 + 3)), none] [.ref (9 + 3)] _ _ from ?_)
  obtain ⟨p7, hp7, h⟩ := zy_bind h
  refine zy_5 (c := 9) (as := []) (rest := []) (L := [some (.ref (9 + 3))]) (d' := 103) rfl rfl rfl (Nat.le_of_ble_eq_true rfl) (Nat.le_of_ble_eq_true rfl) rfl (Nat.le_of_ble_eq_true rfl) rfl rfl (zyC38 hp7) ?_
  show zyR _ _ _ _ [some (.ref (9 + 3)), none] [] _ _
  refine zy_3 rfl rfl (show zyR _ _ _ _ [some (.ref (9 + 3)), none] [.int (0 : Int32)] _ _ from ?_)
  refine zy_23 rfl rfl (show zyR _ _ _ _ [some (.ref (9 + 3)), some (.int (0 : Int32))] [] _ _ from ?_)
  exact zy_sub (show zy_le [some (.ref (9 + 3)), some (.int (0 : Int32))] [some (.ref (9 + 3)), some (.int (0 : Int32))] from ⟨rfl, ⟨rfl, trivial⟩⟩) (zyC37_21 zy_fu (0 : Int32) p7.2 _ _ h)
/-! NineOpinions$Law.adopt([II)V -/
noncomputable def zyF48   (x2 : Int32) (s : zy_S) : Option (Int32 × zy_S) :=
if zy_cpB (0 : Int32) (0 : Int32) x2 128 128 then
some ((0 : Int32), (zy_up (zy_ua s 6 (va_cpy (s.1 11) (s.1 6) 0 0 (x2).toNatClampNeg)) 5 3 x2))
else none
theorem zyC48 {X : zx_X}     {x2 : Int32} {s : zy_S} {r : Int32} {s' : zy_S}  (h : zyF48 x2 s = some (r, s')) : zyR X 1 48 0 [some (.ref (5 + 3)), some (.ref (11 + 3)), some (.int x2)] [] s (zyE none s') := by
  unfold zyF48 at h
  refine zy_0 rfl rfl (show zyR _ _ _ _ [some (.ref (5 + 3)), some (.ref (11 + 3)), some (.int x2)] [.ref (11 + 3)] _ _ from ?_)
  refine zy_3 rfl rfl (show zyR _ _ _ _ [some (.ref (5 + 3)), some (.ref (11 + 3)), some (.int x2)] [.int (0 : Int32), .ref (11 + 3)] _ _ from ?_)
  refine zy_0 rfl rfl (show zyR _ _ _ _ [some (.ref (5 + 3)), some (.ref (11 + 3)), some (.int x2)] [.ref (5 + 3), .int (0 : Int32), .ref (11 + 3)] _ _ from ?_)
  refine zy_1r (c := 5) rfl rfl rfl (show zyR _ _ _ _ [some (.ref (5 + 3)), some (.ref (11 + 3)), some (.int x2)] [.ref (6 + 3), .int (0 : Int32), .ref (11 + 3)] _ _ from ?_)
  refine zy_3 rfl rfl (show zyR _ _ _ _ [some (.ref (5 + 3)), some (.ref (11 + 3)), some (.int x2)] [.int (0 : Int32), .ref (6 + 3), .int (0 : Int32), .ref (11 + 3)] _ _ from ?_)
  refine zy_2 rfl rfl (show zyR _ _ _ _ [some (.ref (5 + 3)), some (.ref (11 + 3)), some (.int x2)] [.int x2, .int (0 : Int32), .ref (6 + 3), .int (0 : Int32), .ref (11 + 3)] _ _ from ?_)
  obtain ⟨c1, h⟩ := zy_if h
  refine zy_64 (c0 := 11) (c1 := 6) rfl rfl rfl c1 (Nat.le_of_ble_eq_true rfl) (Nat.le_of_ble_eq_true rfl) (show zyR _ _ _ _ [some (.ref (5 + 3)), some (.ref (11 + 3)), some (.int x2)] [] _ _ from ?_)
  refine zy_0 rfl rfl (show zyR _ _ _ _ [some (.ref (5 + 3)), some (.ref (11 + 3)), some (.int x2)] [.ref (5 + 3)] _ _ from ?_)
  refine zy_2 rfl rfl (show zyR _ _ _ _ [some (.ref (5 + 3)), some (.ref (11 + 3)), some (.int x2)] [.int x2, .ref (5 + 3)] _ _ from ?_)
  refine zy_52 (c := 5) rfl rfl rfl (show zyR _ _ _ _ [some (.ref (5 + 3)), some (.ref (11 + 3)), some (.int x2)] [] _ _ from ?_)
  cases h
  exact zy_66 rfl ⟨rfl, rfl⟩
/-! NineOpinions$Tape.clear()V -/
noncomputable def zyF49    (s : zy_S) : Option (Int32 × zy_S) :=
some ((0 : Int32), (zy_up s 9 2 (0 : Int32)))
theorem zyC49 {X : zx_X}      {s : zy_S} {r : Int32} {s' : zy_S}  (h : zyF49 s = some (r, s')) : zyR X 1 49 0 [some (.ref (9 + 3))] [] s (zyE none s') := by
  unfold zyF49 at h
  refine zy_0 rfl rfl (show zyR _ _ _ _ [some (.ref (9 + 3))] [.ref (9 + 3)] _ _ from ?_)
  refine zy_3 rfl rfl (show zyR _ _ _ _ [some (.ref (9 + 3))] [.int (0 : Int32), .ref (9 + 3)] _ _ from ?_)
  refine zy_52 (c := 9) rfl rfl rfl (show zyR _ _ _ _ [some (.ref (9 + 3))] [] _ _ from ?_)
  cases h
  exact zy_66 rfl ⟨rfl, rfl⟩
/-! NineOpinions.law()I -/
noncomputable def zyF36_34   (x1 : Int32) (s : zy_S) : Option (Int32 × zy_S) :=
(zyF49 s).bind fun p1 =>
if x1 ≠ (-1 : Int32) then
some (((-100 : Int32) - x1), p1.2)
else
some ((1 : Int32), p1.2)
theorem zyC36_34 {X : zx_X}     {x1 : Int32} {s : zy_S} {r : Int32} {s' : zy_S}  (h : zyF36_34 x1 s = some (r, s')) : zyR X 105 36 34 [some (.ref (0 + 3)), some (.int x1)] [] s (zyE (some (.int r)) s') := by
  unfold zyF36_34 at h
  refine zy_0 rfl rfl (show zyR _ _ _ _ [some (.ref (0 + 3)), some (.int x1)] [.ref (0 + 3)] _ _ from ?_)
  refine zy_1r (c := 0) rfl rfl rfl (show zyR _ _ _ _ [some (.ref (0 + 3)), some (.int x1)] [.ref (9 + 3)] _ _ from ?_)
  obtain ⟨p1, hp1, h⟩ := zy_bind h
  refine zy_5 (c := 9) (as := []) (rest := []) (L := [some (.ref (9 + 3))]) (d' := 1) rfl rfl rfl (Nat.le_of_ble_eq_true rfl) (Nat.le_of_ble_eq_true rfl) rfl (Nat.le_of_ble_eq_true rfl) rfl rfl (zyC49 hp1) ?_
  show zyR _ _ _ _ [some (.ref (0 + 3)), some (.int x1)] [] _ _
  refine zy_2 rfl rfl (show zyR _ _ _ _ [some (.ref (0 + 3)), some (.int x1)] [.int x1] _ _ from ?_)
  refine zy_3 rfl rfl (show zyR _ _ _ _ [some (.ref (0 + 3)), some (.int x1)] [.int (-1 : Int32), .int x1] _ _ from ?_)
  refine zy_25_1 rfl (fun b2 => (show zyR _ _ _ _ [some (.ref (0 + 3)), some (.int x1)] [] _ _ from ?_)) (fun b2 => (show zyR _ _ _ _ [some (.ref (0 + 3)), some (.int x1)] [] _ _ from ?_))
  · replace h := zy_ifp h b2
    refine zy_3 rfl rfl (show zyR _ _ _ _ [some (.ref (0 + 3)), some (.int x1)] [.int (-100 : Int32)] _ _ from ?_)
    refine zy_2 rfl rfl (show zyR _ _ _ _ [some (.ref (0 + 3)), some (.int x1)] [.int x1, .int (-100 : Int32)] _ _ from ?_)
    refine zy_11 rfl (show zyR _ _ _ _ [some (.ref (0 + 3)), some (.int x1)] [.int ((-100 : Int32) - x1)] _ _ from ?_)
    obtain ⟨rfl, rfl⟩ := zy_pi h
    exact zy_4 rfl ⟨rfl, rfl⟩
  · replace h := zy_ifn h b2
    refine zy_3 rfl rfl (show zyR _ _ _ _ [some (.ref (0 + 3)), some (.int x1)] [.int (1 : Int32)] _ _ from ?_)
    refine zy_6 rfl (show zyR _ _ _ _ [some (.ref (0 + 3)), some (.int x1)] [.int (1 : Int32)] _ _ from ?_)
    obtain ⟨rfl, rfl⟩ := zy_pi h
    exact zy_4 rfl ⟨rfl, rfl⟩
noncomputable def zyF36    (s : zy_S) : Option (Int32 × zy_S) :=
(zyF37 s).bind fun p3 =>
if p3.1 ≠ (-1 : Int32) then
zyF36_34 p3.1 p3.2
else
(zyF48 (p3.2.1 9 3) p3.2).bind fun p4 =>
zyF36_34 p3.1 p4.2
theorem zyC36 {X : zx_X}      {s : zy_S} {r : Int32} {s' : zy_S}  (h : zyF36 s = some (r, s')) : zyR X 105 36 0 [some (.ref (0 + 3)), none] [] s (zyE (some (.int r)) s') := by
  unfold zyF36 at h
  refine zy_0 rfl rfl (show zyR _ _ _ _ [some (.ref (0 + 3)), none] [.ref (0 + 3)] _ _ from ?_)
  refine zy_1r (c := 0) rfl rfl rfl (show zyR _ _ _ _ [some (.ref (0 + 3)), none] [.ref (9 + 3)] _ _ from ?_)
  obtain ⟨p3, hp3, h⟩ := zy_bind h
  refine zy_5 (c := 9) (as := []) (rest := []) (L := [some (.ref (9 + 3)), none]) (d' := 104) rfl rfl rfl (Nat.le_of_ble_eq_true rfl) (Nat.le_of_ble_eq_true rfl) rfl (Nat.le_of_ble_eq_true rfl) rfl rfl (zyC37 hp3) ?_
  show zyR _ _ _ _ [some (.ref (0 + 3)), none] [.int p3.1] _ _
  refine zy_23 rfl rfl (show zyR _ _ _ _ [some (.ref (0 + 3)), some (.int p3.1)] [] _ _ from ?_)
  refine zy_2 rfl rfl (show zyR _ _ _ _ [some (.ref (0 + 3)), some (.int p3.1)] [.int p3.1] _ _ from ?_)
  refine zy_3 rfl rfl (show zyR _ _ _ _ [some (.ref (0 + 3)), some (.int p3.1)] [.int (-1 : Int32), .int p3.1] _ _ from ?_)
  refine zy_25_1 rfl (fun b5 => (show zyR _ _ _ _ [some (.ref (0 + 3)), some (.int p3.1)] [] _ _ from ?_)) (fun b5 => (show zyR _ _ _ _ [some (.ref (0 + 3)), some (.int p3.1)] [] _ _ from ?_))
  · replace h := zy_ifp h b5
    exact zy_sub (show zy_le [some (.ref (0 + 3)), some (.int p3.1)] [some (.ref (0 + 3)), some (.int p3.1)] from ⟨rfl, ⟨rfl, trivial⟩⟩) (zyC36_34 h)
  · replace h := zy_ifn h b5
    refine zy_0 rfl rfl (show zyR _ _ _ _ [some (.ref (0 + 3)), some (.int p3.1)] [.ref (0 + 3)] _ _ from ?_)
    refine zy_1r (c := 0) rfl rfl rfl (show zyR _ _ _ _ [some (.ref (0 + 3)), some (.int p3.1)] [.ref (5 + 3)] _ _ from ?_)
    refine zy_0 rfl rfl (show zyR _ _ _ _ [some (.ref (0 + 3)), some (.int p3.1)] [.ref (0 + 3), .ref (5 + 3)] _ _ from ?_)
    refine zy_1r (c := 0) rfl rfl rfl (show zyR _ _ _ _ [some (.ref (0 + 3)), some (.int p3.1)] [.ref (9 + 3), .ref (5 + 3)] _ _ from ?_)
    refine zy_1r (c := 9) rfl rfl rfl (show zyR _ _ _ _ [some (.ref (0 + 3)), some (.int p3.1)] [.ref (11 + 3), .ref (5 + 3)] _ _ from ?_)
    refine zy_0 rfl rfl (show zyR _ _ _ _ [some (.ref (0 + 3)), some (.int p3.1)] [.ref (0 + 3), .ref (11 + 3), .ref (5 + 3)] _ _ from ?_)
    refine zy_1r (c := 0) rfl rfl rfl (show zyR _ _ _ _ [some (.ref (0 + 3)), some (.int p3.1)] [.ref (9 + 3), .ref (11 + 3), .ref (5 + 3)] _ _ from ?_)
    refine zy_1 (c := 9) rfl rfl rfl (show zyR _ _ _ _ [some (.ref (0 + 3)), some (.int p3.1)] [.int (p3.2.1 9 3), .ref (11 + 3), .ref (5 + 3)] _ _ from ?_)
    obtain ⟨p4, hp4, h⟩ := zy_bind h
    refine zy_5 (c := 5) (as := [.ref (11 + 3), .int (p3.2.1 9 3)]) (rest := []) (L := [some (.ref (5 + 3)), some (.ref (11 + 3)), some (.int (p3.2.1 9 3))]) (d' := 1) rfl rfl rfl (Nat.le_of_ble_eq_true rfl) (Nat.le_of_ble_eq_true rfl) rfl (Nat.le_of_ble_eq_true rfl) rfl rfl (zyC48 hp4) ?_
    show zyR _ _ _ _ [some (.ref (0 + 3)), some (.int p3.1)] [] _ _
    exact zy_sub (show zy_le [some (.ref (0 + 3)), some (.int p3.1)] [some (.ref (0 + 3)), some (.int p3.1)] from ⟨rfl, ⟨rfl, trivial⟩⟩) (zyC36_34 h)
/-! NineOpinionsModel.byteAt()I -/
noncomputable def zyF198    (s : zy_S) : Option (Int32 × zy_S) :=
if (s.1 43 14) ≤ (s.1 43 13) then
some ((0 : Int32), s)
else
if 0 ≤ (s.1 43 12) then
if zy_in ((s.1 43 12) + (s.1 43 13)) 120 then
some ((s.1 49 (((s.1 43 12) + (s.1 43 13))).toNatClampNeg), s)
else none
else
if zy_in (s.1 43 13) 120 then
some ((s.1 48 ((s.1 43 13)).toNatClampNeg), s)
else none
theorem zyC198 {X : zx_X}      {s : zy_S} {r : Int32} {s' : zy_S}  (h : zyF198 s = some (r, s')) : zyR X 1 198 0 [some (.ref (43 + 3))] [] s (zyE (some (.int r)) s') := by
  unfold zyF198 at h
  refine zy_0 rfl rfl (show zyR _ _ _ _ [some (.ref (43 + 3))] [.ref (43 + 3)] _ _ from ?_)
  refine zy_1 (c := 43) rfl rfl rfl (show zyR _ _ _ _ [some (.ref (43 + 3))] [.int (s.1 43 13)] _ _ from ?_)
  refine zy_0 rfl rfl (show zyR _ _ _ _ [some (.ref (43 + 3))] [.ref (43 + 3), .int (s.1 43 13)] _ _ from ?_)
  refine zy_1 (c := 43) rfl rfl rfl (show zyR _ _ _ _ [some (.ref (43 + 3))] [.int (s.1 43 14), .int (s.1 43 13)] _ _ from ?_)
  refine zy_25_3 rfl (fun b4 => (show zyR _ _ _ _ [some (.ref (43 + 3))] [] _ _ from ?_)) (fun b4 => (show zyR _ _ _ _ [some (.ref (43 + 3))] [] _ _ from ?_))
  · replace h := zy_ifp h b4
    refine zy_3 rfl rfl (show zyR _ _ _ _ [some (.ref (43 + 3))] [.int (0 : Int32)] _ _ from ?_)
    obtain ⟨rfl, rfl⟩ := zy_pi h
    exact zy_4 rfl ⟨rfl, rfl⟩
  · replace h := zy_ifn h b4
    refine zy_0 rfl rfl (show zyR _ _ _ _ [some (.ref (43 + 3))] [.ref (43 + 3)] _ _ from ?_)
    refine zy_1 (c := 43) rfl rfl rfl (show zyR _ _ _ _ [some (.ref (43 + 3))] [.int (s.1 43 12)] _ _ from ?_)
    refine zy_24_3 rfl (fun b3 => (show zyR _ _ _ _ [some (.ref (43 + 3))] [] _ _ from ?_)) (fun b3 => (show zyR _ _ _ _ [some (.ref (43 + 3))] [] _ _ from ?_))
    · replace h := zy_ifp h b3
      refine zy_0 rfl rfl (show zyR _ _ _ _ [some (.ref (43 + 3))] [.ref (43 + 3)] _ _ from ?_)
      refine zy_1r (c := 43) rfl rfl rfl (show zyR _ _ _ _ [some (.ref (43 + 3))] [.ref (49 + 3)] _ _ from ?_)
      refine zy_0 rfl rfl (show zyR _ _ _ _ [some (.ref (43 + 3))] [.ref (43 + 3), .ref (49 + 3)] _ _ from ?_)
      refine zy_1 (c := 43) rfl rfl rfl (show zyR _ _ _ _ [some (.ref (43 + 3))] [.int (s.1 43 12), .ref (49 + 3)] _ _ from ?_)
      refine zy_0 rfl rfl (show zyR _ _ _ _ [some (.ref (43 + 3))] [.ref (43 + 3), .int (s.1 43 12), .ref (49 + 3)] _ _ from ?_)
      refine zy_1 (c := 43) rfl rfl rfl (show zyR _ _ _ _ [some (.ref (43 + 3))] [.int (s.1 43 13), .int (s.1 43 12), .ref (49 + 3)] _ _ from ?_)
      refine zy_10 rfl (show zyR _ _ _ _ [some (.ref (43 + 3))] [.int ((s.1 43 12) + (s.1 43 13)), .ref (49 + 3)] _ _ from ?_)
      obtain ⟨c1, h⟩ := zy_if h
      refine zy_26 (c := 49) rfl rfl c1 (show zyR _ _ _ _ [some (.ref (43 + 3))] [.int (s.1 49 (((s.1 43 12) + (s.1 43 13))).toNatClampNeg)] _ _ from ?_)
      refine zy_6 rfl (show zyR _ _ _ _ [some (.ref (43 + 3))] [.int (s.1 49 (((s.1 43 12) + (s.1 43 13))).toNatClampNeg)] _ _ from ?_)
      obtain ⟨rfl, rfl⟩ := zy_pi h
      exact zy_4 rfl ⟨rfl, rfl⟩
    · replace h := zy_ifn h b3
      refine zy_0 rfl rfl (show zyR _ _ _ _ [some (.ref (43 + 3))] [.ref (43 + 3)] _ _ from ?_)
      refine zy_1r (c := 43) rfl rfl rfl (show zyR _ _ _ _ [some (.ref (43 + 3))] [.ref (48 + 3)] _ _ from ?_)
      refine zy_0 rfl rfl (show zyR _ _ _ _ [some (.ref (43 + 3))] [.ref (43 + 3), .ref (48 + 3)] _ _ from ?_)
      refine zy_1 (c := 43) rfl rfl rfl (show zyR _ _ _ _ [some (.ref (43 + 3))] [.int (s.1 43 13), .ref (48 + 3)] _ _ from ?_)
      obtain ⟨c2, h⟩ := zy_if h
      refine zy_26 (c := 48) rfl rfl c2 (show zyR _ _ _ _ [some (.ref (43 + 3))] [.int (s.1 48 ((s.1 43 13)).toNatClampNeg)] _ _ from ?_)
      refine zy_6 rfl (show zyR _ _ _ _ [some (.ref (43 + 3))] [.int (s.1 48 ((s.1 43 13)).toNatClampNeg)] _ _ from ?_)
      obtain ⟨rfl, rfl⟩ := zy_pi h
      exact zy_4 rfl ⟨rfl, rfl⟩
/-! NineOpinionsModel.takes(I)Z -/
noncomputable def zyF200   (x1 : Int32) (s : zy_S) : Option (Int32 × zy_S) :=
if 0 ≤ (s.1 43 15) then
some ((0 : Int32), s)
else
(zyF198 s).bind fun p1 =>
if p1.1 = x1 then
some ((1 : Int32), (zy_up p1.2 43 13 ((p1.2.1 43 13) + (1 : Int32))))
else
some ((0 : Int32), p1.2)
theorem zyC200 {X : zx_X}     {x1 : Int32} {s : zy_S} {r : Int32} {s' : zy_S}  (h : zyF200 x1 s = some (r, s')) : zyR X 2 200 0 [some (.ref (43 + 3)), some (.int x1)] [] s (zyE (some (.int r)) s') := by
  unfold zyF200 at h
  refine zy_0 rfl rfl (show zyR _ _ _ _ [some (.ref (43 + 3)), some (.int x1)] [.ref (43 + 3)] _ _ from ?_)
  refine zy_1 (c := 43) rfl rfl rfl (show zyR _ _ _ _ [some (.ref (43 + 3)), some (.int x1)] [.int (s.1 43 15)] _ _ from ?_)
  refine zy_24_3 rfl (fun b3 => (show zyR _ _ _ _ [some (.ref (43 + 3)), some (.int x1)] [] _ _ from ?_)) (fun b3 => (show zyR _ _ _ _ [some (.ref (43 + 3)), some (.int x1)] [] _ _ from ?_))
  · replace h := zy_ifp h b3
    refine zy_3 rfl rfl (show zyR _ _ _ _ [some (.ref (43 + 3)), some (.int x1)] [.int (0 : Int32)] _ _ from ?_)
    cases h
    exact zy_4b rfl ⟨rfl, rfl⟩ (Or.inl rfl)
  · replace h := zy_ifn h b3
    refine zy_0 rfl rfl (show zyR _ _ _ _ [some (.ref (43 + 3)), some (.int x1)] [.ref (43 + 3)] _ _ from ?_)
    obtain ⟨p1, hp1, h⟩ := zy_bind h
    refine zy_5 (c := 43) (as := []) (rest := []) (L := [some (.ref (43 + 3))]) (d' := 1) rfl rfl rfl (Nat.le_of_ble_eq_true rfl) (Nat.le_of_ble_eq_true rfl) rfl (Nat.le_of_ble_eq_true rfl) rfl rfl (zyC198 hp1) ?_
    show zyR _ _ _ _ [some (.ref (43 + 3)), some (.int x1)] [.int p1.1] _ _
    refine zy_2 rfl rfl (show zyR _ _ _ _ [some (.ref (43 + 3)), some (.int x1)] [.int x1, .int p1.1] _ _ from ?_)
    refine zy_25_0 rfl (fun b2 => (show zyR _ _ _ _ [some (.ref (43 + 3)), some (.int x1)] [] _ _ from ?_)) (fun b2 => (show zyR _ _ _ _ [some (.ref (43 + 3)), some (.int x1)] [] _ _ from ?_))
    · replace h := zy_ifp h b2
      refine zy_0 rfl rfl (show zyR _ _ _ _ [some (.ref (43 + 3)), some (.int x1)] [.ref (43 + 3)] _ _ from ?_)
      refine zy_33 rfl rfl (show zyR _ _ _ _ [some (.ref (43 + 3)), some (.int x1)] [.ref (43 + 3), .ref (43 + 3)] _ _ from ?_)
      refine zy_1 (c := 43) rfl rfl rfl (show zyR _ _ _ _ [some (.ref (43 + 3)), some (.int x1)] [.int (p1.2.1 43 13), .ref (43 + 3)] _ _ from ?_)
      refine zy_3 rfl rfl (show zyR _ _ _ _ [some (.ref (43 + 3)), some (.int x1)] [.int (1 : Int32), .int (p1.2.1 43 13), .ref (43 + 3)] _ _ from ?_)
      refine zy_10 rfl (show zyR _ _ _ _ [some (.ref (43 + 3)), some (.int x1)] [.int ((p1.2.1 43 13) + (1 : Int32)), .ref (43 + 3)] _ _ from ?_)
      refine zy_52 (c := 43) rfl rfl rfl (show zyR _ _ _ _ [some (.ref (43 + 3)), some (.int x1)] [] _ _ from ?_)
      refine zy_3 rfl rfl (show zyR _ _ _ _ [some (.ref (43 + 3)), some (.int x1)] [.int (1 : Int32)] _ _ from ?_)
      cases h
      exact zy_4b rfl ⟨rfl, rfl⟩ (Or.inr rfl)
    · replace h := zy_ifn h b2
      refine zy_3 rfl rfl (show zyR _ _ _ _ [some (.ref (43 + 3)), some (.int x1)] [.int (0 : Int32)] _ _ from ?_)
      cases h
      exact zy_4b rfl ⟨rfl, rfl⟩ (Or.inl rfl)
/-! NineOpinionsModel.wrong()I -/
noncomputable def zyF199_19   (y0 : Int32) (s : zy_S) : Option (Int32 × zy_S) :=
some ((0 : Int32), (zy_up s 43 15 y0))
theorem zyC199_19 {X : zx_X}     {y0 : Int32} {s : zy_S} {r : Int32} {s' : zy_S}  (h : zyF199_19 y0 s = some (r, s')) : zyR X 1 199 19 [none] [.int y0, .ref (43 + 3)] s (zyE (some (.int r)) s') := by
  unfold zyF199_19 at h
  refine zy_52 (c := 43) rfl rfl rfl (show zyR _ _ _ _ [none] [] _ _ from ?_)
  refine zy_3 rfl rfl (show zyR _ _ _ _ [none] [.int (0 : Int32)] _ _ from ?_)
  obtain ⟨rfl, rfl⟩ := zy_pi h
  exact zy_4 rfl ⟨rfl, rfl⟩
noncomputable def zyF199    (s : zy_S) : Option (Int32 × zy_S) :=
if 0 ≤ (s.1 43 15) then
zyF199_19 (s.1 43 15) s
else
zyF199_19 (s.1 43 13) s
theorem zyC199 {X : zx_X}      {s : zy_S} {r : Int32} {s' : zy_S}  (h : zyF199 s = some (r, s')) : zyR X 1 199 0 [some (.ref (43 + 3))] [] s (zyE (some (.int r)) s') := by
  unfold zyF199 at h
  refine zy_0 rfl rfl (show zyR _ _ _ _ [some (.ref (43 + 3))] [.ref (43 + 3)] _ _ from ?_)
  refine zy_0 rfl rfl (show zyR _ _ _ _ [some (.ref (43 + 3))] [.ref (43 + 3), .ref (43 + 3)] _ _ from ?_)
  refine zy_1 (c := 43) rfl rfl rfl (show zyR _ _ _ _ [some (.ref (43 + 3))] [.int (s.1 43 15), .ref (43 + 3)] _ _ from ?_)
  refine zy_24_3 rfl (fun b1 => (show zyR _ _ _ _ [some (.ref (43 + 3))] [.ref (43 + 3)] _ _ from ?_)) (fun b1 => (show zyR _ _ _ _ [some (.ref (43 + 3))] [.ref (43 + 3)] _ _ from ?_))
  · replace h := zy_ifp h b1
    refine zy_0 rfl rfl (show zyR _ _ _ _ [some (.ref (43 + 3))] [.ref (43 + 3), .ref (43 + 3)] _ _ from ?_)
    refine zy_1 (c := 43) rfl rfl rfl (show zyR _ _ _ _ [some (.ref (43 + 3))] [.int (s.1 43 15), .ref (43 + 3)] _ _ from ?_)
    exact zy_sub (show zy_le [none] [some (.ref (43 + 3))] from trivial) (zyC199_19 h)
  · replace h := zy_ifn h b1
    refine zy_0 rfl rfl (show zyR _ _ _ _ [some (.ref (43 + 3))] [.ref (43 + 3), .ref (43 + 3)] _ _ from ?_)
    refine zy_1 (c := 43) rfl rfl rfl (show zyR _ _ _ _ [some (.ref (43 + 3))] [.int (s.1 43 13), .ref (43 + 3)] _ _ from ?_)
    refine zy_6 rfl (show zyR _ _ _ _ [some (.ref (43 + 3))] [.int (s.1 43 13), .ref (43 + 3)] _ _ from ?_)
    exact zy_sub (show zy_le [none] [some (.ref (43 + 3))] from trivial) (zyC199_19 h)
