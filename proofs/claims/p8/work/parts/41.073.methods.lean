/-! PART 41.73: methods as functions. Made by wip/v4/dcp.py. -/
/-! NineOpinions$Tape.readOperand(I)V, over what it calls -/
noncomputable def zyF40_157 (g39 : Int32 → Int32 → zy_S → Option (Int32 × zy_S)) (g40 : Int32 → zy_S → Option (Int32 × zy_S))   (s : zy_S) : Option (Int32 × zy_S) :=
some ((0 : Int32), (zy_up s 9 5 (1 : Int32)))
theorem zyC40_157 {X : zx_X} {d : Nat} {g39 : Int32 → Int32 → zy_S → Option (Int32 × zy_S)} {g40 : Int32 → zy_S → Option (Int32 × zy_S)}  (hd : 2 ≤ d) (hg39 : ∀ (x1 : Int32) (x2 : Int32) (s : zy_S) (r : Int32) (s' : zy_S), g39 x1 x2 s = some (r, s') → zyR X d 39 0 [some (.ref (9 + 3)), some (.int x1), some (.int x2), none, none, none] [] s (zyE none s')) (hg40 : ∀ (x1 : Int32) (s : zy_S) (r : Int32) (s' : zy_S), g40 x1 s = some (r, s') → zyR X d 40 0 [some (.ref (9 + 3)), some (.int x1), none] [] s (zyE none s'))   {s : zy_S} {r : Int32} {s' : zy_S}  (h : zyF40_157 g39 g40 s = some (r, s')) : zyR X (d + 1) 40 157 [some (.ref (9 + 3)), none, none] [] s (zyE none s') := by
  unfold zyF40_157 at h
  refine zy_0 rfl rfl (show zyR _ _ _ _ [some (.ref (9 + 3)), none, none] [.ref (9 + 3)] _ _ from ?_)
  refine zy_3 rfl rfl (show zyR _ _ _ _ [some (.ref (9 + 3)), none, none] [.int (1 : Int32), .ref (9 + 3)] _ _ from ?_)
  refine zy_52b (c := 9) rfl rfl rfl (Or.inr rfl) (show zyR _ _ _ _ [some (.ref (9 + 3)), none, none] [] _ _ from ?_)
  cases h
  exact zy_66 rfl ⟨rfl, rfl⟩
noncomputable def zyF40_126 (g39 : Int32 → Int32 → zy_S → Option (Int32 × zy_S)) (g40 : Int32 → zy_S → Option (Int32 × zy_S))  (x1 : Int32) (s : zy_S) : Option (Int32 × zy_S) :=
if (6 : Int32) ≤ x1 then
zyF40_157 g39 g40 s
else
(zyF46 (45 : Int32) s).bind fun p1 =>
if p1.1 = 0 then
zyF40_157 g39 g40 p1.2
else
(g40 (x1 + (1 : Int32)) p1.2).bind fun p2 =>
(zyF44 (-126 : Int32) p2.2).bind fun p3 =>
some ((0 : Int32), p3.2)
theorem zyC40_126 {X : zx_X} {d : Nat} {g39 : Int32 → Int32 → zy_S → Option (Int32 × zy_S)} {g40 : Int32 → zy_S → Option (Int32 × zy_S)}  (hd : 2 ≤ d) (hg39 : ∀ (x1 : Int32) (x2 : Int32) (s : zy_S) (r : Int32) (s' : zy_S), g39 x1 x2 s = some (r, s') → zyR X d 39 0 [some (.ref (9 + 3)), some (.int x1), some (.int x2), none, none, none] [] s (zyE none s')) (hg40 : ∀ (x1 : Int32) (s : zy_S) (r : Int32) (s' : zy_S), g40 x1 s = some (r, s') → zyR X d 40 0 [some (.ref (9 + 3)), some (.int x1), none] [] s (zyE none s'))  {x1 : Int32} {s : zy_S} {r : Int32} {s' : zy_S}  (h : zyF40_126 g39 g40 x1 s = some (r, s')) : zyR X (d + 1) 40 126 [some (.ref (9 + 3)), some (.int x1), none] [] s (zyE none s') := by
  unfold zyF40_126 at h
  refine zy_2 rfl rfl (show zyR _ _ _ _ [some (.ref (9 + 3)), some (.int x1), none] [.int x1] _ _ from ?_)
  refine zy_3 rfl rfl (show zyR _ _ _ _ [some (.ref (9 + 3)), some (.int x1), none] [.int (6 : Int32), .int x1] _ _ from ?_)
  refine zy_25_3 rfl (fun b5 => (show zyR _ _ _ _ [some (.ref (9 + 3)), some (.int x1), none] [] _ _ from ?_)) (fun b5 => (show zyR _ _ _ _ [some (.ref (9 + 3)), some (.int x1), none] [] _ _ from ?_))
  · replace h := zy_ifp h b5
    exact zy_sub (show zy_le [some (.ref (9 + 3)), none, none] [some (.ref (9 + 3)), some (.int x1), none] from ⟨rfl, trivial⟩) (zyC40_157 hd hg39 hg40 h)
  · replace h := zy_ifn h b5
    refine zy_0 rfl rfl (show zyR _ _ _ _ [some (.ref (9 + 3)), some (.int x1), none] [.ref (9 + 3)] _ _ from ?_)
    refine zy_3 rfl rfl (show zyR _ _ _ _ [some (.ref (9 + 3)), some (.int x1), none] [.int (45 : Int32), .ref (9 + 3)] _ _ from ?_)
    obtain ⟨p1, hp1, h⟩ := zy_bind h
    refine zy_5 (c := 9) (as := [.int (45 : Int32)]) (rest := []) (L := [some (.ref (9 + 3)), some (.int (45 : Int32)), none]) (d' := 2) rfl rfl rfl (Nat.le_of_ble_eq_true rfl) (by omega) rfl (Nat.le_of_ble_eq_true rfl) rfl rfl (zyC46 hp1) ?_
    show zyR _ _ _ _ [some (.ref (9 + 3)), some (.int x1), none] [.int p1.1] _ _
    refine zy_24_0 rfl (fun b4 => (show zyR _ _ _ _ [some (.ref (9 + 3)), some (.int x1), none] [] _ _ from ?_)) (fun b4 => (show zyR _ _ _ _ [some (.ref (9 + 3)), some (.int x1), none] [] _ _ from ?_))
    · replace h := zy_ifp h b4
      exact zy_sub (show zy_le [some (.ref (9 + 3)), none, none] [some (.ref (9 + 3)), some (.int x1), none] from ⟨rfl, trivial⟩) (zyC40_157 hd hg39 hg40 h)
    · replace h := zy_ifn h b4
      refine zy_0 rfl rfl (show zyR _ _ _ _ [some (.ref (9 + 3)), some (.int x1), none] [.ref (9 + 3)] _ _ from ?_)
      refine zy_2 rfl rfl (show zyR _ _ _ _ [some (.ref (9 + 3)), some (.int x1), none] [.int x1, .ref (9 + 3)] _ _ from ?_)
      refine zy_3 rfl rfl (show zyR _ _ _ _ [some (.ref (9 + 3)), some (.int x1), none] [.int (1 : Int32), .int x1, .ref (9 + 3)] _ _ from ?_)
      refine zy_10 rfl (show zyR _ _ _ _ [some (.ref (9 + 3)), some (.int x1), none] [.int (x1 + (1 : Int32)), .ref (9 + 3)] _ _ from ?_)
      obtain ⟨p2, hp2, h⟩ := zy_bind h
      refine zy_5 (c := 9) (as := [.int (x1 + (1 : Int32))]) (rest := []) (L := [some (.ref (9 + 3)), some (.int (x1 + (1 : Int32))), none]) (d' := d) rfl rfl rfl (Nat.le_of_ble_eq_true rfl) (by omega) rfl (Nat.le_of_ble_eq_true rfl) rfl rfl (hg40 (x1 + (1 : Int32)) p1.2 _ _ hp2) ?_
      show zyR _ _ _ _ [some (.ref (9 + 3)), some (.int x1), none] [] _ _
      refine zy_0 rfl rfl (show zyR _ _ _ _ [some (.ref (9 + 3)), some (.int x1), none] [.ref (9 + 3)] _ _ from ?_)
      refine zy_3 rfl rfl (show zyR _ _ _ _ [some (.ref (9 + 3)), some (.int x1), none] [.int (-126 : Int32), .ref (9 + 3)] _ _ from ?_)
      obtain ⟨p3, hp3, h⟩ := zy_bind h
      refine zy_5 (c := 9) (as := [.int (-126 : Int32)]) (rest := []) (L := [some (.ref (9 + 3)), some (.int (-126 : Int32))]) (d' := 1) rfl rfl rfl (Nat.le_of_ble_eq_true rfl) (by omega) rfl (Nat.le_of_ble_eq_true rfl) rfl rfl (zyC44 hp3) ?_
      show zyR _ _ _ _ [some (.ref (9 + 3)), some (.int x1), none] [] _ _
      refine zy_6 rfl (show zyR _ _ _ _ [some (.ref (9 + 3)), some (.int x1), none] [] _ _ from ?_)
      cases h
      exact zy_66 rfl ⟨rfl, rfl⟩
noncomputable def zyF40_95 (g39 : Int32 → Int32 → zy_S → Option (Int32 × zy_S)) (g40 : Int32 → zy_S → Option (Int32 × zy_S))  (x1 : Int32) (s : zy_S) : Option (Int32 × zy_S) :=
if (6 : Int32) ≤ x1 then
zyF40_126 g39 g40 x1 s
else
(zyF46 (33 : Int32) s).bind fun p6 =>
if p6.1 = 0 then
zyF40_126 g39 g40 x1 p6.2
else
(g40 (x1 + (1 : Int32)) p6.2).bind fun p7 =>
(zyF44 (-33 : Int32) p7.2).bind fun p8 =>
some ((0 : Int32), p8.2)
theorem zyC40_95 {X : zx_X} {d : Nat} {g39 : Int32 → Int32 → zy_S → Option (Int32 × zy_S)} {g40 : Int32 → zy_S → Option (Int32 × zy_S)}  (hd : 2 ≤ d) (hg39 : ∀ (x1 : Int32) (x2 : Int32) (s : zy_S) (r : Int32) (s' : zy_S), g39 x1 x2 s = some (r, s') → zyR X d 39 0 [some (.ref (9 + 3)), some (.int x1), some (.int x2), none, none, none] [] s (zyE none s')) (hg40 : ∀ (x1 : Int32) (s : zy_S) (r : Int32) (s' : zy_S), g40 x1 s = some (r, s') → zyR X d 40 0 [some (.ref (9 + 3)), some (.int x1), none] [] s (zyE none s'))  {x1 : Int32} {s : zy_S} {r : Int32} {s' : zy_S}  (h : zyF40_95 g39 g40 x1 s = some (r, s')) : zyR X (d + 1) 40 95 [some (.ref (9 + 3)), some (.int x1), none] [] s (zyE none s') := by
  unfold zyF40_95 at h
  refine zy_2 rfl rfl (show zyR _ _ _ _ [some (.ref (9 + 3)), some (.int x1), none] [.int x1] _ _ from ?_)
  refine zy_3 rfl rfl (show zyR _ _ _ _ [some (.ref (9 + 3)), some (.int x1), none] [.int (6 : Int32), .int x1] _ _ from ?_)
  refine zy_25_3 rfl (fun b10 => (show zyR _ _ _ _ [some (.ref (9 + 3)), some (.int x1), none] [] _ _ from ?_)) (fun b10 => (show zyR _ _ _ _ [some (.ref (9 + 3)), some (.int x1), none] [] _ _ from ?_))
  · replace h := zy_ifp h b10
    exact zy_sub (show zy_le [some (.ref (9 + 3)), some (.int x1), none] [some (.ref (9 + 3)), some (.int x1), none] from ⟨rfl, ⟨rfl, trivial⟩⟩) (zyC40_126 hd hg39 hg40 h)
  · replace h := zy_ifn h b10
    refine zy_0 rfl rfl (show zyR _ _ _ _ [some (.ref (9 + 3)), some (.int x1), none] [.ref (9 + 3)] _ _ from ?_)
    refine zy_3 rfl rfl (show zyR _ _ _ _ [some (.ref (9 + 3)), some (.int x1), none] [.int (33 : Int32), .ref (9 + 3)] _ _ from ?_)
    obtain ⟨p6, hp6, h⟩ := zy_bind h
    refine zy_5 (c := 9) (as := [.int (33 : Int32)]) (rest := []) (L := [some (.ref (9 + 3)), some (.int (33 : Int32)), none]) (d' := 2) rfl rfl rfl (Nat.le_of_ble_eq_true rfl) (by omega) rfl (Nat.le_of_ble_eq_true rfl) rfl rfl (zyC46 hp6) ?_
    show zyR _ _ _ _ [some (.ref (9 + 3)), some (.int x1), none] [.int p6.1] _ _
    refine zy_24_0 rfl (fun b9 => (show zyR _ _ _ _ [some (.ref (9 + 3)), some (.int x1), none] [] _ _ from ?_)) (fun b9 => (show zyR _ _ _ _ [some (.ref (9 + 3)), some (.int x1), none] [] _ _ from ?_))
    · replace h := zy_ifp h b9
      exact zy_sub (show zy_le [some (.ref (9 + 3)), some (.int x1), none] [some (.ref (9 + 3)), some (.int x1), none] from ⟨rfl, ⟨rfl, trivial⟩⟩) (zyC40_126 hd hg39 hg40 h)
    · replace h := zy_ifn h b9
      refine zy_0 rfl rfl (show zyR _ _ _ _ [some (.ref (9 + 3)), some (.int x1), none] [.ref (9 + 3)] _ _ from ?_)
      refine zy_2 rfl rfl (show zyR _ _ _ _ [some (.ref (9 + 3)), some (.int x1), none] [.int x1, .ref (9 + 3)] _ _ from ?_)
      refine zy_3 rfl rfl (show zyR _ _ _ _ [some (.ref (9 + 3)), some (.int x1), none] [.int (1 : Int32), .int x1, .ref (9 + 3)] _ _ from ?_)
      refine zy_10 rfl (show zyR _ _ _ _ [some (.ref (9 + 3)), some (.int x1), none] [.int (x1 + (1 : Int32)), .ref (9 + 3)] _ _ from ?_)
      obtain ⟨p7, hp7, h⟩ := zy_bind h
      refine zy_5 (c := 9) (as := [.int (x1 + (1 : Int32))]) (rest := []) (L := [some (.ref (9 + 3)), some (.int (x1 + (1 : Int32))), none]) (d' := d) rfl rfl rfl (Nat.le_of_ble_eq_true rfl) (by omega) rfl (Nat.le_of_ble_eq_true rfl) rfl rfl (hg40 (x1 + (1 : Int32)) p6.2 _ _ hp7) ?_
      show zyR _ _ _ _ [some (.ref (9 + 3)), some (.int x1), none] [] _ _
      refine zy_0 rfl rfl (show zyR _ _ _ _ [some (.ref (9 + 3)), some (.int x1), none] [.ref (9 + 3)] _ _ from ?_)
      refine zy_3 rfl rfl (show zyR _ _ _ _ [some (.ref (9 + 3)), some (.int x1), none] [.int (-33 : Int32), .ref (9 + 3)] _ _ from ?_)
      obtain ⟨p8, hp8, h⟩ := zy_bind h
      refine zy_5 (c := 9) (as := [.int (-33 : Int32)]) (rest := []) (L := [some (.ref (9 + 3)), some (.int (-33 : Int32))]) (d' := 1) rfl rfl rfl (Nat.le_of_ble_eq_true rfl) (by omega) rfl (Nat.le_of_ble_eq_true rfl) rfl rfl (zyC44 hp8) ?_
      show zyR _ _ _ _ [some (.ref (9 + 3)), some (.int x1), none] [] _ _
      refine zy_6 rfl (show zyR _ _ _ _ [some (.ref (9 + 3)), some (.int x1), none] [] _ _ from ?_)
      cases h
      exact zy_66 rfl ⟨rfl, rfl⟩
noncomputable def zyF40_89 (g39 : Int32 → Int32 → zy_S → Option (Int32 × zy_S)) (g40 : Int32 → zy_S → Option (Int32 × zy_S))  (y0 : Int32) (s : zy_S) : Option (Int32 × zy_S) :=
if y0 = 0 ∨ y0 = 1 then
some ((0 : Int32), (zy_up s 9 5 y0))
else none
theorem zyC40_89 {X : zx_X} {d : Nat} {g39 : Int32 → Int32 → zy_S → Option (Int32 × zy_S)} {g40 : Int32 → zy_S → Option (Int32 × zy_S)}  (hd : 2 ≤ d) (hg39 : ∀ (x1 : Int32) (x2 : Int32) (s : zy_S) (r : Int32) (s' : zy_S), g39 x1 x2 s = some (r, s') → zyR X d 39 0 [some (.ref (9 + 3)), some (.int x1), some (.int x2), none, none, none] [] s (zyE none s')) (hg40 : ∀ (x1 : Int32) (s : zy_S) (r : Int32) (s' : zy_S), g40 x1 s = some (r, s') → zyR X d 40 0 [some (.ref (9 + 3)), some (.int x1), none] [] s (zyE none s'))  {y0 : Int32} {s : zy_S} {r : Int32} {s' : zy_S}  (h : zyF40_89 g39 g40 y0 s = some (r, s')) : zyR X (d + 1) 40 89 [none, none, none] [.int y0, .ref (9 + 3)] s (zyE none s') := by
  unfold zyF40_89 at h
  obtain ⟨c11, h⟩ := zy_if h
  refine zy_52b (c := 9) rfl rfl rfl c11 (show zyR _ _ _ _ [none, none, none] [] _ _ from ?_)
  refine zy_6 rfl (show zyR _ _ _ _ [none, none, none] [] _ _ from ?_)
  cases h
  exact zy_66 rfl ⟨rfl, rfl⟩
noncomputable def zyF40_0 (g39 : Int32 → Int32 → zy_S → Option (Int32 × zy_S)) (g40 : Int32 → zy_S → Option (Int32 × zy_S))  (x1 : Int32) (s : zy_S) : Option (Int32 × zy_S) :=
(zyF41 s).bind fun p12 =>
(zyF42 p12.1 p12.2).bind fun p13 =>
if p13.1 = 0 then
(zyF45 p12.1 p13.2).bind fun p14 =>
if p14.1 < 0 then
if (6 : Int32) ≤ x1 then
zyF40_95 g39 g40 x1 p14.2
else
(zyF46 (40 : Int32) p14.2).bind fun p15 =>
if p15.1 = 0 then
zyF40_95 g39 g40 x1 p15.2
else
(g39 (0 : Int32) (x1 + (1 : Int32)) p15.2).bind fun p16 =>
(zyF46 (41 : Int32) p16.2).bind fun p17 =>
if p17.1 ≠ 0 then
zyF40_89 g39 g40 (0 : Int32) p17.2
else
zyF40_89 g39 g40 (1 : Int32) p17.2
else
(zyF45 p12.1 (zy_up p14.2 9 4 ((p14.2.1 9 4) + (1 : Int32)))).bind fun p21 =>
(zyF44 ((10000 : Int32) + p21.1) p21.2).bind fun p22 =>
some ((0 : Int32), p22.2)
else
(zyF43 p13.2).bind fun p24 =>
some ((0 : Int32), p24.2)
theorem zyC40_0 {X : zx_X} {d : Nat} {g39 : Int32 → Int32 → zy_S → Option (Int32 × zy_S)} {g40 : Int32 → zy_S → Option (Int32 × zy_S)}  (hd : 2 ≤ d) (hg39 : ∀ (x1 : Int32) (x2 : Int32) (s : zy_S) (r : Int32) (s' : zy_S), g39 x1 x2 s = some (r, s') → zyR X d 39 0 [some (.ref (9 + 3)), some (.int x1), some (.int x2), none, none, none] [] s (zyE none s')) (hg40 : ∀ (x1 : Int32) (s : zy_S) (r : Int32) (s' : zy_S), g40 x1 s = some (r, s') → zyR X d 40 0 [some (.ref (9 + 3)), some (.int x1), none] [] s (zyE none s'))  {x1 : Int32} {s : zy_S} {r : Int32} {s' : zy_S}  (h : zyF40_0 g39 g40 x1 s = some (r, s')) : zyR X (d + 1) 40 0 [some (.ref (9 + 3)), some (.int x1), none] [] s (zyE none s') := by
  unfold zyF40_0 at h
  refine zy_0 rfl rfl (show zyR _ _ _ _ [some (.ref (9 + 3)), some (.int x1), none] [.ref (9 + 3)] _ _ from ?_)
  obtain ⟨p12, hp12, h⟩ := zy_bind h
  refine zy_5 (c := 9) (as := []) (rest := []) (L := [some (.ref (9 + 3))]) (d' := 1) rfl rfl rfl (Nat.le_of_ble_eq_true rfl) (by omega) rfl (Nat.le_of_ble_eq_true rfl) rfl rfl (zyC41 hp12) ?_
  show zyR _ _ _ _ [some (.ref (9 + 3)), some (.int x1), none] [.int p12.1] _ _
  refine zy_23 rfl rfl (show zyR _ _ _ _ [some (.ref (9 + 3)), some (.int x1), some (.int p12.1)] [] _ _ from ?_)
  refine zy_2 rfl rfl (show zyR _ _ _ _ [some (.ref (9 + 3)), some (.int x1), some (.int p12.1)] [.int p12.1] _ _ from ?_)
  obtain ⟨p13, hp13, h⟩ := zy_bind h
  refine zy_60 (as := [.int p12.1]) (rest := []) (L := [some (.int p12.1)]) (d' := 1) rfl rfl (Nat.le_of_ble_eq_true rfl) (by omega) rfl (Nat.le_of_ble_eq_true rfl) rfl rfl (zyC42 hp13) ?_
  show zyR _ _ _ _ [some (.ref (9 + 3)), some (.int x1), some (.int p12.1)] [.int p13.1] _ _
  refine zy_24_0 rfl (fun b25 => (show zyR _ _ _ _ [some (.ref (9 + 3)), some (.int x1), some (.int p12.1)] [] _ _ from ?_)) (fun b25 => (show zyR _ _ _ _ [some (.ref (9 + 3)), some (.int x1), some (.int p12.1)] [] _ _ from ?_))
  · replace h := zy_ifp h b25
    refine zy_2 rfl rfl (show zyR _ _ _ _ [some (.ref (9 + 3)), some (.int x1), some (.int p12.1)] [.int p12.1] _ _ from ?_)
    obtain ⟨p14, hp14, h⟩ := zy_bind h
    refine zy_60 (as := [.int p12.1]) (rest := []) (L := [some (.int p12.1)]) (d' := 1) rfl rfl (Nat.le_of_ble_eq_true rfl) (by omega) rfl (Nat.le_of_ble_eq_true rfl) rfl rfl (zyC45 hp14) ?_
    show zyR _ _ _ _ [some (.ref (9 + 3)), some (.int x1), some (.int p12.1)] [.int p14.1] _ _
    refine zy_24_2 rfl (fun b23 => (show zyR _ _ _ _ [some (.ref (9 + 3)), some (.int x1), some (.int p12.1)] [] _ _ from ?_)) (fun b23 => (show zyR _ _ _ _ [some (.ref (9 + 3)), some (.int x1), some (.int p12.1)] [] _ _ from ?_))
    · replace h := zy_ifp h b23
      refine zy_2 rfl rfl (show zyR _ _ _ _ [some (.ref (9 + 3)), some (.int x1), some (.int p12.1)] [.int x1] _ _ from ?_)
      refine zy_3 rfl rfl (show zyR _ _ _ _ [some (.ref (9 + 3)), some (.int x1), some (.int p12.1)] [.int (6 : Int32), .int x1] _ _ from ?_)
      refine zy_25_3 rfl (fun b20 => (show zyR _ _ _ _ [some (.ref (9 + 3)), some (.int x1), some (.int p12.1)] [] _ _ from ?_)) (fun b20 => (show zyR _ _ _ _ [some (.ref (9 + 3)), some (.int x1), some (.int p12.1)] [] _ _ from ?_))
      · replace h := zy_ifp h b20
        exact zy_sub (show zy_le [some (.ref (9 + 3)), some (.int x1), none] [some (.ref (9 + 3)), some (.int x1), some (.int p12.1)] from ⟨rfl, ⟨rfl, trivial⟩⟩) (zyC40_95 hd hg39 hg40 h)
      · replace h := zy_ifn h b20
        refine zy_0 rfl rfl (show zyR _ _ _ _ [some (.ref (9 + 3)), some (.int x1), some (.int p12.1)] [.ref (9 + 3)] _ _ from ?_)
        refine zy_3 rfl rfl (show zyR _ _ _ _ [some (.ref (9 + 3)), some (.int x1), some (.int p12.1)] [.int (40 : Int32), .ref (9 + 3)] _ _ from ?_)
        obtain ⟨p15, hp15, h⟩ := zy_bind h
        refine zy_5 (c := 9) (as := [.int (40 : Int32)]) (rest := []) (L := [some (.ref (9 + 3)), some (.int (40 : Int32)), none]) (d' := 2) rfl rfl rfl (Nat.le_of_ble_eq_true rfl) (by omega) rfl (Nat.le_of_ble_eq_true rfl) rfl rfl (zyC46 hp15) ?_
        show zyR _ _ _ _ [some (.ref (9 + 3)), some (.int x1), some (.int p12.1)] [.int p15.1] _ _
        refine zy_24_0 rfl (fun b19 => (show zyR _ _ _ _ [some (.ref (9 + 3)), some (.int x1), some (.int p12.1)] [] _ _ from ?_)) (fun b19 => (show zyR _ _ _ _ [some (.ref (9 + 3)), some (.int x1), some (.int p12.1)] [] _ _ from ?_))
        · replace h := zy_ifp h b19
          exact zy_sub (show zy_le [some (.ref (9 + 3)), some (.int x1), none] [some (.ref (9 + 3)), some (.int x1), some (.int p12.1)] from ⟨rfl, ⟨rfl, trivial⟩⟩) (zyC40_95 hd hg39 hg40 h)
        · replace h := zy_ifn h b19
          refine zy_0 rfl rfl (show zyR _ _ _ _ [some (.ref (9 + 3)), some (.int x1), some (.int p12.1)] [.ref (9 + 3)] _ _ from ?_)
          refine zy_3 rfl rfl (show zyR _ _ _ _ [some (.ref (9 + 3)), some (.int x1), some (.int p12.1)] [.int (0 : Int32), .ref (9 + 3)] _ _ from ?_)
          refine zy_2 rfl rfl (show zyR _ _ _ _ [some (.ref (9 + 3)), some (.int x1), some (.int p12.1)] [.int x1, .int (0 : Int32), .ref (9 + 3)] _ _ from ?_)
          refine zy_3 rfl rfl (show zyR _ _ _ _ [some (.ref (9 + 3)), some (.int x1), some (.int p12.1)] [.int (1 : Int32), .int x1, .int (0 : Int32), .ref (9 + 3)] _ _ from ?_)
          refine zy_10 rfl (show zyR _ _ _ _ [some (.ref (9 + 3)), some (.int x1), some (.int p12.1)] [.int (x1 + (1 : Int32)), .int (0 : Int32), .ref (9 + 3)] _ _ from ?_)
          obtain ⟨p16, hp16, h⟩ := zy_bind h
          refine zy_5 (c := 9) (as := [.int (0 : Int32), .int (x1 + (1 : Int32))]) (rest := []) (L := [some (.ref (9 + 3)), some (.int (0 : Int32)), some (.int (x1 + (1 : Int32))), none, none, none]) (d' := d) rfl rfl rfl (Nat.le_of_ble_eq_true rfl) (by omega) rfl (Nat.le_of_ble_eq_true rfl) rfl rfl (hg39 (0 : Int32) (x1 + (1 : Int32)) p15.2 _ _ hp16) ?_
          show zyR _ _ _ _ [some (.ref (9 + 3)), some (.int x1), some (.int p12.1)] [] _ _
          refine zy_0 rfl rfl (show zyR _ _ _ _ [some (.ref (9 + 3)), some (.int x1), some (.int p12.1)] [.ref (9 + 3)] _ _ from ?_)
          refine zy_0 rfl rfl (show zyR _ _ _ _ [some (.ref (9 + 3)), some (.int x1), some (.int p12.1)] [.ref (9 + 3), .ref (9 + 3)] _ _ from ?_)
          refine zy_3 rfl rfl (show zyR _ _ _ _ [some (.ref (9 + 3)), some (.int x1), some (.int p12.1)] [.int (41 : Int32), .ref (9 + 3), .ref (9 + 3)] _ _ from ?_)
          obtain ⟨p17, hp17, h⟩ := zy_bind h
          refine zy_5 (c := 9) (as := [.int (41 : Int32)]) (rest := [.ref (9 + 3)]) (L := [some (.ref (9 + 3)), some (.int (41 : Int32)), none]) (d' := 2) rfl rfl rfl (Nat.le_of_ble_eq_true rfl) (by omega) rfl (Nat.le_of_ble_eq_true rfl) rfl rfl (zyC46 hp17) ?_
          show zyR _ _ _ _ [some (.ref (9 + 3)), some (.int x1), some (.int p12.1)] [.int p17.1, .ref (9 + 3)] _ _
          refine zy_24_1 rfl (fun b18 => (show zyR _ _ _ _ [some (.ref (9 + 3)), some (.int x1), some (.int p12.1)] [.ref (9 + 3)] _ _ from ?_)) (fun b18 => (show zyR _ _ _ _ [some (.ref (9 + 3)), some (.int x1), some (.int p12.1)] [.ref (9 + 3)] _ _ from ?_))
          · replace h := zy_ifp h b18
            refine zy_3 rfl rfl (show zyR _ _ _ _ [some (.ref (9 + 3)), some (.int x1), some (.int p12.1)] [.int (0 : Int32), .ref (9 + 3)] _ _ from ?_)
            exact zy_sub (show zy_le [none, none, none] [some (.ref (9 + 3)), some (.int x1), some (.int p12.1)] from trivial) (zyC40_89 hd hg39 hg40 h)
          · replace h := zy_ifn h b18
            refine zy_3 rfl rfl (show zyR _ _ _ _ [some (.ref (9 + 3)), some (.int x1), some (.int p12.1)] [.int (1 : Int32), .ref (9 + 3)] _ _ from ?_)
            refine zy_6 rfl (show zyR _ _ _ _ [some (.ref (9 + 3)), some (.int x1), some (.int p12.1)] [.int (1 : Int32), .ref (9 + 3)] _ _ from ?_)
            exact zy_sub (show zy_le [none, none, none] [some (.ref (9 + 3)), some (.int x1), some (.int p12.1)] from trivial) (zyC40_89 hd hg39 hg40 h)
    · replace h := zy_ifn h b23
      refine zy_0 rfl rfl (show zyR _ _ _ _ [some (.ref (9 + 3)), some (.int x1), some (.int p12.1)] [.ref (9 + 3)] _ _ from ?_)
      refine zy_33 rfl rfl (show zyR _ _ _ _ [some (.ref (9 + 3)), some (.int x1), some (.int p12.1)] [.ref (9 + 3), .ref (9 + 3)] _ _ from ?_)
      refine zy_1 (c := 9) rfl rfl rfl (show zyR _ _ _ _ [some (.ref (9 + 3)), some (.int x1), some (.int p12.1)] [.int (p14.2.1 9 4), .ref (9 + 3)] _ _ from ?_)
      refine zy_3 rfl rfl (show zyR _ _ _ _ [some (.ref (9 + 3)), some (.int x1), some (.int p12.1)] [.int (1 : Int32), .int (p14.2.1 9 4), .ref (9 + 3)] _ _ from ?_)
      refine zy_10 rfl (show zyR _ _ _ _ [some (.ref (9 + 3)), some (.int x1), some (.int p12.1)] [.int ((p14.2.1 9 4) + (1 : Int32)), .ref (9 + 3)] _ _ from ?_)
      refine zy_52 (c := 9) rfl rfl rfl (show zyR _ _ _ _ [some (.ref (9 + 3)), some (.int x1), some (.int p12.1)] [] _ _ from ?_)
      refine zy_0 rfl rfl (show zyR _ _ _ _ [some (.ref (9 + 3)), some (.int x1), some (.int p12.1)] [.ref (9 + 3)] _ _ from ?_)
      refine zy_3 rfl rfl (show zyR _ _ _ _ [some (.ref (9 + 3)), some (.int x1), some (.int p12.1)] [.int (10000 : Int32), .ref (9 + 3)] _ _ from ?_)
      refine zy_2 rfl rfl (show zyR _ _ _ _ [some (.ref (9 + 3)), some (.int x1), some (.int p12.1)] [.int p12.1, .int (10000 : Int32), .ref (9 + 3)] _ _ from ?_)
      obtain ⟨p21, hp21, h⟩ := zy_bind h
      refine zy_60 (as := [.int p12.1]) (rest := [.int (10000 : Int32), .ref (9 + 3)]) (L := [some (.int p12.1)]) (d' := 1) rfl rfl (Nat.le_of_ble_eq_true rfl) (by omega) rfl (Nat.le_of_ble_eq_true rfl) rfl rfl (zyC45 hp21) ?_
      show zyR _ _ _ _ [some (.ref (9 + 3)), some (.int x1), some (.int p12.1)] [.int p21.1, .int (10000 : Int32), .ref (9 + 3)] _ _
      refine zy_10 rfl (show zyR _ _ _ _ [some (.ref (9 + 3)), some (.int x1), some (.int p12.1)] [.int ((10000 : Int32) + p21.1), .ref (9 + 3)] _ _ from ?_)
      obtain ⟨p22, hp22, h⟩ := zy_bind h
      refine zy_5 (c := 9) (as := [.int ((10000 : Int32) + p21.1)]) (rest := []) (L := [some (.ref (9 + 3)), some (.int ((10000 : Int32) + p21.1))]) (d' := 1) rfl rfl rfl (Nat.le_of_ble_eq_true rfl) (by omega) rfl (Nat.le_of_ble_eq_true rfl) rfl rfl (zyC44 hp22) ?_
      show zyR _ _ _ _ [some (.ref (9 + 3)), some (.int x1), some (.int p12.1)] [] _ _
      refine zy_6 rfl (show zyR _ _ _ _ [some (.ref (9 + 3)), some (.int x1), some (.int p12.1)] [] _ _ from ?_)
      cases h
      exact zy_66 rfl ⟨rfl, rfl⟩
  · replace h := zy_ifn h b25
    refine zy_0 rfl rfl (show zyR _ _ _ _ [some (.ref (9 + 3)), some (.int x1), some (.int p12.1)] [.ref (9 + 3)] _ _ from ?_)
    obtain ⟨p24, hp24, h⟩ := zy_bind h
    refine zy_5 (c := 9) (as := []) (rest := []) (L := [some (.ref (9 + 3)), none, none]) (d' := 2) rfl rfl rfl (Nat.le_of_ble_eq_true rfl) (by omega) rfl (Nat.le_of_ble_eq_true rfl) rfl rfl (zyC43 hp24) ?_
    show zyR _ _ _ _ [some (.ref (9 + 3)), some (.int x1), some (.int p12.1)] [] _ _
    refine zy_6 rfl (show zyR _ _ _ _ [some (.ref (9 + 3)), some (.int x1), some (.int p12.1)] [] _ _ from ?_)
    cases h
    exact zy_66 rfl ⟨rfl, rfl⟩
noncomputable def zyG39 (n : Nat) : (Int32 → Int32 → zy_S → Option (Int32 × zy_S)) × (Int32 → zy_S → Option (Int32 × zy_S)) := Nat.rec ((fun _ _ _ => none), (fun _ _ => none)) (fun _ g => ((fun x1 x2 s => zyF39_0 g.1 g.2 x1 x2 s), (fun x1 s => zyF40_0 g.1 g.2 x1 s))) n
theorem zyG39_s (n : Nat) : zyG39 (n + 1) = ((fun x1 x2 s => zyF39_0 (zyG39 n).1 (zyG39 n).2 x1 x2 s), (fun x1 s => zyF40_0 (zyG39 n).1 (zyG39 n).2 x1 s)) := rfl
theorem zyS39 (n : Nat) (x1 : Int32) (x2 : Int32) (s : zy_S) : (zyG39 (n + 1)).1 x1 x2 s = zyF39_0 (zyG39 n).1 (zyG39 n).2 x1 x2 s := by
  rw [zyG39_s]
theorem zyS40 (n : Nat) (x1 : Int32) (s : zy_S) : (zyG39 (n + 1)).2 x1 s = zyF40_0 (zyG39 n).1 (zyG39 n).2 x1 s := by
  rw [zyG39_s]
theorem zyG39_ok {X : zx_X} : ∀ n : Nat, (∀ (x1 : Int32) (x2 : Int32) (s : zy_S) (r : Int32) (s' : zy_S), (zyG39 n).1 x1 x2 s = some (r, s') → zyR X (2 + n) 39 0 [some (.ref (9 + 3)), some (.int x1), some (.int x2), none, none, none] [] s (zyE none s')) ∧ (∀ (x1 : Int32) (s : zy_S) (r : Int32) (s' : zy_S), (zyG39 n).2 x1 s = some (r, s') → zyR X (2 + n) 40 0 [some (.ref (9 + 3)), some (.int x1), none] [] s (zyE none s'))
  | 0 => by
    refine ⟨?_, ?_⟩
    · intro x1 x2 s r s'  h
      have h : (none : Option (Int32 × zy_S)) = some (r, s') := h
      cases h
    · intro x1 s r s'  h
      have h : (none : Option (Int32 × zy_S)) = some (r, s') := h
      cases h
  | n + 1 => by
    obtain ⟨i0, i1⟩ := zyG39_ok (X := X) n
    refine ⟨?_, ?_⟩
    · intro x1 x2 s r s'  h
      rw [zyS39] at h
      exact zy_sub (show zy_le [some (.ref (9 + 3)), some (.int x1), some (.int x2), none, none, none] [some (.ref (9 + 3)), some (.int x1), some (.int x2), none, none, none] from ⟨rfl, ⟨rfl, ⟨rfl, trivial⟩⟩⟩) (zyC39_0 (d := 2 + n) (g39 := (zyG39 n).1) (g40 := (zyG39 n).2) (by omega) i0 i1  h)
    · intro x1 s r s'  h
      rw [zyS40] at h
      exact zy_sub (show zy_le [some (.ref (9 + 3)), some (.int x1), none] [some (.ref (9 + 3)), some (.int x1), none] from ⟨rfl, ⟨rfl, trivial⟩⟩) (zyC40_0 (d := 2 + n) (g39 := (zyG39 n).1) (g40 := (zyG39 n).2) (by omega) i0 i1  h)
noncomputable def zyF39 : Int32 → Int32 → zy_S → Option (Int32 × zy_S) := (zyG39 100).1
theorem zyC39 {X : zx_X} {x1 : Int32} {x2 : Int32} {s : zy_S} {r : Int32} {s' : zy_S}  (h : zyF39 x1 x2 s = some (r, s')) : zyR X 102 39 0 [some (.ref (9 + 3)), some (.int x1), some (.int x2), none, none, none] [] s (zyE none s') := (zyG39_ok (X := X) 100).1 x1 x2 s r s'  h
noncomputable def zyF40 : Int32 → zy_S → Option (Int32 × zy_S) := (zyG39 100).2
theorem zyC40 {X : zx_X} {x1 : Int32} {s : zy_S} {r : Int32} {s' : zy_S}  (h : zyF40 x1 s = some (r, s')) : zyR X 102 40 0 [some (.ref (9 + 3)), some (.int x1), none] [] s (zyE none s') := (zyG39_ok (X := X) 100).2 x1 s r s'  h
