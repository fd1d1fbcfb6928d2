/-! PART 41.72: methods as functions. Made by wip/v4/dcp.py. -/
/-! NineOpinions$Tape.readLevel(II)V, over what it calls -/
noncomputable def zyF39_34b (g39 : Int32 → Int32 → zy_S → Option (Int32 × zy_S)) (g40 : Int32 → zy_S → Option (Int32 × zy_S)) (k34 : Int32 → Int32 → Int32 → Int32 → zy_S → Option (Int32 × zy_S)) (x1 : Int32) (x2 : Int32) (x3 : Int32) (x4 : Int32) (s : zy_S) : Option (Int32 × zy_S) :=
if x3 ≤ x4 then
some ((0 : Int32), s)
else
if (s.1 9 5) ≠ 0 then
some ((0 : Int32), s)
else
(zyF41 s).bind fun p1 =>
(zyF47 p1.1 p1.2).bind fun p2 =>
if p2.1 ≠ x1 then
some ((0 : Int32), p2.2)
else
(zyF41 p2.2).bind fun p3 =>
(g39 (x1 + (1 : Int32)) x2 (zy_up p3.2 9 4 ((p3.2.1 9 4) + (1 : Int32)))).bind fun p4 =>
(zyF44 (-p3.1) p4.2).bind fun p5 =>
k34 x1 x2 x3 (x4 + (1 : Int32)) p5.2
theorem zyC39_34b {X : zx_X} {d : Nat} {g39 : Int32 → Int32 → zy_S → Option (Int32 × zy_S)} {g40 : Int32 → zy_S → Option (Int32 × zy_S)} {k34 : Int32 → Int32 → Int32 → Int32 → zy_S → Option (Int32 × zy_S)} (hd : 1 ≤ d) (hg39 : ∀ (x1 : Int32) (x2 : Int32) (s : zy_S) (r : Int32) (s' : zy_S), g39 x1 x2 s = some (r, s') → zyR X d 39 0 [some (.ref (9 + 3)), some (.int x1), some (.int x2), none, none, none] [] s (zyE none s')) (hg40 : ∀ (x1 : Int32) (s : zy_S) (r : Int32) (s' : zy_S), g40 x1 s = some (r, s') → zyR X d 40 0 [some (.ref (9 + 3)), some (.int x1), none] [] s (zyE none s')) (hk34 : ∀ (x1 : Int32) (x2 : Int32) (x3 : Int32) (x4 : Int32) (s : zy_S) (r : Int32) (s' : zy_S), k34 x1 x2 x3 x4 s = some (r, s') → zyR X (d + 1) 39 34 [some (.ref (9 + 3)), some (.int x1), some (.int x2), some (.int x3), some (.int x4), none] [] s (zyE none s')) {x1 : Int32} {x2 : Int32} {x3 : Int32} {x4 : Int32} {s : zy_S} {r : Int32} {s' : zy_S}  (h : zyF39_34b g39 g40 k34 x1 x2 x3 x4 s = some (r, s')) : zyR X (d + 1) 39 34 [some (.ref (9 + 3)), some (.int x1), some (.int x2), some (.int x3), some (.int x4), none] [] s (zyE none s') := by
  unfold zyF39_34b at h
  refine zy_2 rfl rfl (show zyR _ _ _ _ [some (.ref (9 + 3)), some (.int x1), some (.int x2), some (.int x3), some (.int x4), none] [.int x4] _ _ from ?_)
  refine zy_2 rfl rfl (show zyR _ _ _ _ [some (.ref (9 + 3)), some (.int x1), some (.int x2), some (.int x3), some (.int x4), none] [.int x3, .int x4] _ _ from ?_)
  refine zy_25_3 rfl (fun b8 => (show zyR _ _ _ _ [some (.ref (9 + 3)), some (.int x1), some (.int x2), some (.int x3), some (.int x4), none] [] _ _ from ?_)) (fun b8 => (show zyR _ _ _ _ [some (.ref (9 + 3)), some (.int x1), some (.int x2), some (.int x3), some (.int x4), none] [] _ _ from ?_))
  · replace h := zy_ifp h b8
    cases h
    exact zy_66 rfl ⟨rfl, rfl⟩
  · replace h := zy_ifn h b8
    refine zy_0 rfl rfl (show zyR _ _ _ _ [some (.ref (9 + 3)), some (.int x1), some (.int x2), some (.int x3), some (.int x4), none] [.ref (9 + 3)] _ _ from ?_)
    refine zy_1 (c := 9) rfl rfl rfl (show zyR _ _ _ _ [some (.ref (9 + 3)), some (.int x1), some (.int x2), some (.int x3), some (.int x4), none] [.int (s.1 9 5)] _ _ from ?_)
    refine zy_24_1 rfl (fun b7 => (show zyR _ _ _ _ [some (.ref (9 + 3)), some (.int x1), some (.int x2), some (.int x3), some (.int x4), none] [] _ _ from ?_)) (fun b7 => (show zyR _ _ _ _ [some (.ref (9 + 3)), some (.int x1), some (.int x2), some (.int x3), some (.int x4), none] [] _ _ from ?_))
    · replace h := zy_ifp h b7
      cases h
      exact zy_66 rfl ⟨rfl, rfl⟩
    · replace h := zy_ifn h b7
      refine zy_0 rfl rfl (show zyR _ _ _ _ [some (.ref (9 + 3)), some (.int x1), some (.int x2), some (.int x3), some (.int x4), none] [.ref (9 + 3)] _ _ from ?_)
      obtain ⟨p1, hp1, h⟩ := zy_bind h
      refine zy_5 (c := 9) (as := []) (rest := []) (L := [some (.ref (9 + 3))]) (d' := 1) rfl rfl rfl (Nat.le_of_ble_eq_true rfl) (by omega) rfl (Nat.le_of_ble_eq_true rfl) rfl rfl (zyC41 hp1) ?_
      show zyR _ _ _ _ [some (.ref (9 + 3)), some (.int x1), some (.int x2), some (.int x3), some (.int x4), none] [.int p1.1] _ _
      obtain ⟨p2, hp2, h⟩ := zy_bind h
      refine zy_60 (as := [.int p1.1]) (rest := []) (L := [some (.int p1.1)]) (d' := 1) rfl rfl (Nat.le_of_ble_eq_true rfl) (by omega) rfl (Nat.le_of_ble_eq_true rfl) rfl rfl (zyC47 hp2) ?_
      show zyR _ _ _ _ [some (.ref (9 + 3)), some (.int x1), some (.int x2), some (.int x3), some (.int x4), none] [.int p2.1] _ _
      refine zy_2 rfl rfl (show zyR _ _ _ _ [some (.ref (9 + 3)), some (.int x1), some (.int x2), some (.int x3), some (.int x4), none] [.int x1, .int p2.1] _ _ from ?_)
      refine zy_25_1 rfl (fun b6 => (show zyR _ _ _ _ [some (.ref (9 + 3)), some (.int x1), some (.int x2), some (.int x3), some (.int x4), none] [] _ _ from ?_)) (fun b6 => (show zyR _ _ _ _ [some (.ref (9 + 3)), some (.int x1), some (.int x2), some (.int x3), some (.int x4), none] [] _ _ from ?_))
      · replace h := zy_ifp h b6
        cases h
        exact zy_66 rfl ⟨rfl, rfl⟩
      · replace h := zy_ifn h b6
        refine zy_0 rfl rfl (show zyR _ _ _ _ [some (.ref (9 + 3)), some (.int x1), some (.int x2), some (.int x3), some (.int x4), none] [.ref (9 + 3)] _ _ from ?_)
        obtain ⟨p3, hp3, h⟩ := zy_bind h
        refine zy_5 (c := 9) (as := []) (rest := []) (L := [some (.ref (9 + 3))]) (d' := 1) rfl rfl rfl (Nat.le_of_ble_eq_true rfl) (by omega) rfl (Nat.le_of_ble_eq_true rfl) rfl rfl (zyC41 hp3) ?_
        show zyR _ _ _ _ [some (.ref (9 + 3)), some (.int x1), some (.int x2), some (.int x3), some (.int x4), none] [.int p3.1] _ _
        refine zy_23 rfl rfl (show zyR _ _ _ _ [some (.ref (9 + 3)), some (.int x1), some (.int x2), some (.int x3), some (.int x4), some (.int p3.1)] [] _ _ from ?_)
        refine zy_0 rfl rfl (show zyR _ _ _ _ [some (.ref (9 + 3)), some (.int x1), some (.int x2), some (.int x3), some (.int x4), some (.int p3.1)] [.ref (9 + 3)] _ _ from ?_)
        refine zy_33 rfl rfl (show zyR _ _ _ _ [some (.ref (9 + 3)), some (.int x1), some (.int x2), some (.int x3), some (.int x4), some (.int p3.1)] [.ref (9 + 3), .ref (9 + 3)] _ _ from ?_)
        refine zy_1 (c := 9) rfl rfl rfl (show zyR _ _ _ _ [some (.ref (9 + 3)), some (.int x1), some (.int x2), some (.int x3), some (.int x4), some (.int p3.1)] [.int (p3.2.1 9 4), .ref (9 + 3)] _ _ from ?_)
        refine zy_3 rfl rfl (show zyR _ _ _ _ [some (.ref (9 + 3)), some (.int x1), some (.int x2), some (.int x3), some (.int x4), some (.int p3.1)] [.int (1 : Int32), .int (p3.2.1 9 4), .ref (9 + 3)] _ _ from ?_)
        refine zy_10 rfl (show zyR _ _ _ _ [some (.ref (9 + 3)), some (.int x1), some (.int x2), some (.int x3), some (.int x4), some (.int p3.1)] [.int ((p3.2.1 9 4) + (1 : Int32)), .ref (9 + 3)] _ _ from ?_)
        refine zy_52 (c := 9) rfl rfl rfl (show zyR _ _ _ _ [some (.ref (9 + 3)), some (.int x1), some (.int x2), some (.int x3), some (.int x4), some (.int p3.1)] [] _ _ from ?_)
        refine zy_0 rfl rfl (show zyR _ _ _ _ [some (.ref (9 + 3)), some (.int x1), some (.int x2), some (.int x3), some (.int x4), some (.int p3.1)] [.ref (9 + 3)] _ _ from ?_)
        refine zy_2 rfl rfl (show zyR _ _ _ _ [some (.ref (9 + 3)), some (.int x1), some (.int x2), some (.int x3), some (.int x4), some (.int p3.1)] [.int x1, .ref (9 + 3)] _ _ from ?_)
        refine zy_3 rfl rfl (show zyR _ _ _ _ [some (.ref (9 + 3)), some (.int x1), some (.int x2), some (.int x3), some (.int x4), some (.int p3.1)] [.int (1 : Int32), .int x1, .ref (9 + 3)] _ _ from ?_)
        refine zy_10 rfl (show zyR _ _ _ _ [some (.ref (9 + 3)), some (.int x1), some (.int x2), some (.int x3), some (.int x4), some (.int p3.1)] [.int (x1 + (1 : Int32)), .ref (9 + 3)] _ _ from ?_)
        refine zy_2 rfl rfl (show zyR _ _ _ _ [some (.ref (9 + 3)), some (.int x1), some (.int x2), some (.int x3), some (.int x4), some (.int p3.1)] [.int x2, .int (x1 + (1 : Int32)), .ref (9 + 3)] _ _ from ?_)
        obtain ⟨p4, hp4, h⟩ := zy_bind h
        refine zy_5 (c := 9) (as := [.int (x1 + (1 : Int32)), .int x2]) (rest := []) (L := [some (.ref (9 + 3)), some (.int (x1 + (1 : Int32))), some (.int x2), none, none, none]) (d' := d) rfl rfl rfl (Nat.le_of_ble_eq_true rfl) (by omega) rfl (Nat.le_of_ble_eq_true rfl) rfl rfl (hg39 (x1 + (1 : Int32)) x2 (zy_up p3.2 9 4 ((p3.2.1 9 4) + (1 : Int32))) _ _ hp4) ?_
        show zyR _ _ _ _ [some (.ref (9 + 3)), some (.int x1), some (.int x2), some (.int x3), some (.int x4), some (.int p3.1)] [] _ _
        refine zy_0 rfl rfl (show zyR _ _ _ _ [some (.ref (9 + 3)), some (.int x1), some (.int x2), some (.int x3), some (.int x4), some (.int p3.1)] [.ref (9 + 3)] _ _ from ?_)
        refine zy_2 rfl rfl (show zyR _ _ _ _ [some (.ref (9 + 3)), some (.int x1), some (.int x2), some (.int x3), some (.int x4), some (.int p3.1)] [.int p3.1, .ref (9 + 3)] _ _ from ?_)
        refine zy_21 rfl (show zyR _ _ _ _ [some (.ref (9 + 3)), some (.int x1), some (.int x2), some (.int x3), some (.int x4), some (.int p3.1)] [.int (-p3.1), .ref (9 + 3)] _ _ from ?_)
        obtain ⟨p5, hp5, h⟩ := zy_bind h
        refine zy_5 (c := 9) (as := [.int (-p3.1)]) (rest := []) (L := [some (.ref (9 + 3)), some (.int (-p3.1))]) (d' := 1) rfl rfl rfl (Nat.le_of_ble_eq_true rfl) (by omega) rfl (Nat.le_of_ble_eq_true rfl) rfl rfl (zyC44 hp5) ?_
        show zyR _ _ _ _ [some (.ref (9 + 3)), some (.int x1), some (.int x2), some (.int x3), some (.int x4), some (.int p3.1)] [] _ _
        refine zy_22 rfl rfl rfl rfl (show zyR _ _ _ _ [some (.ref (9 + 3)), some (.int x1), some (.int x2), some (.int x3), some (.int (x4 + (1 : Int32))), some (.int p3.1)] [] _ _ from ?_)
        refine zy_6 rfl (show zyR _ _ _ _ [some (.ref (9 + 3)), some (.int x1), some (.int x2), some (.int x3), some (.int (x4 + (1 : Int32))), some (.int p3.1)] [] _ _ from ?_)
        exact zy_sub (show zy_le [some (.ref (9 + 3)), some (.int x1), some (.int x2), some (.int x3), some (.int (x4 + (1 : Int32))), none] [some (.ref (9 + 3)), some (.int x1), some (.int x2), some (.int x3), some (.int (x4 + (1 : Int32))), some (.int p3.1)] from ⟨rfl, ⟨rfl, ⟨rfl, ⟨rfl, ⟨rfl, trivial⟩⟩⟩⟩⟩) (hk34 x1 x2 x3 (x4 + (1 : Int32)) p5.2 _ _ h)
noncomputable def zyF39_34 (g39 : Int32 → Int32 → zy_S → Option (Int32 × zy_S)) (g40 : Int32 → zy_S → Option (Int32 × zy_S))  (n : Nat) : Int32 → Int32 → Int32 → Int32 → zy_S → Option (Int32 × zy_S) := Nat.rec (fun _ _ _ _ _ => none) (fun _ k34 => zyF39_34b g39 g40 k34) n
theorem zyC39_34 {X : zx_X} {d : Nat} {g39 : Int32 → Int32 → zy_S → Option (Int32 × zy_S)} {g40 : Int32 → zy_S → Option (Int32 × zy_S)}  (hd : 1 ≤ d) (hg39 : ∀ (x1 : Int32) (x2 : Int32) (s : zy_S) (r : Int32) (s' : zy_S), g39 x1 x2 s = some (r, s') → zyR X d 39 0 [some (.ref (9 + 3)), some (.int x1), some (.int x2), none, none, none] [] s (zyE none s')) (hg40 : ∀ (x1 : Int32) (s : zy_S) (r : Int32) (s' : zy_S), g40 x1 s = some (r, s') → zyR X d 40 0 [some (.ref (9 + 3)), some (.int x1), none] [] s (zyE none s'))  : ∀ (n : Nat) (x1 : Int32) (x2 : Int32) (x3 : Int32) (x4 : Int32) (s : zy_S) (r : Int32) (s' : zy_S), zyF39_34 g39 g40 n x1 x2 x3 x4 s = some (r, s') → zyR X (d + 1) 39 34 [some (.ref (9 + 3)), some (.int x1), some (.int x2), some (.int x3), some (.int x4), none] [] s (zyE none s')
  | 0, _, _, _, _ => by
    intro s r s'  h
    have h : (none : Option (Int32 × zy_S)) = some (r, s') := h
    cases h
  | n + 1, x1, x2, x3, x4 => by
    intro s r s'  h
    exact zyC39_34b hd hg39 hg40 (k34 := zyF39_34 g39 g40 n) (fun x1 x2 x3 x4 s r s'  h => zyC39_34 hd hg39 hg40 n x1 x2 x3 x4 s r s'  h) h
noncomputable def zyF39_30 (g39 : Int32 → Int32 → zy_S → Option (Int32 × zy_S)) (g40 : Int32 → zy_S → Option (Int32 × zy_S))  (x1 : Int32) (x2 : Int32) (y0 : Int32) (s : zy_S) : Option (Int32 × zy_S) :=
zyF39_34 g39 g40 zy_fu x1 x2 y0 (0 : Int32) s
theorem zyC39_30 {X : zx_X} {d : Nat} {g39 : Int32 → Int32 → zy_S → Option (Int32 × zy_S)} {g40 : Int32 → zy_S → Option (Int32 × zy_S)}  (hd : 1 ≤ d) (hg39 : ∀ (x1 : Int32) (x2 : Int32) (s : zy_S) (r : Int32) (s' : zy_S), g39 x1 x2 s = some (r, s') → zyR X d 39 0 [some (.ref (9 + 3)), some (.int x1), some (.int x2), none, none, none] [] s (zyE none s')) (hg40 : ∀ (x1 : Int32) (s : zy_S) (r : Int32) (s' : zy_S), g40 x1 s = some (r, s') → zyR X d 40 0 [some (.ref (9 + 3)), some (.int x1), none] [] s (zyE none s'))  {x1 : Int32} {x2 : Int32} {y0 : Int32} {s : zy_S} {r : Int32} {s' : zy_S}  (h : zyF39_30 g39 g40 x1 x2 y0 s = some (r, s')) : zyR X (d + 1) 39 30 [some (.ref (9 + 3)), some (.int x1), some (.int x2), none, none, none] [.int y0] s (zyE none s') := by
  unfold zyF39_30 at h
  refine zy_23 rfl rfl (show zyR _ _ _ _ [some (.ref (9 + 3)), some (.int x1), some (.int x2), some (.int y0), none, none] [] _ _ from ?_)
  refine zy_3 rfl rfl (show zyR _ _ _ _ [some (.ref (9 + 3)), some (.int x1), some (.int x2), some (.int y0), none, none] [.int (0 : Int32)] _ _ from ?_)
  refine zy_23 rfl rfl (show zyR _ _ _ _ [some (.ref (9 + 3)), some (.int x1), some (.int x2), some (.int y0), some (.int (0 : Int32)), none] [] _ _ from ?_)
  exact zy_sub (show zy_le [some (.ref (9 + 3)), some (.int x1), some (.int x2), some (.int y0), some (.int (0 : Int32)), none] [some (.ref (9 + 3)), some (.int x1), some (.int x2), some (.int y0), some (.int (0 : Int32)), none] from ⟨rfl, ⟨rfl, ⟨rfl, ⟨rfl, ⟨rfl, trivial⟩⟩⟩⟩⟩) (zyC39_34 hd hg39 hg40 zy_fu x1 x2 y0 (0 : Int32) s _ _ h)
noncomputable def zyF39_0 (g39 : Int32 → Int32 → zy_S → Option (Int32 × zy_S)) (g40 : Int32 → zy_S → Option (Int32 × zy_S))  (x1 : Int32) (x2 : Int32) (s : zy_S) : Option (Int32 × zy_S) :=
if x1 < (5 : Int32) then
(g39 (x1 + (1 : Int32)) x2 s).bind fun p9 =>
if x1 ≠ (2 : Int32) then
zyF39_30 g39 g40 x1 x2 (120 : Int32) p9.2
else
zyF39_30 g39 g40 x1 x2 (1 : Int32) p9.2
else
(g40 x2 s).bind fun p11 =>
some ((0 : Int32), p11.2)
theorem zyC39_0 {X : zx_X} {d : Nat} {g39 : Int32 → Int32 → zy_S → Option (Int32 × zy_S)} {g40 : Int32 → zy_S → Option (Int32 × zy_S)}  (hd : 1 ≤ d) (hg39 : ∀ (x1 : Int32) (x2 : Int32) (s : zy_S) (r : Int32) (s' : zy_S), g39 x1 x2 s = some (r, s') → zyR X d 39 0 [some (.ref (9 + 3)), some (.int x1), some (.int x2), none, none, none] [] s (zyE none s')) (hg40 : ∀ (x1 : Int32) (s : zy_S) (r : Int32) (s' : zy_S), g40 x1 s = some (r, s') → zyR X d 40 0 [some (.ref (9 + 3)), some (.int x1), none] [] s (zyE none s'))  {x1 : Int32} {x2 : Int32} {s : zy_S} {r : Int32} {s' : zy_S}  (h : zyF39_0 g39 g40 x1 x2 s = some (r, s')) : zyR X (d + 1) 39 0 [some (.ref (9 + 3)), some (.int x1), some (.int x2), none, none, none] [] s (zyE none s') := by
  unfold zyF39_0 at h
  refine zy_2 rfl rfl (show zyR _ _ _ _ [some (.ref (9 + 3)), some (.int x1), some (.int x2), none, none, none] [.int x1] _ _ from ?_)
  refine zy_3 rfl rfl (show zyR _ _ _ _ [some (.ref (9 + 3)), some (.int x1), some (.int x2), none, none, none] [.int (5 : Int32), .int x1] _ _ from ?_)
  refine zy_25_2 rfl (fun b12 => (show zyR _ _ _ _ [some (.ref (9 + 3)), some (.int x1), some (.int x2), none, none, none] [] _ _ from ?_)) (fun b12 => (show zyR _ _ _ _ [some (.ref (9 + 3)), some (.int x1), some (.int x2), none, none, none] [] _ _ from ?_))
  · replace h := zy_ifp h b12
    refine zy_0 rfl rfl (show zyR _ _ _ _ [some (.ref (9 + 3)), some (.int x1), some (.int x2), none, none, none] [.ref (9 + 3)] _ _ from ?_)
    refine zy_2 rfl rfl (show zyR _ _ _ _ [some (.ref (9 + 3)), some (.int x1), some (.int x2), none, none, none] [.int x1, .ref (9 + 3)] _ _ from ?_)
    refine zy_3 rfl rfl (show zyR _ _ _ _ [some (.ref (9 + 3)), some (.int x1), some (.int x2), none, none, none] [.int (1 : Int32), .int x1, .ref (9 + 3)] _ _ from ?_)
    refine zy_10 rfl (show zyR _ _ _ _ [some (.ref (9 + 3)), some (.int x1), some (.int x2), none, none, none] [.int (x1 + (1 : Int32)), .ref (9 + 3)] _ _ from ?_)
    refine zy_2 rfl rfl (show zyR _ _ _ _ [some (.ref (9 + 3)), some (.int x1), some (.int x2), none, none, none] [.int x2, .int (x1 + (1 : Int32)), .ref (9 + 3)] _ _ from ?_)
    obtain ⟨p9, hp9, h⟩ := zy_bind h
    refine zy_5 (c := 9) (as := [.int (x1 + (1 : Int32)), .int x2]) (rest := []) (L := [some (.ref (9 + 3)), some (.int (x1 + (1 : Int32))), some (.int x2), none, none, none]) (d' := d) rfl rfl rfl (Nat.le_of_ble_eq_true rfl) (by omega) rfl (Nat.le_of_ble_eq_true rfl) rfl rfl (hg39 (x1 + (1 : Int32)) x2 s _ _ hp9) ?_
    show zyR _ _ _ _ [some (.ref (9 + 3)), some (.int x1), some (.int x2), none, none, none] [] _ _
    refine zy_2 rfl rfl (show zyR _ _ _ _ [some (.ref (9 + 3)), some (.int x1), some (.int x2), none, none, none] [.int x1] _ _ from ?_)
    refine zy_3 rfl rfl (show zyR _ _ _ _ [some (.ref (9 + 3)), some (.int x1), some (.int x2), none, none, none] [.int (2 : Int32), .int x1] _ _ from ?_)
    refine zy_25_1 rfl (fun b10 => (show zyR _ _ _ _ [some (.ref (9 + 3)), some (.int x1), some (.int x2), none, none, none] [] _ _ from ?_)) (fun b10 => (show zyR _ _ _ _ [some (.ref (9 + 3)), some (.int x1), some (.int x2), none, none, none] [] _ _ from ?_))
    · replace h := zy_ifp h b10
      refine zy_3 rfl rfl (show zyR _ _ _ _ [some (.ref (9 + 3)), some (.int x1), some (.int x2), none, none, none] [.int (120 : Int32)] _ _ from ?_)
      exact zy_sub (show zy_le [some (.ref (9 + 3)), some (.int x1), some (.int x2), none, none, none] [some (.ref (9 + 3)), some (.int x1), some (.int x2), none, none, none] from ⟨rfl, ⟨rfl, ⟨rfl, trivial⟩⟩⟩) (zyC39_30 hd hg39 hg40 h)
    · replace h := zy_ifn h b10
      refine zy_3 rfl rfl (show zyR _ _ _ _ [some (.ref (9 + 3)), some (.int x1), some (.int x2), none, none, none] [.int (1 : Int32)] _ _ from ?_)
      refine zy_6 rfl (show zyR _ _ _ _ [some (.ref (9 + 3)), some (.int x1), some (.int x2), none, none, none] [.int (1 : Int32)] _ _ from ?_)
      exact zy_sub (show zy_le [some (.ref (9 + 3)), some (.int x1), some (.int x2), none, none, none] [some (.ref (9 + 3)), some (.int x1), some (.int x2), none, none, none] from ⟨rfl, ⟨rfl, ⟨rfl, trivial⟩⟩⟩) (zyC39_30 hd hg39 hg40 h)
  · replace h := zy_ifn h b12
    refine zy_0 rfl rfl (show zyR _ _ _ _ [some (.ref (9 + 3)), some (.int x1), some (.int x2), none, none, none] [.ref (9 + 3)] _ _ from ?_)
    refine zy_2 rfl rfl (show zyR _ _ _ _ [some (.ref (9 + 3)), some (.int x1), some (.int x2), none, none, none] [.int x2, .ref (9 + 3)] _ _ from ?_)
    obtain ⟨p11, hp11, h⟩ := zy_bind h
    refine zy_5 (c := 9) (as := [.int x2]) (rest := []) (L := [some (.ref (9 + 3)), some (.int x2), none]) (d' := d) rfl rfl rfl (Nat.le_of_ble_eq_true rfl) (by omega) rfl (Nat.le_of_ble_eq_true rfl) rfl rfl (hg40 x2 s _ _ hp11) ?_
    show zyR _ _ _ _ [some (.ref (9 + 3)), some (.int x1), some (.int x2), none, none, none] [] _ _
    cases h
    exact zy_66 rfl ⟨rfl, rfl⟩
