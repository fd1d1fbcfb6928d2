/-! PART 41.58: methods as functions. Made by wip/v4/dcp.py. -/
/-! NineOpinions$Votes.fewestToWin(I)I -/
noncomputable def zyF101_85  (k24 : Int32 → Int32 → Int32 → Int32 → zy_S → Option (Int32 × zy_S)) (x2 : Int32) (x3 : Int32) (x4 : Int32) (x5 : Int32) (s : zy_S) : Option (Int32 × zy_S) :=
k24 x2 x3 x4 (x5 + (1 : Int32)) s
theorem zyC101_85 {X : zx_X}  {k24 : Int32 → Int32 → Int32 → Int32 → zy_S → Option (Int32 × zy_S)}  (hk24 : ∀ (x2 : Int32) (x3 : Int32) (x4 : Int32) (x5 : Int32) (s : zy_S) (r : Int32) (s' : zy_S), k24 x2 x3 x4 x5 s = some (r, s') → zyR X 4 101 24 [some (.ref (16 + 3)), none, some (.int x2), some (.int x3), some (.int x4), some (.int x5), none] [] s (zyE (some (.int r)) s')) {x2 : Int32} {x3 : Int32} {x4 : Int32} {x5 : Int32} {s : zy_S} {r : Int32} {s' : zy_S}  (h : zyF101_85 k24 x2 x3 x4 x5 s = some (r, s')) : zyR X 4 101 85 [some (.ref (16 + 3)), none, some (.int x2), some (.int x3), some (.int x4), some (.int x5), none] [] s (zyE (some (.int r)) s') := by
  unfold zyF101_85 at h
  refine zy_22 rfl rfl rfl rfl (show zyR _ _ _ _ [some (.ref (16 + 3)), none, some (.int x2), some (.int x3), some (.int x4), some (.int (x5 + (1 : Int32))), none] [] _ _ from ?_)
  refine zy_6 rfl (show zyR _ _ _ _ [some (.ref (16 + 3)), none, some (.int x2), some (.int x3), some (.int x4), some (.int (x5 + (1 : Int32))), none] [] _ _ from ?_)
  exact zy_sub (show zy_le [some (.ref (16 + 3)), none, some (.int x2), some (.int x3), some (.int x4), some (.int (x5 + (1 : Int32))), none] [some (.ref (16 + 3)), none, some (.int x2), some (.int x3), some (.int x4), some (.int (x5 + (1 : Int32))), none] from ⟨rfl, ⟨rfl, ⟨rfl, ⟨rfl, ⟨rfl, trivial⟩⟩⟩⟩⟩) (hk24 x2 x3 x4 (x5 + (1 : Int32)) s _ _ h)
noncomputable def zyF101_54  (k24 : Int32 → Int32 → Int32 → Int32 → zy_S → Option (Int32 × zy_S)) (x2 : Int32) (x3 : Int32) (x4 : Int32) (x5 : Int32) (y0 : Int32) (s : zy_S) : Option (Int32 × zy_S) :=
if y0 = 0 then
zyF101_85 k24 x2 x3 x4 x5 s
else
if (x5 &&& (x2 ^^^ (-1 : Int32))) ≠ 0 then
zyF101_85 k24 x2 x3 x4 x5 s
else
(zyF97 (x3 ||| x5) s).bind fun p1 =>
if p1.1 = 0 then
zyF101_85 k24 x2 x3 x4 x5 p1.2
else
zyF101_85 k24 x2 x3 x5 x5 p1.2
theorem zyC101_54 {X : zx_X}  {k24 : Int32 → Int32 → Int32 → Int32 → zy_S → Option (Int32 × zy_S)}  (hk24 : ∀ (x2 : Int32) (x3 : Int32) (x4 : Int32) (x5 : Int32) (s : zy_S) (r : Int32) (s' : zy_S), k24 x2 x3 x4 x5 s = some (r, s') → zyR X 4 101 24 [some (.ref (16 + 3)), none, some (.int x2), some (.int x3), some (.int x4), some (.int x5), none] [] s (zyE (some (.int r)) s')) {x2 : Int32} {x3 : Int32} {x4 : Int32} {x5 : Int32} {y0 : Int32} {s : zy_S} {r : Int32} {s' : zy_S}  (h : zyF101_54 k24 x2 x3 x4 x5 y0 s = some (r, s')) : zyR X 4 101 54 [some (.ref (16 + 3)), none, some (.int x2), some (.int x3), some (.int x4), some (.int x5), none] [.int y0] s (zyE (some (.int r)) s') := by
  unfold zyF101_54 at h
  refine zy_23 rfl rfl (show zyR _ _ _ _ [some (.ref (16 + 3)), none, some (.int x2), some (.int x3), some (.int x4), some (.int x5), some (.int y0)] [] _ _ from ?_)
  refine zy_2 rfl rfl (show zyR _ _ _ _ [some (.ref (16 + 3)), none, some (.int x2), some (.int x3), some (.int x4), some (.int x5), some (.int y0)] [.int y0] _ _ from ?_)
  refine zy_24_0 rfl (fun b4 => (show zyR _ _ _ _ [some (.ref (16 + 3)), none, some (.int x2), some (.int x3), some (.int x4), some (.int x5), some (.int y0)] [] _ _ from ?_)) (fun b4 => (show zyR _ _ _ _ [some (.ref (16 + 3)), none, some (.int x2), some (.int x3), some (.int x4), some (.int x5), some (.int y0)] [] _ _ from ?_))
  · replace h := zy_ifp h b4
    exact zy_sub (show zy_le [some (.ref (16 + 3)), none, some (.int x2), some (.int x3), some (.int x4), some (.int x5), none] [some (.ref (16 + 3)), none, some (.int x2), some (.int x3), some (.int x4), some (.int x5), some (.int y0)] from ⟨rfl, ⟨rfl, ⟨rfl, ⟨rfl, ⟨rfl, trivial⟩⟩⟩⟩⟩) (zyC101_85 hk24 h)
  · replace h := zy_ifn h b4
    refine zy_2 rfl rfl (show zyR _ _ _ _ [some (.ref (16 + 3)), none, some (.int x2), some (.int x3), some (.int x4), some (.int x5), some (.int y0)] [.int x5] _ _ from ?_)
    refine zy_2 rfl rfl (show zyR _ _ _ _ [some (.ref (16 + 3)), none, some (.int x2), some (.int x3), some (.int x4), some (.int x5), some (.int y0)] [.int x2, .int x5] _ _ from ?_)
    refine zy_3 rfl rfl (show zyR _ _ _ _ [some (.ref (16 + 3)), none, some (.int x2), some (.int x3), some (.int x4), some (.int x5), some (.int y0)] [.int (-1 : Int32), .int x2, .int x5] _ _ from ?_)
    refine zy_15 rfl (show zyR _ _ _ _ [some (.ref (16 + 3)), none, some (.int x2), some (.int x3), some (.int x4), some (.int x5), some (.int y0)] [.int (x2 ^^^ (-1 : Int32)), .int x5] _ _ from ?_)
    refine zy_13 rfl (show zyR _ _ _ _ [some (.ref (16 + 3)), none, some (.int x2), some (.int x3), some (.int x4), some (.int x5), some (.int y0)] [.int (x5 &&& (x2 ^^^ (-1 : Int32)))] _ _ from ?_)
    refine zy_24_1 rfl (fun b3 => (show zyR _ _ _ _ [some (.ref (16 + 3)), none, some (.int x2), some (.int x3), some (.int x4), some (.int x5), some (.int y0)] [] _ _ from ?_)) (fun b3 => (show zyR _ _ _ _ [some (.ref (16 + 3)), none, some (.int x2), some (.int x3), some (.int x4), some (.int x5), some (.int y0)] [] _ _ from ?_))
    · replace h := zy_ifp h b3
      exact zy_sub (show zy_le [some (.ref (16 + 3)), none, some (.int x2), some (.int x3), some (.int x4), some (.int x5), none] [some (.ref (16 + 3)), none, some (.int x2), some (.int x3), some (.int x4), some (.int x5), some (.int y0)] from ⟨rfl, ⟨rfl, ⟨rfl, ⟨rfl, ⟨rfl, trivial⟩⟩⟩⟩⟩) (zyC101_85 hk24 h)
    · replace h := zy_ifn h b3
      refine zy_0 rfl rfl (show zyR _ _ _ _ [some (.ref (16 + 3)), none, some (.int x2), some (.int x3), some (.int x4), some (.int x5), some (.int y0)] [.ref (16 + 3)] _ _ from ?_)
      refine zy_2 rfl rfl (show zyR _ _ _ _ [some (.ref (16 + 3)), none, some (.int x2), some (.int x3), some (.int x4), some (.int x5), some (.int y0)] [.int x3, .ref (16 + 3)] _ _ from ?_)
      refine zy_2 rfl rfl (show zyR _ _ _ _ [some (.ref (16 + 3)), none, some (.int x2), some (.int x3), some (.int x4), some (.int x5), some (.int y0)] [.int x5, .int x3, .ref (16 + 3)] _ _ from ?_)
      refine zy_14 rfl (show zyR _ _ _ _ [some (.ref (16 + 3)), none, some (.int x2), some (.int x3), some (.int x4), some (.int x5), some (.int y0)] [.int (x3 ||| x5), .ref (16 + 3)] _ _ from ?_)
      obtain ⟨p1, hp1, h⟩ := zy_bind h
      refine zy_5 (c := 16) (as := [.int (x3 ||| x5)]) (rest := []) (L := [some (.ref (16 + 3)), some (.int (x3 ||| x5))]) (d' := 3) rfl rfl rfl (Nat.le_of_ble_eq_true rfl) (Nat.le_of_ble_eq_true rfl) rfl (Nat.le_of_ble_eq_true rfl) rfl rfl (zyC97 hp1) ?_
      show zyR _ _ _ _ [some (.ref (16 + 3)), none, some (.int x2), some (.int x3), some (.int x4), some (.int x5), some (.int y0)] [.int p1.1] _ _
      refine zy_24_0 rfl (fun b2 => (show zyR _ _ _ _ [some (.ref (16 + 3)), none, some (.int x2), some (.int x3), some (.int x4), some (.int x5), some (.int y0)] [] _ _ from ?_)) (fun b2 => (show zyR _ _ _ _ [some (.ref (16 + 3)), none, some (.int x2), some (.int x3), some (.int x4), some (.int x5), some (.int y0)] [] _ _ from ?_))
      · replace h := zy_ifp h b2
        exact zy_sub (show zy_le [some (.ref (16 + 3)), none, some (.int x2), some (.int x3), some (.int x4), some (.int x5), none] [some (.ref (16 + 3)), none, some (.int x2), some (.int x3), some (.int x4), some (.int x5), some (.int y0)] from ⟨rfl, ⟨rfl, ⟨rfl, ⟨rfl, ⟨rfl, trivial⟩⟩⟩⟩⟩) (zyC101_85 hk24 h)
      · replace h := zy_ifn h b2
        refine zy_2 rfl rfl (show zyR _ _ _ _ [some (.ref (16 + 3)), none, some (.int x2), some (.int x3), some (.int x4), some (.int x5), some (.int y0)] [.int x5] _ _ from ?_)
        refine zy_23 rfl rfl (show zyR _ _ _ _ [some (.ref (16 + 3)), none, some (.int x2), some (.int x3), some (.int x5), some (.int x5), some (.int y0)] [] _ _ from ?_)
        exact zy_sub (show zy_le [some (.ref (16 + 3)), none, some (.int x2), some (.int x3), some (.int x5), some (.int x5), none] [some (.ref (16 + 3)), none, some (.int x2), some (.int x3), some (.int x5), some (.int x5), some (.int y0)] from ⟨rfl, ⟨rfl, ⟨rfl, ⟨rfl, ⟨rfl, trivial⟩⟩⟩⟩⟩) (zyC101_85 hk24 h)
noncomputable def zyF101_49  (k24 : Int32 → Int32 → Int32 → Int32 → zy_S → Option (Int32 × zy_S)) (x2 : Int32) (x3 : Int32) (x4 : Int32) (x5 : Int32) (s : zy_S) : Option (Int32 × zy_S) :=
zyF101_54 k24 x2 x3 x4 x5 (1 : Int32) s
theorem zyC101_49 {X : zx_X}  {k24 : Int32 → Int32 → Int32 → Int32 → zy_S → Option (Int32 × zy_S)}  (hk24 : ∀ (x2 : Int32) (x3 : Int32) (x4 : Int32) (x5 : Int32) (s : zy_S) (r : Int32) (s' : zy_S), k24 x2 x3 x4 x5 s = some (r, s') → zyR X 4 101 24 [some (.ref (16 + 3)), none, some (.int x2), some (.int x3), some (.int x4), some (.int x5), none] [] s (zyE (some (.int r)) s')) {x2 : Int32} {x3 : Int32} {x4 : Int32} {x5 : Int32} {s : zy_S} {r : Int32} {s' : zy_S}  (h : zyF101_49 k24 x2 x3 x4 x5 s = some (r, s')) : zyR X 4 101 49 [some (.ref (16 + 3)), none, some (.int x2), some (.int x3), some (.int x4), some (.int x5), none] [] s (zyE (some (.int r)) s') := by
  unfold zyF101_49 at h
  refine zy_3 rfl rfl (show zyR _ _ _ _ [some (.ref (16 + 3)), none, some (.int x2), some (.int x3), some (.int x4), some (.int x5), none] [.int (1 : Int32)] _ _ from ?_)
  refine zy_6 rfl (show zyR _ _ _ _ [some (.ref (16 + 3)), none, some (.int x2), some (.int x3), some (.int x4), some (.int x5), none] [.int (1 : Int32)] _ _ from ?_)
  exact zy_sub (show zy_le [some (.ref (16 + 3)), none, some (.int x2), some (.int x3), some (.int x4), some (.int x5), none] [some (.ref (16 + 3)), none, some (.int x2), some (.int x3), some (.int x4), some (.int x5), none] from ⟨rfl, ⟨rfl, ⟨rfl, ⟨rfl, ⟨rfl, trivial⟩⟩⟩⟩⟩) (zyC101_54 hk24 h)
noncomputable def zyF101_24b  (k24 : Int32 → Int32 → Int32 → Int32 → zy_S → Option (Int32 × zy_S)) (x2 : Int32) (x3 : Int32) (x4 : Int32) (x5 : Int32) (s : zy_S) : Option (Int32 × zy_S) :=
if x2 < x5 then
some (x4, s)
else
if x4 = (-1 : Int32) then
zyF101_49 k24 x2 x3 x4 x5 s
else
(zyF63 x5 s).bind fun p5 =>
(zyF63 x4 p5.2).bind fun p6 =>
if p6.1 ≤ p5.1 then
zyF101_54 k24 x2 x3 x4 x5 (0 : Int32) p6.2
else
zyF101_49 k24 x2 x3 x4 x5 p6.2
theorem zyC101_24b {X : zx_X}  {k24 : Int32 → Int32 → Int32 → Int32 → zy_S → Option (Int32 × zy_S)}  (hk24 : ∀ (x2 : Int32) (x3 : Int32) (x4 : Int32) (x5 : Int32) (s : zy_S) (r : Int32) (s' : zy_S), k24 x2 x3 x4 x5 s = some (r, s') → zyR X 4 101 24 [some (.ref (16 + 3)), none, some (.int x2), some (.int x3), some (.int x4), some (.int x5), none] [] s (zyE (some (.int r)) s')) {x2 : Int32} {x3 : Int32} {x4 : Int32} {x5 : Int32} {s : zy_S} {r : Int32} {s' : zy_S}  (h : zyF101_24b k24 x2 x3 x4 x5 s = some (r, s')) : zyR X 4 101 24 [some (.ref (16 + 3)), none, some (.int x2), some (.int x3), some (.int x4), some (.int x5), none] [] s (zyE (some (.int r)) s') := by
  unfold zyF101_24b at h
  refine zy_2 rfl rfl (show zyR _ _ _ _ [some (.ref (16 + 3)), none, some (.int x2), some (.int x3), some (.int x4), some (.int x5), none] [.int x5] _ _ from ?_)
  refine zy_2 rfl rfl (show zyR _ _ _ _ [some (.ref (16 + 3)), none, some (.int x2), some (.int x3), some (.int x4), some (.int x5), none] [.int x2, .int x5] _ _ from ?_)
  refine zy_25_4 rfl (fun b9 => (show zyR _ _ _ _ [some (.ref (16 + 3)), none, some (.int x2), some (.int x3), some (.int x4), some (.int x5), none] [] _ _ from ?_)) (fun b9 => (show zyR _ _ _ _ [some (.ref (16 + 3)), none, some (.int x2), some (.int x3), some (.int x4), some (.int x5), none] [] _ _ from ?_))
  · replace h := zy_ifp h b9
    refine zy_2 rfl rfl (show zyR _ _ _ _ [some (.ref (16 + 3)), none, some (.int x2), some (.int x3), some (.int x4), some (.int x5), none] [.int x4] _ _ from ?_)
    obtain ⟨rfl, rfl⟩ := zy_pi h
    exact zy_4 rfl ⟨rfl, rfl⟩
  · replace h := zy_ifn h b9
    refine zy_2 rfl rfl (show zyR _ _ _ _ [some (.ref (16 + 3)), none, some (.int x2), some (.int x3), some (.int x4), some (.int x5), none] [.int x4] _ _ from ?_)
    refine zy_3 rfl rfl (show zyR _ _ _ _ [some (.ref (16 + 3)), none, some (.int x2), some (.int x3), some (.int x4), some (.int x5), none] [.int (-1 : Int32), .int x4] _ _ from ?_)
    refine zy_25_0 rfl (fun b8 => (show zyR _ _ _ _ [some (.ref (16 + 3)), none, some (.int x2), some (.int x3), some (.int x4), some (.int x5), none] [] _ _ from ?_)) (fun b8 => (show zyR _ _ _ _ [some (.ref (16 + 3)), none, some (.int x2), some (.int x3), some (.int x4), some (.int x5), none] [] _ _ from ?_))
    · replace h := zy_ifp h b8
      exact zy_sub (show zy_le [some (.ref (16 + 3)), none, some (.int x2), some (.int x3), some (.int x4), some (.int x5), none] [some (.ref (16 + 3)), none, some (.int x2), some (.int x3), some (.int x4), some (.int x5), none] from ⟨rfl, ⟨rfl, ⟨rfl, ⟨rfl, ⟨rfl, trivial⟩⟩⟩⟩⟩) (zyC101_49 hk24 h)
    · replace h := zy_ifn h b8
      refine zy_2 rfl rfl (show zyR _ _ _ _ [some (.ref (16 + 3)), none, some (.int x2), some (.int x3), some (.int x4), some (.int x5), none] [.int x5] _ _ from ?_)
      obtain ⟨p5, hp5, h⟩ := zy_bind h
      refine zy_60 (as := [.int x5]) (rest := []) (L := [some (.int x5)]) (d' := 1) rfl rfl (Nat.le_of_ble_eq_true rfl) (Nat.le_of_ble_eq_true rfl) rfl (Nat.le_of_ble_eq_true rfl) rfl rfl (zyC63 hp5) ?_
      show zyR _ _ _ _ [some (.ref (16 + 3)), none, some (.int x2), some (.int x3), some (.int x4), some (.int x5), none] [.int p5.1] _ _
      refine zy_2 rfl rfl (show zyR _ _ _ _ [some (.ref (16 + 3)), none, some (.int x2), some (.int x3), some (.int x4), some (.int x5), none] [.int x4, .int p5.1] _ _ from ?_)
      obtain ⟨p6, hp6, h⟩ := zy_bind h
      refine zy_60 (as := [.int x4]) (rest := [.int p5.1]) (L := [some (.int x4)]) (d' := 1) rfl rfl (Nat.le_of_ble_eq_true rfl) (Nat.le_of_ble_eq_true rfl) rfl (Nat.le_of_ble_eq_true rfl) rfl rfl (zyC63 hp6) ?_
      show zyR _ _ _ _ [some (.ref (16 + 3)), none, some (.int x2), some (.int x3), some (.int x4), some (.int x5), none] [.int p6.1, .int p5.1] _ _
      refine zy_25_3 rfl (fun b7 => (show zyR _ _ _ _ [some (.ref (16 + 3)), none, some (.int x2), some (.int x3), some (.int x4), some (.int x5), none] [] _ _ from ?_)) (fun b7 => (show zyR _ _ _ _ [some (.ref (16 + 3)), none, some (.int x2), some (.int x3), some (.int x4), some (.int x5), none] [] _ _ from ?_))
      · replace h := zy_ifp h b7
        refine zy_3 rfl rfl (show zyR _ _ _ _ [some (.ref (16 + 3)), none, some (.int x2), some (.int x3), some (.int x4), some (.int x5), none] [.int (0 : Int32)] _ _ from ?_)
        exact zy_sub (show zy_le [some (.ref (16 + 3)), none, some (.int x2), some (.int x3), some (.int x4), some (.int x5), none] [some (.ref (16 + 3)), none, some (.int x2), some (.int x3), some (.int x4), some (.int x5), none] from ⟨rfl, ⟨rfl, ⟨rfl, ⟨rfl, ⟨rfl, trivial⟩⟩⟩⟩⟩) (zyC101_54 hk24 h)
      · replace h := zy_ifn h b7
        exact zy_sub (show zy_le [some (.ref (16 + 3)), none, some (.int x2), some (.int x3), some (.int x4), some (.int x5), none] [some (.ref (16 + 3)), none, some (.int x2), some (.int x3), some (.int x4), some (.int x5), none] from ⟨rfl, ⟨rfl, ⟨rfl, ⟨rfl, ⟨rfl, trivial⟩⟩⟩⟩⟩) (zyC101_49 hk24 h)
noncomputable def zyF101_24   (n : Nat) : Int32 → Int32 → Int32 → Int32 → zy_S → Option (Int32 × zy_S) := Nat.rec (fun _ _ _ _ _ => none) (fun _ k24 => zyF101_24b k24) n
theorem zyC101_24 {X : zx_X}     : ∀ (n : Nat) (x2 : Int32) (x3 : Int32) (x4 : Int32) (x5 : Int32) (s : zy_S) (r : Int32) (s' : zy_S), zyF101_24 n x2 x3 x4 x5 s = some (r, s') → zyR X 4 101 24 [some (.ref (16 + 3)), none, some (.int x2), some (.int x3), some (.int x4), some (.int x5), none] [] s (zyE (some (.int r)) s')
  | 0, _, _, _, _ => by
    intro s r s'  h
    have h : (none : Option (Int32 × zy_S)) = some (r, s') := h
    cases h
  | n + 1, x2, x3, x4, x5 => by
    intro s r s'  h
    exact zyC101_24b (k24 := zyF101_24 n) (fun x2 x3 x4 x5 s r s'  h => zyC101_24  n x2 x3 x4 x5 s r s'  h) h
noncomputable def zyF101   (x1 : Int32) (s : zy_S) : Option (Int32 × zy_S) :=
(zyF95 x1 s).bind fun p10 =>
(zyF51 p10.2).bind fun p11 =>
zyF101_24 zy_fu p10.1 (p11.1 &&& (p10.1 ^^^ (-1 : Int32))) (-1 : Int32) (0 : Int32) p11.2
theorem zyC101 {X : zx_X}     {x1 : Int32} {s : zy_S} {r : Int32} {s' : zy_S}  (h : zyF101 x1 s = some (r, s')) : zyR X 4 101 0 [some (.ref (16 + 3)), some (.int x1), none, none, none, none, none] [] s (zyE (some (.int r)) s') := by
  unfold zyF101 at h
  refine zy_0 rfl rfl (show zyR _ _ _ _ [some (.ref (16 + 3)), some (.int x1), none, none, none, none, none] [.ref (16 + 3)] _ _ from ?_)
  refine zy_2 rfl rfl (show zyR _ _ _ _ [some (.ref (16 + 3)), some (.int x1), none, none, none, none, none] [.int x1, .ref (16 + 3)] _ _ from ?_)
  obtain ⟨p10, hp10, h⟩ := zy_bind h
  refine zy_5 (c := 16) (as := [.int x1]) (rest := []) (L := [some (.ref (16 + 3)), some (.int x1), none, none]) (d' := 3) rfl rfl rfl (Nat.le_of_ble_eq_true rfl) (Nat.le_of_ble_eq_true rfl) rfl (Nat.le_of_ble_eq_true rfl) rfl rfl (zyC95 hp10) ?_
  show zyR _ _ _ _ [some (.ref (16 + 3)), some (.int x1), none, none, none, none, none] [.int p10.1] _ _
  refine zy_23 rfl rfl (show zyR _ _ _ _ [some (.ref (16 + 3)), some (.int x1), some (.int p10.1), none, none, none, none] [] _ _ from ?_)
  refine zy_0 rfl rfl (show zyR _ _ _ _ [some (.ref (16 + 3)), some (.int x1), some (.int p10.1), none, none, none, none] [.ref (16 + 3)] _ _ from ?_)
  refine zy_1r (c := 16) rfl rfl rfl (show zyR _ _ _ _ [some (.ref (16 + 3)), some (.int x1), some (.int p10.1), none, none, none, none] [.ref (1 + 3)] _ _ from ?_)
  obtain ⟨p11, hp11, h⟩ := zy_bind h
  refine zy_5 (c := 1) (as := []) (rest := []) (L := [some (.ref (1 + 3))]) (d' := 1) rfl rfl rfl (Nat.le_of_ble_eq_true rfl) (Nat.le_of_ble_eq_true rfl) rfl (Nat.le_of_ble_eq_true rfl) rfl rfl (zyC51 hp11) ?_
  show zyR _ _ _ _ [some (.ref (16 + 3)), some (.int x1), some (.int p10.1), none, none, none, none] [.int p11.1] _ _
  refine zy_2 rfl rfl (show zyR _ _ _ _ [some (.ref (16 + 3)), some (.int x1), some (.int p10.1), none, none, none, none] [.int p10.1, .int p11.1] _ _ from ?_)
  refine zy_3 rfl rfl (show zyR _ _ _ _ [some (.ref (16 + 3)), some (.int x1), some (.int p10.1), none, none, none, none] [.int (-1 : Int32), .int p10.1, .int p11.1] _ _ from ?_)
  refine zy_15 rfl (show zyR _ _ _ _ [some (.ref (16 + 3)), some (.int x1), some (.int p10.1), none, none, none, none] [.int (p10.1 ^^^ (-1 : Int32)), .int p11.1] _ _ from ?_)
  refine zy_13 rfl (show zyR _ _ _ _ [some (.ref (16 + 3)), some (.int x1), some (.int p10.1), none, none, none, none] [.int (p11.1 &&& (p10.1 ^^^ (-1 : Int32)))] _ _ from ?_)
  refine zy_23 rfl rfl (show zyR _ _ _ _ [some (.ref (16 + 3)), some (.int x1), some (.int p10.1), some (.int (p11.1 &&& (p10.1 ^^^ (-1 : Int32)))), none, none, none] [] _ _ from ?_)
  refine zy_3 rfl rfl (show zyR _ _ _ _ [some (.ref (16 + 3)), some (.int x1), some (.int p10.1), some (.int (p11.1 &&& (p10.1 ^^^ (-1 : Int32)))), none, none, none] [.int (-1 : Int32)] _ _ from ?_)
  refine zy_23 rfl rfl (show zyR _ _ _ _ [some (.ref (16 + 3)), some (.int x1), some (.int p10.1), some (.int (p11.1 &&& (p10.1 ^^^ (-1 : Int32)))), some (.int (-1 : Int32)), none, none] [] _ _ from ?_)
  refine zy_3 rfl rfl (show zyR _ _ _ _ [some (.ref (16 + 3)), some (.int x1), some (.int p10.1), some (.int (p11.1 &&& (p10.1 ^^^ (-1 : Int32)))), some (.int (-1 : Int32)), none, none] [.int (0 : Int32)] _ _ from ?_)
  refine zy_23 rfl rfl (show zyR _ _ _ _ [some (.ref (16 + 3)), some (.int x1), some (.int p10.1), some (.int (p11.1 &&& (p10.1 ^^^ (-1 : Int32)))), some (.int (-1 : Int32)), some (.int (0 : Int32)), none] [] _ _ from ?_)
  exact zy_sub (show zy_le [some (.ref (16 + 3)), none, some (.int p10.1), some (.int (p11.1 &&& (p10.1 ^^^ (-1 : Int32)))), some (.int (-1 : Int32)), some (.int (0 : Int32)), none] [some (.ref (16 + 3)), some (.int x1), some (.int p10.1), some (.int (p11.1 &&& (p10.1 ^^^ (-1 : Int32)))), some (.int (-1 : Int32)), some (.int (0 : Int32)), none] from ⟨rfl, ⟨rfl, ⟨rfl, ⟨rfl, ⟨rfl, trivial⟩⟩⟩⟩⟩) (zyC101_24 zy_fu p10.1 (p11.1 &&& (p10.1 ^^^ (-1 : Int32))) (-1 : Int32) (0 : Int32) p11.2 _ _ h)
