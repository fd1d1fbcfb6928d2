/-! PART 41.109: methods as functions. Made by wip/v4/dcp.py. -/
/-! NineOpinions$Thought.bestStruckFor(I)I -/
noncomputable def zyF85_87  (k11 : Int32 → Int32 → Int32 → Int32 → zy_S → Option (Int32 × zy_S)) (x1 : Int32) (x2 : Int32) (x3 : Int32) (x4 : Int32) (s : zy_S) : Option (Int32 × zy_S) :=
k11 x1 x2 x3 (x4 + (1 : Int32)) s
theorem zyC85_87 {X : zx_X}  {k11 : Int32 → Int32 → Int32 → Int32 → zy_S → Option (Int32 × zy_S)}  (hk11 : ∀ (x1 : Int32) (x2 : Int32) (x3 : Int32) (x4 : Int32) (s : zy_S) (r : Int32) (s' : zy_S), k11 x1 x2 x3 x4 s = some (r, s') → zyR X 7 85 11 [some (.ref (12 + 3)), some (.int x1), some (.int x2), some (.int x3), some (.int x4), none] [] s (zyE (some (.int r)) s')) {x1 : Int32} {x2 : Int32} {x3 : Int32} {x4 : Int32} {s : zy_S} {r : Int32} {s' : zy_S}  (h : zyF85_87 k11 x1 x2 x3 x4 s = some (r, s')) : zyR X 7 85 87 [some (.ref (12 + 3)), some (.int x1), some (.int x2), some (.int x3), some (.int x4), none] [] s (zyE (some (.int r)) s') := by
  unfold zyF85_87 at h
  refine zy_22 rfl rfl rfl rfl (show zyR _ _ _ _ [some (.ref (12 + 3)), some (.int x1), some (.int x2), some (.int x3), some (.int (x4 + (1 : Int32))), none] [] _ _ from ?_)
  refine zy_6 rfl (show zyR _ _ _ _ [some (.ref (12 + 3)), some (.int x1), some (.int x2), some (.int x3), some (.int (x4 + (1 : Int32))), none] [] _ _ from ?_)
  exact zy_sub (show zy_le [some (.ref (12 + 3)), some (.int x1), some (.int x2), some (.int x3), some (.int (x4 + (1 : Int32))), none] [some (.ref (12 + 3)), some (.int x1), some (.int x2), some (.int x3), some (.int (x4 + (1 : Int32))), none] from ⟨rfl, ⟨rfl, ⟨rfl, ⟨rfl, ⟨rfl, trivial⟩⟩⟩⟩⟩) (hk11 x1 x2 x3 (x4 + (1 : Int32)) s _ _ h)
noncomputable def zyF85_81  (k11 : Int32 → Int32 → Int32 → Int32 → zy_S → Option (Int32 × zy_S)) (x1 : Int32) (x4 : Int32) (x5 : Int32) (s : zy_S) : Option (Int32 × zy_S) :=
zyF85_87 k11 x1 x4 x5 x4 s
theorem zyC85_81 {X : zx_X}  {k11 : Int32 → Int32 → Int32 → Int32 → zy_S → Option (Int32 × zy_S)}  (hk11 : ∀ (x1 : Int32) (x2 : Int32) (x3 : Int32) (x4 : Int32) (s : zy_S) (r : Int32) (s' : zy_S), k11 x1 x2 x3 x4 s = some (r, s') → zyR X 7 85 11 [some (.ref (12 + 3)), some (.int x1), some (.int x2), some (.int x3), some (.int x4), none] [] s (zyE (some (.int r)) s')) {x1 : Int32} {x4 : Int32} {x5 : Int32} {s : zy_S} {r : Int32} {s' : zy_S}  (h : zyF85_81 k11 x1 x4 x5 s = some (r, s')) : zyR X 7 85 81 [some (.ref (12 + 3)), some (.int x1), none, none, some (.int x4), some (.int x5)] [] s (zyE (some (.int r)) s') := by
  unfold zyF85_81 at h
  refine zy_2 rfl rfl (show zyR _ _ _ _ [some (.ref (12 + 3)), some (.int x1), none, none, some (.int x4), some (.int x5)] [.int x4] _ _ from ?_)
  refine zy_23 rfl rfl (show zyR _ _ _ _ [some (.ref (12 + 3)), some (.int x1), some (.int x4), none, some (.int x4), some (.int x5)] [] _ _ from ?_)
  refine zy_2 rfl rfl (show zyR _ _ _ _ [some (.ref (12 + 3)), some (.int x1), some (.int x4), none, some (.int x4), some (.int x5)] [.int x5] _ _ from ?_)
  refine zy_23 rfl rfl (show zyR _ _ _ _ [some (.ref (12 + 3)), some (.int x1), some (.int x4), some (.int x5), some (.int x4), some (.int x5)] [] _ _ from ?_)
  exact zy_sub (show zy_le [some (.ref (12 + 3)), some (.int x1), some (.int x4), some (.int x5), some (.int x4), none] [some (.ref (12 + 3)), some (.int x1), some (.int x4), some (.int x5), some (.int x4), some (.int x5)] from ⟨rfl, ⟨rfl, ⟨rfl, ⟨rfl, ⟨rfl, trivial⟩⟩⟩⟩⟩) (zyC85_87 hk11 h)
noncomputable def zyF85_11b  (k11 : Int32 → Int32 → Int32 → Int32 → zy_S → Option (Int32 × zy_S)) (x1 : Int32) (x2 : Int32) (x3 : Int32) (x4 : Int32) (s : zy_S) : Option (Int32 × zy_S) :=
if (24 : Int32) ≤ x4 then
some (x2, s)
else
(zyF86 x1 s).bind fun p1 =>
if p1.1 ≠ 0 then
some (x2, p1.2)
else
(zyF86 x4 p1.2).bind fun p2 =>
if p2.1 = 0 then
zyF85_87 k11 x1 x2 x3 x4 p2.2
else
(zyF54 (((p2.2.1 1 3) ^^^ ((1 : Int32) <<< (x4 &&& 31))) ||| ((1 : Int32) <<< (x1 &&& 31))) (p2.2.1 1 3) p2.2).bind fun p3 =>
if x2 = (-1 : Int32) then
zyF85_81 k11 x1 x4 p3.1 p3.2
else
if x3 ≤ p3.1 then
zyF85_87 k11 x1 x2 x3 x4 p3.2
else
zyF85_81 k11 x1 x4 p3.1 p3.2
theorem zyC85_11b {X : zx_X}  {k11 : Int32 → Int32 → Int32 → Int32 → zy_S → Option (Int32 × zy_S)}  (hk11 : ∀ (x1 : Int32) (x2 : Int32) (x3 : Int32) (x4 : Int32) (s : zy_S) (r : Int32) (s' : zy_S), k11 x1 x2 x3 x4 s = some (r, s') → zyR X 7 85 11 [some (.ref (12 + 3)), some (.int x1), some (.int x2), some (.int x3), some (.int x4), none] [] s (zyE (some (.int r)) s')) {x1 : Int32} {x2 : Int32} {x3 : Int32} {x4 : Int32} {s : zy_S} {r : Int32} {s' : zy_S}  (h : zyF85_11b k11 x1 x2 x3 x4 s = some (r, s')) : zyR X 7 85 11 [some (.ref (12 + 3)), some (.int x1), some (.int x2), some (.int x3), some (.int x4), none] [] s (zyE (some (.int r)) s') := by
  unfold zyF85_11b at h
  refine zy_2 rfl rfl (show zyR _ _ _ _ [some (.ref (12 + 3)), some (.int x1), some (.int x2), some (.int x3), some (.int x4), none] [.int x4] _ _ from ?_)
  refine zy_3 rfl rfl (show zyR _ _ _ _ [some (.ref (12 + 3)), some (.int x1), some (.int x2), some (.int x3), some (.int x4), none] [.int (24 : Int32), .int x4] _ _ from ?_)
  refine zy_25_3 rfl (fun b8 => (show zyR _ _ _ _ [some (.ref (12 + 3)), some (.int x1), some (.int x2), some (.int x3), some (.int x4), none] [] _ _ from ?_)) (fun b8 => (show zyR _ _ _ _ [some (.ref (12 + 3)), some (.int x1), some (.int x2), some (.int x3), some (.int x4), none] [] _ _ from ?_))
  · replace h := zy_ifp h b8
    refine zy_2 rfl rfl (show zyR _ _ _ _ [some (.ref (12 + 3)), some (.int x1), some (.int x2), some (.int x3), some (.int x4), none] [.int x2] _ _ from ?_)
    obtain ⟨rfl, rfl⟩ := zy_pi h
    exact zy_4 rfl ⟨rfl, rfl⟩
  · replace h := zy_ifn h b8
    refine zy_0 rfl rfl (show zyR _ _ _ _ [some (.ref (12 + 3)), some (.int x1), some (.int x2), some (.int x3), some (.int x4), none] [.ref (12 + 3)] _ _ from ?_)
    refine zy_1r (c := 12) rfl rfl rfl (show zyR _ _ _ _ [some (.ref (12 + 3)), some (.int x1), some (.int x2), some (.int x3), some (.int x4), none] [.ref (1 + 3)] _ _ from ?_)
    refine zy_2 rfl rfl (show zyR _ _ _ _ [some (.ref (12 + 3)), some (.int x1), some (.int x2), some (.int x3), some (.int x4), none] [.int x1, .ref (1 + 3)] _ _ from ?_)
    obtain ⟨p1, hp1, h⟩ := zy_bind h
    refine zy_5 (c := 1) (as := [.int x1]) (rest := []) (L := [some (.ref (1 + 3)), some (.int x1)]) (d' := 2) rfl rfl rfl (Nat.le_of_ble_eq_true rfl) (Nat.le_of_ble_eq_true rfl) rfl (Nat.le_of_ble_eq_true rfl) rfl rfl (zyC86 hp1) ?_
    show zyR _ _ _ _ [some (.ref (12 + 3)), some (.int x1), some (.int x2), some (.int x3), some (.int x4), none] [.int p1.1] _ _
    refine zy_24_1 rfl (fun b7 => (show zyR _ _ _ _ [some (.ref (12 + 3)), some (.int x1), some (.int x2), some (.int x3), some (.int x4), none] [] _ _ from ?_)) (fun b7 => (show zyR _ _ _ _ [some (.ref (12 + 3)), some (.int x1), some (.int x2), some (.int x3), some (.int x4), none] [] _ _ from ?_))
    · replace h := zy_ifp h b7
      refine zy_2 rfl rfl (show zyR _ _ _ _ [some (.ref (12 + 3)), some (.int x1), some (.int x2), some (.int x3), some (.int x4), none] [.int x2] _ _ from ?_)
      obtain ⟨rfl, rfl⟩ := zy_pi h
      exact zy_4 rfl ⟨rfl, rfl⟩
    · replace h := zy_ifn h b7
      refine zy_0 rfl rfl (show zyR _ _ _ _ [some (.ref (12 + 3)), some (.int x1), some (.int x2), some (.int x3), some (.int x4), none] [.ref (12 + 3)] _ _ from ?_)
      refine zy_1r (c := 12) rfl rfl rfl (show zyR _ _ _ _ [some (.ref (12 + 3)), some (.int x1), some (.int x2), some (.int x3), some (.int x4), none] [.ref (1 + 3)] _ _ from ?_)
      refine zy_2 rfl rfl (show zyR _ _ _ _ [some (.ref (12 + 3)), some (.int x1), some (.int x2), some (.int x3), some (.int x4), none] [.int x4, .ref (1 + 3)] _ _ from ?_)
      obtain ⟨p2, hp2, h⟩ := zy_bind h
      refine zy_5 (c := 1) (as := [.int x4]) (rest := []) (L := [some (.ref (1 + 3)), some (.int x4)]) (d' := 2) rfl rfl rfl (Nat.le_of_ble_eq_true rfl) (Nat.le_of_ble_eq_true rfl) rfl (Nat.le_of_ble_eq_true rfl) rfl rfl (zyC86 hp2) ?_
      show zyR _ _ _ _ [some (.ref (12 + 3)), some (.int x1), some (.int x2), some (.int x3), some (.int x4), none] [.int p2.1] _ _
      refine zy_24_0 rfl (fun b6 => (show zyR _ _ _ _ [some (.ref (12 + 3)), some (.int x1), some (.int x2), some (.int x3), some (.int x4), none] [] _ _ from ?_)) (fun b6 => (show zyR _ _ _ _ [some (.ref (12 + 3)), some (.int x1), some (.int x2), some (.int x3), some (.int x4), none] [] _ _ from ?_))
      · replace h := zy_ifp h b6
        exact zy_sub (show zy_le [some (.ref (12 + 3)), some (.int x1), some (.int x2), some (.int x3), some (.int x4), none] [some (.ref (12 + 3)), some (.int x1), some (.int x2), some (.int x3), some (.int x4), none] from ⟨rfl, ⟨rfl, ⟨rfl, ⟨rfl, ⟨rfl, trivial⟩⟩⟩⟩⟩) (zyC85_87 hk11 h)
      · replace h := zy_ifn h b6
        refine zy_0 rfl rfl (show zyR _ _ _ _ [some (.ref (12 + 3)), some (.int x1), some (.int x2), some (.int x3), some (.int x4), none] [.ref (12 + 3)] _ _ from ?_)
        refine zy_0 rfl rfl (show zyR _ _ _ _ [some (.ref (12 + 3)), some (.int x1), some (.int x2), some (.int x3), some (.int x4), none] [.ref (12 + 3), .ref (12 + 3)] _ _ from ?_)
        refine zy_1r (c := 12) rfl rfl rfl (show zyR _ _ _ _ [some (.ref (12 + 3)), some (.int x1), some (.int x2), some (.int x3), some (.int x4), none] [.ref (1 + 3), .ref (12 + 3)] _ _ from ?_)
        refine zy_1 (c := 1) rfl rfl rfl (show zyR _ _ _ _ [some (.ref (12 + 3)), some (.int x1), some (.int x2), some (.int x3), some (.int x4), none] [.int (p2.2.1 1 3), .ref (12 + 3)] _ _ from ?_)
        refine zy_3 rfl rfl (show zyR _ _ _ _ [some (.ref (12 + 3)), some (.int x1), some (.int x2), some (.int x3), some (.int x4), none] [.int (1 : Int32), .int (p2.2.1 1 3), .ref (12 + 3)] _ _ from ?_)
        refine zy_2 rfl rfl (show zyR _ _ _ _ [some (.ref (12 + 3)), some (.int x1), some (.int x2), some (.int x3), some (.int x4), none] [.int x4, .int (1 : Int32), .int (p2.2.1 1 3), .ref (12 + 3)] _ _ from ?_)
        refine zy_16 rfl (show zyR _ _ _ _ [some (.ref (12 + 3)), some (.int x1), some (.int x2), some (.int x3), some (.int x4), none] [.int ((1 : Int32) <<< (x4 &&& 31)), .int (p2.2.1 1 3), .ref (12 + 3)] _ _ from ?_)
        refine zy_15 rfl (show zyR _ _ _ _ [some (.ref (12 + 3)), some (.int x1), some (.int x2), some (.int x3), some (.int x4), none] [.int ((p2.2.1 1 3) ^^^ ((1 : Int32) <<< (x4 &&& 31))), .ref (12 + 3)] _ _ from ?_)
        refine zy_3 rfl rfl (show zyR _ _ _ _ [some (.ref (12 + 3)), some (.int x1), some (.int x2), some (.int x3), some (.int x4), none] [.int (1 : Int32), .int ((p2.2.1 1 3) ^^^ ((1 : Int32) <<< (x4 &&& 31))), .ref (12 + 3)] _ _ from ?_)
        refine zy_2 rfl rfl (show zyR _ _ _ _ [some (.ref (12 + 3)), some (.int x1), some (.int x2), some (.int x3), some (.int x4), none] [.int x1, .int (1 : Int32), .int ((p2.2.1 1 3) ^^^ ((1 : Int32) <<< (x4 &&& 31))), .ref (12 + 3)] _ _ from ?_)
        refine zy_16 rfl (show zyR _ _ _ _ [some (.ref (12 + 3)), some (.int x1), some (.int x2), some (.int x3), some (.int x4), none] [.int ((1 : Int32) <<< (x1 &&& 31)), .int ((p2.2.1 1 3) ^^^ ((1 : Int32) <<< (x4 &&& 31))), .ref (12 + 3)] _ _ from ?_)
        refine zy_14 rfl (show zyR _ _ _ _ [some (.ref (12 + 3)), some (.int x1), some (.int x2), some (.int x3), some (.int x4), none] [.int (((p2.2.1 1 3) ^^^ ((1 : Int32) <<< (x4 &&& 31))) ||| ((1 : Int32) <<< (x1 &&& 31))), .ref (12 + 3)] _ _ from ?_)
        refine zy_0 rfl rfl (show zyR _ _ _ _ [some (.ref (12 + 3)), some (.int x1), some (.int x2), some (.int x3), some (.int x4), none] [.ref (12 + 3), .int (((p2.2.1 1 3) ^^^ ((1 : Int32) <<< (x4 &&& 31))) ||| ((1 : Int32) <<< (x1 &&& 31))), .ref (12 + 3)] _ _ from ?_)
        refine zy_1r (c := 12) rfl rfl rfl (show zyR _ _ _ _ [some (.ref (12 + 3)), some (.int x1), some (.int x2), some (.int x3), some (.int x4), none] [.ref (1 + 3), .int (((p2.2.1 1 3) ^^^ ((1 : Int32) <<< (x4 &&& 31))) ||| ((1 : Int32) <<< (x1 &&& 31))), .ref (12 + 3)] _ _ from ?_)
        refine zy_1 (c := 1) rfl rfl rfl (show zyR _ _ _ _ [some (.ref (12 + 3)), some (.int x1), some (.int x2), some (.int x3), some (.int x4), none] [.int (p2.2.1 1 3), .int (((p2.2.1 1 3) ^^^ ((1 : Int32) <<< (x4 &&& 31))) ||| ((1 : Int32) <<< (x1 &&& 31))), .ref (12 + 3)] _ _ from ?_)
        obtain ⟨p3, hp3, h⟩ := zy_bind h
        refine zy_5 (c := 12) (as := [.int (((p2.2.1 1 3) ^^^ ((1 : Int32) <<< (x4 &&& 31))) ||| ((1 : Int32) <<< (x1 &&& 31))), .int (p2.2.1 1 3)]) (rest := []) (L := [some (.ref (12 + 3)), some (.int (((p2.2.1 1 3) ^^^ ((1 : Int32) <<< (x4 &&& 31))) ||| ((1 : Int32) <<< (x1 &&& 31)))), some (.int (p2.2.1 1 3)), none, none]) (d' := 6) rfl rfl rfl (Nat.le_of_ble_eq_true rfl) (Nat.le_of_ble_eq_true rfl) rfl (Nat.le_of_ble_eq_true rfl) rfl rfl (zyC54 hp3) ?_
        show zyR _ _ _ _ [some (.ref (12 + 3)), some (.int x1), some (.int x2), some (.int x3), some (.int x4), none] [.int p3.1] _ _
        refine zy_23 rfl rfl (show zyR _ _ _ _ [some (.ref (12 + 3)), some (.int x1), some (.int x2), some (.int x3), some (.int x4), some (.int p3.1)] [] _ _ from ?_)
        refine zy_2 rfl rfl (show zyR _ _ _ _ [some (.ref (12 + 3)), some (.int x1), some (.int x2), some (.int x3), some (.int x4), some (.int p3.1)] [.int x2] _ _ from ?_)
        refine zy_3 rfl rfl (show zyR _ _ _ _ [some (.ref (12 + 3)), some (.int x1), some (.int x2), some (.int x3), some (.int x4), some (.int p3.1)] [.int (-1 : Int32), .int x2] _ _ from ?_)
        refine zy_25_0 rfl (fun b5 => (show zyR _ _ _ _ [some (.ref (12 + 3)), some (.int x1), some (.int x2), some (.int x3), some (.int x4), some (.int p3.1)] [] _ _ from ?_)) (fun b5 => (show zyR _ _ _ _ [some (.ref (12 + 3)), some (.int x1), some (.int x2), some (.int x3), some (.int x4), some (.int p3.1)] [] _ _ from ?_))
        · replace h := zy_ifp h b5
          exact zy_sub (show zy_le [some (.ref (12 + 3)), some (.int x1), none, none, some (.int x4), some (.int p3.1)] [some (.ref (12 + 3)), some (.int x1), some (.int x2), some (.int x3), some (.int x4), some (.int p3.1)] from ⟨rfl, ⟨rfl, ⟨rfl, ⟨rfl, trivial⟩⟩⟩⟩) (zyC85_81 hk11 h)
        · replace h := zy_ifn h b5
          refine zy_2 rfl rfl (show zyR _ _ _ _ [some (.ref (12 + 3)), some (.int x1), some (.int x2), some (.int x3), some (.int x4), some (.int p3.1)] [.int p3.1] _ _ from ?_)
          refine zy_2 rfl rfl (show zyR _ _ _ _ [some (.ref (12 + 3)), some (.int x1), some (.int x2), some (.int x3), some (.int x4), some (.int p3.1)] [.int x3, .int p3.1] _ _ from ?_)
          refine zy_25_3 rfl (fun b4 => (show zyR _ _ _ _ [some (.ref (12 + 3)), some (.int x1), some (.int x2), some (.int x3), some (.int x4), some (.int p3.1)] [] _ _ from ?_)) (fun b4 => (show zyR _ _ _ _ [some (.ref (12 + 3)), some (.int x1), some (.int x2), some (.int x3), some (.int x4), some (.int p3.1)] [] _ _ from ?_))
          · replace h := zy_ifp h b4
            exact zy_sub (show zy_le [some (.ref (12 + 3)), some (.int x1), some (.int x2), some (.int x3), some (.int x4), none] [some (.ref (12 + 3)), some (.int x1), some (.int x2), some (.int x3), some (.int x4), some (.int p3.1)] from ⟨rfl, ⟨rfl, ⟨rfl, ⟨rfl, ⟨rfl, trivial⟩⟩⟩⟩⟩) (zyC85_87 hk11 h)
          · replace h := zy_ifn h b4
            exact zy_sub (show zy_le [some (.ref (12 + 3)), some (.int x1), none, none, some (.int x4), some (.int p3.1)] [some (.ref (12 + 3)), some (.int x1), some (.int x2), some (.int x3), some (.int x4), some (.int p3.1)] from ⟨rfl, ⟨rfl, ⟨rfl, ⟨rfl, trivial⟩⟩⟩⟩) (zyC85_81 hk11 h)
noncomputable def zyF85_11   (n : Nat) : Int32 → Int32 → Int32 → Int32 → zy_S → Option (Int32 × zy_S) := Nat.rec (fun _ _ _ _ _ => none) (fun _ k11 => zyF85_11b k11) n
theorem zyC85_11 {X : zx_X}     : ∀ (n : Nat) (x1 : Int32) (x2 : Int32) (x3 : Int32) (x4 : Int32) (s : zy_S) (r : Int32) (s' : zy_S), zyF85_11 n x1 x2 x3 x4 s = some (r, s') → zyR X 7 85 11 [some (.ref (12 + 3)), some (.int x1), some (.int x2), some (.int x3), some (.int x4), none] [] s (zyE (some (.int r)) s')
  | 0, _, _, _, _ => by
    intro s r s'  h
    have h : (none : Option (Int32 × zy_S)) = some (r, s') := h
    cases h
  | n + 1, x1, x2, x3, x4 => by
    intro s r s'  h
    exact zyC85_11b (k11 := zyF85_11 n) (fun x1 x2 x3 x4 s r s'  h => zyC85_11  n x1 x2 x3 x4 s r s'  h) h
noncomputable def zyF85   (x1 : Int32) (s : zy_S) : Option (Int32 × zy_S) :=
(zyF74 s).bind fun p9 =>
zyF85_11 zy_fu x1 (-1 : Int32) (0 : Int32) (0 : Int32) p9.2
theorem zyC85 {X : zx_X}     {x1 : Int32} {s : zy_S} {r : Int32} {s' : zy_S}  (h : zyF85 x1 s = some (r, s')) : zyR X 7 85 0 [some (.ref (12 + 3)), some (.int x1), none, none, none, none] [] s (zyE (some (.int r)) s') := by
  unfold zyF85 at h
  refine zy_0 rfl rfl (show zyR _ _ _ _ [some (.ref (12 + 3)), some (.int x1), none, none, none, none] [.ref (12 + 3)] _ _ from ?_)
  obtain ⟨p9, hp9, h⟩ := zy_bind h
  refine zy_5 (c := 12) (as := []) (rest := []) (L := [some (.ref (12 + 3))]) (d' := 2) rfl rfl rfl (Nat.le_of_ble_eq_true rfl) (Nat.le_of_ble_eq_true rfl) rfl (Nat.le_of_ble_eq_true rfl) rfl rfl (zyC74 hp9) ?_
  show zyR _ _ _ _ [some (.ref (12 + 3)), some (.int x1), none, none, none, none] [] _ _
  refine zy_3 rfl rfl (show zyR _ _ _ _ [some (.ref (12 + 3)), some (.int x1), none, none, none, none] [.int (-1 : Int32)] _ _ from ?_)
  refine zy_23 rfl rfl (show zyR _ _ _ _ [some (.ref (12 + 3)), some (.int x1), some (.int (-1 : Int32)), none, none, none] [] _ _ from ?_)
  refine zy_3 rfl rfl (show zyR _ _ _ _ [some (.ref (12 + 3)), some (.int x1), some (.int (-1 : Int32)), none, none, none] [.int (0 : Int32)] _ _ from ?_)
  refine zy_23 rfl rfl (show zyR _ _ _ _ [some (.ref (12 + 3)), some (.int x1), some (.int (-1 : Int32)), some (.int (0 : Int32)), none, none] [] _ _ from ?_)
  refine zy_3 rfl rfl (show zyR _ _ _ _ [some (.ref (12 + 3)), some (.int x1), some (.int (-1 : Int32)), some (.int (0 : Int32)), none, none] [.int (0 : Int32)] _ _ from ?_)
  refine zy_23 rfl rfl (show zyR _ _ _ _ [some (.ref (12 + 3)), some (.int x1), some (.int (-1 : Int32)), some (.int (0 : Int32)), some (.int (0 : Int32)), none] [] _ _ from ?_)
  exact zy_sub (show zy_le [some (.ref (12 + 3)), some (.int x1), some (.int (-1 : Int32)), some (.int (0 : Int32)), some (.int (0 : Int32)), none] [some (.ref (12 + 3)), some (.int x1), some (.int (-1 : Int32)), some (.int (0 : Int32)), some (.int (0 : Int32)), none] from ⟨rfl, ⟨rfl, ⟨rfl, ⟨rfl, ⟨rfl, trivial⟩⟩⟩⟩⟩) (zyC85_11 zy_fu x1 (-1 : Int32) (0 : Int32) (0 : Int32) p9.2 _ _ h)
/-! NineOpinions.lineOrNot(I)I -/
noncomputable def zyF87   (x0 : Int32) (s : zy_S) : Option (Int32 × zy_S) :=
if x0 ≠ (-1 : Int32) then
some (x0, s)
else
some ((-2 : Int32), s)
theorem zyC87 {X : zx_X}     {x0 : Int32} {s : zy_S} {r : Int32} {s' : zy_S}  (h : zyF87 x0 s = some (r, s')) : zyR X 1 87 0 [some (.int x0)] [] s (zyE (some (.int r)) s') := by
  unfold zyF87 at h
  refine zy_2 rfl rfl (show zyR _ _ _ _ [some (.int x0)] [.int x0] _ _ from ?_)
  refine zy_3 rfl rfl (show zyR _ _ _ _ [some (.int x0)] [.int (-1 : Int32), .int x0] _ _ from ?_)
  refine zy_25_1 rfl (fun b1 => (show zyR _ _ _ _ [some (.int x0)] [] _ _ from ?_)) (fun b1 => (show zyR _ _ _ _ [some (.int x0)] [] _ _ from ?_))
  · replace h := zy_ifp h b1
    refine zy_2 rfl rfl (show zyR _ _ _ _ [some (.int x0)] [.int x0] _ _ from ?_)
    obtain ⟨rfl, rfl⟩ := zy_pi h
    exact zy_4 rfl ⟨rfl, rfl⟩
  · replace h := zy_ifn h b1
    refine zy_3 rfl rfl (show zyR _ _ _ _ [some (.int x0)] [.int (-2 : Int32)] _ _ from ?_)
    refine zy_6 rfl (show zyR _ _ _ _ [some (.int x0)] [.int (-2 : Int32)] _ _ from ?_)
    obtain ⟨rfl, rfl⟩ := zy_pi h
    exact zy_4 rfl ⟨rfl, rfl⟩
