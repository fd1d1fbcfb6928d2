/-! PART 41.90: methods as functions. Made by wip/v4/dcp.py. -/
/-! NineOpinionsModel.tradesAs(II)I, over what it calls -/
noncomputable def zyF253_36 (g253 : Int32 → Int32 → zy_S → Option (Int32 × zy_S))  (x2 : Int32) (s : zy_S) : Option (Int32 × zy_S) :=
(zyF251 (50 : Int32) s).bind fun p1 =>
(g253 (1 : Int32) x2 p1.2).bind fun p2 =>
(zyF250 (p2.2.1 43 32) (2 : Int32) p2.2).bind fun p3 =>
some ((p2.1 - p3.1), p3.2)
theorem zyC253_36 {X : zx_X} {d : Nat} {g253 : Int32 → Int32 → zy_S → Option (Int32 × zy_S)}  (hd : 101 ≤ d) (hg253 : ∀ (x1 : Int32) (x2 : Int32) (s : zy_S) (r : Int32) (s' : zy_S), g253 x1 x2 s = some (r, s') → zyR X d 253 0 [some (.ref (43 + 3)), some (.int x1), some (.int x2), none] [] s (zyE (some (.int r)) s'))  {x2 : Int32} {s : zy_S} {r : Int32} {s' : zy_S}  (h : zyF253_36 g253 x2 s = some (r, s')) : zyR X (d + 1) 253 36 [some (.ref (43 + 3)), none, some (.int x2), none] [] s (zyE (some (.int r)) s') := by
  unfold zyF253_36 at h
  refine zy_0 rfl rfl (show zyR _ _ _ _ [some (.ref (43 + 3)), none, some (.int x2), none] [.ref (43 + 3)] _ _ from ?_)
  refine zy_3 rfl rfl (show zyR _ _ _ _ [some (.ref (43 + 3)), none, some (.int x2), none] [.int (50 : Int32), .ref (43 + 3)] _ _ from ?_)
  obtain ⟨p1, hp1, h⟩ := zy_bind h
  refine zy_5 (c := 43) (as := [.int (50 : Int32)]) (rest := []) (L := [some (.ref (43 + 3)), some (.int (50 : Int32))]) (d' := 1) rfl rfl rfl (Nat.le_of_ble_eq_true rfl) (by omega) rfl (Nat.le_of_ble_eq_true rfl) rfl rfl (zyC251 hp1) ?_
  show zyR _ _ _ _ [some (.ref (43 + 3)), none, some (.int x2), none] [] _ _
  refine zy_0 rfl rfl (show zyR _ _ _ _ [some (.ref (43 + 3)), none, some (.int x2), none] [.ref (43 + 3)] _ _ from ?_)
  refine zy_3 rfl rfl (show zyR _ _ _ _ [some (.ref (43 + 3)), none, some (.int x2), none] [.int (1 : Int32), .ref (43 + 3)] _ _ from ?_)
  refine zy_2 rfl rfl (show zyR _ _ _ _ [some (.ref (43 + 3)), none, some (.int x2), none] [.int x2, .int (1 : Int32), .ref (43 + 3)] _ _ from ?_)
  obtain ⟨p2, hp2, h⟩ := zy_bind h
  refine zy_5 (c := 43) (as := [.int (1 : Int32), .int x2]) (rest := []) (L := [some (.ref (43 + 3)), some (.int (1 : Int32)), some (.int x2), none]) (d' := d) rfl rfl rfl (Nat.le_of_ble_eq_true rfl) (by omega) rfl (Nat.le_of_ble_eq_true rfl) rfl rfl (hg253 (1 : Int32) x2 p1.2 _ _ hp2) ?_
  show zyR _ _ _ _ [some (.ref (43 + 3)), none, some (.int x2), none] [.int p2.1] _ _
  refine zy_23 rfl rfl (show zyR _ _ _ _ [some (.ref (43 + 3)), none, some (.int x2), some (.int p2.1)] [] _ _ from ?_)
  refine zy_2 rfl rfl (show zyR _ _ _ _ [some (.ref (43 + 3)), none, some (.int x2), some (.int p2.1)] [.int p2.1] _ _ from ?_)
  refine zy_0 rfl rfl (show zyR _ _ _ _ [some (.ref (43 + 3)), none, some (.int x2), some (.int p2.1)] [.ref (43 + 3), .int p2.1] _ _ from ?_)
  refine zy_0 rfl rfl (show zyR _ _ _ _ [some (.ref (43 + 3)), none, some (.int x2), some (.int p2.1)] [.ref (43 + 3), .ref (43 + 3), .int p2.1] _ _ from ?_)
  refine zy_1 (c := 43) rfl rfl rfl (show zyR _ _ _ _ [some (.ref (43 + 3)), none, some (.int x2), some (.int p2.1)] [.int (p2.2.1 43 32), .ref (43 + 3), .int p2.1] _ _ from ?_)
  refine zy_3 rfl rfl (show zyR _ _ _ _ [some (.ref (43 + 3)), none, some (.int x2), some (.int p2.1)] [.int (2 : Int32), .int (p2.2.1 43 32), .ref (43 + 3), .int p2.1] _ _ from ?_)
  obtain ⟨p3, hp3, h⟩ := zy_bind h
  refine zy_5 (c := 43) (as := [.int (p2.2.1 43 32), .int (2 : Int32)]) (rest := [.int p2.1]) (L := [some (.ref (43 + 3)), some (.int (p2.2.1 43 32)), some (.int (2 : Int32))]) (d' := 101) rfl rfl rfl (Nat.le_of_ble_eq_true rfl) (by omega) rfl (Nat.le_of_ble_eq_true rfl) rfl rfl (zyC250 hp3) ?_
  show zyR _ _ _ _ [some (.ref (43 + 3)), none, some (.int x2), some (.int p2.1)] [.int p3.1, .int p2.1] _ _
  refine zy_11 rfl (show zyR _ _ _ _ [some (.ref (43 + 3)), none, some (.int x2), some (.int p2.1)] [.int (p2.1 - p3.1)] _ _ from ?_)
  obtain ⟨rfl, rfl⟩ := zy_pi h
  exact zy_4 rfl ⟨rfl, rfl⟩
noncomputable def zyF253_10 (g253 : Int32 → Int32 → zy_S → Option (Int32 × zy_S))  (x2 : Int32) (s : zy_S) : Option (Int32 × zy_S) :=
(zyF251 (40 : Int32) s).bind fun p4 =>
(g253 (2 : Int32) x2 p4.2).bind fun p5 =>
some ((p5.1 * (3 : Int32)), p5.2)
theorem zyC253_10 {X : zx_X} {d : Nat} {g253 : Int32 → Int32 → zy_S → Option (Int32 × zy_S)}  (hd : 101 ≤ d) (hg253 : ∀ (x1 : Int32) (x2 : Int32) (s : zy_S) (r : Int32) (s' : zy_S), g253 x1 x2 s = some (r, s') → zyR X d 253 0 [some (.ref (43 + 3)), some (.int x1), some (.int x2), none] [] s (zyE (some (.int r)) s'))  {x2 : Int32} {s : zy_S} {r : Int32} {s' : zy_S}  (h : zyF253_10 g253 x2 s = some (r, s')) : zyR X (d + 1) 253 10 [some (.ref (43 + 3)), none, some (.int x2), none] [] s (zyE (some (.int r)) s') := by
  unfold zyF253_10 at h
  refine zy_0 rfl rfl (show zyR _ _ _ _ [some (.ref (43 + 3)), none, some (.int x2), none] [.ref (43 + 3)] _ _ from ?_)
  refine zy_3 rfl rfl (show zyR _ _ _ _ [some (.ref (43 + 3)), none, some (.int x2), none] [.int (40 : Int32), .ref (43 + 3)] _ _ from ?_)
  obtain ⟨p4, hp4, h⟩ := zy_bind h
  refine zy_5 (c := 43) (as := [.int (40 : Int32)]) (rest := []) (L := [some (.ref (43 + 3)), some (.int (40 : Int32))]) (d' := 1) rfl rfl rfl (Nat.le_of_ble_eq_true rfl) (by omega) rfl (Nat.le_of_ble_eq_true rfl) rfl rfl (zyC251 hp4) ?_
  show zyR _ _ _ _ [some (.ref (43 + 3)), none, some (.int x2), none] [] _ _
  refine zy_0 rfl rfl (show zyR _ _ _ _ [some (.ref (43 + 3)), none, some (.int x2), none] [.ref (43 + 3)] _ _ from ?_)
  refine zy_3 rfl rfl (show zyR _ _ _ _ [some (.ref (43 + 3)), none, some (.int x2), none] [.int (2 : Int32), .ref (43 + 3)] _ _ from ?_)
  refine zy_2 rfl rfl (show zyR _ _ _ _ [some (.ref (43 + 3)), none, some (.int x2), none] [.int x2, .int (2 : Int32), .ref (43 + 3)] _ _ from ?_)
  obtain ⟨p5, hp5, h⟩ := zy_bind h
  refine zy_5 (c := 43) (as := [.int (2 : Int32), .int x2]) (rest := []) (L := [some (.ref (43 + 3)), some (.int (2 : Int32)), some (.int x2), none]) (d' := d) rfl rfl rfl (Nat.le_of_ble_eq_true rfl) (by omega) rfl (Nat.le_of_ble_eq_true rfl) rfl rfl (hg253 (2 : Int32) x2 p4.2 _ _ hp5) ?_
  show zyR _ _ _ _ [some (.ref (43 + 3)), none, some (.int x2), none] [.int p5.1] _ _
  refine zy_3 rfl rfl (show zyR _ _ _ _ [some (.ref (43 + 3)), none, some (.int x2), none] [.int (3 : Int32), .int p5.1] _ _ from ?_)
  refine zy_12 rfl (show zyR _ _ _ _ [some (.ref (43 + 3)), none, some (.int x2), none] [.int (p5.1 * (3 : Int32))] _ _ from ?_)
  obtain ⟨rfl, rfl⟩ := zy_pi h
  exact zy_4 rfl ⟨rfl, rfl⟩
noncomputable def zyF253_0 (g253 : Int32 → Int32 → zy_S → Option (Int32 × zy_S))  (x1 : Int32) (x2 : Int32) (s : zy_S) : Option (Int32 × zy_S) :=
if x1 = (3 : Int32) then
zyF253_10 g253 x2 s
else
if x1 ≠ (5 : Int32) then
if x1 = (4 : Int32) then
zyF253_36 g253 x2 s
else
if x1 ≠ (7 : Int32) then
(zyF251 (11 : Int32) s).bind fun p6 =>
some ((x2 ^^^ (p6.2.1 43 33)), p6.2)
else
zyF253_36 g253 x2 s
else
zyF253_10 g253 x2 s
theorem zyC253_0 {X : zx_X} {d : Nat} {g253 : Int32 → Int32 → zy_S → Option (Int32 × zy_S)}  (hd : 101 ≤ d) (hg253 : ∀ (x1 : Int32) (x2 : Int32) (s : zy_S) (r : Int32) (s' : zy_S), g253 x1 x2 s = some (r, s') → zyR X d 253 0 [some (.ref (43 + 3)), some (.int x1), some (.int x2), none] [] s (zyE (some (.int r)) s'))  {x1 : Int32} {x2 : Int32} {s : zy_S} {r : Int32} {s' : zy_S}  (h : zyF253_0 g253 x1 x2 s = some (r, s')) : zyR X (d + 1) 253 0 [some (.ref (43 + 3)), some (.int x1), some (.int x2), none] [] s (zyE (some (.int r)) s') := by
  unfold zyF253_0 at h
  refine zy_2 rfl rfl (show zyR _ _ _ _ [some (.ref (43 + 3)), some (.int x1), some (.int x2), none] [.int x1] _ _ from ?_)
  refine zy_3 rfl rfl (show zyR _ _ _ _ [some (.ref (43 + 3)), some (.int x1), some (.int x2), none] [.int (3 : Int32), .int x1] _ _ from ?_)
  refine zy_25_0 rfl (fun b10 => (show zyR _ _ _ _ [some (.ref (43 + 3)), some (.int x1), some (.int x2), none] [] _ _ from ?_)) (fun b10 => (show zyR _ _ _ _ [some (.ref (43 + 3)), some (.int x1), some (.int x2), none] [] _ _ from ?_))
  · replace h := zy_ifp h b10
    exact zy_sub (show zy_le [some (.ref (43 + 3)), none, some (.int x2), none] [some (.ref (43 + 3)), some (.int x1), some (.int x2), none] from ⟨rfl, ⟨rfl, trivial⟩⟩) (zyC253_10 hd hg253 h)
  · replace h := zy_ifn h b10
    refine zy_2 rfl rfl (show zyR _ _ _ _ [some (.ref (43 + 3)), some (.int x1), some (.int x2), none] [.int x1] _ _ from ?_)
    refine zy_3 rfl rfl (show zyR _ _ _ _ [some (.ref (43 + 3)), some (.int x1), some (.int x2), none] [.int (5 : Int32), .int x1] _ _ from ?_)
    refine zy_25_1 rfl (fun b9 => (show zyR _ _ _ _ [some (.ref (43 + 3)), some (.int x1), some (.int x2), none] [] _ _ from ?_)) (fun b9 => (show zyR _ _ _ _ [some (.ref (43 + 3)), some (.int x1), some (.int x2), none] [] _ _ from ?_))
    · replace h := zy_ifp h b9
      refine zy_2 rfl rfl (show zyR _ _ _ _ [some (.ref (43 + 3)), some (.int x1), some (.int x2), none] [.int x1] _ _ from ?_)
      refine zy_3 rfl rfl (show zyR _ _ _ _ [some (.ref (43 + 3)), some (.int x1), some (.int x2), none] [.int (4 : Int32), .int x1] _ _ from ?_)
      refine zy_25_0 rfl (fun b8 => (show zyR _ _ _ _ [some (.ref (43 + 3)), some (.int x1), some (.int x2), none] [] _ _ from ?_)) (fun b8 => (show zyR _ _ _ _ [some (.ref (43 + 3)), some (.int x1), some (.int x2), none] [] _ _ from ?_))
      · replace h := zy_ifp h b8
        exact zy_sub (show zy_le [some (.ref (43 + 3)), none, some (.int x2), none] [some (.ref (43 + 3)), some (.int x1), some (.int x2), none] from ⟨rfl, ⟨rfl, trivial⟩⟩) (zyC253_36 hd hg253 h)
      · replace h := zy_ifn h b8
        refine zy_2 rfl rfl (show zyR _ _ _ _ [some (.ref (43 + 3)), some (.int x1), some (.int x2), none] [.int x1] _ _ from ?_)
        refine zy_3 rfl rfl (show zyR _ _ _ _ [some (.ref (43 + 3)), some (.int x1), some (.int x2), none] [.int (7 : Int32), .int x1] _ _ from ?_)
        refine zy_25_1 rfl (fun b7 => (show zyR _ _ _ _ [some (.ref (43 + 3)), some (.int x1), some (.int x2), none] [] _ _ from ?_)) (fun b7 => (show zyR _ _ _ _ [some (.ref (43 + 3)), some (.int x1), some (.int x2), none] [] _ _ from ?_))
        · replace h := zy_ifp h b7
          refine zy_0 rfl rfl (show zyR _ _ _ _ [some (.ref (43 + 3)), some (.int x1), some (.int x2), none] [.ref (43 + 3)] _ _ from ?_)
          refine zy_3 rfl rfl (show zyR _ _ _ _ [some (.ref (43 + 3)), some (.int x1), some (.int x2), none] [.int (11 : Int32), .ref (43 + 3)] _ _ from ?_)
          obtain ⟨p6, hp6, h⟩ := zy_bind h
          refine zy_5 (c := 43) (as := [.int (11 : Int32)]) (rest := []) (L := [some (.ref (43 + 3)), some (.int (11 : Int32))]) (d' := 1) rfl rfl rfl (Nat.le_of_ble_eq_true rfl) (by omega) rfl (Nat.le_of_ble_eq_true rfl) rfl rfl (zyC251 hp6) ?_
          show zyR _ _ _ _ [some (.ref (43 + 3)), some (.int x1), some (.int x2), none] [] _ _
          refine zy_2 rfl rfl (show zyR _ _ _ _ [some (.ref (43 + 3)), some (.int x1), some (.int x2), none] [.int x2] _ _ from ?_)
          refine zy_0 rfl rfl (show zyR _ _ _ _ [some (.ref (43 + 3)), some (.int x1), some (.int x2), none] [.ref (43 + 3), .int x2] _ _ from ?_)
          refine zy_1 (c := 43) rfl rfl rfl (show zyR _ _ _ _ [some (.ref (43 + 3)), some (.int x1), some (.int x2), none] [.int (p6.2.1 43 33), .int x2] _ _ from ?_)
          refine zy_15 rfl (show zyR _ _ _ _ [some (.ref (43 + 3)), some (.int x1), some (.int x2), none] [.int (x2 ^^^ (p6.2.1 43 33))] _ _ from ?_)
          obtain ⟨rfl, rfl⟩ := zy_pi h
          exact zy_4 rfl ⟨rfl, rfl⟩
        · replace h := zy_ifn h b7
          exact zy_sub (show zy_le [some (.ref (43 + 3)), none, some (.int x2), none] [some (.ref (43 + 3)), some (.int x1), some (.int x2), none] from ⟨rfl, ⟨rfl, trivial⟩⟩) (zyC253_36 hd hg253 h)
    · replace h := zy_ifn h b9
      exact zy_sub (show zy_le [some (.ref (43 + 3)), none, some (.int x2), none] [some (.ref (43 + 3)), some (.int x1), some (.int x2), none] from ⟨rfl, ⟨rfl, trivial⟩⟩) (zyC253_10 hd hg253 h)
noncomputable def zyG253 (n : Nat) : (Int32 → Int32 → zy_S → Option (Int32 × zy_S)) := Nat.rec (fun _ _ _ => none) (fun _ g => (fun x1 x2 s => zyF253_0 g x1 x2 s)) n
theorem zyG253_s (n : Nat) : zyG253 (n + 1) = (fun x1 x2 s => zyF253_0 (zyG253 n) x1 x2 s) := rfl
theorem zyS253 (n : Nat) (x1 : Int32) (x2 : Int32) (s : zy_S) : (zyG253 (n + 1)) x1 x2 s = zyF253_0 (zyG253 n) x1 x2 s := by
  rw [zyG253_s]
theorem zyG253_ok {X : zx_X} : ∀ n : Nat, (∀ (x1 : Int32) (x2 : Int32) (s : zy_S) (r : Int32) (s' : zy_S), (zyG253 n) x1 x2 s = some (r, s') → zyR X (101 + n) 253 0 [some (.ref (43 + 3)), some (.int x1), some (.int x2), none] [] s (zyE (some (.int r)) s'))
  | 0 => by
    · intro x1 x2 s r s'  h
      have h : (none : Option (Int32 × zy_S)) = some (r, s') := h
      cases h
  | n + 1 => by
    obtain i0 := zyG253_ok (X := X) n
    · intro x1 x2 s r s'  h
      rw [zyS253] at h
      exact zy_sub (show zy_le [some (.ref (43 + 3)), some (.int x1), some (.int x2), none] [some (.ref (43 + 3)), some (.int x1), some (.int x2), none] from ⟨rfl, ⟨rfl, ⟨rfl, trivial⟩⟩⟩) (zyC253_0 (d := 101 + n) (g253 := (zyG253 n)) (by omega) i0  h)
noncomputable def zyF253 : Int32 → Int32 → zy_S → Option (Int32 × zy_S) := (zyG253 100)
theorem zyC253 {X : zx_X} {x1 : Int32} {x2 : Int32} {s : zy_S} {r : Int32} {s' : zy_S}  (h : zyF253 x1 x2 s = some (r, s')) : zyR X 201 253 0 [some (.ref (43 + 3)), some (.int x1), some (.int x2), none] [] s (zyE (some (.int r)) s') := (zyG253_ok (X := X) 100) x1 x2 s r s'  h
