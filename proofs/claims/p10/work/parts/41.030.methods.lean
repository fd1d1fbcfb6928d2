/-! PART 41.30: methods as functions. Made by wip/v4/dcp.py. -/
/-! NineOpinionsModel.holdsAs(II)I, over what it calls -/
noncomputable def zyF250_16 (g250 : Int32 → Int32 → zy_S → Option (Int32 × zy_S))  (x2 : Int32) (s : zy_S) : Option (Int32 × zy_S) :=
(zyF251 (20 : Int32) s).bind fun p1 =>
(g250 (0 : Int32) x2 p1.2).bind fun p2 =>
some ((p2.1 + (3 : Int32)), p2.2)
theorem zyC250_16 {X : zx_X} {d : Nat} {g250 : Int32 → Int32 → zy_S → Option (Int32 × zy_S)}  (hd : 1 ≤ d) (hg250 : ∀ (x1 : Int32) (x2 : Int32) (s : zy_S) (r : Int32) (s' : zy_S), g250 x1 x2 s = some (r, s') → zyR X d 250 0 [some (.ref (43 + 3)), some (.int x1), some (.int x2)] [] s (zyE (some (.int r)) s'))  {x2 : Int32} {s : zy_S} {r : Int32} {s' : zy_S}  (h : zyF250_16 g250 x2 s = some (r, s')) : zyR X (d + 1) 250 16 [some (.ref (43 + 3)), none, some (.int x2)] [] s (zyE (some (.int r)) s') := by
  unfold zyF250_16 at h
  refine zy_0 rfl rfl (show zyR _ _ _ _ [some (.ref (43 + 3)), none, some (.int x2)] [.ref (43 + 3)] _ _ from ?_)
  refine zy_3 rfl rfl (show zyR _ _ _ _ [some (.ref (43 + 3)), none, some (.int x2)] [.int (20 : Int32), .ref (43 + 3)] _ _ from ?_)
  obtain ⟨p1, hp1, h⟩ := zy_bind h
  refine zy_5 (c := 43) (as := [.int (20 : Int32)]) (rest := []) (L := [some (.ref (43 + 3)), some (.int (20 : Int32))]) (d' := 1) rfl rfl rfl (Nat.le_of_ble_eq_true rfl) (by omega) rfl (Nat.le_of_ble_eq_true rfl) rfl rfl (zyC251 hp1) ?_
  show zyR _ _ _ _ [some (.ref (43 + 3)), none, some (.int x2)] [] _ _
  refine zy_0 rfl rfl (show zyR _ _ _ _ [some (.ref (43 + 3)), none, some (.int x2)] [.ref (43 + 3)] _ _ from ?_)
  refine zy_3 rfl rfl (show zyR _ _ _ _ [some (.ref (43 + 3)), none, some (.int x2)] [.int (0 : Int32), .ref (43 + 3)] _ _ from ?_)
  refine zy_2 rfl rfl (show zyR _ _ _ _ [some (.ref (43 + 3)), none, some (.int x2)] [.int x2, .int (0 : Int32), .ref (43 + 3)] _ _ from ?_)
  obtain ⟨p2, hp2, h⟩ := zy_bind h
  refine zy_5 (c := 43) (as := [.int (0 : Int32), .int x2]) (rest := []) (L := [some (.ref (43 + 3)), some (.int (0 : Int32)), some (.int x2)]) (d' := d) rfl rfl rfl (Nat.le_of_ble_eq_true rfl) (by omega) rfl (Nat.le_of_ble_eq_true rfl) rfl rfl (hg250 (0 : Int32) x2 p1.2 _ _ hp2) ?_
  show zyR _ _ _ _ [some (.ref (43 + 3)), none, some (.int x2)] [.int p2.1] _ _
  refine zy_3 rfl rfl (show zyR _ _ _ _ [some (.ref (43 + 3)), none, some (.int x2)] [.int (3 : Int32), .int p2.1] _ _ from ?_)
  refine zy_10 rfl (show zyR _ _ _ _ [some (.ref (43 + 3)), none, some (.int x2)] [.int (p2.1 + (3 : Int32))] _ _ from ?_)
  obtain ⟨rfl, rfl⟩ := zy_pi h
  exact zy_4 rfl ⟨rfl, rfl⟩
noncomputable def zyF250_0 (g250 : Int32 → Int32 → zy_S → Option (Int32 × zy_S))  (x1 : Int32) (x2 : Int32) (s : zy_S) : Option (Int32 × zy_S) :=
if x1 = (1 : Int32) then
zyF250_16 g250 x2 s
else
if x1 = (4 : Int32) then
zyF250_16 g250 x2 s
else
if x1 ≠ (7 : Int32) then
if x1 ≠ (6 : Int32) then
(zyF251 (1 : Int32) s).bind fun p3 =>
some ((x2 + (p3.2.1 43 33)), p3.2)
else
(zyF251 (70 : Int32) s).bind fun p4 =>
(g250 (0 : Int32) x2 p4.2).bind fun p5 =>
some ((p5.1 * (2 : Int32)), p5.2)
else
zyF250_16 g250 x2 s
theorem zyC250_0 {X : zx_X} {d : Nat} {g250 : Int32 → Int32 → zy_S → Option (Int32 × zy_S)}  (hd : 1 ≤ d) (hg250 : ∀ (x1 : Int32) (x2 : Int32) (s : zy_S) (r : Int32) (s' : zy_S), g250 x1 x2 s = some (r, s') → zyR X d 250 0 [some (.ref (43 + 3)), some (.int x1), some (.int x2)] [] s (zyE (some (.int r)) s'))  {x1 : Int32} {x2 : Int32} {s : zy_S} {r : Int32} {s' : zy_S}  (h : zyF250_0 g250 x1 x2 s = some (r, s')) : zyR X (d + 1) 250 0 [some (.ref (43 + 3)), some (.int x1), some (.int x2)] [] s (zyE (some (.int r)) s') := by
  unfold zyF250_0 at h
  refine zy_2 rfl rfl (show zyR _ _ _ _ [some (.ref (43 + 3)), some (.int x1), some (.int x2)] [.int x1] _ _ from ?_)
  refine zy_3 rfl rfl (show zyR _ _ _ _ [some (.ref (43 + 3)), some (.int x1), some (.int x2)] [.int (1 : Int32), .int x1] _ _ from ?_)
  refine zy_25_0 rfl (fun b9 => (show zyR _ _ _ _ [some (.ref (43 + 3)), some (.int x1), some (.int x2)] [] _ _ from ?_)) (fun b9 => (show zyR _ _ _ _ [some (.ref (43 + 3)), some (.int x1), some (.int x2)] [] _ _ from ?_))
  · replace h := zy_ifp h b9
    exact zy_sub (show zy_le [some (.ref (43 + 3)), none, some (.int x2)] [some (.ref (43 + 3)), some (.int x1), some (.int x2)] from ⟨rfl, ⟨rfl, trivial⟩⟩) (zyC250_16 hd hg250 h)
  · replace h := zy_ifn h b9
    refine zy_2 rfl rfl (show zyR _ _ _ _ [some (.ref (43 + 3)), some (.int x1), some (.int x2)] [.int x1] _ _ from ?_)
    refine zy_3 rfl rfl (show zyR _ _ _ _ [some (.ref (43 + 3)), some (.int x1), some (.int x2)] [.int (4 : Int32), .int x1] _ _ from ?_)
    refine zy_25_0 rfl (fun b8 => (show zyR _ _ _ _ [some (.ref (43 + 3)), some (.int x1), some (.int x2)] [] _ _ from ?_)) (fun b8 => (show zyR _ _ _ _ [some (.ref (43 + 3)), some (.int x1), some (.int x2)] [] _ _ from ?_))
    · replace h := zy_ifp h b8
      exact zy_sub (show zy_le [some (.ref (43 + 3)), none, some (.int x2)] [some (.ref (43 + 3)), some (.int x1), some (.int x2)] from ⟨rfl, ⟨rfl, trivial⟩⟩) (zyC250_16 hd hg250 h)
    · replace h := zy_ifn h b8
      refine zy_2 rfl rfl (show zyR _ _ _ _ [some (.ref (43 + 3)), some (.int x1), some (.int x2)] [.int x1] _ _ from ?_)
      refine zy_3 rfl rfl (show zyR _ _ _ _ [some (.ref (43 + 3)), some (.int x1), some (.int x2)] [.int (7 : Int32), .int x1] _ _ from ?_)
      refine zy_25_1 rfl (fun b7 => (show zyR _ _ _ _ [some (.ref (43 + 3)), some (.int x1), some (.int x2)] [] _ _ from ?_)) (fun b7 => (show zyR _ _ _ _ [some (.ref (43 + 3)), some (.int x1), some (.int x2)] [] _ _ from ?_))
      · replace h := zy_ifp h b7
        refine zy_2 rfl rfl (show zyR _ _ _ _ [some (.ref (43 + 3)), some (.int x1), some (.int x2)] [.int x1] _ _ from ?_)
        refine zy_3 rfl rfl (show zyR _ _ _ _ [some (.ref (43 + 3)), some (.int x1), some (.int x2)] [.int (6 : Int32), .int x1] _ _ from ?_)
        refine zy_25_1 rfl (fun b6 => (show zyR _ _ _ _ [some (.ref (43 + 3)), some (.int x1), some (.int x2)] [] _ _ from ?_)) (fun b6 => (show zyR _ _ _ _ [some (.ref (43 + 3)), some (.int x1), some (.int x2)] [] _ _ from ?_))
        · replace h := zy_ifp h b6
          refine zy_0 rfl rfl (show zyR _ _ _ _ [some (.ref (43 + 3)), some (.int x1), some (.int x2)] [.ref (43 + 3)] _ _ from ?_)
          refine zy_3 rfl rfl (show zyR _ _ _ _ [some (.ref (43 + 3)), some (.int x1), some (.int x2)] [.int (1 : Int32), .ref (43 + 3)] _ _ from ?_)
          obtain ⟨p3, hp3, h⟩ := zy_bind h
          refine zy_5 (c := 43) (as := [.int (1 : Int32)]) (rest := []) (L := [some (.ref (43 + 3)), some (.int (1 : Int32))]) (d' := 1) rfl rfl rfl (Nat.le_of_ble_eq_true rfl) (by omega) rfl (Nat.le_of_ble_eq_true rfl) rfl rfl (zyC251 hp3) ?_
          show zyR _ _ _ _ [some (.ref (43 + 3)), some (.int x1), some (.int x2)] [] _ _
          refine zy_2 rfl rfl (show zyR _ _ _ _ [some (.ref (43 + 3)), some (.int x1), some (.int x2)] [.int x2] _ _ from ?_)
          refine zy_0 rfl rfl (show zyR _ _ _ _ [some (.ref (43 + 3)), some (.int x1), some (.int x2)] [.ref (43 + 3), .int x2] _ _ from ?_)
          refine zy_1 (c := 43) rfl rfl rfl (show zyR _ _ _ _ [some (.ref (43 + 3)), some (.int x1), some (.int x2)] [.int (p3.2.1 43 33), .int x2] _ _ from ?_)
          refine zy_10 rfl (show zyR _ _ _ _ [some (.ref (43 + 3)), some (.int x1), some (.int x2)] [.int (x2 + (p3.2.1 43 33))] _ _ from ?_)
          obtain ⟨rfl, rfl⟩ := zy_pi h
          exact zy_4 rfl ⟨rfl, rfl⟩
        · replace h := zy_ifn h b6
          refine zy_0 rfl rfl (show zyR _ _ _ _ [some (.ref (43 + 3)), some (.int x1), some (.int x2)] [.ref (43 + 3)] _ _ from ?_)
          refine zy_3 rfl rfl (show zyR _ _ _ _ [some (.ref (43 + 3)), some (.int x1), some (.int x2)] [.int (70 : Int32), .ref (43 + 3)] _ _ from ?_)
          obtain ⟨p4, hp4, h⟩ := zy_bind h
          refine zy_5 (c := 43) (as := [.int (70 : Int32)]) (rest := []) (L := [some (.ref (43 + 3)), some (.int (70 : Int32))]) (d' := 1) rfl rfl rfl (Nat.le_of_ble_eq_true rfl) (by omega) rfl (Nat.le_of_ble_eq_true rfl) rfl rfl (zyC251 hp4) ?_
          show zyR _ _ _ _ [some (.ref (43 + 3)), some (.int x1), some (.int x2)] [] _ _
          refine zy_0 rfl rfl (show zyR _ _ _ _ [some (.ref (43 + 3)), some (.int x1), some (.int x2)] [.ref (43 + 3)] _ _ from ?_)
          refine zy_3 rfl rfl (show zyR _ _ _ _ [some (.ref (43 + 3)), some (.int x1), some (.int x2)] [.int (0 : Int32), .ref (43 + 3)] _ _ from ?_)
          refine zy_2 rfl rfl (show zyR _ _ _ _ [some (.ref (43 + 3)), some (.int x1), some (.int x2)] [.int x2, .int (0 : Int32), .ref (43 + 3)] _ _ from ?_)
          obtain ⟨p5, hp5, h⟩ := zy_bind h
          refine zy_5 (c := 43) (as := [.int (0 : Int32), .int x2]) (rest := []) (L := [some (.ref (43 + 3)), some (.int (0 : Int32)), some (.int x2)]) (d' := d) rfl rfl rfl (Nat.le_of_ble_eq_true rfl) (by omega) rfl (Nat.le_of_ble_eq_true rfl) rfl rfl (hg250 (0 : Int32) x2 p4.2 _ _ hp5) ?_
          show zyR _ _ _ _ [some (.ref (43 + 3)), some (.int x1), some (.int x2)] [.int p5.1] _ _
          refine zy_3 rfl rfl (show zyR _ _ _ _ [some (.ref (43 + 3)), some (.int x1), some (.int x2)] [.int (2 : Int32), .int p5.1] _ _ from ?_)
          refine zy_12 rfl (show zyR _ _ _ _ [some (.ref (43 + 3)), some (.int x1), some (.int x2)] [.int (p5.1 * (2 : Int32))] _ _ from ?_)
          obtain ⟨rfl, rfl⟩ := zy_pi h
          exact zy_4 rfl ⟨rfl, rfl⟩
      · replace h := zy_ifn h b7
        exact zy_sub (show zy_le [some (.ref (43 + 3)), none, some (.int x2)] [some (.ref (43 + 3)), some (.int x1), some (.int x2)] from ⟨rfl, ⟨rfl, trivial⟩⟩) (zyC250_16 hd hg250 h)
noncomputable def zyG250 (n : Nat) : (Int32 → Int32 → zy_S → Option (Int32 × zy_S)) := Nat.rec (fun _ _ _ => none) (fun _ g => (fun x1 x2 s => zyF250_0 g x1 x2 s)) n
theorem zyG250_s (n : Nat) : zyG250 (n + 1) = (fun x1 x2 s => zyF250_0 (zyG250 n) x1 x2 s) := rfl
theorem zyS250 (n : Nat) (x1 : Int32) (x2 : Int32) (s : zy_S) : (zyG250 (n + 1)) x1 x2 s = zyF250_0 (zyG250 n) x1 x2 s := by
  rw [zyG250_s]
theorem zyG250_ok {X : zx_X} : ∀ n : Nat, (∀ (x1 : Int32) (x2 : Int32) (s : zy_S) (r : Int32) (s' : zy_S), (zyG250 n) x1 x2 s = some (r, s') → zyR X (1 + n) 250 0 [some (.ref (43 + 3)), some (.int x1), some (.int x2)] [] s (zyE (some (.int r)) s'))
  | 0 => by
    · intro x1 x2 s r s'  h
      have h : (none : Option (Int32 × zy_S)) = some (r, s') := h
      cases h
  | n + 1 => by
    obtain i0 := zyG250_ok (X := X) n
    · intro x1 x2 s r s'  h
      rw [zyS250] at h
      exact zy_sub (show zy_le [some (.ref (43 + 3)), some (.int x1), some (.int x2)] [some (.ref (43 + 3)), some (.int x1), some (.int x2)] from ⟨rfl, ⟨rfl, ⟨rfl, trivial⟩⟩⟩) (zyC250_0 (d := 1 + n) (g250 := (zyG250 n)) (by omega) i0  h)
noncomputable def zyF250 : Int32 → Int32 → zy_S → Option (Int32 × zy_S) := (zyG250 100)
theorem zyC250 {X : zx_X} {x1 : Int32} {x2 : Int32} {s : zy_S} {r : Int32} {s' : zy_S}  (h : zyF250 x1 x2 s = some (r, s')) : zyR X 101 250 0 [some (.ref (43 + 3)), some (.int x1), some (.int x2)] [] s (zyE (some (.int r)) s') := (zyG250_ok (X := X) 100) x1 x2 s r s'  h
/-! NineOpinionsModel.tradesAs(II)I, over what it calls -/
noncomputable def zyF253_36 (g253 : Int32 → Int32 → zy_S → Option (Int32 × zy_S))  (x2 : Int32) (s : zy_S) : Option (Int32 × zy_S) :=
(zyF251 (50 : Int32) s).bind fun p1 =>
(g253 (1 : Int32) x2 p1.2).bind fun p2 =>
(zyF250 (p2.2.1 43 32) (2 : Int32) p2.2).bind fun p3 =>
some ((p2.1 - p3.1), p3.2)
theorem zyC253_36 {X : zx_X} {d : Nat} {g253 : Int32 → Int32 → zy_S → Option (Int32 × zy_S)}  (hd : 101 ≤ d) (hg253 : ∀ (x1 : Int32) (x2 : Int32) (s : zy_S) (r : Int32) (s' : zy_S), g253 x1 x2 s = some (r, s') → zyR X d 253 0 [some (.ref (43 + 3)), some (.int x1), some (.int x2), none] [] s (zyE (some (.int r)) s'))  {x2 : Int32} {s : zy_S} {r : Int32} {s' : zy_S}  (h : zyF253_36 g253 x2 s = some (r, s')) : zyR X (d + 1) 253 36 [some (.ref (43 + 3)), none, some (.int x2), none] [] s (zyE (some (.int r)) s') := by
  unfold zyF253_36 at h
  refine zy_0 rfl rfl (show zyR _ _ _ _ [some (.ref (43 + 3)), none, some (.int x2), none] [.ref (43 + 3)] _ _ from ?_)
  refine zy_3 rfl rfl (show zyR _ _ _ _ [some (.ref (43 + 3)), none, some (.int x2), none] [.int (50 : Int32), .ref (43 + 3)] _ _ from ?_)
  obtain ⟨p1, hp1, h⟩ := zy_bind h
  refine zy_5 (c := 43) (as := [.int (50 : Int32)]) (rest := []) (L := [some (.ref (43 + 3)), some (.int (50 : Int32))]) (d' := 1) rfl rfl rfl (Nat.le_of_ble_eq_true rfl) (by omega) rfl (Nat.le_of_ble_eq_true rfl) rfl rfl (zyC251 hp1) ?_
  show zyR _ _ _ _ [some (.ref (43 + 3)), none, some (.int x2), none] [] _ _
  refine zy_0 rfl rfl (show zyR _ _ _ _ [some (.ref (43 + 3)), none, some (.int x2), none] [.ref (43 + 3)] _ _ from ?_)
  refine zy_3 rfl rfl (show zyR _ _ _ _ [some (.ref (43 + 3)), none, some (.int x2), none] [.int (1 : Int32), .ref (43 + 3)] _ _ from ?_)
  refine zy_2 rfl rfl (show zyR _ _ _ _ [some (.ref (43 + 3)), none, some (.int x2), none] [.int x2, .int (1 : Int32), .ref (43 + 3)] _ _ from ?_)
  obtain ⟨p2, hp2, h⟩ := zy_bind h
  refine zy_5 (c := 43) (as := [.int (1 : Int32), .int x2]) (rest := []) (L := [some (.ref (43 + 3)), some (.int (1 : Int32)), some (.int x2), none]) (d' := d) rfl rfl rfl (Nat.le_of_ble_eq_true rfl) (by omega) rfl (Nat.le_of_ble_eq_true rfl) rfl rfl (hg253 (1 : Int32) x2 p1.2 _ _ hp2) ?_
  show zyR _ _ _ _ [some (.ref (43 + 3)), none, some (.int x2), none] [.int p2.1] _ _
  refine zy_23 rfl rfl (show zyR _ _ _ _ [some (.ref (43 + 3)), none, some (.int x2), some (.int p2.1)] [] _ _ from ?_)
  refine zy_2 rfl rfl (show zyR _ _ _ _ [some (.ref (43 + 3)), none, some (.int x2), some (.int p2.1)] [.int p2.1] _ _ from ?_)
  refine zy_0 rfl rfl (show zyR _ _ _ _ [some (.ref (43 + 3)), none, some (.int x2), some (.int p2.1)] [.ref (43 + 3), .int p2.1] _ _ from ?_)
  refine zy_0 rfl rfl (show zyR _ _ _ _ [some (.ref (43 + 3)), none, some (.int x2), some (.int p2.1)] [.ref (43 + 3), .ref (43 + 3), .int p2.1] _ _ from ?_)
  refine zy_1 (c := 43) rfl rfl rfl (show zyR _ _ _ _ [some (.ref (43 + 3)), none, some (.int x2), some (.int p2.1)] [.int (p2.2.1 43 32), .ref (43 + 3), .int p2.1] _ _ from ?_)
  refine zy_3 rfl rfl (show zyR _ _ _ _ [some (.ref (43 + 3)), none, some (.int x2), some (.int p2.1)] [.int (2 : Int32), .int (p2.2.1 43 32), .ref (43 + 3), .int p2.1] _ _ from ?_)
  obtain ⟨p3, hp3, h⟩ := zy_bind h
  refine zy_5 (c := 43) (as := [.int (p2.2.1 43 32), .int (2 : Int32)]) (rest := [.int p2.1]) (L := [some (.ref (43 + 3)), some (.int (p2.2.1 43 32)), some (.int (2 : Int32))]) (d' := 101) rfl rfl rfl (Nat.le_of_ble_eq_true rfl) (by omega) rfl (Nat.le_of_ble_eq_true rfl) rfl rfl (zyC250 hp3) ?_
  show zyR _ _ _ _ [some (.ref (43 + 3)), none, some (.int x2), some (.int p2.1)] [.int p3.1, .int p2.1] _ _
  refine zy_11 rfl (show zyR _ _ _ _ [some (.ref (43 + 3)), none, some (.int x2), some (.int p2.1)] [.int (p2.1 - p3.1)] _ _ from ?_)
  obtain ⟨rfl, rfl⟩ := zy_pi h
  exact zy_4 rfl ⟨rfl, rfl⟩
noncomputable def zyF253_10 (g253 : Int32 → Int32 → zy_S → Option (Int32 × zy_S))  (x2 : Int32) (s : zy_S) : Option (Int32 × zy_S) :=
(zyF251 (40 : Int32) s).bind fun p4 =>
(g253 (2 : Int32) x2 p4.2).bind fun p5 =>
some ((p5.1 * (3 : Int32)), p5.2)
theorem zyC253_10 {X : zx_X} {d : Nat} {g253 : Int32 → Int32 → zy_S → Option (Int32 × zy_S)}  (hd : 101 ≤ d) (hg253 : ∀ (x1 : Int32) (x2 : Int32) (s : zy_S) (r : Int32) (s' : zy_S), g253 x1 x2 s = some (r, s') → zyR X d 253 0 [some (.ref (43 + 3)), some (.int x1), some (.int x2), none] [] s (zyE (some (.int r)) s'))  {x2 : Int32} {s : zy_S} {r : Int32} {s' : zy_S}  (h : zyF253_10 g253 x2 s = some (r, s')) : zyR X (d + 1) 253 10 [some (.ref (43 + 3)), none, some (.int x2), none] [] s (zyE (some (.int r)) s') := by
  unfold zyF253_10 at h
  refine zy_0 rfl rfl (show zyR _ _ _ _ [some (.ref (43 + 3)), none, some (.int x2), none] [.ref (43 + 3)] _ _ from ?_)
  refine zy_3 rfl rfl (show zyR _ _ _ _ [some (.ref (43 + 3)), none, some (.int x2), none] [.int (40 : Int32), .ref (43 + 3)] _ _ from ?_)
  obtain ⟨p4, hp4, h⟩ := zy_bind h
  refine zy_5 (c := 43) (as := [.int (40 : Int32)]) (rest := []) (L := [some (.ref (43 + 3)), some (.int (40 : Int32))]) (d' := 1) rfl rfl rfl (Nat.le_of_ble_eq_true rfl) (by omega) rfl (Nat.le_of_ble_eq_true rfl) rfl rfl (zyC251 hp4) ?_
  show zyR _ _ _ _ [some (.ref (43 + 3)), none, some (.int x2), none] [] _ _
  refine zy_0 rfl rfl (show zyR _ _ _ _ [some (.ref (43 + 3)), none, some (.int x2), none] [.ref (43 + 3)] _ _ from ?_)
  refine zy_3 rfl rfl (show zyR _ _ _ _ [some (.ref (43 + 3)), none, some (.int x2), none] [.int (2 : Int32), .ref (43 + 3)] _ _ from ?_)
  refine zy_2 rfl rfl (show zyR _ _ _ _ [some (.ref (43 + 3)), none, some (.int x2), none] [.int x2, .int (2 : Int32), .ref (43 + 3)] _ _ from ?_)
  obtain ⟨p5, hp5, h⟩ := zy_bind h
  refine zy_5 (c := 43) (as := [.int (2 : Int32), .int x2]) (rest := []) (L := [some (.ref (43 + 3)), some (.int (2 : Int32)), some (.int x2), none]) (d' := d) rfl rfl rfl (Nat.le_of_ble_eq_true rfl) (by omega) rfl (Nat.le_of_ble_eq_true rfl) rfl rfl (hg253 (2 : Int32) x2 p4.2 _ _ hp5) ?_
  show zyR _ _ _ _ [some (.ref (43 + 3)), none, some (.int x2), none] [.int p5.1] _ _
  refine zy_3 rfl rfl (show zyR _ _ _ _ [some (.ref (43 + 3)), none, some (.int x2), none] [.int (3 : Int32), .int p5.1] _ _ from ?_)
  refine zy_12 rfl (show zyR _ _ _ _ [some (.ref (43 + 3)), none, some (.int x2), none] [.int (p5.1 * (3 : Int32))] _ _ from ?_)
  obtain ⟨rfl, rfl⟩ := zy_pi h
  exact zy_4 rfl ⟨rfl, rfl⟩
noncomputable def zyF253_0 (g253 : Int32 → Int32 → zy_S → Option (Int32 × zy_S))  (x1 : Int32) (x2 : Int32) (s : zy_S) : Option (Int32 × zy_S) :=
if x1 = (3 : Int32) then
zyF253_10 g253 x2 s
else
if x1 ≠ (5 : Int32) then
if x1 = (4 : Int32) then
zyF253_36 g253 x2 s
else
if x1 ≠ (7 : Int32) then
(zyF251 (11 : Int32) s).bind fun p6 =>
some ((x2 ^^^ (p6.2.1 43 33)), p6.2)
else
zyF253_36 g253 x2 s
else
zyF253_10 g253 x2 s
theorem zyC253_0 {X : zx_X} {d : Nat} {g253 : Int32 → Int32 → zy_S → Option (Int32 × zy_S)}  (hd : 101 ≤ d) (hg253 : ∀ (x1 : Int32) (x2 : Int32) (s : zy_S) (r : Int32) (s' : zy_S), g253 x1 x2 s = some (r, s') → zyR X d 253 0 [some (.ref (43 + 3)), some (.int x1), some (.int x2), none] [] s (zyE (some (.int r)) s'))  {x1 : Int32} {x2 : Int32} {s : zy_S} {r : Int32} {s' : zy_S}  (h : zyF253_0 g253 x1 x2 s = some (r, s')) : zyR X (d + 1) 253 0 [some (.ref (43 + 3)), some (.int x1), some (.int x2), none] [] s (zyE (some (.int r)) s') := by
  unfold zyF253_0 at h
  refine zy_2 rfl rfl (show zyR _ _ _ _ [some (.ref (43 + 3)), some (.int x1), some (.int x2), none] [.int x1] _ _ from ?_)
  refine zy_3 rfl rfl (show zyR _ _ _ _ [some (.ref (43 + 3)), some (.int x1), some (.int x2), none] [.int (3 : Int32), .int x1] _ _ from ?_)
  refine zy_25_0 rfl (fun b10 => (show zyR _ _ _ _ [some (.ref (43 + 3)), some (.int x1), some (.int x2), none] [] _ _ from ?_)) (fun b10 => (show zyR _ _ _ _ [some (.ref (43 + 3)), some (.int x1), some (.int x2), none] [] _ _ from ?_))
  · replace h := zy_ifp h b10
    exact zy_sub (show zy_le [some (.ref (43 + 3)), none, some (.int x2), none] [some (.ref (43 + 3)), some (.int x1), some (.int x2), none] from ⟨rfl, ⟨rfl, trivial⟩⟩) (zyC253_10 hd hg253 h)
  · replace h := zy_ifn h b10
    refine zy_2 rfl rfl (show zyR _ _ _ _ [some (.ref (43 + 3)), some (.int x1), some (.int x2), none] [.int x1] _ _ from ?_)
    refine zy_3 rfl rfl (show zyR _ _ _ _ [some (.ref (43 + 3)), some (.int x1), some (.int x2), none] [.int (5 : Int32), .int x1] _ _ from ?_)
    refine zy_25_1 rfl (fun b9 => (show zyR _ _ _ _ [some (.ref (43 + 3)), some (.int x1), some (.int x2), none] [] _ _ from ?_)) (fun b9 => (show zyR _ _ _ _ [some (.ref (43 + 3)), some (.int x1), some (.int x2), none] [] _ _ from ?_))
    · replace h := zy_ifp h b9
      refine zy_2 rfl rfl (show zyR _ _ _ _ [some (.ref (43 + 3)), some (.int x1), some (.int x2), none] [.int x1] _ _ from ?_)
      refine zy_3 rfl rfl (show zyR _ _ _ _ [some (.ref (43 + 3)), some (.int x1), some (.int x2), none] [.int (4 : Int32), .int x1] _ _ from ?_)
      refine zy_25_0 rfl (fun b8 => (show zyR _ _ _ _ [some (.ref (43 + 3)), some (.int x1), some (.int x2), none] [] _ _ from ?_)) (fun b8 => (show zyR _ _ _ _ [some (.ref (43 + 3)), some (.int x1), some (.int x2), none] [] _ _ from ?_))
      · replace h := zy_ifp h b8
        exact zy_sub (show zy_le [some (.ref (43 + 3)), none, some (.int x2), none] [some (.ref (43 + 3)), some (.int x1), some (.int x2), none] from ⟨rfl, ⟨rfl, trivial⟩⟩) (zyC253_36 hd hg253 h)
      · replace h := zy_ifn h b8
        refine zy_2 rfl rfl (show zyR _ _ _ _ [some (.ref (43 + 3)), some (.int x1), some (.int x2), none] [.int x1] _ _ from ?_)
        refine zy_3 rfl rfl (show zyR _ _ _ _ [some (.ref (43 + 3)), some (.int x1), some (.int x2), none] [.int (7 : Int32), .int x1] _ _ from ?_)
        refine zy_25_1 rfl (fun b7 => (show zyR _ _ _ _ [some (.ref (43 + 3)), some (.int x1), some (.int x2), none] [] _ _ from ?_)) (fun b7 => (show zyR _ _ _ _ [some (.ref (43 + 3)), some (.int x1), some (.int x2), none] [] _ _ from ?_))
        · replace h := zy_ifp h b7
          refine zy_0 rfl rfl (show zyR _ _ _ _ [some (.ref (43 + 3)), some (.int x1), some (.int x2), none] [.ref (43 + 3)] _ _ from ?_)
          refine zy_3 rfl rfl (show zyR _ _ _ _ [some (.ref (43 + 3)), some (.int x1), some (.int x2), none] [.int (11 : Int32), .ref (43 + 3)] _ _ from ?_)
          obtain ⟨p6, hp6, h⟩ := zy_bind h
          refine zy_5 (c := 43) (as := [.int (11 : Int32)]) (rest := []) (L := [some (.ref (43 + 3)), some (.int (11 : Int32))]) (d' := 1) rfl rfl rfl (Nat.le_of_ble_eq_true rfl) (by omega) rfl (Nat.le_of_ble_eq_true rfl) rfl rfl (zyC251 hp6) ?_
          show zyR _ _ _ _ [some (.ref (43 + 3)), some (.int x1), some (.int x2), none] [] _ _
          refine zy_2 rfl rfl (show zyR _ _ _ _ [some (.ref (43 + 3)), some (.int x1), some (.int x2), none] [.int x2] _ _ from ?_)
          refine zy_0 rfl rfl (show zyR _ _ _ _ [some (.ref (43 + 3)), some (.int x1), some (.int x2), none] [.ref (43 + 3), .int x2] _ _ from ?_)
          refine zy_1 (c := 43) rfl rfl rfl (show zyR _ _ _ _ [some (.ref (43 + 3)), some (.int x1), some (.int x2), none] [.int (p6.2.1 43 33), .int x2] _ _ from ?_)
          refine zy_15 rfl (show zyR _ _ _ _ [some (.ref (43 + 3)), some (.int x1), some (.int x2), none] [.int (x2 ^^^ (p6.2.1 43 33))] _ _ from ?_)
          obtain ⟨rfl, rfl⟩ := zy_pi h
          exact zy_4 rfl ⟨rfl, rfl⟩
        · replace h := zy_ifn h b7
          exact zy_sub (show zy_le [some (.ref (43 + 3)), none, some (.int x2), none] [some (.ref (43 + 3)), some (.int x1), some (.int x2), none] from ⟨rfl, ⟨rfl, trivial⟩⟩) (zyC253_36 hd hg253 h)
    · replace h := zy_ifn h b9
      exact zy_sub (show zy_le [some (.ref (43 + 3)), none, some (.int x2), none] [some (.ref (43 + 3)), some (.int x1), some (.int x2), none] from ⟨rfl, ⟨rfl, trivial⟩⟩) (zyC253_10 hd hg253 h)
noncomputable def zyG253 (n : Nat) : (Int32 → Int32 → zy_S → Option (Int32 × zy_S)) := Nat.rec (fun _ _ _ => none) (fun _ g => (fun x1 x2 s => zyF253_0 g x1 x2 s)) n
theorem zyG253_s (n : Nat) : zyG253 (n + 1) = (fun x1 x2 s => zyF253_0 (zyG253 n) x1 x2 s) := rfl
theorem zyS253 (n : Nat) (x1 : Int32) (x2 : Int32) (s : zy_S) : (zyG253 (n + 1)) x1 x2 s = zyF253_0 (zyG253 n) x1 x2 s := by
  rw [zyG253_s]
theorem zyG253_ok {X : zx_X} : ∀ n : Nat, (∀ (x1 : Int32) (x2 : Int32) (s : zy_S) (r : Int32) (s' : zy_S), (zyG253 n) x1 x2 s = some (r, s') → zyR X (101 + n) 253 0 [some (.ref (43 + 3)), some (.int x1), some (.int x2), none] [] s (zyE (some (.int r)) s'))
  | 0 => by
    · intro x1 x2 s r s'  h
      have h : (none : Option (Int32 × zy_S)) = some (r, s') := h
      cases h
  | n + 1 => by
    obtain i0 := zyG253_ok (X := X) n
    · intro x1 x2 s r s'  h
      rw [zyS253] at h
      exact zy_sub (show zy_le [some (.ref (43 + 3)), some (.int x1), some (.int x2), none] [some (.ref (43 + 3)), some (.int x1), some (.int x2), none] from ⟨rfl, ⟨rfl, ⟨rfl, trivial⟩⟩⟩) (zyC253_0 (d := 101 + n) (g253 := (zyG253 n)) (by omega) i0  h)
noncomputable def zyF253 : Int32 → Int32 → zy_S → Option (Int32 × zy_S) := (zyG253 100)
theorem zyC253 {X : zx_X} {x1 : Int32} {x2 : Int32} {s : zy_S} {r : Int32} {s' : zy_S}  (h : zyF253 x1 x2 s = some (r, s')) : zyR X 201 253 0 [some (.ref (43 + 3)), some (.int x1), some (.int x2), none] [] s (zyE (some (.int r)) s') := (zyG253_ok (X := X) 100) x1 x2 s r s'  h
/-! NineOpinionsModel.mindsAs(II)I, over what it calls -/
noncomputable def zyF252_10 (g252 : Int32 → Int32 → zy_S → Option (Int32 × zy_S))  (x2 : Int32) (s : zy_S) : Option (Int32 × zy_S) :=
(zyF251 (41 : Int32) s).bind fun p1 =>
(g252 (2 : Int32) (x2 + (1 : Int32)) p1.2).bind fun p2 =>
some (p2.1, p2.2)
theorem zyC252_10 {X : zx_X} {d : Nat} {g252 : Int32 → Int32 → zy_S → Option (Int32 × zy_S)}  (hd : 201 ≤ d) (hg252 : ∀ (x1 : Int32) (x2 : Int32) (s : zy_S) (r : Int32) (s' : zy_S), g252 x1 x2 s = some (r, s') → zyR X d 252 0 [some (.ref (43 + 3)), some (.int x1), some (.int x2), none] [] s (zyE (some (.int r)) s'))  {x2 : Int32} {s : zy_S} {r : Int32} {s' : zy_S}  (h : zyF252_10 g252 x2 s = some (r, s')) : zyR X (d + 1) 252 10 [some (.ref (43 + 3)), none, some (.int x2), none] [] s (zyE (some (.int r)) s') := by
  unfold zyF252_10 at h
  refine zy_0 rfl rfl (show zyR _ _ _ _ [some (.ref (43 + 3)), none, some (.int x2), none] [.ref (43 + 3)] _ _ from ?_)
  refine zy_3 rfl rfl (show zyR _ _ _ _ [some (.ref (43 + 3)), none, some (.int x2), none] [.int (41 : Int32), .ref (43 + 3)] _ _ from ?_)
  obtain ⟨p1, hp1, h⟩ := zy_bind h
  refine zy_5 (c := 43) (as := [.int (41 : Int32)]) (rest := []) (L := [some (.ref (43 + 3)), some (.int (41 : Int32))]) (d' := 1) rfl rfl rfl (Nat.le_of_ble_eq_true rfl) (by omega) rfl (Nat.le_of_ble_eq_true rfl) rfl rfl (zyC251 hp1) ?_
  show zyR _ _ _ _ [some (.ref (43 + 3)), none, some (.int x2), none] [] _ _
  refine zy_0 rfl rfl (show zyR _ _ _ _ [some (.ref (43 + 3)), none, some (.int x2), none] [.ref (43 + 3)] _ _ from ?_)
  refine zy_3 rfl rfl (show zyR _ _ _ _ [some (.ref (43 + 3)), none, some (.int x2), none] [.int (2 : Int32), .ref (43 + 3)] _ _ from ?_)
  refine zy_2 rfl rfl (show zyR _ _ _ _ [some (.ref (43 + 3)), none, some (.int x2), none] [.int x2, .int (2 : Int32), .ref (43 + 3)] _ _ from ?_)
  refine zy_3 rfl rfl (show zyR _ _ _ _ [some (.ref (43 + 3)), none, some (.int x2), none] [.int (1 : Int32), .int x2, .int (2 : Int32), .ref (43 + 3)] _ _ from ?_)
  refine zy_10 rfl (show zyR _ _ _ _ [some (.ref (43 + 3)), none, some (.int x2), none] [.int (x2 + (1 : Int32)), .int (2 : Int32), .ref (43 + 3)] _ _ from ?_)
  obtain ⟨p2, hp2, h⟩ := zy_bind h
  refine zy_5 (c := 43) (as := [.int (2 : Int32), .int (x2 + (1 : Int32))]) (rest := []) (L := [some (.ref (43 + 3)), some (.int (2 : Int32)), some (.int (x2 + (1 : Int32))), none]) (d' := d) rfl rfl rfl (Nat.le_of_ble_eq_true rfl) (by omega) rfl (Nat.le_of_ble_eq_true rfl) rfl rfl (hg252 (2 : Int32) (x2 + (1 : Int32)) p1.2 _ _ hp2) ?_
  show zyR _ _ _ _ [some (.ref (43 + 3)), none, some (.int x2), none] [.int p2.1] _ _
  obtain ⟨rfl, rfl⟩ := zy_pi h
  exact zy_4 rfl ⟨rfl, rfl⟩
noncomputable def zyF252_0 (g252 : Int32 → Int32 → zy_S → Option (Int32 × zy_S))  (x1 : Int32) (x2 : Int32) (s : zy_S) : Option (Int32 × zy_S) :=
if x1 = (3 : Int32) then
zyF252_10 g252 x2 s
else
if x1 ≠ (5 : Int32) then
if x1 ≠ (2 : Int32) then
if x1 ≠ (7 : Int32) then
(zyF251 (10 : Int32) s).bind fun p3 =>
(zyF250 (p3.2.1 43 32) x2 p3.2).bind fun p4 =>
some ((p4.1 * (2 : Int32)), p4.2)
else
(zyF251 (80 : Int32) s).bind fun p5 =>
(g252 (4 : Int32) x2 p5.2).bind fun p6 =>
(zyF253 (p6.2.1 43 32) (2 : Int32) p6.2).bind fun p7 =>
some ((p6.1 + p7.1), p7.2)
else
(zyF251 (30 : Int32) s).bind fun p9 =>
(g252 (0 : Int32) x2 p9.2).bind fun p10 =>
some ((-p10.1), p10.2)
else
zyF252_10 g252 x2 s
theorem zyC252_0 {X : zx_X} {d : Nat} {g252 : Int32 → Int32 → zy_S → Option (Int32 × zy_S)}  (hd : 201 ≤ d) (hg252 : ∀ (x1 : Int32) (x2 : Int32) (s : zy_S) (r : Int32) (s' : zy_S), g252 x1 x2 s = some (r, s') → zyR X d 252 0 [some (.ref (43 + 3)), some (.int x1), some (.int x2), none] [] s (zyE (some (.int r)) s'))  {x1 : Int32} {x2 : Int32} {s : zy_S} {r : Int32} {s' : zy_S}  (h : zyF252_0 g252 x1 x2 s = some (r, s')) : zyR X (d + 1) 252 0 [some (.ref (43 + 3)), some (.int x1), some (.int x2), none] [] s (zyE (some (.int r)) s') := by
  unfold zyF252_0 at h
  refine zy_2 rfl rfl (show zyR _ _ _ _ [some (.ref (43 + 3)), some (.int x1), some (.int x2), none] [.int x1] _ _ from ?_)
  refine zy_3 rfl rfl (show zyR _ _ _ _ [some (.ref (43 + 3)), some (.int x1), some (.int x2), none] [.int (3 : Int32), .int x1] _ _ from ?_)
  refine zy_25_0 rfl (fun b13 => (show zyR _ _ _ _ [some (.ref (43 + 3)), some (.int x1), some (.int x2), none] [] _ _ from ?_)) (fun b13 => (show zyR _ _ _ _ [some (.ref (43 + 3)), some (.int x1), some (.int x2), none] [] _ _ from ?_))
  · replace h := zy_ifp h b13
    exact zy_sub (show zy_le [some (.ref (43 + 3)), none, some (.int x2), none] [some (.ref (43 + 3)), some (.int x1), some (.int x2), none] from ⟨rfl, ⟨rfl, trivial⟩⟩) (zyC252_10 hd hg252 h)
  · replace h := zy_ifn h b13
    refine zy_2 rfl rfl (show zyR _ _ _ _ [some (.ref (43 + 3)), some (.int x1), some (.int x2), none] [.int x1] _ _ from ?_)
    refine zy_3 rfl rfl (show zyR _ _ _ _ [some (.ref (43 + 3)), some (.int x1), some (.int x2), none] [.int (5 : Int32), .int x1] _ _ from ?_)
    refine zy_25_1 rfl (fun b12 => (show zyR _ _ _ _ [some (.ref (43 + 3)), some (.int x1), some (.int x2), none] [] _ _ from ?_)) (fun b12 => (show zyR _ _ _ _ [some (.ref (43 + 3)), some (.int x1), some (.int x2), none] [] _ _ from ?_))
    · replace h := zy_ifp h b12
      refine zy_2 rfl rfl (show zyR _ _ _ _ [some (.ref (43 + 3)), some (.int x1), some (.int x2), none] [.int x1] _ _ from ?_)
      refine zy_3 rfl rfl (show zyR _ _ _ _ [some (.ref (43 + 3)), some (.int x1), some (.int x2), none] [.int (2 : Int32), .int x1] _ _ from ?_)
      refine zy_25_1 rfl (fun b11 => (show zyR _ _ _ _ [some (.ref (43 + 3)), some (.int x1), some (.int x2), none] [] _ _ from ?_)) (fun b11 => (show zyR _ _ _ _ [some (.ref (43 + 3)), some (.int x1), some (.int x2), none] [] _ _ from ?_))
      · replace h := zy_ifp h b11
        refine zy_2 rfl rfl (show zyR _ _ _ _ [some (.ref (43 + 3)), some (.int x1), some (.int x2), none] [.int x1] _ _ from ?_)
        refine zy_3 rfl rfl (show zyR _ _ _ _ [some (.ref (43 + 3)), some (.int x1), some (.int x2), none] [.int (7 : Int32), .int x1] _ _ from ?_)
        refine zy_25_1 rfl (fun b8 => (show zyR _ _ _ _ [some (.ref (43 + 3)), some (.int x1), some (.int x2), none] [] _ _ from ?_)) (fun b8 => (show zyR _ _ _ _ [some (.ref (43 + 3)), some (.int x1), some (.int x2), none] [] _ _ from ?_))
        · replace h := zy_ifp h b8
          refine zy_0 rfl rfl (show zyR _ _ _ _ [some (.ref (43 + 3)), some (.int x1), some (.int x2), none] [.ref (43 + 3)] _ _ from ?_)
          refine zy_3 rfl rfl (show zyR _ _ _ _ [some (.ref (43 + 3)), some (.int x1), some (.int x2), none] [.int (10 : Int32), .ref (43 + 3)] _ _ from ?_)
          obtain ⟨p3, hp3, h⟩ := zy_bind h
          refine zy_5 (c := 43) (as := [.int (10 : Int32)]) (rest := []) (L := [some (.ref (43 + 3)), some (.int (10 : Int32))]) (d' := 1) rfl rfl rfl (Nat.le_of_ble_eq_true rfl) (by omega) rfl (Nat.le_of_ble_eq_true rfl) rfl rfl (zyC251 hp3) ?_
          show zyR _ _ _ _ [some (.ref (43 + 3)), some (.int x1), some (.int x2), none] [] _ _
          refine zy_0 rfl rfl (show zyR _ _ _ _ [some (.ref (43 + 3)), some (.int x1), some (.int x2), none] [.ref (43 + 3)] _ _ from ?_)
          refine zy_0 rfl rfl (show zyR _ _ _ _ [some (.ref (43 + 3)), some (.int x1), some (.int x2), none] [.ref (43 + 3), .ref (43 + 3)] _ _ from ?_)
          refine zy_1 (c := 43) rfl rfl rfl (show zyR _ _ _ _ [some (.ref (43 + 3)), some (.int x1), some (.int x2), none] [.int (p3.2.1 43 32), .ref (43 + 3)] _ _ from ?_)
          refine zy_2 rfl rfl (show zyR _ _ _ _ [some (.ref (43 + 3)), some (.int x1), some (.int x2), none] [.int x2, .int (p3.2.1 43 32), .ref (43 + 3)] _ _ from ?_)
          obtain ⟨p4, hp4, h⟩ := zy_bind h
          refine zy_5 (c := 43) (as := [.int (p3.2.1 43 32), .int x2]) (rest := []) (L := [some (.ref (43 + 3)), some (.int (p3.2.1 43 32)), some (.int x2)]) (d' := 101) rfl rfl rfl (Nat.le_of_ble_eq_true rfl) (by omega) rfl (Nat.le_of_ble_eq_true rfl) rfl rfl (zyC250 hp4) ?_
          show zyR _ _ _ _ [some (.ref (43 + 3)), some (.int x1), some (.int x2), none] [.int p4.1] _ _
          refine zy_3 rfl rfl (show zyR _ _ _ _ [some (.ref (43 + 3)), some (.int x1), some (.int x2), none] [.int (2 : Int32), .int p4.1] _ _ from ?_)
          refine zy_12 rfl (show zyR _ _ _ _ [some (.ref (43 + 3)), some (.int x1), some (.int x2), none] [.int (p4.1 * (2 : Int32))] _ _ from ?_)
          obtain ⟨rfl, rfl⟩ := zy_pi h
          exact zy_4 rfl ⟨rfl, rfl⟩
        · replace h := zy_ifn h b8
          refine zy_0 rfl rfl (show zyR _ _ _ _ [some (.ref (43 + 3)), some (.int x1), some (.int x2), none] [.ref (43 + 3)] _ _ from ?_)
          refine zy_3 rfl rfl (show zyR _ _ _ _ [some (.ref (43 + 3)), some (.int x1), some (.int x2), none] [.int (80 : Int32), .ref (43 + 3)] _ _ from ?_)
          obtain ⟨p5, hp5, h⟩ := zy_bind h
          refine zy_5 (c := 43) (as := [.int (80 : Int32)]) (rest := []) (L := [some (.ref (43 + 3)), some (.int (80 : Int32))]) (d' := 1) rfl rfl rfl (Nat.le_of_ble_eq_true rfl) (by omega) rfl (Nat.le_of_ble_eq_true rfl) rfl rfl (zyC251 hp5) ?_
          show zyR _ _ _ _ [some (.ref (43 + 3)), some (.int x1), some (.int x2), none] [] _ _
          refine zy_0 rfl rfl (show zyR _ _ _ _ [some (.ref (43 + 3)), some (.int x1), some (.int x2), none] [.ref (43 + 3)] _ _ from ?_)
          refine zy_3 rfl rfl (show zyR _ _ _ _ [some (.ref (43 + 3)), some (.int x1), some (.int x2), none] [.int (4 : Int32), .ref (43 + 3)] _ _ from ?_)
          refine zy_2 rfl rfl (show zyR _ _ _ _ [some (.ref (43 + 3)), some (.int x1), some (.int x2), none] [.int x2, .int (4 : Int32), .ref (43 + 3)] _ _ from ?_)
          obtain ⟨p6, hp6, h⟩ := zy_bind h
          refine zy_5 (c := 43) (as := [.int (4 : Int32), .int x2]) (rest := []) (L := [some (.ref (43 + 3)), some (.int (4 : Int32)), some (.int x2), none]) (d' := d) rfl rfl rfl (Nat.le_of_ble_eq_true rfl) (by omega) rfl (Nat.le_of_ble_eq_true rfl) rfl rfl (hg252 (4 : Int32) x2 p5.2 _ _ hp6) ?_
          show zyR _ _ _ _ [some (.ref (43 + 3)), some (.int x1), some (.int x2), none] [.int p6.1] _ _
          refine zy_23 rfl rfl (show zyR _ _ _ _ [some (.ref (43 + 3)), some (.int x1), some (.int x2), some (.int p6.1)] [] _ _ from ?_)
          refine zy_2 rfl rfl (show zyR _ _ _ _ [some (.ref (43 + 3)), some (.int x1), some (.int x2), some (.int p6.1)] [.int p6.1] _ _ from ?_)
          refine zy_0 rfl rfl (show zyR _ _ _ _ [some (.ref (43 + 3)), some (.int x1), some (.int x2), some (.int p6.1)] [.ref (43 + 3), .int p6.1] _ _ from ?_)
          refine zy_0 rfl rfl (show zyR _ _ _ _ [some (.ref (43 + 3)), some (.int x1), some (.int x2), some (.int p6.1)] [.ref (43 + 3), .ref (43 + 3), .int p6.1] _ _ from ?_)
          refine zy_1 (c := 43) rfl rfl rfl (show zyR _ _ _ _ [some (.ref (43 + 3)), some (.int x1), some (.int x2), some (.int p6.1)] [.int (p6.2.1 43 32), .ref (43 + 3), .int p6.1] _ _ from ?_)
          refine zy_3 rfl rfl (show zyR _ _ _ _ [some (.ref (43 + 3)), some (.int x1), some (.int x2), some (.int p6.1)] [.int (2 : Int32), .int (p6.2.1 43 32), .ref (43 + 3), .int p6.1] _ _ from ?_)
          obtain ⟨p7, hp7, h⟩ := zy_bind h
          refine zy_5 (c := 43) (as := [.int (p6.2.1 43 32), .int (2 : Int32)]) (rest := [.int p6.1]) (L := [some (.ref (43 + 3)), some (.int (p6.2.1 43 32)), some (.int (2 : Int32)), none]) (d' := 201) rfl rfl rfl (Nat.le_of_ble_eq_true rfl) (by omega) rfl (Nat.le_of_ble_eq_true rfl) rfl rfl (zyC253 hp7) ?_
          show zyR _ _ _ _ [some (.ref (43 + 3)), some (.int x1), some (.int x2), some (.int p6.1)] [.int p7.1, .int p6.1] _ _
          refine zy_10 rfl (show zyR _ _ _ _ [some (.ref (43 + 3)), some (.int x1), some (.int x2), some (.int p6.1)] [.int (p6.1 + p7.1)] _ _ from ?_)
          obtain ⟨rfl, rfl⟩ := zy_pi h
          exact zy_4 rfl ⟨rfl, rfl⟩
      · replace h := zy_ifn h b11
        refine zy_0 rfl rfl (show zyR _ _ _ _ [some (.ref (43 + 3)), some (.int x1), some (.int x2), none] [.ref (43 + 3)] _ _ from ?_)
        refine zy_3 rfl rfl (show zyR _ _ _ _ [some (.ref (43 + 3)), some (.int x1), some (.int x2), none] [.int (30 : Int32), .ref (43 + 3)] _ _ from ?_)
        obtain ⟨p9, hp9, h⟩ := zy_bind h
        refine zy_5 (c := 43) (as := [.int (30 : Int32)]) (rest := []) (L := [some (.ref (43 + 3)), some (.int (30 : Int32))]) (d' := 1) rfl rfl rfl (Nat.le_of_ble_eq_true rfl) (by omega) rfl (Nat.le_of_ble_eq_true rfl) rfl rfl (zyC251 hp9) ?_
        show zyR _ _ _ _ [some (.ref (43 + 3)), some (.int x1), some (.int x2), none] [] _ _
        refine zy_0 rfl rfl (show zyR _ _ _ _ [some (.ref (43 + 3)), some (.int x1), some (.int x2), none] [.ref (43 + 3)] _ _ from ?_)
        refine zy_3 rfl rfl (show zyR _ _ _ _ [some (.ref (43 + 3)), some (.int x1), some (.int x2), none] [.int (0 : Int32), .ref (43 + 3)] _ _ from ?_)
        refine zy_2 rfl rfl (show zyR _ _ _ _ [some (.ref (43 + 3)), some (.int x1), some (.int x2), none] [.int x2, .int (0 : Int32), .ref (43 + 3)] _ _ from ?_)
        obtain ⟨p10, hp10, h⟩ := zy_bind h
        refine zy_5 (c := 43) (as := [.int (0 : Int32), .int x2]) (rest := []) (L := [some (.ref (43 + 3)), some (.int (0 : Int32)), some (.int x2), none]) (d' := d) rfl rfl rfl (Nat.le_of_ble_eq_true rfl) (by omega) rfl (Nat.le_of_ble_eq_true rfl) rfl rfl (hg252 (0 : Int32) x2 p9.2 _ _ hp10) ?_
        show zyR _ _ _ _ [some (.ref (43 + 3)), some (.int x1), some (.int x2), none] [.int p10.1] _ _
        refine zy_21 rfl (show zyR _ _ _ _ [some (.ref (43 + 3)), some (.int x1), some (.int x2), none] [.int (-p10.1)] _ _ from ?_)
        obtain ⟨rfl, rfl⟩ := zy_pi h
        exact zy_4 rfl ⟨rfl, rfl⟩
    · replace h := zy_ifn h b12
      exact zy_sub (show zy_le [some (.ref (43 + 3)), none, some (.int x2), none] [some (.ref (43 + 3)), some (.int x1), some (.int x2), none] from ⟨rfl, ⟨rfl, trivial⟩⟩) (zyC252_10 hd hg252 h)
noncomputable def zyG252 (n : Nat) : (Int32 → Int32 → zy_S → Option (Int32 × zy_S)) := Nat.rec (fun _ _ _ => none) (fun _ g => (fun x1 x2 s => zyF252_0 g x1 x2 s)) n
theorem zyG252_s (n : Nat) : zyG252 (n + 1) = (fun x1 x2 s => zyF252_0 (zyG252 n) x1 x2 s) := rfl
theorem zyS252 (n : Nat) (x1 : Int32) (x2 : Int32) (s : zy_S) : (zyG252 (n + 1)) x1 x2 s = zyF252_0 (zyG252 n) x1 x2 s := by
  rw [zyG252_s]
theorem zyG252_ok {X : zx_X} : ∀ n : Nat, (∀ (x1 : Int32) (x2 : Int32) (s : zy_S) (r : Int32) (s' : zy_S), (zyG252 n) x1 x2 s = some (r, s') → zyR X (201 + n) 252 0 [some (.ref (43 + 3)), some (.int x1), some (.int x2), none] [] s (zyE (some (.int r)) s'))
  | 0 => by
    · intro x1 x2 s r s'  h
      have h : (none : Option (Int32 × zy_S)) = some (r, s') := h
      cases h
  | n + 1 => by
    obtain i0 := zyG252_ok (X := X) n
    · intro x1 x2 s r s'  h
      rw [zyS252] at h
      exact zy_sub (show zy_le [some (.ref (43 + 3)), some (.int x1), some (.int x2), none] [some (.ref (43 + 3)), some (.int x1), some (.int x2), none] from ⟨rfl, ⟨rfl, ⟨rfl, trivial⟩⟩⟩) (zyC252_0 (d := 201 + n) (g252 := (zyG252 n)) (by omega) i0  h)
noncomputable def zyF252 : Int32 → Int32 → zy_S → Option (Int32 × zy_S) := (zyG252 100)
theorem zyC252 {X : zx_X} {x1 : Int32} {x2 : Int32} {s : zy_S} {r : Int32} {s' : zy_S}  (h : zyF252 x1 x2 s = some (r, s')) : zyR X 301 252 0 [some (.ref (43 + 3)), some (.int x1), some (.int x2), none] [] s (zyE (some (.int r)) s') := (zyG252_ok (X := X) 100) x1 x2 s r s'  h
/-! NineOpinionsModel.tellsAs(II)I, over what it calls -/
noncomputable def zyF254_0 (g254 : Int32 → Int32 → zy_S → Option (Int32 × zy_S))  (x1 : Int32) (x2 : Int32) (s : zy_S) : Option (Int32 × zy_S) :=
if x1 ≠ (5 : Int32) then
if x1 ≠ (7 : Int32) then
(zyF251 (2 : Int32) s).bind fun p1 =>
(zyF252 (p1.2.1 43 32) x2 p1.2).bind fun p2 =>
(zyF253 (p2.2.1 43 32) (1 : Int32) p2.2).bind fun p3 =>
some ((p2.1 - p3.1), p3.2)
else
(zyF251 (81 : Int32) s).bind fun p4 =>
(g254 (4 : Int32) x2 p4.2).bind fun p5 =>
some ((p5.1 - (1 : Int32)), p5.2)
else
(zyF251 (60 : Int32) s).bind fun p7 =>
(g254 (3 : Int32) x2 p7.2).bind fun p8 =>
some ((p8.1 ^^^ (5 : Int32)), p8.2)
theorem zyC254_0 {X : zx_X} {d : Nat} {g254 : Int32 → Int32 → zy_S → Option (Int32 × zy_S)}  (hd : 301 ≤ d) (hg254 : ∀ (x1 : Int32) (x2 : Int32) (s : zy_S) (r : Int32) (s' : zy_S), g254 x1 x2 s = some (r, s') → zyR X d 254 0 [some (.ref (43 + 3)), some (.int x1), some (.int x2), none] [] s (zyE (some (.int r)) s'))  {x1 : Int32} {x2 : Int32} {s : zy_S} {r : Int32} {s' : zy_S}  (h : zyF254_0 g254 x1 x2 s = some (r, s')) : zyR X (d + 1) 254 0 [some (.ref (43 + 3)), some (.int x1), some (.int x2), none] [] s (zyE (some (.int r)) s') := by
  unfold zyF254_0 at h
  refine zy_2 rfl rfl (show zyR _ _ _ _ [some (.ref (43 + 3)), some (.int x1), some (.int x2), none] [.int x1] _ _ from ?_)
  refine zy_3 rfl rfl (show zyR _ _ _ _ [some (.ref (43 + 3)), some (.int x1), some (.int x2), none] [.int (5 : Int32), .int x1] _ _ from ?_)
  refine zy_25_1 rfl (fun b9 => (show zyR _ _ _ _ [some (.ref (43 + 3)), some (.int x1), some (.int x2), none] [] _ _ from ?_)) (fun b9 => (show zyR _ _ _ _ [some (.ref (43 + 3)), some (.int x1), some (.int x2), none] [] _ _ from ?_))
  · replace h := zy_ifp h b9
    refine zy_2 rfl rfl (show zyR _ _ _ _ [some (.ref (43 + 3)), some (.int x1), some (.int x2), none] [.int x1] _ _ from ?_)
    refine zy_3 rfl rfl (show zyR _ _ _ _ [some (.ref (43 + 3)), some (.int x1), some (.int x2), none] [.int (7 : Int32), .int x1] _ _ from ?_)
    refine zy_25_1 rfl (fun b6 => (show zyR _ _ _ _ [some (.ref (43 + 3)), some (.int x1), some (.int x2), none] [] _ _ from ?_)) (fun b6 => (show zyR _ _ _ _ [some (.ref (43 + 3)), some (.int x1), some (.int x2), none] [] _ _ from ?_))
    · replace h := zy_ifp h b6
      refine zy_0 rfl rfl (show zyR _ _ _ _ [some (.ref (43 + 3)), some (.int x1), some (.int x2), none] [.ref (43 + 3)] _ _ from ?_)
      refine zy_3 rfl rfl (show zyR _ _ _ _ [some (.ref (43 + 3)), some (.int x1), some (.int x2), none] [.int (2 : Int32), .ref (43 + 3)] _ _ from ?_)
      obtain ⟨p1, hp1, h⟩ := zy_bind h
      refine zy_5 (c := 43) (as := [.int (2 : Int32)]) (rest := []) (L := [some (.ref (43 + 3)), some (.int (2 : Int32))]) (d' := 1) rfl rfl rfl (Nat.le_of_ble_eq_true rfl) (by omega) rfl (Nat.le_of_ble_eq_true rfl) rfl rfl (zyC251 hp1) ?_
      show zyR _ _ _ _ [some (.ref (43 + 3)), some (.int x1), some (.int x2), none] [] _ _
      refine zy_0 rfl rfl (show zyR _ _ _ _ [some (.ref (43 + 3)), some (.int x1), some (.int x2), none] [.ref (43 + 3)] _ _ from ?_)
      refine zy_0 rfl rfl (show zyR _ _ _ _ [some (.ref (43 + 3)), some (.int x1), some (.int x2), none] [.ref (43 + 3), .ref (43 + 3)] _ _ from ?_)
      refine zy_1 (c := 43) rfl rfl rfl (show zyR _ _ _ _ [some (.ref (43 + 3)), some (.int x1), some (.int x2), none] [.int (p1.2.1 43 32), .ref (43 + 3)] _ _ from ?_)
      refine zy_2 rfl rfl (show zyR _ _ _ _ [some (.ref (43 + 3)), some (.int x1), some (.int x2), none] [.int x2, .int (p1.2.1 43 32), .ref (43 + 3)] _ _ from ?_)
      obtain ⟨p2, hp2, h⟩ := zy_bind h
      refine zy_5 (c := 43) (as := [.int (p1.2.1 43 32), .int x2]) (rest := []) (L := [some (.ref (43 + 3)), some (.int (p1.2.1 43 32)), some (.int x2), none]) (d' := 301) rfl rfl rfl (Nat.le_of_ble_eq_true rfl) (by omega) rfl (Nat.le_of_ble_eq_true rfl) rfl rfl (zyC252 hp2) ?_
      show zyR _ _ _ _ [some (.ref (43 + 3)), some (.int x1), some (.int x2), none] [.int p2.1] _ _
      refine zy_23 rfl rfl (show zyR _ _ _ _ [some (.ref (43 + 3)), some (.int x1), some (.int x2), some (.int p2.1)] [] _ _ from ?_)
      refine zy_2 rfl rfl (show zyR _ _ _ _ [some (.ref (43 + 3)), some (.int x1), some (.int x2), some (.int p2.1)] [.int p2.1] _ _ from ?_)
      refine zy_0 rfl rfl (show zyR _ _ _ _ [some (.ref (43 + 3)), some (.int x1), some (.int x2), some (.int p2.1)] [.ref (43 + 3), .int p2.1] _ _ from ?_)
      refine zy_0 rfl rfl (show zyR _ _ _ _ [some (.ref (43 + 3)), some (.int x1), some (.int x2), some (.int p2.1)] [.ref (43 + 3), .ref (43 + 3), .int p2.1] _ _ from ?_)
      refine zy_1 (c := 43) rfl rfl rfl (show zyR _ _ _ _ [some (.ref (43 + 3)), some (.int x1), some (.int x2), some (.int p2.1)] [.int (p2.2.1 43 32), .ref (43 + 3), .int p2.1] _ _ from ?_)
      refine zy_3 rfl rfl (show zyR _ _ _ _ [some (.ref (43 + 3)), some (.int x1), some (.int x2), some (.int p2.1)] [.int (1 : Int32), .int (p2.2.1 43 32), .ref (43 + 3), .int p2.1] _ _ from ?_)
      obtain ⟨p3, hp3, h⟩ := zy_bind h
      refine zy_5 (c := 43) (as := [.int (p2.2.1 43 32), .int (1 : Int32)]) (rest := [.int p2.1]) (L := [some (.ref (43 + 3)), some (.int (p2.2.1 43 32)), some (.int (1 : Int32)), none]) (d' := 201) rfl rfl rfl (Nat.le_of_ble_eq_true rfl) (by omega) rfl (Nat.le_of_ble_eq_true rfl) rfl rfl (zyC253 hp3) ?_
      show zyR _ _ _ _ [some (.ref (43 + 3)), some (.int x1), some (.int x2), some (.int p2.1)] [.int p3.1, .int p2.1] _ _
      refine zy_11 rfl (show zyR _ _ _ _ [some (.ref (43 + 3)), some (.int x1), some (.int x2), some (.int p2.1)] [.int (p2.1 - p3.1)] _ _ from ?_)
      obtain ⟨rfl, rfl⟩ := zy_pi h
      exact zy_4 rfl ⟨rfl, rfl⟩
    · replace h := zy_ifn h b6
      refine zy_0 rfl rfl (show zyR _ _ _ _ [some (.ref (43 + 3)), some (.int x1), some (.int x2), none] [.ref (43 + 3)] _ _ from ?_)
      refine zy_3 rfl rfl (show zyR _ _ _ _ [some (.ref (43 + 3)), some (.int x1), some (.int x2), none] [.int (81 : Int32), .ref (43 + 3)] _ _ from ?_)
      obtain ⟨p4, hp4, h⟩ := zy_bind h
      refine zy_5 (c := 43) (as := [.int (81 : Int32)]) (rest := []) (L := [some (.ref (43 + 3)), some (.int (81 : Int32))]) (d' := 1) rfl rfl rfl (Nat.le_of_ble_eq_true rfl) (by omega) rfl (Nat.le_of_ble_eq_true rfl) rfl rfl (zyC251 hp4) ?_
      show zyR _ _ _ _ [some (.ref (43 + 3)), some (.int x1), some (.int x2), none] [] _ _
      refine zy_0 rfl rfl (show zyR _ _ _ _ [some (.ref (43 + 3)), some (.int x1), some (.int x2), none] [.ref (43 + 3)] _ _ from ?_)
      refine zy_3 rfl rfl (show zyR _ _ _ _ [some (.ref (43 + 3)), some (.int x1), some (.int x2), none] [.int (4 : Int32), .ref (43 + 3)] _ _ from ?_)
      refine zy_2 rfl rfl (show zyR _ _ _ _ [some (.ref (43 + 3)), some (.int x1), some (.int x2), none] [.int x2, .int (4 : Int32), .ref (43 + 3)] _ _ from ?_)
      obtain ⟨p5, hp5, h⟩ := zy_bind h
      refine zy_5 (c := 43) (as := [.int (4 : Int32), .int x2]) (rest := []) (L := [some (.ref (43 + 3)), some (.int (4 : Int32)), some (.int x2), none]) (d' := d) rfl rfl rfl (Nat.le_of_ble_eq_true rfl) (by omega) rfl (Nat.le_of_ble_eq_true rfl) rfl rfl (hg254 (4 : Int32) x2 p4.2 _ _ hp5) ?_
      show zyR _ _ _ _ [some (.ref (43 + 3)), some (.int x1), some (.int x2), none] [.int p5.1] _ _
      refine zy_3 rfl rfl (show zyR _ _ _ _ [some (.ref (43 + 3)), some (.int x1), some (.int x2), none] [.int (1 : Int32), .int p5.1] _ _ from ?_)
      refine zy_11 rfl (show zyR _ _ _ _ [some (.ref (43 + 3)), some (.int x1), some (.int x2), none] [.int (p5.1 - (1 : Int32))] _ _ from ?_)
      obtain ⟨rfl, rfl⟩ := zy_pi h
      exact zy_4 rfl ⟨rfl, rfl⟩
  · replace h := zy_ifn h b9
    refine zy_0 rfl rfl (show zyR _ _ _ _ [some (.ref (43 + 3)), some (.int x1), some (.int x2), none] [.ref (43 + 3)] _ _ from ?_)
    refine zy_3 rfl rfl (show zyR _ _ _ _ [some (.ref (43 + 3)), some (.int x1), some (.int x2), none] [.int (60 : Int32), .ref (43 + 3)] _ _ from ?_)
    obtain ⟨p7, hp7, h⟩ := zy_bind h
    refine zy_5 (c := 43) (as := [.int (60 : Int32)]) (rest := []) (L := [some (.ref (43 + 3)), some (.int (60 : Int32))]) (d' := 1) rfl rfl rfl (Nat.le_of_ble_eq_true rfl) (by omega) rfl (Nat.le_of_ble_eq_true rfl) rfl rfl (zyC251 hp7) ?_
    show zyR _ _ _ _ [some (.ref (43 + 3)), some (.int x1), some (.int x2), none] [] _ _
    refine zy_0 rfl rfl (show zyR _ _ _ _ [some (.ref (43 + 3)), some (.int x1), some (.int x2), none] [.ref (43 + 3)] _ _ from ?_)
    refine zy_3 rfl rfl (show zyR _ _ _ _ [some (.ref (43 + 3)), some (.int x1), some (.int x2), none] [.int (3 : Int32), .ref (43 + 3)] _ _ from ?_)
    refine zy_2 rfl rfl (show zyR _ _ _ _ [some (.ref (43 + 3)), some (.int x1), some (.int x2), none] [.int x2, .int (3 : Int32), .ref (43 + 3)] _ _ from ?_)
    obtain ⟨p8, hp8, h⟩ := zy_bind h
    refine zy_5 (c := 43) (as := [.int (3 : Int32), .int x2]) (rest := []) (L := [some (.ref (43 + 3)), some (.int (3 : Int32)), some (.int x2), none]) (d' := d) rfl rfl rfl (Nat.le_of_ble_eq_true rfl) (by omega) rfl (Nat.le_of_ble_eq_true rfl) rfl rfl (hg254 (3 : Int32) x2 p7.2 _ _ hp8) ?_
    show zyR _ _ _ _ [some (.ref (43 + 3)), some (.int x1), some (.int x2), none] [.int p8.1] _ _
    refine zy_3 rfl rfl (show zyR _ _ _ _ [some (.ref (43 + 3)), some (.int x1), some (.int x2), none] [.int (5 : Int32), .int p8.1] _ _ from ?_)
    refine zy_15 rfl (show zyR _ _ _ _ [some (.ref (43 + 3)), some (.int x1), some (.int x2), none] [.int (p8.1 ^^^ (5 : Int32))] _ _ from ?_)
    obtain ⟨rfl, rfl⟩ := zy_pi h
    exact zy_4 rfl ⟨rfl, rfl⟩
noncomputable def zyG254 (n : Nat) : (Int32 → Int32 → zy_S → Option (Int32 × zy_S)) := Nat.rec (fun _ _ _ => none) (fun _ g => (fun x1 x2 s => zyF254_0 g x1 x2 s)) n
theorem zyG254_s (n : Nat) : zyG254 (n + 1) = (fun x1 x2 s => zyF254_0 (zyG254 n) x1 x2 s) := rfl
theorem zyS254 (n : Nat) (x1 : Int32) (x2 : Int32) (s : zy_S) : (zyG254 (n + 1)) x1 x2 s = zyF254_0 (zyG254 n) x1 x2 s := by
  rw [zyG254_s]
theorem zyG254_ok {X : zx_X} : ∀ n : Nat, (∀ (x1 : Int32) (x2 : Int32) (s : zy_S) (r : Int32) (s' : zy_S), (zyG254 n) x1 x2 s = some (r, s') → zyR X (301 + n) 254 0 [some (.ref (43 + 3)), some (.int x1), some (.int x2), none] [] s (zyE (some (.int r)) s'))
  | 0 => by
    · intro x1 x2 s r s'  h
      have h : (none : Option (Int32 × zy_S)) = some (r, s') := h
      cases h
  | n + 1 => by
    obtain i0 := zyG254_ok (X := X) n
    · intro x1 x2 s r s'  h
      rw [zyS254] at h
      exact zy_sub (show zy_le [some (.ref (43 + 3)), some (.int x1), some (.int x2), none] [some (.ref (43 + 3)), some (.int x1), some (.int x2), none] from ⟨rfl, ⟨rfl, ⟨rfl, trivial⟩⟩⟩) (zyC254_0 (d := 301 + n) (g254 := (zyG254 n)) (by omega) i0  h)
noncomputable def zyF254 : Int32 → Int32 → zy_S → Option (Int32 × zy_S) := (zyG254 100)
theorem zyC254 {X : zx_X} {x1 : Int32} {x2 : Int32} {s : zy_S} {r : Int32} {s' : zy_S}  (h : zyF254 x1 x2 s = some (r, s')) : zyR X 401 254 0 [some (.ref (43 + 3)), some (.int x1), some (.int x2), none] [] s (zyE (some (.int r)) s') := (zyG254_ok (X := X) 100) x1 x2 s r s'  h
