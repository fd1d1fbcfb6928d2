/-! PART 41.91: methods as functions. Made by wip/v4/dcp.py. -/
/-! NineOpinionsModel.mindsAs(II)I, over what it calls -/
noncomputable def zyF252_10 (g252 : Int32 → Int32 → zy_S → Option (Int32 × zy_S))  (x2 : Int32) (s : zy_S) : Option (Int32 × zy_S) :=
(zyF251 (41 : Int32) s).bind fun p1 =>
(g252 (2 : Int32) (x2 + (1 : Int32)) p1.2).bind fun p2 =>
some (p2.1, p2.2)
theorem zyC252_10 {X : zx_X} {d : Nat} {g252 : Int32 → Int32 → zy_S → Option (Int32 × zy_S)}  (hd : 201 ≤ d) (hg252 : ∀ (x1 : Int32) (x2 : Int32) (s : zy_S) (r : Int32) (s' : zy_S), g252 x1 x2 s = some (r, s') → zyR X d 252 0 [some (.ref (43 + 3)), some (.int x1), some (.int x2), none] [] s (zyE (some (.int r)) s'))  {x2 : Int32} {s : zy_S} {r : Int32} {s' : zy_S}  (h : zyF252_10 g252 x2 s = some (r, s')) : zyR X (d + 1) 252 10 [some (.ref (43 + 3)), none, some (.int x2), none] [] s (zyE (some (.int r)) s') := by
  unfold zyF252_10 at h
  refine zy_0 rfl rfl (show zyR _ _ _ _ [some (.ref (43 + 3)), none, some (.int x2), none] [.ref (43 + 3)] _ _ from ?_)
  refine zy_3 rfl rfl (show zyR _ _ _ _ [some (.ref (43 + 3)), none, some (.int x2), none] [.int (41 : Int32), .ref (43 + 3)] _ _ from ?_)
  obtain ⟨p1, hp1, h⟩ := zy_bind h
  refine zy_5 (c := 43) (as := [.int (41 : Int32)]) (rest := []) (L := [some (.ref (43 + 3)), some (.int (41 : Int32))]) (d' := 1) rfl rfl rfl (Nat.le_of_ble_eq_true rfl) (by omega) rfl (Nat.le_of_ble_eq_true rfl) rfl rfl (zyC251 hp1) ?_
  show zyR _ _ _ _ [some (.ref (43 + 3)), none, some (.int x2), none] [] _ _
  refine zy_0 rfl rfl (show zyR _ _ _ _ [some (.ref (43 + 3)), none, some (.int x2), none] [.ref (43 + 3)] _ _ from ?_)
  refine zy_3 rfl rfl (show zyR _ _ _ _ [some (.ref (43 + 3)), none, some (.int x2), none] [.int (2 : Int32), .ref (43 + 3)] _ _ from ?_)
  refine zy_2 rfl rfl (show zyR _ _ _ _ [some (.ref (43 + 3)), none, some (.int x2), none] [.int x2, .int (2 : Int32), .ref (43 + 3)] _ _ from ?_)
  refine zy_3 rfl rfl (show zyR _ _ _ _ [some (.ref (43 + 3)), none, some (.int x2), none] [.int (1 : Int32), .int x2, .int (2 : Int32), .ref (43 + 3)] _ _ from ?_)
  refine zy_10 rfl (show zyR _ _ _ _ [some (.ref (43 + 3)), none, some (.int x2), none] [.int (x2 + (1 : Int32)), .int (2 : Int32), .ref (43 + 3)] _ _ from ?_)
  obtain ⟨p2, hp2, h⟩ := zy_bind h
  refine zy_5 (c := 43) (as := [.int (2 : Int32), .int (x2 + (1 : Int32))]) (rest := []) (L := [some (.ref (43 + 3)), some (.int (2 : Int32)), some (.int (x2 + (1 : Int32))), none]) (d' := d) rfl rfl rfl (Nat.le_of_ble_eq_true rfl) (by omega) rfl (Nat.le_of_ble_eq_true rfl) rfl rfl (hg252 (2 : Int32) (x2 + (1 : Int32)) p1.2 _ _ hp2) ?_
  show zyR _ _ _ _ [some (.ref (43 + 3)), none, some (.int x2), none] [.int p2.1] _ _
  obtain ⟨rfl, rfl⟩ := zy_pi h
  exact zy_4 rfl ⟨rfl, rfl⟩
noncomputable def zyF252_0 (g252 : Int32 → Int32 → zy_S → Option (Int32 × zy_S))  (x1 : Int32) (x2 : Int32) (s : zy_S) : Option (Int32 × zy_S) :=
if x1 = (3 : Int32) then
zyF252_10 g252 x2 s
else
if x1 ≠ (5 : Int32) then
if x1 ≠ (2 : Int32) then
if x1 ≠ (7 : Int32) then
(zyF251 (10 : Int32) s).bind fun p3 =>
(zyF250 (p3.2.1 43 32) x2 p3.2).bind fun p4 =>
some ((p4.1 * (2 : Int32)), p4.2)
else
(zyF251 (80 : Int32) s).bind fun p5 =>
(g252 (4 : Int32) x2 p5.2).bind fun p6 =>
(zyF253 (p6.2.1 43 32) (2 : Int32) p6.2).bind fun p7 =>
some ((p6.1 + p7.1), p7.2)
else
(zyF251 (30 : Int32) s).bind fun p9 =>
(g252 (0 : Int32) x2 p9.2).bind fun p10 =>
some ((-p10.1), p10.2)
else
zyF252_10 g252 x2 s
theorem zyC252_0 {X : zx_X} {d : Nat} {g252 : Int32 → Int32 → zy_S → Option (Int32 × zy_S)}  (hd : 201 ≤ d) (hg252 : ∀ (x1 : Int32) (x2 : Int32) (s : zy_S) (r : Int32) (s' : zy_S), g252 x1 x2 s = some (r, s') → zyR X d 252 0 [some (.ref (43 + 3)), some (.int x1), some (.int x2), none] [] s (zyE (some (.int r)) s'))  {x1 : Int32} {x2 : Int32} {s : zy_S} {r : Int32} {s' : zy_S}  (h : zyF252_0 g252 x1 x2 s = some (r, s')) : zyR X (d + 1) 252 0 [some (.ref (43 + 3)), some (.int x1), some (.int x2), none] [] s (zyE (some (.int r)) s') := by
  unfold zyF252_0 at h
  refine zy_2 rfl rfl (show zyR _ _ _ _ [some (.ref (43 + 3)), some (.int x1), some (.int x2), none] [.int x1] _ _ from ?_)
  refine zy_3 rfl rfl (show zyR _ _ _ _ [some (.ref (43 + 3)), some (.int x1), some (.int x2), none] [.int (3 : Int32), .int x1] _ _ from ?_)
  refine zy_25_0 rfl (fun b13 => (show zyR _ _ _ _ [some (.ref (43 + 3)), some (.int x1), some (.int x2), none] [] _ _ from ?_)) (fun b13 => (show zyR _ _ _ _ [some (.ref (43 + 3)), some (.int x1), some (.int x2), none] [] _ _ from ?_))
  · replace h := zy_ifp h b13
    exact zy_sub (show zy_le [some (.ref (43 + 3)), none, some (.int x2), none] [some (.ref (43 + 3)), some (.int x1), some (.int x2), none] from ⟨rfl, ⟨rfl, trivial⟩⟩) (zyC252_10 hd hg252 h)
  · replace h := zy_ifn h b13
    refine zy_2 rfl rfl (show zyR _ _ _ _ [some (.ref (43 + 3)), some (.int x1), some (.int x2), none] [.int x1] _ _ from ?_)
    refine zy_3 rfl rfl (show zyR _ _ _ _ [some (.ref (43 + 3)), some (.int x1), some (.int x2), none] [.int (5 : Int32), .int x1] _ _ from ?_)
    refine zy_25_1 rfl (fun b12 => (show zyR _ _ _ _ [some (.ref (43 + 3)), some (.int x1), some (.int x2), none] [] _ _ from ?_)) (fun b12 => (show zyR _ _ _ _ [some (.ref (43 + 3)), some (.int x1), some (.int x2), none] [] _ _ from ?_))
    · replace h := zy_ifp h b12
      refine zy_2 rfl rfl (show zyR _ _ _ _ [some (.ref (43 + 3)), some (.int x1), some (.int x2), none] [.int x1] _ _ from ?_)
      refine zy_3 rfl rfl (show zyR _ _ _ _ [some (.ref (43 + 3)), some (.int x1), some (.int x2), none] [.int (2 : Int32), .int x1] _ _ from ?_)
      refine zy_25_1 rfl (fun b11 => (show zyR _ _ _ _ [some (.ref (43 + 3)), some (.int x1), some (.int x2), none] [] _ _ from ?_)) (fun b11 => (show zyR _ _ _ _ [some (.ref (43 + 3)), some (.int x1), some (.int x2), none] [] _ _ from ?_))
      · replace h := zy_ifp h b11
        refine zy_2 rfl rfl (show zyR _ _ _ _ [some (.ref (43 + 3)), some (.int x1), some (.int x2), none] [.int x1] _ _ from ?_)
        refine zy_3 rfl rfl (show zyR _ _ _ _ [some (.ref (43 + 3)), some (.int x1), some (.int x2), none] [.int (7 : Int32), .int x1] _ _ from ?_)
        refine zy_25_1 rfl (fun b8 => (show zyR _ _ _ _ [some (.ref (43 + 3)), some (.int x1), some (.int x2), none] [] _ _ from ?_)) (fun b8 => (show zyR _ _ _ _ [some (.ref (43 + 3)), some (.int x1), some (.int x2), none] [] _ _ from ?_))
        · replace h := zy_ifp h b8
          refine zy_0 rfl rfl (show zyR _ _ _ _ [some (.ref (43 + 3)), some (.int x1), some (.int x2), none] [.ref (43 + 3)] _ _ from ?_)
          refine zy_3 rfl rfl (show zyR _ _ _ _ [some (.ref (43 + 3)), some (.int x1), some (.int x2), none] [.int (10 : Int32), .ref (43 + 3)] _ _ from ?_)
          obtain ⟨p3, hp3, h⟩ := zy_bind h
          refine zy_5 (c := 43) (as := [.int (10 : Int32)]) (rest := []) (L := [some (.ref (43 + 3)), some (.int (10 : Int32))]) (d' := 1) rfl rfl rfl (Nat.le_of_ble_eq_true rfl) (by omega) rfl (Nat.le_of_ble_eq_true rfl) rfl rfl (zyC251 hp3) ?_
          show zyR _ _ _ _ [some (.ref (43 + 3)), some (.int x1), some (.int x2), none] [] _ _
          refine zy_0 rfl rfl (show zyR _ _ _ _ [some (.ref (43 + 3)), some (.int x1), some (.int x2), none] [.ref (43 + 3)] _ _ from ?_)
          refine zy_0 rfl rfl (show zyR _ _ _ _ [some (.ref (43 + 3)), some (.int x1), some (.int x2), none] [.ref (43 + 3), .ref (43 + 3)] _ _ from ?_)
          refine zy_1 (c := 43) rfl rfl rfl (show zyR _ _ _ _ [some (.ref (43 + 3)), some (.int x1), some (.int x2), none] [.int (p3.2.1 43 32), .ref (43 + 3)] _ _ from ?_)
          refine zy_2 rfl rfl (show zyR _ _ _ _ [some (.ref (43 + 3)), some (.int x1), some (.int x2), none] [.int x2, .int (p3.2.1 43 32), .ref (43 + 3)] _ _ from ?_)
          obtain ⟨p4, hp4, h⟩ := zy_bind h
          refine zy_5 (c := 43) (as := [.int (p3.2.1 43 32), .int x2]) (rest := []) (L := [some (.ref (43 + 3)), some (.int (p3.2.1 43 32)), some (.int x2)]) (d' := 101) rfl rfl rfl (Nat.le_of_ble_eq_true rfl) (by omega) rfl (Nat.le_of_ble_eq_true rfl) rfl rfl (zyC250 hp4) ?_
          show zyR _ _ _ _ [some (.ref (43 + 3)), some (.int x1), some (.int x2), none] [.int p4.1] _ _
          refine zy_3 rfl rfl (show zyR _ _ _ _ [some (.ref (43 + 3)), some (.int x1), some (.int x2), none] [.int (2 : Int32), .int p4.1] _ _ from ?_)
          refine zy_12 rfl (show zyR _ _ _ _ [some (.ref (43 + 3)), some (.int x1), some (.int x2), none] [.int (p4.1 * (2 : Int32))] _ _ from ?_)
          obtain ⟨rfl, rfl⟩ := zy_pi h
          exact zy_4 rfl ⟨rfl, rfl⟩
        · replace h := zy_ifn h b8
          refine zy_0 rfl rfl (show zyR _ _ _ _ [some (.ref (43 + 3)), some (.int x1), some (.int x2), none] [.ref (43 + 3)] _ _ from ?_)
          refine zy_3 rfl rfl (show zyR _ _ _ _ [some (.ref (43 + 3)), some (.int x1), some (.int x2), none] [.int (80 : Int32), .ref (43 + 3)] _ _ from ?_)
          obtain ⟨p5, hp5, h⟩ := zy_bind h
          refine zy_5 (c := 43) (as := [.int (80 : Int32)]) (rest := []) (L := [some (.ref (43 + 3)), some (.int (80 : Int32))]) (d' := 1) rfl rfl rfl (Nat.le_of_ble_eq_true rfl) (by omega) rfl (Nat.le_of_ble_eq_true rfl) rfl rfl (zyC251 hp5) ?_
          show zyR _ _ _ _ [some (.ref (43 + 3)), some (.int x1), some (.int x2), none] [] _ _
          refine zy_0 rfl rfl (show zyR _ _ _ _ [some (.ref (43 + 3)), some (.int x1), some (.int x2), none] [.ref (43 + 3)] _ _ from ?_)
          refine zy_3 rfl rfl (show zyR _ _ _ _ [some (.ref (43 + 3)), some (.int x1), some (.int x2), none] [.int (4 : Int32), .ref (43 + 3)] _ _ from ?_)
          refine zy_2 rfl rfl (show zyR _ _ _ _ [some (.ref (43 + 3)), some (.int x1), some (.int x2), none] [.int x2, .int (4 : Int32), .ref (43 + 3)] _ _ from ?_)
          obtain ⟨p6, hp6, h⟩ := zy_bind h
          refine zy_5 (c := 43) (as := [.int (4 : Int32), .int x2]) (rest := []) (L := [some (.ref (43 + 3)), some (.int (4 : Int32)), some (.int x2), none]) (d' := d) rfl rfl rfl (Nat.le_of_ble_eq_true rfl) (by omega) rfl (Nat.le_of_ble_eq_true rfl) rfl rfl (hg252 (4 : Int32) x2 p5.2 _ _ hp6) ?_
          show zyR _ _ _ _ [some (.ref (43 + 3)), some (.int x1), some (.int x2), none] [.int p6.1] _ _
          refine zy_23 rfl rfl (show zyR _ _ _ _ [some (.ref (43 + 3)), some (.int x1), some (.int x2), some (.int p6.1)] [] _ _ from ?_)
          refine zy_2 rfl rfl (show zyR _ _ _ _ [some (.ref (43 + 3)), some (.int x1), some (.int x2), some (.int p6.1)] [.int p6.1] _ _ from ?_)
          refine zy_0 rfl rfl (show zyR _ _ _ _ [some (.ref (43 + 3)), some (.int x1), some (.int x2), some (.int p6.1)] [.ref (43 + 3), .int p6.1] _ _ from ?_)
          refine zy_0 rfl rfl (show zyR _ _ _ _ [some (.ref (43 + 3)), some (.int x1), some (.int x2), some (.int p6.1)] [.ref (43 + 3), .ref (43 + 3), .int p6.1] _ _ from ?_)
          refine zy_1 (c := 43) rfl rfl rfl (show zyR _ _ _ _ [some (.ref (43 + 3)), some (.int x1), some (.int x2), some (.int p6.1)] [.int (p6.2.1 43 32), .ref (43 + 3), .int p6.1] _ _ from ?_)
          refine zy_3 rfl rfl (show zyR _ _ _ _ [some (.ref (43 + 3)), some (.int x1), some (.int x2), some (.int p6.1)] [.int (2 : Int32), .int (p6.2.1 43 32), .ref (43 + 3), .int p6.1] _ _ from ?_)
          obtain ⟨p7, hp7, h⟩ := zy_bind h
          refine zy_5 (c := 43) (as := [.int (p6.2.1 43 32), .int (2 : Int32)]) (rest := [.int p6.1]) (L := [some (.ref (43 + 3)), some (.int (p6.2.1 43 32)), some (.int (2 : Int32)), none]) (d' := 201) rfl rfl rfl (Nat.le_of_ble_eq_true rfl) (by omega) rfl (Nat.le_of_ble_eq_true rfl) rfl rfl (zyC253 hp7) ?_
          show zyR _ _ _ _ [some (.ref (43 + 3)), some (.int x1), some (.int x2), some (.int p6.1)] [.int p7.1, .int p6.1] _ _
          refine zy_10 rfl (show zyR _ _ _ _ [some (.ref (43 + 3)), some (.int x1), some (.int x2), some (.int p6.1)] [.int (p6.1 + p7.1)] _ _ from ?_)
          obtain ⟨rfl, rfl⟩ := zy_pi h
          exact zy_4 rfl ⟨rfl, rfl⟩
      · replace h := zy_ifn h b11
        refine zy_0 rfl rfl (show zyR _ _ _ _ [some (.ref (43 + 3)), some (.int x1), some (.int x2), none] [.ref (43 + 3)] _ _ from ?_)
        refine zy_3 rfl rfl (show zyR _ _ _ _ [some (.ref (43 + 3)), some (.int x1), some (.int x2), none] [.int (30 : Int32), .ref (43 + 3)] _ _ from ?_)
        obtain ⟨p9, hp9, h⟩ := zy_bind h
        refine zy_5 (c := 43) (as := [.int (30 : Int32)]) (rest := []) (L := [some (.ref (43 + 3)), some (.int (30 : Int32))]) (d' := 1) rfl rfl rfl (Nat.le_of_ble_eq_true rfl) (by omega) rfl (Nat.le_of_ble_eq_true rfl) rfl rfl (zyC251 hp9) ?_
        show zyR _ _ _ _ [some (.ref (43 + 3)), some (.int x1), some (.int x2), none] [] _ _
        refine zy_0 rfl rfl (show zyR _ _ _ _ [some (.ref (43 + 3)), some (.int x1), some (.int x2), none] [.ref (43 + 3)] _ _ from ?_)
        refine zy_3 rfl rfl (show zyR _ _ _ _ [some (.ref (43 + 3)), some (.int x1), some (.int x2), none] [.int (0 : Int32), .ref (43 + 3)] _ _ from ?_)
        refine zy_2 rfl rfl (show zyR _ _ _ _ [some (.ref (43 + 3)), some (.int x1), some (.int x2), none] [.int x2, .int (0 : Int32), .ref (43 + 3)] _ _ from ?_)
        obtain ⟨p10, hp10, h⟩ := zy_bind h
        refine zy_5 (c := 43) (as := [.int (0 : Int32), .int x2]) (rest := []) (L := [some (.ref (43 + 3)), some (.int (0 : Int32)), some (.int x2), none]) (d' := d) rfl rfl rfl (Nat.le_of_ble_eq_true rfl) (by omega) rfl (Nat.le_of_ble_eq_true rfl) rfl rfl (hg252 (0 : Int32) x2 p9.2 _ _ hp10) ?_
        show zyR _ _ _ _ [some (.ref (43 + 3)), some (.int x1), some (.int x2), none] [.int p10.1] _ _
        refine zy_21 rfl (show zyR _ _ _ _ [some (.ref (43 + 3)), some (.int x1), some (.int x2), none] [.int (-p10.1)] _ _ from ?_)
        obtain ⟨rfl, rfl⟩ := zy_pi h
        exact zy_4 rfl ⟨rfl, rfl⟩
    · replace h := zy_ifn h b12
      exact zy_sub (show zy_le [some (.ref (43 + 3)), none, some (.int x2), none] [some (.ref (43 + 3)), some (.int x1), some (.int x2), none] from ⟨rfl, ⟨rfl, trivial⟩⟩) (zyC252_10 hd hg252 h)
noncomputable def zyG252 (n : Nat) : (Int32 → Int32 → zy_S → Option (Int32 × zy_S)) := Nat.rec (fun _ _ _ => none) (fun _ g => (fun x1 x2 s => zyF252_0 g x1 x2 s)) n
theorem zyG252_s (n : Nat) : zyG252 (n + 1) = (fun x1 x2 s => zyF252_0 (zyG252 n) x1 x2 s) := rfl
theorem zyS252 (n : Nat) (x1 : Int32) (x2 : Int32) (s : zy_S) : (zyG252 (n + 1)) x1 x2 s = zyF252_0 (zyG252 n) x1 x2 s := by
  rw [zyG252_s]
theorem zyG252_ok {X : zx_X} : ∀ n : Nat, (∀ (x1 : Int32) (x2 : Int32) (s : zy_S) (r : Int32) (s' : zy_S), (zyG252 n) x1 x2 s = some (r, s') → zyR X (201 + n) 252 0 [some (.ref (43 + 3)), some (.int x1), some (.int x2), none] [] s (zyE (some (.int r)) s'))
  | 0 => by
    · intro x1 x2 s r s'  h
      have h : (none : Option (Int32 × zy_S)) = some (r, s') := h
      cases h
  | n + 1 => by
    obtain i0 := zyG252_ok (X := X) n
    · intro x1 x2 s r s'  h
      rw [zyS252] at h
      exact zy_sub (show zy_le [some (.ref (43 + 3)), some (.int x1), some (.int x2), none] [some (.ref (43 + 3)), some (.int x1), some (.int x2), none] from ⟨rfl, ⟨rfl, ⟨rfl, trivial⟩⟩⟩) (zyC252_0 (d := 201 + n) (g252 := (zyG252 n)) (by omega) i0  h)
noncomputable def zyF252 : Int32 → Int32 → zy_S → Option (Int32 × zy_S) := (zyG252 100)
theorem zyC252 {X : zx_X} {x1 : Int32} {x2 : Int32} {s : zy_S} {r : Int32} {s' : zy_S}  (h : zyF252 x1 x2 s = some (r, s')) : zyR X 301 252 0 [some (.ref (43 + 3)), some (.int x1), some (.int x2), none] [] s (zyE (some (.int r)) s') := (zyG252_ok (X := X) 100) x1 x2 s r s'  h
