/-! PART 41.44: methods as functions. Made by wip/v4/dcp.py. -/
/-! NineOpinionsModel.agree(II)I -/
noncomputable def zyF234_81  (k45 : Int32 → Int32 → Int32 → Int32 → zy_S → Option (Int32 × zy_S)) (x1 : Int32) (x2 : Int32) (x4 : Int32) (y0 : Int32) (y1 : Int32) (s : zy_S) : Option (Int32 × zy_S) :=
k45 x1 x2 (y1 + y0) (x4 + (1 : Int32)) s
theorem zyC234_81 {X : zx_X}  {k45 : Int32 → Int32 → Int32 → Int32 → zy_S → Option (Int32 × zy_S)}  (hk45 : ∀ (x1 : Int32) (x2 : Int32) (x3 : Int32) (x4 : Int32) (s : zy_S) (r : Int32) (s' : zy_S), k45 x1 x2 x3 x4 s = some (r, s') → zyR X 4 234 45 [some (.ref (43 + 3)), some (.int x1), some (.int x2), some (.int x3), some (.int x4)] [] s (zyE (some (.int r)) s')) {x1 : Int32} {x2 : Int32} {x4 : Int32} {y0 : Int32} {y1 : Int32} {s : zy_S} {r : Int32} {s' : zy_S}  (h : zyF234_81 k45 x1 x2 x4 y0 y1 s = some (r, s')) : zyR X 4 234 81 [some (.ref (43 + 3)), some (.int x1), some (.int x2), none, some (.int x4)] [.int y0, .int y1] s (zyE (some (.int r)) s') := by
  unfold zyF234_81 at h
  refine zy_10 rfl (show zyR _ _ _ _ [some (.ref (43 + 3)), some (.int x1), some (.int x2), none, some (.int x4)] [.int (y1 + y0)] _ _ from ?_)
  refine zy_23 rfl rfl (show zyR _ _ _ _ [some (.ref (43 + 3)), some (.int x1), some (.int x2), some (.int (y1 + y0)), some (.int x4)] [] _ _ from ?_)
  refine zy_22 rfl rfl rfl rfl (show zyR _ _ _ _ [some (.ref (43 + 3)), some (.int x1), some (.int x2), some (.int (y1 + y0)), some (.int (x4 + (1 : Int32)))] [] _ _ from ?_)
  refine zy_6 rfl (show zyR _ _ _ _ [some (.ref (43 + 3)), some (.int x1), some (.int x2), some (.int (y1 + y0)), some (.int (x4 + (1 : Int32)))] [] _ _ from ?_)
  exact zy_sub (show zy_le [some (.ref (43 + 3)), some (.int x1), some (.int x2), some (.int (y1 + y0)), some (.int (x4 + (1 : Int32)))] [some (.ref (43 + 3)), some (.int x1), some (.int x2), some (.int (y1 + y0)), some (.int (x4 + (1 : Int32)))] from ⟨rfl, ⟨rfl, ⟨rfl, ⟨rfl, ⟨rfl, trivial⟩⟩⟩⟩⟩) (hk45 x1 x2 (y1 + y0) (x4 + (1 : Int32)) s _ _ h)
noncomputable def zyF234_45b  (k45 : Int32 → Int32 → Int32 → Int32 → zy_S → Option (Int32 × zy_S)) (x1 : Int32) (x2 : Int32) (x3 : Int32) (x4 : Int32) (s : zy_S) : Option (Int32 × zy_S) :=
if (6 : Int32) ≤ x4 then
if x2 ≠ 0 then
(zyF235 (x1 / (10 : Int32)) (x1 - x1 / (10 : Int32) * (10 : Int32)) s).bind fun p1 =>
some (p1.1, p1.2)
else
some (x3, s)
else
(zyF205 (x1 / (10 : Int32)) x4 s).bind fun p3 =>
(zyF205 (x1 - x1 / (10 : Int32) * (10 : Int32)) x4 p3.2).bind fun p4 =>
if p3.1 ≠ p4.1 then
zyF234_81 k45 x1 x2 x4 (0 : Int32) x3 p4.2
else
zyF234_81 k45 x1 x2 x4 (1 : Int32) x3 p4.2
theorem zyC234_45b {X : zx_X}  {k45 : Int32 → Int32 → Int32 → Int32 → zy_S → Option (Int32 × zy_S)}  (hk45 : ∀ (x1 : Int32) (x2 : Int32) (x3 : Int32) (x4 : Int32) (s : zy_S) (r : Int32) (s' : zy_S), k45 x1 x2 x3 x4 s = some (r, s') → zyR X 4 234 45 [some (.ref (43 + 3)), some (.int x1), some (.int x2), some (.int x3), some (.int x4)] [] s (zyE (some (.int r)) s')) {x1 : Int32} {x2 : Int32} {x3 : Int32} {x4 : Int32} {s : zy_S} {r : Int32} {s' : zy_S}  (h : zyF234_45b k45 x1 x2 x3 x4 s = some (r, s')) : zyR X 4 234 45 [some (.ref (43 + 3)), some (.int x1), some (.int x2), some (.int x3), some (.int x4)] [] s (zyE (some (.int r)) s') := by
  unfold zyF234_45b at h
  refine zy_2 rfl rfl (show zyR _ _ _ _ [some (.ref (43 + 3)), some (.int x1), some (.int x2), some (.int x3), some (.int x4)] [.int x4] _ _ from ?_)
  refine zy_3 rfl rfl (show zyR _ _ _ _ [some (.ref (43 + 3)), some (.int x1), some (.int x2), some (.int x3), some (.int x4)] [.int (6 : Int32), .int x4] _ _ from ?_)
  refine zy_25_3 rfl (fun b6 => (show zyR _ _ _ _ [some (.ref (43 + 3)), some (.int x1), some (.int x2), some (.int x3), some (.int x4)] [] _ _ from ?_)) (fun b6 => (show zyR _ _ _ _ [some (.ref (43 + 3)), some (.int x1), some (.int x2), some (.int x3), some (.int x4)] [] _ _ from ?_))
  · replace h := zy_ifp h b6
    refine zy_2 rfl rfl (show zyR _ _ _ _ [some (.ref (43 + 3)), some (.int x1), some (.int x2), some (.int x3), some (.int x4)] [.int x2] _ _ from ?_)
    refine zy_24_1 rfl (fun b2 => (show zyR _ _ _ _ [some (.ref (43 + 3)), some (.int x1), some (.int x2), some (.int x3), some (.int x4)] [] _ _ from ?_)) (fun b2 => (show zyR _ _ _ _ [some (.ref (43 + 3)), some (.int x1), some (.int x2), some (.int x3), some (.int x4)] [] _ _ from ?_))
    · replace h := zy_ifp h b2
      refine zy_0 rfl rfl (show zyR _ _ _ _ [some (.ref (43 + 3)), some (.int x1), some (.int x2), some (.int x3), some (.int x4)] [.ref (43 + 3)] _ _ from ?_)
      refine zy_2 rfl rfl (show zyR _ _ _ _ [some (.ref (43 + 3)), some (.int x1), some (.int x2), some (.int x3), some (.int x4)] [.int x1, .ref (43 + 3)] _ _ from ?_)
      refine zy_3 rfl rfl (show zyR _ _ _ _ [some (.ref (43 + 3)), some (.int x1), some (.int x2), some (.int x3), some (.int x4)] [.int (10 : Int32), .int x1, .ref (43 + 3)] _ _ from ?_)
      refine zy_19 rfl (by decide) (show zyR _ _ _ _ [some (.ref (43 + 3)), some (.int x1), some (.int x2), some (.int x3), some (.int x4)] [.int (x1 / (10 : Int32)), .ref (43 + 3)] _ _ from ?_)
      refine zy_2 rfl rfl (show zyR _ _ _ _ [some (.ref (43 + 3)), some (.int x1), some (.int x2), some (.int x3), some (.int x4)] [.int x1, .int (x1 / (10 : Int32)), .ref (43 + 3)] _ _ from ?_)
      refine zy_3 rfl rfl (show zyR _ _ _ _ [some (.ref (43 + 3)), some (.int x1), some (.int x2), some (.int x3), some (.int x4)] [.int (10 : Int32), .int x1, .int (x1 / (10 : Int32)), .ref (43 + 3)] _ _ from ?_)
      refine zy_20 rfl (by decide) (show zyR _ _ _ _ [some (.ref (43 + 3)), some (.int x1), some (.int x2), some (.int x3), some (.int x4)] [.int (x1 - x1 / (10 : Int32) * (10 : Int32)), .int (x1 / (10 : Int32)), .ref (43 + 3)] _ _ from ?_)
      obtain ⟨p1, hp1, h⟩ := zy_bind h
      refine zy_5 (c := 43) (as := [.int (x1 / (10 : Int32)), .int (x1 - x1 / (10 : Int32) * (10 : Int32))]) (rest := []) (L := [some (.ref (43 + 3)), some (.int (x1 / (10 : Int32))), some (.int (x1 - x1 / (10 : Int32) * (10 : Int32))), none, none, none]) (d' := 3) rfl rfl rfl (Nat.le_of_ble_eq_true rfl) (Nat.le_of_ble_eq_true rfl) rfl (Nat.le_of_ble_eq_true rfl) rfl rfl (zyC235 hp1) ?_
      show zyR _ _ _ _ [some (.ref (43 + 3)), some (.int x1), some (.int x2), some (.int x3), some (.int x4)] [.int p1.1] _ _
      obtain ⟨rfl, rfl⟩ := zy_pi h
      exact zy_4 rfl ⟨rfl, rfl⟩
    · replace h := zy_ifn h b2
      refine zy_2 rfl rfl (show zyR _ _ _ _ [some (.ref (43 + 3)), some (.int x1), some (.int x2), some (.int x3), some (.int x4)] [.int x3] _ _ from ?_)
      refine zy_6 rfl (show zyR _ _ _ _ [some (.ref (43 + 3)), some (.int x1), some (.int x2), some (.int x3), some (.int x4)] [.int x3] _ _ from ?_)
      obtain ⟨rfl, rfl⟩ := zy_pi h
      exact zy_4 rfl ⟨rfl, rfl⟩
  · replace h := zy_ifn h b6
    refine zy_2 rfl rfl (show zyR _ _ _ _ [some (.ref (43 + 3)), some (.int x1), some (.int x2), some (.int x3), some (.int x4)] [.int x3] _ _ from ?_)
    refine zy_0 rfl rfl (show zyR _ _ _ _ [some (.ref (43 + 3)), some (.int x1), some (.int x2), some (.int x3), some (.int x4)] [.ref (43 + 3), .int x3] _ _ from ?_)
    refine zy_2 rfl rfl (show zyR _ _ _ _ [some (.ref (43 + 3)), some (.int x1), some (.int x2), some (.int x3), some (.int x4)] [.int x1, .ref (43 + 3), .int x3] _ _ from ?_)
    refine zy_3 rfl rfl (show zyR _ _ _ _ [some (.ref (43 + 3)), some (.int x1), some (.int x2), some (.int x3), some (.int x4)] [.int (10 : Int32), .int x1, .ref (43 + 3), .int x3] _ _ from ?_)
    refine zy_19 rfl (by decide) (show zyR _ _ _ _ [some (.ref (43 + 3)), some (.int x1), some (.int x2), some (.int x3), some (.int x4)] [.int (x1 / (10 : Int32)), .ref (43 + 3), .int x3] _ _ from ?_)
    refine zy_2 rfl rfl (show zyR _ _ _ _ [some (.ref (43 + 3)), some (.int x1), some (.int x2), some (.int x3), some (.int x4)] [.int x4, .int (x1 / (10 : Int32)), .ref (43 + 3), .int x3] _ _ from ?_)
    obtain ⟨p3, hp3, h⟩ := zy_bind h
    refine zy_5 (c := 43) (as := [.int (x1 / (10 : Int32)), .int x4]) (rest := [.int x3]) (L := [some (.ref (43 + 3)), some (.int (x1 / (10 : Int32))), some (.int x4)]) (d' := 2) rfl rfl rfl (Nat.le_of_ble_eq_true rfl) (Nat.le_of_ble_eq_true rfl) rfl (Nat.le_of_ble_eq_true rfl) rfl rfl (zyC205 hp3) ?_
    show zyR _ _ _ _ [some (.ref (43 + 3)), some (.int x1), some (.int x2), some (.int x3), some (.int x4)] [.int p3.1, .int x3] _ _
    refine zy_0 rfl rfl (show zyR _ _ _ _ [some (.ref (43 + 3)), some (.int x1), some (.int x2), some (.int x3), some (.int x4)] [.ref (43 + 3), .int p3.1, .int x3] _ _ from ?_)
    refine zy_2 rfl rfl (show zyR _ _ _ _ [some (.ref (43 + 3)), some (.int x1), some (.int x2), some (.int x3), some (.int x4)] [.int x1, .ref (43 + 3), .int p3.1, .int x3] _ _ from ?_)
    refine zy_3 rfl rfl (show zyR _ _ _ _ [some (.ref (43 + 3)), some (.int x1), some (.int x2), some (.int x3), some (.int x4)] [.int (10 : Int32), .int x1, .ref (43 + 3), .int p3.1, .int x3] _ _ from ?_)
    refine zy_20 rfl (by decide) (show zyR _ _ _ _ [some (.ref (43 + 3)), some (.int x1), some (.int x2), some (.int x3), some (.int x4)] [.int (x1 - x1 / (10 : Int32) * (10 : Int32)), .ref (43 + 3), .int p3.1, .int x3] _ _ from ?_)
    refine zy_2 rfl rfl (show zyR _ _ _ _ [some (.ref (43 + 3)), some (.int x1), some (.int x2), some (.int x3), some (.int x4)] [.int x4, .int (x1 - x1 / (10 : Int32) * (10 : Int32)), .ref (43 + 3), .int p3.1, .int x3] _ _ from ?_)
    obtain ⟨p4, hp4, h⟩ := zy_bind h
    refine zy_5 (c := 43) (as := [.int (x1 - x1 / (10 : Int32) * (10 : Int32)), .int x4]) (rest := [.int p3.1, .int x3]) (L := [some (.ref (43 + 3)), some (.int (x1 - x1 / (10 : Int32) * (10 : Int32))), some (.int x4)]) (d' := 2) rfl rfl rfl (Nat.le_of_ble_eq_true rfl) (Nat.le_of_ble_eq_true rfl) rfl (Nat.le_of_ble_eq_true rfl) rfl rfl (zyC205 hp4) ?_
    show zyR _ _ _ _ [some (.ref (43 + 3)), some (.int x1), some (.int x2), some (.int x3), some (.int x4)] [.int p4.1, .int p3.1, .int x3] _ _
    refine zy_25_1 rfl (fun b5 => (show zyR _ _ _ _ [some (.ref (43 + 3)), some (.int x1), some (.int x2), some (.int x3), some (.int x4)] [.int x3] _ _ from ?_)) (fun b5 => (show zyR _ _ _ _ [some (.ref (43 + 3)), some (.int x1), some (.int x2), some (.int x3), some (.int x4)] [.int x3] _ _ from ?_))
    · replace h := zy_ifp h b5
      refine zy_3 rfl rfl (show zyR _ _ _ _ [some (.ref (43 + 3)), some (.int x1), some (.int x2), some (.int x3), some (.int x4)] [.int (0 : Int32), .int x3] _ _ from ?_)
      exact zy_sub (show zy_le [some (.ref (43 + 3)), some (.int x1), some (.int x2), none, some (.int x4)] [some (.ref (43 + 3)), some (.int x1), some (.int x2), some (.int x3), some (.int x4)] from ⟨rfl, ⟨rfl, ⟨rfl, ⟨rfl, trivial⟩⟩⟩⟩) (zyC234_81 hk45 h)
    · replace h := zy_ifn h b5
      refine zy_3 rfl rfl (show zyR _ _ _ _ [some (.ref (43 + 3)), some (.int x1), some (.int x2), some (.int x3), some (.int x4)] [.int (1 : Int32), .int x3] _ _ from ?_)
      refine zy_6 rfl (show zyR _ _ _ _ [some (.ref (43 + 3)), some (.int x1), some (.int x2), some (.int x3), some (.int x4)] [.int (1 : Int32), .int x3] _ _ from ?_)
      exact zy_sub (show zy_le [some (.ref (43 + 3)), some (.int x1), some (.int x2), none, some (.int x4)] [some (.ref (43 + 3)), some (.int x1), some (.int x2), some (.int x3), some (.int x4)] from ⟨rfl, ⟨rfl, ⟨rfl, ⟨rfl, trivial⟩⟩⟩⟩) (zyC234_81 hk45 h)
noncomputable def zyF234_45   (n : Nat) : Int32 → Int32 → Int32 → Int32 → zy_S → Option (Int32 × zy_S) := Nat.rec (fun _ _ _ _ _ => none) (fun _ k45 => zyF234_45b k45) n
theorem zyC234_45 {X : zx_X}     : ∀ (n : Nat) (x1 : Int32) (x2 : Int32) (x3 : Int32) (x4 : Int32) (s : zy_S) (r : Int32) (s' : zy_S), zyF234_45 n x1 x2 x3 x4 s = some (r, s') → zyR X 4 234 45 [some (.ref (43 + 3)), some (.int x1), some (.int x2), some (.int x3), some (.int x4)] [] s (zyE (some (.int r)) s')
  | 0, _, _, _, _ => by
    intro s r s'  h
    have h : (none : Option (Int32 × zy_S)) = some (r, s') := h
    cases h
  | n + 1, x1, x2, x3, x4 => by
    intro s r s'  h
    exact zyC234_45b (k45 := zyF234_45 n) (fun x1 x2 x3 x4 s r s'  h => zyC234_45  n x1 x2 x3 x4 s r s'  h) h
noncomputable def zyF234   (x1 : Int32) (x2 : Int32) (s : zy_S) : Option (Int32 × zy_S) :=
if x1 < 0 then
some ((-1 : Int32), s)
else
(zyF185 ((x1 / (10 : Int32))).toInt64 s).bind fun p7 =>
if p7.1 = 0 then
some ((-1 : Int32), p7.2)
else
(zyF185 ((x1 - x1 / (10 : Int32) * (10 : Int32))).toInt64 p7.2).bind fun p8 =>
if p8.1 = 0 then
some ((-1 : Int32), p8.2)
else
(zyF179 (x2).toInt64 (0 : Int64) (1 : Int64) p8.2).bind fun p9 =>
if p9.1 ≠ 0 then
zyF234_45 zy_fu x1 x2 (0 : Int32) (0 : Int32) p9.2
else
some ((-1 : Int32), p9.2)
theorem zyC234 {X : zx_X}     {x1 : Int32} {x2 : Int32} {s : zy_S} {r : Int32} {s' : zy_S}  (h : zyF234 x1 x2 s = some (r, s')) : zyR X 4 234 0 [some (.ref (43 + 3)), some (.int x1), some (.int x2), none, none] [] s (zyE (some (.int r)) s') := by
  unfold zyF234 at h
  refine zy_2 rfl rfl (show zyR _ _ _ _ [some (.ref (43 + 3)), some (.int x1), some (.int x2), none, none] [.int x1] _ _ from ?_)
  refine zy_24_2 rfl (fun b13 => (show zyR _ _ _ _ [some (.ref (43 + 3)), some (.int x1), some (.int x2), none, none] [] _ _ from ?_)) (fun b13 => (show zyR _ _ _ _ [some (.ref (43 + 3)), some (.int x1), some (.int x2), none, none] [] _ _ from ?_))
  · replace h := zy_ifp h b13
    refine zy_3 rfl rfl (show zyR _ _ _ _ [some (.ref (43 + 3)), some (.int x1), some (.int x2), none, none] [.int (-1 : Int32)] _ _ from ?_)
    obtain ⟨rfl, rfl⟩ := zy_pi h
    exact zy_4 rfl ⟨rfl, rfl⟩
  · replace h := zy_ifn h b13
    refine zy_0 rfl rfl (show zyR _ _ _ _ [some (.ref (43 + 3)), some (.int x1), some (.int x2), none, none] [.ref (43 + 3)] _ _ from ?_)
    refine zy_2 rfl rfl (show zyR _ _ _ _ [some (.ref (43 + 3)), some (.int x1), some (.int x2), none, none] [.int x1, .ref (43 + 3)] _ _ from ?_)
    refine zy_3 rfl rfl (show zyR _ _ _ _ [some (.ref (43 + 3)), some (.int x1), some (.int x2), none, none] [.int (10 : Int32), .int x1, .ref (43 + 3)] _ _ from ?_)
    refine zy_19 rfl (by decide) (show zyR _ _ _ _ [some (.ref (43 + 3)), some (.int x1), some (.int x2), none, none] [.int (x1 / (10 : Int32)), .ref (43 + 3)] _ _ from ?_)
    refine zy_40 rfl (show zyR _ _ _ _ [some (.ref (43 + 3)), some (.int x1), some (.int x2), none, none] [.long ((x1 / (10 : Int32))).toInt64, .ref (43 + 3)] _ _ from ?_)
    obtain ⟨p7, hp7, h⟩ := zy_bind h
    refine zy_5 (c := 43) (as := [.long ((x1 / (10 : Int32))).toInt64]) (rest := []) (L := [some (.ref (43 + 3)), some (.long ((x1 / (10 : Int32))).toInt64), none]) (d' := 2) rfl rfl rfl (Nat.le_of_ble_eq_true rfl) (Nat.le_of_ble_eq_true rfl) rfl (Nat.le_of_ble_eq_true rfl) rfl rfl (zyC185 hp7) ?_
    show zyR _ _ _ _ [some (.ref (43 + 3)), some (.int x1), some (.int x2), none, none] [.int p7.1] _ _
    refine zy_24_0 rfl (fun b12 => (show zyR _ _ _ _ [some (.ref (43 + 3)), some (.int x1), some (.int x2), none, none] [] _ _ from ?_)) (fun b12 => (show zyR _ _ _ _ [some (.ref (43 + 3)), some (.int x1), some (.int x2), none, none] [] _ _ from ?_))
    · replace h := zy_ifp h b12
      refine zy_3 rfl rfl (show zyR _ _ _ _ [some (.ref (43 + 3)), some (.int x1), some (.int x2), none, none] [.int (-1 : Int32)] _ _ from ?_)
      obtain ⟨rfl, rfl⟩ := zy_pi h
      exact zy_4 rfl ⟨rfl, rfl⟩
    · replace h := zy_ifn h b12
      refine zy_0 rfl rfl (show zyR _ _ _ _ [some (.ref (43 + 3)), some (.int x1), some (.int x2), none, none] [.ref (43 + 3)] _ _ from ?_)
      refine zy_2 rfl rfl (show zyR _ _ _ _ [some (.ref (43 + 3)), some (.int x1), some (.int x2), none, none] [.int x1, .ref (43 + 3)] _ _ from ?_)
      refine zy_3 rfl rfl (show zyR _ _ _ _ [some (.ref (43 + 3)), some (.int x1), some (.int x2), none, none] [.int (10 : Int32), .int x1, .ref (43 + 3)] _ _ from ?_)
      refine zy_20 rfl (by decide) (show zyR _ _ _ _ [some (.ref (43 + 3)), some (.int x1), some (.int x2), none, none] [.int (x1 - x1 / (10 : Int32) * (10 : Int32)), .ref (43 + 3)] _ _ from ?_)
      refine zy_40 rfl (show zyR _ _ _ _ [some (.ref (43 + 3)), some (.int x1), some (.int x2), none, none] [.long ((x1 - x1 / (10 : Int32) * (10 : Int32))).toInt64, .ref (43 + 3)] _ _ from ?_)
      obtain ⟨p8, hp8, h⟩ := zy_bind h
      refine zy_5 (c := 43) (as := [.long ((x1 - x1 / (10 : Int32) * (10 : Int32))).toInt64]) (rest := []) (L := [some (.ref (43 + 3)), some (.long ((x1 - x1 / (10 : Int32) * (10 : Int32))).toInt64), none]) (d' := 2) rfl rfl rfl (Nat.le_of_ble_eq_true rfl) (Nat.le_of_ble_eq_true rfl) rfl (Nat.le_of_ble_eq_true rfl) rfl rfl (zyC185 hp8) ?_
      show zyR _ _ _ _ [some (.ref (43 + 3)), some (.int x1), some (.int x2), none, none] [.int p8.1] _ _
      refine zy_24_0 rfl (fun b11 => (show zyR _ _ _ _ [some (.ref (43 + 3)), some (.int x1), some (.int x2), none, none] [] _ _ from ?_)) (fun b11 => (show zyR _ _ _ _ [some (.ref (43 + 3)), some (.int x1), some (.int x2), none, none] [] _ _ from ?_))
      · replace h := zy_ifp h b11
        refine zy_3 rfl rfl (show zyR _ _ _ _ [some (.ref (43 + 3)), some (.int x1), some (.int x2), none, none] [.int (-1 : Int32)] _ _ from ?_)
        obtain ⟨rfl, rfl⟩ := zy_pi h
        exact zy_4 rfl ⟨rfl, rfl⟩
      · replace h := zy_ifn h b11
        refine zy_2 rfl rfl (show zyR _ _ _ _ [some (.ref (43 + 3)), some (.int x1), some (.int x2), none, none] [.int x2] _ _ from ?_)
        refine zy_40 rfl (show zyR _ _ _ _ [some (.ref (43 + 3)), some (.int x1), some (.int x2), none, none] [.long (x2).toInt64] _ _ from ?_)
        refine zy_36 rfl rfl (show zyR _ _ _ _ [some (.ref (43 + 3)), some (.int x1), some (.int x2), none, none] [.long (0 : Int64), .long (x2).toInt64] _ _ from ?_)
        refine zy_36 rfl rfl (show zyR _ _ _ _ [some (.ref (43 + 3)), some (.int x1), some (.int x2), none, none] [.long (1 : Int64), .long (0 : Int64), .long (x2).toInt64] _ _ from ?_)
        obtain ⟨p9, hp9, h⟩ := zy_bind h
        refine zy_60 (as := [.long (x2).toInt64, .long (0 : Int64), .long (1 : Int64)]) (rest := []) (L := [some (.long (x2).toInt64), none, some (.long (0 : Int64)), none, some (.long (1 : Int64)), none]) (d' := 1) rfl rfl (Nat.le_of_ble_eq_true rfl) (Nat.le_of_ble_eq_true rfl) rfl (Nat.le_of_ble_eq_true rfl) rfl rfl (zyC179 hp9) ?_
        show zyR _ _ _ _ [some (.ref (43 + 3)), some (.int x1), some (.int x2), none, none] [.int p9.1] _ _
        refine zy_24_1 rfl (fun b10 => (show zyR _ _ _ _ [some (.ref (43 + 3)), some (.int x1), some (.int x2), none, none] [] _ _ from ?_)) (fun b10 => (show zyR _ _ _ _ [some (.ref (43 + 3)), some (.int x1), some (.int x2), none, none] [] _ _ from ?_))
        · replace h := zy_ifp h b10
          refine zy_3 rfl rfl (show zyR _ _ _ _ [some (.ref (43 + 3)), some (.int x1), some (.int x2), none, none] [.int (0 : Int32)] _ _ from ?_)
          refine zy_23 rfl rfl (show zyR _ _ _ _ [some (.ref (43 + 3)), some (.int x1), some (.int x2), some (.int (0 : Int32)), none] [] _ _ from ?_)
          refine zy_3 rfl rfl (show zyR _ _ _ _ [some (.ref (43 + 3)), some (.int x1), some (.int x2), some (.int (0 : Int32)), none] [.int (0 : Int32)] _ _ from ?_)
          refine zy_23 rfl rfl (show zyR _ _ _ _ [some (.ref (43 + 3)), some (.int x1), some (.int x2), some (.int (0 : Int32)), some (.int (0 : Int32))] [] _ _ from ?_)
          exact zy_sub (show zy_le [some (.ref (43 + 3)), some (.int x1), some (.int x2), some (.int (0 : Int32)), some (.int (0 : Int32))] [some (.ref (43 + 3)), some (.int x1), some (.int x2), some (.int (0 : Int32)), some (.int (0 : Int32))] from ⟨rfl, ⟨rfl, ⟨rfl, ⟨rfl, ⟨rfl, trivial⟩⟩⟩⟩⟩) (zyC234_45 zy_fu x1 x2 (0 : Int32) (0 : Int32) p9.2 _ _ h)
        · replace h := zy_ifn h b10
          refine zy_3 rfl rfl (show zyR _ _ _ _ [some (.ref (43 + 3)), some (.int x1), some (.int x2), none, none] [.int (-1 : Int32)] _ _ from ?_)
          obtain ⟨rfl, rfl⟩ := zy_pi h
          exact zy_4 rfl ⟨rfl, rfl⟩
