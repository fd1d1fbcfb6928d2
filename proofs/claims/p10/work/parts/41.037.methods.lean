/-! PART 41.37: methods as functions. Made by wip/v4/dcp.py. -/
/-! NineOpinionsModel.cost(II)I -/
noncomputable def zyF217_103  (k48 : Int32 → Int32 → Int32 → Int32 → Int32 → zy_S → Option (Int32 × zy_S)) (x1 : Int32) (x2 : Int32) (x3 : Int32) (x4 : Int32) (x5 : Int32) (s : zy_S) : Option (Int32 × zy_S) :=
k48 x1 x2 x3 x4 (x5 + (1 : Int32)) s
theorem zyC217_103 {X : zx_X}  {k48 : Int32 → Int32 → Int32 → Int32 → Int32 → zy_S → Option (Int32 × zy_S)}  (hk48 : ∀ (x1 : Int32) (x2 : Int32) (x3 : Int32) (x4 : Int32) (x5 : Int32) (s : zy_S) (r : Int32) (s' : zy_S), k48 x1 x2 x3 x4 x5 s = some (r, s') → zyR X 108 217 48 [some (.ref (43 + 3)), some (.int x1), some (.int x2), some (.int x3), some (.int x4), some (.int x5), none] [] s (zyE (some (.int r)) s')) {x1 : Int32} {x2 : Int32} {x3 : Int32} {x4 : Int32} {x5 : Int32} {s : zy_S} {r : Int32} {s' : zy_S}  (h : zyF217_103 k48 x1 x2 x3 x4 x5 s = some (r, s')) : zyR X 108 217 103 [some (.ref (43 + 3)), some (.int x1), some (.int x2), some (.int x3), some (.int x4), some (.int x5), none] [] s (zyE (some (.int r)) s') := by
  unfold zyF217_103 at h
  refine zy_22 rfl rfl rfl rfl (show zyR _ _ _ _ [some (.ref (43 + 3)), some (.int x1), some (.int x2), some (.int x3), some (.int x4), some (.int (x5 + (1 : Int32))), none] [] _ _ from ?_)
  refine zy_6 rfl (show zyR _ _ _ _ [some (.ref (43 + 3)), some (.int x1), some (.int x2), some (.int x3), some (.int x4), some (.int (x5 + (1 : Int32))), none] [] _ _ from ?_)
  exact zy_sub (show zy_le [some (.ref (43 + 3)), some (.int x1), some (.int x2), some (.int x3), some (.int x4), some (.int (x5 + (1 : Int32))), none] [some (.ref (43 + 3)), some (.int x1), some (.int x2), some (.int x3), some (.int x4), some (.int (x5 + (1 : Int32))), none] from ⟨rfl, ⟨rfl, ⟨rfl, ⟨rfl, ⟨rfl, ⟨rfl, trivial⟩⟩⟩⟩⟩⟩) (hk48 x1 x2 x3 x4 (x5 + (1 : Int32)) s _ _ h)
noncomputable def zyF217_96  (k48 : Int32 → Int32 → Int32 → Int32 → Int32 → zy_S → Option (Int32 × zy_S)) (x1 : Int32) (x2 : Int32) (x5 : Int32) (x6 : Int32) (s : zy_S) : Option (Int32 × zy_S) :=
zyF217_103 k48 x1 x2 x5 x6 x5 s
theorem zyC217_96 {X : zx_X}  {k48 : Int32 → Int32 → Int32 → Int32 → Int32 → zy_S → Option (Int32 × zy_S)}  (hk48 : ∀ (x1 : Int32) (x2 : Int32) (x3 : Int32) (x4 : Int32) (x5 : Int32) (s : zy_S) (r : Int32) (s' : zy_S), k48 x1 x2 x3 x4 x5 s = some (r, s') → zyR X 108 217 48 [some (.ref (43 + 3)), some (.int x1), some (.int x2), some (.int x3), some (.int x4), some (.int x5), none] [] s (zyE (some (.int r)) s')) {x1 : Int32} {x2 : Int32} {x5 : Int32} {x6 : Int32} {s : zy_S} {r : Int32} {s' : zy_S}  (h : zyF217_96 k48 x1 x2 x5 x6 s = some (r, s')) : zyR X 108 217 96 [some (.ref (43 + 3)), some (.int x1), some (.int x2), none, none, some (.int x5), some (.int x6)] [] s (zyE (some (.int r)) s') := by
  unfold zyF217_96 at h
  refine zy_2 rfl rfl (show zyR _ _ _ _ [some (.ref (43 + 3)), some (.int x1), some (.int x2), none, none, some (.int x5), some (.int x6)] [.int x5] _ _ from ?_)
  refine zy_23 rfl rfl (show zyR _ _ _ _ [some (.ref (43 + 3)), some (.int x1), some (.int x2), some (.int x5), none, some (.int x5), some (.int x6)] [] _ _ from ?_)
  refine zy_2 rfl rfl (show zyR _ _ _ _ [some (.ref (43 + 3)), some (.int x1), some (.int x2), some (.int x5), none, some (.int x5), some (.int x6)] [.int x6] _ _ from ?_)
  refine zy_23 rfl rfl (show zyR _ _ _ _ [some (.ref (43 + 3)), some (.int x1), some (.int x2), some (.int x5), some (.int x6), some (.int x5), some (.int x6)] [] _ _ from ?_)
  exact zy_sub (show zy_le [some (.ref (43 + 3)), some (.int x1), some (.int x2), some (.int x5), some (.int x6), some (.int x5), none] [some (.ref (43 + 3)), some (.int x1), some (.int x2), some (.int x5), some (.int x6), some (.int x5), some (.int x6)] from ⟨rfl, ⟨rfl, ⟨rfl, ⟨rfl, ⟨rfl, ⟨rfl, trivial⟩⟩⟩⟩⟩⟩) (zyC217_103 hk48 h)
noncomputable def zyF217_48b  (k48 : Int32 → Int32 → Int32 → Int32 → Int32 → zy_S → Option (Int32 × zy_S)) (x1 : Int32) (x2 : Int32) (x3 : Int32) (x4 : Int32) (x5 : Int32) (s : zy_S) : Option (Int32 × zy_S) :=
if (24 : Int32) ≤ x5 then
if x2 ≠ 0 then
some (x4, s)
else
some (x3, s)
else
(zyF208 (s.1 43 7) x5 s).bind fun p2 =>
if p2.1 = 0 then
zyF217_103 k48 x1 x2 x3 x4 x5 p2.2
else
(zyF211 x1 ((p2.2.1 43 7) &&& (((1 : Int32) <<< (x5 &&& 31)) ^^^ (-1 : Int32))) p2.2).bind fun p3 =>
if x3 < 0 then
zyF217_96 k48 x1 x2 x5 p3.1 p3.2
else
if x4 ≤ p3.1 then
zyF217_103 k48 x1 x2 x3 x4 x5 p3.2
else
zyF217_96 k48 x1 x2 x5 p3.1 p3.2
theorem zyC217_48b {X : zx_X}  {k48 : Int32 → Int32 → Int32 → Int32 → Int32 → zy_S → Option (Int32 × zy_S)}  (hk48 : ∀ (x1 : Int32) (x2 : Int32) (x3 : Int32) (x4 : Int32) (x5 : Int32) (s : zy_S) (r : Int32) (s' : zy_S), k48 x1 x2 x3 x4 x5 s = some (r, s') → zyR X 108 217 48 [some (.ref (43 + 3)), some (.int x1), some (.int x2), some (.int x3), some (.int x4), some (.int x5), none] [] s (zyE (some (.int r)) s')) {x1 : Int32} {x2 : Int32} {x3 : Int32} {x4 : Int32} {x5 : Int32} {s : zy_S} {r : Int32} {s' : zy_S}  (h : zyF217_48b k48 x1 x2 x3 x4 x5 s = some (r, s')) : zyR X 108 217 48 [some (.ref (43 + 3)), some (.int x1), some (.int x2), some (.int x3), some (.int x4), some (.int x5), none] [] s (zyE (some (.int r)) s') := by
  unfold zyF217_48b at h
  refine zy_2 rfl rfl (show zyR _ _ _ _ [some (.ref (43 + 3)), some (.int x1), some (.int x2), some (.int x3), some (.int x4), some (.int x5), none] [.int x5] _ _ from ?_)
  refine zy_3 rfl rfl (show zyR _ _ _ _ [some (.ref (43 + 3)), some (.int x1), some (.int x2), some (.int x3), some (.int x4), some (.int x5), none] [.int (24 : Int32), .int x5] _ _ from ?_)
  refine zy_25_3 rfl (fun b7 => (show zyR _ _ _ _ [some (.ref (43 + 3)), some (.int x1), some (.int x2), some (.int x3), some (.int x4), some (.int x5), none] [] _ _ from ?_)) (fun b7 => (show zyR _ _ _ _ [some (.ref (43 + 3)), some (.int x1), some (.int x2), some (.int x3), some (.int x4), some (.int x5), none] [] _ _ from ?_))
  · replace h := zy_ifp h b7
    refine zy_2 rfl rfl (show zyR _ _ _ _ [some (.ref (43 + 3)), some (.int x1), some (.int x2), some (.int x3), some (.int x4), some (.int x5), none] [.int x2] _ _ from ?_)
    refine zy_24_1 rfl (fun b1 => (show zyR _ _ _ _ [some (.ref (43 + 3)), some (.int x1), some (.int x2), some (.int x3), some (.int x4), some (.int x5), none] [] _ _ from ?_)) (fun b1 => (show zyR _ _ _ _ [some (.ref (43 + 3)), some (.int x1), some (.int x2), some (.int x3), some (.int x4), some (.int x5), none] [] _ _ from ?_))
    · replace h := zy_ifp h b1
      refine zy_2 rfl rfl (show zyR _ _ _ _ [some (.ref (43 + 3)), some (.int x1), some (.int x2), some (.int x3), some (.int x4), some (.int x5), none] [.int x4] _ _ from ?_)
      obtain ⟨rfl, rfl⟩ := zy_pi h
      exact zy_4 rfl ⟨rfl, rfl⟩
    · replace h := zy_ifn h b1
      refine zy_2 rfl rfl (show zyR _ _ _ _ [some (.ref (43 + 3)), some (.int x1), some (.int x2), some (.int x3), some (.int x4), some (.int x5), none] [.int x3] _ _ from ?_)
      refine zy_6 rfl (show zyR _ _ _ _ [some (.ref (43 + 3)), some (.int x1), some (.int x2), some (.int x3), some (.int x4), some (.int x5), none] [.int x3] _ _ from ?_)
      obtain ⟨rfl, rfl⟩ := zy_pi h
      exact zy_4 rfl ⟨rfl, rfl⟩
  · replace h := zy_ifn h b7
    refine zy_0 rfl rfl (show zyR _ _ _ _ [some (.ref (43 + 3)), some (.int x1), some (.int x2), some (.int x3), some (.int x4), some (.int x5), none] [.ref (43 + 3)] _ _ from ?_)
    refine zy_1 (c := 43) rfl rfl rfl (show zyR _ _ _ _ [some (.ref (43 + 3)), some (.int x1), some (.int x2), some (.int x3), some (.int x4), some (.int x5), none] [.int (s.1 43 7)] _ _ from ?_)
    refine zy_2 rfl rfl (show zyR _ _ _ _ [some (.ref (43 + 3)), some (.int x1), some (.int x2), some (.int x3), some (.int x4), some (.int x5), none] [.int x5, .int (s.1 43 7)] _ _ from ?_)
    obtain ⟨p2, hp2, h⟩ := zy_bind h
    refine zy_60 (as := [.int (s.1 43 7), .int x5]) (rest := []) (L := [some (.int (s.1 43 7)), some (.int x5)]) (d' := 1) rfl rfl (Nat.le_of_ble_eq_true rfl) (Nat.le_of_ble_eq_true rfl) rfl (Nat.le_of_ble_eq_true rfl) rfl rfl (zyC208 hp2) ?_
    show zyR _ _ _ _ [some (.ref (43 + 3)), some (.int x1), some (.int x2), some (.int x3), some (.int x4), some (.int x5), none] [.int p2.1] _ _
    refine zy_24_0 rfl (fun b6 => (show zyR _ _ _ _ [some (.ref (43 + 3)), some (.int x1), some (.int x2), some (.int x3), some (.int x4), some (.int x5), none] [] _ _ from ?_)) (fun b6 => (show zyR _ _ _ _ [some (.ref (43 + 3)), some (.int x1), some (.int x2), some (.int x3), some (.int x4), some (.int x5), none] [] _ _ from ?_))
    · replace h := zy_ifp h b6
      exact zy_sub (show zy_le [some (.ref (43 + 3)), some (.int x1), some (.int x2), some (.int x3), some (.int x4), some (.int x5), none] [some (.ref (43 + 3)), some (.int x1), some (.int x2), some (.int x3), some (.int x4), some (.int x5), none] from ⟨rfl, ⟨rfl, ⟨rfl, ⟨rfl, ⟨rfl, ⟨rfl, trivial⟩⟩⟩⟩⟩⟩) (zyC217_103 hk48 h)
    · replace h := zy_ifn h b6
      refine zy_0 rfl rfl (show zyR _ _ _ _ [some (.ref (43 + 3)), some (.int x1), some (.int x2), some (.int x3), some (.int x4), some (.int x5), none] [.ref (43 + 3)] _ _ from ?_)
      refine zy_2 rfl rfl (show zyR _ _ _ _ [some (.ref (43 + 3)), some (.int x1), some (.int x2), some (.int x3), some (.int x4), some (.int x5), none] [.int x1, .ref (43 + 3)] _ _ from ?_)
      refine zy_0 rfl rfl (show zyR _ _ _ _ [some (.ref (43 + 3)), some (.int x1), some (.int x2), some (.int x3), some (.int x4), some (.int x5), none] [.ref (43 + 3), .int x1, .ref (43 + 3)] _ _ from ?_)
      refine zy_1 (c := 43) rfl rfl rfl (show zyR _ _ _ _ [some (.ref (43 + 3)), some (.int x1), some (.int x2), some (.int x3), some (.int x4), some (.int x5), none] [.int (p2.2.1 43 7), .int x1, .ref (43 + 3)] _ _ from ?_)
      refine zy_3 rfl rfl (show zyR _ _ _ _ [some (.ref (43 + 3)), some (.int x1), some (.int x2), some (.int x3), some (.int x4), some (.int x5), none] [.int (1 : Int32), .int (p2.2.1 43 7), .int x1, .ref (43 + 3)] _ _ from ?_)
      refine zy_2 rfl rfl (show zyR _ _ _ _ [some (.ref (43 + 3)), some (.int x1), some (.int x2), some (.int x3), some (.int x4), some (.int x5), none] [.int x5, .int (1 : Int32), .int (p2.2.1 43 7), .int x1, .ref (43 + 3)] _ _ from ?_)
      refine zy_16 rfl (show zyR _ _ _ _ [some (.ref (43 + 3)), some (.int x1), some (.int x2), some (.int x3), some (.int x4), some (.int x5), none] [.int ((1 : Int32) <<< (x5 &&& 31)), .int (p2.2.1 43 7), .int x1, .ref (43 + 3)] _ _ from ?_)
      refine zy_3 rfl rfl (show zyR _ _ _ _ [some (.ref (43 + 3)), some (.int x1), some (.int x2), some (.int x3), some (.int x4), some (.int x5), none] [.int (-1 : Int32), .int ((1 : Int32) <<< (x5 &&& 31)), .int (p2.2.1 43 7), .int x1, .ref (43 + 3)] _ _ from ?_)
      refine zy_15 rfl (show zyR _ _ _ _ [some (.ref (43 + 3)), some (.int x1), some (.int x2), some (.int x3), some (.int x4), some (.int x5), none] [.int (((1 : Int32) <<< (x5 &&& 31)) ^^^ (-1 : Int32)), .int (p2.2.1 43 7), .int x1, .ref (43 + 3)] _ _ from ?_)
      refine zy_13 rfl (show zyR _ _ _ _ [some (.ref (43 + 3)), some (.int x1), some (.int x2), some (.int x3), some (.int x4), some (.int x5), none] [.int ((p2.2.1 43 7) &&& (((1 : Int32) <<< (x5 &&& 31)) ^^^ (-1 : Int32))), .int x1, .ref (43 + 3)] _ _ from ?_)
      obtain ⟨p3, hp3, h⟩ := zy_bind h
      refine zy_5 (c := 43) (as := [.int x1, .int ((p2.2.1 43 7) &&& (((1 : Int32) <<< (x5 &&& 31)) ^^^ (-1 : Int32)))]) (rest := []) (L := [some (.ref (43 + 3)), some (.int x1), some (.int ((p2.2.1 43 7) &&& (((1 : Int32) <<< (x5 &&& 31)) ^^^ (-1 : Int32)))), none, none]) (d' := 107) rfl rfl rfl (Nat.le_of_ble_eq_true rfl) (Nat.le_of_ble_eq_true rfl) rfl (Nat.le_of_ble_eq_true rfl) rfl rfl (zyC211 hp3) ?_
      show zyR _ _ _ _ [some (.ref (43 + 3)), some (.int x1), some (.int x2), some (.int x3), some (.int x4), some (.int x5), none] [.int p3.1] _ _
      refine zy_23 rfl rfl (show zyR _ _ _ _ [some (.ref (43 + 3)), some (.int x1), some (.int x2), some (.int x3), some (.int x4), some (.int x5), some (.int p3.1)] [] _ _ from ?_)
      refine zy_2 rfl rfl (show zyR _ _ _ _ [some (.ref (43 + 3)), some (.int x1), some (.int x2), some (.int x3), some (.int x4), some (.int x5), some (.int p3.1)] [.int x3] _ _ from ?_)
      refine zy_24_2 rfl (fun b5 => (show zyR _ _ _ _ [some (.ref (43 + 3)), some (.int x1), some (.int x2), some (.int x3), some (.int x4), some (.int x5), some (.int p3.1)] [] _ _ from ?_)) (fun b5 => (show zyR _ _ _ _ [some (.ref (43 + 3)), some (.int x1), some (.int x2), some (.int x3), some (.int x4), some (.int x5), some (.int p3.1)] [] _ _ from ?_))
      · replace h := zy_ifp h b5
        exact zy_sub (show zy_le [some (.ref (43 + 3)), some (.int x1), some (.int x2), none, none, some (.int x5), some (.int p3.1)] [some (.ref (43 + 3)), some (.int x1), some (.int x2), some (.int x3), some (.int x4), some (.int x5), some (.int p3.1)] from ⟨rfl, ⟨rfl, ⟨rfl, ⟨rfl, ⟨rfl, trivial⟩⟩⟩⟩⟩) (zyC217_96 hk48 h)
      · replace h := zy_ifn h b5
        refine zy_2 rfl rfl (show zyR _ _ _ _ [some (.ref (43 + 3)), some (.int x1), some (.int x2), some (.int x3), some (.int x4), some (.int x5), some (.int p3.1)] [.int p3.1] _ _ from ?_)
        refine zy_2 rfl rfl (show zyR _ _ _ _ [some (.ref (43 + 3)), some (.int x1), some (.int x2), some (.int x3), some (.int x4), some (.int x5), some (.int p3.1)] [.int x4, .int p3.1] _ _ from ?_)
        refine zy_25_3 rfl (fun b4 => (show zyR _ _ _ _ [some (.ref (43 + 3)), some (.int x1), some (.int x2), some (.int x3), some (.int x4), some (.int x5), some (.int p3.1)] [] _ _ from ?_)) (fun b4 => (show zyR _ _ _ _ [some (.ref (43 + 3)), some (.int x1), some (.int x2), some (.int x3), some (.int x4), some (.int x5), some (.int p3.1)] [] _ _ from ?_))
        · replace h := zy_ifp h b4
          exact zy_sub (show zy_le [some (.ref (43 + 3)), some (.int x1), some (.int x2), some (.int x3), some (.int x4), some (.int x5), none] [some (.ref (43 + 3)), some (.int x1), some (.int x2), some (.int x3), some (.int x4), some (.int x5), some (.int p3.1)] from ⟨rfl, ⟨rfl, ⟨rfl, ⟨rfl, ⟨rfl, ⟨rfl, trivial⟩⟩⟩⟩⟩⟩) (zyC217_103 hk48 h)
        · replace h := zy_ifn h b4
          exact zy_sub (show zy_le [some (.ref (43 + 3)), some (.int x1), some (.int x2), none, none, some (.int x5), some (.int p3.1)] [some (.ref (43 + 3)), some (.int x1), some (.int x2), some (.int x3), some (.int x4), some (.int x5), some (.int p3.1)] from ⟨rfl, ⟨rfl, ⟨rfl, ⟨rfl, ⟨rfl, trivial⟩⟩⟩⟩⟩) (zyC217_96 hk48 h)
noncomputable def zyF217_48   (n : Nat) : Int32 → Int32 → Int32 → Int32 → Int32 → zy_S → Option (Int32 × zy_S) := Nat.rec (fun _ _ _ _ _ _ => none) (fun _ k48 => zyF217_48b k48) n
theorem zyC217_48 {X : zx_X}     : ∀ (n : Nat) (x1 : Int32) (x2 : Int32) (x3 : Int32) (x4 : Int32) (x5 : Int32) (s : zy_S) (r : Int32) (s' : zy_S), zyF217_48 n x1 x2 x3 x4 x5 s = some (r, s') → zyR X 108 217 48 [some (.ref (43 + 3)), some (.int x1), some (.int x2), some (.int x3), some (.int x4), some (.int x5), none] [] s (zyE (some (.int r)) s')
  | 0, _, _, _, _, _ => by
    intro s r s'  h
    have h : (none : Option (Int32 × zy_S)) = some (r, s') := h
    cases h
  | n + 1, x1, x2, x3, x4, x5 => by
    intro s r s'  h
    exact zyC217_48b (k48 := zyF217_48 n) (fun x1 x2 x3 x4 x5 s r s'  h => zyC217_48  n x1 x2 x3 x4 x5 s r s'  h) h
noncomputable def zyF217   (x1 : Int32) (x2 : Int32) (s : zy_S) : Option (Int32 × zy_S) :=
(zyF186 (x1).toInt64 s).bind fun p8 =>
if p8.1 = 0 then
some ((-1 : Int32), p8.2)
else
(zyF179 (x2).toInt64 (0 : Int64) (1 : Int64) p8.2).bind fun p9 =>
if p9.1 ≠ 0 then
(zyF208 (p9.2.1 43 7) x1 p9.2).bind fun p10 =>
if p10.1 = 0 then
(zyF203 p10.2).bind fun p11 =>
zyF217_48 zy_fu x1 x2 (-2 : Int32) (-2 : Int32) (0 : Int32) p11.2
else
some ((-2 : Int32), p10.2)
else
some ((-1 : Int32), p9.2)
theorem zyC217 {X : zx_X}     {x1 : Int32} {x2 : Int32} {s : zy_S} {r : Int32} {s' : zy_S}  (h : zyF217 x1 x2 s = some (r, s')) : zyR X 108 217 0 [some (.ref (43 + 3)), some (.int x1), some (.int x2), none, none, none, none] [] s (zyE (some (.int r)) s') := by
  unfold zyF217 at h
  refine zy_2 rfl rfl (show zyR _ _ _ _ [some (.ref (43 + 3)), some (.int x1), some (.int x2), none, none, none, none] [.int x1] _ _ from ?_)
  refine zy_40 rfl (show zyR _ _ _ _ [some (.ref (43 + 3)), some (.int x1), some (.int x2), none, none, none, none] [.long (x1).toInt64] _ _ from ?_)
  obtain ⟨p8, hp8, h⟩ := zy_bind h
  refine zy_60 (as := [.long (x1).toInt64]) (rest := []) (L := [some (.long (x1).toInt64), none]) (d' := 2) rfl rfl (Nat.le_of_ble_eq_true rfl) (Nat.le_of_ble_eq_true rfl) rfl (Nat.le_of_ble_eq_true rfl) rfl rfl (zyC186 hp8) ?_
  show zyR _ _ _ _ [some (.ref (43 + 3)), some (.int x1), some (.int x2), none, none, none, none] [.int p8.1] _ _
  refine zy_24_0 rfl (fun b14 => (show zyR _ _ _ _ [some (.ref (43 + 3)), some (.int x1), some (.int x2), none, none, none, none] [] _ _ from ?_)) (fun b14 => (show zyR _ _ _ _ [some (.ref (43 + 3)), some (.int x1), some (.int x2), none, none, none, none] [] _ _ from ?_))
  · replace h := zy_ifp h b14
    refine zy_3 rfl rfl (show zyR _ _ _ _ [some (.ref (43 + 3)), some (.int x1), some (.int x2), none, none, none, none] [.int (-1 : Int32)] _ _ from ?_)
    obtain ⟨rfl, rfl⟩ := zy_pi h
    exact zy_4 rfl ⟨rfl, rfl⟩
  · replace h := zy_ifn h b14
    refine zy_2 rfl rfl (show zyR _ _ _ _ [some (.ref (43 + 3)), some (.int x1), some (.int x2), none, none, none, none] [.int x2] _ _ from ?_)
    refine zy_40 rfl (show zyR _ _ _ _ [some (.ref (43 + 3)), some (.int x1), some (.int x2), none, none, none, none] [.long (x2).toInt64] _ _ from ?_)
    refine zy_36 rfl rfl (show zyR _ _ _ _ [some (.ref (43 + 3)), some (.int x1), some (.int x2), none, none, none, none] [.long (0 : Int64), .long (x2).toInt64] _ _ from ?_)
    refine zy_36 rfl rfl (show zyR _ _ _ _ [some (.ref (43 + 3)), some (.int x1), some (.int x2), none, none, none, none] [.long (1 : Int64), .long (0 : Int64), .long (x2).toInt64] _ _ from ?_)
    obtain ⟨p9, hp9, h⟩ := zy_bind h
    refine zy_60 (as := [.long (x2).toInt64, .long (0 : Int64), .long (1 : Int64)]) (rest := []) (L := [some (.long (x2).toInt64), none, some (.long (0 : Int64)), none, some (.long (1 : Int64)), none]) (d' := 1) rfl rfl (Nat.le_of_ble_eq_true rfl) (Nat.le_of_ble_eq_true rfl) rfl (Nat.le_of_ble_eq_true rfl) rfl rfl (zyC179 hp9) ?_
    show zyR _ _ _ _ [some (.ref (43 + 3)), some (.int x1), some (.int x2), none, none, none, none] [.int p9.1] _ _
    refine zy_24_1 rfl (fun b13 => (show zyR _ _ _ _ [some (.ref (43 + 3)), some (.int x1), some (.int x2), none, none, none, none] [] _ _ from ?_)) (fun b13 => (show zyR _ _ _ _ [some (.ref (43 + 3)), some (.int x1), some (.int x2), none, none, none, none] [] _ _ from ?_))
    · replace h := zy_ifp h b13
      refine zy_0 rfl rfl (show zyR _ _ _ _ [some (.ref (43 + 3)), some (.int x1), some (.int x2), none, none, none, none] [.ref (43 + 3)] _ _ from ?_)
      refine zy_1 (c := 43) rfl rfl rfl (show zyR _ _ _ _ [some (.ref (43 + 3)), some (.int x1), some (.int x2), none, none, none, none] [.int (p9.2.1 43 7)] _ _ from ?_)
      refine zy_2 rfl rfl (show zyR _ _ _ _ [some (.ref (43 + 3)), some (.int x1), some (.int x2), none, none, none, none] [.int x1, .int (p9.2.1 43 7)] _ _ from ?_)
      obtain ⟨p10, hp10, h⟩ := zy_bind h
      refine zy_60 (as := [.int (p9.2.1 43 7), .int x1]) (rest := []) (L := [some (.int (p9.2.1 43 7)), some (.int x1)]) (d' := 1) rfl rfl (Nat.le_of_ble_eq_true rfl) (Nat.le_of_ble_eq_true rfl) rfl (Nat.le_of_ble_eq_true rfl) rfl rfl (zyC208 hp10) ?_
      show zyR _ _ _ _ [some (.ref (43 + 3)), some (.int x1), some (.int x2), none, none, none, none] [.int p10.1] _ _
      refine zy_24_0 rfl (fun b12 => (show zyR _ _ _ _ [some (.ref (43 + 3)), some (.int x1), some (.int x2), none, none, none, none] [] _ _ from ?_)) (fun b12 => (show zyR _ _ _ _ [some (.ref (43 + 3)), some (.int x1), some (.int x2), none, none, none, none] [] _ _ from ?_))
      · replace h := zy_ifp h b12
        refine zy_0 rfl rfl (show zyR _ _ _ _ [some (.ref (43 + 3)), some (.int x1), some (.int x2), none, none, none, none] [.ref (43 + 3)] _ _ from ?_)
        obtain ⟨p11, hp11, h⟩ := zy_bind h
        refine zy_5 (c := 43) (as := []) (rest := []) (L := [some (.ref (43 + 3)), none]) (d' := 1) rfl rfl rfl (Nat.le_of_ble_eq_true rfl) (Nat.le_of_ble_eq_true rfl) rfl (Nat.le_of_ble_eq_true rfl) rfl rfl (zyC203 hp11) ?_
        show zyR _ _ _ _ [some (.ref (43 + 3)), some (.int x1), some (.int x2), none, none, none, none] [] _ _
        refine zy_3 rfl rfl (show zyR _ _ _ _ [some (.ref (43 + 3)), some (.int x1), some (.int x2), none, none, none, none] [.int (-2 : Int32)] _ _ from ?_)
        refine zy_23 rfl rfl (show zyR _ _ _ _ [some (.ref (43 + 3)), some (.int x1), some (.int x2), some (.int (-2 : Int32)), none, none, none] [] _ _ from ?_)
        refine zy_3 rfl rfl (show zyR _ _ _ _ [some (.ref (43 + 3)), some (.int x1), some (.int x2), some (.int (-2 : Int32)), none, none, none] [.int (-2 : Int32)] _ _ from ?_)
        refine zy_23 rfl rfl (show zyR _ _ _ _ [some (.ref (43 + 3)), some (.int x1), some (.int x2), some (.int (-2 : Int32)), some (.int (-2 : Int32)), none, none] [] _ _ from ?_)
        refine zy_3 rfl rfl (show zyR _ _ _ _ [some (.ref (43 + 3)), some (.int x1), some (.int x2), some (.int (-2 : Int32)), some (.int (-2 : Int32)), none, none] [.int (0 : Int32)] _ _ from ?_)
        refine zy_23 rfl rfl (show zyR _ _ _ _ [some (.ref (43 + 3)), some (.int x1), some (.int x2), some (.int (-2 : Int32)), some (.int (-2 : Int32)), some (.int (0 : Int32)), none] [] _ _ from ?_)
        exact zy_sub (show zy_le [some (.ref (43 + 3)), some (.int x1), some (.int x2), some (.int (-2 : Int32)), some (.int (-2 : Int32)), some (.int (0 : Int32)), none] [some (.ref (43 + 3)), some (.int x1), some (.int x2), some (.int (-2 : Int32)), some (.int (-2 : Int32)), some (.int (0 : Int32)), none] from ⟨rfl, ⟨rfl, ⟨rfl, ⟨rfl, ⟨rfl, ⟨rfl, trivial⟩⟩⟩⟩⟩⟩) (zyC217_48 zy_fu x1 x2 (-2 : Int32) (-2 : Int32) (0 : Int32) p11.2 _ _ h)
      · replace h := zy_ifn h b12
        refine zy_3 rfl rfl (show zyR _ _ _ _ [some (.ref (43 + 3)), some (.int x1), some (.int x2), none, none, none, none] [.int (-2 : Int32)] _ _ from ?_)
        obtain ⟨rfl, rfl⟩ := zy_pi h
        exact zy_4 rfl ⟨rfl, rfl⟩
    · replace h := zy_ifn h b13
      refine zy_3 rfl rfl (show zyR _ _ _ _ [some (.ref (43 + 3)), some (.int x1), some (.int x2), none, none, none, none] [.int (-1 : Int32)] _ _ from ?_)
      obtain ⟨rfl, rfl⟩ := zy_pi h
      exact zy_4 rfl ⟨rfl, rfl⟩
/-! NineOpinions$Thought.bestChange()I -/
noncomputable def zyF90_89  (k27 : Int32 → Int32 → Int32 → zy_S → Option (Int32 × zy_S)) (x1 : Int32) (x2 : Int32) (x3 : Int32) (s : zy_S) : Option (Int32 × zy_S) :=
k27 x1 x2 (x3 + (1 : Int32)) s
theorem zyC90_89 {X : zx_X}  {k27 : Int32 → Int32 → Int32 → zy_S → Option (Int32 × zy_S)}  (hk27 : ∀ (x1 : Int32) (x2 : Int32) (x3 : Int32) (s : zy_S) (r : Int32) (s' : zy_S), k27 x1 x2 x3 s = some (r, s') → zyR X 7 90 27 [some (.ref (12 + 3)), some (.int x1), some (.int x2), some (.int x3), none] [] s (zyE (some (.int r)) s')) {x1 : Int32} {x2 : Int32} {x3 : Int32} {s : zy_S} {r : Int32} {s' : zy_S}  (h : zyF90_89 k27 x1 x2 x3 s = some (r, s')) : zyR X 7 90 89 [some (.ref (12 + 3)), some (.int x1), some (.int x2), some (.int x3), none] [] s (zyE (some (.int r)) s') := by
  unfold zyF90_89 at h
  refine zy_22 rfl rfl rfl rfl (show zyR _ _ _ _ [some (.ref (12 + 3)), some (.int x1), some (.int x2), some (.int (x3 + (1 : Int32))), none] [] _ _ from ?_)
  refine zy_6 rfl (show zyR _ _ _ _ [some (.ref (12 + 3)), some (.int x1), some (.int x2), some (.int (x3 + (1 : Int32))), none] [] _ _ from ?_)
  exact zy_sub (show zy_le [some (.ref (12 + 3)), some (.int x1), some (.int x2), some (.int (x3 + (1 : Int32))), none] [some (.ref (12 + 3)), some (.int x1), some (.int x2), some (.int (x3 + (1 : Int32))), none] from ⟨rfl, ⟨rfl, ⟨rfl, ⟨rfl, trivial⟩⟩⟩⟩) (hk27 x1 x2 (x3 + (1 : Int32)) s _ _ h)
noncomputable def zyF90_54  (k27 : Int32 → Int32 → Int32 → zy_S → Option (Int32 × zy_S)) (x1 : Int32) (x2 : Int32) (x3 : Int32) (s : zy_S) : Option (Int32 × zy_S) :=
(zyF54 ((s.1 1 3) ^^^ ((1 : Int32) <<< (x3 &&& 31))) (s.1 1 3) s).bind fun p1 =>
if x2 ≤ p1.1 then
zyF90_89 k27 x1 x2 x3 p1.2
else
zyF90_89 k27 x3 p1.1 x3 p1.2
theorem zyC90_54 {X : zx_X}  {k27 : Int32 → Int32 → Int32 → zy_S → Option (Int32 × zy_S)}  (hk27 : ∀ (x1 : Int32) (x2 : Int32) (x3 : Int32) (s : zy_S) (r : Int32) (s' : zy_S), k27 x1 x2 x3 s = some (r, s') → zyR X 7 90 27 [some (.ref (12 + 3)), some (.int x1), some (.int x2), some (.int x3), none] [] s (zyE (some (.int r)) s')) {x1 : Int32} {x2 : Int32} {x3 : Int32} {s : zy_S} {r : Int32} {s' : zy_S}  (h : zyF90_54 k27 x1 x2 x3 s = some (r, s')) : zyR X 7 90 54 [some (.ref (12 + 3)), some (.int x1), some (.int x2), some (.int x3), none] [] s (zyE (some (.int r)) s') := by
  unfold zyF90_54 at h
  refine zy_0 rfl rfl (show zyR _ _ _ _ [some (.ref (12 + 3)), some (.int x1), some (.int x2), some (.int x3), none] [.ref (12 + 3)] _ _ from ?_)
  refine zy_0 rfl rfl (show zyR _ _ _ _ [some (.ref (12 + 3)), some (.int x1), some (.int x2), some (.int x3), none] [.ref (12 + 3), .ref (12 + 3)] _ _ from ?_)
  refine zy_1r (c := 12) rfl rfl rfl (show zyR _ _ _ _ [some (.ref (12 + 3)), some (.int x1), some (.int x2), some (.int x3), none] [.ref (1 + 3), .ref (12 + 3)] _ _ from ?_)
  refine zy_1 (c := 1) rfl rfl rfl (show zyR _ _ _ _ [some (.ref (12 + 3)), some (.int x1), some (.int x2), some (.int x3), none] [.int (s.1 1 3), .ref (12 + 3)] _ _ from ?_)
  refine zy_3 rfl rfl (show zyR _ _ _ _ [some (.ref (12 + 3)), some (.int x1), some (.int x2), some (.int x3), none] [.int (1 : Int32), .int (s.1 1 3), .ref (12 + 3)] _ _ from ?_)
  refine zy_2 rfl rfl (show zyR _ _ _ _ [some (.ref (12 + 3)), some (.int x1), some (.int x2), some (.int x3), none] [.int x3, .int (1 : Int32), .int (s.1 1 3), .ref (12 + 3)] _ _ from ?_)
  refine zy_16 rfl (show zyR _ _ _ _ [some (.ref (12 + 3)), some (.int x1), some (.int x2), some (.int x3), none] [.int ((1 : Int32) <<< (x3 &&& 31)), .int (s.1 1 3), .ref (12 + 3)] _ _ from ?_)
  refine zy_15 rfl (show zyR _ _ _ _ [some (.ref (12 + 3)), some (.int x1), some (.int x2), some (.int x3), none] [.int ((s.1 1 3) ^^^ ((1 : Int32) <<< (x3 &&& 31))), .ref (12 + 3)] _ _ from ?_)
  refine zy_0 rfl rfl (show zyR _ _ _ _ [some (.ref (12 + 3)), some (.int x1), some (.int x2), some (.int x3), none] [.ref (12 + 3), .int ((s.1 1 3) ^^^ ((1 : Int32) <<< (x3 &&& 31))), .ref (12 + 3)] _ _ from ?_)
  refine zy_1r (c := 12) rfl rfl rfl (show zyR _ _ _ _ [some (.ref (12 + 3)), some (.int x1), some (.int x2), some (.int x3), none] [.ref (1 + 3), .int ((s.1 1 3) ^^^ ((1 : Int32) <<< (x3 &&& 31))), .ref (12 + 3)] _ _ from ?_)
  refine zy_1 (c := 1) rfl rfl rfl (show zyR _ _ _ _ [some (.ref (12 + 3)), some (.int x1), some (.int x2), some (.int x3), none] [.int (s.1 1 3), .int ((s.1 1 3) ^^^ ((1 : Int32) <<< (x3 &&& 31))), .ref (12 + 3)] _ _ from ?_)
  obtain ⟨p1, hp1, h⟩ := zy_bind h
  refine zy_5 (c := 12) (as := [.int ((s.1 1 3) ^^^ ((1 : Int32) <<< (x3 &&& 31))), .int (s.1 1 3)]) (rest := []) (L := [some (.ref (12 + 3)), some (.int ((s.1 1 3) ^^^ ((1 : Int32) <<< (x3 &&& 31)))), some (.int (s.1 1 3)), none, none]) (d' := 6) rfl rfl rfl (Nat.le_of_ble_eq_true rfl) (Nat.le_of_ble_eq_true rfl) rfl (Nat.le_of_ble_eq_true rfl) rfl rfl (zyC54 hp1) ?_
  show zyR _ _ _ _ [some (.ref (12 + 3)), some (.int x1), some (.int x2), some (.int x3), none] [.int p1.1] _ _
  refine zy_23 rfl rfl (show zyR _ _ _ _ [some (.ref (12 + 3)), some (.int x1), some (.int x2), some (.int x3), some (.int p1.1)] [] _ _ from ?_)
  refine zy_2 rfl rfl (show zyR _ _ _ _ [some (.ref (12 + 3)), some (.int x1), some (.int x2), some (.int x3), some (.int p1.1)] [.int p1.1] _ _ from ?_)
  refine zy_2 rfl rfl (show zyR _ _ _ _ [some (.ref (12 + 3)), some (.int x1), some (.int x2), some (.int x3), some (.int p1.1)] [.int x2, .int p1.1] _ _ from ?_)
  refine zy_25_3 rfl (fun b2 => (show zyR _ _ _ _ [some (.ref (12 + 3)), some (.int x1), some (.int x2), some (.int x3), some (.int p1.1)] [] _ _ from ?_)) (fun b2 => (show zyR _ _ _ _ [some (.ref (12 + 3)), some (.int x1), some (.int x2), some (.int x3), some (.int p1.1)] [] _ _ from ?_))
  · replace h := zy_ifp h b2
    exact zy_sub (show zy_le [some (.ref (12 + 3)), some (.int x1), some (.int x2), some (.int x3), none] [some (.ref (12 + 3)), some (.int x1), some (.int x2), some (.int x3), some (.int p1.1)] from ⟨rfl, ⟨rfl, ⟨rfl, ⟨rfl, trivial⟩⟩⟩⟩) (zyC90_89 hk27 h)
  · replace h := zy_ifn h b2
    refine zy_2 rfl rfl (show zyR _ _ _ _ [some (.ref (12 + 3)), some (.int x1), some (.int x2), some (.int x3), some (.int p1.1)] [.int x3] _ _ from ?_)
    refine zy_23 rfl rfl (show zyR _ _ _ _ [some (.ref (12 + 3)), some (.int x3), some (.int x2), some (.int x3), some (.int p1.1)] [] _ _ from ?_)
    refine zy_2 rfl rfl (show zyR _ _ _ _ [some (.ref (12 + 3)), some (.int x3), some (.int x2), some (.int x3), some (.int p1.1)] [.int p1.1] _ _ from ?_)
    refine zy_23 rfl rfl (show zyR _ _ _ _ [some (.ref (12 + 3)), some (.int x3), some (.int p1.1), some (.int x3), some (.int p1.1)] [] _ _ from ?_)
    exact zy_sub (show zy_le [some (.ref (12 + 3)), some (.int x3), some (.int p1.1), some (.int x3), none] [some (.ref (12 + 3)), some (.int x3), some (.int p1.1), some (.int x3), some (.int p1.1)] from ⟨rfl, ⟨rfl, ⟨rfl, ⟨rfl, trivial⟩⟩⟩⟩) (zyC90_89 hk27 h)
noncomputable def zyF90_27b  (k27 : Int32 → Int32 → Int32 → zy_S → Option (Int32 × zy_S)) (x1 : Int32) (x2 : Int32) (x3 : Int32) (s : zy_S) : Option (Int32 × zy_S) :=
if (24 : Int32) ≤ x3 then
some (x1, s)
else
(zyF86 x3 s).bind fun p3 =>
if p3.1 ≠ 0 then
zyF90_54 k27 x1 x2 x3 p3.2
else
(zyF91 p3.2).bind fun p4 =>
if p4.1 = 0 then
zyF90_89 k27 x1 x2 x3 p4.2
else
zyF90_54 k27 x1 x2 x3 p4.2
theorem zyC90_27b {X : zx_X}  {k27 : Int32 → Int32 → Int32 → zy_S → Option (Int32 × zy_S)}  (hk27 : ∀ (x1 : Int32) (x2 : Int32) (x3 : Int32) (s : zy_S) (r : Int32) (s' : zy_S), k27 x1 x2 x3 s = some (r, s') → zyR X 7 90 27 [some (.ref (12 + 3)), some (.int x1), some (.int x2), some (.int x3), none] [] s (zyE (some (.int r)) s')) {x1 : Int32} {x2 : Int32} {x3 : Int32} {s : zy_S} {r : Int32} {s' : zy_S}  (h : zyF90_27b k27 x1 x2 x3 s = some (r, s')) : zyR X 7 90 27 [some (.ref (12 + 3)), some (.int x1), some (.int x2), some (.int x3), none] [] s (zyE (some (.int r)) s') := by
  unfold zyF90_27b at h
  refine zy_2 rfl rfl (show zyR _ _ _ _ [some (.ref (12 + 3)), some (.int x1), some (.int x2), some (.int x3), none] [.int x3] _ _ from ?_)
  refine zy_3 rfl rfl (show zyR _ _ _ _ [some (.ref (12 + 3)), some (.int x1), some (.int x2), some (.int x3), none] [.int (24 : Int32), .int x3] _ _ from ?_)
  refine zy_25_3 rfl (fun b7 => (show zyR _ _ _ _ [some (.ref (12 + 3)), some (.int x1), some (.int x2), some (.int x3), none] [] _ _ from ?_)) (fun b7 => (show zyR _ _ _ _ [some (.ref (12 + 3)), some (.int x1), some (.int x2), some (.int x3), none] [] _ _ from ?_))
  · replace h := zy_ifp h b7
    refine zy_2 rfl rfl (show zyR _ _ _ _ [some (.ref (12 + 3)), some (.int x1), some (.int x2), some (.int x3), none] [.int x1] _ _ from ?_)
    obtain ⟨rfl, rfl⟩ := zy_pi h
    exact zy_4 rfl ⟨rfl, rfl⟩
  · replace h := zy_ifn h b7
    refine zy_0 rfl rfl (show zyR _ _ _ _ [some (.ref (12 + 3)), some (.int x1), some (.int x2), some (.int x3), none] [.ref (12 + 3)] _ _ from ?_)
    refine zy_1r (c := 12) rfl rfl rfl (show zyR _ _ _ _ [some (.ref (12 + 3)), some (.int x1), some (.int x2), some (.int x3), none] [.ref (1 + 3)] _ _ from ?_)
    refine zy_2 rfl rfl (show zyR _ _ _ _ [some (.ref (12 + 3)), some (.int x1), some (.int x2), some (.int x3), none] [.int x3, .ref (1 + 3)] _ _ from ?_)
    obtain ⟨p3, hp3, h⟩ := zy_bind h
    refine zy_5 (c := 1) (as := [.int x3]) (rest := []) (L := [some (.ref (1 + 3)), some (.int x3)]) (d' := 2) rfl rfl rfl (Nat.le_of_ble_eq_true rfl) (Nat.le_of_ble_eq_true rfl) rfl (Nat.le_of_ble_eq_true rfl) rfl rfl (zyC86 hp3) ?_
    show zyR _ _ _ _ [some (.ref (12 + 3)), some (.int x1), some (.int x2), some (.int x3), none] [.int p3.1] _ _
    refine zy_24_1 rfl (fun b6 => (show zyR _ _ _ _ [some (.ref (12 + 3)), some (.int x1), some (.int x2), some (.int x3), none] [] _ _ from ?_)) (fun b6 => (show zyR _ _ _ _ [some (.ref (12 + 3)), some (.int x1), some (.int x2), some (.int x3), none] [] _ _ from ?_))
    · replace h := zy_ifp h b6
      exact zy_sub (show zy_le [some (.ref (12 + 3)), some (.int x1), some (.int x2), some (.int x3), none] [some (.ref (12 + 3)), some (.int x1), some (.int x2), some (.int x3), none] from ⟨rfl, ⟨rfl, ⟨rfl, ⟨rfl, trivial⟩⟩⟩⟩) (zyC90_54 hk27 h)
    · replace h := zy_ifn h b6
      refine zy_0 rfl rfl (show zyR _ _ _ _ [some (.ref (12 + 3)), some (.int x1), some (.int x2), some (.int x3), none] [.ref (12 + 3)] _ _ from ?_)
      refine zy_1r (c := 12) rfl rfl rfl (show zyR _ _ _ _ [some (.ref (12 + 3)), some (.int x1), some (.int x2), some (.int x3), none] [.ref (1 + 3)] _ _ from ?_)
      obtain ⟨p4, hp4, h⟩ := zy_bind h
      refine zy_5 (c := 1) (as := []) (rest := []) (L := [some (.ref (1 + 3))]) (d' := 3) rfl rfl rfl (Nat.le_of_ble_eq_true rfl) (Nat.le_of_ble_eq_true rfl) rfl (Nat.le_of_ble_eq_true rfl) rfl rfl (zyC91 hp4) ?_
      show zyR _ _ _ _ [some (.ref (12 + 3)), some (.int x1), some (.int x2), some (.int x3), none] [.int p4.1] _ _
      refine zy_24_0 rfl (fun b5 => (show zyR _ _ _ _ [some (.ref (12 + 3)), some (.int x1), some (.int x2), some (.int x3), none] [] _ _ from ?_)) (fun b5 => (show zyR _ _ _ _ [some (.ref (12 + 3)), some (.int x1), some (.int x2), some (.int x3), none] [] _ _ from ?_))
      · replace h := zy_ifp h b5
        exact zy_sub (show zy_le [some (.ref (12 + 3)), some (.int x1), some (.int x2), some (.int x3), none] [some (.ref (12 + 3)), some (.int x1), some (.int x2), some (.int x3), none] from ⟨rfl, ⟨rfl, ⟨rfl, ⟨rfl, trivial⟩⟩⟩⟩) (zyC90_89 hk27 h)
      · replace h := zy_ifn h b5
        exact zy_sub (show zy_le [some (.ref (12 + 3)), some (.int x1), some (.int x2), some (.int x3), none] [some (.ref (12 + 3)), some (.int x1), some (.int x2), some (.int x3), none] from ⟨rfl, ⟨rfl, ⟨rfl, ⟨rfl, trivial⟩⟩⟩⟩) (zyC90_54 hk27 h)
noncomputable def zyF90_27   (n : Nat) : Int32 → Int32 → Int32 → zy_S → Option (Int32 × zy_S) := Nat.rec (fun _ _ _ _ => none) (fun _ k27 => zyF90_27b k27) n
theorem zyC90_27 {X : zx_X}     : ∀ (n : Nat) (x1 : Int32) (x2 : Int32) (x3 : Int32) (s : zy_S) (r : Int32) (s' : zy_S), zyF90_27 n x1 x2 x3 s = some (r, s') → zyR X 7 90 27 [some (.ref (12 + 3)), some (.int x1), some (.int x2), some (.int x3), none] [] s (zyE (some (.int r)) s')
  | 0, _, _, _ => by
    intro s r s'  h
    have h : (none : Option (Int32 × zy_S)) = some (r, s') := h
    cases h
  | n + 1, x1, x2, x3 => by
    intro s r s'  h
    exact zyC90_27b (k27 := zyF90_27 n) (fun x1 x2 x3 s r s'  h => zyC90_27  n x1 x2 x3 s r s'  h) h
noncomputable def zyF90    (s : zy_S) : Option (Int32 × zy_S) :=
(zyF74 s).bind fun p8 =>
(zyF54 (p8.2.1 1 3) (p8.2.1 1 3) p8.2).bind fun p9 =>
zyF90_27 zy_fu (-1 : Int32) p9.1 (0 : Int32) p9.2
theorem zyC90 {X : zx_X}      {s : zy_S} {r : Int32} {s' : zy_S}  (h : zyF90 s = some (r, s')) : zyR X 7 90 0 [some (.ref (12 + 3)), none, none, none, none] [] s (zyE (some (.int r)) s') := by
  unfold zyF90 at h
  refine zy_0 rfl rfl (show zyR _ _ _ _ [some (.ref (12 + 3)), none, none, none, none] [.ref (12 + 3)] _ _ from ?_)
  obtain ⟨p8, hp8, h⟩ := zy_bind h
  refine zy_5 (c := 12) (as := []) (rest := []) (L := [some (.ref (12 + 3))]) (d' := 2) rfl rfl rfl (Nat.le_of_ble_eq_true rfl) (Nat.le_of_ble_eq_true rfl) rfl (Nat.le_of_ble_eq_true rfl) rfl rfl (zyC74 hp8) ?_
  show zyR _ _ _ _ [some (.ref (12 + 3)), none, none, none, none] [] _ _
  refine zy_3 rfl rfl (show zyR _ _ _ _ [some (.ref (12 + 3)), none, none, none, none] [.int (-1 : Int32)] _ _ from ?_)
  refine zy_23 rfl rfl (show zyR _ _ _ _ [some (.ref (12 + 3)), some (.int (-1 : Int32)), none, none, none] [] _ _ from ?_)
  refine zy_0 rfl rfl (show zyR _ _ _ _ [some (.ref (12 + 3)), some (.int (-1 : Int32)), none, none, none] [.ref (12 + 3)] _ _ from ?_)
  refine zy_0 rfl rfl (show zyR _ _ _ _ [some (.ref (12 + 3)), some (.int (-1 : Int32)), none, none, none] [.ref (12 + 3), .ref (12 + 3)] _ _ from ?_)
  refine zy_1r (c := 12) rfl rfl rfl (show zyR _ _ _ _ [some (.ref (12 + 3)), some (.int (-1 : Int32)), none, none, none] [.ref (1 + 3), .ref (12 + 3)] _ _ from ?_)
  refine zy_1 (c := 1) rfl rfl rfl (show zyR _ _ _ _ [some (.ref (12 + 3)), some (.int (-1 : Int32)), none, none, none] [.int (p8.2.1 1 3), .ref (12 + 3)] _ _ from ?_)
  refine zy_0 rfl rfl (show zyR _ _ _ _ [some (.ref (12 + 3)), some (.int (-1 : Int32)), none, none, none] [.ref (12 + 3), .int (p8.2.1 1 3), .ref (12 + 3)] _ _ from ?_)
  refine zy_1r (c := 12) rfl rfl rfl (show zyR _ _ _ _ [some (.ref (12 + 3)), some (.int (-1 : Int32)), none, none, none] [.ref (1 + 3), .int (p8.2.1 1 3), .ref (12 + 3)] _ _ from ?_)
  refine zy_1 (c := 1) rfl rfl rfl (show zyR _ _ _ _ [some (.ref (12 + 3)), some (.int (-1 : Int32)), none, none, none] [.int (p8.2.1 1 3), .int (p8.2.1 1 3), .ref (12 + 3)] _ _ from ?_)
  obtain ⟨p9, hp9, h⟩ := zy_bind h
  refine zy_5 (c := 12) (as := [.int (p8.2.1 1 3), .int (p8.2.1 1 3)]) (rest := []) (L := [some (.ref (12 + 3)), some (.int (p8.2.1 1 3)), some (.int (p8.2.1 1 3)), none, none]) (d' := 6) rfl rfl rfl (Nat.le_of_ble_eq_true rfl) (Nat.le_of_ble_eq_true rfl) rfl (Nat.le_of_ble_eq_true rfl) rfl rfl (zyC54 hp9) ?_
  show zyR _ _ _ _ [some (.ref (12 + 3)), some (.int (-1 : Int32)), none, none, none] [.int p9.1] _ _
  refine zy_23 rfl rfl (show zyR _ _ _ _ [some (.ref (12 + 3)), some (.int (-1 : Int32)), some (.int p9.1), none, none] [] _ _ from ?_)
  refine zy_3 rfl rfl (show zyR _ _ _ _ [some (.ref (12 + 3)), some (.int (-1 : Int32)), some (.int p9.1), none, none] [.int (0 : Int32)] _ _ from ?_)
  refine zy_23 rfl rfl (show zyR _ _ _ _ [some (.ref (12 + 3)), some (.int (-1 : Int32)), some (.int p9.1), some (.int (0 : Int32)), none] [] _ _ from ?_)
  exact zy_sub (show zy_le [some (.ref (12 + 3)), some (.int (-1 : Int32)), some (.int p9.1), some (.int (0 : Int32)), none] [some (.ref (12 + 3)), some (.int (-1 : Int32)), some (.int p9.1), some (.int (0 : Int32)), none] from ⟨rfl, ⟨rfl, ⟨rfl, ⟨rfl, trivial⟩⟩⟩⟩) (zyC90_27 zy_fu (-1 : Int32) p9.1 (0 : Int32) p9.2 _ _ h)
/-! NineOpinions.helps(I)I -/
noncomputable def zyF89_26   (x2 : Int32) (s : zy_S) : Option (Int32 × zy_S) :=
(zyF87 x2 s).bind fun p1 =>
some (p1.1, p1.2)
theorem zyC89_26 {X : zx_X}     {x2 : Int32} {s : zy_S} {r : Int32} {s' : zy_S}  (h : zyF89_26 x2 s = some (r, s')) : zyR X 8 89 26 [none, none, some (.int x2)] [] s (zyE (some (.int r)) s') := by
  unfold zyF89_26 at h
  refine zy_2 rfl rfl (show zyR _ _ _ _ [none, none, some (.int x2)] [.int x2] _ _ from ?_)
  obtain ⟨p1, hp1, h⟩ := zy_bind h
  refine zy_60 (as := [.int x2]) (rest := []) (L := [some (.int x2)]) (d' := 1) rfl rfl (Nat.le_of_ble_eq_true rfl) (Nat.le_of_ble_eq_true rfl) rfl (Nat.le_of_ble_eq_true rfl) rfl rfl (zyC87 hp1) ?_
  show zyR _ _ _ _ [none, none, some (.int x2)] [.int p1.1] _ _
  refine zy_6 rfl (show zyR _ _ _ _ [none, none, some (.int x2)] [.int p1.1] _ _ from ?_)
  obtain ⟨rfl, rfl⟩ := zy_pi h
  exact zy_4 rfl ⟨rfl, rfl⟩
noncomputable def zyF89   (x1 : Int32) (s : zy_S) : Option (Int32 × zy_S) :=
(zyF84 x1 s).bind fun p2 =>
if p2.1 ≠ 0 then
(zyF90 p2.2).bind fun p3 =>
if x1 = 0 then
zyF89_26 p3.1 p3.2
else
if p3.1 ≠ (-1 : Int32) then
(zyF73 p3.1 p3.2).bind fun p4 =>
some (p4.1, p4.2)
else
zyF89_26 p3.1 p3.2
else
some ((-1 : Int32), p2.2)
theorem zyC89 {X : zx_X}     {x1 : Int32} {s : zy_S} {r : Int32} {s' : zy_S}  (h : zyF89 x1 s = some (r, s')) : zyR X 8 89 0 [some (.ref (0 + 3)), some (.int x1), none] [] s (zyE (some (.int r)) s') := by
  unfold zyF89 at h
  refine zy_2 rfl rfl (show zyR _ _ _ _ [some (.ref (0 + 3)), some (.int x1), none] [.int x1] _ _ from ?_)
  obtain ⟨p2, hp2, h⟩ := zy_bind h
  refine zy_60 (as := [.int x1]) (rest := []) (L := [some (.int x1)]) (d' := 1) rfl rfl (Nat.le_of_ble_eq_true rfl) (Nat.le_of_ble_eq_true rfl) rfl (Nat.le_of_ble_eq_true rfl) rfl rfl (zyC84 hp2) ?_
  show zyR _ _ _ _ [some (.ref (0 + 3)), some (.int x1), none] [.int p2.1] _ _
  refine zy_24_1 rfl (fun b7 => (show zyR _ _ _ _ [some (.ref (0 + 3)), some (.int x1), none] [] _ _ from ?_)) (fun b7 => (show zyR _ _ _ _ [some (.ref (0 + 3)), some (.int x1), none] [] _ _ from ?_))
  · replace h := zy_ifp h b7
    refine zy_0 rfl rfl (show zyR _ _ _ _ [some (.ref (0 + 3)), some (.int x1), none] [.ref (0 + 3)] _ _ from ?_)
    refine zy_1r (c := 0) rfl rfl rfl (show zyR _ _ _ _ [some (.ref (0 + 3)), some (.int x1), none] [.ref (12 + 3)] _ _ from ?_)
    obtain ⟨p3, hp3, h⟩ := zy_bind h
    refine zy_5 (c := 12) (as := []) (rest := []) (L := [some (.ref (12 + 3)), none, none, none, none]) (d' := 7) rfl rfl rfl (Nat.le_of_ble_eq_true rfl) (Nat.le_of_ble_eq_true rfl) rfl (Nat.le_of_ble_eq_true rfl) rfl rfl (zyC90 hp3) ?_
    show zyR _ _ _ _ [some (.ref (0 + 3)), some (.int x1), none] [.int p3.1] _ _
    refine zy_23 rfl rfl (show zyR _ _ _ _ [some (.ref (0 + 3)), some (.int x1), some (.int p3.1)] [] _ _ from ?_)
    refine zy_2 rfl rfl (show zyR _ _ _ _ [some (.ref (0 + 3)), some (.int x1), some (.int p3.1)] [.int x1] _ _ from ?_)
    refine zy_24_0 rfl (fun b6 => (show zyR _ _ _ _ [some (.ref (0 + 3)), some (.int x1), some (.int p3.1)] [] _ _ from ?_)) (fun b6 => (show zyR _ _ _ _ [some (.ref (0 + 3)), some (.int x1), some (.int p3.1)] [] _ _ from ?_))
    · replace h := zy_ifp h b6
      exact zy_sub (show zy_le [none, none, some (.int p3.1)] [some (.ref (0 + 3)), some (.int x1), some (.int p3.1)] from ⟨rfl, trivial⟩) (zyC89_26 h)
    · replace h := zy_ifn h b6
      refine zy_2 rfl rfl (show zyR _ _ _ _ [some (.ref (0 + 3)), some (.int x1), some (.int p3.1)] [.int p3.1] _ _ from ?_)
      refine zy_3 rfl rfl (show zyR _ _ _ _ [some (.ref (0 + 3)), some (.int x1), some (.int p3.1)] [.int (-1 : Int32), .int p3.1] _ _ from ?_)
      refine zy_25_1 rfl (fun b5 => (show zyR _ _ _ _ [some (.ref (0 + 3)), some (.int x1), some (.int p3.1)] [] _ _ from ?_)) (fun b5 => (show zyR _ _ _ _ [some (.ref (0 + 3)), some (.int x1), some (.int p3.1)] [] _ _ from ?_))
      · replace h := zy_ifp h b5
        refine zy_0 rfl rfl (show zyR _ _ _ _ [some (.ref (0 + 3)), some (.int x1), some (.int p3.1)] [.ref (0 + 3)] _ _ from ?_)
        refine zy_1r (c := 0) rfl rfl rfl (show zyR _ _ _ _ [some (.ref (0 + 3)), some (.int x1), some (.int p3.1)] [.ref (12 + 3)] _ _ from ?_)
        refine zy_2 rfl rfl (show zyR _ _ _ _ [some (.ref (0 + 3)), some (.int x1), some (.int p3.1)] [.int p3.1, .ref (12 + 3)] _ _ from ?_)
        obtain ⟨p4, hp4, h⟩ := zy_bind h
        refine zy_5 (c := 12) (as := [.int p3.1]) (rest := []) (L := [some (.ref (12 + 3)), some (.int p3.1)]) (d' := 7) rfl rfl rfl (Nat.le_of_ble_eq_true rfl) (Nat.le_of_ble_eq_true rfl) rfl (Nat.le_of_ble_eq_true rfl) rfl rfl (zyC73 hp4) ?_
        show zyR _ _ _ _ [some (.ref (0 + 3)), some (.int x1), some (.int p3.1)] [.int p4.1] _ _
        obtain ⟨rfl, rfl⟩ := zy_pi h
        exact zy_4 rfl ⟨rfl, rfl⟩
      · replace h := zy_ifn h b5
        exact zy_sub (show zy_le [none, none, some (.int p3.1)] [some (.ref (0 + 3)), some (.int x1), some (.int p3.1)] from ⟨rfl, trivial⟩) (zyC89_26 h)
  · replace h := zy_ifn h b7
    refine zy_3 rfl rfl (show zyR _ _ _ _ [some (.ref (0 + 3)), some (.int x1), none] [.int (-1 : Int32)] _ _ from ?_)
    obtain ⟨rfl, rfl⟩ := zy_pi h
    exact zy_4 rfl ⟨rfl, rfl⟩
