/-! PART 41.22: methods as functions. Made by wip/v4/dcp.py. -/
/-! NineOpinionsModel.bitsOf(I)I -/
noncomputable def zyF209_4b  (k4 : Int32 → Int32 → Int32 → zy_S → Option (Int32 × zy_S)) (x0 : Int32) (x1 : Int32) (x2 : Int32) (s : zy_S) : Option (Int32 × zy_S) :=
if (24 : Int32) ≤ x2 then
some (x1, s)
else
k4 x0 (x1 + ((x0 >>> (x2 &&& 31)) &&& (1 : Int32))) (x2 + (1 : Int32)) s
theorem zyC209_4b {X : zx_X}  {k4 : Int32 → Int32 → Int32 → zy_S → Option (Int32 × zy_S)}  (hk4 : ∀ (x0 : Int32) (x1 : Int32) (x2 : Int32) (s : zy_S) (r : Int32) (s' : zy_S), k4 x0 x1 x2 s = some (r, s') → zyR X 1 209 4 [some (.int x0), some (.int x1), some (.int x2)] [] s (zyE (some (.int r)) s')) {x0 : Int32} {x1 : Int32} {x2 : Int32} {s : zy_S} {r : Int32} {s' : zy_S}  (h : zyF209_4b k4 x0 x1 x2 s = some (r, s')) : zyR X 1 209 4 [some (.int x0), some (.int x1), some (.int x2)] [] s (zyE (some (.int r)) s') := by
  unfold zyF209_4b at h
  refine zy_2 rfl rfl (show zyR _ _ _ _ [some (.int x0), some (.int x1), some (.int x2)] [.int x2] _ _ from ?_)
  refine zy_3 rfl rfl (show zyR _ _ _ _ [some (.int x0), some (.int x1), some (.int x2)] [.int (24 : Int32), .int x2] _ _ from ?_)
  refine zy_25_3 rfl (fun b1 => (show zyR _ _ _ _ [some (.int x0), some (.int x1), some (.int x2)] [] _ _ from ?_)) (fun b1 => (show zyR _ _ _ _ [some (.int x0), some (.int x1), some (.int x2)] [] _ _ from ?_))
  · replace h := zy_ifp h b1
    refine zy_2 rfl rfl (show zyR _ _ _ _ [some (.int x0), some (.int x1), some (.int x2)] [.int x1] _ _ from ?_)
    obtain ⟨rfl, rfl⟩ := zy_pi h
    exact zy_4 rfl ⟨rfl, rfl⟩
  · replace h := zy_ifn h b1
    refine zy_2 rfl rfl (show zyR _ _ _ _ [some (.int x0), some (.int x1), some (.int x2)] [.int x1] _ _ from ?_)
    refine zy_2 rfl rfl (show zyR _ _ _ _ [some (.int x0), some (.int x1), some (.int x2)] [.int x0, .int x1] _ _ from ?_)
    refine zy_2 rfl rfl (show zyR _ _ _ _ [some (.int x0), some (.int x1), some (.int x2)] [.int x2, .int x0, .int x1] _ _ from ?_)
    refine zy_17 rfl (show zyR _ _ _ _ [some (.int x0), some (.int x1), some (.int x2)] [.int (x0 >>> (x2 &&& 31)), .int x1] _ _ from ?_)
    refine zy_3 rfl rfl (show zyR _ _ _ _ [some (.int x0), some (.int x1), some (.int x2)] [.int (1 : Int32), .int (x0 >>> (x2 &&& 31)), .int x1] _ _ from ?_)
    refine zy_13 rfl (show zyR _ _ _ _ [some (.int x0), some (.int x1), some (.int x2)] [.int ((x0 >>> (x2 &&& 31)) &&& (1 : Int32)), .int x1] _ _ from ?_)
    refine zy_10 rfl (show zyR _ _ _ _ [some (.int x0), some (.int x1), some (.int x2)] [.int (x1 + ((x0 >>> (x2 &&& 31)) &&& (1 : Int32)))] _ _ from ?_)
    refine zy_23 rfl rfl (show zyR _ _ _ _ [some (.int x0), some (.int (x1 + ((x0 >>> (x2 &&& 31)) &&& (1 : Int32)))), some (.int x2)] [] _ _ from ?_)
    refine zy_22 rfl rfl rfl rfl (show zyR _ _ _ _ [some (.int x0), some (.int (x1 + ((x0 >>> (x2 &&& 31)) &&& (1 : Int32)))), some (.int (x2 + (1 : Int32)))] [] _ _ from ?_)
    refine zy_6 rfl (show zyR _ _ _ _ [some (.int x0), some (.int (x1 + ((x0 >>> (x2 &&& 31)) &&& (1 : Int32)))), some (.int (x2 + (1 : Int32)))] [] _ _ from ?_)
    exact zy_sub (show zy_le [some (.int x0), some (.int (x1 + ((x0 >>> (x2 &&& 31)) &&& (1 : Int32)))), some (.int (x2 + (1 : Int32)))] [some (.int x0), some (.int (x1 + ((x0 >>> (x2 &&& 31)) &&& (1 : Int32)))), some (.int (x2 + (1 : Int32)))] from ⟨rfl, ⟨rfl, ⟨rfl, trivial⟩⟩⟩) (hk4 x0 (x1 + ((x0 >>> (x2 &&& 31)) &&& (1 : Int32))) (x2 + (1 : Int32)) s _ _ h)
noncomputable def zyF209_4   (n : Nat) : Int32 → Int32 → Int32 → zy_S → Option (Int32 × zy_S) := Nat.rec (fun _ _ _ _ => none) (fun _ k4 => zyF209_4b k4) n
theorem zyC209_4 {X : zx_X}     : ∀ (n : Nat) (x0 : Int32) (x1 : Int32) (x2 : Int32) (s : zy_S) (r : Int32) (s' : zy_S), zyF209_4 n x0 x1 x2 s = some (r, s') → zyR X 1 209 4 [some (.int x0), some (.int x1), some (.int x2)] [] s (zyE (some (.int r)) s')
  | 0, _, _, _ => by
    intro s r s'  h
    have h : (none : Option (Int32 × zy_S)) = some (r, s') := h
    cases h
  | n + 1, x0, x1, x2 => by
    intro s r s'  h
    exact zyC209_4b (k4 := zyF209_4 n) (fun x0 x1 x2 s r s'  h => zyC209_4  n x0 x1 x2 s r s'  h) h
noncomputable def zyF209   (x0 : Int32) (s : zy_S) : Option (Int32 × zy_S) :=
zyF209_4 zy_fu x0 (0 : Int32) (0 : Int32) s
theorem zyC209 {X : zx_X}     {x0 : Int32} {s : zy_S} {r : Int32} {s' : zy_S}  (h : zyF209 x0 s = some (r, s')) : zyR X 1 209 0 [some (.int x0), none, none] [] s (zyE (some (.int r)) s') := by
  unfold zyF209 at h
  refine zy_3 rfl rfl (show zyR _ _ _ _ [some (.int x0), none, none] [.int (0 : Int32)] _ _ from ?_)
  refine zy_23 rfl rfl (show zyR _ _ _ _ [some (.int x0), some (.int (0 : Int32)), none] [] _ _ from ?_)
  refine zy_3 rfl rfl (show zyR _ _ _ _ [some (.int x0), some (.int (0 : Int32)), none] [.int (0 : Int32)] _ _ from ?_)
  refine zy_23 rfl rfl (show zyR _ _ _ _ [some (.int x0), some (.int (0 : Int32)), some (.int (0 : Int32))] [] _ _ from ?_)
  exact zy_sub (show zy_le [some (.int x0), some (.int (0 : Int32)), some (.int (0 : Int32))] [some (.int x0), some (.int (0 : Int32)), some (.int (0 : Int32))] from ⟨rfl, ⟨rfl, ⟨rfl, trivial⟩⟩⟩) (zyC209_4 zy_fu x0 (0 : Int32) (0 : Int32) s _ _ h)
/-! NineOpinionsModel.isRoom(I)Z -/
noncomputable def zyF219   (x1 : Int32) (s : zy_S) : Option (Int32 × zy_S) :=
(zyF209 x1 s).bind fun p1 =>
if (p1.2.1 44 40) ≤ p1.1 then
some ((0 : Int32), p1.2)
else
some ((1 : Int32), p1.2)
theorem zyC219 {X : zx_X}     {x1 : Int32} {s : zy_S} {r : Int32} {s' : zy_S}  (h : zyF219 x1 s = some (r, s')) : zyR X 2 219 0 [some (.ref (43 + 3)), some (.int x1)] [] s (zyE (some (.int r)) s') := by
  unfold zyF219 at h
  refine zy_2 rfl rfl (show zyR _ _ _ _ [some (.ref (43 + 3)), some (.int x1)] [.int x1] _ _ from ?_)
  obtain ⟨p1, hp1, h⟩ := zy_bind h
  refine zy_60 (as := [.int x1]) (rest := []) (L := [some (.int x1), none, none]) (d' := 1) rfl rfl (Nat.le_of_ble_eq_true rfl) (Nat.le_of_ble_eq_true rfl) rfl (Nat.le_of_ble_eq_true rfl) rfl rfl (zyC209 hp1) ?_
  show zyR _ _ _ _ [some (.ref (43 + 3)), some (.int x1)] [.int p1.1] _ _
  refine zy_0 rfl rfl (show zyR _ _ _ _ [some (.ref (43 + 3)), some (.int x1)] [.ref (43 + 3), .int p1.1] _ _ from ?_)
  refine zy_1r (c := 43) rfl rfl rfl (show zyR _ _ _ _ [some (.ref (43 + 3)), some (.int x1)] [.ref (44 + 3), .int p1.1] _ _ from ?_)
  refine zy_3 rfl rfl (show zyR _ _ _ _ [some (.ref (43 + 3)), some (.int x1)] [.int (40 : Int32), .ref (44 + 3), .int p1.1] _ _ from ?_)
  refine zy_26 (c := 44) rfl rfl (by decide) (show zyR _ _ _ _ [some (.ref (43 + 3)), some (.int x1)] [.int (p1.2.1 44 40), .int p1.1] _ _ from ?_)
  refine zy_25_3 rfl (fun b2 => (show zyR _ _ _ _ [some (.ref (43 + 3)), some (.int x1)] [] _ _ from ?_)) (fun b2 => (show zyR _ _ _ _ [some (.ref (43 + 3)), some (.int x1)] [] _ _ from ?_))
  · replace h := zy_ifp h b2
    refine zy_3 rfl rfl (show zyR _ _ _ _ [some (.ref (43 + 3)), some (.int x1)] [.int (0 : Int32)] _ _ from ?_)
    cases h
    exact zy_4b rfl ⟨rfl, rfl⟩ (Or.inl rfl)
  · replace h := zy_ifn h b2
    refine zy_3 rfl rfl (show zyR _ _ _ _ [some (.ref (43 + 3)), some (.int x1)] [.int (1 : Int32)] _ _ from ?_)
    refine zy_6 rfl (show zyR _ _ _ _ [some (.ref (43 + 3)), some (.int x1)] [.int (1 : Int32)] _ _ from ?_)
    cases h
    exact zy_4b rfl ⟨rfl, rfl⟩ (Or.inr rfl)
/-! NineOpinionsModel.write(I)I -/
noncomputable def zyF240   (x1 : Int32) (s : zy_S) : Option (Int32 × zy_S) :=
(zyF186 (x1).toInt64 s).bind fun p1 =>
if p1.1 ≠ 0 then
(zyF208 (p1.2.1 43 7) x1 p1.2).bind fun p2 =>
if p2.1 ≠ 0 then
some ((-5 : Int32), p2.2)
else
(zyF219 (p2.2.1 43 7) p2.2).bind fun p3 =>
if p3.1 ≠ 0 then
if zy_in ((16 : Int32) + x1) 41 then
(zyF209 ((p3.2.1 43 7) ||| ((1 : Int32) <<< (x1 &&& 31))) (zy_up (zy_up (zy_up p3.2 43 7 ((p3.2.1 43 7) ||| ((1 : Int32) <<< (x1 &&& 31)))) 44 (((16 : Int32) + x1)).toNatClampNeg (0 : Int32)) 54 0 ((p3.2.1 54 0) + (1 : Int32)))).bind fun p5 =>
some (p5.1, p5.2)
else none
else
some ((-5 : Int32), p3.2)
else
some ((-1 : Int32), p1.2)
theorem zyC240 {X : zx_X}     {x1 : Int32} {s : zy_S} {r : Int32} {s' : zy_S}  (h : zyF240 x1 s = some (r, s')) : zyR X 3 240 0 [some (.ref (43 + 3)), some (.int x1)] [] s (zyE (some (.int r)) s') := by
  unfold zyF240 at h
  refine zy_2 rfl rfl (show zyR _ _ _ _ [some (.ref (43 + 3)), some (.int x1)] [.int x1] _ _ from ?_)
  refine zy_40 rfl (show zyR _ _ _ _ [some (.ref (43 + 3)), some (.int x1)] [.long (x1).toInt64] _ _ from ?_)
  obtain ⟨p1, hp1, h⟩ := zy_bind h
  refine zy_60 (as := [.long (x1).toInt64]) (rest := []) (L := [some (.long (x1).toInt64), none]) (d' := 2) rfl rfl (Nat.le_of_ble_eq_true rfl) (Nat.le_of_ble_eq_true rfl) rfl (Nat.le_of_ble_eq_true rfl) rfl rfl (zyC186 hp1) ?_
  show zyR _ _ _ _ [some (.ref (43 + 3)), some (.int x1)] [.int p1.1] _ _
  refine zy_24_1 rfl (fun b8 => (show zyR _ _ _ _ [some (.ref (43 + 3)), some (.int x1)] [] _ _ from ?_)) (fun b8 => (show zyR _ _ _ _ [some (.ref (43 + 3)), some (.int x1)] [] _ _ from ?_))
  · replace h := zy_ifp h b8
    refine zy_0 rfl rfl (show zyR _ _ _ _ [some (.ref (43 + 3)), some (.int x1)] [.ref (43 + 3)] _ _ from ?_)
    refine zy_1 (c := 43) rfl rfl rfl (show zyR _ _ _ _ [some (.ref (43 + 3)), some (.int x1)] [.int (p1.2.1 43 7)] _ _ from ?_)
    refine zy_2 rfl rfl (show zyR _ _ _ _ [some (.ref (43 + 3)), some (.int x1)] [.int x1, .int (p1.2.1 43 7)] _ _ from ?_)
    obtain ⟨p2, hp2, h⟩ := zy_bind h
    refine zy_60 (as := [.int (p1.2.1 43 7), .int x1]) (rest := []) (L := [some (.int (p1.2.1 43 7)), some (.int x1)]) (d' := 1) rfl rfl (Nat.le_of_ble_eq_true rfl) (Nat.le_of_ble_eq_true rfl) rfl (Nat.le_of_ble_eq_true rfl) rfl rfl (zyC208 hp2) ?_
    show zyR _ _ _ _ [some (.ref (43 + 3)), some (.int x1)] [.int p2.1] _ _
    refine zy_24_1 rfl (fun b7 => (show zyR _ _ _ _ [some (.ref (43 + 3)), some (.int x1)] [] _ _ from ?_)) (fun b7 => (show zyR _ _ _ _ [some (.ref (43 + 3)), some (.int x1)] [] _ _ from ?_))
    · replace h := zy_ifp h b7
      refine zy_3 rfl rfl (show zyR _ _ _ _ [some (.ref (43 + 3)), some (.int x1)] [.int (-5 : Int32)] _ _ from ?_)
      obtain ⟨rfl, rfl⟩ := zy_pi h
      exact zy_4 rfl ⟨rfl, rfl⟩
    · replace h := zy_ifn h b7
      refine zy_0 rfl rfl (show zyR _ _ _ _ [some (.ref (43 + 3)), some (.int x1)] [.ref (43 + 3)] _ _ from ?_)
      refine zy_0 rfl rfl (show zyR _ _ _ _ [some (.ref (43 + 3)), some (.int x1)] [.ref (43 + 3), .ref (43 + 3)] _ _ from ?_)
      refine zy_1 (c := 43) rfl rfl rfl (show zyR _ _ _ _ [some (.ref (43 + 3)), some (.int x1)] [.int (p2.2.1 43 7), .ref (43 + 3)] _ _ from ?_)
      obtain ⟨p3, hp3, h⟩ := zy_bind h
      refine zy_5 (c := 43) (as := [.int (p2.2.1 43 7)]) (rest := []) (L := [some (.ref (43 + 3)), some (.int (p2.2.1 43 7))]) (d' := 2) rfl rfl rfl (Nat.le_of_ble_eq_true rfl) (Nat.le_of_ble_eq_true rfl) rfl (Nat.le_of_ble_eq_true rfl) rfl rfl (zyC219 hp3) ?_
      show zyR _ _ _ _ [some (.ref (43 + 3)), some (.int x1)] [.int p3.1] _ _
      refine zy_24_1 rfl (fun b6 => (show zyR _ _ _ _ [some (.ref (43 + 3)), some (.int x1)] [] _ _ from ?_)) (fun b6 => (show zyR _ _ _ _ [some (.ref (43 + 3)), some (.int x1)] [] _ _ from ?_))
      · replace h := zy_ifp h b6
        refine zy_0 rfl rfl (show zyR _ _ _ _ [some (.ref (43 + 3)), some (.int x1)] [.ref (43 + 3)] _ _ from ?_)
        refine zy_33 rfl rfl (show zyR _ _ _ _ [some (.ref (43 + 3)), some (.int x1)] [.ref (43 + 3), .ref (43 + 3)] _ _ from ?_)
        refine zy_1 (c := 43) rfl rfl rfl (show zyR _ _ _ _ [some (.ref (43 + 3)), some (.int x1)] [.int (p3.2.1 43 7), .ref (43 + 3)] _ _ from ?_)
        refine zy_3 rfl rfl (show zyR _ _ _ _ [some (.ref (43 + 3)), some (.int x1)] [.int (1 : Int32), .int (p3.2.1 43 7), .ref (43 + 3)] _ _ from ?_)
        refine zy_2 rfl rfl (show zyR _ _ _ _ [some (.ref (43 + 3)), some (.int x1)] [.int x1, .int (1 : Int32), .int (p3.2.1 43 7), .ref (43 + 3)] _ _ from ?_)
        refine zy_16 rfl (show zyR _ _ _ _ [some (.ref (43 + 3)), some (.int x1)] [.int ((1 : Int32) <<< (x1 &&& 31)), .int (p3.2.1 43 7), .ref (43 + 3)] _ _ from ?_)
        refine zy_14 rfl (show zyR _ _ _ _ [some (.ref (43 + 3)), some (.int x1)] [.int ((p3.2.1 43 7) ||| ((1 : Int32) <<< (x1 &&& 31))), .ref (43 + 3)] _ _ from ?_)
        refine zy_52 (c := 43) rfl rfl rfl (show zyR _ _ _ _ [some (.ref (43 + 3)), some (.int x1)] [] _ _ from ?_)
        refine zy_0 rfl rfl (show zyR _ _ _ _ [some (.ref (43 + 3)), some (.int x1)] [.ref (43 + 3)] _ _ from ?_)
        refine zy_1r (c := 43) rfl rfl rfl (show zyR _ _ _ _ [some (.ref (43 + 3)), some (.int x1)] [.ref (44 + 3)] _ _ from ?_)
        refine zy_3 rfl rfl (show zyR _ _ _ _ [some (.ref (43 + 3)), some (.int x1)] [.int (16 : Int32), .ref (44 + 3)] _ _ from ?_)
        refine zy_2 rfl rfl (show zyR _ _ _ _ [some (.ref (43 + 3)), some (.int x1)] [.int x1, .int (16 : Int32), .ref (44 + 3)] _ _ from ?_)
        refine zy_10 rfl (show zyR _ _ _ _ [some (.ref (43 + 3)), some (.int x1)] [.int ((16 : Int32) + x1), .ref (44 + 3)] _ _ from ?_)
        refine zy_3 rfl rfl (show zyR _ _ _ _ [some (.ref (43 + 3)), some (.int x1)] [.int (0 : Int32), .int ((16 : Int32) + x1), .ref (44 + 3)] _ _ from ?_)
        obtain ⟨c4, h⟩ := zy_if h
        refine zy_27 (c := 44) rfl rfl c4 (show zyR _ _ _ _ [some (.ref (43 + 3)), some (.int x1)] [] _ _ from ?_)
        refine zy_0 rfl rfl (show zyR _ _ _ _ [some (.ref (43 + 3)), some (.int x1)] [.ref (43 + 3)] _ _ from ?_)
        refine zy_1r (c := 43) rfl rfl rfl (show zyR _ _ _ _ [some (.ref (43 + 3)), some (.int x1)] [.ref (54 + 3)] _ _ from ?_)
        refine zy_3 rfl rfl (show zyR _ _ _ _ [some (.ref (43 + 3)), some (.int x1)] [.int (0 : Int32), .ref (54 + 3)] _ _ from ?_)
        refine zy_35 rfl rfl rfl (show zyR _ _ _ _ [some (.ref (43 + 3)), some (.int x1)] [.int (0 : Int32), .ref (54 + 3), .int (0 : Int32), .ref (54 + 3)] _ _ from ?_)
        refine zy_26 (c := 54) rfl rfl (by decide) (show zyR _ _ _ _ [some (.ref (43 + 3)), some (.int x1)] [.int (p3.2.1 54 0), .int (0 : Int32), .ref (54 + 3)] _ _ from ?_)
        refine zy_3 rfl rfl (show zyR _ _ _ _ [some (.ref (43 + 3)), some (.int x1)] [.int (1 : Int32), .int (p3.2.1 54 0), .int (0 : Int32), .ref (54 + 3)] _ _ from ?_)
        refine zy_10 rfl (show zyR _ _ _ _ [some (.ref (43 + 3)), some (.int x1)] [.int ((p3.2.1 54 0) + (1 : Int32)), .int (0 : Int32), .ref (54 + 3)] _ _ from ?_)
        refine zy_27 (c := 54) rfl rfl (by decide) (show zyR _ _ _ _ [some (.ref (43 + 3)), some (.int x1)] [] _ _ from ?_)
        refine zy_0 rfl rfl (show zyR _ _ _ _ [some (.ref (43 + 3)), some (.int x1)] [.ref (43 + 3)] _ _ from ?_)
        refine zy_1 (c := 43) rfl rfl rfl (show zyR _ _ _ _ [some (.ref (43 + 3)), some (.int x1)] [.int ((p3.2.1 43 7) ||| ((1 : Int32) <<< (x1 &&& 31)))] _ _ from ?_)
        obtain ⟨p5, hp5, h⟩ := zy_bind h
        refine zy_60 (as := [.int ((p3.2.1 43 7) ||| ((1 : Int32) <<< (x1 &&& 31)))]) (rest := []) (L := [some (.int ((p3.2.1 43 7) ||| ((1 : Int32) <<< (x1 &&& 31)))), none, none]) (d' := 1) rfl rfl (Nat.le_of_ble_eq_true rfl) (Nat.le_of_ble_eq_true rfl) rfl (Nat.le_of_ble_eq_true rfl) rfl rfl (zyC209 hp5) ?_
        show zyR _ _ _ _ [some (.ref (43 + 3)), some (.int x1)] [.int p5.1] _ _
        obtain ⟨rfl, rfl⟩ := zy_pi h
        exact zy_4 rfl ⟨rfl, rfl⟩
      · replace h := zy_ifn h b6
        refine zy_3 rfl rfl (show zyR _ _ _ _ [some (.ref (43 + 3)), some (.int x1)] [.int (-5 : Int32)] _ _ from ?_)
        obtain ⟨rfl, rfl⟩ := zy_pi h
        exact zy_4 rfl ⟨rfl, rfl⟩
  · replace h := zy_ifn h b8
    refine zy_3 rfl rfl (show zyR _ _ _ _ [some (.ref (43 + 3)), some (.int x1)] [.int (-1 : Int32)] _ _ from ?_)
    obtain ⟨rfl, rfl⟩ := zy_pi h
    exact zy_4 rfl ⟨rfl, rfl⟩
