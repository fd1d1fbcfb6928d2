/-! PART 41.03: methods as functions. Made by wip/v4/dcp.py. -/
/-! NineOpinions.people(III)I -/
noncomputable def zyF17_53b  (k53 : Int32 → Int32 → Nat → Int32 → zy_S → Option (Int32 × zy_S)) (x2 : Int32) (x3 : Int32) (x4 : Nat) (x5 : Int32) (s : zy_S) : Option (Int32 × zy_S) :=
if x3 ≤ x5 then
some (x5, s)
else
(zyF22 x4 (x2 + ((2 : Int32) * x5)) s).bind fun p1 =>
if p1.1 = 0 then
some (x5, p1.2)
else
k53 x2 x3 x4 (x5 + (1 : Int32)) p1.2
theorem zyC17_53b {X : zx_X}  {k53 : Int32 → Int32 → Nat → Int32 → zy_S → Option (Int32 × zy_S)}  (hk53 : ∀ (x2 : Int32) (x3 : Int32) (x4 : Nat) (x5 : Int32) (s : zy_S) (r : Int32) (s' : zy_S) (hs_x4 : zy_isSh x4), k53 x2 x3 x4 x5 s = some (r, s') → zyR X 3 17 53 [some (.ref (0 + 3)), none, some (.int x2), some (.int x3), some (.ref (x4 + 3)), some (.int x5)] [] s (zyE (some (.int r)) s')) {x2 : Int32} {x3 : Int32} {x4 : Nat} {x5 : Int32} {s : zy_S} {r : Int32} {s' : zy_S} (hs_x4 : zy_isSh x4) (h : zyF17_53b k53 x2 x3 x4 x5 s = some (r, s')) : zyR X 3 17 53 [some (.ref (0 + 3)), none, some (.int x2), some (.int x3), some (.ref (x4 + 3)), some (.int x5)] [] s (zyE (some (.int r)) s') := by
  unfold zyF17_53b at h
  refine zy_2 rfl rfl (show zyR _ _ _ _ [some (.ref (0 + 3)), none, some (.int x2), some (.int x3), some (.ref (x4 + 3)), some (.int x5)] [.int x5] _ _ from ?_)
  refine zy_2 rfl rfl (show zyR _ _ _ _ [some (.ref (0 + 3)), none, some (.int x2), some (.int x3), some (.ref (x4 + 3)), some (.int x5)] [.int x3, .int x5] _ _ from ?_)
  refine zy_25_3 rfl (fun b3 => (show zyR _ _ _ _ [some (.ref (0 + 3)), none, some (.int x2), some (.int x3), some (.ref (x4 + 3)), some (.int x5)] [] _ _ from ?_)) (fun b3 => (show zyR _ _ _ _ [some (.ref (0 + 3)), none, some (.int x2), some (.int x3), some (.ref (x4 + 3)), some (.int x5)] [] _ _ from ?_))
  · replace h := zy_ifp h b3
    refine zy_2 rfl rfl (show zyR _ _ _ _ [some (.ref (0 + 3)), none, some (.int x2), some (.int x3), some (.ref (x4 + 3)), some (.int x5)] [.int x5] _ _ from ?_)
    obtain ⟨rfl, rfl⟩ := zy_pi h
    exact zy_4 rfl ⟨rfl, rfl⟩
  · replace h := zy_ifn h b3
    refine zy_0 rfl rfl (show zyR _ _ _ _ [some (.ref (0 + 3)), none, some (.int x2), some (.int x3), some (.ref (x4 + 3)), some (.int x5)] [.ref (0 + 3)] _ _ from ?_)
    refine zy_0 rfl rfl (show zyR _ _ _ _ [some (.ref (0 + 3)), none, some (.int x2), some (.int x3), some (.ref (x4 + 3)), some (.int x5)] [.ref (x4 + 3), .ref (0 + 3)] _ _ from ?_)
    refine zy_2 rfl rfl (show zyR _ _ _ _ [some (.ref (0 + 3)), none, some (.int x2), some (.int x3), some (.ref (x4 + 3)), some (.int x5)] [.int x2, .ref (x4 + 3), .ref (0 + 3)] _ _ from ?_)
    refine zy_3 rfl rfl (show zyR _ _ _ _ [some (.ref (0 + 3)), none, some (.int x2), some (.int x3), some (.ref (x4 + 3)), some (.int x5)] [.int (2 : Int32), .int x2, .ref (x4 + 3), .ref (0 + 3)] _ _ from ?_)
    refine zy_2 rfl rfl (show zyR _ _ _ _ [some (.ref (0 + 3)), none, some (.int x2), some (.int x3), some (.ref (x4 + 3)), some (.int x5)] [.int x5, .int (2 : Int32), .int x2, .ref (x4 + 3), .ref (0 + 3)] _ _ from ?_)
    refine zy_12 rfl (show zyR _ _ _ _ [some (.ref (0 + 3)), none, some (.int x2), some (.int x3), some (.ref (x4 + 3)), some (.int x5)] [.int ((2 : Int32) * x5), .int x2, .ref (x4 + 3), .ref (0 + 3)] _ _ from ?_)
    refine zy_10 rfl (show zyR _ _ _ _ [some (.ref (0 + 3)), none, some (.int x2), some (.int x3), some (.ref (x4 + 3)), some (.int x5)] [.int (x2 + ((2 : Int32) * x5)), .ref (x4 + 3), .ref (0 + 3)] _ _ from ?_)
    obtain ⟨p1, hp1, h⟩ := zy_bind h
    refine zy_5 (c := 0) (as := [.ref (x4 + 3), .int (x2 + ((2 : Int32) * x5))]) (rest := []) (L := [some (.ref (0 + 3)), some (.ref (x4 + 3)), some (.int (x2 + ((2 : Int32) * x5))), none, none]) (d' := 2) rfl rfl rfl (Nat.le_of_ble_eq_true rfl) (Nat.le_of_ble_eq_true rfl) rfl (Nat.le_of_ble_eq_true rfl) rfl rfl (zyC22 hs_x4 hp1) ?_
    show zyR _ _ _ _ [some (.ref (0 + 3)), none, some (.int x2), some (.int x3), some (.ref (x4 + 3)), some (.int x5)] [.int p1.1] _ _
    refine zy_24_0 rfl (fun b2 => (show zyR _ _ _ _ [some (.ref (0 + 3)), none, some (.int x2), some (.int x3), some (.ref (x4 + 3)), some (.int x5)] [] _ _ from ?_)) (fun b2 => (show zyR _ _ _ _ [some (.ref (0 + 3)), none, some (.int x2), some (.int x3), some (.ref (x4 + 3)), some (.int x5)] [] _ _ from ?_))
    · replace h := zy_ifp h b2
      refine zy_2 rfl rfl (show zyR _ _ _ _ [some (.ref (0 + 3)), none, some (.int x2), some (.int x3), some (.ref (x4 + 3)), some (.int x5)] [.int x5] _ _ from ?_)
      obtain ⟨rfl, rfl⟩ := zy_pi h
      exact zy_4 rfl ⟨rfl, rfl⟩
    · replace h := zy_ifn h b2
      refine zy_22 rfl rfl rfl rfl (show zyR _ _ _ _ [some (.ref (0 + 3)), none, some (.int x2), some (.int x3), some (.ref (x4 + 3)), some (.int (x5 + (1 : Int32)))] [] _ _ from ?_)
      refine zy_6 rfl (show zyR _ _ _ _ [some (.ref (0 + 3)), none, some (.int x2), some (.int x3), some (.ref (x4 + 3)), some (.int (x5 + (1 : Int32)))] [] _ _ from ?_)
      exact zy_sub (show zy_le [some (.ref (0 + 3)), none, some (.int x2), some (.int x3), some (.ref (x4 + 3)), some (.int (x5 + (1 : Int32)))] [some (.ref (0 + 3)), none, some (.int x2), some (.int x3), some (.ref (x4 + 3)), some (.int (x5 + (1 : Int32)))] from ⟨rfl, ⟨rfl, ⟨rfl, ⟨rfl, ⟨rfl, trivial⟩⟩⟩⟩⟩) (hk53 x2 x3 x4 (x5 + (1 : Int32)) p1.2 _ _ hs_x4 h)
noncomputable def zyF17_53   (n : Nat) : Int32 → Int32 → Nat → Int32 → zy_S → Option (Int32 × zy_S) := Nat.rec (fun _ _ _ _ _ => none) (fun _ k53 => zyF17_53b k53) n
theorem zyC17_53 {X : zx_X}     : ∀ (n : Nat) (x2 : Int32) (x3 : Int32) (x4 : Nat) (x5 : Int32) (s : zy_S) (r : Int32) (s' : zy_S) (hs_x4 : zy_isSh x4), zyF17_53 n x2 x3 x4 x5 s = some (r, s') → zyR X 3 17 53 [some (.ref (0 + 3)), none, some (.int x2), some (.int x3), some (.ref (x4 + 3)), some (.int x5)] [] s (zyE (some (.int r)) s')
  | 0, _, _, _, _ => by
    intro s r s' hs_x4 h
    have h : (none : Option (Int32 × zy_S)) = some (r, s') := h
    cases h
  | n + 1, x2, x3, x4, x5 => by
    intro s r s' hs_x4 h
    exact zyC17_53b (k53 := zyF17_53 n) (fun x2 x3 x4 x5 s r s' hs_x4 h => zyC17_53  n x2 x3 x4 x5 s r s' hs_x4 h) hs_x4 h
noncomputable def zyF17   (x1 : Int32) (x2 : Int32) (x3 : Int32) (s : zy_S) : Option (Int32 × zy_S) :=
(zyF18 x1 s).bind fun p4 =>
if p4.1 = 0 then
some ((-1 : Int32), p4.2)
else
if x3 < (1 : Int32) then
some ((-1 : Int32), p4.2)
else
if x3 ≤ (8 : Int32) then
if zy_in x1 6 then
if zy_Wb p4.2 then
(zyF19 (zy_sh (x1).toNatClampNeg) p4.2).bind fun p7 =>
if p7.1 = 0 then
(zyF21 (zy_sh (x1).toNatClampNeg) (1 : Int32) p7.2).bind fun p8 =>
if p8.1 ≠ 0 then
zyF17_53 zy_fu x2 x3 (zy_sh (x1).toNatClampNeg) (0 : Int32) p8.2
else
some ((-12 : Int32), p8.2)
else
some ((0 : Int32), p7.2)
else none
else none
else
some ((-1 : Int32), p4.2)
theorem zyC17 {X : zx_X}     {x1 : Int32} {x2 : Int32} {x3 : Int32} {s : zy_S} {r : Int32} {s' : zy_S}  (h : zyF17 x1 x2 x3 s = some (r, s')) : zyR X 3 17 0 [some (.ref (0 + 3)), some (.int x1), some (.int x2), some (.int x3), none, none] [] s (zyE (some (.int r)) s') := by
  unfold zyF17 at h
  refine zy_2 rfl rfl (show zyR _ _ _ _ [some (.ref (0 + 3)), some (.int x1), some (.int x2), some (.int x3), none, none] [.int x1] _ _ from ?_)
  obtain ⟨p4, hp4, h⟩ := zy_bind h
  refine zy_60 (as := [.int x1]) (rest := []) (L := [some (.int x1)]) (d' := 1) rfl rfl (Nat.le_of_ble_eq_true rfl) (Nat.le_of_ble_eq_true rfl) rfl (Nat.le_of_ble_eq_true rfl) rfl rfl (zyC18 hp4) ?_
  show zyR _ _ _ _ [some (.ref (0 + 3)), some (.int x1), some (.int x2), some (.int x3), none, none] [.int p4.1] _ _
  refine zy_24_0 rfl (fun b13 => (show zyR _ _ _ _ [some (.ref (0 + 3)), some (.int x1), some (.int x2), some (.int x3), none, none] [] _ _ from ?_)) (fun b13 => (show zyR _ _ _ _ [some (.ref (0 + 3)), some (.int x1), some (.int x2), some (.int x3), none, none] [] _ _ from ?_))
  · replace h := zy_ifp h b13
    refine zy_3 rfl rfl (show zyR _ _ _ _ [some (.ref (0 + 3)), some (.int x1), some (.int x2), some (.int x3), none, none] [.int (-1 : Int32)] _ _ from ?_)
    obtain ⟨rfl, rfl⟩ := zy_pi h
    exact zy_4 rfl ⟨rfl, rfl⟩
  · replace h := zy_ifn h b13
    refine zy_2 rfl rfl (show zyR _ _ _ _ [some (.ref (0 + 3)), some (.int x1), some (.int x2), some (.int x3), none, none] [.int x3] _ _ from ?_)
    refine zy_3 rfl rfl (show zyR _ _ _ _ [some (.ref (0 + 3)), some (.int x1), some (.int x2), some (.int x3), none, none] [.int (1 : Int32), .int x3] _ _ from ?_)
    refine zy_25_2 rfl (fun b12 => (show zyR _ _ _ _ [some (.ref (0 + 3)), some (.int x1), some (.int x2), some (.int x3), none, none] [] _ _ from ?_)) (fun b12 => (show zyR _ _ _ _ [some (.ref (0 + 3)), some (.int x1), some (.int x2), some (.int x3), none, none] [] _ _ from ?_))
    · replace h := zy_ifp h b12
      refine zy_3 rfl rfl (show zyR _ _ _ _ [some (.ref (0 + 3)), some (.int x1), some (.int x2), some (.int x3), none, none] [.int (-1 : Int32)] _ _ from ?_)
      obtain ⟨rfl, rfl⟩ := zy_pi h
      exact zy_4 rfl ⟨rfl, rfl⟩
    · replace h := zy_ifn h b12
      refine zy_2 rfl rfl (show zyR _ _ _ _ [some (.ref (0 + 3)), some (.int x1), some (.int x2), some (.int x3), none, none] [.int x3] _ _ from ?_)
      refine zy_3 rfl rfl (show zyR _ _ _ _ [some (.ref (0 + 3)), some (.int x1), some (.int x2), some (.int x3), none, none] [.int (8 : Int32), .int x3] _ _ from ?_)
      refine zy_25_5 rfl (fun b11 => (show zyR _ _ _ _ [some (.ref (0 + 3)), some (.int x1), some (.int x2), some (.int x3), none, none] [] _ _ from ?_)) (fun b11 => (show zyR _ _ _ _ [some (.ref (0 + 3)), some (.int x1), some (.int x2), some (.int x3), none, none] [] _ _ from ?_))
      · replace h := zy_ifp h b11
        refine zy_0 rfl rfl (show zyR _ _ _ _ [some (.ref (0 + 3)), some (.int x1), some (.int x2), some (.int x3), none, none] [.ref (0 + 3)] _ _ from ?_)
        refine zy_1r (c := 0) rfl rfl rfl (show zyR _ _ _ _ [some (.ref (0 + 3)), some (.int x1), some (.int x2), some (.int x3), none, none] [.ref (30 + 3)] _ _ from ?_)
        refine zy_2 rfl rfl (show zyR _ _ _ _ [some (.ref (0 + 3)), some (.int x1), some (.int x2), some (.int x3), none, none] [.int x1, .ref (30 + 3)] _ _ from ?_)
        obtain ⟨c5, h⟩ := zy_if h
        obtain ⟨c6, h⟩ := zy_if h
        refine zy_28 rfl (zy_Wb_g c6) c5 (show zyR _ _ _ _ [some (.ref (0 + 3)), some (.int x1), some (.int x2), some (.int x3), none, none] [.ref ((zy_sh (x1).toNatClampNeg) + 3)] _ _ from ?_)
        refine zy_39 rfl rfl (show zyR _ _ _ _ [some (.ref (0 + 3)), some (.int x1), some (.int x2), some (.int x3), some (.ref ((zy_sh (x1).toNatClampNeg) + 3)), none] [] _ _ from ?_)
        refine zy_0 rfl rfl (show zyR _ _ _ _ [some (.ref (0 + 3)), some (.int x1), some (.int x2), some (.int x3), some (.ref ((zy_sh (x1).toNatClampNeg) + 3)), none] [.ref ((zy_sh (x1).toNatClampNeg) + 3)] _ _ from ?_)
        obtain ⟨p7, hp7, h⟩ := zy_bind h
        refine zy_5 (c := (zy_sh (x1).toNatClampNeg)) (as := []) (rest := []) (L := [some (.ref ((zy_sh (x1).toNatClampNeg) + 3))]) (d' := 2) rfl rfl (zy_isSh_of (zy_in_lt c5)).1 (Nat.le_of_ble_eq_true rfl) (Nat.le_of_ble_eq_true rfl) rfl (Nat.le_of_ble_eq_true rfl) rfl rfl (zyC19 (zy_isSh_of (zy_in_lt c5)) hp7) ?_
        show zyR _ _ _ _ [some (.ref (0 + 3)), some (.int x1), some (.int x2), some (.int x3), some (.ref ((zy_sh (x1).toNatClampNeg) + 3)), none] [.int p7.1] _ _
        refine zy_24_0 rfl (fun b10 => (show zyR _ _ _ _ [some (.ref (0 + 3)), some (.int x1), some (.int x2), some (.int x3), some (.ref ((zy_sh (x1).toNatClampNeg) + 3)), none] [] _ _ from ?_)) (fun b10 => (show zyR _ _ _ _ [some (.ref (0 + 3)), some (.int x1), some (.int x2), some (.int x3), some (.ref ((zy_sh (x1).toNatClampNeg) + 3)), none] [] _ _ from ?_))
        · replace h := zy_ifp h b10
          refine zy_0 rfl rfl (show zyR _ _ _ _ [some (.ref (0 + 3)), some (.int x1), some (.int x2), some (.int x3), some (.ref ((zy_sh (x1).toNatClampNeg) + 3)), none] [.ref ((zy_sh (x1).toNatClampNeg) + 3)] _ _ from ?_)
          refine zy_3 rfl rfl (show zyR _ _ _ _ [some (.ref (0 + 3)), some (.int x1), some (.int x2), some (.int x3), some (.ref ((zy_sh (x1).toNatClampNeg) + 3)), none] [.int (1 : Int32), .ref ((zy_sh (x1).toNatClampNeg) + 3)] _ _ from ?_)
          obtain ⟨p8, hp8, h⟩ := zy_bind h
          refine zy_5 (c := (zy_sh (x1).toNatClampNeg)) (as := [.int (1 : Int32)]) (rest := []) (L := [some (.ref ((zy_sh (x1).toNatClampNeg) + 3)), some (.int (1 : Int32))]) (d' := 2) rfl rfl (zy_isSh_of (zy_in_lt c5)).1 (Nat.le_of_ble_eq_true rfl) (Nat.le_of_ble_eq_true rfl) rfl (Nat.le_of_ble_eq_true rfl) rfl rfl (zyC21 (zy_isSh_of (zy_in_lt c5)) hp8) ?_
          show zyR _ _ _ _ [some (.ref (0 + 3)), some (.int x1), some (.int x2), some (.int x3), some (.ref ((zy_sh (x1).toNatClampNeg) + 3)), none] [.int p8.1] _ _
          refine zy_24_1 rfl (fun b9 => (show zyR _ _ _ _ [some (.ref (0 + 3)), some (.int x1), some (.int x2), some (.int x3), some (.ref ((zy_sh (x1).toNatClampNeg) + 3)), none] [] _ _ from ?_)) (fun b9 => (show zyR _ _ _ _ [some (.ref (0 + 3)), some (.int x1), some (.int x2), some (.int x3), some (.ref ((zy_sh (x1).toNatClampNeg) + 3)), none] [] _ _ from ?_))
          · replace h := zy_ifp h b9
            refine zy_3 rfl rfl (show zyR _ _ _ _ [some (.ref (0 + 3)), some (.int x1), some (.int x2), some (.int x3), some (.ref ((zy_sh (x1).toNatClampNeg) + 3)), none] [.int (0 : Int32)] _ _ from ?_)
            refine zy_23 rfl rfl (show zyR _ _ _ _ [some (.ref (0 + 3)), some (.int x1), some (.int x2), some (.int x3), some (.ref ((zy_sh (x1).toNatClampNeg) + 3)), some (.int (0 : Int32))] [] _ _ from ?_)
            exact zy_sub (show zy_le [some (.ref (0 + 3)), none, some (.int x2), some (.int x3), some (.ref ((zy_sh (x1).toNatClampNeg) + 3)), some (.int (0 : Int32))] [some (.ref (0 + 3)), some (.int x1), some (.int x2), some (.int x3), some (.ref ((zy_sh (x1).toNatClampNeg) + 3)), some (.int (0 : Int32))] from ⟨rfl, ⟨rfl, ⟨rfl, ⟨rfl, ⟨rfl, trivial⟩⟩⟩⟩⟩) (zyC17_53 zy_fu x2 x3 (zy_sh (x1).toNatClampNeg) (0 : Int32) p8.2 _ _ (zy_isSh_of (zy_in_lt c5)) h)
          · replace h := zy_ifn h b9
            refine zy_3 rfl rfl (show zyR _ _ _ _ [some (.ref (0 + 3)), some (.int x1), some (.int x2), some (.int x3), some (.ref ((zy_sh (x1).toNatClampNeg) + 3)), none] [.int (-12 : Int32)] _ _ from ?_)
            obtain ⟨rfl, rfl⟩ := zy_pi h
            exact zy_4 rfl ⟨rfl, rfl⟩
        · replace h := zy_ifn h b10
          refine zy_3 rfl rfl (show zyR _ _ _ _ [some (.ref (0 + 3)), some (.int x1), some (.int x2), some (.int x3), some (.ref ((zy_sh (x1).toNatClampNeg) + 3)), none] [.int (0 : Int32)] _ _ from ?_)
          obtain ⟨rfl, rfl⟩ := zy_pi h
          exact zy_4 rfl ⟨rfl, rfl⟩
      · replace h := zy_ifn h b11
        refine zy_3 rfl rfl (show zyR _ _ _ _ [some (.ref (0 + 3)), some (.int x1), some (.int x2), some (.int x3), none, none] [.int (-1 : Int32)] _ _ from ?_)
        obtain ⟨rfl, rfl⟩ := zy_pi h
        exact zy_4 rfl ⟨rfl, rfl⟩
/-! NineOpinions.isLine(I)Z -/
noncomputable def zyF26   (x0 : Int32) (s : zy_S) : Option (Int32 × zy_S) :=
if x0 < 0 then
some ((0 : Int32), s)
else
if (24 : Int32) ≤ x0 then
some ((0 : Int32), s)
else
some ((1 : Int32), s)
theorem zyC26 {X : zx_X}     {x0 : Int32} {s : zy_S} {r : Int32} {s' : zy_S}  (h : zyF26 x0 s = some (r, s')) : zyR X 1 26 0 [some (.int x0)] [] s (zyE (some (.int r)) s') := by
  unfold zyF26 at h
  refine zy_2 rfl rfl (show zyR _ _ _ _ [some (.int x0)] [.int x0] _ _ from ?_)
  refine zy_24_2 rfl (fun b2 => (show zyR _ _ _ _ [some (.int x0)] [] _ _ from ?_)) (fun b2 => (show zyR _ _ _ _ [some (.int x0)] [] _ _ from ?_))
  · replace h := zy_ifp h b2
    refine zy_3 rfl rfl (show zyR _ _ _ _ [some (.int x0)] [.int (0 : Int32)] _ _ from ?_)
    cases h
    exact zy_4b rfl ⟨rfl, rfl⟩ (Or.inl rfl)
  · replace h := zy_ifn h b2
    refine zy_2 rfl rfl (show zyR _ _ _ _ [some (.int x0)] [.int x0] _ _ from ?_)
    refine zy_3 rfl rfl (show zyR _ _ _ _ [some (.int x0)] [.int (24 : Int32), .int x0] _ _ from ?_)
    refine zy_25_3 rfl (fun b1 => (show zyR _ _ _ _ [some (.int x0)] [] _ _ from ?_)) (fun b1 => (show zyR _ _ _ _ [some (.int x0)] [] _ _ from ?_))
    · replace h := zy_ifp h b1
      refine zy_3 rfl rfl (show zyR _ _ _ _ [some (.int x0)] [.int (0 : Int32)] _ _ from ?_)
      cases h
      exact zy_4b rfl ⟨rfl, rfl⟩ (Or.inl rfl)
    · replace h := zy_ifn h b1
      refine zy_3 rfl rfl (show zyR _ _ _ _ [some (.int x0)] [.int (1 : Int32)] _ _ from ?_)
      refine zy_6 rfl (show zyR _ _ _ _ [some (.int x0)] [.int (1 : Int32)] _ _ from ?_)
      cases h
      exact zy_4b rfl ⟨rfl, rfl⟩ (Or.inr rfl)
