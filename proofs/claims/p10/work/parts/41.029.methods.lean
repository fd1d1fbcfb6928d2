/-! PART 41.29: methods as functions. Made by wip/v4/dcp.py. -/
/-! NineOpinions$Bodies.runUnder(IIIII)I, over what it calls -/
noncomputable def zyF158_0 (g155 : Int32 → Int32 → Int32 → Int32 → Int32 → zy_S → Option (Int32 × zy_S)) (g157 : Int32 → Int32 → Int32 → Int32 → zy_S → Option (Int32 × zy_S)) (g158 : Int32 → Int32 → Int32 → Int32 → Int32 → zy_S → Option (Int32 × zy_S))  (x1 : Int32) (x2 : Int32) (x3 : Int32) (x4 : Int32) (x5 : Int32) (s : zy_S) : Option (Int32 × zy_S) :=
if zy_in x1 50 then
if x2 = (20 : Int32) then
(g155 x1 x3 (0 : Int32) x4 x5 s).bind fun p2 =>
some ((p2.1 + (3 : Int32)), p2.2)
else
if x2 = (30 : Int32) then
(g155 x1 x3 (1 : Int32) x4 x5 s).bind fun p4 =>
some ((-p4.1), p4.2)
else
if x2 = (40 : Int32) then
(g155 x1 x3 (2 : Int32) x4 x5 s).bind fun p6 =>
some ((p6.1 * (3 : Int32)), p6.2)
else
if x2 = (41 : Int32) then
(g155 x1 x3 (1 : Int32) (x4 + (1 : Int32)) x5 s).bind fun p8 =>
some (p8.1, p8.2)
else
if x2 = (50 : Int32) then
(g155 x1 x3 (2 : Int32) x4 x5 s).bind fun p10 =>
(g155 x1 (s.1 28 (x1).toNatClampNeg) (0 : Int32) (2 : Int32) x5 p10.2).bind fun p11 =>
some ((p10.1 - p11.1), p11.2)
else
if x2 = (60 : Int32) then
(g155 x1 x3 (3 : Int32) x4 x5 s).bind fun p13 =>
some ((p13.1 ^^^ (5 : Int32)), p13.2)
else
if x2 = (70 : Int32) then
(g155 x1 x3 (0 : Int32) x4 x5 s).bind fun p15 =>
some ((p15.1 * (2 : Int32)), p15.2)
else
if x2 = (80 : Int32) then
(g155 x1 x3 (1 : Int32) x4 x5 s).bind fun p17 =>
(g155 x1 (s.1 28 (x1).toNatClampNeg) (2 : Int32) (2 : Int32) x5 p17.2).bind fun p18 =>
some ((p17.1 + p18.1), p18.2)
else
(g155 x1 x3 (3 : Int32) x4 x5 s).bind fun p20 =>
some ((p20.1 - (1 : Int32)), p20.2)
else none
theorem zyC158_0 {X : zx_X} {d : Nat} {g155 : Int32 → Int32 → Int32 → Int32 → Int32 → zy_S → Option (Int32 × zy_S)} {g157 : Int32 → Int32 → Int32 → Int32 → zy_S → Option (Int32 × zy_S)} {g158 : Int32 → Int32 → Int32 → Int32 → Int32 → zy_S → Option (Int32 × zy_S)}  (hd : 0 ≤ d) (hg155 : ∀ (x1 : Int32) (x2 : Int32) (x3 : Int32) (x4 : Int32) (x5 : Int32) (s : zy_S) (r : Int32) (s' : zy_S), g155 x1 x2 x3 x4 x5 s = some (r, s') → zyR X d 155 0 [some (.ref (27 + 3)), some (.int x1), some (.int x2), some (.int x3), some (.int x4), some (.int x5), none, none] [] s (zyE (some (.int r)) s')) (hg157 : ∀ (x1 : Int32) (x2 : Int32) (x3 : Int32) (x4 : Int32) (s : zy_S) (r : Int32) (s' : zy_S), g157 x1 x2 x3 x4 s = some (r, s') → zyR X d 157 0 [some (.ref (27 + 3)), some (.int x1), some (.int x2), some (.int x3), some (.int x4), none] [] s (zyE (some (.int r)) s')) (hg158 : ∀ (x1 : Int32) (x2 : Int32) (x3 : Int32) (x4 : Int32) (x5 : Int32) (s : zy_S) (r : Int32) (s' : zy_S), g158 x1 x2 x3 x4 x5 s = some (r, s') → zyR X d 158 0 [some (.ref (27 + 3)), some (.int x1), some (.int x2), some (.int x3), some (.int x4), some (.int x5), none] [] s (zyE (some (.int r)) s'))  {x1 : Int32} {x2 : Int32} {x3 : Int32} {x4 : Int32} {x5 : Int32} {s : zy_S} {r : Int32} {s' : zy_S}  (h : zyF158_0 g155 g157 g158 x1 x2 x3 x4 x5 s = some (r, s')) : zyR X (d + 1) 158 0 [some (.ref (27 + 3)), some (.int x1), some (.int x2), some (.int x3), some (.int x4), some (.int x5), none] [] s (zyE (some (.int r)) s') := by
  unfold zyF158_0 at h
  refine zy_0 rfl rfl (show zyR _ _ _ _ [some (.ref (27 + 3)), some (.int x1), some (.int x2), some (.int x3), some (.int x4), some (.int x5), none] [.ref (27 + 3)] _ _ from ?_)
  refine zy_1r (c := 27) rfl rfl rfl (show zyR _ _ _ _ [some (.ref (27 + 3)), some (.int x1), some (.int x2), some (.int x3), some (.int x4), some (.int x5), none] [.ref (28 + 3)] _ _ from ?_)
  refine zy_2 rfl rfl (show zyR _ _ _ _ [some (.ref (27 + 3)), some (.int x1), some (.int x2), some (.int x3), some (.int x4), some (.int x5), none] [.int x1, .ref (28 + 3)] _ _ from ?_)
  obtain ⟨c1, h⟩ := zy_if h
  refine zy_26 (c := 28) rfl rfl c1 (show zyR _ _ _ _ [some (.ref (27 + 3)), some (.int x1), some (.int x2), some (.int x3), some (.int x4), some (.int x5), none] [.int (s.1 28 (x1).toNatClampNeg)] _ _ from ?_)
  refine zy_23 rfl rfl (show zyR _ _ _ _ [some (.ref (27 + 3)), some (.int x1), some (.int x2), some (.int x3), some (.int x4), some (.int x5), some (.int (s.1 28 (x1).toNatClampNeg))] [] _ _ from ?_)
  refine zy_2 rfl rfl (show zyR _ _ _ _ [some (.ref (27 + 3)), some (.int x1), some (.int x2), some (.int x3), some (.int x4), some (.int x5), some (.int (s.1 28 (x1).toNatClampNeg))] [.int x2] _ _ from ?_)
  refine zy_51 rfl (by decide) ?_
  refine zy_swp (fun b3 => (show zyR _ _ _ _ [some (.ref (27 + 3)), some (.int x1), some (.int x2), some (.int x3), some (.int x4), some (.int x5), some (.int (s.1 28 (x1).toNatClampNeg))] [] _ _ from ?_)) (fun b3 => ?_)
  · replace h := zy_ifp h b3
    refine zy_0 rfl rfl (show zyR _ _ _ _ [some (.ref (27 + 3)), some (.int x1), some (.int x2), some (.int x3), some (.int x4), some (.int x5), some (.int (s.1 28 (x1).toNatClampNeg))] [.ref (27 + 3)] _ _ from ?_)
    refine zy_2 rfl rfl (show zyR _ _ _ _ [some (.ref (27 + 3)), some (.int x1), some (.int x2), some (.int x3), some (.int x4), some (.int x5), some (.int (s.1 28 (x1).toNatClampNeg))] [.int x1, .ref (27 + 3)] _ _ from ?_)
    refine zy_2 rfl rfl (show zyR _ _ _ _ [some (.ref (27 + 3)), some (.int x1), some (.int x2), some (.int x3), some (.int x4), some (.int x5), some (.int (s.1 28 (x1).toNatClampNeg))] [.int x3, .int x1, .ref (27 + 3)] _ _ from ?_)
    refine zy_3 rfl rfl (show zyR _ _ _ _ [some (.ref (27 + 3)), some (.int x1), some (.int x2), some (.int x3), some (.int x4), some (.int x5), some (.int (s.1 28 (x1).toNatClampNeg))] [.int (0 : Int32), .int x3, .int x1, .ref (27 + 3)] _ _ from ?_)
    refine zy_2 rfl rfl (show zyR _ _ _ _ [some (.ref (27 + 3)), some (.int x1), some (.int x2), some (.int x3), some (.int x4), some (.int x5), some (.int (s.1 28 (x1).toNatClampNeg))] [.int x4, .int (0 : Int32), .int x3, .int x1, .ref (27 + 3)] _ _ from ?_)
    refine zy_2 rfl rfl (show zyR _ _ _ _ [some (.ref (27 + 3)), some (.int x1), some (.int x2), some (.int x3), some (.int x4), some (.int x5), some (.int (s.1 28 (x1).toNatClampNeg))] [.int x5, .int x4, .int (0 : Int32), .int x3, .int x1, .ref (27 + 3)] _ _ from ?_)
    obtain ⟨p2, hp2, h⟩ := zy_bind h
    refine zy_5 (c := 27) (as := [.int x1, .int x3, .int (0 : Int32), .int x4, .int x5]) (rest := []) (L := [some (.ref (27 + 3)), some (.int x1), some (.int x3), some (.int (0 : Int32)), some (.int x4), some (.int x5), none, none]) (d' := d) rfl rfl rfl (Nat.le_of_ble_eq_true rfl) (by omega) rfl (Nat.le_of_ble_eq_true rfl) rfl rfl (hg155 x1 x3 (0 : Int32) x4 x5 s _ _ hp2) ?_
    show zyR _ _ _ _ [some (.ref (27 + 3)), some (.int x1), some (.int x2), some (.int x3), some (.int x4), some (.int x5), some (.int (s.1 28 (x1).toNatClampNeg))] [.int p2.1] _ _
    refine zy_3 rfl rfl (show zyR _ _ _ _ [some (.ref (27 + 3)), some (.int x1), some (.int x2), some (.int x3), some (.int x4), some (.int x5), some (.int (s.1 28 (x1).toNatClampNeg))] [.int (3 : Int32), .int p2.1] _ _ from ?_)
    refine zy_10 rfl (show zyR _ _ _ _ [some (.ref (27 + 3)), some (.int x1), some (.int x2), some (.int x3), some (.int x4), some (.int x5), some (.int (s.1 28 (x1).toNatClampNeg))] [.int (p2.1 + (3 : Int32))] _ _ from ?_)
    obtain ⟨rfl, rfl⟩ := zy_pi h
    exact zy_4 rfl ⟨rfl, rfl⟩
  replace h := zy_ifn h b3
  refine zy_swp (fun b5 => (show zyR _ _ _ _ [some (.ref (27 + 3)), some (.int x1), some (.int x2), some (.int x3), some (.int x4), some (.int x5), some (.int (s.1 28 (x1).toNatClampNeg))] [] _ _ from ?_)) (fun b5 => ?_)
  · replace h := zy_ifp h b5
    refine zy_0 rfl rfl (show zyR _ _ _ _ [some (.ref (27 + 3)), some (.int x1), some (.int x2), some (.int x3), some (.int x4), some (.int x5), some (.int (s.1 28 (x1).toNatClampNeg))] [.ref (27 + 3)] _ _ from ?_)
    refine zy_2 rfl rfl (show zyR _ _ _ _ [some (.ref (27 + 3)), some (.int x1), some (.int x2), some (.int x3), some (.int x4), some (.int x5), some (.int (s.1 28 (x1).toNatClampNeg))] [.int x1, .ref (27 + 3)] _ _ from ?_)
    refine zy_2 rfl rfl (show zyR _ _ _ _ [some (.ref (27 + 3)), some (.int x1), some (.int x2), some (.int x3), some (.int x4), some (.int x5), some (.int (s.1 28 (x1).toNatClampNeg))] [.int x3, .int x1, .ref (27 + 3)] _ _ from ?_)
    refine zy_3 rfl rfl (show zyR _ _ _ _ [some (.ref (27 + 3)), some (.int x1), some (.int x2), some (.int x3), some (.int x4), some (.int x5), some (.int (s.1 28 (x1).toNatClampNeg))] [.int (1 : Int32), .int x3, .int x1, .ref (27 + 3)] _ _ from ?_)
    refine zy_2 rfl rfl (show zyR _ _ _ _ [some (.ref (27 + 3)), some (.int x1), some (.int x2), some (.int x3), some (.int x4), some (.int x5), some (.int (s.1 28 (x1).toNatClampNeg))] [.int x4, .int (1 : Int32), .int x3, .int x1, .ref (27 + 3)] _ _ from ?_)
    refine zy_2 rfl rfl (show zyR _ _ _ _ [some (.ref (27 + 3)), some (.int x1), some (.int x2), some (.int x3), some (.int x4), some (.int x5), some (.int (s.1 28 (x1).toNatClampNeg))] [.int x5, .int x4, .int (1 : Int32), .int x3, .int x1, .ref (27 + 3)] _ _ from ?_)
    obtain ⟨p4, hp4, h⟩ := zy_bind h
    refine zy_5 (c := 27) (as := [.int x1, .int x3, .int (1 : Int32), .int x4, .int x5]) (rest := []) (L := [some (.ref (27 + 3)), some (.int x1), some (.int x3), some (.int (1 : Int32)), some (.int x4), some (.int x5), none, none]) (d' := d) rfl rfl rfl (Nat.le_of_ble_eq_true rfl) (by omega) rfl (Nat.le_of_ble_eq_true rfl) rfl rfl (hg155 x1 x3 (1 : Int32) x4 x5 s _ _ hp4) ?_
    show zyR _ _ _ _ [some (.ref (27 + 3)), some (.int x1), some (.int x2), some (.int x3), some (.int x4), some (.int x5), some (.int (s.1 28 (x1).toNatClampNeg))] [.int p4.1] _ _
    refine zy_21 rfl (show zyR _ _ _ _ [some (.ref (27 + 3)), some (.int x1), some (.int x2), some (.int x3), some (.int x4), some (.int x5), some (.int (s.1 28 (x1).toNatClampNeg))] [.int (-p4.1)] _ _ from ?_)
    obtain ⟨rfl, rfl⟩ := zy_pi h
    exact zy_4 rfl ⟨rfl, rfl⟩
  replace h := zy_ifn h b5
  refine zy_swp (fun b7 => (show zyR _ _ _ _ [some (.ref (27 + 3)), some (.int x1), some (.int x2), some (.int x3), some (.int x4), some (.int x5), some (.int (s.1 28 (x1).toNatClampNeg))] [] _ _ from ?_)) (fun b7 => ?_)
  · replace h := zy_ifp h b7
    refine zy_0 rfl rfl (show zyR _ _ _ _ [some (.ref (27 + 3)), some (.int x1), some (.int x2), some (.int x3), some (.int x4), some (.int x5), some (.int (s.1 28 (x1).toNatClampNeg))] [.ref (27 + 3)] _ _ from ?_)
    refine zy_2 rfl rfl (show zyR _ _ _ _ [some (.ref (27 + 3)), some (.int x1), some (.int x2), some (.int x3), some (.int x4), some (.int x5), some (.int (s.1 28 (x1).toNatClampNeg))] [.int x1, .ref (27 + 3)] _ _ from ?_)
    refine zy_2 rfl rfl (show zyR _ _ _ _ [some (.ref (27 + 3)), some (.int x1), some (.int x2), some (.int x3), some (.int x4), some (.int x5), some (.int (s.1 28 (x1).toNatClampNeg))] [.int x3, .int x1, .ref (27 + 3)] _ _ from ?_)
    refine zy_3 rfl rfl (show zyR _ _ _ _ [some (.ref (27 + 3)), some (.int x1), some (.int x2), some (.int x3), some (.int x4), some (.int x5), some (.int (s.1 28 (x1).toNatClampNeg))] [.int (2 : Int32), .int x3, .int x1, .ref (27 + 3)] _ _ from ?_)
    refine zy_2 rfl rfl (show zyR _ _ _ _ [some (.ref (27 + 3)), some (.int x1), some (.int x2), some (.int x3), some (.int x4), some (.int x5), some (.int (s.1 28 (x1).toNatClampNeg))] [.int x4, .int (2 : Int32), .int x3, .int x1, .ref (27 + 3)] _ _ from ?_)
    refine zy_2 rfl rfl (show zyR _ _ _ _ [some (.ref (27 + 3)), some (.int x1), some (.int x2), some (.int x3), some (.int x4), some (.int x5), some (.int (s.1 28 (x1).toNatClampNeg))] [.int x5, .int x4, .int (2 : Int32), .int x3, .int x1, .ref (27 + 3)] _ _ from ?_)
    obtain ⟨p6, hp6, h⟩ := zy_bind h
    refine zy_5 (c := 27) (as := [.int x1, .int x3, .int (2 : Int32), .int x4, .int x5]) (rest := []) (L := [some (.ref (27 + 3)), some (.int x1), some (.int x3), some (.int (2 : Int32)), some (.int x4), some (.int x5), none, none]) (d' := d) rfl rfl rfl (Nat.le_of_ble_eq_true rfl) (by omega) rfl (Nat.le_of_ble_eq_true rfl) rfl rfl (hg155 x1 x3 (2 : Int32) x4 x5 s _ _ hp6) ?_
    show zyR _ _ _ _ [some (.ref (27 + 3)), some (.int x1), some (.int x2), some (.int x3), some (.int x4), some (.int x5), some (.int (s.1 28 (x1).toNatClampNeg))] [.int p6.1] _ _
    refine zy_3 rfl rfl (show zyR _ _ _ _ [some (.ref (27 + 3)), some (.int x1), some (.int x2), some (.int x3), some (.int x4), some (.int x5), some (.int (s.1 28 (x1).toNatClampNeg))] [.int (3 : Int32), .int p6.1] _ _ from ?_)
    refine zy_12 rfl (show zyR _ _ _ _ [some (.ref (27 + 3)), some (.int x1), some (.int x2), some (.int x3), some (.int x4), some (.int x5), some (.int (s.1 28 (x1).toNatClampNeg))] [.int (p6.1 * (3 : Int32))] _ _ from ?_)
    obtain ⟨rfl, rfl⟩ := zy_pi h
    exact zy_4 rfl ⟨rfl, rfl⟩
  replace h := zy_ifn h b7
  refine zy_swp (fun b9 => (show zyR _ _ _ _ [some (.ref (27 + 3)), some (.int x1), some (.int x2), some (.int x3), some (.int x4), some (.int x5), some (.int (s.1 28 (x1).toNatClampNeg))] [] _ _ from ?_)) (fun b9 => ?_)
  · replace h := zy_ifp h b9
    refine zy_0 rfl rfl (show zyR _ _ _ _ [some (.ref (27 + 3)), some (.int x1), some (.int x2), some (.int x3), some (.int x4), some (.int x5), some (.int (s.1 28 (x1).toNatClampNeg))] [.ref (27 + 3)] _ _ from ?_)
    refine zy_2 rfl rfl (show zyR _ _ _ _ [some (.ref (27 + 3)), some (.int x1), some (.int x2), some (.int x3), some (.int x4), some (.int x5), some (.int (s.1 28 (x1).toNatClampNeg))] [.int x1, .ref (27 + 3)] _ _ from ?_)
    refine zy_2 rfl rfl (show zyR _ _ _ _ [some (.ref (27 + 3)), some (.int x1), some (.int x2), some (.int x3), some (.int x4), some (.int x5), some (.int (s.1 28 (x1).toNatClampNeg))] [.int x3, .int x1, .ref (27 + 3)] _ _ from ?_)
    refine zy_3 rfl rfl (show zyR _ _ _ _ [some (.ref (27 + 3)), some (.int x1), some (.int x2), some (.int x3), some (.int x4), some (.int x5), some (.int (s.1 28 (x1).toNatClampNeg))] [.int (1 : Int32), .int x3, .int x1, .ref (27 + 3)] _ _ from ?_)
    refine zy_2 rfl rfl (show zyR _ _ _ _ [some (.ref (27 + 3)), some (.int x1), some (.int x2), some (.int x3), some (.int x4), some (.int x5), some (.int (s.1 28 (x1).toNatClampNeg))] [.int x4, .int (1 : Int32), .int x3, .int x1, .ref (27 + 3)] _ _ from ?_)
    refine zy_3 rfl rfl (show zyR _ _ _ _ [some (.ref (27 + 3)), some (.int x1), some (.int x2), some (.int x3), some (.int x4), some (.int x5), some (.int (s.1 28 (x1).toNatClampNeg))] [.int (1 : Int32), .int x4, .int (1 : Int32), .int x3, .int x1, .ref (27 + 3)] _ _ from ?_)
    refine zy_10 rfl (show zyR _ _ _ _ [some (.ref (27 + 3)), some (.int x1), some (.int x2), some (.int x3), some (.int x4), some (.int x5), some (.int (s.1 28 (x1).toNatClampNeg))] [.int (x4 + (1 : Int32)), .int (1 : Int32), .int x3, .int x1, .ref (27 + 3)] _ _ from ?_)
    refine zy_2 rfl rfl (show zyR _ _ _ _ [some (.ref (27 + 3)), some (.int x1), some (.int x2), some (.int x3), some (.int x4), some (.int x5), some (.int (s.1 28 (x1).toNatClampNeg))] [.int x5, .int (x4 + (1 : Int32)), .int (1 : Int32), .int x3, .int x1, .ref (27 + 3)] _ _ from ?_)
    obtain ⟨p8, hp8, h⟩ := zy_bind h
    refine zy_5 (c := 27) (as := [.int x1, .int x3, .int (1 : Int32), .int (x4 + (1 : Int32)), .int x5]) (rest := []) (L := [some (.ref (27 + 3)), some (.int x1), some (.int x3), some (.int (1 : Int32)), some (.int (x4 + (1 : Int32))), some (.int x5), none, none]) (d' := d) rfl rfl rfl (Nat.le_of_ble_eq_true rfl) (by omega) rfl (Nat.le_of_ble_eq_true rfl) rfl rfl (hg155 x1 x3 (1 : Int32) (x4 + (1 : Int32)) x5 s _ _ hp8) ?_
    show zyR _ _ _ _ [some (.ref (27 + 3)), some (.int x1), some (.int x2), some (.int x3), some (.int x4), some (.int x5), some (.int (s.1 28 (x1).toNatClampNeg))] [.int p8.1] _ _
    obtain ⟨rfl, rfl⟩ := zy_pi h
    exact zy_4 rfl ⟨rfl, rfl⟩
  replace h := zy_ifn h b9
  refine zy_swp (fun b12 => (show zyR _ _ _ _ [some (.ref (27 + 3)), some (.int x1), some (.int x2), some (.int x3), some (.int x4), some (.int x5), some (.int (s.1 28 (x1).toNatClampNeg))] [] _ _ from ?_)) (fun b12 => ?_)
  · replace h := zy_ifp h b12
    refine zy_0 rfl rfl (show zyR _ _ _ _ [some (.ref (27 + 3)), some (.int x1), some (.int x2), some (.int x3), some (.int x4), some (.int x5), some (.int (s.1 28 (x1).toNatClampNeg))] [.ref (27 + 3)] _ _ from ?_)
    refine zy_2 rfl rfl (show zyR _ _ _ _ [some (.ref (27 + 3)), some (.int x1), some (.int x2), some (.int x3), some (.int x4), some (.int x5), some (.int (s.1 28 (x1).toNatClampNeg))] [.int x1, .ref (27 + 3)] _ _ from ?_)
    refine zy_2 rfl rfl (show zyR _ _ _ _ [some (.ref (27 + 3)), some (.int x1), some (.int x2), some (.int x3), some (.int x4), some (.int x5), some (.int (s.1 28 (x1).toNatClampNeg))] [.int x3, .int x1, .ref (27 + 3)] _ _ from ?_)
    refine zy_3 rfl rfl (show zyR _ _ _ _ [some (.ref (27 + 3)), some (.int x1), some (.int x2), some (.int x3), some (.int x4), some (.int x5), some (.int (s.1 28 (x1).toNatClampNeg))] [.int (2 : Int32), .int x3, .int x1, .ref (27 + 3)] _ _ from ?_)
    refine zy_2 rfl rfl (show zyR _ _ _ _ [some (.ref (27 + 3)), some (.int x1), some (.int x2), some (.int x3), some (.int x4), some (.int x5), some (.int (s.1 28 (x1).toNatClampNeg))] [.int x4, .int (2 : Int32), .int x3, .int x1, .ref (27 + 3)] _ _ from ?_)
    refine zy_2 rfl rfl (show zyR _ _ _ _ [some (.ref (27 + 3)), some (.int x1), some (.int x2), some (.int x3), some (.int x4), some (.int x5), some (.int (s.1 28 (x1).toNatClampNeg))] [.int x5, .int x4, .int (2 : Int32), .int x3, .int x1, .ref (27 + 3)] _ _ from ?_)
    obtain ⟨p10, hp10, h⟩ := zy_bind h
    refine zy_5 (c := 27) (as := [.int x1, .int x3, .int (2 : Int32), .int x4, .int x5]) (rest := []) (L := [some (.ref (27 + 3)), some (.int x1), some (.int x3), some (.int (2 : Int32)), some (.int x4), some (.int x5), none, none]) (d' := d) rfl rfl rfl (Nat.le_of_ble_eq_true rfl) (by omega) rfl (Nat.le_of_ble_eq_true rfl) rfl rfl (hg155 x1 x3 (2 : Int32) x4 x5 s _ _ hp10) ?_
    show zyR _ _ _ _ [some (.ref (27 + 3)), some (.int x1), some (.int x2), some (.int x3), some (.int x4), some (.int x5), some (.int (s.1 28 (x1).toNatClampNeg))] [.int p10.1] _ _
    refine zy_0 rfl rfl (show zyR _ _ _ _ [some (.ref (27 + 3)), some (.int x1), some (.int x2), some (.int x3), some (.int x4), some (.int x5), some (.int (s.1 28 (x1).toNatClampNeg))] [.ref (27 + 3), .int p10.1] _ _ from ?_)
    refine zy_2 rfl rfl (show zyR _ _ _ _ [some (.ref (27 + 3)), some (.int x1), some (.int x2), some (.int x3), some (.int x4), some (.int x5), some (.int (s.1 28 (x1).toNatClampNeg))] [.int x1, .ref (27 + 3), .int p10.1] _ _ from ?_)
    refine zy_2 rfl rfl (show zyR _ _ _ _ [some (.ref (27 + 3)), some (.int x1), some (.int x2), some (.int x3), some (.int x4), some (.int x5), some (.int (s.1 28 (x1).toNatClampNeg))] [.int (s.1 28 (x1).toNatClampNeg), .int x1, .ref (27 + 3), .int p10.1] _ _ from ?_)
    refine zy_3 rfl rfl (show zyR _ _ _ _ [some (.ref (27 + 3)), some (.int x1), some (.int x2), some (.int x3), some (.int x4), some (.int x5), some (.int (s.1 28 (x1).toNatClampNeg))] [.int (0 : Int32), .int (s.1 28 (x1).toNatClampNeg), .int x1, .ref (27 + 3), .int p10.1] _ _ from ?_)
    refine zy_3 rfl rfl (show zyR _ _ _ _ [some (.ref (27 + 3)), some (.int x1), some (.int x2), some (.int x3), some (.int x4), some (.int x5), some (.int (s.1 28 (x1).toNatClampNeg))] [.int (2 : Int32), .int (0 : Int32), .int (s.1 28 (x1).toNatClampNeg), .int x1, .ref (27 + 3), .int p10.1] _ _ from ?_)
    refine zy_2 rfl rfl (show zyR _ _ _ _ [some (.ref (27 + 3)), some (.int x1), some (.int x2), some (.int x3), some (.int x4), some (.int x5), some (.int (s.1 28 (x1).toNatClampNeg))] [.int x5, .int (2 : Int32), .int (0 : Int32), .int (s.1 28 (x1).toNatClampNeg), .int x1, .ref (27 + 3), .int p10.1] _ _ from ?_)
    obtain ⟨p11, hp11, h⟩ := zy_bind h
    refine zy_5 (c := 27) (as := [.int x1, .int (s.1 28 (x1).toNatClampNeg), .int (0 : Int32), .int (2 : Int32), .int x5]) (rest := [.int p10.1]) (L := [some (.ref (27 + 3)), some (.int x1), some (.int (s.1 28 (x1).toNatClampNeg)), some (.int (0 : Int32)), some (.int (2 : Int32)), some (.int x5), none, none]) (d' := d) rfl rfl rfl (Nat.le_of_ble_eq_true rfl) (by omega) rfl (Nat.le_of_ble_eq_true rfl) rfl rfl (hg155 x1 (s.1 28 (x1).toNatClampNeg) (0 : Int32) (2 : Int32) x5 p10.2 _ _ hp11) ?_
    show zyR _ _ _ _ [some (.ref (27 + 3)), some (.int x1), some (.int x2), some (.int x3), some (.int x4), some (.int x5), some (.int (s.1 28 (x1).toNatClampNeg))] [.int p11.1, .int p10.1] _ _
    refine zy_11 rfl (show zyR _ _ _ _ [some (.ref (27 + 3)), some (.int x1), some (.int x2), some (.int x3), some (.int x4), some (.int x5), some (.int (s.1 28 (x1).toNatClampNeg))] [.int (p10.1 - p11.1)] _ _ from ?_)
    obtain ⟨rfl, rfl⟩ := zy_pi h
    exact zy_4 rfl ⟨rfl, rfl⟩
  replace h := zy_ifn h b12
  refine zy_swp (fun b14 => (show zyR _ _ _ _ [some (.ref (27 + 3)), some (.int x1), some (.int x2), some (.int x3), some (.int x4), some (.int x5), some (.int (s.1 28 (x1).toNatClampNeg))] [] _ _ from ?_)) (fun b14 => ?_)
  · replace h := zy_ifp h b14
    refine zy_0 rfl rfl (show zyR _ _ _ _ [some (.ref (27 + 3)), some (.int x1), some (.int x2), some (.int x3), some (.int x4), some (.int x5), some (.int (s.1 28 (x1).toNatClampNeg))] [.ref (27 + 3)] _ _ from ?_)
    refine zy_2 rfl rfl (show zyR _ _ _ _ [some (.ref (27 + 3)), some (.int x1), some (.int x2), some (.int x3), some (.int x4), some (.int x5), some (.int (s.1 28 (x1).toNatClampNeg))] [.int x1, .ref (27 + 3)] _ _ from ?_)
    refine zy_2 rfl rfl (show zyR _ _ _ _ [some (.ref (27 + 3)), some (.int x1), some (.int x2), some (.int x3), some (.int x4), some (.int x5), some (.int (s.1 28 (x1).toNatClampNeg))] [.int x3, .int x1, .ref (27 + 3)] _ _ from ?_)
    refine zy_3 rfl rfl (show zyR _ _ _ _ [some (.ref (27 + 3)), some (.int x1), some (.int x2), some (.int x3), some (.int x4), some (.int x5), some (.int (s.1 28 (x1).toNatClampNeg))] [.int (3 : Int32), .int x3, .int x1, .ref (27 + 3)] _ _ from ?_)
    refine zy_2 rfl rfl (show zyR _ _ _ _ [some (.ref (27 + 3)), some (.int x1), some (.int x2), some (.int x3), some (.int x4), some (.int x5), some (.int (s.1 28 (x1).toNatClampNeg))] [.int x4, .int (3 : Int32), .int x3, .int x1, .ref (27 + 3)] _ _ from ?_)
    refine zy_2 rfl rfl (show zyR _ _ _ _ [some (.ref (27 + 3)), some (.int x1), some (.int x2), some (.int x3), some (.int x4), some (.int x5), some (.int (s.1 28 (x1).toNatClampNeg))] [.int x5, .int x4, .int (3 : Int32), .int x3, .int x1, .ref (27 + 3)] _ _ from ?_)
    obtain ⟨p13, hp13, h⟩ := zy_bind h
    refine zy_5 (c := 27) (as := [.int x1, .int x3, .int (3 : Int32), .int x4, .int x5]) (rest := []) (L := [some (.ref (27 + 3)), some (.int x1), some (.int x3), some (.int (3 : Int32)), some (.int x4), some (.int x5), none, none]) (d' := d) rfl rfl rfl (Nat.le_of_ble_eq_true rfl) (by omega) rfl (Nat.le_of_ble_eq_true rfl) rfl rfl (hg155 x1 x3 (3 : Int32) x4 x5 s _ _ hp13) ?_
    show zyR _ _ _ _ [some (.ref (27 + 3)), some (.int x1), some (.int x2), some (.int x3), some (.int x4), some (.int x5), some (.int (s.1 28 (x1).toNatClampNeg))] [.int p13.1] _ _
    refine zy_3 rfl rfl (show zyR _ _ _ _ [some (.ref (27 + 3)), some (.int x1), some (.int x2), some (.int x3), some (.int x4), some (.int x5), some (.int (s.1 28 (x1).toNatClampNeg))] [.int (5 : Int32), .int p13.1] _ _ from ?_)
    refine zy_15 rfl (show zyR _ _ _ _ [some (.ref (27 + 3)), some (.int x1), some (.int x2), some (.int x3), some (.int x4), some (.int x5), some (.int (s.1 28 (x1).toNatClampNeg))] [.int (p13.1 ^^^ (5 : Int32))] _ _ from ?_)
    obtain ⟨rfl, rfl⟩ := zy_pi h
    exact zy_4 rfl ⟨rfl, rfl⟩
  replace h := zy_ifn h b14
  refine zy_swp (fun b16 => (show zyR _ _ _ _ [some (.ref (27 + 3)), some (.int x1), some (.int x2), some (.int x3), some (.int x4), some (.int x5), some (.int (s.1 28 (x1).toNatClampNeg))] [] _ _ from ?_)) (fun b16 => ?_)
  · replace h := zy_ifp h b16
    refine zy_0 rfl rfl (show zyR _ _ _ _ [some (.ref (27 + 3)), some (.int x1), some (.int x2), some (.int x3), some (.int x4), some (.int x5), some (.int (s.1 28 (x1).toNatClampNeg))] [.ref (27 + 3)] _ _ from ?_)
    refine zy_2 rfl rfl (show zyR _ _ _ _ [some (.ref (27 + 3)), some (.int x1), some (.int x2), some (.int x3), some (.int x4), some (.int x5), some (.int (s.1 28 (x1).toNatClampNeg))] [.int x1, .ref (27 + 3)] _ _ from ?_)
    refine zy_2 rfl rfl (show zyR _ _ _ _ [some (.ref (27 + 3)), some (.int x1), some (.int x2), some (.int x3), some (.int x4), some (.int x5), some (.int (s.1 28 (x1).toNatClampNeg))] [.int x3, .int x1, .ref (27 + 3)] _ _ from ?_)
    refine zy_3 rfl rfl (show zyR _ _ _ _ [some (.ref (27 + 3)), some (.int x1), some (.int x2), some (.int x3), some (.int x4), some (.int x5), some (.int (s.1 28 (x1).toNatClampNeg))] [.int (0 : Int32), .int x3, .int x1, .ref (27 + 3)] _ _ from ?_)
    refine zy_2 rfl rfl (show zyR _ _ _ _ [some (.ref (27 + 3)), some (.int x1), some (.int x2), some (.int x3), some (.int x4), some (.int x5), some (.int (s.1 28 (x1).toNatClampNeg))] [.int x4, .int (0 : Int32), .int x3, .int x1, .ref (27 + 3)] _ _ from ?_)
    refine zy_2 rfl rfl (show zyR _ _ _ _ [some (.ref (27 + 3)), some (.int x1), some (.int x2), some (.int x3), some (.int x4), some (.int x5), some (.int (s.1 28 (x1).toNatClampNeg))] [.int x5, .int x4, .int (0 : Int32), .int x3, .int x1, .ref (27 + 3)] _ _ from ?_)
    obtain ⟨p15, hp15, h⟩ := zy_bind h
    refine zy_5 (c := 27) (as := [.int x1, .int x3, .int (0 : Int32), .int x4, .int x5]) (rest := []) (L := [some (.ref (27 + 3)), some (.int x1), some (.int x3), some (.int (0 : Int32)), some (.int x4), some (.int x5), none, none]) (d' := d) rfl rfl rfl (Nat.le_of_ble_eq_true rfl) (by omega) rfl (Nat.le_of_ble_eq_true rfl) rfl rfl (hg155 x1 x3 (0 : Int32) x4 x5 s _ _ hp15) ?_
    show zyR _ _ _ _ [some (.ref (27 + 3)), some (.int x1), some (.int x2), some (.int x3), some (.int x4), some (.int x5), some (.int (s.1 28 (x1).toNatClampNeg))] [.int p15.1] _ _
    refine zy_3 rfl rfl (show zyR _ _ _ _ [some (.ref (27 + 3)), some (.int x1), some (.int x2), some (.int x3), some (.int x4), some (.int x5), some (.int (s.1 28 (x1).toNatClampNeg))] [.int (2 : Int32), .int p15.1] _ _ from ?_)
    refine zy_12 rfl (show zyR _ _ _ _ [some (.ref (27 + 3)), some (.int x1), some (.int x2), some (.int x3), some (.int x4), some (.int x5), some (.int (s.1 28 (x1).toNatClampNeg))] [.int (p15.1 * (2 : Int32))] _ _ from ?_)
    obtain ⟨rfl, rfl⟩ := zy_pi h
    exact zy_4 rfl ⟨rfl, rfl⟩
  replace h := zy_ifn h b16
  refine zy_swp (fun b19 => (show zyR _ _ _ _ [some (.ref (27 + 3)), some (.int x1), some (.int x2), some (.int x3), some (.int x4), some (.int x5), some (.int (s.1 28 (x1).toNatClampNeg))] [] _ _ from ?_)) (fun b19 => ?_)
  · replace h := zy_ifp h b19
    refine zy_0 rfl rfl (show zyR _ _ _ _ [some (.ref (27 + 3)), some (.int x1), some (.int x2), some (.int x3), some (.int x4), some (.int x5), some (.int (s.1 28 (x1).toNatClampNeg))] [.ref (27 + 3)] _ _ from ?_)
    refine zy_2 rfl rfl (show zyR _ _ _ _ [some (.ref (27 + 3)), some (.int x1), some (.int x2), some (.int x3), some (.int x4), some (.int x5), some (.int (s.1 28 (x1).toNatClampNeg))] [.int x1, .ref (27 + 3)] _ _ from ?_)
    refine zy_2 rfl rfl (show zyR _ _ _ _ [some (.ref (27 + 3)), some (.int x1), some (.int x2), some (.int x3), some (.int x4), some (.int x5), some (.int (s.1 28 (x1).toNatClampNeg))] [.int x3, .int x1, .ref (27 + 3)] _ _ from ?_)
    refine zy_3 rfl rfl (show zyR _ _ _ _ [some (.ref (27 + 3)), some (.int x1), some (.int x2), some (.int x3), some (.int x4), some (.int x5), some (.int (s.1 28 (x1).toNatClampNeg))] [.int (1 : Int32), .int x3, .int x1, .ref (27 + 3)] _ _ from ?_)
    refine zy_2 rfl rfl (show zyR _ _ _ _ [some (.ref (27 + 3)), some (.int x1), some (.int x2), some (.int x3), some (.int x4), some (.int x5), some (.int (s.1 28 (x1).toNatClampNeg))] [.int x4, .int (1 : Int32), .int x3, .int x1, .ref (27 + 3)] _ _ from ?_)
    refine zy_2 rfl rfl (show zyR _ _ _ _ [some (.ref (27 + 3)), some (.int x1), some (.int x2), some (.int x3), some (.int x4), some (.int x5), some (.int (s.1 28 (x1).toNatClampNeg))] [.int x5, .int x4, .int (1 : Int32), .int x3, .int x1, .ref (27 + 3)] _ _ from ?_)
    obtain ⟨p17, hp17, h⟩ := zy_bind h
    refine zy_5 (c := 27) (as := [.int x1, .int x3, .int (1 : Int32), .int x4, .int x5]) (rest := []) (L := [some (.ref (27 + 3)), some (.int x1), some (.int x3), some (.int (1 : Int32)), some (.int x4), some (.int x5), none, none]) (d' := d) rfl rfl rfl (Nat.le_of_ble_eq_true rfl) (by omega) rfl (Nat.le_of_ble_eq_true rfl) rfl rfl (hg155 x1 x3 (1 : Int32) x4 x5 s _ _ hp17) ?_
    show zyR _ _ _ _ [some (.ref (27 + 3)), some (.int x1), some (.int x2), some (.int x3), some (.int x4), some (.int x5), some (.int (s.1 28 (x1).toNatClampNeg))] [.int p17.1] _ _
    refine zy_0 rfl rfl (show zyR _ _ _ _ [some (.ref (27 + 3)), some (.int x1), some (.int x2), some (.int x3), some (.int x4), some (.int x5), some (.int (s.1 28 (x1).toNatClampNeg))] [.ref (27 + 3), .int p17.1] _ _ from ?_)
    refine zy_2 rfl rfl (show zyR _ _ _ _ [some (.ref (27 + 3)), some (.int x1), some (.int x2), some (.int x3), some (.int x4), some (.int x5), some (.int (s.1 28 (x1).toNatClampNeg))] [.int x1, .ref (27 + 3), .int p17.1] _ _ from ?_)
    refine zy_2 rfl rfl (show zyR _ _ _ _ [some (.ref (27 + 3)), some (.int x1), some (.int x2), some (.int x3), some (.int x4), some (.int x5), some (.int (s.1 28 (x1).toNatClampNeg))] [.int (s.1 28 (x1).toNatClampNeg), .int x1, .ref (27 + 3), .int p17.1] _ _ from ?_)
    refine zy_3 rfl rfl (show zyR _ _ _ _ [some (.ref (27 + 3)), some (.int x1), some (.int x2), some (.int x3), some (.int x4), some (.int x5), some (.int (s.1 28 (x1).toNatClampNeg))] [.int (2 : Int32), .int (s.1 28 (x1).toNatClampNeg), .int x1, .ref (27 + 3), .int p17.1] _ _ from ?_)
    refine zy_3 rfl rfl (show zyR _ _ _ _ [some (.ref (27 + 3)), some (.int x1), some (.int x2), some (.int x3), some (.int x4), some (.int x5), some (.int (s.1 28 (x1).toNatClampNeg))] [.int (2 : Int32), .int (2 : Int32), .int (s.1 28 (x1).toNatClampNeg), .int x1, .ref (27 + 3), .int p17.1] _ _ from ?_)
    refine zy_2 rfl rfl (show zyR _ _ _ _ [some (.ref (27 + 3)), some (.int x1), some (.int x2), some (.int x3), some (.int x4), some (.int x5), some (.int (s.1 28 (x1).toNatClampNeg))] [.int x5, .int (2 : Int32), .int (2 : Int32), .int (s.1 28 (x1).toNatClampNeg), .int x1, .ref (27 + 3), .int p17.1] _ _ from ?_)
    obtain ⟨p18, hp18, h⟩ := zy_bind h
    refine zy_5 (c := 27) (as := [.int x1, .int (s.1 28 (x1).toNatClampNeg), .int (2 : Int32), .int (2 : Int32), .int x5]) (rest := [.int p17.1]) (L := [some (.ref (27 + 3)), some (.int x1), some (.int (s.1 28 (x1).toNatClampNeg)), some (.int (2 : Int32)), some (.int (2 : Int32)), some (.int x5), none, none]) (d' := d) rfl rfl rfl (Nat.le_of_ble_eq_true rfl) (by omega) rfl (Nat.le_of_ble_eq_true rfl) rfl rfl (hg155 x1 (s.1 28 (x1).toNatClampNeg) (2 : Int32) (2 : Int32) x5 p17.2 _ _ hp18) ?_
    show zyR _ _ _ _ [some (.ref (27 + 3)), some (.int x1), some (.int x2), some (.int x3), some (.int x4), some (.int x5), some (.int (s.1 28 (x1).toNatClampNeg))] [.int p18.1, .int p17.1] _ _
    refine zy_10 rfl (show zyR _ _ _ _ [some (.ref (27 + 3)), some (.int x1), some (.int x2), some (.int x3), some (.int x4), some (.int x5), some (.int (s.1 28 (x1).toNatClampNeg))] [.int (p17.1 + p18.1)] _ _ from ?_)
    obtain ⟨rfl, rfl⟩ := zy_pi h
    exact zy_4 rfl ⟨rfl, rfl⟩
  replace h := zy_ifn h b19
  show zyR _ _ _ _ [some (.ref (27 + 3)), some (.int x1), some (.int x2), some (.int x3), some (.int x4), some (.int x5), some (.int (s.1 28 (x1).toNatClampNeg))] [] _ _
  refine zy_0 rfl rfl (show zyR _ _ _ _ [some (.ref (27 + 3)), some (.int x1), some (.int x2), some (.int x3), some (.int x4), some (.int x5), some (.int (s.1 28 (x1).toNatClampNeg))] [.ref (27 + 3)] _ _ from ?_)
  refine zy_2 rfl rfl (show zyR _ _ _ _ [some (.ref (27 + 3)), some (.int x1), some (.int x2), some (.int x3), some (.int x4), some (.int x5), some (.int (s.1 28 (x1).toNatClampNeg))] [.int x1, .ref (27 + 3)] _ _ from ?_)
  refine zy_2 rfl rfl (show zyR _ _ _ _ [some (.ref (27 + 3)), some (.int x1), some (.int x2), some (.int x3), some (.int x4), some (.int x5), some (.int (s.1 28 (x1).toNatClampNeg))] [.int x3, .int x1, .ref (27 + 3)] _ _ from ?_)
  refine zy_3 rfl rfl (show zyR _ _ _ _ [some (.ref (27 + 3)), some (.int x1), some (.int x2), some (.int x3), some (.int x4), some (.int x5), some (.int (s.1 28 (x1).toNatClampNeg))] [.int (3 : Int32), .int x3, .int x1, .ref (27 + 3)] _ _ from ?_)
  refine zy_2 rfl rfl (show zyR _ _ _ _ [some (.ref (27 + 3)), some (.int x1), some (.int x2), some (.int x3), some (.int x4), some (.int x5), some (.int (s.1 28 (x1).toNatClampNeg))] [.int x4, .int (3 : Int32), .int x3, .int x1, .ref (27 + 3)] _ _ from ?_)
  refine zy_2 rfl rfl (show zyR _ _ _ _ [some (.ref (27 + 3)), some (.int x1), some (.int x2), some (.int x3), some (.int x4), some (.int x5), some (.int (s.1 28 (x1).toNatClampNeg))] [.int x5, .int x4, .int (3 : Int32), .int x3, .int x1, .ref (27 + 3)] _ _ from ?_)
  obtain ⟨p20, hp20, h⟩ := zy_bind h
  refine zy_5 (c := 27) (as := [.int x1, .int x3, .int (3 : Int32), .int x4, .int x5]) (rest := []) (L := [some (.ref (27 + 3)), some (.int x1), some (.int x3), some (.int (3 : Int32)), some (.int x4), some (.int x5), none, none]) (d' := d) rfl rfl rfl (Nat.le_of_ble_eq_true rfl) (by omega) rfl (Nat.le_of_ble_eq_true rfl) rfl rfl (hg155 x1 x3 (3 : Int32) x4 x5 s _ _ hp20) ?_
  show zyR _ _ _ _ [some (.ref (27 + 3)), some (.int x1), some (.int x2), some (.int x3), some (.int x4), some (.int x5), some (.int (s.1 28 (x1).toNatClampNeg))] [.int p20.1] _ _
  refine zy_3 rfl rfl (show zyR _ _ _ _ [some (.ref (27 + 3)), some (.int x1), some (.int x2), some (.int x3), some (.int x4), some (.int x5), some (.int (s.1 28 (x1).toNatClampNeg))] [.int (1 : Int32), .int p20.1] _ _ from ?_)
  refine zy_11 rfl (show zyR _ _ _ _ [some (.ref (27 + 3)), some (.int x1), some (.int x2), some (.int x3), some (.int x4), some (.int x5), some (.int (s.1 28 (x1).toNatClampNeg))] [.int (p20.1 - (1 : Int32))] _ _ from ?_)
  obtain ⟨rfl, rfl⟩ := zy_pi h
  exact zy_4 rfl ⟨rfl, rfl⟩
noncomputable def zyG155 (n : Nat) : (Int32 → Int32 → Int32 → Int32 → Int32 → zy_S → Option (Int32 × zy_S)) × (Int32 → Int32 → Int32 → Int32 → zy_S → Option (Int32 × zy_S)) × (Int32 → Int32 → Int32 → Int32 → Int32 → zy_S → Option (Int32 × zy_S)) := Nat.rec ((fun _ _ _ _ _ _ => none), ((fun _ _ _ _ _ => none), (fun _ _ _ _ _ _ => none))) (fun _ g => ((fun x1 x2 x3 x4 x5 s => zyF155_0 g.1 g.2.1 g.2.2 x1 x2 x3 x4 x5 s), ((fun x1 x2 x3 x4 s => zyF157_0 g.1 g.2.1 g.2.2 x1 x2 x3 x4 s), (fun x1 x2 x3 x4 x5 s => zyF158_0 g.1 g.2.1 g.2.2 x1 x2 x3 x4 x5 s)))) n
theorem zyG155_s (n : Nat) : zyG155 (n + 1) = ((fun x1 x2 x3 x4 x5 s => zyF155_0 (zyG155 n).1 (zyG155 n).2.1 (zyG155 n).2.2 x1 x2 x3 x4 x5 s), ((fun x1 x2 x3 x4 s => zyF157_0 (zyG155 n).1 (zyG155 n).2.1 (zyG155 n).2.2 x1 x2 x3 x4 s), (fun x1 x2 x3 x4 x5 s => zyF158_0 (zyG155 n).1 (zyG155 n).2.1 (zyG155 n).2.2 x1 x2 x3 x4 x5 s))) := rfl
theorem zyS155 (n : Nat) (x1 : Int32) (x2 : Int32) (x3 : Int32) (x4 : Int32) (x5 : Int32) (s : zy_S) : (zyG155 (n + 1)).1 x1 x2 x3 x4 x5 s = zyF155_0 (zyG155 n).1 (zyG155 n).2.1 (zyG155 n).2.2 x1 x2 x3 x4 x5 s := by
  rw [zyG155_s]
theorem zyS157 (n : Nat) (x1 : Int32) (x2 : Int32) (x3 : Int32) (x4 : Int32) (s : zy_S) : (zyG155 (n + 1)).2.1 x1 x2 x3 x4 s = zyF157_0 (zyG155 n).1 (zyG155 n).2.1 (zyG155 n).2.2 x1 x2 x3 x4 s := by
  rw [zyG155_s]
theorem zyS158 (n : Nat) (x1 : Int32) (x2 : Int32) (x3 : Int32) (x4 : Int32) (x5 : Int32) (s : zy_S) : (zyG155 (n + 1)).2.2 x1 x2 x3 x4 x5 s = zyF158_0 (zyG155 n).1 (zyG155 n).2.1 (zyG155 n).2.2 x1 x2 x3 x4 x5 s := by
  rw [zyG155_s]
theorem zyG155_ok {X : zx_X} : ∀ n : Nat, (∀ (x1 : Int32) (x2 : Int32) (x3 : Int32) (x4 : Int32) (x5 : Int32) (s : zy_S) (r : Int32) (s' : zy_S), (zyG155 n).1 x1 x2 x3 x4 x5 s = some (r, s') → zyR X (1 + n) 155 0 [some (.ref (27 + 3)), some (.int x1), some (.int x2), some (.int x3), some (.int x4), some (.int x5), none, none] [] s (zyE (some (.int r)) s')) ∧ (∀ (x1 : Int32) (x2 : Int32) (x3 : Int32) (x4 : Int32) (s : zy_S) (r : Int32) (s' : zy_S), (zyG155 n).2.1 x1 x2 x3 x4 s = some (r, s') → zyR X (1 + n) 157 0 [some (.ref (27 + 3)), some (.int x1), some (.int x2), some (.int x3), some (.int x4), none] [] s (zyE (some (.int r)) s')) ∧ (∀ (x1 : Int32) (x2 : Int32) (x3 : Int32) (x4 : Int32) (x5 : Int32) (s : zy_S) (r : Int32) (s' : zy_S), (zyG155 n).2.2 x1 x2 x3 x4 x5 s = some (r, s') → zyR X (1 + n) 158 0 [some (.ref (27 + 3)), some (.int x1), some (.int x2), some (.int x3), some (.int x4), some (.int x5), none] [] s (zyE (some (.int r)) s'))
  | 0 => by
    refine ⟨?_, ?_, ?_⟩
    · intro x1 x2 x3 x4 x5 s r s'  h
      have h : (none : Option (Int32 × zy_S)) = some (r, s') := h
      cases h
    · intro x1 x2 x3 x4 s r s'  h
      have h : (none : Option (Int32 × zy_S)) = some (r, s') := h
      cases h
    · intro x1 x2 x3 x4 x5 s r s'  h
      have h : (none : Option (Int32 × zy_S)) = some (r, s') := h
      cases h
  | n + 1 => by
    obtain ⟨i0, i1, i2⟩ := zyG155_ok (X := X) n
    refine ⟨?_, ?_, ?_⟩
    · intro x1 x2 x3 x4 x5 s r s'  h
      rw [zyS155] at h
      exact zy_sub (show zy_le [some (.ref (27 + 3)), some (.int x1), some (.int x2), some (.int x3), some (.int x4), some (.int x5), none, none] [some (.ref (27 + 3)), some (.int x1), some (.int x2), some (.int x3), some (.int x4), some (.int x5), none, none] from ⟨rfl, ⟨rfl, ⟨rfl, ⟨rfl, ⟨rfl, ⟨rfl, trivial⟩⟩⟩⟩⟩⟩) (zyC155_0 (d := 1 + n) (g155 := (zyG155 n).1) (g157 := (zyG155 n).2.1) (g158 := (zyG155 n).2.2) (by omega) i0 i1 i2  h)
    · intro x1 x2 x3 x4 s r s'  h
      rw [zyS157] at h
      exact zy_sub (show zy_le [some (.ref (27 + 3)), some (.int x1), some (.int x2), some (.int x3), some (.int x4), none] [some (.ref (27 + 3)), some (.int x1), some (.int x2), some (.int x3), some (.int x4), none] from ⟨rfl, ⟨rfl, ⟨rfl, ⟨rfl, ⟨rfl, trivial⟩⟩⟩⟩⟩) (zyC157_0 (d := 1 + n) (g155 := (zyG155 n).1) (g157 := (zyG155 n).2.1) (g158 := (zyG155 n).2.2) (by omega) i0 i1 i2  h)
    · intro x1 x2 x3 x4 x5 s r s'  h
      rw [zyS158] at h
      exact zy_sub (show zy_le [some (.ref (27 + 3)), some (.int x1), some (.int x2), some (.int x3), some (.int x4), some (.int x5), none] [some (.ref (27 + 3)), some (.int x1), some (.int x2), some (.int x3), some (.int x4), some (.int x5), none] from ⟨rfl, ⟨rfl, ⟨rfl, ⟨rfl, ⟨rfl, ⟨rfl, trivial⟩⟩⟩⟩⟩⟩) (zyC158_0 (d := 1 + n) (g155 := (zyG155 n).1) (g157 := (zyG155 n).2.1) (g158 := (zyG155 n).2.2) (by omega) i0 i1 i2  h)
noncomputable def zyF155 : Int32 → Int32 → Int32 → Int32 → Int32 → zy_S → Option (Int32 × zy_S) := (zyG155 100).1
theorem zyC155 {X : zx_X} {x1 : Int32} {x2 : Int32} {x3 : Int32} {x4 : Int32} {x5 : Int32} {s : zy_S} {r : Int32} {s' : zy_S}  (h : zyF155 x1 x2 x3 x4 x5 s = some (r, s')) : zyR X 101 155 0 [some (.ref (27 + 3)), some (.int x1), some (.int x2), some (.int x3), some (.int x4), some (.int x5), none, none] [] s (zyE (some (.int r)) s') := (zyG155_ok (X := X) 100).1 x1 x2 x3 x4 x5 s r s'  h
noncomputable def zyF157 : Int32 → Int32 → Int32 → Int32 → zy_S → Option (Int32 × zy_S) := (zyG155 100).2.1
theorem zyC157 {X : zx_X} {x1 : Int32} {x2 : Int32} {x3 : Int32} {x4 : Int32} {s : zy_S} {r : Int32} {s' : zy_S}  (h : zyF157 x1 x2 x3 x4 s = some (r, s')) : zyR X 101 157 0 [some (.ref (27 + 3)), some (.int x1), some (.int x2), some (.int x3), some (.int x4), none] [] s (zyE (some (.int r)) s') := (zyG155_ok (X := X) 100).2.1 x1 x2 x3 x4 s r s'  h
noncomputable def zyF158 : Int32 → Int32 → Int32 → Int32 → Int32 → zy_S → Option (Int32 × zy_S) := (zyG155 100).2.2
theorem zyC158 {X : zx_X} {x1 : Int32} {x2 : Int32} {x3 : Int32} {x4 : Int32} {x5 : Int32} {s : zy_S} {r : Int32} {s' : zy_S}  (h : zyF158 x1 x2 x3 x4 x5 s = some (r, s')) : zyR X 101 158 0 [some (.ref (27 + 3)), some (.int x1), some (.int x2), some (.int x3), some (.int x4), some (.int x5), none] [] s (zyE (some (.int r)) s') := (zyG155_ok (X := X) 100).2.2 x1 x2 x3 x4 x5 s r s'  h
/-! NineOpinions$Bodies.perform(III)I -/
noncomputable def zyF153_27   (x1 : Int32) (x2 : Int32) (x3 : Int32) (y0 : Int32) (s : zy_S) : Option (Int32 × zy_S) :=
if y0 = 0 then
some ((0 : Int32), s)
else
if zy_in x1 50 then
(zyF155 x1 (s.1 28 (x1).toNatClampNeg) x2 x3 (0 : Int32) s).bind fun p2 =>
some (p2.1, p2.2)
else none
theorem zyC153_27 {X : zx_X}     {x1 : Int32} {x2 : Int32} {x3 : Int32} {y0 : Int32} {s : zy_S} {r : Int32} {s' : zy_S}  (h : zyF153_27 x1 x2 x3 y0 s = some (r, s')) : zyR X 102 153 27 [some (.ref (27 + 3)), some (.int x1), some (.int x2), some (.int x3), none] [.int y0] s (zyE (some (.int r)) s') := by
  unfold zyF153_27 at h
  refine zy_23 rfl rfl (show zyR _ _ _ _ [some (.ref (27 + 3)), some (.int x1), some (.int x2), some (.int x3), some (.int y0)] [] _ _ from ?_)
  refine zy_2 rfl rfl (show zyR _ _ _ _ [some (.ref (27 + 3)), some (.int x1), some (.int x2), some (.int x3), some (.int y0)] [.int y0] _ _ from ?_)
  refine zy_24_0 rfl (fun b3 => (show zyR _ _ _ _ [some (.ref (27 + 3)), some (.int x1), some (.int x2), some (.int x3), some (.int y0)] [] _ _ from ?_)) (fun b3 => (show zyR _ _ _ _ [some (.ref (27 + 3)), some (.int x1), some (.int x2), some (.int x3), some (.int y0)] [] _ _ from ?_))
  · replace h := zy_ifp h b3
    refine zy_3 rfl rfl (show zyR _ _ _ _ [some (.ref (27 + 3)), some (.int x1), some (.int x2), some (.int x3), some (.int y0)] [.int (0 : Int32)] _ _ from ?_)
    obtain ⟨rfl, rfl⟩ := zy_pi h
    exact zy_4 rfl ⟨rfl, rfl⟩
  · replace h := zy_ifn h b3
    refine zy_0 rfl rfl (show zyR _ _ _ _ [some (.ref (27 + 3)), some (.int x1), some (.int x2), some (.int x3), some (.int y0)] [.ref (27 + 3)] _ _ from ?_)
    refine zy_2 rfl rfl (show zyR _ _ _ _ [some (.ref (27 + 3)), some (.int x1), some (.int x2), some (.int x3), some (.int y0)] [.int x1, .ref (27 + 3)] _ _ from ?_)
    refine zy_0 rfl rfl (show zyR _ _ _ _ [some (.ref (27 + 3)), some (.int x1), some (.int x2), some (.int x3), some (.int y0)] [.ref (27 + 3), .int x1, .ref (27 + 3)] _ _ from ?_)
    refine zy_1r (c := 27) rfl rfl rfl (show zyR _ _ _ _ [some (.ref (27 + 3)), some (.int x1), some (.int x2), some (.int x3), some (.int y0)] [.ref (28 + 3), .int x1, .ref (27 + 3)] _ _ from ?_)
    refine zy_2 rfl rfl (show zyR _ _ _ _ [some (.ref (27 + 3)), some (.int x1), some (.int x2), some (.int x3), some (.int y0)] [.int x1, .ref (28 + 3), .int x1, .ref (27 + 3)] _ _ from ?_)
    obtain ⟨c1, h⟩ := zy_if h
    refine zy_26 (c := 28) rfl rfl c1 (show zyR _ _ _ _ [some (.ref (27 + 3)), some (.int x1), some (.int x2), some (.int x3), some (.int y0)] [.int (s.1 28 (x1).toNatClampNeg), .int x1, .ref (27 + 3)] _ _ from ?_)
    refine zy_2 rfl rfl (show zyR _ _ _ _ [some (.ref (27 + 3)), some (.int x1), some (.int x2), some (.int x3), some (.int y0)] [.int x2, .int (s.1 28 (x1).toNatClampNeg), .int x1, .ref (27 + 3)] _ _ from ?_)
    refine zy_2 rfl rfl (show zyR _ _ _ _ [some (.ref (27 + 3)), some (.int x1), some (.int x2), some (.int x3), some (.int y0)] [.int x3, .int x2, .int (s.1 28 (x1).toNatClampNeg), .int x1, .ref (27 + 3)] _ _ from ?_)
    refine zy_3 rfl rfl (show zyR _ _ _ _ [some (.ref (27 + 3)), some (.int x1), some (.int x2), some (.int x3), some (.int y0)] [.int (0 : Int32), .int x3, .int x2, .int (s.1 28 (x1).toNatClampNeg), .int x1, .ref (27 + 3)] _ _ from ?_)
    obtain ⟨p2, hp2, h⟩ := zy_bind h
    refine zy_5 (c := 27) (as := [.int x1, .int (s.1 28 (x1).toNatClampNeg), .int x2, .int x3, .int (0 : Int32)]) (rest := []) (L := [some (.ref (27 + 3)), some (.int x1), some (.int (s.1 28 (x1).toNatClampNeg)), some (.int x2), some (.int x3), some (.int (0 : Int32)), none, none]) (d' := 101) rfl rfl rfl (Nat.le_of_ble_eq_true rfl) (Nat.le_of_ble_eq_true rfl) rfl (Nat.le_of_ble_eq_true rfl) rfl rfl (zyC155 hp2) ?_
    show zyR _ _ _ _ [some (.ref (27 + 3)), some (.int x1), some (.int x2), some (.int x3), some (.int y0)] [.int p2.1] _ _
    refine zy_6 rfl (show zyR _ _ _ _ [some (.ref (27 + 3)), some (.int x1), some (.int x2), some (.int x3), some (.int y0)] [.int p2.1] _ _ from ?_)
    obtain ⟨rfl, rfl⟩ := zy_pi h
    exact zy_4 rfl ⟨rfl, rfl⟩
noncomputable def zyF153_26   (x1 : Int32) (x2 : Int32) (x3 : Int32) (s : zy_S) : Option (Int32 × zy_S) :=
zyF153_27 x1 x2 x3 (0 : Int32) s
theorem zyC153_26 {X : zx_X}     {x1 : Int32} {x2 : Int32} {x3 : Int32} {s : zy_S} {r : Int32} {s' : zy_S}  (h : zyF153_26 x1 x2 x3 s = some (r, s')) : zyR X 102 153 26 [some (.ref (27 + 3)), some (.int x1), some (.int x2), some (.int x3), none] [] s (zyE (some (.int r)) s') := by
  unfold zyF153_26 at h
  refine zy_3 rfl rfl (show zyR _ _ _ _ [some (.ref (27 + 3)), some (.int x1), some (.int x2), some (.int x3), none] [.int (0 : Int32)] _ _ from ?_)
  exact zy_sub (show zy_le [some (.ref (27 + 3)), some (.int x1), some (.int x2), some (.int x3), none] [some (.ref (27 + 3)), some (.int x1), some (.int x2), some (.int x3), none] from ⟨rfl, ⟨rfl, ⟨rfl, ⟨rfl, trivial⟩⟩⟩⟩) (zyC153_27 h)
noncomputable def zyF153   (x1 : Int32) (x2 : Int32) (x3 : Int32) (s : zy_S) : Option (Int32 × zy_S) :=
(zyF154 x1 (zy_up s 27 3 (0 : Int32))).bind fun p4 =>
if p4.1 = 0 then
zyF153_26 x1 x2 x3 p4.2
else
if x2 < 0 then
zyF153_26 x1 x2 x3 p4.2
else
if (4 : Int32) ≤ x2 then
zyF153_26 x1 x2 x3 p4.2
else
zyF153_27 x1 x2 x3 (1 : Int32) p4.2
theorem zyC153 {X : zx_X}     {x1 : Int32} {x2 : Int32} {x3 : Int32} {s : zy_S} {r : Int32} {s' : zy_S}  (h : zyF153 x1 x2 x3 s = some (r, s')) : zyR X 102 153 0 [some (.ref (27 + 3)), some (.int x1), some (.int x2), some (.int x3), none] [] s (zyE (some (.int r)) s') := by
  unfold zyF153 at h
  refine zy_0 rfl rfl (show zyR _ _ _ _ [some (.ref (27 + 3)), some (.int x1), some (.int x2), some (.int x3), none] [.ref (27 + 3)] _ _ from ?_)
  refine zy_3 rfl rfl (show zyR _ _ _ _ [some (.ref (27 + 3)), some (.int x1), some (.int x2), some (.int x3), none] [.int (0 : Int32), .ref (27 + 3)] _ _ from ?_)
  refine zy_52 (c := 27) rfl rfl rfl (show zyR _ _ _ _ [some (.ref (27 + 3)), some (.int x1), some (.int x2), some (.int x3), none] [] _ _ from ?_)
  refine zy_0 rfl rfl (show zyR _ _ _ _ [some (.ref (27 + 3)), some (.int x1), some (.int x2), some (.int x3), none] [.ref (27 + 3)] _ _ from ?_)
  refine zy_2 rfl rfl (show zyR _ _ _ _ [some (.ref (27 + 3)), some (.int x1), some (.int x2), some (.int x3), none] [.int x1, .ref (27 + 3)] _ _ from ?_)
  obtain ⟨p4, hp4, h⟩ := zy_bind h
  refine zy_5 (c := 27) (as := [.int x1]) (rest := []) (L := [some (.ref (27 + 3)), some (.int x1)]) (d' := 1) rfl rfl rfl (Nat.le_of_ble_eq_true rfl) (Nat.le_of_ble_eq_true rfl) rfl (Nat.le_of_ble_eq_true rfl) rfl rfl (zyC154 hp4) ?_
  show zyR _ _ _ _ [some (.ref (27 + 3)), some (.int x1), some (.int x2), some (.int x3), none] [.int p4.1] _ _
  refine zy_24_0 rfl (fun b7 => (show zyR _ _ _ _ [some (.ref (27 + 3)), some (.int x1), some (.int x2), some (.int x3), none] [] _ _ from ?_)) (fun b7 => (show zyR _ _ _ _ [some (.ref (27 + 3)), some (.int x1), some (.int x2), some (.int x3), none] [] _ _ from ?_))
  · replace h := zy_ifp h b7
    exact zy_sub (show zy_le [some (.ref (27 + 3)), some (.int x1), some (.int x2), some (.int x3), none] [some (.ref (27 + 3)), some (.int x1), some (.int x2), some (.int x3), none] from ⟨rfl, ⟨rfl, ⟨rfl, ⟨rfl, trivial⟩⟩⟩⟩) (zyC153_26 h)
  · replace h := zy_ifn h b7
    refine zy_2 rfl rfl (show zyR _ _ _ _ [some (.ref (27 + 3)), some (.int x1), some (.int x2), some (.int x3), none] [.int x2] _ _ from ?_)
    refine zy_24_2 rfl (fun b6 => (show zyR _ _ _ _ [some (.ref (27 + 3)), some (.int x1), some (.int x2), some (.int x3), none] [] _ _ from ?_)) (fun b6 => (show zyR _ _ _ _ [some (.ref (27 + 3)), some (.int x1), some (.int x2), some (.int x3), none] [] _ _ from ?_))
    · replace h := zy_ifp h b6
      exact zy_sub (show zy_le [some (.ref (27 + 3)), some (.int x1), some (.int x2), some (.int x3), none] [some (.ref (27 + 3)), some (.int x1), some (.int x2), some (.int x3), none] from ⟨rfl, ⟨rfl, ⟨rfl, ⟨rfl, trivial⟩⟩⟩⟩) (zyC153_26 h)
    · replace h := zy_ifn h b6
      refine zy_2 rfl rfl (show zyR _ _ _ _ [some (.ref (27 + 3)), some (.int x1), some (.int x2), some (.int x3), none] [.int x2] _ _ from ?_)
      refine zy_3 rfl rfl (show zyR _ _ _ _ [some (.ref (27 + 3)), some (.int x1), some (.int x2), some (.int x3), none] [.int (4 : Int32), .int x2] _ _ from ?_)
      refine zy_25_3 rfl (fun b5 => (show zyR _ _ _ _ [some (.ref (27 + 3)), some (.int x1), some (.int x2), some (.int x3), none] [] _ _ from ?_)) (fun b5 => (show zyR _ _ _ _ [some (.ref (27 + 3)), some (.int x1), some (.int x2), some (.int x3), none] [] _ _ from ?_))
      · replace h := zy_ifp h b5
        exact zy_sub (show zy_le [some (.ref (27 + 3)), some (.int x1), some (.int x2), some (.int x3), none] [some (.ref (27 + 3)), some (.int x1), some (.int x2), some (.int x3), none] from ⟨rfl, ⟨rfl, ⟨rfl, ⟨rfl, trivial⟩⟩⟩⟩) (zyC153_26 h)
      · replace h := zy_ifn h b5
        refine zy_3 rfl rfl (show zyR _ _ _ _ [some (.ref (27 + 3)), some (.int x1), some (.int x2), some (.int x3), none] [.int (1 : Int32)] _ _ from ?_)
        refine zy_6 rfl (show zyR _ _ _ _ [some (.ref (27 + 3)), some (.int x1), some (.int x2), some (.int x3), none] [.int (1 : Int32)] _ _ from ?_)
        exact zy_sub (show zy_le [some (.ref (27 + 3)), some (.int x1), some (.int x2), some (.int x3), none] [some (.ref (27 + 3)), some (.int x1), some (.int x2), some (.int x3), none] from ⟨rfl, ⟨rfl, ⟨rfl, ⟨rfl, trivial⟩⟩⟩⟩) (zyC153_27 h)
/-! NineOpinions.act(III)I -/
noncomputable def zyF152   (x1 : Int32) (x2 : Int32) (x3 : Int32) (s : zy_S) : Option (Int32 × zy_S) :=
(zyF153 x1 x2 x3 s).bind fun p1 =>
some (p1.1, p1.2)
theorem zyC152 {X : zx_X}     {x1 : Int32} {x2 : Int32} {x3 : Int32} {s : zy_S} {r : Int32} {s' : zy_S}  (h : zyF152 x1 x2 x3 s = some (r, s')) : zyR X 103 152 0 [some (.ref (0 + 3)), some (.int x1), some (.int x2), some (.int x3)] [] s (zyE (some (.int r)) s') := by
  unfold zyF152 at h
  refine zy_0 rfl rfl (show zyR _ _ _ _ [some (.ref (0 + 3)), some (.int x1), some (.int x2), some (.int x3)] [.ref (0 + 3)] _ _ from ?_)
  refine zy_1r (c := 0) rfl rfl rfl (show zyR _ _ _ _ [some (.ref (0 + 3)), some (.int x1), some (.int x2), some (.int x3)] [.ref (27 + 3)] _ _ from ?_)
  refine zy_2 rfl rfl (show zyR _ _ _ _ [some (.ref (0 + 3)), some (.int x1), some (.int x2), some (.int x3)] [.int x1, .ref (27 + 3)] _ _ from ?_)
  refine zy_2 rfl rfl (show zyR _ _ _ _ [some (.ref (0 + 3)), some (.int x1), some (.int x2), some (.int x3)] [.int x2, .int x1, .ref (27 + 3)] _ _ from ?_)
  refine zy_2 rfl rfl (show zyR _ _ _ _ [some (.ref (0 + 3)), some (.int x1), some (.int x2), some (.int x3)] [.int x3, .int x2, .int x1, .ref (27 + 3)] _ _ from ?_)
  obtain ⟨p1, hp1, h⟩ := zy_bind h
  refine zy_5 (c := 27) (as := [.int x1, .int x2, .int x3]) (rest := []) (L := [some (.ref (27 + 3)), some (.int x1), some (.int x2), some (.int x3), none]) (d' := 102) rfl rfl rfl (Nat.le_of_ble_eq_true rfl) (Nat.le_of_ble_eq_true rfl) rfl (Nat.le_of_ble_eq_true rfl) rfl rfl (zyC153 hp1) ?_
  show zyR _ _ _ _ [some (.ref (0 + 3)), some (.int x1), some (.int x2), some (.int x3)] [.int p1.1] _ _
  obtain ⟨rfl, rfl⟩ := zy_pi h
  exact zy_4 rfl ⟨rfl, rfl⟩
/-! NineOpinionsModel.runs(I)V -/
noncomputable def zyF251_19    (s : zy_S) : Option (Int32 × zy_S) :=
some ((0 : Int32), (zy_up s 43 31 ((s.1 43 31) + (1 : Int32))))
theorem zyC251_19 {X : zx_X}      {s : zy_S} {r : Int32} {s' : zy_S}  (h : zyF251_19 s = some (r, s')) : zyR X 1 251 19 [some (.ref (43 + 3)), none] [] s (zyE none s') := by
  unfold zyF251_19 at h
  refine zy_0 rfl rfl (show zyR _ _ _ _ [some (.ref (43 + 3)), none] [.ref (43 + 3)] _ _ from ?_)
  refine zy_33 rfl rfl (show zyR _ _ _ _ [some (.ref (43 + 3)), none] [.ref (43 + 3), .ref (43 + 3)] _ _ from ?_)
  refine zy_1 (c := 43) rfl rfl rfl (show zyR _ _ _ _ [some (.ref (43 + 3)), none] [.int (s.1 43 31), .ref (43 + 3)] _ _ from ?_)
  refine zy_3 rfl rfl (show zyR _ _ _ _ [some (.ref (43 + 3)), none] [.int (1 : Int32), .int (s.1 43 31), .ref (43 + 3)] _ _ from ?_)
  refine zy_10 rfl (show zyR _ _ _ _ [some (.ref (43 + 3)), none] [.int ((s.1 43 31) + (1 : Int32)), .ref (43 + 3)] _ _ from ?_)
  refine zy_52 (c := 43) rfl rfl rfl (show zyR _ _ _ _ [some (.ref (43 + 3)), none] [] _ _ from ?_)
  cases h
  exact zy_66 rfl ⟨rfl, rfl⟩
noncomputable def zyF251   (x1 : Int32) (s : zy_S) : Option (Int32 × zy_S) :=
if (24 : Int32) ≤ (s.1 43 31) then
zyF251_19 s
else
if zy_in (s.1 43 31) 24 then
zyF251_19 (zy_up s 59 ((s.1 43 31)).toNatClampNeg x1)
else none
theorem zyC251 {X : zx_X}     {x1 : Int32} {s : zy_S} {r : Int32} {s' : zy_S}  (h : zyF251 x1 s = some (r, s')) : zyR X 1 251 0 [some (.ref (43 + 3)), some (.int x1)] [] s (zyE none s') := by
  unfold zyF251 at h
  refine zy_0 rfl rfl (show zyR _ _ _ _ [some (.ref (43 + 3)), some (.int x1)] [.ref (43 + 3)] _ _ from ?_)
  refine zy_1 (c := 43) rfl rfl rfl (show zyR _ _ _ _ [some (.ref (43 + 3)), some (.int x1)] [.int (s.1 43 31)] _ _ from ?_)
  refine zy_3 rfl rfl (show zyR _ _ _ _ [some (.ref (43 + 3)), some (.int x1)] [.int (24 : Int32), .int (s.1 43 31)] _ _ from ?_)
  refine zy_25_3 rfl (fun b2 => (show zyR _ _ _ _ [some (.ref (43 + 3)), some (.int x1)] [] _ _ from ?_)) (fun b2 => (show zyR _ _ _ _ [some (.ref (43 + 3)), some (.int x1)] [] _ _ from ?_))
  · replace h := zy_ifp h b2
    exact zy_sub (show zy_le [some (.ref (43 + 3)), none] [some (.ref (43 + 3)), some (.int x1)] from ⟨rfl, trivial⟩) (zyC251_19 h)
  · replace h := zy_ifn h b2
    refine zy_0 rfl rfl (show zyR _ _ _ _ [some (.ref (43 + 3)), some (.int x1)] [.ref (43 + 3)] _ _ from ?_)
    refine zy_1r (c := 43) rfl rfl rfl (show zyR _ _ _ _ [some (.ref (43 + 3)), some (.int x1)] [.ref (59 + 3)] _ _ from ?_)
    refine zy_0 rfl rfl (show zyR _ _ _ _ [some (.ref (43 + 3)), some (.int x1)] [.ref (43 + 3), .ref (59 + 3)] _ _ from ?_)
    refine zy_1 (c := 43) rfl rfl rfl (show zyR _ _ _ _ [some (.ref (43 + 3)), some (.int x1)] [.int (s.1 43 31), .ref (59 + 3)] _ _ from ?_)
    refine zy_2 rfl rfl (show zyR _ _ _ _ [some (.ref (43 + 3)), some (.int x1)] [.int x1, .int (s.1 43 31), .ref (59 + 3)] _ _ from ?_)
    obtain ⟨c1, h⟩ := zy_if h
    refine zy_27 (c := 59) rfl rfl c1 (show zyR _ _ _ _ [some (.ref (43 + 3)), some (.int x1)] [] _ _ from ?_)
    exact zy_sub (show zy_le [some (.ref (43 + 3)), none] [some (.ref (43 + 3)), some (.int x1)] from ⟨rfl, trivial⟩) (zyC251_19 h)
