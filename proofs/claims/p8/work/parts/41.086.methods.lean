/-! PART 41.86: methods as functions. Made by wip/v4/dcp.py. -/
/-! NineOpinions$Bodies.runRoot(IIII)I, over what it calls -/
noncomputable def zyF157_0 (g155 : Int32 → Int32 → Int32 → Int32 → Int32 → zy_S → Option (Int32 × zy_S)) (g157 : Int32 → Int32 → Int32 → Int32 → zy_S → Option (Int32 × zy_S)) (g158 : Int32 → Int32 → Int32 → Int32 → Int32 → zy_S → Option (Int32 × zy_S))  (x1 : Int32) (x2 : Int32) (x3 : Int32) (x4 : Int32) (s : zy_S) : Option (Int32 × zy_S) :=
if zy_in x1 50 then
if x2 = (1 : Int32) then
some ((x3 + x1), s)
else
if x2 = (10 : Int32) then
(g155 x1 (s.1 28 (x1).toNatClampNeg) (0 : Int32) x3 x4 s).bind fun p3 =>
some ((p3.1 * (2 : Int32)), p3.2)
else
if x2 = (11 : Int32) then
some ((x3 ^^^ x1), s)
else
(g155 x1 (s.1 28 (x1).toNatClampNeg) (1 : Int32) x3 x4 s).bind fun p6 =>
(g155 x1 (s.1 28 (x1).toNatClampNeg) (2 : Int32) (1 : Int32) x4 p6.2).bind fun p7 =>
some ((p6.1 - p7.1), p7.2)
else none
theorem zyC157_0 {X : zx_X} {d : Nat} {g155 : Int32 → Int32 → Int32 → Int32 → Int32 → zy_S → Option (Int32 × zy_S)} {g157 : Int32 → Int32 → Int32 → Int32 → zy_S → Option (Int32 × zy_S)} {g158 : Int32 → Int32 → Int32 → Int32 → Int32 → zy_S → Option (Int32 × zy_S)}  (hd : 0 ≤ d) (hg155 : ∀ (x1 : Int32) (x2 : Int32) (x3 : Int32) (x4 : Int32) (x5 : Int32) (s : zy_S) (r : Int32) (s' : zy_S), g155 x1 x2 x3 x4 x5 s = some (r, s') → zyR X d 155 0 [some (.ref (27 + 3)), some (.int x1), some (.int x2), some (.int x3), some (.int x4), some (.int x5), none, none] [] s (zyE (some (.int r)) s')) (hg157 : ∀ (x1 : Int32) (x2 : Int32) (x3 : Int32) (x4 : Int32) (s : zy_S) (r : Int32) (s' : zy_S), g157 x1 x2 x3 x4 s = some (r, s') → zyR X d 157 0 [some (.ref (27 + 3)), some (.int x1), some (.int x2), some (.int x3), some (.int x4), none] [] s (zyE (some (.int r)) s')) (hg158 : ∀ (x1 : Int32) (x2 : Int32) (x3 : Int32) (x4 : Int32) (x5 : Int32) (s : zy_S) (r : Int32) (s' : zy_S), g158 x1 x2 x3 x4 x5 s = some (r, s') → zyR X d 158 0 [some (.ref (27 + 3)), some (.int x1), some (.int x2), some (.int x3), some (.int x4), some (.int x5), none] [] s (zyE (some (.int r)) s'))  {x1 : Int32} {x2 : Int32} {x3 : Int32} {x4 : Int32} {s : zy_S} {r : Int32} {s' : zy_S}  (h : zyF157_0 g155 g157 g158 x1 x2 x3 x4 s = some (r, s')) : zyR X (d + 1) 157 0 [some (.ref (27 + 3)), some (.int x1), some (.int x2), some (.int x3), some (.int x4), none] [] s (zyE (some (.int r)) s') := by
  unfold zyF157_0 at h
  refine zy_0 rfl rfl (show zyR _ _ _ _ [some (.ref (27 + 3)), some (.int x1), some (.int x2), some (.int x3), some (.int x4), none] [.ref (27 + 3)] _ _ from ?_)
  refine zy_1r (c := 27) rfl rfl rfl (show zyR _ _ _ _ [some (.ref (27 + 3)), some (.int x1), some (.int x2), some (.int x3), some (.int x4), none] [.ref (28 + 3)] _ _ from ?_)
  refine zy_2 rfl rfl (show zyR _ _ _ _ [some (.ref (27 + 3)), some (.int x1), some (.int x2), some (.int x3), some (.int x4), none] [.int x1, .ref (28 + 3)] _ _ from ?_)
  obtain ⟨c1, h⟩ := zy_if h
  refine zy_26 (c := 28) rfl rfl c1 (show zyR _ _ _ _ [some (.ref (27 + 3)), some (.int x1), some (.int x2), some (.int x3), some (.int x4), none] [.int (s.1 28 (x1).toNatClampNeg)] _ _ from ?_)
  refine zy_23 rfl rfl (show zyR _ _ _ _ [some (.ref (27 + 3)), some (.int x1), some (.int x2), some (.int x3), some (.int x4), some (.int (s.1 28 (x1).toNatClampNeg))] [] _ _ from ?_)
  refine zy_2 rfl rfl (show zyR _ _ _ _ [some (.ref (27 + 3)), some (.int x1), some (.int x2), some (.int x3), some (.int x4), some (.int (s.1 28 (x1).toNatClampNeg))] [.int x2] _ _ from ?_)
  refine zy_51 rfl (by decide) ?_
  refine zy_swp (fun b2 => (show zyR _ _ _ _ [some (.ref (27 + 3)), some (.int x1), some (.int x2), some (.int x3), some (.int x4), some (.int (s.1 28 (x1).toNatClampNeg))] [] _ _ from ?_)) (fun b2 => ?_)
  · replace h := zy_ifp h b2
    refine zy_2 rfl rfl (show zyR _ _ _ _ [some (.ref (27 + 3)), some (.int x1), some (.int x2), some (.int x3), some (.int x4), some (.int (s.1 28 (x1).toNatClampNeg))] [.int x3] _ _ from ?_)
    refine zy_2 rfl rfl (show zyR _ _ _ _ [some (.ref (27 + 3)), some (.int x1), some (.int x2), some (.int x3), some (.int x4), some (.int (s.1 28 (x1).toNatClampNeg))] [.int x1, .int x3] _ _ from ?_)
    refine zy_10 rfl (show zyR _ _ _ _ [some (.ref (27 + 3)), some (.int x1), some (.int x2), some (.int x3), some (.int x4), some (.int (s.1 28 (x1).toNatClampNeg))] [.int (x3 + x1)] _ _ from ?_)
    obtain ⟨rfl, rfl⟩ := zy_pi h
    exact zy_4 rfl ⟨rfl, rfl⟩
  replace h := zy_ifn h b2
  refine zy_swp (fun b4 => (show zyR _ _ _ _ [some (.ref (27 + 3)), some (.int x1), some (.int x2), some (.int x3), some (.int x4), some (.int (s.1 28 (x1).toNatClampNeg))] [] _ _ from ?_)) (fun b4 => ?_)
  · replace h := zy_ifp h b4
    refine zy_0 rfl rfl (show zyR _ _ _ _ [some (.ref (27 + 3)), some (.int x1), some (.int x2), some (.int x3), some (.int x4), some (.int (s.1 28 (x1).toNatClampNeg))] [.ref (27 + 3)] _ _ from ?_)
    refine zy_2 rfl rfl (show zyR _ _ _ _ [some (.ref (27 + 3)), some (.int x1), some (.int x2), some (.int x3), some (.int x4), some (.int (s.1 28 (x1).toNatClampNeg))] [.int x1, .ref (27 + 3)] _ _ from ?_)
    refine zy_2 rfl rfl (show zyR _ _ _ _ [some (.ref (27 + 3)), some (.int x1), some (.int x2), some (.int x3), some (.int x4), some (.int (s.1 28 (x1).toNatClampNeg))] [.int (s.1 28 (x1).toNatClampNeg), .int x1, .ref (27 + 3)] _ _ from ?_)
    refine zy_3 rfl rfl (show zyR _ _ _ _ [some (.ref (27 + 3)), some (.int x1), some (.int x2), some (.int x3), some (.int x4), some (.int (s.1 28 (x1).toNatClampNeg))] [.int (0 : Int32), .int (s.1 28 (x1).toNatClampNeg), .int x1, .ref (27 + 3)] _ _ from ?_)
    refine zy_2 rfl rfl (show zyR _ _ _ _ [some (.ref (27 + 3)), some (.int x1), some (.int x2), some (.int x3), some (.int x4), some (.int (s.1 28 (x1).toNatClampNeg))] [.int x3, .int (0 : Int32), .int (s.1 28 (x1).toNatClampNeg), .int x1, .ref (27 + 3)] _ _ from ?_)
    refine zy_2 rfl rfl (show zyR _ _ _ _ [some (.ref (27 + 3)), some (.int x1), some (.int x2), some (.int x3), some (.int x4), some (.int (s.1 28 (x1).toNatClampNeg))] [.int x4, .int x3, .int (0 : Int32), .int (s.1 28 (x1).toNatClampNeg), .int x1, .ref (27 + 3)] _ _ from ?_)
    obtain ⟨p3, hp3, h⟩ := zy_bind h
    refine zy_5 (c := 27) (as := [.int x1, .int (s.1 28 (x1).toNatClampNeg), .int (0 : Int32), .int x3, .int x4]) (rest := []) (L := [some (.ref (27 + 3)), some (.int x1), some (.int (s.1 28 (x1).toNatClampNeg)), some (.int (0 : Int32)), some (.int x3), some (.int x4), none, none]) (d' := d) rfl rfl rfl (Nat.le_of_ble_eq_true rfl) (by omega) rfl (Nat.le_of_ble_eq_true rfl) rfl rfl (hg155 x1 (s.1 28 (x1).toNatClampNeg) (0 : Int32) x3 x4 s _ _ hp3) ?_
    show zyR _ _ _ _ [some (.ref (27 + 3)), some (.int x1), some (.int x2), some (.int x3), some (.int x4), some (.int (s.1 28 (x1).toNatClampNeg))] [.int p3.1] _ _
    refine zy_3 rfl rfl (show zyR _ _ _ _ [some (.ref (27 + 3)), some (.int x1), some (.int x2), some (.int x3), some (.int x4), some (.int (s.1 28 (x1).toNatClampNeg))] [.int (2 : Int32), .int p3.1] _ _ from ?_)
    refine zy_12 rfl (show zyR _ _ _ _ [some (.ref (27 + 3)), some (.int x1), some (.int x2), some (.int x3), some (.int x4), some (.int (s.1 28 (x1).toNatClampNeg))] [.int (p3.1 * (2 : Int32))] _ _ from ?_)
    obtain ⟨rfl, rfl⟩ := zy_pi h
    exact zy_4 rfl ⟨rfl, rfl⟩
  replace h := zy_ifn h b4
  refine zy_swp (fun b5 => (show zyR _ _ _ _ [some (.ref (27 + 3)), some (.int x1), some (.int x2), some (.int x3), some (.int x4), some (.int (s.1 28 (x1).toNatClampNeg))] [] _ _ from ?_)) (fun b5 => ?_)
  · replace h := zy_ifp h b5
    refine zy_2 rfl rfl (show zyR _ _ _ _ [some (.ref (27 + 3)), some (.int x1), some (.int x2), some (.int x3), some (.int x4), some (.int (s.1 28 (x1).toNatClampNeg))] [.int x3] _ _ from ?_)
    refine zy_2 rfl rfl (show zyR _ _ _ _ [some (.ref (27 + 3)), some (.int x1), some (.int x2), some (.int x3), some (.int x4), some (.int (s.1 28 (x1).toNatClampNeg))] [.int x1, .int x3] _ _ from ?_)
    refine zy_15 rfl (show zyR _ _ _ _ [some (.ref (27 + 3)), some (.int x1), some (.int x2), some (.int x3), some (.int x4), some (.int (s.1 28 (x1).toNatClampNeg))] [.int (x3 ^^^ x1)] _ _ from ?_)
    obtain ⟨rfl, rfl⟩ := zy_pi h
    exact zy_4 rfl ⟨rfl, rfl⟩
  replace h := zy_ifn h b5
  show zyR _ _ _ _ [some (.ref (27 + 3)), some (.int x1), some (.int x2), some (.int x3), some (.int x4), some (.int (s.1 28 (x1).toNatClampNeg))] [] _ _
  refine zy_0 rfl rfl (show zyR _ _ _ _ [some (.ref (27 + 3)), some (.int x1), some (.int x2), some (.int x3), some (.int x4), some (.int (s.1 28 (x1).toNatClampNeg))] [.ref (27 + 3)] _ _ from ?_)
  refine zy_2 rfl rfl (show zyR _ _ _ _ [some (.ref (27 + 3)), some (.int x1), some (.int x2), some (.int x3), some (.int x4), some (.int (s.1 28 (x1).toNatClampNeg))] [.int x1, .ref (27 + 3)] _ _ from ?_)
  refine zy_2 rfl rfl (show zyR _ _ _ _ [some (.ref (27 + 3)), some (.int x1), some (.int x2), some (.int x3), some (.int x4), some (.int (s.1 28 (x1).toNatClampNeg))] [.int (s.1 28 (x1).toNatClampNeg), .int x1, .ref (27 + 3)] _ _ from ?_)
  refine zy_3 rfl rfl (show zyR _ _ _ _ [some (.ref (27 + 3)), some (.int x1), some (.int x2), some (.int x3), some (.int x4), some (.int (s.1 28 (x1).toNatClampNeg))] [.int (1 : Int32), .int (s.1 28 (x1).toNatClampNeg), .int x1, .ref (27 + 3)] _ _ from ?_)
  refine zy_2 rfl rfl (show zyR _ _ _ _ [some (.ref (27 + 3)), some (.int x1), some (.int x2), some (.int x3), some (.int x4), some (.int (s.1 28 (x1).toNatClampNeg))] [.int x3, .int (1 : Int32), .int (s.1 28 (x1).toNatClampNeg), .int x1, .ref (27 + 3)] _ _ from ?_)
  refine zy_2 rfl rfl (show zyR _ _ _ _ [some (.ref (27 + 3)), some (.int x1), some (.int x2), some (.int x3), some (.int x4), some (.int (s.1 28 (x1).toNatClampNeg))] [.int x4, .int x3, .int (1 : Int32), .int (s.1 28 (x1).toNatClampNeg), .int x1, .ref (27 + 3)] _ _ from ?_)
  obtain ⟨p6, hp6, h⟩ := zy_bind h
  refine zy_5 (c := 27) (as := [.int x1, .int (s.1 28 (x1).toNatClampNeg), .int (1 : Int32), .int x3, .int x4]) (rest := []) (L := [some (.ref (27 + 3)), some (.int x1), some (.int (s.1 28 (x1).toNatClampNeg)), some (.int (1 : Int32)), some (.int x3), some (.int x4), none, none]) (d' := d) rfl rfl rfl (Nat.le_of_ble_eq_true rfl) (by omega) rfl (Nat.le_of_ble_eq_true rfl) rfl rfl (hg155 x1 (s.1 28 (x1).toNatClampNeg) (1 : Int32) x3 x4 s _ _ hp6) ?_
  show zyR _ _ _ _ [some (.ref (27 + 3)), some (.int x1), some (.int x2), some (.int x3), some (.int x4), some (.int (s.1 28 (x1).toNatClampNeg))] [.int p6.1] _ _
  refine zy_0 rfl rfl (show zyR _ _ _ _ [some (.ref (27 + 3)), some (.int x1), some (.int x2), some (.int x3), some (.int x4), some (.int (s.1 28 (x1).toNatClampNeg))] [.ref (27 + 3), .int p6.1] _ _ from ?_)
  refine zy_2 rfl rfl (show zyR _ _ _ _ [some (.ref (27 + 3)), some (.int x1), some (.int x2), some (.int x3), some (.int x4), some (.int (s.1 28 (x1).toNatClampNeg))] [.int x1, .ref (27 + 3), .int p6.1] _ _ from ?_)
  refine zy_2 rfl rfl (show zyR _ _ _ _ [some (.ref (27 + 3)), some (.int x1), some (.int x2), some (.int x3), some (.int x4), some (.int (s.1 28 (x1).toNatClampNeg))] [.int (s.1 28 (x1).toNatClampNeg), .int x1, .ref (27 + 3), .int p6.1] _ _ from ?_)
  refine zy_3 rfl rfl (show zyR _ _ _ _ [some (.ref (27 + 3)), some (.int x1), some (.int x2), some (.int x3), some (.int x4), some (.int (s.1 28 (x1).toNatClampNeg))] [.int (2 : Int32), .int (s.1 28 (x1).toNatClampNeg), .int x1, .ref (27 + 3), .int p6.1] _ _ from ?_)
  refine zy_3 rfl rfl (show zyR _ _ _ _ [some (.ref (27 + 3)), some (.int x1), some (.int x2), some (.int x3), some (.int x4), some (.int (s.1 28 (x1).toNatClampNeg))] [.int (1 : Int32), .int (2 : Int32), .int (s.1 28 (x1).toNatClampNeg), .int x1, .ref (27 + 3), .int p6.1] _ _ from ?_)
  refine zy_2 rfl rfl (show zyR _ _ _ _ [some (.ref (27 + 3)), some (.int x1), some (.int x2), some (.int x3), some (.int x4), some (.int (s.1 28 (x1).toNatClampNeg))] [.int x4, .int (1 : Int32), .int (2 : Int32), .int (s.1 28 (x1).toNatClampNeg), .int x1, .ref (27 + 3), .int p6.1] _ _ from ?_)
  obtain ⟨p7, hp7, h⟩ := zy_bind h
  refine zy_5 (c := 27) (as := [.int x1, .int (s.1 28 (x1).toNatClampNeg), .int (2 : Int32), .int (1 : Int32), .int x4]) (rest := [.int p6.1]) (L := [some (.ref (27 + 3)), some (.int x1), some (.int (s.1 28 (x1).toNatClampNeg)), some (.int (2 : Int32)), some (.int (1 : Int32)), some (.int x4), none, none]) (d' := d) rfl rfl rfl (Nat.le_of_ble_eq_true rfl) (by omega) rfl (Nat.le_of_ble_eq_true rfl) rfl rfl (hg155 x1 (s.1 28 (x1).toNatClampNeg) (2 : Int32) (1 : Int32) x4 p6.2 _ _ hp7) ?_
  show zyR _ _ _ _ [some (.ref (27 + 3)), some (.int x1), some (.int x2), some (.int x3), some (.int x4), some (.int (s.1 28 (x1).toNatClampNeg))] [.int p7.1, .int p6.1] _ _
  refine zy_11 rfl (show zyR _ _ _ _ [some (.ref (27 + 3)), some (.int x1), some (.int x2), some (.int x3), some (.int x4), some (.int (s.1 28 (x1).toNatClampNeg))] [.int (p6.1 - p7.1)] _ _ from ?_)
  obtain ⟨rfl, rfl⟩ := zy_pi h
  exact zy_4 rfl ⟨rfl, rfl⟩
