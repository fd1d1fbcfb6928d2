/-! PART 41.79: methods as functions. Made by wip/v4/dcp.py. -/
/-! NineOpinionsModel.compared()I, over what it calls -/
noncomputable def zyF194_37 (g192 : zy_S → Option (Int32 × zy_S)) (g193 : zy_S → Option (Int32 × zy_S)) (g194 : zy_S → Option (Int32 × zy_S)) (g195 : zy_S → Option (Int32 × zy_S)) (g196 : zy_S → Option (Int32 × zy_S)) (g197 : zy_S → Option (Int32 × zy_S))  (x1 : Int32) (x2 : Int32) (s : zy_S) : Option (Int32 × zy_S) :=
(g195 (zy_up s 43 13 ((s.1 43 13) + (1 : Int32)))).bind fun p1 =>
if x2 ≠ (60 : Int32) then
if x2 ≠ (61 : Int32) then
if x1 ≤ p1.1 then
some ((0 : Int32), p1.2)
else
some ((1 : Int32), p1.2)
else
if x1 ≠ p1.1 then
some ((0 : Int32), p1.2)
else
some ((1 : Int32), p1.2)
else
if p1.1 ≤ x1 then
some ((0 : Int32), p1.2)
else
some ((1 : Int32), p1.2)
theorem zyC194_37 {X : zx_X} {d : Nat} {g192 : zy_S → Option (Int32 × zy_S)} {g193 : zy_S → Option (Int32 × zy_S)} {g194 : zy_S → Option (Int32 × zy_S)} {g195 : zy_S → Option (Int32 × zy_S)} {g196 : zy_S → Option (Int32 × zy_S)} {g197 : zy_S → Option (Int32 × zy_S)}  (hd : 1 ≤ d) (hg192 : ∀  (s : zy_S) (r : Int32) (s' : zy_S), g192 s = some (r, s') → zyR X d 192 0 [some (.ref (43 + 3)), none, none] [] s (zyE (some (.int r)) s')) (hg193 : ∀  (s : zy_S) (r : Int32) (s' : zy_S), g193 s = some (r, s') → zyR X d 193 0 [some (.ref (43 + 3)), none, none] [] s (zyE (some (.int r)) s')) (hg194 : ∀  (s : zy_S) (r : Int32) (s' : zy_S), g194 s = some (r, s') → zyR X d 194 0 [some (.ref (43 + 3)), none, none, none] [] s (zyE (some (.int r)) s')) (hg195 : ∀  (s : zy_S) (r : Int32) (s' : zy_S), g195 s = some (r, s') → zyR X d 195 0 [some (.ref (43 + 3)), none, none, none] [] s (zyE (some (.int r)) s')) (hg196 : ∀  (s : zy_S) (r : Int32) (s' : zy_S), g196 s = some (r, s') → zyR X d 196 0 [some (.ref (43 + 3)), none, none, none] [] s (zyE (some (.int r)) s')) (hg197 : ∀  (s : zy_S) (r : Int32) (s' : zy_S), g197 s = some (r, s') → zyR X d 197 0 [some (.ref (43 + 3)), none, none, none, none] [] s (zyE (some (.int r)) s'))  {x1 : Int32} {x2 : Int32} {s : zy_S} {r : Int32} {s' : zy_S}  (h : zyF194_37 g192 g193 g194 g195 g196 g197 x1 x2 s = some (r, s')) : zyR X (d + 1) 194 37 [some (.ref (43 + 3)), some (.int x1), some (.int x2), none] [] s (zyE (some (.int r)) s') := by
  unfold zyF194_37 at h
  refine zy_0 rfl rfl (show zyR _ _ _ _ [some (.ref (43 + 3)), some (.int x1), some (.int x2), none] [.ref (43 + 3)] _ _ from ?_)
  refine zy_33 rfl rfl (show zyR _ _ _ _ [some (.ref (43 + 3)), some (.int x1), some (.int x2), none] [.ref (43 + 3), .ref (43 + 3)] _ _ from ?_)
  refine zy_1 (c := 43) rfl rfl rfl (show zyR _ _ _ _ [some (.ref (43 + 3)), some (.int x1), some (.int x2), none] [.int (s.1 43 13), .ref (43 + 3)] _ _ from ?_)
  refine zy_3 rfl rfl (show zyR _ _ _ _ [some (.ref (43 + 3)), some (.int x1), some (.int x2), none] [.int (1 : Int32), .int (s.1 43 13), .ref (43 + 3)] _ _ from ?_)
  refine zy_10 rfl (show zyR _ _ _ _ [some (.ref (43 + 3)), some (.int x1), some (.int x2), none] [.int ((s.1 43 13) + (1 : Int32)), .ref (43 + 3)] _ _ from ?_)
  refine zy_52 (c := 43) rfl rfl rfl (show zyR _ _ _ _ [some (.ref (43 + 3)), some (.int x1), some (.int x2), none] [] _ _ from ?_)
  refine zy_0 rfl rfl (show zyR _ _ _ _ [some (.ref (43 + 3)), some (.int x1), some (.int x2), none] [.ref (43 + 3)] _ _ from ?_)
  obtain ⟨p1, hp1, h⟩ := zy_bind h
  refine zy_5 (c := 43) (as := []) (rest := []) (L := [some (.ref (43 + 3)), none, none, none]) (d' := d) rfl rfl rfl (Nat.le_of_ble_eq_true rfl) (by omega) rfl (Nat.le_of_ble_eq_true rfl) rfl rfl (hg195 (zy_up s 43 13 ((s.1 43 13) + (1 : Int32))) _ _ hp1) ?_
  show zyR _ _ _ _ [some (.ref (43 + 3)), some (.int x1), some (.int x2), none] [.int p1.1] _ _
  refine zy_23 rfl rfl (show zyR _ _ _ _ [some (.ref (43 + 3)), some (.int x1), some (.int x2), some (.int p1.1)] [] _ _ from ?_)
  refine zy_2 rfl rfl (show zyR _ _ _ _ [some (.ref (43 + 3)), some (.int x1), some (.int x2), some (.int p1.1)] [.int x2] _ _ from ?_)
  refine zy_3 rfl rfl (show zyR _ _ _ _ [some (.ref (43 + 3)), some (.int x1), some (.int x2), some (.int p1.1)] [.int (60 : Int32), .int x2] _ _ from ?_)
  refine zy_25_1 rfl (fun b6 => (show zyR _ _ _ _ [some (.ref (43 + 3)), some (.int x1), some (.int x2), some (.int p1.1)] [] _ _ from ?_)) (fun b6 => (show zyR _ _ _ _ [some (.ref (43 + 3)), some (.int x1), some (.int x2), some (.int p1.1)] [] _ _ from ?_))
  · replace h := zy_ifp h b6
    refine zy_2 rfl rfl (show zyR _ _ _ _ [some (.ref (43 + 3)), some (.int x1), some (.int x2), some (.int p1.1)] [.int x2] _ _ from ?_)
    refine zy_3 rfl rfl (show zyR _ _ _ _ [some (.ref (43 + 3)), some (.int x1), some (.int x2), some (.int p1.1)] [.int (61 : Int32), .int x2] _ _ from ?_)
    refine zy_25_1 rfl (fun b4 => (show zyR _ _ _ _ [some (.ref (43 + 3)), some (.int x1), some (.int x2), some (.int p1.1)] [] _ _ from ?_)) (fun b4 => (show zyR _ _ _ _ [some (.ref (43 + 3)), some (.int x1), some (.int x2), some (.int p1.1)] [] _ _ from ?_))
    · replace h := zy_ifp h b4
      refine zy_2 rfl rfl (show zyR _ _ _ _ [some (.ref (43 + 3)), some (.int x1), some (.int x2), some (.int p1.1)] [.int x1] _ _ from ?_)
      refine zy_2 rfl rfl (show zyR _ _ _ _ [some (.ref (43 + 3)), some (.int x1), some (.int x2), some (.int p1.1)] [.int p1.1, .int x1] _ _ from ?_)
      refine zy_25_5 rfl (fun b2 => (show zyR _ _ _ _ [some (.ref (43 + 3)), some (.int x1), some (.int x2), some (.int p1.1)] [] _ _ from ?_)) (fun b2 => (show zyR _ _ _ _ [some (.ref (43 + 3)), some (.int x1), some (.int x2), some (.int p1.1)] [] _ _ from ?_))
      · replace h := zy_ifp h b2
        refine zy_3 rfl rfl (show zyR _ _ _ _ [some (.ref (43 + 3)), some (.int x1), some (.int x2), some (.int p1.1)] [.int (0 : Int32)] _ _ from ?_)
        obtain ⟨rfl, rfl⟩ := zy_pi h
        exact zy_4 rfl ⟨rfl, rfl⟩
      · replace h := zy_ifn h b2
        refine zy_3 rfl rfl (show zyR _ _ _ _ [some (.ref (43 + 3)), some (.int x1), some (.int x2), some (.int p1.1)] [.int (1 : Int32)] _ _ from ?_)
        refine zy_6 rfl (show zyR _ _ _ _ [some (.ref (43 + 3)), some (.int x1), some (.int x2), some (.int p1.1)] [.int (1 : Int32)] _ _ from ?_)
        obtain ⟨rfl, rfl⟩ := zy_pi h
        exact zy_4 rfl ⟨rfl, rfl⟩
    · replace h := zy_ifn h b4
      refine zy_2 rfl rfl (show zyR _ _ _ _ [some (.ref (43 + 3)), some (.int x1), some (.int x2), some (.int p1.1)] [.int x1] _ _ from ?_)
      refine zy_2 rfl rfl (show zyR _ _ _ _ [some (.ref (43 + 3)), some (.int x1), some (.int x2), some (.int p1.1)] [.int p1.1, .int x1] _ _ from ?_)
      refine zy_25_1 rfl (fun b3 => (show zyR _ _ _ _ [some (.ref (43 + 3)), some (.int x1), some (.int x2), some (.int p1.1)] [] _ _ from ?_)) (fun b3 => (show zyR _ _ _ _ [some (.ref (43 + 3)), some (.int x1), some (.int x2), some (.int p1.1)] [] _ _ from ?_))
      · replace h := zy_ifp h b3
        refine zy_3 rfl rfl (show zyR _ _ _ _ [some (.ref (43 + 3)), some (.int x1), some (.int x2), some (.int p1.1)] [.int (0 : Int32)] _ _ from ?_)
        obtain ⟨rfl, rfl⟩ := zy_pi h
        exact zy_4 rfl ⟨rfl, rfl⟩
      · replace h := zy_ifn h b3
        refine zy_6 rfl (show zyR _ _ _ _ [some (.ref (43 + 3)), some (.int x1), some (.int x2), some (.int p1.1)] [] _ _ from ?_)
        refine zy_3 rfl rfl (show zyR _ _ _ _ [some (.ref (43 + 3)), some (.int x1), some (.int x2), some (.int p1.1)] [.int (1 : Int32)] _ _ from ?_)
        refine zy_6 rfl (show zyR _ _ _ _ [some (.ref (43 + 3)), some (.int x1), some (.int x2), some (.int p1.1)] [.int (1 : Int32)] _ _ from ?_)
        obtain ⟨rfl, rfl⟩ := zy_pi h
        exact zy_4 rfl ⟨rfl, rfl⟩
  · replace h := zy_ifn h b6
    refine zy_2 rfl rfl (show zyR _ _ _ _ [some (.ref (43 + 3)), some (.int x1), some (.int x2), some (.int p1.1)] [.int x1] _ _ from ?_)
    refine zy_2 rfl rfl (show zyR _ _ _ _ [some (.ref (43 + 3)), some (.int x1), some (.int x2), some (.int p1.1)] [.int p1.1, .int x1] _ _ from ?_)
    refine zy_25_3 rfl (fun b5 => (show zyR _ _ _ _ [some (.ref (43 + 3)), some (.int x1), some (.int x2), some (.int p1.1)] [] _ _ from ?_)) (fun b5 => (show zyR _ _ _ _ [some (.ref (43 + 3)), some (.int x1), some (.int x2), some (.int p1.1)] [] _ _ from ?_))
    · replace h := zy_ifp h b5
      refine zy_3 rfl rfl (show zyR _ _ _ _ [some (.ref (43 + 3)), some (.int x1), some (.int x2), some (.int p1.1)] [.int (0 : Int32)] _ _ from ?_)
      obtain ⟨rfl, rfl⟩ := zy_pi h
      exact zy_4 rfl ⟨rfl, rfl⟩
    · replace h := zy_ifn h b5
      refine zy_6 rfl (show zyR _ _ _ _ [some (.ref (43 + 3)), some (.int x1), some (.int x2), some (.int p1.1)] [] _ _ from ?_)
      refine zy_3 rfl rfl (show zyR _ _ _ _ [some (.ref (43 + 3)), some (.int x1), some (.int x2), some (.int p1.1)] [.int (1 : Int32)] _ _ from ?_)
      refine zy_6 rfl (show zyR _ _ _ _ [some (.ref (43 + 3)), some (.int x1), some (.int x2), some (.int p1.1)] [.int (1 : Int32)] _ _ from ?_)
      obtain ⟨rfl, rfl⟩ := zy_pi h
      exact zy_4 rfl ⟨rfl, rfl⟩
noncomputable def zyF194_0 (g192 : zy_S → Option (Int32 × zy_S)) (g193 : zy_S → Option (Int32 × zy_S)) (g194 : zy_S → Option (Int32 × zy_S)) (g195 : zy_S → Option (Int32 × zy_S)) (g196 : zy_S → Option (Int32 × zy_S)) (g197 : zy_S → Option (Int32 × zy_S))   (s : zy_S) : Option (Int32 × zy_S) :=
(g195 s).bind fun p7 =>
(zyF198 p7.2).bind fun p8 =>
if 0 ≤ (p8.2.1 43 15) then
some (p7.1, p8.2)
else
if p8.1 = (60 : Int32) then
zyF194_37 g192 g193 g194 g195 g196 g197 p7.1 p8.1 p8.2
else
if p8.1 = (61 : Int32) then
zyF194_37 g192 g193 g194 g195 g196 g197 p7.1 p8.1 p8.2
else
if p8.1 = (62 : Int32) then
zyF194_37 g192 g193 g194 g195 g196 g197 p7.1 p8.1 p8.2
else
some (p7.1, p8.2)
theorem zyC194_0 {X : zx_X} {d : Nat} {g192 : zy_S → Option (Int32 × zy_S)} {g193 : zy_S → Option (Int32 × zy_S)} {g194 : zy_S → Option (Int32 × zy_S)} {g195 : zy_S → Option (Int32 × zy_S)} {g196 : zy_S → Option (Int32 × zy_S)} {g197 : zy_S → Option (Int32 × zy_S)}  (hd : 1 ≤ d) (hg192 : ∀  (s : zy_S) (r : Int32) (s' : zy_S), g192 s = some (r, s') → zyR X d 192 0 [some (.ref (43 + 3)), none, none] [] s (zyE (some (.int r)) s')) (hg193 : ∀  (s : zy_S) (r : Int32) (s' : zy_S), g193 s = some (r, s') → zyR X d 193 0 [some (.ref (43 + 3)), none, none] [] s (zyE (some (.int r)) s')) (hg194 : ∀  (s : zy_S) (r : Int32) (s' : zy_S), g194 s = some (r, s') → zyR X d 194 0 [some (.ref (43 + 3)), none, none, none] [] s (zyE (some (.int r)) s')) (hg195 : ∀  (s : zy_S) (r : Int32) (s' : zy_S), g195 s = some (r, s') → zyR X d 195 0 [some (.ref (43 + 3)), none, none, none] [] s (zyE (some (.int r)) s')) (hg196 : ∀  (s : zy_S) (r : Int32) (s' : zy_S), g196 s = some (r, s') → zyR X d 196 0 [some (.ref (43 + 3)), none, none, none] [] s (zyE (some (.int r)) s')) (hg197 : ∀  (s : zy_S) (r : Int32) (s' : zy_S), g197 s = some (r, s') → zyR X d 197 0 [some (.ref (43 + 3)), none, none, none, none] [] s (zyE (some (.int r)) s'))   {s : zy_S} {r : Int32} {s' : zy_S}  (h : zyF194_0 g192 g193 g194 g195 g196 g197 s = some (r, s')) : zyR X (d + 1) 194 0 [some (.ref (43 + 3)), none, none, none] [] s (zyE (some (.int r)) s') := by
  unfold zyF194_0 at h
  refine zy_0 rfl rfl (show zyR _ _ _ _ [some (.ref (43 + 3)), none, none, none] [.ref (43 + 3)] _ _ from ?_)
  obtain ⟨p7, hp7, h⟩ := zy_bind h
  refine zy_5 (c := 43) (as := []) (rest := []) (L := [some (.ref (43 + 3)), none, none, none]) (d' := d) rfl rfl rfl (Nat.le_of_ble_eq_true rfl) (by omega) rfl (Nat.le_of_ble_eq_true rfl) rfl rfl (hg195 s _ _ hp7) ?_
  show zyR _ _ _ _ [some (.ref (43 + 3)), none, none, none] [.int p7.1] _ _
  refine zy_23 rfl rfl (show zyR _ _ _ _ [some (.ref (43 + 3)), some (.int p7.1), none, none] [] _ _ from ?_)
  refine zy_0 rfl rfl (show zyR _ _ _ _ [some (.ref (43 + 3)), some (.int p7.1), none, none] [.ref (43 + 3)] _ _ from ?_)
  obtain ⟨p8, hp8, h⟩ := zy_bind h
  refine zy_5 (c := 43) (as := []) (rest := []) (L := [some (.ref (43 + 3))]) (d' := 1) rfl rfl rfl (Nat.le_of_ble_eq_true rfl) (by omega) rfl (Nat.le_of_ble_eq_true rfl) rfl rfl (zyC198 hp8) ?_
  show zyR _ _ _ _ [some (.ref (43 + 3)), some (.int p7.1), none, none] [.int p8.1] _ _
  refine zy_23 rfl rfl (show zyR _ _ _ _ [some (.ref (43 + 3)), some (.int p7.1), some (.int p8.1), none] [] _ _ from ?_)
  refine zy_0 rfl rfl (show zyR _ _ _ _ [some (.ref (43 + 3)), some (.int p7.1), some (.int p8.1), none] [.ref (43 + 3)] _ _ from ?_)
  refine zy_1 (c := 43) rfl rfl rfl (show zyR _ _ _ _ [some (.ref (43 + 3)), some (.int p7.1), some (.int p8.1), none] [.int (p8.2.1 43 15)] _ _ from ?_)
  refine zy_24_3 rfl (fun b12 => (show zyR _ _ _ _ [some (.ref (43 + 3)), some (.int p7.1), some (.int p8.1), none] [] _ _ from ?_)) (fun b12 => (show zyR _ _ _ _ [some (.ref (43 + 3)), some (.int p7.1), some (.int p8.1), none] [] _ _ from ?_))
  · replace h := zy_ifp h b12
    refine zy_2 rfl rfl (show zyR _ _ _ _ [some (.ref (43 + 3)), some (.int p7.1), some (.int p8.1), none] [.int p7.1] _ _ from ?_)
    obtain ⟨rfl, rfl⟩ := zy_pi h
    exact zy_4 rfl ⟨rfl, rfl⟩
  · replace h := zy_ifn h b12
    refine zy_2 rfl rfl (show zyR _ _ _ _ [some (.ref (43 + 3)), some (.int p7.1), some (.int p8.1), none] [.int p8.1] _ _ from ?_)
    refine zy_3 rfl rfl (show zyR _ _ _ _ [some (.ref (43 + 3)), some (.int p7.1), some (.int p8.1), none] [.int (60 : Int32), .int p8.1] _ _ from ?_)
    refine zy_25_0 rfl (fun b11 => (show zyR _ _ _ _ [some (.ref (43 + 3)), some (.int p7.1), some (.int p8.1), none] [] _ _ from ?_)) (fun b11 => (show zyR _ _ _ _ [some (.ref (43 + 3)), some (.int p7.1), some (.int p8.1), none] [] _ _ from ?_))
    · replace h := zy_ifp h b11
      exact zy_sub (show zy_le [some (.ref (43 + 3)), some (.int p7.1), some (.int p8.1), none] [some (.ref (43 + 3)), some (.int p7.1), some (.int p8.1), none] from ⟨rfl, ⟨rfl, ⟨rfl, trivial⟩⟩⟩) (zyC194_37 hd hg192 hg193 hg194 hg195 hg196 hg197 h)
    · replace h := zy_ifn h b11
      refine zy_2 rfl rfl (show zyR _ _ _ _ [some (.ref (43 + 3)), some (.int p7.1), some (.int p8.1), none] [.int p8.1] _ _ from ?_)
      refine zy_3 rfl rfl (show zyR _ _ _ _ [some (.ref (43 + 3)), some (.int p7.1), some (.int p8.1), none] [.int (61 : Int32), .int p8.1] _ _ from ?_)
      refine zy_25_0 rfl (fun b10 => (show zyR _ _ _ _ [some (.ref (43 + 3)), some (.int p7.1), some (.int p8.1), none] [] _ _ from ?_)) (fun b10 => (show zyR _ _ _ _ [some (.ref (43 + 3)), some (.int p7.1), some (.int p8.1), none] [] _ _ from ?_))
      · replace h := zy_ifp h b10
        exact zy_sub (show zy_le [some (.ref (43 + 3)), some (.int p7.1), some (.int p8.1), none] [some (.ref (43 + 3)), some (.int p7.1), some (.int p8.1), none] from ⟨rfl, ⟨rfl, ⟨rfl, trivial⟩⟩⟩) (zyC194_37 hd hg192 hg193 hg194 hg195 hg196 hg197 h)
      · replace h := zy_ifn h b10
        refine zy_2 rfl rfl (show zyR _ _ _ _ [some (.ref (43 + 3)), some (.int p7.1), some (.int p8.1), none] [.int p8.1] _ _ from ?_)
        refine zy_3 rfl rfl (show zyR _ _ _ _ [some (.ref (43 + 3)), some (.int p7.1), some (.int p8.1), none] [.int (62 : Int32), .int p8.1] _ _ from ?_)
        refine zy_25_0 rfl (fun b9 => (show zyR _ _ _ _ [some (.ref (43 + 3)), some (.int p7.1), some (.int p8.1), none] [] _ _ from ?_)) (fun b9 => (show zyR _ _ _ _ [some (.ref (43 + 3)), some (.int p7.1), some (.int p8.1), none] [] _ _ from ?_))
        · replace h := zy_ifp h b9
          exact zy_sub (show zy_le [some (.ref (43 + 3)), some (.int p7.1), some (.int p8.1), none] [some (.ref (43 + 3)), some (.int p7.1), some (.int p8.1), none] from ⟨rfl, ⟨rfl, ⟨rfl, trivial⟩⟩⟩) (zyC194_37 hd hg192 hg193 hg194 hg195 hg196 hg197 h)
        · replace h := zy_ifn h b9
          refine zy_2 rfl rfl (show zyR _ _ _ _ [some (.ref (43 + 3)), some (.int p7.1), some (.int p8.1), none] [.int p7.1] _ _ from ?_)
          obtain ⟨rfl, rfl⟩ := zy_pi h
          exact zy_4 rfl ⟨rfl, rfl⟩
