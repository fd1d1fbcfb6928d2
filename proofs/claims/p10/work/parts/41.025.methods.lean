/-! PART 41.25: methods as functions. Made by wip/v4/dcp.py. -/
/-! NineOpinionsModel.sums()I, over what it calls -/
noncomputable def zyF195_73 (g192 : zy_S → Option (Int32 × zy_S)) (g193 : zy_S → Option (Int32 × zy_S)) (g194 : zy_S → Option (Int32 × zy_S)) (g195 : zy_S → Option (Int32 × zy_S)) (g196 : zy_S → Option (Int32 × zy_S)) (g197 : zy_S → Option (Int32 × zy_S)) (k5 : Int32 → zy_S → Option (Int32 × zy_S)) (y0 : Int32) (s : zy_S) : Option (Int32 × zy_S) :=
k5 y0 s
theorem zyC195_73 {X : zx_X} {d : Nat} {g192 : zy_S → Option (Int32 × zy_S)} {g193 : zy_S → Option (Int32 × zy_S)} {g194 : zy_S → Option (Int32 × zy_S)} {g195 : zy_S → Option (Int32 × zy_S)} {g196 : zy_S → Option (Int32 × zy_S)} {g197 : zy_S → Option (Int32 × zy_S)} {k5 : Int32 → zy_S → Option (Int32 × zy_S)} (hd : 1 ≤ d) (hg192 : ∀  (s : zy_S) (r : Int32) (s' : zy_S), g192 s = some (r, s') → zyR X d 192 0 [some (.ref (43 + 3)), none, none] [] s (zyE (some (.int r)) s')) (hg193 : ∀  (s : zy_S) (r : Int32) (s' : zy_S), g193 s = some (r, s') → zyR X d 193 0 [some (.ref (43 + 3)), none, none] [] s (zyE (some (.int r)) s')) (hg194 : ∀  (s : zy_S) (r : Int32) (s' : zy_S), g194 s = some (r, s') → zyR X d 194 0 [some (.ref (43 + 3)), none, none, none] [] s (zyE (some (.int r)) s')) (hg195 : ∀  (s : zy_S) (r : Int32) (s' : zy_S), g195 s = some (r, s') → zyR X d 195 0 [some (.ref (43 + 3)), none, none, none] [] s (zyE (some (.int r)) s')) (hg196 : ∀  (s : zy_S) (r : Int32) (s' : zy_S), g196 s = some (r, s') → zyR X d 196 0 [some (.ref (43 + 3)), none, none, none] [] s (zyE (some (.int r)) s')) (hg197 : ∀  (s : zy_S) (r : Int32) (s' : zy_S), g197 s = some (r, s') → zyR X d 197 0 [some (.ref (43 + 3)), none, none, none, none] [] s (zyE (some (.int r)) s')) (hk5 : ∀ (x1 : Int32) (s : zy_S) (r : Int32) (s' : zy_S), k5 x1 s = some (r, s') → zyR X (d + 1) 195 5 [some (.ref (43 + 3)), some (.int x1), none, none] [] s (zyE (some (.int r)) s')) {y0 : Int32} {s : zy_S} {r : Int32} {s' : zy_S}  (h : zyF195_73 g192 g193 g194 g195 g196 g197 k5 y0 s = some (r, s')) : zyR X (d + 1) 195 73 [some (.ref (43 + 3)), none, none, none] [.int y0] s (zyE (some (.int r)) s') := by
  unfold zyF195_73 at h
  refine zy_23 rfl rfl (show zyR _ _ _ _ [some (.ref (43 + 3)), some (.int y0), none, none] [] _ _ from ?_)
  refine zy_6 rfl (show zyR _ _ _ _ [some (.ref (43 + 3)), some (.int y0), none, none] [] _ _ from ?_)
  exact zy_sub (show zy_le [some (.ref (43 + 3)), some (.int y0), none, none] [some (.ref (43 + 3)), some (.int y0), none, none] from ⟨rfl, ⟨rfl, trivial⟩⟩) (hk5 y0 s _ _ h)
noncomputable def zyF195_44 (g192 : zy_S → Option (Int32 × zy_S)) (g193 : zy_S → Option (Int32 × zy_S)) (g194 : zy_S → Option (Int32 × zy_S)) (g195 : zy_S → Option (Int32 × zy_S)) (g196 : zy_S → Option (Int32 × zy_S)) (g197 : zy_S → Option (Int32 × zy_S)) (k5 : Int32 → zy_S → Option (Int32 × zy_S)) (x1 : Int32) (y0 : Int32) (s : zy_S) : Option (Int32 × zy_S) :=
(g196 (zy_up s 43 13 ((s.1 43 13) + (1 : Int32)))).bind fun p1 =>
if y0 = 0 then
zyF195_73 g192 g193 g194 g195 g196 g197 k5 (x1 - p1.1) p1.2
else
zyF195_73 g192 g193 g194 g195 g196 g197 k5 (x1 + p1.1) p1.2
theorem zyC195_44 {X : zx_X} {d : Nat} {g192 : zy_S → Option (Int32 × zy_S)} {g193 : zy_S → Option (Int32 × zy_S)} {g194 : zy_S → Option (Int32 × zy_S)} {g195 : zy_S → Option (Int32 × zy_S)} {g196 : zy_S → Option (Int32 × zy_S)} {g197 : zy_S → Option (Int32 × zy_S)} {k5 : Int32 → zy_S → Option (Int32 × zy_S)} (hd : 1 ≤ d) (hg192 : ∀  (s : zy_S) (r : Int32) (s' : zy_S), g192 s = some (r, s') → zyR X d 192 0 [some (.ref (43 + 3)), none, none] [] s (zyE (some (.int r)) s')) (hg193 : ∀  (s : zy_S) (r : Int32) (s' : zy_S), g193 s = some (r, s') → zyR X d 193 0 [some (.ref (43 + 3)), none, none] [] s (zyE (some (.int r)) s')) (hg194 : ∀  (s : zy_S) (r : Int32) (s' : zy_S), g194 s = some (r, s') → zyR X d 194 0 [some (.ref (43 + 3)), none, none, none] [] s (zyE (some (.int r)) s')) (hg195 : ∀  (s : zy_S) (r : Int32) (s' : zy_S), g195 s = some (r, s') → zyR X d 195 0 [some (.ref (43 + 3)), none, none, none] [] s (zyE (some (.int r)) s')) (hg196 : ∀  (s : zy_S) (r : Int32) (s' : zy_S), g196 s = some (r, s') → zyR X d 196 0 [some (.ref (43 + 3)), none, none, none] [] s (zyE (some (.int r)) s')) (hg197 : ∀  (s : zy_S) (r : Int32) (s' : zy_S), g197 s = some (r, s') → zyR X d 197 0 [some (.ref (43 + 3)), none, none, none, none] [] s (zyE (some (.int r)) s')) (hk5 : ∀ (x1 : Int32) (s : zy_S) (r : Int32) (s' : zy_S), k5 x1 s = some (r, s') → zyR X (d + 1) 195 5 [some (.ref (43 + 3)), some (.int x1), none, none] [] s (zyE (some (.int r)) s')) {x1 : Int32} {y0 : Int32} {s : zy_S} {r : Int32} {s' : zy_S}  (h : zyF195_44 g192 g193 g194 g195 g196 g197 k5 x1 y0 s = some (r, s')) : zyR X (d + 1) 195 44 [some (.ref (43 + 3)), some (.int x1), none, none] [.int y0] s (zyE (some (.int r)) s') := by
  unfold zyF195_44 at h
  refine zy_23 rfl rfl (show zyR _ _ _ _ [some (.ref (43 + 3)), some (.int x1), some (.int y0), none] [] _ _ from ?_)
  refine zy_0 rfl rfl (show zyR _ _ _ _ [some (.ref (43 + 3)), some (.int x1), some (.int y0), none] [.ref (43 + 3)] _ _ from ?_)
  refine zy_33 rfl rfl (show zyR _ _ _ _ [some (.ref (43 + 3)), some (.int x1), some (.int y0), none] [.ref (43 + 3), .ref (43 + 3)] _ _ from ?_)
  refine zy_1 (c := 43) rfl rfl rfl (show zyR _ _ _ _ [some (.ref (43 + 3)), some (.int x1), some (.int y0), none] [.int (s.1 43 13), .ref (43 + 3)] _ _ from ?_)
  refine zy_3 rfl rfl (show zyR _ _ _ _ [some (.ref (43 + 3)), some (.int x1), some (.int y0), none] [.int (1 : Int32), .int (s.1 43 13), .ref (43 + 3)] _ _ from ?_)
  refine zy_10 rfl (show zyR _ _ _ _ [some (.ref (43 + 3)), some (.int x1), some (.int y0), none] [.int ((s.1 43 13) + (1 : Int32)), .ref (43 + 3)] _ _ from ?_)
  refine zy_52 (c := 43) rfl rfl rfl (show zyR _ _ _ _ [some (.ref (43 + 3)), some (.int x1), some (.int y0), none] [] _ _ from ?_)
  refine zy_0 rfl rfl (show zyR _ _ _ _ [some (.ref (43 + 3)), some (.int x1), some (.int y0), none] [.ref (43 + 3)] _ _ from ?_)
  obtain ⟨p1, hp1, h⟩ := zy_bind h
  refine zy_5 (c := 43) (as := []) (rest := []) (L := [some (.ref (43 + 3)), none, none, none]) (d' := d) rfl rfl rfl (Nat.le_of_ble_eq_true rfl) (by omega) rfl (Nat.le_of_ble_eq_true rfl) rfl rfl (hg196 (zy_up s 43 13 ((s.1 43 13) + (1 : Int32))) _ _ hp1) ?_
  show zyR _ _ _ _ [some (.ref (43 + 3)), some (.int x1), some (.int y0), none] [.int p1.1] _ _
  refine zy_23 rfl rfl (show zyR _ _ _ _ [some (.ref (43 + 3)), some (.int x1), some (.int y0), some (.int p1.1)] [] _ _ from ?_)
  refine zy_2 rfl rfl (show zyR _ _ _ _ [some (.ref (43 + 3)), some (.int x1), some (.int y0), some (.int p1.1)] [.int y0] _ _ from ?_)
  refine zy_24_0 rfl (fun b2 => (show zyR _ _ _ _ [some (.ref (43 + 3)), some (.int x1), some (.int y0), some (.int p1.1)] [] _ _ from ?_)) (fun b2 => (show zyR _ _ _ _ [some (.ref (43 + 3)), some (.int x1), some (.int y0), some (.int p1.1)] [] _ _ from ?_))
  · replace h := zy_ifp h b2
    refine zy_2 rfl rfl (show zyR _ _ _ _ [some (.ref (43 + 3)), some (.int x1), some (.int y0), some (.int p1.1)] [.int x1] _ _ from ?_)
    refine zy_2 rfl rfl (show zyR _ _ _ _ [some (.ref (43 + 3)), some (.int x1), some (.int y0), some (.int p1.1)] [.int p1.1, .int x1] _ _ from ?_)
    refine zy_11 rfl (show zyR _ _ _ _ [some (.ref (43 + 3)), some (.int x1), some (.int y0), some (.int p1.1)] [.int (x1 - p1.1)] _ _ from ?_)
    exact zy_sub (show zy_le [some (.ref (43 + 3)), none, none, none] [some (.ref (43 + 3)), some (.int x1), some (.int y0), some (.int p1.1)] from ⟨rfl, trivial⟩) (zyC195_73 hd hg192 hg193 hg194 hg195 hg196 hg197 hk5 h)
  · replace h := zy_ifn h b2
    refine zy_2 rfl rfl (show zyR _ _ _ _ [some (.ref (43 + 3)), some (.int x1), some (.int y0), some (.int p1.1)] [.int x1] _ _ from ?_)
    refine zy_2 rfl rfl (show zyR _ _ _ _ [some (.ref (43 + 3)), some (.int x1), some (.int y0), some (.int p1.1)] [.int p1.1, .int x1] _ _ from ?_)
    refine zy_10 rfl (show zyR _ _ _ _ [some (.ref (43 + 3)), some (.int x1), some (.int y0), some (.int p1.1)] [.int (x1 + p1.1)] _ _ from ?_)
    refine zy_6 rfl (show zyR _ _ _ _ [some (.ref (43 + 3)), some (.int x1), some (.int y0), some (.int p1.1)] [.int (x1 + p1.1)] _ _ from ?_)
    exact zy_sub (show zy_le [some (.ref (43 + 3)), none, none, none] [some (.ref (43 + 3)), some (.int x1), some (.int y0), some (.int p1.1)] from ⟨rfl, trivial⟩) (zyC195_73 hd hg192 hg193 hg194 hg195 hg196 hg197 hk5 h)
noncomputable def zyF195_30 (g192 : zy_S → Option (Int32 × zy_S)) (g193 : zy_S → Option (Int32 × zy_S)) (g194 : zy_S → Option (Int32 × zy_S)) (g195 : zy_S → Option (Int32 × zy_S)) (g196 : zy_S → Option (Int32 × zy_S)) (g197 : zy_S → Option (Int32 × zy_S)) (k5 : Int32 → zy_S → Option (Int32 × zy_S)) (x1 : Int32) (s : zy_S) : Option (Int32 × zy_S) :=
(zyF198 s).bind fun p3 =>
if p3.1 ≠ (43 : Int32) then
zyF195_44 g192 g193 g194 g195 g196 g197 k5 x1 (0 : Int32) p3.2
else
zyF195_44 g192 g193 g194 g195 g196 g197 k5 x1 (1 : Int32) p3.2
theorem zyC195_30 {X : zx_X} {d : Nat} {g192 : zy_S → Option (Int32 × zy_S)} {g193 : zy_S → Option (Int32 × zy_S)} {g194 : zy_S → Option (Int32 × zy_S)} {g195 : zy_S → Option (Int32 × zy_S)} {g196 : zy_S → Option (Int32 × zy_S)} {g197 : zy_S → Option (Int32 × zy_S)} {k5 : Int32 → zy_S → Option (Int32 × zy_S)} (hd : 1 ≤ d) (hg192 : ∀  (s : zy_S) (r : Int32) (s' : zy_S), g192 s = some (r, s') → zyR X d 192 0 [some (.ref (43 + 3)), none, none] [] s (zyE (some (.int r)) s')) (hg193 : ∀  (s : zy_S) (r : Int32) (s' : zy_S), g193 s = some (r, s') → zyR X d 193 0 [some (.ref (43 + 3)), none, none] [] s (zyE (some (.int r)) s')) (hg194 : ∀  (s : zy_S) (r : Int32) (s' : zy_S), g194 s = some (r, s') → zyR X d 194 0 [some (.ref (43 + 3)), none, none, none] [] s (zyE (some (.int r)) s')) (hg195 : ∀  (s : zy_S) (r : Int32) (s' : zy_S), g195 s = some (r, s') → zyR X d 195 0 [some (.ref (43 + 3)), none, none, none] [] s (zyE (some (.int r)) s')) (hg196 : ∀  (s : zy_S) (r : Int32) (s' : zy_S), g196 s = some (r, s') → zyR X d 196 0 [some (.ref (43 + 3)), none, none, none] [] s (zyE (some (.int r)) s')) (hg197 : ∀  (s : zy_S) (r : Int32) (s' : zy_S), g197 s = some (r, s') → zyR X d 197 0 [some (.ref (43 + 3)), none, none, none, none] [] s (zyE (some (.int r)) s')) (hk5 : ∀ (x1 : Int32) (s : zy_S) (r : Int32) (s' : zy_S), k5 x1 s = some (r, s') → zyR X (d + 1) 195 5 [some (.ref (43 + 3)), some (.int x1), none, none] [] s (zyE (some (.int r)) s')) {x1 : Int32} {s : zy_S} {r : Int32} {s' : zy_S}  (h : zyF195_30 g192 g193 g194 g195 g196 g197 k5 x1 s = some (r, s')) : zyR X (d + 1) 195 30 [some (.ref (43 + 3)), some (.int x1), none, none] [] s (zyE (some (.int r)) s') := by
  unfold zyF195_30 at h
  refine zy_0 rfl rfl (show zyR _ _ _ _ [some (.ref (43 + 3)), some (.int x1), none, none] [.ref (43 + 3)] _ _ from ?_)
  obtain ⟨p3, hp3, h⟩ := zy_bind h
  refine zy_5 (c := 43) (as := []) (rest := []) (L := [some (.ref (43 + 3))]) (d' := 1) rfl rfl rfl (Nat.le_of_ble_eq_true rfl) (by omega) rfl (Nat.le_of_ble_eq_true rfl) rfl rfl (zyC198 hp3) ?_
  show zyR _ _ _ _ [some (.ref (43 + 3)), some (.int x1), none, none] [.int p3.1] _ _
  refine zy_3 rfl rfl (show zyR _ _ _ _ [some (.ref (43 + 3)), some (.int x1), none, none] [.int (43 : Int32), .int p3.1] _ _ from ?_)
  refine zy_25_1 rfl (fun b4 => (show zyR _ _ _ _ [some (.ref (43 + 3)), some (.int x1), none, none] [] _ _ from ?_)) (fun b4 => (show zyR _ _ _ _ [some (.ref (43 + 3)), some (.int x1), none, none] [] _ _ from ?_))
  · replace h := zy_ifp h b4
    refine zy_3 rfl rfl (show zyR _ _ _ _ [some (.ref (43 + 3)), some (.int x1), none, none] [.int (0 : Int32)] _ _ from ?_)
    exact zy_sub (show zy_le [some (.ref (43 + 3)), some (.int x1), none, none] [some (.ref (43 + 3)), some (.int x1), none, none] from ⟨rfl, ⟨rfl, trivial⟩⟩) (zyC195_44 hd hg192 hg193 hg194 hg195 hg196 hg197 hk5 h)
  · replace h := zy_ifn h b4
    refine zy_3 rfl rfl (show zyR _ _ _ _ [some (.ref (43 + 3)), some (.int x1), none, none] [.int (1 : Int32)] _ _ from ?_)
    refine zy_6 rfl (show zyR _ _ _ _ [some (.ref (43 + 3)), some (.int x1), none, none] [.int (1 : Int32)] _ _ from ?_)
    exact zy_sub (show zy_le [some (.ref (43 + 3)), some (.int x1), none, none] [some (.ref (43 + 3)), some (.int x1), none, none] from ⟨rfl, ⟨rfl, trivial⟩⟩) (zyC195_44 hd hg192 hg193 hg194 hg195 hg196 hg197 hk5 h)
noncomputable def zyF195_5b (g192 : zy_S → Option (Int32 × zy_S)) (g193 : zy_S → Option (Int32 × zy_S)) (g194 : zy_S → Option (Int32 × zy_S)) (g195 : zy_S → Option (Int32 × zy_S)) (g196 : zy_S → Option (Int32 × zy_S)) (g197 : zy_S → Option (Int32 × zy_S)) (k5 : Int32 → zy_S → Option (Int32 × zy_S)) (x1 : Int32) (s : zy_S) : Option (Int32 × zy_S) :=
if 0 ≤ (s.1 43 15) then
some (x1, s)
else
(zyF198 s).bind fun p5 =>
if p5.1 = (43 : Int32) then
zyF195_30 g192 g193 g194 g195 g196 g197 k5 x1 p5.2
else
(zyF198 p5.2).bind fun p6 =>
if p6.1 ≠ (45 : Int32) then
some (x1, p6.2)
else
zyF195_30 g192 g193 g194 g195 g196 g197 k5 x1 p6.2
theorem zyC195_5b {X : zx_X} {d : Nat} {g192 : zy_S → Option (Int32 × zy_S)} {g193 : zy_S → Option (Int32 × zy_S)} {g194 : zy_S → Option (Int32 × zy_S)} {g195 : zy_S → Option (Int32 × zy_S)} {g196 : zy_S → Option (Int32 × zy_S)} {g197 : zy_S → Option (Int32 × zy_S)} {k5 : Int32 → zy_S → Option (Int32 × zy_S)} (hd : 1 ≤ d) (hg192 : ∀  (s : zy_S) (r : Int32) (s' : zy_S), g192 s = some (r, s') → zyR X d 192 0 [some (.ref (43 + 3)), none, none] [] s (zyE (some (.int r)) s')) (hg193 : ∀  (s : zy_S) (r : Int32) (s' : zy_S), g193 s = some (r, s') → zyR X d 193 0 [some (.ref (43 + 3)), none, none] [] s (zyE (some (.int r)) s')) (hg194 : ∀  (s : zy_S) (r : Int32) (s' : zy_S), g194 s = some (r, s') → zyR X d 194 0 [some (.ref (43 + 3)), none, none, none] [] s (zyE (some (.int r)) s')) (hg195 : ∀  (s : zy_S) (r : Int32) (s' : zy_S), g195 s = some (r, s') → zyR X d 195 0 [some (.ref (43 + 3)), none, none, none] [] s (zyE (some (.int r)) s')) (hg196 : ∀  (s : zy_S) (r : Int32) (s' : zy_S), g196 s = some (r, s') → zyR X d 196 0 [some (.ref (43 + 3)), none, none, none] [] s (zyE (some (.int r)) s')) (hg197 : ∀  (s : zy_S) (r : Int32) (s' : zy_S), g197 s = some (r, s') → zyR X d 197 0 [some (.ref (43 + 3)), none, none, none, none] [] s (zyE (some (.int r)) s')) (hk5 : ∀ (x1 : Int32) (s : zy_S) (r : Int32) (s' : zy_S), k5 x1 s = some (r, s') → zyR X (d + 1) 195 5 [some (.ref (43 + 3)), some (.int x1), none, none] [] s (zyE (some (.int r)) s')) {x1 : Int32} {s : zy_S} {r : Int32} {s' : zy_S}  (h : zyF195_5b g192 g193 g194 g195 g196 g197 k5 x1 s = some (r, s')) : zyR X (d + 1) 195 5 [some (.ref (43 + 3)), some (.int x1), none, none] [] s (zyE (some (.int r)) s') := by
  unfold zyF195_5b at h
  refine zy_0 rfl rfl (show zyR _ _ _ _ [some (.ref (43 + 3)), some (.int x1), none, none] [.ref (43 + 3)] _ _ from ?_)
  refine zy_1 (c := 43) rfl rfl rfl (show zyR _ _ _ _ [some (.ref (43 + 3)), some (.int x1), none, none] [.int (s.1 43 15)] _ _ from ?_)
  refine zy_24_3 rfl (fun b9 => (show zyR _ _ _ _ [some (.ref (43 + 3)), some (.int x1), none, none] [] _ _ from ?_)) (fun b9 => (show zyR _ _ _ _ [some (.ref (43 + 3)), some (.int x1), none, none] [] _ _ from ?_))
  · replace h := zy_ifp h b9
    refine zy_2 rfl rfl (show zyR _ _ _ _ [some (.ref (43 + 3)), some (.int x1), none, none] [.int x1] _ _ from ?_)
    obtain ⟨rfl, rfl⟩ := zy_pi h
    exact zy_4 rfl ⟨rfl, rfl⟩
  · replace h := zy_ifn h b9
    refine zy_0 rfl rfl (show zyR _ _ _ _ [some (.ref (43 + 3)), some (.int x1), none, none] [.ref (43 + 3)] _ _ from ?_)
    obtain ⟨p5, hp5, h⟩ := zy_bind h
    refine zy_5 (c := 43) (as := []) (rest := []) (L := [some (.ref (43 + 3))]) (d' := 1) rfl rfl rfl (Nat.le_of_ble_eq_true rfl) (by omega) rfl (Nat.le_of_ble_eq_true rfl) rfl rfl (zyC198 hp5) ?_
    show zyR _ _ _ _ [some (.ref (43 + 3)), some (.int x1), none, none] [.int p5.1] _ _
    refine zy_3 rfl rfl (show zyR _ _ _ _ [some (.ref (43 + 3)), some (.int x1), none, none] [.int (43 : Int32), .int p5.1] _ _ from ?_)
    refine zy_25_0 rfl (fun b8 => (show zyR _ _ _ _ [some (.ref (43 + 3)), some (.int x1), none, none] [] _ _ from ?_)) (fun b8 => (show zyR _ _ _ _ [some (.ref (43 + 3)), some (.int x1), none, none] [] _ _ from ?_))
    · replace h := zy_ifp h b8
      exact zy_sub (show zy_le [some (.ref (43 + 3)), some (.int x1), none, none] [some (.ref (43 + 3)), some (.int x1), none, none] from ⟨rfl, ⟨rfl, trivial⟩⟩) (zyC195_30 hd hg192 hg193 hg194 hg195 hg196 hg197 hk5 h)
    · replace h := zy_ifn h b8
      refine zy_0 rfl rfl (show zyR _ _ _ _ [some (.ref (43 + 3)), some (.int x1), none, none] [.ref (43 + 3)] _ _ from ?_)
      obtain ⟨p6, hp6, h⟩ := zy_bind h
      refine zy_5 (c := 43) (as := []) (rest := []) (L := [some (.ref (43 + 3))]) (d' := 1) rfl rfl rfl (Nat.le_of_ble_eq_true rfl) (by omega) rfl (Nat.le_of_ble_eq_true rfl) rfl rfl (zyC198 hp6) ?_
      show zyR _ _ _ _ [some (.ref (43 + 3)), some (.int x1), none, none] [.int p6.1] _ _
      refine zy_3 rfl rfl (show zyR _ _ _ _ [some (.ref (43 + 3)), some (.int x1), none, none] [.int (45 : Int32), .int p6.1] _ _ from ?_)
      refine zy_25_1 rfl (fun b7 => (show zyR _ _ _ _ [some (.ref (43 + 3)), some (.int x1), none, none] [] _ _ from ?_)) (fun b7 => (show zyR _ _ _ _ [some (.ref (43 + 3)), some (.int x1), none, none] [] _ _ from ?_))
      · replace h := zy_ifp h b7
        refine zy_2 rfl rfl (show zyR _ _ _ _ [some (.ref (43 + 3)), some (.int x1), none, none] [.int x1] _ _ from ?_)
        obtain ⟨rfl, rfl⟩ := zy_pi h
        exact zy_4 rfl ⟨rfl, rfl⟩
      · replace h := zy_ifn h b7
        exact zy_sub (show zy_le [some (.ref (43 + 3)), some (.int x1), none, none] [some (.ref (43 + 3)), some (.int x1), none, none] from ⟨rfl, ⟨rfl, trivial⟩⟩) (zyC195_30 hd hg192 hg193 hg194 hg195 hg196 hg197 hk5 h)
noncomputable def zyF195_5 (g192 : zy_S → Option (Int32 × zy_S)) (g193 : zy_S → Option (Int32 × zy_S)) (g194 : zy_S → Option (Int32 × zy_S)) (g195 : zy_S → Option (Int32 × zy_S)) (g196 : zy_S → Option (Int32 × zy_S)) (g197 : zy_S → Option (Int32 × zy_S))  (n : Nat) : Int32 → zy_S → Option (Int32 × zy_S) := Nat.rec (fun _ _ => none) (fun _ k5 => zyF195_5b g192 g193 g194 g195 g196 g197 k5) n
theorem zyC195_5 {X : zx_X} {d : Nat} {g192 : zy_S → Option (Int32 × zy_S)} {g193 : zy_S → Option (Int32 × zy_S)} {g194 : zy_S → Option (Int32 × zy_S)} {g195 : zy_S → Option (Int32 × zy_S)} {g196 : zy_S → Option (Int32 × zy_S)} {g197 : zy_S → Option (Int32 × zy_S)}  (hd : 1 ≤ d) (hg192 : ∀  (s : zy_S) (r : Int32) (s' : zy_S), g192 s = some (r, s') → zyR X d 192 0 [some (.ref (43 + 3)), none, none] [] s (zyE (some (.int r)) s')) (hg193 : ∀  (s : zy_S) (r : Int32) (s' : zy_S), g193 s = some (r, s') → zyR X d 193 0 [some (.ref (43 + 3)), none, none] [] s (zyE (some (.int r)) s')) (hg194 : ∀  (s : zy_S) (r : Int32) (s' : zy_S), g194 s = some (r, s') → zyR X d 194 0 [some (.ref (43 + 3)), none, none, none] [] s (zyE (some (.int r)) s')) (hg195 : ∀  (s : zy_S) (r : Int32) (s' : zy_S), g195 s = some (r, s') → zyR X d 195 0 [some (.ref (43 + 3)), none, none, none] [] s (zyE (some (.int r)) s')) (hg196 : ∀  (s : zy_S) (r : Int32) (s' : zy_S), g196 s = some (r, s') → zyR X d 196 0 [some (.ref (43 + 3)), none, none, none] [] s (zyE (some (.int r)) s')) (hg197 : ∀  (s : zy_S) (r : Int32) (s' : zy_S), g197 s = some (r, s') → zyR X d 197 0 [some (.ref (43 + 3)), none, none, none, none] [] s (zyE (some (.int r)) s'))  : ∀ (n : Nat) (x1 : Int32) (s : zy_S) (r : Int32) (s' : zy_S), zyF195_5 g192 g193 g194 g195 g196 g197 n x1 s = some (r, s') → zyR X (d + 1) 195 5 [some (.ref (43 + 3)), some (.int x1), none, none] [] s (zyE (some (.int r)) s')
  | 0, _ => by
    intro s r s'  h
    have h : (none : Option (Int32 × zy_S)) = some (r, s') := h
    cases h
  | n + 1, x1 => by
    intro s r s'  h
    exact zyC195_5b hd hg192 hg193 hg194 hg195 hg196 hg197 (k5 := zyF195_5 g192 g193 g194 g195 g196 g197 n) (fun x1 s r s'  h => zyC195_5 hd hg192 hg193 hg194 hg195 hg196 hg197 n x1 s r s'  h) h
noncomputable def zyF195_0 (g192 : zy_S → Option (Int32 × zy_S)) (g193 : zy_S → Option (Int32 × zy_S)) (g194 : zy_S → Option (Int32 × zy_S)) (g195 : zy_S → Option (Int32 × zy_S)) (g196 : zy_S → Option (Int32 × zy_S)) (g197 : zy_S → Option (Int32 × zy_S))   (s : zy_S) : Option (Int32 × zy_S) :=
(g196 s).bind fun p10 =>
zyF195_5 g192 g193 g194 g195 g196 g197 zy_fu p10.1 p10.2
theorem zyC195_0 {X : zx_X} {d : Nat} {g192 : zy_S → Option (Int32 × zy_S)} {g193 : zy_S → Option (Int32 × zy_S)} {g194 : zy_S → Option (Int32 × zy_S)} {g195 : zy_S → Option (Int32 × zy_S)} {g196 : zy_S → Option (Int32 × zy_S)} {g197 : zy_S → Option (Int32 × zy_S)}  (hd : 1 ≤ d) (hg192 : ∀  (s : zy_S) (r : Int32) (s' : zy_S), g192 s = some (r, s') → zyR X d 192 0 [some (.ref (43 + 3)), none, none] [] s (zyE (some (.int r)) s')) (hg193 : ∀  (s : zy_S) (r : Int32) (s' : zy_S), g193 s = some (r, s') → zyR X d 193 0 [some (.ref (43 + 3)), none, none] [] s (zyE (some (.int r)) s')) (hg194 : ∀  (s : zy_S) (r : Int32) (s' : zy_S), g194 s = some (r, s') → zyR X d 194 0 [some (.ref (43 + 3)), none, none, none] [] s (zyE (some (.int r)) s')) (hg195 : ∀  (s : zy_S) (r : Int32) (s' : zy_S), g195 s = some (r, s') → zyR X d 195 0 [some (.ref (43 + 3)), none, none, none] [] s (zyE (some (.int r)) s')) (hg196 : ∀  (s : zy_S) (r : Int32) (s' : zy_S), g196 s = some (r, s') → zyR X d 196 0 [some (.ref (43 + 3)), none, none, none] [] s (zyE (some (.int r)) s')) (hg197 : ∀  (s : zy_S) (r : Int32) (s' : zy_S), g197 s = some (r, s') → zyR X d 197 0 [some (.ref (43 + 3)), none, none, none, none] [] s (zyE (some (.int r)) s'))   {s : zy_S} {r : Int32} {s' : zy_S}  (h : zyF195_0 g192 g193 g194 g195 g196 g197 s = some (r, s')) : zyR X (d + 1) 195 0 [some (.ref (43 + 3)), none, none, none] [] s (zyE (some (.int r)) s') := by
  unfold zyF195_0 at h
  refine zy_0 rfl rfl (show zyR _ _ _ _ [some (.ref (43 + 3)), none, none, none] [.ref (43 + 3)] _ _ from ?_)
  obtain ⟨p10, hp10, h⟩ := zy_bind h
  refine zy_5 (c := 43) (as := []) (rest := []) (L := [some (.ref (43 + 3)), none, none, none]) (d' := d) rfl rfl rfl (Nat.le_of_ble_eq_true rfl) (by omega) rfl (Nat.le_of_ble_eq_true rfl) rfl rfl (hg196 s _ _ hp10) ?_
  show zyR _ _ _ _ [some (.ref (43 + 3)), none, none, none] [.int p10.1] _ _
  refine zy_23 rfl rfl (show zyR _ _ _ _ [some (.ref (43 + 3)), some (.int p10.1), none, none] [] _ _ from ?_)
  exact zy_sub (show zy_le [some (.ref (43 + 3)), some (.int p10.1), none, none] [some (.ref (43 + 3)), some (.int p10.1), none, none] from ⟨rfl, ⟨rfl, trivial⟩⟩) (zyC195_5 hd hg192 hg193 hg194 hg195 hg196 hg197 zy_fu p10.1 p10.2 _ _ h)
/-! NineOpinionsModel.product()I, over what it calls -/
noncomputable def zyF196_85 (g192 : zy_S → Option (Int32 × zy_S)) (g193 : zy_S → Option (Int32 × zy_S)) (g194 : zy_S → Option (Int32 × zy_S)) (g195 : zy_S → Option (Int32 × zy_S)) (g196 : zy_S → Option (Int32 × zy_S)) (g197 : zy_S → Option (Int32 × zy_S)) (k10 : Int32 → Int32 → zy_S → Option (Int32 × zy_S)) (y0 : Int32) (s : zy_S) : Option (Int32 × zy_S) :=
(zyF198 s).bind fun p1 =>
k10 y0 p1.1 p1.2
theorem zyC196_85 {X : zx_X} {d : Nat} {g192 : zy_S → Option (Int32 × zy_S)} {g193 : zy_S → Option (Int32 × zy_S)} {g194 : zy_S → Option (Int32 × zy_S)} {g195 : zy_S → Option (Int32 × zy_S)} {g196 : zy_S → Option (Int32 × zy_S)} {g197 : zy_S → Option (Int32 × zy_S)} {k10 : Int32 → Int32 → zy_S → Option (Int32 × zy_S)} (hd : 1 ≤ d) (hg192 : ∀  (s : zy_S) (r : Int32) (s' : zy_S), g192 s = some (r, s') → zyR X d 192 0 [some (.ref (43 + 3)), none, none] [] s (zyE (some (.int r)) s')) (hg193 : ∀  (s : zy_S) (r : Int32) (s' : zy_S), g193 s = some (r, s') → zyR X d 193 0 [some (.ref (43 + 3)), none, none] [] s (zyE (some (.int r)) s')) (hg194 : ∀  (s : zy_S) (r : Int32) (s' : zy_S), g194 s = some (r, s') → zyR X d 194 0 [some (.ref (43 + 3)), none, none, none] [] s (zyE (some (.int r)) s')) (hg195 : ∀  (s : zy_S) (r : Int32) (s' : zy_S), g195 s = some (r, s') → zyR X d 195 0 [some (.ref (43 + 3)), none, none, none] [] s (zyE (some (.int r)) s')) (hg196 : ∀  (s : zy_S) (r : Int32) (s' : zy_S), g196 s = some (r, s') → zyR X d 196 0 [some (.ref (43 + 3)), none, none, none] [] s (zyE (some (.int r)) s')) (hg197 : ∀  (s : zy_S) (r : Int32) (s' : zy_S), g197 s = some (r, s') → zyR X d 197 0 [some (.ref (43 + 3)), none, none, none, none] [] s (zyE (some (.int r)) s')) (hk10 : ∀ (x1 : Int32) (x2 : Int32) (s : zy_S) (r : Int32) (s' : zy_S), k10 x1 x2 s = some (r, s') → zyR X (d + 1) 196 10 [some (.ref (43 + 3)), some (.int x1), some (.int x2), none] [] s (zyE (some (.int r)) s')) {y0 : Int32} {s : zy_S} {r : Int32} {s' : zy_S}  (h : zyF196_85 g192 g193 g194 g195 g196 g197 k10 y0 s = some (r, s')) : zyR X (d + 1) 196 85 [some (.ref (43 + 3)), none, none, none] [.int y0] s (zyE (some (.int r)) s') := by
  unfold zyF196_85 at h
  refine zy_23 rfl rfl (show zyR _ _ _ _ [some (.ref (43 + 3)), some (.int y0), none, none] [] _ _ from ?_)
  refine zy_0 rfl rfl (show zyR _ _ _ _ [some (.ref (43 + 3)), some (.int y0), none, none] [.ref (43 + 3)] _ _ from ?_)
  obtain ⟨p1, hp1, h⟩ := zy_bind h
  refine zy_5 (c := 43) (as := []) (rest := []) (L := [some (.ref (43 + 3))]) (d' := 1) rfl rfl rfl (Nat.le_of_ble_eq_true rfl) (by omega) rfl (Nat.le_of_ble_eq_true rfl) rfl rfl (zyC198 hp1) ?_
  show zyR _ _ _ _ [some (.ref (43 + 3)), some (.int y0), none, none] [.int p1.1] _ _
  refine zy_23 rfl rfl (show zyR _ _ _ _ [some (.ref (43 + 3)), some (.int y0), some (.int p1.1), none] [] _ _ from ?_)
  refine zy_6 rfl (show zyR _ _ _ _ [some (.ref (43 + 3)), some (.int y0), some (.int p1.1), none] [] _ _ from ?_)
  exact zy_sub (show zy_le [some (.ref (43 + 3)), some (.int y0), some (.int p1.1), none] [some (.ref (43 + 3)), some (.int y0), some (.int p1.1), none] from ⟨rfl, ⟨rfl, ⟨rfl, trivial⟩⟩⟩) (hk10 y0 p1.1 p1.2 _ _ h)
noncomputable def zyF196_35 (g192 : zy_S → Option (Int32 × zy_S)) (g193 : zy_S → Option (Int32 × zy_S)) (g194 : zy_S → Option (Int32 × zy_S)) (g195 : zy_S → Option (Int32 × zy_S)) (g196 : zy_S → Option (Int32 × zy_S)) (g197 : zy_S → Option (Int32 × zy_S)) (k10 : Int32 → Int32 → zy_S → Option (Int32 × zy_S)) (x1 : Int32) (x2 : Int32) (s : zy_S) : Option (Int32 × zy_S) :=
(g197 (zy_up s 43 13 ((s.1 43 13) + (1 : Int32)))).bind fun p2 =>
if x2 ≠ (42 : Int32) then
if p2.1 ≠ 0 then
if x2 ≠ (47 : Int32) then
if ¬ p2.1 = 0 then
zyF196_85 g192 g193 g194 g195 g196 g197 k10 (x1 - x1 / p2.1 * p2.1) p2.2
else none
else
if ¬ p2.1 = 0 then
zyF196_85 g192 g193 g194 g195 g196 g197 k10 (x1 / p2.1) p2.2
else none
else
zyF196_85 g192 g193 g194 g195 g196 g197 k10 (0 : Int32) p2.2
else
zyF196_85 g192 g193 g194 g195 g196 g197 k10 (x1 * p2.1) p2.2
theorem zyC196_35 {X : zx_X} {d : Nat} {g192 : zy_S → Option (Int32 × zy_S)} {g193 : zy_S → Option (Int32 × zy_S)} {g194 : zy_S → Option (Int32 × zy_S)} {g195 : zy_S → Option (Int32 × zy_S)} {g196 : zy_S → Option (Int32 × zy_S)} {g197 : zy_S → Option (Int32 × zy_S)} {k10 : Int32 → Int32 → zy_S → Option (Int32 × zy_S)} (hd : 1 ≤ d) (hg192 : ∀  (s : zy_S) (r : Int32) (s' : zy_S), g192 s = some (r, s') → zyR X d 192 0 [some (.ref (43 + 3)), none, none] [] s (zyE (some (.int r)) s')) (hg193 : ∀  (s : zy_S) (r : Int32) (s' : zy_S), g193 s = some (r, s') → zyR X d 193 0 [some (.ref (43 + 3)), none, none] [] s (zyE (some (.int r)) s')) (hg194 : ∀  (s : zy_S) (r : Int32) (s' : zy_S), g194 s = some (r, s') → zyR X d 194 0 [some (.ref (43 + 3)), none, none, none] [] s (zyE (some (.int r)) s')) (hg195 : ∀  (s : zy_S) (r : Int32) (s' : zy_S), g195 s = some (r, s') → zyR X d 195 0 [some (.ref (43 + 3)), none, none, none] [] s (zyE (some (.int r)) s')) (hg196 : ∀  (s : zy_S) (r : Int32) (s' : zy_S), g196 s = some (r, s') → zyR X d 196 0 [some (.ref (43 + 3)), none, none, none] [] s (zyE (some (.int r)) s')) (hg197 : ∀  (s : zy_S) (r : Int32) (s' : zy_S), g197 s = some (r, s') → zyR X d 197 0 [some (.ref (43 + 3)), none, none, none, none] [] s (zyE (some (.int r)) s')) (hk10 : ∀ (x1 : Int32) (x2 : Int32) (s : zy_S) (r : Int32) (s' : zy_S), k10 x1 x2 s = some (r, s') → zyR X (d + 1) 196 10 [some (.ref (43 + 3)), some (.int x1), some (.int x2), none] [] s (zyE (some (.int r)) s')) {x1 : Int32} {x2 : Int32} {s : zy_S} {r : Int32} {s' : zy_S}  (h : zyF196_35 g192 g193 g194 g195 g196 g197 k10 x1 x2 s = some (r, s')) : zyR X (d + 1) 196 35 [some (.ref (43 + 3)), some (.int x1), some (.int x2), none] [] s (zyE (some (.int r)) s') := by
  unfold zyF196_35 at h
  refine zy_0 rfl rfl (show zyR _ _ _ _ [some (.ref (43 + 3)), some (.int x1), some (.int x2), none] [.ref (43 + 3)] _ _ from ?_)
  refine zy_33 rfl rfl (show zyR _ _ _ _ [some (.ref (43 + 3)), some (.int x1), some (.int x2), none] [.ref (43 + 3), .ref (43 + 3)] _ _ from ?_)
  refine zy_1 (c := 43) rfl rfl rfl (show zyR _ _ _ _ [some (.ref (43 + 3)), some (.int x1), some (.int x2), none] [.int (s.1 43 13), .ref (43 + 3)] _ _ from ?_)
  refine zy_3 rfl rfl (show zyR _ _ _ _ [some (.ref (43 + 3)), some (.int x1), some (.int x2), none] [.int (1 : Int32), .int (s.1 43 13), .ref (43 + 3)] _ _ from ?_)
  refine zy_10 rfl (show zyR _ _ _ _ [some (.ref (43 + 3)), some (.int x1), some (.int x2), none] [.int ((s.1 43 13) + (1 : Int32)), .ref (43 + 3)] _ _ from ?_)
  refine zy_52 (c := 43) rfl rfl rfl (show zyR _ _ _ _ [some (.ref (43 + 3)), some (.int x1), some (.int x2), none] [] _ _ from ?_)
  refine zy_0 rfl rfl (show zyR _ _ _ _ [some (.ref (43 + 3)), some (.int x1), some (.int x2), none] [.ref (43 + 3)] _ _ from ?_)
  obtain ⟨p2, hp2, h⟩ := zy_bind h
  refine zy_5 (c := 43) (as := []) (rest := []) (L := [some (.ref (43 + 3)), none, none, none, none]) (d' := d) rfl rfl rfl (Nat.le_of_ble_eq_true rfl) (by omega) rfl (Nat.le_of_ble_eq_true rfl) rfl rfl (hg197 (zy_up s 43 13 ((s.1 43 13) + (1 : Int32))) _ _ hp2) ?_
  show zyR _ _ _ _ [some (.ref (43 + 3)), some (.int x1), some (.int x2), none] [.int p2.1] _ _
  refine zy_23 rfl rfl (show zyR _ _ _ _ [some (.ref (43 + 3)), some (.int x1), some (.int x2), some (.int p2.1)] [] _ _ from ?_)
  refine zy_2 rfl rfl (show zyR _ _ _ _ [some (.ref (43 + 3)), some (.int x1), some (.int x2), some (.int p2.1)] [.int x2] _ _ from ?_)
  refine zy_3 rfl rfl (show zyR _ _ _ _ [some (.ref (43 + 3)), some (.int x1), some (.int x2), some (.int p2.1)] [.int (42 : Int32), .int x2] _ _ from ?_)
  refine zy_25_1 rfl (fun b7 => (show zyR _ _ _ _ [some (.ref (43 + 3)), some (.int x1), some (.int x2), some (.int p2.1)] [] _ _ from ?_)) (fun b7 => (show zyR _ _ _ _ [some (.ref (43 + 3)), some (.int x1), some (.int x2), some (.int p2.1)] [] _ _ from ?_))
  · replace h := zy_ifp h b7
    refine zy_2 rfl rfl (show zyR _ _ _ _ [some (.ref (43 + 3)), some (.int x1), some (.int x2), some (.int p2.1)] [.int p2.1] _ _ from ?_)
    refine zy_24_1 rfl (fun b6 => (show zyR _ _ _ _ [some (.ref (43 + 3)), some (.int x1), some (.int x2), some (.int p2.1)] [] _ _ from ?_)) (fun b6 => (show zyR _ _ _ _ [some (.ref (43 + 3)), some (.int x1), some (.int x2), some (.int p2.1)] [] _ _ from ?_))
    · replace h := zy_ifp h b6
      refine zy_2 rfl rfl (show zyR _ _ _ _ [some (.ref (43 + 3)), some (.int x1), some (.int x2), some (.int p2.1)] [.int x2] _ _ from ?_)
      refine zy_3 rfl rfl (show zyR _ _ _ _ [some (.ref (43 + 3)), some (.int x1), some (.int x2), some (.int p2.1)] [.int (47 : Int32), .int x2] _ _ from ?_)
      refine zy_25_1 rfl (fun b5 => (show zyR _ _ _ _ [some (.ref (43 + 3)), some (.int x1), some (.int x2), some (.int p2.1)] [] _ _ from ?_)) (fun b5 => (show zyR _ _ _ _ [some (.ref (43 + 3)), some (.int x1), some (.int x2), some (.int p2.1)] [] _ _ from ?_))
      · replace h := zy_ifp h b5
        refine zy_2 rfl rfl (show zyR _ _ _ _ [some (.ref (43 + 3)), some (.int x1), some (.int x2), some (.int p2.1)] [.int x1] _ _ from ?_)
        refine zy_2 rfl rfl (show zyR _ _ _ _ [some (.ref (43 + 3)), some (.int x1), some (.int x2), some (.int p2.1)] [.int p2.1, .int x1] _ _ from ?_)
        obtain ⟨c3, h⟩ := zy_if h
        refine zy_20 rfl c3 (show zyR _ _ _ _ [some (.ref (43 + 3)), some (.int x1), some (.int x2), some (.int p2.1)] [.int (x1 - x1 / p2.1 * p2.1)] _ _ from ?_)
        exact zy_sub (show zy_le [some (.ref (43 + 3)), none, none, none] [some (.ref (43 + 3)), some (.int x1), some (.int x2), some (.int p2.1)] from ⟨rfl, trivial⟩) (zyC196_85 hd hg192 hg193 hg194 hg195 hg196 hg197 hk10 h)
      · replace h := zy_ifn h b5
        refine zy_2 rfl rfl (show zyR _ _ _ _ [some (.ref (43 + 3)), some (.int x1), some (.int x2), some (.int p2.1)] [.int x1] _ _ from ?_)
        refine zy_2 rfl rfl (show zyR _ _ _ _ [some (.ref (43 + 3)), some (.int x1), some (.int x2), some (.int p2.1)] [.int p2.1, .int x1] _ _ from ?_)
        obtain ⟨c4, h⟩ := zy_if h
        refine zy_19 rfl c4 (show zyR _ _ _ _ [some (.ref (43 + 3)), some (.int x1), some (.int x2), some (.int p2.1)] [.int (x1 / p2.1)] _ _ from ?_)
        refine zy_6 rfl (show zyR _ _ _ _ [some (.ref (43 + 3)), some (.int x1), some (.int x2), some (.int p2.1)] [.int (x1 / p2.1)] _ _ from ?_)
        exact zy_sub (show zy_le [some (.ref (43 + 3)), none, none, none] [some (.ref (43 + 3)), some (.int x1), some (.int x2), some (.int p2.1)] from ⟨rfl, trivial⟩) (zyC196_85 hd hg192 hg193 hg194 hg195 hg196 hg197 hk10 h)
    · replace h := zy_ifn h b6
      refine zy_3 rfl rfl (show zyR _ _ _ _ [some (.ref (43 + 3)), some (.int x1), some (.int x2), some (.int p2.1)] [.int (0 : Int32)] _ _ from ?_)
      refine zy_6 rfl (show zyR _ _ _ _ [some (.ref (43 + 3)), some (.int x1), some (.int x2), some (.int p2.1)] [.int (0 : Int32)] _ _ from ?_)
      exact zy_sub (show zy_le [some (.ref (43 + 3)), none, none, none] [some (.ref (43 + 3)), some (.int x1), some (.int x2), some (.int p2.1)] from ⟨rfl, trivial⟩) (zyC196_85 hd hg192 hg193 hg194 hg195 hg196 hg197 hk10 h)
  · replace h := zy_ifn h b7
    refine zy_2 rfl rfl (show zyR _ _ _ _ [some (.ref (43 + 3)), some (.int x1), some (.int x2), some (.int p2.1)] [.int x1] _ _ from ?_)
    refine zy_2 rfl rfl (show zyR _ _ _ _ [some (.ref (43 + 3)), some (.int x1), some (.int x2), some (.int p2.1)] [.int p2.1, .int x1] _ _ from ?_)
    refine zy_12 rfl (show zyR _ _ _ _ [some (.ref (43 + 3)), some (.int x1), some (.int x2), some (.int p2.1)] [.int (x1 * p2.1)] _ _ from ?_)
    refine zy_6 rfl (show zyR _ _ _ _ [some (.ref (43 + 3)), some (.int x1), some (.int x2), some (.int p2.1)] [.int (x1 * p2.1)] _ _ from ?_)
    exact zy_sub (show zy_le [some (.ref (43 + 3)), none, none, none] [some (.ref (43 + 3)), some (.int x1), some (.int x2), some (.int p2.1)] from ⟨rfl, trivial⟩) (zyC196_85 hd hg192 hg193 hg194 hg195 hg196 hg197 hk10 h)
noncomputable def zyF196_10b (g192 : zy_S → Option (Int32 × zy_S)) (g193 : zy_S → Option (Int32 × zy_S)) (g194 : zy_S → Option (Int32 × zy_S)) (g195 : zy_S → Option (Int32 × zy_S)) (g196 : zy_S → Option (Int32 × zy_S)) (g197 : zy_S → Option (Int32 × zy_S)) (k10 : Int32 → Int32 → zy_S → Option (Int32 × zy_S)) (x1 : Int32) (x2 : Int32) (s : zy_S) : Option (Int32 × zy_S) :=
if 0 ≤ (s.1 43 15) then
some (x1, s)
else
if x2 = (42 : Int32) then
zyF196_35 g192 g193 g194 g195 g196 g197 k10 x1 x2 s
else
if x2 = (47 : Int32) then
zyF196_35 g192 g193 g194 g195 g196 g197 k10 x1 x2 s
else
if x2 ≠ (37 : Int32) then
some (x1, s)
else
zyF196_35 g192 g193 g194 g195 g196 g197 k10 x1 x2 s
theorem zyC196_10b {X : zx_X} {d : Nat} {g192 : zy_S → Option (Int32 × zy_S)} {g193 : zy_S → Option (Int32 × zy_S)} {g194 : zy_S → Option (Int32 × zy_S)} {g195 : zy_S → Option (Int32 × zy_S)} {g196 : zy_S → Option (Int32 × zy_S)} {g197 : zy_S → Option (Int32 × zy_S)} {k10 : Int32 → Int32 → zy_S → Option (Int32 × zy_S)} (hd : 1 ≤ d) (hg192 : ∀  (s : zy_S) (r : Int32) (s' : zy_S), g192 s = some (r, s') → zyR X d 192 0 [some (.ref (43 + 3)), none, none] [] s (zyE (some (.int r)) s')) (hg193 : ∀  (s : zy_S) (r : Int32) (s' : zy_S), g193 s = some (r, s') → zyR X d 193 0 [some (.ref (43 + 3)), none, none] [] s (zyE (some (.int r)) s')) (hg194 : ∀  (s : zy_S) (r : Int32) (s' : zy_S), g194 s = some (r, s') → zyR X d 194 0 [some (.ref (43 + 3)), none, none, none] [] s (zyE (some (.int r)) s')) (hg195 : ∀  (s : zy_S) (r : Int32) (s' : zy_S), g195 s = some (r, s') → zyR X d 195 0 [some (.ref (43 + 3)), none, none, none] [] s (zyE (some (.int r)) s')) (hg196 : ∀  (s : zy_S) (r : Int32) (s' : zy_S), g196 s = some (r, s') → zyR X d 196 0 [some (.ref (43 + 3)), none, none, none] [] s (zyE (some (.int r)) s')) (hg197 : ∀  (s : zy_S) (r : Int32) (s' : zy_S), g197 s = some (r, s') → zyR X d 197 0 [some (.ref (43 + 3)), none, none, none, none] [] s (zyE (some (.int r)) s')) (hk10 : ∀ (x1 : Int32) (x2 : Int32) (s : zy_S) (r : Int32) (s' : zy_S), k10 x1 x2 s = some (r, s') → zyR X (d + 1) 196 10 [some (.ref (43 + 3)), some (.int x1), some (.int x2), none] [] s (zyE (some (.int r)) s')) {x1 : Int32} {x2 : Int32} {s : zy_S} {r : Int32} {s' : zy_S}  (h : zyF196_10b g192 g193 g194 g195 g196 g197 k10 x1 x2 s = some (r, s')) : zyR X (d + 1) 196 10 [some (.ref (43 + 3)), some (.int x1), some (.int x2), none] [] s (zyE (some (.int r)) s') := by
  unfold zyF196_10b at h
  refine zy_0 rfl rfl (show zyR _ _ _ _ [some (.ref (43 + 3)), some (.int x1), some (.int x2), none] [.ref (43 + 3)] _ _ from ?_)
  refine zy_1 (c := 43) rfl rfl rfl (show zyR _ _ _ _ [some (.ref (43 + 3)), some (.int x1), some (.int x2), none] [.int (s.1 43 15)] _ _ from ?_)
  refine zy_24_3 rfl (fun b11 => (show zyR _ _ _ _ [some (.ref (43 + 3)), some (.int x1), some (.int x2), none] [] _ _ from ?_)) (fun b11 => (show zyR _ _ _ _ [some (.ref (43 + 3)), some (.int x1), some (.int x2), none] [] _ _ from ?_))
  · replace h := zy_ifp h b11
    refine zy_2 rfl rfl (show zyR _ _ _ _ [some (.ref (43 + 3)), some (.int x1), some (.int x2), none] [.int x1] _ _ from ?_)
    obtain ⟨rfl, rfl⟩ := zy_pi h
    exact zy_4 rfl ⟨rfl, rfl⟩
  · replace h := zy_ifn h b11
    refine zy_2 rfl rfl (show zyR _ _ _ _ [some (.ref (43 + 3)), some (.int x1), some (.int x2), none] [.int x2] _ _ from ?_)
    refine zy_3 rfl rfl (show zyR _ _ _ _ [some (.ref (43 + 3)), some (.int x1), some (.int x2), none] [.int (42 : Int32), .int x2] _ _ from ?_)
    refine zy_25_0 rfl (fun b10 => (show zyR _ _ _ _ [some (.ref (43 + 3)), some (.int x1), some (.int x2), none] [] _ _ from ?_)) (fun b10 => (show zyR _ _ _ _ [some (.ref (43 + 3)), some (.int x1), some (.int x2), none] [] _ _ from ?_))
    · replace h := zy_ifp h b10
      exact zy_sub (show zy_le [some (.ref (43 + 3)), some (.int x1), some (.int x2), none] [some (.ref (43 + 3)), some (.int x1), some (.int x2), none] from ⟨rfl, ⟨rfl, ⟨rfl, trivial⟩⟩⟩) (zyC196_35 hd hg192 hg193 hg194 hg195 hg196 hg197 hk10 h)
    · replace h := zy_ifn h b10
      refine zy_2 rfl rfl (show zyR _ _ _ _ [some (.ref (43 + 3)), some (.int x1), some (.int x2), none] [.int x2] _ _ from ?_)
      refine zy_3 rfl rfl (show zyR _ _ _ _ [some (.ref (43 + 3)), some (.int x1), some (.int x2), none] [.int (47 : Int32), .int x2] _ _ from ?_)
      refine zy_25_0 rfl (fun b9 => (show zyR _ _ _ _ [some (.ref (43 + 3)), some (.int x1), some (.int x2), none] [] _ _ from ?_)) (fun b9 => (show zyR _ _ _ _ [some (.ref (43 + 3)), some (.int x1), some (.int x2), none] [] _ _ from ?_))
      · replace h := zy_ifp h b9
        exact zy_sub (show zy_le [some (.ref (43 + 3)), some (.int x1), some (.int x2), none] [some (.ref (43 + 3)), some (.int x1), some (.int x2), none] from ⟨rfl, ⟨rfl, ⟨rfl, trivial⟩⟩⟩) (zyC196_35 hd hg192 hg193 hg194 hg195 hg196 hg197 hk10 h)
      · replace h := zy_ifn h b9
        refine zy_2 rfl rfl (show zyR _ _ _ _ [some (.ref (43 + 3)), some (.int x1), some (.int x2), none] [.int x2] _ _ from ?_)
        refine zy_3 rfl rfl (show zyR _ _ _ _ [some (.ref (43 + 3)), some (.int x1), some (.int x2), none] [.int (37 : Int32), .int x2] _ _ from ?_)
        refine zy_25_1 rfl (fun b8 => (show zyR _ _ _ _ [some (.ref (43 + 3)), some (.int x1), some (.int x2), none] [] _ _ from ?_)) (fun b8 => (show zyR _ _ _ _ [some (.ref (43 + 3)), some (.int x1), some (.int x2), none] [] _ _ from ?_))
        · replace h := zy_ifp h b8
          refine zy_2 rfl rfl (show zyR _ _ _ _ [some (.ref (43 + 3)), some (.int x1), some (.int x2), none] [.int x1] _ _ from ?_)
          obtain ⟨rfl, rfl⟩ := zy_pi h
          exact zy_4 rfl ⟨rfl, rfl⟩
        · replace h := zy_ifn h b8
          exact zy_sub (show zy_le [some (.ref (43 + 3)), some (.int x1), some (.int x2), none] [some (.ref (43 + 3)), some (.int x1), some (.int x2), none] from ⟨rfl, ⟨rfl, ⟨rfl, trivial⟩⟩⟩) (zyC196_35 hd hg192 hg193 hg194 hg195 hg196 hg197 hk10 h)
noncomputable def zyF196_10 (g192 : zy_S → Option (Int32 × zy_S)) (g193 : zy_S → Option (Int32 × zy_S)) (g194 : zy_S → Option (Int32 × zy_S)) (g195 : zy_S → Option (Int32 × zy_S)) (g196 : zy_S → Option (Int32 × zy_S)) (g197 : zy_S → Option (Int32 × zy_S))  (n : Nat) : Int32 → Int32 → zy_S → Option (Int32 × zy_S) := Nat.rec (fun _ _ _ => none) (fun _ k10 => zyF196_10b g192 g193 g194 g195 g196 g197 k10) n
theorem zyC196_10 {X : zx_X} {d : Nat} {g192 : zy_S → Option (Int32 × zy_S)} {g193 : zy_S → Option (Int32 × zy_S)} {g194 : zy_S → Option (Int32 × zy_S)} {g195 : zy_S → Option (Int32 × zy_S)} {g196 : zy_S → Option (Int32 × zy_S)} {g197 : zy_S → Option (Int32 × zy_S)}  (hd : 1 ≤ d) (hg192 : ∀  (s : zy_S) (r : Int32) (s' : zy_S), g192 s = some (r, s') → zyR X d 192 0 [some (.ref (43 + 3)), none, none] [] s (zyE (some (.int r)) s')) (hg193 : ∀  (s : zy_S) (r : Int32) (s' : zy_S), g193 s = some (r, s') → zyR X d 193 0 [some (.ref (43 + 3)), none, none] [] s (zyE (some (.int r)) s')) (hg194 : ∀  (s : zy_S) (r : Int32) (s' : zy_S), g194 s = some (r, s') → zyR X d 194 0 [some (.ref (43 + 3)), none, none, none] [] s (zyE (some (.int r)) s')) (hg195 : ∀  (s : zy_S) (r : Int32) (s' : zy_S), g195 s = some (r, s') → zyR X d 195 0 [some (.ref (43 + 3)), none, none, none] [] s (zyE (some (.int r)) s')) (hg196 : ∀  (s : zy_S) (r : Int32) (s' : zy_S), g196 s = some (r, s') → zyR X d 196 0 [some (.ref (43 + 3)), none, none, none] [] s (zyE (some (.int r)) s')) (hg197 : ∀  (s : zy_S) (r : Int32) (s' : zy_S), g197 s = some (r, s') → zyR X d 197 0 [some (.ref (43 + 3)), none, none, none, none] [] s (zyE (some (.int r)) s'))  : ∀ (n : Nat) (x1 : Int32) (x2 : Int32) (s : zy_S) (r : Int32) (s' : zy_S), zyF196_10 g192 g193 g194 g195 g196 g197 n x1 x2 s = some (r, s') → zyR X (d + 1) 196 10 [some (.ref (43 + 3)), some (.int x1), some (.int x2), none] [] s (zyE (some (.int r)) s')
  | 0, _, _ => by
    intro s r s'  h
    have h : (none : Option (Int32 × zy_S)) = some (r, s') := h
    cases h
  | n + 1, x1, x2 => by
    intro s r s'  h
    exact zyC196_10b hd hg192 hg193 hg194 hg195 hg196 hg197 (k10 := zyF196_10 g192 g193 g194 g195 g196 g197 n) (fun x1 x2 s r s'  h => zyC196_10 hd hg192 hg193 hg194 hg195 hg196 hg197 n x1 x2 s r s'  h) h
noncomputable def zyF196_0 (g192 : zy_S → Option (Int32 × zy_S)) (g193 : zy_S → Option (Int32 × zy_S)) (g194 : zy_S → Option (Int32 × zy_S)) (g195 : zy_S → Option (Int32 × zy_S)) (g196 : zy_S → Option (Int32 × zy_S)) (g197 : zy_S → Option (Int32 × zy_S))   (s : zy_S) : Option (Int32 × zy_S) :=
(g197 s).bind fun p12 =>
(zyF198 p12.2).bind fun p13 =>
zyF196_10 g192 g193 g194 g195 g196 g197 zy_fu p12.1 p13.1 p13.2
theorem zyC196_0 {X : zx_X} {d : Nat} {g192 : zy_S → Option (Int32 × zy_S)} {g193 : zy_S → Option (Int32 × zy_S)} {g194 : zy_S → Option (Int32 × zy_S)} {g195 : zy_S → Option (Int32 × zy_S)} {g196 : zy_S → Option (Int32 × zy_S)} {g197 : zy_S → Option (Int32 × zy_S)}  (hd : 1 ≤ d) (hg192 : ∀  (s : zy_S) (r : Int32) (s' : zy_S), g192 s = some (r, s') → zyR X d 192 0 [some (.ref (43 + 3)), none, none] [] s (zyE (some (.int r)) s')) (hg193 : ∀  (s : zy_S) (r : Int32) (s' : zy_S), g193 s = some (r, s') → zyR X d 193 0 [some (.ref (43 + 3)), none, none] [] s (zyE (some (.int r)) s')) (hg194 : ∀  (s : zy_S) (r : Int32) (s' : zy_S), g194 s = some (r, s') → zyR X d 194 0 [some (.ref (43 + 3)), none, none, none] [] s (zyE (some (.int r)) s')) (hg195 : ∀  (s : zy_S) (r : Int32) (s' : zy_S), g195 s = some (r, s') → zyR X d 195 0 [some (.ref (43 + 3)), none, none, none] [] s (zyE (some (.int r)) s')) (hg196 : ∀  (s : zy_S) (r : Int32) (s' : zy_S), g196 s = some (r, s') → zyR X d 196 0 [some (.ref (43 + 3)), none, none, none] [] s (zyE (some (.int r)) s')) (hg197 : ∀  (s : zy_S) (r : Int32) (s' : zy_S), g197 s = some (r, s') → zyR X d 197 0 [some (.ref (43 + 3)), none, none, none, none] [] s (zyE (some (.int r)) s'))   {s : zy_S} {r : Int32} {s' : zy_S}  (h : zyF196_0 g192 g193 g194 g195 g196 g197 s = some (r, s')) : zyR X (d + 1) 196 0 [some (.ref (43 + 3)), none, none, none] [] s (zyE (some (.int r)) s') := by
  unfold zyF196_0 at h
  refine zy_0 rfl rfl (show zyR _ _ _ _ [some (.ref (43 + 3)), none, none, none] [.ref (43 + 3)] _ _ from ?_)
  obtain ⟨p12, hp12, h⟩ := zy_bind h
  refine zy_5 (c := 43) (as := []) (rest := []) (L := [some (.ref (43 + 3)), none, none, none, none]) (d' := d) rfl rfl rfl (Nat.le_of_ble_eq_true rfl) (by omega) rfl (Nat.le_of_ble_eq_true rfl) rfl rfl (hg197 s _ _ hp12) ?_
  show zyR _ _ _ _ [some (.ref (43 + 3)), none, none, none] [.int p12.1] _ _
  refine zy_23 rfl rfl (show zyR _ _ _ _ [some (.ref (43 + 3)), some (.int p12.1), none, none] [] _ _ from ?_)
  refine zy_0 rfl rfl (show zyR _ _ _ _ [some (.ref (43 + 3)), some (.int p12.1), none, none] [.ref (43 + 3)] _ _ from ?_)
  obtain ⟨p13, hp13, h⟩ := zy_bind h
  refine zy_5 (c := 43) (as := []) (rest := []) (L := [some (.ref (43 + 3))]) (d' := 1) rfl rfl rfl (Nat.le_of_ble_eq_true rfl) (by omega) rfl (Nat.le_of_ble_eq_true rfl) rfl rfl (zyC198 hp13) ?_
  show zyR _ _ _ _ [some (.ref (43 + 3)), some (.int p12.1), none, none] [.int p13.1] _ _
  refine zy_23 rfl rfl (show zyR _ _ _ _ [some (.ref (43 + 3)), some (.int p12.1), some (.int p13.1), none] [] _ _ from ?_)
  exact zy_sub (show zy_le [some (.ref (43 + 3)), some (.int p12.1), some (.int p13.1), none] [some (.ref (43 + 3)), some (.int p12.1), some (.int p13.1), none] from ⟨rfl, ⟨rfl, ⟨rfl, trivial⟩⟩⟩) (zyC196_10 hd hg192 hg193 hg194 hg195 hg196 hg197 zy_fu p12.1 p13.1 p13.2 _ _ h)
