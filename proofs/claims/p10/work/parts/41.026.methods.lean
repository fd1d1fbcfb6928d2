/-! PART 41.26: methods as functions. Made by wip/v4/dcp.py. -/
/-! NineOpinionsModel.one()I, over what it calls -/
noncomputable def zyF197_229 (g192 : zy_S → Option (Int32 × zy_S)) (g193 : zy_S → Option (Int32 × zy_S)) (g194 : zy_S → Option (Int32 × zy_S)) (g195 : zy_S → Option (Int32 × zy_S)) (g196 : zy_S → Option (Int32 × zy_S)) (g197 : zy_S → Option (Int32 × zy_S))  (x3 : Int32) (x4 : Int32) (s : zy_S) : Option (Int32 × zy_S) :=
if x4 ≠ 0 then
some (x3, s)
else
(zyF199 s).bind fun p1 =>
some (p1.1, p1.2)
theorem zyC197_229 {X : zx_X} {d : Nat} {g192 : zy_S → Option (Int32 × zy_S)} {g193 : zy_S → Option (Int32 × zy_S)} {g194 : zy_S → Option (Int32 × zy_S)} {g195 : zy_S → Option (Int32 × zy_S)} {g196 : zy_S → Option (Int32 × zy_S)} {g197 : zy_S → Option (Int32 × zy_S)}  (hd : 2 ≤ d) (hg192 : ∀  (s : zy_S) (r : Int32) (s' : zy_S), g192 s = some (r, s') → zyR X d 192 0 [some (.ref (43 + 3)), none, none] [] s (zyE (some (.int r)) s')) (hg193 : ∀  (s : zy_S) (r : Int32) (s' : zy_S), g193 s = some (r, s') → zyR X d 193 0 [some (.ref (43 + 3)), none, none] [] s (zyE (some (.int r)) s')) (hg194 : ∀  (s : zy_S) (r : Int32) (s' : zy_S), g194 s = some (r, s') → zyR X d 194 0 [some (.ref (43 + 3)), none, none, none] [] s (zyE (some (.int r)) s')) (hg195 : ∀  (s : zy_S) (r : Int32) (s' : zy_S), g195 s = some (r, s') → zyR X d 195 0 [some (.ref (43 + 3)), none, none, none] [] s (zyE (some (.int r)) s')) (hg196 : ∀  (s : zy_S) (r : Int32) (s' : zy_S), g196 s = some (r, s') → zyR X d 196 0 [some (.ref (43 + 3)), none, none, none] [] s (zyE (some (.int r)) s')) (hg197 : ∀  (s : zy_S) (r : Int32) (s' : zy_S), g197 s = some (r, s') → zyR X d 197 0 [some (.ref (43 + 3)), none, none, none, none] [] s (zyE (some (.int r)) s'))  {x3 : Int32} {x4 : Int32} {s : zy_S} {r : Int32} {s' : zy_S}  (h : zyF197_229 g192 g193 g194 g195 g196 g197 x3 x4 s = some (r, s')) : zyR X (d + 1) 197 229 [some (.ref (43 + 3)), none, none, some (.int x3), some (.int x4)] [] s (zyE (some (.int r)) s') := by
  unfold zyF197_229 at h
  refine zy_2 rfl rfl (show zyR _ _ _ _ [some (.ref (43 + 3)), none, none, some (.int x3), some (.int x4)] [.int x4] _ _ from ?_)
  refine zy_24_1 rfl (fun b2 => (show zyR _ _ _ _ [some (.ref (43 + 3)), none, none, some (.int x3), some (.int x4)] [] _ _ from ?_)) (fun b2 => (show zyR _ _ _ _ [some (.ref (43 + 3)), none, none, some (.int x3), some (.int x4)] [] _ _ from ?_))
  · replace h := zy_ifp h b2
    refine zy_2 rfl rfl (show zyR _ _ _ _ [some (.ref (43 + 3)), none, none, some (.int x3), some (.int x4)] [.int x3] _ _ from ?_)
    obtain ⟨rfl, rfl⟩ := zy_pi h
    exact zy_4 rfl ⟨rfl, rfl⟩
  · replace h := zy_ifn h b2
    refine zy_0 rfl rfl (show zyR _ _ _ _ [some (.ref (43 + 3)), none, none, some (.int x3), some (.int x4)] [.ref (43 + 3)] _ _ from ?_)
    obtain ⟨p1, hp1, h⟩ := zy_bind h
    refine zy_5 (c := 43) (as := []) (rest := []) (L := [some (.ref (43 + 3))]) (d' := 1) rfl rfl rfl (Nat.le_of_ble_eq_true rfl) (by omega) rfl (Nat.le_of_ble_eq_true rfl) rfl rfl (zyC199 hp1) ?_
    show zyR _ _ _ _ [some (.ref (43 + 3)), none, none, some (.int x3), some (.int x4)] [.int p1.1] _ _
    refine zy_6 rfl (show zyR _ _ _ _ [some (.ref (43 + 3)), none, none, some (.int x3), some (.int x4)] [.int p1.1] _ _ from ?_)
    obtain ⟨rfl, rfl⟩ := zy_pi h
    exact zy_4 rfl ⟨rfl, rfl⟩
noncomputable def zyF197_176b (g192 : zy_S → Option (Int32 × zy_S)) (g193 : zy_S → Option (Int32 × zy_S)) (g194 : zy_S → Option (Int32 × zy_S)) (g195 : zy_S → Option (Int32 × zy_S)) (g196 : zy_S → Option (Int32 × zy_S)) (g197 : zy_S → Option (Int32 × zy_S)) (k176 : Int32 → Int32 → zy_S → Option (Int32 × zy_S)) (x3 : Int32) (x4 : Int32) (s : zy_S) : Option (Int32 × zy_S) :=
if (4 : Int32) ≤ x4 then
zyF197_229 g192 g193 g194 g195 g196 g197 x3 x4 s
else
(zyF198 s).bind fun p3 =>
if p3.1 < (48 : Int32) then
zyF197_229 g192 g193 g194 g195 g196 g197 x3 x4 p3.2
else
(zyF198 p3.2).bind fun p4 =>
if (57 : Int32) < p4.1 then
zyF197_229 g192 g193 g194 g195 g196 g197 x3 x4 p4.2
else
(zyF198 p4.2).bind fun p5 =>
k176 ((((10 : Int32) * x3) + p5.1) - (48 : Int32)) (x4 + (1 : Int32)) (zy_up p5.2 43 13 ((p5.2.1 43 13) + (1 : Int32)))
theorem zyC197_176b {X : zx_X} {d : Nat} {g192 : zy_S → Option (Int32 × zy_S)} {g193 : zy_S → Option (Int32 × zy_S)} {g194 : zy_S → Option (Int32 × zy_S)} {g195 : zy_S → Option (Int32 × zy_S)} {g196 : zy_S → Option (Int32 × zy_S)} {g197 : zy_S → Option (Int32 × zy_S)} {k176 : Int32 → Int32 → zy_S → Option (Int32 × zy_S)} (hd : 2 ≤ d) (hg192 : ∀  (s : zy_S) (r : Int32) (s' : zy_S), g192 s = some (r, s') → zyR X d 192 0 [some (.ref (43 + 3)), none, none] [] s (zyE (some (.int r)) s')) (hg193 : ∀  (s : zy_S) (r : Int32) (s' : zy_S), g193 s = some (r, s') → zyR X d 193 0 [some (.ref (43 + 3)), none, none] [] s (zyE (some (.int r)) s')) (hg194 : ∀  (s : zy_S) (r : Int32) (s' : zy_S), g194 s = some (r, s') → zyR X d 194 0 [some (.ref (43 + 3)), none, none, none] [] s (zyE (some (.int r)) s')) (hg195 : ∀  (s : zy_S) (r : Int32) (s' : zy_S), g195 s = some (r, s') → zyR X d 195 0 [some (.ref (43 + 3)), none, none, none] [] s (zyE (some (.int r)) s')) (hg196 : ∀  (s : zy_S) (r : Int32) (s' : zy_S), g196 s = some (r, s') → zyR X d 196 0 [some (.ref (43 + 3)), none, none, none] [] s (zyE (some (.int r)) s')) (hg197 : ∀  (s : zy_S) (r : Int32) (s' : zy_S), g197 s = some (r, s') → zyR X d 197 0 [some (.ref (43 + 3)), none, none, none, none] [] s (zyE (some (.int r)) s')) (hk176 : ∀ (x3 : Int32) (x4 : Int32) (s : zy_S) (r : Int32) (s' : zy_S), k176 x3 x4 s = some (r, s') → zyR X (d + 1) 197 176 [some (.ref (43 + 3)), none, none, some (.int x3), some (.int x4)] [] s (zyE (some (.int r)) s')) {x3 : Int32} {x4 : Int32} {s : zy_S} {r : Int32} {s' : zy_S}  (h : zyF197_176b g192 g193 g194 g195 g196 g197 k176 x3 x4 s = some (r, s')) : zyR X (d + 1) 197 176 [some (.ref (43 + 3)), none, none, some (.int x3), some (.int x4)] [] s (zyE (some (.int r)) s') := by
  unfold zyF197_176b at h
  refine zy_2 rfl rfl (show zyR _ _ _ _ [some (.ref (43 + 3)), none, none, some (.int x3), some (.int x4)] [.int x4] _ _ from ?_)
  refine zy_3 rfl rfl (show zyR _ _ _ _ [some (.ref (43 + 3)), none, none, some (.int x3), some (.int x4)] [.int (4 : Int32), .int x4] _ _ from ?_)
  refine zy_25_3 rfl (fun b8 => (show zyR _ _ _ _ [some (.ref (43 + 3)), none, none, some (.int x3), some (.int x4)] [] _ _ from ?_)) (fun b8 => (show zyR _ _ _ _ [some (.ref (43 + 3)), none, none, some (.int x3), some (.int x4)] [] _ _ from ?_))
  · replace h := zy_ifp h b8
    exact zy_sub (show zy_le [some (.ref (43 + 3)), none, none, some (.int x3), some (.int x4)] [some (.ref (43 + 3)), none, none, some (.int x3), some (.int x4)] from ⟨rfl, ⟨rfl, ⟨rfl, trivial⟩⟩⟩) (zyC197_229 hd hg192 hg193 hg194 hg195 hg196 hg197 h)
  · replace h := zy_ifn h b8
    refine zy_0 rfl rfl (show zyR _ _ _ _ [some (.ref (43 + 3)), none, none, some (.int x3), some (.int x4)] [.ref (43 + 3)] _ _ from ?_)
    obtain ⟨p3, hp3, h⟩ := zy_bind h
    refine zy_5 (c := 43) (as := []) (rest := []) (L := [some (.ref (43 + 3))]) (d' := 1) rfl rfl rfl (Nat.le_of_ble_eq_true rfl) (by omega) rfl (Nat.le_of_ble_eq_true rfl) rfl rfl (zyC198 hp3) ?_
    show zyR _ _ _ _ [some (.ref (43 + 3)), none, none, some (.int x3), some (.int x4)] [.int p3.1] _ _
    refine zy_3 rfl rfl (show zyR _ _ _ _ [some (.ref (43 + 3)), none, none, some (.int x3), some (.int x4)] [.int (48 : Int32), .int p3.1] _ _ from ?_)
    refine zy_25_2 rfl (fun b7 => (show zyR _ _ _ _ [some (.ref (43 + 3)), none, none, some (.int x3), some (.int x4)] [] _ _ from ?_)) (fun b7 => (show zyR _ _ _ _ [some (.ref (43 + 3)), none, none, some (.int x3), some (.int x4)] [] _ _ from ?_))
    · replace h := zy_ifp h b7
      exact zy_sub (show zy_le [some (.ref (43 + 3)), none, none, some (.int x3), some (.int x4)] [some (.ref (43 + 3)), none, none, some (.int x3), some (.int x4)] from ⟨rfl, ⟨rfl, ⟨rfl, trivial⟩⟩⟩) (zyC197_229 hd hg192 hg193 hg194 hg195 hg196 hg197 h)
    · replace h := zy_ifn h b7
      refine zy_0 rfl rfl (show zyR _ _ _ _ [some (.ref (43 + 3)), none, none, some (.int x3), some (.int x4)] [.ref (43 + 3)] _ _ from ?_)
      obtain ⟨p4, hp4, h⟩ := zy_bind h
      refine zy_5 (c := 43) (as := []) (rest := []) (L := [some (.ref (43 + 3))]) (d' := 1) rfl rfl rfl (Nat.le_of_ble_eq_true rfl) (by omega) rfl (Nat.le_of_ble_eq_true rfl) rfl rfl (zyC198 hp4) ?_
      show zyR _ _ _ _ [some (.ref (43 + 3)), none, none, some (.int x3), some (.int x4)] [.int p4.1] _ _
      refine zy_3 rfl rfl (show zyR _ _ _ _ [some (.ref (43 + 3)), none, none, some (.int x3), some (.int x4)] [.int (57 : Int32), .int p4.1] _ _ from ?_)
      refine zy_25_4 rfl (fun b6 => (show zyR _ _ _ _ [some (.ref (43 + 3)), none, none, some (.int x3), some (.int x4)] [] _ _ from ?_)) (fun b6 => (show zyR _ _ _ _ [some (.ref (43 + 3)), none, none, some (.int x3), some (.int x4)] [] _ _ from ?_))
      · replace h := zy_ifp h b6
        exact zy_sub (show zy_le [some (.ref (43 + 3)), none, none, some (.int x3), some (.int x4)] [some (.ref (43 + 3)), none, none, some (.int x3), some (.int x4)] from ⟨rfl, ⟨rfl, ⟨rfl, trivial⟩⟩⟩) (zyC197_229 hd hg192 hg193 hg194 hg195 hg196 hg197 h)
      · replace h := zy_ifn h b6
        refine zy_3 rfl rfl (show zyR _ _ _ _ [some (.ref (43 + 3)), none, none, some (.int x3), some (.int x4)] [.int (10 : Int32)] _ _ from ?_)
        refine zy_2 rfl rfl (show zyR _ _ _ _ [some (.ref (43 + 3)), none, none, some (.int x3), some (.int x4)] [.int x3, .int (10 : Int32)] _ _ from ?_)
        refine zy_12 rfl (show zyR _ _ _ _ [some (.ref (43 + 3)), none, none, some (.int x3), some (.int x4)] [.int ((10 : Int32) * x3)] _ _ from ?_)
        refine zy_0 rfl rfl (show zyR _ _ _ _ [some (.ref (43 + 3)), none, none, some (.int x3), some (.int x4)] [.ref (43 + 3), .int ((10 : Int32) * x3)] _ _ from ?_)
        obtain ⟨p5, hp5, h⟩ := zy_bind h
        refine zy_5 (c := 43) (as := []) (rest := [.int ((10 : Int32) * x3)]) (L := [some (.ref (43 + 3))]) (d' := 1) rfl rfl rfl (Nat.le_of_ble_eq_true rfl) (by omega) rfl (Nat.le_of_ble_eq_true rfl) rfl rfl (zyC198 hp5) ?_
        show zyR _ _ _ _ [some (.ref (43 + 3)), none, none, some (.int x3), some (.int x4)] [.int p5.1, .int ((10 : Int32) * x3)] _ _
        refine zy_10 rfl (show zyR _ _ _ _ [some (.ref (43 + 3)), none, none, some (.int x3), some (.int x4)] [.int (((10 : Int32) * x3) + p5.1)] _ _ from ?_)
        refine zy_3 rfl rfl (show zyR _ _ _ _ [some (.ref (43 + 3)), none, none, some (.int x3), some (.int x4)] [.int (48 : Int32), .int (((10 : Int32) * x3) + p5.1)] _ _ from ?_)
        refine zy_11 rfl (show zyR _ _ _ _ [some (.ref (43 + 3)), none, none, some (.int x3), some (.int x4)] [.int ((((10 : Int32) * x3) + p5.1) - (48 : Int32))] _ _ from ?_)
        refine zy_23 rfl rfl (show zyR _ _ _ _ [some (.ref (43 + 3)), none, none, some (.int ((((10 : Int32) * x3) + p5.1) - (48 : Int32))), some (.int x4)] [] _ _ from ?_)
        refine zy_22 rfl rfl rfl rfl (show zyR _ _ _ _ [some (.ref (43 + 3)), none, none, some (.int ((((10 : Int32) * x3) + p5.1) - (48 : Int32))), some (.int (x4 + (1 : Int32)))] [] _ _ from ?_)
        refine zy_0 rfl rfl (show zyR _ _ _ _ [some (.ref (43 + 3)), none, none, some (.int ((((10 : Int32) * x3) + p5.1) - (48 : Int32))), some (.int (x4 + (1 : Int32)))] [.ref (43 + 3)] _ _ from ?_)
        refine zy_33 rfl rfl (show zyR _ _ _ _ [some (.ref (43 + 3)), none, none, some (.int ((((10 : Int32) * x3) + p5.1) - (48 : Int32))), some (.int (x4 + (1 : Int32)))] [.ref (43 + 3), .ref (43 + 3)] _ _ from ?_)
        refine zy_1 (c := 43) rfl rfl rfl (show zyR _ _ _ _ [some (.ref (43 + 3)), none, none, some (.int ((((10 : Int32) * x3) + p5.1) - (48 : Int32))), some (.int (x4 + (1 : Int32)))] [.int (p5.2.1 43 13), .ref (43 + 3)] _ _ from ?_)
        refine zy_3 rfl rfl (show zyR _ _ _ _ [some (.ref (43 + 3)), none, none, some (.int ((((10 : Int32) * x3) + p5.1) - (48 : Int32))), some (.int (x4 + (1 : Int32)))] [.int (1 : Int32), .int (p5.2.1 43 13), .ref (43 + 3)] _ _ from ?_)
        refine zy_10 rfl (show zyR _ _ _ _ [some (.ref (43 + 3)), none, none, some (.int ((((10 : Int32) * x3) + p5.1) - (48 : Int32))), some (.int (x4 + (1 : Int32)))] [.int ((p5.2.1 43 13) + (1 : Int32)), .ref (43 + 3)] _ _ from ?_)
        refine zy_52 (c := 43) rfl rfl rfl (show zyR _ _ _ _ [some (.ref (43 + 3)), none, none, some (.int ((((10 : Int32) * x3) + p5.1) - (48 : Int32))), some (.int (x4 + (1 : Int32)))] [] _ _ from ?_)
        refine zy_6 rfl (show zyR _ _ _ _ [some (.ref (43 + 3)), none, none, some (.int ((((10 : Int32) * x3) + p5.1) - (48 : Int32))), some (.int (x4 + (1 : Int32)))] [] _ _ from ?_)
        exact zy_sub (show zy_le [some (.ref (43 + 3)), none, none, some (.int ((((10 : Int32) * x3) + p5.1) - (48 : Int32))), some (.int (x4 + (1 : Int32)))] [some (.ref (43 + 3)), none, none, some (.int ((((10 : Int32) * x3) + p5.1) - (48 : Int32))), some (.int (x4 + (1 : Int32)))] from ⟨rfl, ⟨rfl, ⟨rfl, trivial⟩⟩⟩) (hk176 ((((10 : Int32) * x3) + p5.1) - (48 : Int32)) (x4 + (1 : Int32)) (zy_up p5.2 43 13 ((p5.2.1 43 13) + (1 : Int32))) _ _ h)
noncomputable def zyF197_176 (g192 : zy_S → Option (Int32 × zy_S)) (g193 : zy_S → Option (Int32 × zy_S)) (g194 : zy_S → Option (Int32 × zy_S)) (g195 : zy_S → Option (Int32 × zy_S)) (g196 : zy_S → Option (Int32 × zy_S)) (g197 : zy_S → Option (Int32 × zy_S))  (n : Nat) : Int32 → Int32 → zy_S → Option (Int32 × zy_S) := Nat.rec (fun _ _ _ => none) (fun _ k176 => zyF197_176b g192 g193 g194 g195 g196 g197 k176) n
theorem zyC197_176 {X : zx_X} {d : Nat} {g192 : zy_S → Option (Int32 × zy_S)} {g193 : zy_S → Option (Int32 × zy_S)} {g194 : zy_S → Option (Int32 × zy_S)} {g195 : zy_S → Option (Int32 × zy_S)} {g196 : zy_S → Option (Int32 × zy_S)} {g197 : zy_S → Option (Int32 × zy_S)}  (hd : 2 ≤ d) (hg192 : ∀  (s : zy_S) (r : Int32) (s' : zy_S), g192 s = some (r, s') → zyR X d 192 0 [some (.ref (43 + 3)), none, none] [] s (zyE (some (.int r)) s')) (hg193 : ∀  (s : zy_S) (r : Int32) (s' : zy_S), g193 s = some (r, s') → zyR X d 193 0 [some (.ref (43 + 3)), none, none] [] s (zyE (some (.int r)) s')) (hg194 : ∀  (s : zy_S) (r : Int32) (s' : zy_S), g194 s = some (r, s') → zyR X d 194 0 [some (.ref (43 + 3)), none, none, none] [] s (zyE (some (.int r)) s')) (hg195 : ∀  (s : zy_S) (r : Int32) (s' : zy_S), g195 s = some (r, s') → zyR X d 195 0 [some (.ref (43 + 3)), none, none, none] [] s (zyE (some (.int r)) s')) (hg196 : ∀  (s : zy_S) (r : Int32) (s' : zy_S), g196 s = some (r, s') → zyR X d 196 0 [some (.ref (43 + 3)), none, none, none] [] s (zyE (some (.int r)) s')) (hg197 : ∀  (s : zy_S) (r : Int32) (s' : zy_S), g197 s = some (r, s') → zyR X d 197 0 [some (.ref (43 + 3)), none, none, none, none] [] s (zyE (some (.int r)) s'))  : ∀ (n : Nat) (x3 : Int32) (x4 : Int32) (s : zy_S) (r : Int32) (s' : zy_S), zyF197_176 g192 g193 g194 g195 g196 g197 n x3 x4 s = some (r, s') → zyR X (d + 1) 197 176 [some (.ref (43 + 3)), none, none, some (.int x3), some (.int x4)] [] s (zyE (some (.int r)) s')
  | 0, _, _ => by
    intro s r s'  h
    have h : (none : Option (Int32 × zy_S)) = some (r, s') := h
    cases h
  | n + 1, x3, x4 => by
    intro s r s'  h
    exact zyC197_176b hd hg192 hg193 hg194 hg195 hg196 hg197 (k176 := zyF197_176 g192 g193 g194 g195 g196 g197 n) (fun x3 x4 s r s'  h => zyC197_176 hd hg192 hg193 hg194 hg195 hg196 hg197 n x3 x4 s r s'  h) h
noncomputable def zyF197_104 (g192 : zy_S → Option (Int32 × zy_S)) (g193 : zy_S → Option (Int32 × zy_S)) (g194 : zy_S → Option (Int32 × zy_S)) (g195 : zy_S → Option (Int32 × zy_S)) (g196 : zy_S → Option (Int32 × zy_S)) (g197 : zy_S → Option (Int32 × zy_S))  (x1 : Int32) (x2 : Int32) (s : zy_S) : Option (Int32 × zy_S) :=
if x1 ≠ (40 : Int32) then
if x1 ≠ (45 : Int32) then
if x2 ≠ 0 then
some ((0 : Int32), (zy_up s 43 16 ((s.1 43 16) - (1 : Int32))))
else
some ((1 : Int32), (zy_up s 43 16 ((s.1 43 16) - (1 : Int32))))
else
some ((-x2), (zy_up s 43 16 ((s.1 43 16) - (1 : Int32))))
else
some (x2, (zy_up s 43 16 ((s.1 43 16) - (1 : Int32))))
theorem zyC197_104 {X : zx_X} {d : Nat} {g192 : zy_S → Option (Int32 × zy_S)} {g193 : zy_S → Option (Int32 × zy_S)} {g194 : zy_S → Option (Int32 × zy_S)} {g195 : zy_S → Option (Int32 × zy_S)} {g196 : zy_S → Option (Int32 × zy_S)} {g197 : zy_S → Option (Int32 × zy_S)}  (hd : 2 ≤ d) (hg192 : ∀  (s : zy_S) (r : Int32) (s' : zy_S), g192 s = some (r, s') → zyR X d 192 0 [some (.ref (43 + 3)), none, none] [] s (zyE (some (.int r)) s')) (hg193 : ∀  (s : zy_S) (r : Int32) (s' : zy_S), g193 s = some (r, s') → zyR X d 193 0 [some (.ref (43 + 3)), none, none] [] s (zyE (some (.int r)) s')) (hg194 : ∀  (s : zy_S) (r : Int32) (s' : zy_S), g194 s = some (r, s') → zyR X d 194 0 [some (.ref (43 + 3)), none, none, none] [] s (zyE (some (.int r)) s')) (hg195 : ∀  (s : zy_S) (r : Int32) (s' : zy_S), g195 s = some (r, s') → zyR X d 195 0 [some (.ref (43 + 3)), none, none, none] [] s (zyE (some (.int r)) s')) (hg196 : ∀  (s : zy_S) (r : Int32) (s' : zy_S), g196 s = some (r, s') → zyR X d 196 0 [some (.ref (43 + 3)), none, none, none] [] s (zyE (some (.int r)) s')) (hg197 : ∀  (s : zy_S) (r : Int32) (s' : zy_S), g197 s = some (r, s') → zyR X d 197 0 [some (.ref (43 + 3)), none, none, none, none] [] s (zyE (some (.int r)) s'))  {x1 : Int32} {x2 : Int32} {s : zy_S} {r : Int32} {s' : zy_S}  (h : zyF197_104 g192 g193 g194 g195 g196 g197 x1 x2 s = some (r, s')) : zyR X (d + 1) 197 104 [some (.ref (43 + 3)), some (.int x1), some (.int x2), none, none] [] s (zyE (some (.int r)) s') := by
  unfold zyF197_104 at h
  refine zy_0 rfl rfl (show zyR _ _ _ _ [some (.ref (43 + 3)), some (.int x1), some (.int x2), none, none] [.ref (43 + 3)] _ _ from ?_)
  refine zy_33 rfl rfl (show zyR _ _ _ _ [some (.ref (43 + 3)), some (.int x1), some (.int x2), none, none] [.ref (43 + 3), .ref (43 + 3)] _ _ from ?_)
  refine zy_1 (c := 43) rfl rfl rfl (show zyR _ _ _ _ [some (.ref (43 + 3)), some (.int x1), some (.int x2), none, none] [.int (s.1 43 16), .ref (43 + 3)] _ _ from ?_)
  refine zy_3 rfl rfl (show zyR _ _ _ _ [some (.ref (43 + 3)), some (.int x1), some (.int x2), none, none] [.int (1 : Int32), .int (s.1 43 16), .ref (43 + 3)] _ _ from ?_)
  refine zy_11 rfl (show zyR _ _ _ _ [some (.ref (43 + 3)), some (.int x1), some (.int x2), none, none] [.int ((s.1 43 16) - (1 : Int32)), .ref (43 + 3)] _ _ from ?_)
  refine zy_52 (c := 43) rfl rfl rfl (show zyR _ _ _ _ [some (.ref (43 + 3)), some (.int x1), some (.int x2), none, none] [] _ _ from ?_)
  refine zy_2 rfl rfl (show zyR _ _ _ _ [some (.ref (43 + 3)), some (.int x1), some (.int x2), none, none] [.int x1] _ _ from ?_)
  refine zy_3 rfl rfl (show zyR _ _ _ _ [some (.ref (43 + 3)), some (.int x1), some (.int x2), none, none] [.int (40 : Int32), .int x1] _ _ from ?_)
  refine zy_25_1 rfl (fun b11 => (show zyR _ _ _ _ [some (.ref (43 + 3)), some (.int x1), some (.int x2), none, none] [] _ _ from ?_)) (fun b11 => (show zyR _ _ _ _ [some (.ref (43 + 3)), some (.int x1), some (.int x2), none, none] [] _ _ from ?_))
  · replace h := zy_ifp h b11
    refine zy_2 rfl rfl (show zyR _ _ _ _ [some (.ref (43 + 3)), some (.int x1), some (.int x2), none, none] [.int x1] _ _ from ?_)
    refine zy_3 rfl rfl (show zyR _ _ _ _ [some (.ref (43 + 3)), some (.int x1), some (.int x2), none, none] [.int (45 : Int32), .int x1] _ _ from ?_)
    refine zy_25_1 rfl (fun b10 => (show zyR _ _ _ _ [some (.ref (43 + 3)), some (.int x1), some (.int x2), none, none] [] _ _ from ?_)) (fun b10 => (show zyR _ _ _ _ [some (.ref (43 + 3)), some (.int x1), some (.int x2), none, none] [] _ _ from ?_))
    · replace h := zy_ifp h b10
      refine zy_2 rfl rfl (show zyR _ _ _ _ [some (.ref (43 + 3)), some (.int x1), some (.int x2), none, none] [.int x2] _ _ from ?_)
      refine zy_24_1 rfl (fun b9 => (show zyR _ _ _ _ [some (.ref (43 + 3)), some (.int x1), some (.int x2), none, none] [] _ _ from ?_)) (fun b9 => (show zyR _ _ _ _ [some (.ref (43 + 3)), some (.int x1), some (.int x2), none, none] [] _ _ from ?_))
      · replace h := zy_ifp h b9
        refine zy_3 rfl rfl (show zyR _ _ _ _ [some (.ref (43 + 3)), some (.int x1), some (.int x2), none, none] [.int (0 : Int32)] _ _ from ?_)
        obtain ⟨rfl, rfl⟩ := zy_pi h
        exact zy_4 rfl ⟨rfl, rfl⟩
      · replace h := zy_ifn h b9
        refine zy_3 rfl rfl (show zyR _ _ _ _ [some (.ref (43 + 3)), some (.int x1), some (.int x2), none, none] [.int (1 : Int32)] _ _ from ?_)
        refine zy_6 rfl (show zyR _ _ _ _ [some (.ref (43 + 3)), some (.int x1), some (.int x2), none, none] [.int (1 : Int32)] _ _ from ?_)
        obtain ⟨rfl, rfl⟩ := zy_pi h
        exact zy_4 rfl ⟨rfl, rfl⟩
    · replace h := zy_ifn h b10
      refine zy_2 rfl rfl (show zyR _ _ _ _ [some (.ref (43 + 3)), some (.int x1), some (.int x2), none, none] [.int x2] _ _ from ?_)
      refine zy_21 rfl (show zyR _ _ _ _ [some (.ref (43 + 3)), some (.int x1), some (.int x2), none, none] [.int (-x2)] _ _ from ?_)
      refine zy_6 rfl (show zyR _ _ _ _ [some (.ref (43 + 3)), some (.int x1), some (.int x2), none, none] [.int (-x2)] _ _ from ?_)
      obtain ⟨rfl, rfl⟩ := zy_pi h
      exact zy_4 rfl ⟨rfl, rfl⟩
  · replace h := zy_ifn h b11
    refine zy_2 rfl rfl (show zyR _ _ _ _ [some (.ref (43 + 3)), some (.int x1), some (.int x2), none, none] [.int x2] _ _ from ?_)
    refine zy_6 rfl (show zyR _ _ _ _ [some (.ref (43 + 3)), some (.int x1), some (.int x2), none, none] [.int x2] _ _ from ?_)
    obtain ⟨rfl, rfl⟩ := zy_pi h
    exact zy_4 rfl ⟨rfl, rfl⟩
noncomputable def zyF197_83 (g192 : zy_S → Option (Int32 × zy_S)) (g193 : zy_S → Option (Int32 × zy_S)) (g194 : zy_S → Option (Int32 × zy_S)) (g195 : zy_S → Option (Int32 × zy_S)) (g196 : zy_S → Option (Int32 × zy_S)) (g197 : zy_S → Option (Int32 × zy_S))  (x1 : Int32) (y0 : Int32) (s : zy_S) : Option (Int32 × zy_S) :=
if x1 ≠ (40 : Int32) then
zyF197_104 g192 g193 g194 g195 g196 g197 x1 y0 s
else
(zyF200 (41 : Int32) s).bind fun p12 =>
if p12.1 ≠ 0 then
zyF197_104 g192 g193 g194 g195 g196 g197 x1 y0 p12.2
else
(zyF199 p12.2).bind fun p13 =>
some (p13.1, p13.2)
theorem zyC197_83 {X : zx_X} {d : Nat} {g192 : zy_S → Option (Int32 × zy_S)} {g193 : zy_S → Option (Int32 × zy_S)} {g194 : zy_S → Option (Int32 × zy_S)} {g195 : zy_S → Option (Int32 × zy_S)} {g196 : zy_S → Option (Int32 × zy_S)} {g197 : zy_S → Option (Int32 × zy_S)}  (hd : 2 ≤ d) (hg192 : ∀  (s : zy_S) (r : Int32) (s' : zy_S), g192 s = some (r, s') → zyR X d 192 0 [some (.ref (43 + 3)), none, none] [] s (zyE (some (.int r)) s')) (hg193 : ∀  (s : zy_S) (r : Int32) (s' : zy_S), g193 s = some (r, s') → zyR X d 193 0 [some (.ref (43 + 3)), none, none] [] s (zyE (some (.int r)) s')) (hg194 : ∀  (s : zy_S) (r : Int32) (s' : zy_S), g194 s = some (r, s') → zyR X d 194 0 [some (.ref (43 + 3)), none, none, none] [] s (zyE (some (.int r)) s')) (hg195 : ∀  (s : zy_S) (r : Int32) (s' : zy_S), g195 s = some (r, s') → zyR X d 195 0 [some (.ref (43 + 3)), none, none, none] [] s (zyE (some (.int r)) s')) (hg196 : ∀  (s : zy_S) (r : Int32) (s' : zy_S), g196 s = some (r, s') → zyR X d 196 0 [some (.ref (43 + 3)), none, none, none] [] s (zyE (some (.int r)) s')) (hg197 : ∀  (s : zy_S) (r : Int32) (s' : zy_S), g197 s = some (r, s') → zyR X d 197 0 [some (.ref (43 + 3)), none, none, none, none] [] s (zyE (some (.int r)) s'))  {x1 : Int32} {y0 : Int32} {s : zy_S} {r : Int32} {s' : zy_S}  (h : zyF197_83 g192 g193 g194 g195 g196 g197 x1 y0 s = some (r, s')) : zyR X (d + 1) 197 83 [some (.ref (43 + 3)), some (.int x1), none, none, none] [.int y0] s (zyE (some (.int r)) s') := by
  unfold zyF197_83 at h
  refine zy_23 rfl rfl (show zyR _ _ _ _ [some (.ref (43 + 3)), some (.int x1), some (.int y0), none, none] [] _ _ from ?_)
  refine zy_2 rfl rfl (show zyR _ _ _ _ [some (.ref (43 + 3)), some (.int x1), some (.int y0), none, none] [.int x1] _ _ from ?_)
  refine zy_3 rfl rfl (show zyR _ _ _ _ [some (.ref (43 + 3)), some (.int x1), some (.int y0), none, none] [.int (40 : Int32), .int x1] _ _ from ?_)
  refine zy_25_1 rfl (fun b15 => (show zyR _ _ _ _ [some (.ref (43 + 3)), some (.int x1), some (.int y0), none, none] [] _ _ from ?_)) (fun b15 => (show zyR _ _ _ _ [some (.ref (43 + 3)), some (.int x1), some (.int y0), none, none] [] _ _ from ?_))
  · replace h := zy_ifp h b15
    exact zy_sub (show zy_le [some (.ref (43 + 3)), some (.int x1), some (.int y0), none, none] [some (.ref (43 + 3)), some (.int x1), some (.int y0), none, none] from ⟨rfl, ⟨rfl, ⟨rfl, trivial⟩⟩⟩) (zyC197_104 hd hg192 hg193 hg194 hg195 hg196 hg197 h)
  · replace h := zy_ifn h b15
    refine zy_0 rfl rfl (show zyR _ _ _ _ [some (.ref (43 + 3)), some (.int x1), some (.int y0), none, none] [.ref (43 + 3)] _ _ from ?_)
    refine zy_3 rfl rfl (show zyR _ _ _ _ [some (.ref (43 + 3)), some (.int x1), some (.int y0), none, none] [.int (41 : Int32), .ref (43 + 3)] _ _ from ?_)
    obtain ⟨p12, hp12, h⟩ := zy_bind h
    refine zy_5 (c := 43) (as := [.int (41 : Int32)]) (rest := []) (L := [some (.ref (43 + 3)), some (.int (41 : Int32))]) (d' := 2) rfl rfl rfl (Nat.le_of_ble_eq_true rfl) (by omega) rfl (Nat.le_of_ble_eq_true rfl) rfl rfl (zyC200 hp12) ?_
    show zyR _ _ _ _ [some (.ref (43 + 3)), some (.int x1), some (.int y0), none, none] [.int p12.1] _ _
    refine zy_24_1 rfl (fun b14 => (show zyR _ _ _ _ [some (.ref (43 + 3)), some (.int x1), some (.int y0), none, none] [] _ _ from ?_)) (fun b14 => (show zyR _ _ _ _ [some (.ref (43 + 3)), some (.int x1), some (.int y0), none, none] [] _ _ from ?_))
    · replace h := zy_ifp h b14
      exact zy_sub (show zy_le [some (.ref (43 + 3)), some (.int x1), some (.int y0), none, none] [some (.ref (43 + 3)), some (.int x1), some (.int y0), none, none] from ⟨rfl, ⟨rfl, ⟨rfl, trivial⟩⟩⟩) (zyC197_104 hd hg192 hg193 hg194 hg195 hg196 hg197 h)
    · replace h := zy_ifn h b14
      refine zy_0 rfl rfl (show zyR _ _ _ _ [some (.ref (43 + 3)), some (.int x1), some (.int y0), none, none] [.ref (43 + 3)] _ _ from ?_)
      obtain ⟨p13, hp13, h⟩ := zy_bind h
      refine zy_5 (c := 43) (as := []) (rest := []) (L := [some (.ref (43 + 3))]) (d' := 1) rfl rfl rfl (Nat.le_of_ble_eq_true rfl) (by omega) rfl (Nat.le_of_ble_eq_true rfl) rfl rfl (zyC199 hp13) ?_
      show zyR _ _ _ _ [some (.ref (43 + 3)), some (.int x1), some (.int y0), none, none] [.int p13.1] _ _
      obtain ⟨rfl, rfl⟩ := zy_pi h
      exact zy_4 rfl ⟨rfl, rfl⟩
noncomputable def zyF197_32 (g192 : zy_S → Option (Int32 × zy_S)) (g193 : zy_S → Option (Int32 × zy_S)) (g194 : zy_S → Option (Int32 × zy_S)) (g195 : zy_S → Option (Int32 × zy_S)) (g196 : zy_S → Option (Int32 × zy_S)) (g197 : zy_S → Option (Int32 × zy_S))  (x1 : Int32) (s : zy_S) : Option (Int32 × zy_S) :=
if (s.1 43 16) ≠ (6 : Int32) then
if x1 ≠ (40 : Int32) then
(g197 (zy_up (zy_up s 43 16 ((s.1 43 16) + (1 : Int32))) 43 13 ((s.1 43 13) + (1 : Int32)))).bind fun p16 =>
zyF197_83 g192 g193 g194 g195 g196 g197 x1 p16.1 p16.2
else
(g192 (zy_up (zy_up s 43 16 ((s.1 43 16) + (1 : Int32))) 43 13 ((s.1 43 13) + (1 : Int32)))).bind fun p17 =>
zyF197_83 g192 g193 g194 g195 g196 g197 x1 p17.1 p17.2
else
(zyF199 s).bind fun p19 =>
some (p19.1, p19.2)
theorem zyC197_32 {X : zx_X} {d : Nat} {g192 : zy_S → Option (Int32 × zy_S)} {g193 : zy_S → Option (Int32 × zy_S)} {g194 : zy_S → Option (Int32 × zy_S)} {g195 : zy_S → Option (Int32 × zy_S)} {g196 : zy_S → Option (Int32 × zy_S)} {g197 : zy_S → Option (Int32 × zy_S)}  (hd : 2 ≤ d) (hg192 : ∀  (s : zy_S) (r : Int32) (s' : zy_S), g192 s = some (r, s') → zyR X d 192 0 [some (.ref (43 + 3)), none, none] [] s (zyE (some (.int r)) s')) (hg193 : ∀  (s : zy_S) (r : Int32) (s' : zy_S), g193 s = some (r, s') → zyR X d 193 0 [some (.ref (43 + 3)), none, none] [] s (zyE (some (.int r)) s')) (hg194 : ∀  (s : zy_S) (r : Int32) (s' : zy_S), g194 s = some (r, s') → zyR X d 194 0 [some (.ref (43 + 3)), none, none, none] [] s (zyE (some (.int r)) s')) (hg195 : ∀  (s : zy_S) (r : Int32) (s' : zy_S), g195 s = some (r, s') → zyR X d 195 0 [some (.ref (43 + 3)), none, none, none] [] s (zyE (some (.int r)) s')) (hg196 : ∀  (s : zy_S) (r : Int32) (s' : zy_S), g196 s = some (r, s') → zyR X d 196 0 [some (.ref (43 + 3)), none, none, none] [] s (zyE (some (.int r)) s')) (hg197 : ∀  (s : zy_S) (r : Int32) (s' : zy_S), g197 s = some (r, s') → zyR X d 197 0 [some (.ref (43 + 3)), none, none, none, none] [] s (zyE (some (.int r)) s'))  {x1 : Int32} {s : zy_S} {r : Int32} {s' : zy_S}  (h : zyF197_32 g192 g193 g194 g195 g196 g197 x1 s = some (r, s')) : zyR X (d + 1) 197 32 [some (.ref (43 + 3)), some (.int x1), none, none, none] [] s (zyE (some (.int r)) s') := by
  unfold zyF197_32 at h
  refine zy_0 rfl rfl (show zyR _ _ _ _ [some (.ref (43 + 3)), some (.int x1), none, none, none] [.ref (43 + 3)] _ _ from ?_)
  refine zy_1 (c := 43) rfl rfl rfl (show zyR _ _ _ _ [some (.ref (43 + 3)), some (.int x1), none, none, none] [.int (s.1 43 16)] _ _ from ?_)
  refine zy_3 rfl rfl (show zyR _ _ _ _ [some (.ref (43 + 3)), some (.int x1), none, none, none] [.int (6 : Int32), .int (s.1 43 16)] _ _ from ?_)
  refine zy_25_1 rfl (fun b20 => (show zyR _ _ _ _ [some (.ref (43 + 3)), some (.int x1), none, none, none] [] _ _ from ?_)) (fun b20 => (show zyR _ _ _ _ [some (.ref (43 + 3)), some (.int x1), none, none, none] [] _ _ from ?_))
  · replace h := zy_ifp h b20
    refine zy_0 rfl rfl (show zyR _ _ _ _ [some (.ref (43 + 3)), some (.int x1), none, none, none] [.ref (43 + 3)] _ _ from ?_)
    refine zy_33 rfl rfl (show zyR _ _ _ _ [some (.ref (43 + 3)), some (.int x1), none, none, none] [.ref (43 + 3), .ref (43 + 3)] _ _ from ?_)
    refine zy_1 (c := 43) rfl rfl rfl (show zyR _ _ _ _ [some (.ref (43 + 3)), some (.int x1), none, none, none] [.int (s.1 43 16), .ref (43 + 3)] _ _ from ?_)
    refine zy_3 rfl rfl (show zyR _ _ _ _ [some (.ref (43 + 3)), some (.int x1), none, none, none] [.int (1 : Int32), .int (s.1 43 16), .ref (43 + 3)] _ _ from ?_)
    refine zy_10 rfl (show zyR _ _ _ _ [some (.ref (43 + 3)), some (.int x1), none, none, none] [.int ((s.1 43 16) + (1 : Int32)), .ref (43 + 3)] _ _ from ?_)
    refine zy_52 (c := 43) rfl rfl rfl (show zyR _ _ _ _ [some (.ref (43 + 3)), some (.int x1), none, none, none] [] _ _ from ?_)
    refine zy_0 rfl rfl (show zyR _ _ _ _ [some (.ref (43 + 3)), some (.int x1), none, none, none] [.ref (43 + 3)] _ _ from ?_)
    refine zy_33 rfl rfl (show zyR _ _ _ _ [some (.ref (43 + 3)), some (.int x1), none, none, none] [.ref (43 + 3), .ref (43 + 3)] _ _ from ?_)
    refine zy_1 (c := 43) rfl rfl rfl (show zyR _ _ _ _ [some (.ref (43 + 3)), some (.int x1), none, none, none] [.int (s.1 43 13), .ref (43 + 3)] _ _ from ?_)
    refine zy_3 rfl rfl (show zyR _ _ _ _ [some (.ref (43 + 3)), some (.int x1), none, none, none] [.int (1 : Int32), .int (s.1 43 13), .ref (43 + 3)] _ _ from ?_)
    refine zy_10 rfl (show zyR _ _ _ _ [some (.ref (43 + 3)), some (.int x1), none, none, none] [.int ((s.1 43 13) + (1 : Int32)), .ref (43 + 3)] _ _ from ?_)
    refine zy_52 (c := 43) rfl rfl rfl (show zyR _ _ _ _ [some (.ref (43 + 3)), some (.int x1), none, none, none] [] _ _ from ?_)
    refine zy_2 rfl rfl (show zyR _ _ _ _ [some (.ref (43 + 3)), some (.int x1), none, none, none] [.int x1] _ _ from ?_)
    refine zy_3 rfl rfl (show zyR _ _ _ _ [some (.ref (43 + 3)), some (.int x1), none, none, none] [.int (40 : Int32), .int x1] _ _ from ?_)
    refine zy_25_1 rfl (fun b18 => (show zyR _ _ _ _ [some (.ref (43 + 3)), some (.int x1), none, none, none] [] _ _ from ?_)) (fun b18 => (show zyR _ _ _ _ [some (.ref (43 + 3)), some (.int x1), none, none, none] [] _ _ from ?_))
    · replace h := zy_ifp h b18
      refine zy_0 rfl rfl (show zyR _ _ _ _ [some (.ref (43 + 3)), some (.int x1), none, none, none] [.ref (43 + 3)] _ _ from ?_)
      obtain ⟨p16, hp16, h⟩ := zy_bind h
      refine zy_5 (c := 43) (as := []) (rest := []) (L := [some (.ref (43 + 3)), none, none, none, none]) (d' := d) rfl rfl rfl (Nat.le_of_ble_eq_true rfl) (by omega) rfl (Nat.le_of_ble_eq_true rfl) rfl rfl (hg197 (zy_up (zy_up s 43 16 ((s.1 43 16) + (1 : Int32))) 43 13 ((s.1 43 13) + (1 : Int32))) _ _ hp16) ?_
      show zyR _ _ _ _ [some (.ref (43 + 3)), some (.int x1), none, none, none] [.int p16.1] _ _
      exact zy_sub (show zy_le [some (.ref (43 + 3)), some (.int x1), none, none, none] [some (.ref (43 + 3)), some (.int x1), none, none, none] from ⟨rfl, ⟨rfl, trivial⟩⟩) (zyC197_83 hd hg192 hg193 hg194 hg195 hg196 hg197 h)
    · replace h := zy_ifn h b18
      refine zy_0 rfl rfl (show zyR _ _ _ _ [some (.ref (43 + 3)), some (.int x1), none, none, none] [.ref (43 + 3)] _ _ from ?_)
      obtain ⟨p17, hp17, h⟩ := zy_bind h
      refine zy_5 (c := 43) (as := []) (rest := []) (L := [some (.ref (43 + 3)), none, none]) (d' := d) rfl rfl rfl (Nat.le_of_ble_eq_true rfl) (by omega) rfl (Nat.le_of_ble_eq_true rfl) rfl rfl (hg192 (zy_up (zy_up s 43 16 ((s.1 43 16) + (1 : Int32))) 43 13 ((s.1 43 13) + (1 : Int32))) _ _ hp17) ?_
      show zyR _ _ _ _ [some (.ref (43 + 3)), some (.int x1), none, none, none] [.int p17.1] _ _
      refine zy_6 rfl (show zyR _ _ _ _ [some (.ref (43 + 3)), some (.int x1), none, none, none] [.int p17.1] _ _ from ?_)
      exact zy_sub (show zy_le [some (.ref (43 + 3)), some (.int x1), none, none, none] [some (.ref (43 + 3)), some (.int x1), none, none, none] from ⟨rfl, ⟨rfl, trivial⟩⟩) (zyC197_83 hd hg192 hg193 hg194 hg195 hg196 hg197 h)
  · replace h := zy_ifn h b20
    refine zy_0 rfl rfl (show zyR _ _ _ _ [some (.ref (43 + 3)), some (.int x1), none, none, none] [.ref (43 + 3)] _ _ from ?_)
    obtain ⟨p19, hp19, h⟩ := zy_bind h
    refine zy_5 (c := 43) (as := []) (rest := []) (L := [some (.ref (43 + 3))]) (d' := 1) rfl rfl rfl (Nat.le_of_ble_eq_true rfl) (by omega) rfl (Nat.le_of_ble_eq_true rfl) rfl rfl (zyC199 hp19) ?_
    show zyR _ _ _ _ [some (.ref (43 + 3)), some (.int x1), none, none, none] [.int p19.1] _ _
    obtain ⟨rfl, rfl⟩ := zy_pi h
    exact zy_4 rfl ⟨rfl, rfl⟩
noncomputable def zyF197_0 (g192 : zy_S → Option (Int32 × zy_S)) (g193 : zy_S → Option (Int32 × zy_S)) (g194 : zy_S → Option (Int32 × zy_S)) (g195 : zy_S → Option (Int32 × zy_S)) (g196 : zy_S → Option (Int32 × zy_S)) (g197 : zy_S → Option (Int32 × zy_S))   (s : zy_S) : Option (Int32 × zy_S) :=
if (s.1 43 15) < 0 then
(zyF198 s).bind fun p21 =>
if p21.1 = (33 : Int32) then
zyF197_32 g192 g193 g194 g195 g196 g197 p21.1 p21.2
else
if p21.1 = (45 : Int32) then
zyF197_32 g192 g193 g194 g195 g196 g197 p21.1 p21.2
else
if p21.1 ≠ (40 : Int32) then
(zyF201 p21.1 p21.2).bind fun p22 =>
if p22.1 < 0 then
zyF197_176 g192 g193 g194 g195 g196 g197 zy_fu (0 : Int32) (0 : Int32) p22.2
else
if zy_in p22.1 6 then
some ((p22.2.1 50 (p22.1).toNatClampNeg), (zy_up p22.2 43 13 ((p22.2.1 43 13) + (1 : Int32))))
else none
else
zyF197_32 g192 g193 g194 g195 g196 g197 p21.1 p21.2
else
some ((0 : Int32), s)
theorem zyC197_0 {X : zx_X} {d : Nat} {g192 : zy_S → Option (Int32 × zy_S)} {g193 : zy_S → Option (Int32 × zy_S)} {g194 : zy_S → Option (Int32 × zy_S)} {g195 : zy_S → Option (Int32 × zy_S)} {g196 : zy_S → Option (Int32 × zy_S)} {g197 : zy_S → Option (Int32 × zy_S)}  (hd : 2 ≤ d) (hg192 : ∀  (s : zy_S) (r : Int32) (s' : zy_S), g192 s = some (r, s') → zyR X d 192 0 [some (.ref (43 + 3)), none, none] [] s (zyE (some (.int r)) s')) (hg193 : ∀  (s : zy_S) (r : Int32) (s' : zy_S), g193 s = some (r, s') → zyR X d 193 0 [some (.ref (43 + 3)), none, none] [] s (zyE (some (.int r)) s')) (hg194 : ∀  (s : zy_S) (r : Int32) (s' : zy_S), g194 s = some (r, s') → zyR X d 194 0 [some (.ref (43 + 3)), none, none, none] [] s (zyE (some (.int r)) s')) (hg195 : ∀  (s : zy_S) (r : Int32) (s' : zy_S), g195 s = some (r, s') → zyR X d 195 0 [some (.ref (43 + 3)), none, none, none] [] s (zyE (some (.int r)) s')) (hg196 : ∀  (s : zy_S) (r : Int32) (s' : zy_S), g196 s = some (r, s') → zyR X d 196 0 [some (.ref (43 + 3)), none, none, none] [] s (zyE (some (.int r)) s')) (hg197 : ∀  (s : zy_S) (r : Int32) (s' : zy_S), g197 s = some (r, s') → zyR X d 197 0 [some (.ref (43 + 3)), none, none, none, none] [] s (zyE (some (.int r)) s'))   {s : zy_S} {r : Int32} {s' : zy_S}  (h : zyF197_0 g192 g193 g194 g195 g196 g197 s = some (r, s')) : zyR X (d + 1) 197 0 [some (.ref (43 + 3)), none, none, none, none] [] s (zyE (some (.int r)) s') := by
  unfold zyF197_0 at h
  refine zy_0 rfl rfl (show zyR _ _ _ _ [some (.ref (43 + 3)), none, none, none, none] [.ref (43 + 3)] _ _ from ?_)
  refine zy_1 (c := 43) rfl rfl rfl (show zyR _ _ _ _ [some (.ref (43 + 3)), none, none, none, none] [.int (s.1 43 15)] _ _ from ?_)
  refine zy_24_2 rfl (fun b28 => (show zyR _ _ _ _ [some (.ref (43 + 3)), none, none, none, none] [] _ _ from ?_)) (fun b28 => (show zyR _ _ _ _ [some (.ref (43 + 3)), none, none, none, none] [] _ _ from ?_))
  · replace h := zy_ifp h b28
    refine zy_0 rfl rfl (show zyR _ _ _ _ [some (.ref (43 + 3)), none, none, none, none] [.ref (43 + 3)] _ _ from ?_)
    obtain ⟨p21, hp21, h⟩ := zy_bind h
    refine zy_5 (c := 43) (as := []) (rest := []) (L := [some (.ref (43 + 3))]) (d' := 1) rfl rfl rfl (Nat.le_of_ble_eq_true rfl) (by omega) rfl (Nat.le_of_ble_eq_true rfl) rfl rfl (zyC198 hp21) ?_
    show zyR _ _ _ _ [some (.ref (43 + 3)), none, none, none, none] [.int p21.1] _ _
    refine zy_23 rfl rfl (show zyR _ _ _ _ [some (.ref (43 + 3)), some (.int p21.1), none, none, none] [] _ _ from ?_)
    refine zy_2 rfl rfl (show zyR _ _ _ _ [some (.ref (43 + 3)), some (.int p21.1), none, none, none] [.int p21.1] _ _ from ?_)
    refine zy_3 rfl rfl (show zyR _ _ _ _ [some (.ref (43 + 3)), some (.int p21.1), none, none, none] [.int (33 : Int32), .int p21.1] _ _ from ?_)
    refine zy_25_0 rfl (fun b27 => (show zyR _ _ _ _ [some (.ref (43 + 3)), some (.int p21.1), none, none, none] [] _ _ from ?_)) (fun b27 => (show zyR _ _ _ _ [some (.ref (43 + 3)), some (.int p21.1), none, none, none] [] _ _ from ?_))
    · replace h := zy_ifp h b27
      exact zy_sub (show zy_le [some (.ref (43 + 3)), some (.int p21.1), none, none, none] [some (.ref (43 + 3)), some (.int p21.1), none, none, none] from ⟨rfl, ⟨rfl, trivial⟩⟩) (zyC197_32 hd hg192 hg193 hg194 hg195 hg196 hg197 h)
    · replace h := zy_ifn h b27
      refine zy_2 rfl rfl (show zyR _ _ _ _ [some (.ref (43 + 3)), some (.int p21.1), none, none, none] [.int p21.1] _ _ from ?_)
      refine zy_3 rfl rfl (show zyR _ _ _ _ [some (.ref (43 + 3)), some (.int p21.1), none, none, none] [.int (45 : Int32), .int p21.1] _ _ from ?_)
      refine zy_25_0 rfl (fun b26 => (show zyR _ _ _ _ [some (.ref (43 + 3)), some (.int p21.1), none, none, none] [] _ _ from ?_)) (fun b26 => (show zyR _ _ _ _ [some (.ref (43 + 3)), some (.int p21.1), none, none, none] [] _ _ from ?_))
      · replace h := zy_ifp h b26
        exact zy_sub (show zy_le [some (.ref (43 + 3)), some (.int p21.1), none, none, none] [some (.ref (43 + 3)), some (.int p21.1), none, none, none] from ⟨rfl, ⟨rfl, trivial⟩⟩) (zyC197_32 hd hg192 hg193 hg194 hg195 hg196 hg197 h)
      · replace h := zy_ifn h b26
        refine zy_2 rfl rfl (show zyR _ _ _ _ [some (.ref (43 + 3)), some (.int p21.1), none, none, none] [.int p21.1] _ _ from ?_)
        refine zy_3 rfl rfl (show zyR _ _ _ _ [some (.ref (43 + 3)), some (.int p21.1), none, none, none] [.int (40 : Int32), .int p21.1] _ _ from ?_)
        refine zy_25_1 rfl (fun b25 => (show zyR _ _ _ _ [some (.ref (43 + 3)), some (.int p21.1), none, none, none] [] _ _ from ?_)) (fun b25 => (show zyR _ _ _ _ [some (.ref (43 + 3)), some (.int p21.1), none, none, none] [] _ _ from ?_))
        · replace h := zy_ifp h b25
          refine zy_2 rfl rfl (show zyR _ _ _ _ [some (.ref (43 + 3)), some (.int p21.1), none, none, none] [.int p21.1] _ _ from ?_)
          obtain ⟨p22, hp22, h⟩ := zy_bind h
          refine zy_60 (as := [.int p21.1]) (rest := []) (L := [some (.int p21.1)]) (d' := 1) rfl rfl (Nat.le_of_ble_eq_true rfl) (by omega) rfl (Nat.le_of_ble_eq_true rfl) rfl rfl (zyC201 hp22) ?_
          show zyR _ _ _ _ [some (.ref (43 + 3)), some (.int p21.1), none, none, none] [.int p22.1] _ _
          refine zy_23 rfl rfl (show zyR _ _ _ _ [some (.ref (43 + 3)), some (.int p21.1), some (.int p22.1), none, none] [] _ _ from ?_)
          refine zy_2 rfl rfl (show zyR _ _ _ _ [some (.ref (43 + 3)), some (.int p21.1), some (.int p22.1), none, none] [.int p22.1] _ _ from ?_)
          refine zy_24_2 rfl (fun b24 => (show zyR _ _ _ _ [some (.ref (43 + 3)), some (.int p21.1), some (.int p22.1), none, none] [] _ _ from ?_)) (fun b24 => (show zyR _ _ _ _ [some (.ref (43 + 3)), some (.int p21.1), some (.int p22.1), none, none] [] _ _ from ?_))
          · replace h := zy_ifp h b24
            refine zy_3 rfl rfl (show zyR _ _ _ _ [some (.ref (43 + 3)), some (.int p21.1), some (.int p22.1), none, none] [.int (0 : Int32)] _ _ from ?_)
            refine zy_23 rfl rfl (show zyR _ _ _ _ [some (.ref (43 + 3)), some (.int p21.1), some (.int p22.1), some (.int (0 : Int32)), none] [] _ _ from ?_)
            refine zy_3 rfl rfl (show zyR _ _ _ _ [some (.ref (43 + 3)), some (.int p21.1), some (.int p22.1), some (.int (0 : Int32)), none] [.int (0 : Int32)] _ _ from ?_)
            refine zy_23 rfl rfl (show zyR _ _ _ _ [some (.ref (43 + 3)), some (.int p21.1), some (.int p22.1), some (.int (0 : Int32)), some (.int (0 : Int32))] [] _ _ from ?_)
            exact zy_sub (show zy_le [some (.ref (43 + 3)), none, none, some (.int (0 : Int32)), some (.int (0 : Int32))] [some (.ref (43 + 3)), some (.int p21.1), some (.int p22.1), some (.int (0 : Int32)), some (.int (0 : Int32))] from ⟨rfl, ⟨rfl, ⟨rfl, trivial⟩⟩⟩) (zyC197_176 hd hg192 hg193 hg194 hg195 hg196 hg197 zy_fu (0 : Int32) (0 : Int32) p22.2 _ _ h)
          · replace h := zy_ifn h b24
            refine zy_0 rfl rfl (show zyR _ _ _ _ [some (.ref (43 + 3)), some (.int p21.1), some (.int p22.1), none, none] [.ref (43 + 3)] _ _ from ?_)
            refine zy_33 rfl rfl (show zyR _ _ _ _ [some (.ref (43 + 3)), some (.int p21.1), some (.int p22.1), none, none] [.ref (43 + 3), .ref (43 + 3)] _ _ from ?_)
            refine zy_1 (c := 43) rfl rfl rfl (show zyR _ _ _ _ [some (.ref (43 + 3)), some (.int p21.1), some (.int p22.1), none, none] [.int (p22.2.1 43 13), .ref (43 + 3)] _ _ from ?_)
            refine zy_3 rfl rfl (show zyR _ _ _ _ [some (.ref (43 + 3)), some (.int p21.1), some (.int p22.1), none, none] [.int (1 : Int32), .int (p22.2.1 43 13), .ref (43 + 3)] _ _ from ?_)
            refine zy_10 rfl (show zyR _ _ _ _ [some (.ref (43 + 3)), some (.int p21.1), some (.int p22.1), none, none] [.int ((p22.2.1 43 13) + (1 : Int32)), .ref (43 + 3)] _ _ from ?_)
            refine zy_52 (c := 43) rfl rfl rfl (show zyR _ _ _ _ [some (.ref (43 + 3)), some (.int p21.1), some (.int p22.1), none, none] [] _ _ from ?_)
            refine zy_0 rfl rfl (show zyR _ _ _ _ [some (.ref (43 + 3)), some (.int p21.1), some (.int p22.1), none, none] [.ref (43 + 3)] _ _ from ?_)
            refine zy_1r (c := 43) rfl rfl rfl (show zyR _ _ _ _ [some (.ref (43 + 3)), some (.int p21.1), some (.int p22.1), none, none] [.ref (50 + 3)] _ _ from ?_)
            refine zy_2 rfl rfl (show zyR _ _ _ _ [some (.ref (43 + 3)), some (.int p21.1), some (.int p22.1), none, none] [.int p22.1, .ref (50 + 3)] _ _ from ?_)
            obtain ⟨c23, h⟩ := zy_if h
            refine zy_26 (c := 50) rfl rfl c23 (show zyR _ _ _ _ [some (.ref (43 + 3)), some (.int p21.1), some (.int p22.1), none, none] [.int (p22.2.1 50 (p22.1).toNatClampNeg)] _ _ from ?_)
            obtain ⟨rfl, rfl⟩ := zy_pi h
            exact zy_4 rfl ⟨rfl, rfl⟩
        · replace h := zy_ifn h b25
          exact zy_sub (show zy_le [some (.ref (43 + 3)), some (.int p21.1), none, none, none] [some (.ref (43 + 3)), some (.int p21.1), none, none, none] from ⟨rfl, ⟨rfl, trivial⟩⟩) (zyC197_32 hd hg192 hg193 hg194 hg195 hg196 hg197 h)
  · replace h := zy_ifn h b28
    refine zy_3 rfl rfl (show zyR _ _ _ _ [some (.ref (43 + 3)), none, none, none, none] [.int (0 : Int32)] _ _ from ?_)
    obtain ⟨rfl, rfl⟩ := zy_pi h
    exact zy_4 rfl ⟨rfl, rfl⟩
noncomputable def zyG192 (n : Nat) : (zy_S → Option (Int32 × zy_S)) × (zy_S → Option (Int32 × zy_S)) × (zy_S → Option (Int32 × zy_S)) × (zy_S → Option (Int32 × zy_S)) × (zy_S → Option (Int32 × zy_S)) × (zy_S → Option (Int32 × zy_S)) := Nat.rec ((fun _ => none), ((fun _ => none), ((fun _ => none), ((fun _ => none), ((fun _ => none), (fun _ => none)))))) (fun _ g => ((fun  s => zyF192_0 g.1 g.2.1 g.2.2.1 g.2.2.2.1 g.2.2.2.2.1 g.2.2.2.2.2  s), ((fun  s => zyF193_0 g.1 g.2.1 g.2.2.1 g.2.2.2.1 g.2.2.2.2.1 g.2.2.2.2.2  s), ((fun  s => zyF194_0 g.1 g.2.1 g.2.2.1 g.2.2.2.1 g.2.2.2.2.1 g.2.2.2.2.2  s), ((fun  s => zyF195_0 g.1 g.2.1 g.2.2.1 g.2.2.2.1 g.2.2.2.2.1 g.2.2.2.2.2  s), ((fun  s => zyF196_0 g.1 g.2.1 g.2.2.1 g.2.2.2.1 g.2.2.2.2.1 g.2.2.2.2.2  s), (fun  s => zyF197_0 g.1 g.2.1 g.2.2.1 g.2.2.2.1 g.2.2.2.2.1 g.2.2.2.2.2  s))))))) n
theorem zyG192_s (n : Nat) : zyG192 (n + 1) = ((fun  s => zyF192_0 (zyG192 n).1 (zyG192 n).2.1 (zyG192 n).2.2.1 (zyG192 n).2.2.2.1 (zyG192 n).2.2.2.2.1 (zyG192 n).2.2.2.2.2  s), ((fun  s => zyF193_0 (zyG192 n).1 (zyG192 n).2.1 (zyG192 n).2.2.1 (zyG192 n).2.2.2.1 (zyG192 n).2.2.2.2.1 (zyG192 n).2.2.2.2.2  s), ((fun  s => zyF194_0 (zyG192 n).1 (zyG192 n).2.1 (zyG192 n).2.2.1 (zyG192 n).2.2.2.1 (zyG192 n).2.2.2.2.1 (zyG192 n).2.2.2.2.2  s), ((fun  s => zyF195_0 (zyG192 n).1 (zyG192 n).2.1 (zyG192 n).2.2.1 (zyG192 n).2.2.2.1 (zyG192 n).2.2.2.2.1 (zyG192 n).2.2.2.2.2  s), ((fun  s => zyF196_0 (zyG192 n).1 (zyG192 n).2.1 (zyG192 n).2.2.1 (zyG192 n).2.2.2.1 (zyG192 n).2.2.2.2.1 (zyG192 n).2.2.2.2.2  s), (fun  s => zyF197_0 (zyG192 n).1 (zyG192 n).2.1 (zyG192 n).2.2.1 (zyG192 n).2.2.2.1 (zyG192 n).2.2.2.2.1 (zyG192 n).2.2.2.2.2  s)))))) := rfl
theorem zyS192 (n : Nat)  (s : zy_S) : (zyG192 (n + 1)).1 s = zyF192_0 (zyG192 n).1 (zyG192 n).2.1 (zyG192 n).2.2.1 (zyG192 n).2.2.2.1 (zyG192 n).2.2.2.2.1 (zyG192 n).2.2.2.2.2 s := by
  rw [zyG192_s]
theorem zyS193 (n : Nat)  (s : zy_S) : (zyG192 (n + 1)).2.1 s = zyF193_0 (zyG192 n).1 (zyG192 n).2.1 (zyG192 n).2.2.1 (zyG192 n).2.2.2.1 (zyG192 n).2.2.2.2.1 (zyG192 n).2.2.2.2.2 s := by
  rw [zyG192_s]
theorem zyS194 (n : Nat)  (s : zy_S) : (zyG192 (n + 1)).2.2.1 s = zyF194_0 (zyG192 n).1 (zyG192 n).2.1 (zyG192 n).2.2.1 (zyG192 n).2.2.2.1 (zyG192 n).2.2.2.2.1 (zyG192 n).2.2.2.2.2 s := by
  rw [zyG192_s]
theorem zyS195 (n : Nat)  (s : zy_S) : (zyG192 (n + 1)).2.2.2.1 s = zyF195_0 (zyG192 n).1 (zyG192 n).2.1 (zyG192 n).2.2.1 (zyG192 n).2.2.2.1 (zyG192 n).2.2.2.2.1 (zyG192 n).2.2.2.2.2 s := by
  rw [zyG192_s]
theorem zyS196 (n : Nat)  (s : zy_S) : (zyG192 (n + 1)).2.2.2.2.1 s = zyF196_0 (zyG192 n).1 (zyG192 n).2.1 (zyG192 n).2.2.1 (zyG192 n).2.2.2.1 (zyG192 n).2.2.2.2.1 (zyG192 n).2.2.2.2.2 s := by
  rw [zyG192_s]
theorem zyS197 (n : Nat)  (s : zy_S) : (zyG192 (n + 1)).2.2.2.2.2 s = zyF197_0 (zyG192 n).1 (zyG192 n).2.1 (zyG192 n).2.2.1 (zyG192 n).2.2.2.1 (zyG192 n).2.2.2.2.1 (zyG192 n).2.2.2.2.2 s := by
  rw [zyG192_s]
theorem zyG192_ok {X : zx_X} : ∀ n : Nat, (∀  (s : zy_S) (r : Int32) (s' : zy_S), (zyG192 n).1 s = some (r, s') → zyR X (2 + n) 192 0 [some (.ref (43 + 3)), none, none] [] s (zyE (some (.int r)) s')) ∧ (∀  (s : zy_S) (r : Int32) (s' : zy_S), (zyG192 n).2.1 s = some (r, s') → zyR X (2 + n) 193 0 [some (.ref (43 + 3)), none, none] [] s (zyE (some (.int r)) s')) ∧ (∀  (s : zy_S) (r : Int32) (s' : zy_S), (zyG192 n).2.2.1 s = some (r, s') → zyR X (2 + n) 194 0 [some (.ref (43 + 3)), none, none, none] [] s (zyE (some (.int r)) s')) ∧ (∀  (s : zy_S) (r : Int32) (s' : zy_S), (zyG192 n).2.2.2.1 s = some (r, s') → zyR X (2 + n) 195 0 [some (.ref (43 + 3)), none, none, none] [] s (zyE (some (.int r)) s')) ∧ (∀  (s : zy_S) (r : Int32) (s' : zy_S), (zyG192 n).2.2.2.2.1 s = some (r, s') → zyR X (2 + n) 196 0 [some (.ref (43 + 3)), none, none, none] [] s (zyE (some (.int r)) s')) ∧ (∀  (s : zy_S) (r : Int32) (s' : zy_S), (zyG192 n).2.2.2.2.2 s = some (r, s') → zyR X (2 + n) 197 0 [some (.ref (43 + 3)), none, none, none, none] [] s (zyE (some (.int r)) s'))
  | 0 => by
    refine ⟨?_, ?_, ?_, ?_, ?_, ?_⟩
    · intro  s r s'  h
      have h : (none : Option (Int32 × zy_S)) = some (r, s') := h
      cases h
    · intro  s r s'  h
      have h : (none : Option (Int32 × zy_S)) = some (r, s') := h
      cases h
    · intro  s r s'  h
      have h : (none : Option (Int32 × zy_S)) = some (r, s') := h
      cases h
    · intro  s r s'  h
      have h : (none : Option (Int32 × zy_S)) = some (r, s') := h
      cases h
    · intro  s r s'  h
      have h : (none : Option (Int32 × zy_S)) = some (r, s') := h
      cases h
    · intro  s r s'  h
      have h : (none : Option (Int32 × zy_S)) = some (r, s') := h
      cases h
  | n + 1 => by
    obtain ⟨i0, i1, i2, i3, i4, i5⟩ := zyG192_ok (X := X) n
    refine ⟨?_, ?_, ?_, ?_, ?_, ?_⟩
    · intro  s r s'  h
      rw [zyS192] at h
      exact zy_sub (show zy_le [some (.ref (43 + 3)), none, none] [some (.ref (43 + 3)), none, none] from ⟨rfl, trivial⟩) (zyC192_0 (d := 2 + n) (g192 := (zyG192 n).1) (g193 := (zyG192 n).2.1) (g194 := (zyG192 n).2.2.1) (g195 := (zyG192 n).2.2.2.1) (g196 := (zyG192 n).2.2.2.2.1) (g197 := (zyG192 n).2.2.2.2.2) (by omega) i0 i1 i2 i3 i4 i5  h)
    · intro  s r s'  h
      rw [zyS193] at h
      exact zy_sub (show zy_le [some (.ref (43 + 3)), none, none] [some (.ref (43 + 3)), none, none] from ⟨rfl, trivial⟩) (zyC193_0 (d := 2 + n) (g192 := (zyG192 n).1) (g193 := (zyG192 n).2.1) (g194 := (zyG192 n).2.2.1) (g195 := (zyG192 n).2.2.2.1) (g196 := (zyG192 n).2.2.2.2.1) (g197 := (zyG192 n).2.2.2.2.2) (by omega) i0 i1 i2 i3 i4 i5  h)
    · intro  s r s'  h
      rw [zyS194] at h
      exact zy_sub (show zy_le [some (.ref (43 + 3)), none, none, none] [some (.ref (43 + 3)), none, none, none] from ⟨rfl, trivial⟩) (zyC194_0 (d := 2 + n) (g192 := (zyG192 n).1) (g193 := (zyG192 n).2.1) (g194 := (zyG192 n).2.2.1) (g195 := (zyG192 n).2.2.2.1) (g196 := (zyG192 n).2.2.2.2.1) (g197 := (zyG192 n).2.2.2.2.2) (by omega) i0 i1 i2 i3 i4 i5  h)
    · intro  s r s'  h
      rw [zyS195] at h
      exact zy_sub (show zy_le [some (.ref (43 + 3)), none, none, none] [some (.ref (43 + 3)), none, none, none] from ⟨rfl, trivial⟩) (zyC195_0 (d := 2 + n) (g192 := (zyG192 n).1) (g193 := (zyG192 n).2.1) (g194 := (zyG192 n).2.2.1) (g195 := (zyG192 n).2.2.2.1) (g196 := (zyG192 n).2.2.2.2.1) (g197 := (zyG192 n).2.2.2.2.2) (by omega) i0 i1 i2 i3 i4 i5  h)
    · intro  s r s'  h
      rw [zyS196] at h
      exact zy_sub (show zy_le [some (.ref (43 + 3)), none, none, none] [some (.ref (43 + 3)), none, none, none] from ⟨rfl, trivial⟩) (zyC196_0 (d := 2 + n) (g192 := (zyG192 n).1) (g193 := (zyG192 n).2.1) (g194 := (zyG192 n).2.2.1) (g195 := (zyG192 n).2.2.2.1) (g196 := (zyG192 n).2.2.2.2.1) (g197 := (zyG192 n).2.2.2.2.2) (by omega) i0 i1 i2 i3 i4 i5  h)
    · intro  s r s'  h
      rw [zyS197] at h
      exact zy_sub (show zy_le [some (.ref (43 + 3)), none, none, none, none] [some (.ref (43 + 3)), none, none, none, none] from ⟨rfl, trivial⟩) (zyC197_0 (d := 2 + n) (g192 := (zyG192 n).1) (g193 := (zyG192 n).2.1) (g194 := (zyG192 n).2.2.1) (g195 := (zyG192 n).2.2.2.1) (g196 := (zyG192 n).2.2.2.2.1) (g197 := (zyG192 n).2.2.2.2.2) (by omega) i0 i1 i2 i3 i4 i5  h)
noncomputable def zyF192 : zy_S → Option (Int32 × zy_S) := (zyG192 100).1
theorem zyC192 {X : zx_X}  {s : zy_S} {r : Int32} {s' : zy_S}  (h : zyF192 s = some (r, s')) : zyR X 102 192 0 [some (.ref (43 + 3)), none, none] [] s (zyE (some (.int r)) s') := (zyG192_ok (X := X) 100).1  s r s'  h
noncomputable def zyF193 : zy_S → Option (Int32 × zy_S) := (zyG192 100).2.1
theorem zyC193 {X : zx_X}  {s : zy_S} {r : Int32} {s' : zy_S}  (h : zyF193 s = some (r, s')) : zyR X 102 193 0 [some (.ref (43 + 3)), none, none] [] s (zyE (some (.int r)) s') := (zyG192_ok (X := X) 100).2.1  s r s'  h
noncomputable def zyF194 : zy_S → Option (Int32 × zy_S) := (zyG192 100).2.2.1
theorem zyC194 {X : zx_X}  {s : zy_S} {r : Int32} {s' : zy_S}  (h : zyF194 s = some (r, s')) : zyR X 102 194 0 [some (.ref (43 + 3)), none, none, none] [] s (zyE (some (.int r)) s') := (zyG192_ok (X := X) 100).2.2.1  s r s'  h
noncomputable def zyF195 : zy_S → Option (Int32 × zy_S) := (zyG192 100).2.2.2.1
theorem zyC195 {X : zx_X}  {s : zy_S} {r : Int32} {s' : zy_S}  (h : zyF195 s = some (r, s')) : zyR X 102 195 0 [some (.ref (43 + 3)), none, none, none] [] s (zyE (some (.int r)) s') := (zyG192_ok (X := X) 100).2.2.2.1  s r s'  h
noncomputable def zyF196 : zy_S → Option (Int32 × zy_S) := (zyG192 100).2.2.2.2.1
theorem zyC196 {X : zx_X}  {s : zy_S} {r : Int32} {s' : zy_S}  (h : zyF196 s = some (r, s')) : zyR X 102 196 0 [some (.ref (43 + 3)), none, none, none] [] s (zyE (some (.int r)) s') := (zyG192_ok (X := X) 100).2.2.2.2.1  s r s'  h
noncomputable def zyF197 : zy_S → Option (Int32 × zy_S) := (zyG192 100).2.2.2.2.2
theorem zyC197 {X : zx_X}  {s : zy_S} {r : Int32} {s' : zy_S}  (h : zyF197 s = some (r, s')) : zyR X 102 197 0 [some (.ref (43 + 3)), none, none, none, none] [] s (zyE (some (.int r)) s') := (zyG192_ok (X := X) 100).2.2.2.2.2  s r s'  h
