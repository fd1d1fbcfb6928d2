/-! PART 41.77: methods as functions. Made by wip/v4/dcp.py. -/
/-! NineOpinionsModel.either()I, over what it calls -/
noncomputable def zyF192_32 (g192 : zy_S → Option (Int32 × zy_S)) (g193 : zy_S → Option (Int32 × zy_S)) (g194 : zy_S → Option (Int32 × zy_S)) (g195 : zy_S → Option (Int32 × zy_S)) (g196 : zy_S → Option (Int32 × zy_S)) (g197 : zy_S → Option (Int32 × zy_S)) (k5 : Int32 → zy_S → Option (Int32 × zy_S)) (y0 : Int32) (s : zy_S) : Option (Int32 × zy_S) :=
k5 y0 s
theorem zyC192_32 {X : zx_X} {d : Nat} {g192 : zy_S → Option (Int32 × zy_S)} {g193 : zy_S → Option (Int32 × zy_S)} {g194 : zy_S → Option (Int32 × zy_S)} {g195 : zy_S → Option (Int32 × zy_S)} {g196 : zy_S → Option (Int32 × zy_S)} {g197 : zy_S → Option (Int32 × zy_S)} {k5 : Int32 → zy_S → Option (Int32 × zy_S)} (hd : 2 ≤ d) (hg192 : ∀  (s : zy_S) (r : Int32) (s' : zy_S), g192 s = some (r, s') → zyR X d 192 0 [some (.ref (43 + 3)), none, none] [] s (zyE (some (.int r)) s')) (hg193 : ∀  (s : zy_S) (r : Int32) (s' : zy_S), g193 s = some (r, s') → zyR X d 193 0 [some (.ref (43 + 3)), none, none] [] s (zyE (some (.int r)) s')) (hg194 : ∀  (s : zy_S) (r : Int32) (s' : zy_S), g194 s = some (r, s') → zyR X d 194 0 [some (.ref (43 + 3)), none, none, none] [] s (zyE (some (.int r)) s')) (hg195 : ∀  (s : zy_S) (r : Int32) (s' : zy_S), g195 s = some (r, s') → zyR X d 195 0 [some (.ref (43 + 3)), none, none, none] [] s (zyE (some (.int r)) s')) (hg196 : ∀  (s : zy_S) (r : Int32) (s' : zy_S), g196 s = some (r, s') → zyR X d 196 0 [some (.ref (43 + 3)), none, none, none] [] s (zyE (some (.int r)) s')) (hg197 : ∀  (s : zy_S) (r : Int32) (s' : zy_S), g197 s = some (r, s') → zyR X d 197 0 [some (.ref (43 + 3)), none, none, none, none] [] s (zyE (some (.int r)) s')) (hk5 : ∀ (x1 : Int32) (s : zy_S) (r : Int32) (s' : zy_S), k5 x1 s = some (r, s') → zyR X (d + 1) 192 5 [some (.ref (43 + 3)), some (.int x1), none] [] s (zyE (some (.int r)) s')) {y0 : Int32} {s : zy_S} {r : Int32} {s' : zy_S}  (h : zyF192_32 g192 g193 g194 g195 g196 g197 k5 y0 s = some (r, s')) : zyR X (d + 1) 192 32 [some (.ref (43 + 3)), none, none] [.int y0] s (zyE (some (.int r)) s') := by
  unfold zyF192_32 at h
  refine zy_23 rfl rfl (show zyR _ _ _ _ [some (.ref (43 + 3)), some (.int y0), none] [] _ _ from ?_)
  refine zy_6 rfl (show zyR _ _ _ _ [some (.ref (43 + 3)), some (.int y0), none] [] _ _ from ?_)
  exact zy_sub (show zy_le [some (.ref (43 + 3)), some (.int y0), none] [some (.ref (43 + 3)), some (.int y0), none] from ⟨rfl, ⟨rfl, trivial⟩⟩) (hk5 y0 s _ _ h)
noncomputable def zyF192_27 (g192 : zy_S → Option (Int32 × zy_S)) (g193 : zy_S → Option (Int32 × zy_S)) (g194 : zy_S → Option (Int32 × zy_S)) (g195 : zy_S → Option (Int32 × zy_S)) (g196 : zy_S → Option (Int32 × zy_S)) (g197 : zy_S → Option (Int32 × zy_S)) (k5 : Int32 → zy_S → Option (Int32 × zy_S))  (s : zy_S) : Option (Int32 × zy_S) :=
zyF192_32 g192 g193 g194 g195 g196 g197 k5 (1 : Int32) s
theorem zyC192_27 {X : zx_X} {d : Nat} {g192 : zy_S → Option (Int32 × zy_S)} {g193 : zy_S → Option (Int32 × zy_S)} {g194 : zy_S → Option (Int32 × zy_S)} {g195 : zy_S → Option (Int32 × zy_S)} {g196 : zy_S → Option (Int32 × zy_S)} {g197 : zy_S → Option (Int32 × zy_S)} {k5 : Int32 → zy_S → Option (Int32 × zy_S)} (hd : 2 ≤ d) (hg192 : ∀  (s : zy_S) (r : Int32) (s' : zy_S), g192 s = some (r, s') → zyR X d 192 0 [some (.ref (43 + 3)), none, none] [] s (zyE (some (.int r)) s')) (hg193 : ∀  (s : zy_S) (r : Int32) (s' : zy_S), g193 s = some (r, s') → zyR X d 193 0 [some (.ref (43 + 3)), none, none] [] s (zyE (some (.int r)) s')) (hg194 : ∀  (s : zy_S) (r : Int32) (s' : zy_S), g194 s = some (r, s') → zyR X d 194 0 [some (.ref (43 + 3)), none, none, none] [] s (zyE (some (.int r)) s')) (hg195 : ∀  (s : zy_S) (r : Int32) (s' : zy_S), g195 s = some (r, s') → zyR X d 195 0 [some (.ref (43 + 3)), none, none, none] [] s (zyE (some (.int r)) s')) (hg196 : ∀  (s : zy_S) (r : Int32) (s' : zy_S), g196 s = some (r, s') → zyR X d 196 0 [some (.ref (43 + 3)), none, none, none] [] s (zyE (some (.int r)) s')) (hg197 : ∀  (s : zy_S) (r : Int32) (s' : zy_S), g197 s = some (r, s') → zyR X d 197 0 [some (.ref (43 + 3)), none, none, none, none] [] s (zyE (some (.int r)) s')) (hk5 : ∀ (x1 : Int32) (s : zy_S) (r : Int32) (s' : zy_S), k5 x1 s = some (r, s') → zyR X (d + 1) 192 5 [some (.ref (43 + 3)), some (.int x1), none] [] s (zyE (some (.int r)) s'))  {s : zy_S} {r : Int32} {s' : zy_S}  (h : zyF192_27 g192 g193 g194 g195 g196 g197 k5 s = some (r, s')) : zyR X (d + 1) 192 27 [some (.ref (43 + 3)), none, none] [] s (zyE (some (.int r)) s') := by
  unfold zyF192_27 at h
  refine zy_3 rfl rfl (show zyR _ _ _ _ [some (.ref (43 + 3)), none, none] [.int (1 : Int32)] _ _ from ?_)
  refine zy_6 rfl (show zyR _ _ _ _ [some (.ref (43 + 3)), none, none] [.int (1 : Int32)] _ _ from ?_)
  exact zy_sub (show zy_le [some (.ref (43 + 3)), none, none] [some (.ref (43 + 3)), none, none] from ⟨rfl, trivial⟩) (zyC192_32 hd hg192 hg193 hg194 hg195 hg196 hg197 hk5 h)
noncomputable def zyF192_5b (g192 : zy_S → Option (Int32 × zy_S)) (g193 : zy_S → Option (Int32 × zy_S)) (g194 : zy_S → Option (Int32 × zy_S)) (g195 : zy_S → Option (Int32 × zy_S)) (g196 : zy_S → Option (Int32 × zy_S)) (g197 : zy_S → Option (Int32 × zy_S)) (k5 : Int32 → zy_S → Option (Int32 × zy_S)) (x1 : Int32) (s : zy_S) : Option (Int32 × zy_S) :=
(zyF200 (124 : Int32) s).bind fun p1 =>
if p1.1 = 0 then
some (x1, p1.2)
else
(g193 p1.2).bind fun p2 =>
if x1 ≠ 0 then
zyF192_27 g192 g193 g194 g195 g196 g197 k5 p2.2
else
if p2.1 = 0 then
zyF192_32 g192 g193 g194 g195 g196 g197 k5 (0 : Int32) p2.2
else
zyF192_27 g192 g193 g194 g195 g196 g197 k5 p2.2
theorem zyC192_5b {X : zx_X} {d : Nat} {g192 : zy_S → Option (Int32 × zy_S)} {g193 : zy_S → Option (Int32 × zy_S)} {g194 : zy_S → Option (Int32 × zy_S)} {g195 : zy_S → Option (Int32 × zy_S)} {g196 : zy_S → Option (Int32 × zy_S)} {g197 : zy_S → Option (Int32 × zy_S)} {k5 : Int32 → zy_S → Option (Int32 × zy_S)} (hd : 2 ≤ d) (hg192 : ∀  (s : zy_S) (r : Int32) (s' : zy_S), g192 s = some (r, s') → zyR X d 192 0 [some (.ref (43 + 3)), none, none] [] s (zyE (some (.int r)) s')) (hg193 : ∀  (s : zy_S) (r : Int32) (s' : zy_S), g193 s = some (r, s') → zyR X d 193 0 [some (.ref (43 + 3)), none, none] [] s (zyE (some (.int r)) s')) (hg194 : ∀  (s : zy_S) (r : Int32) (s' : zy_S), g194 s = some (r, s') → zyR X d 194 0 [some (.ref (43 + 3)), none, none, none] [] s (zyE (some (.int r)) s')) (hg195 : ∀  (s : zy_S) (r : Int32) (s' : zy_S), g195 s = some (r, s') → zyR X d 195 0 [some (.ref (43 + 3)), none, none, none] [] s (zyE (some (.int r)) s')) (hg196 : ∀  (s : zy_S) (r : Int32) (s' : zy_S), g196 s = some (r, s') → zyR X d 196 0 [some (.ref (43 + 3)), none, none, none] [] s (zyE (some (.int r)) s')) (hg197 : ∀  (s : zy_S) (r : Int32) (s' : zy_S), g197 s = some (r, s') → zyR X d 197 0 [some (.ref (43 + 3)), none, none, none, none] [] s (zyE (some (.int r)) s')) (hk5 : ∀ (x1 : Int32) (s : zy_S) (r : Int32) (s' : zy_S), k5 x1 s = some (r, s') → zyR X (d + 1) 192 5 [some (.ref (43 + 3)), some (.int x1), none] [] s (zyE (some (.int r)) s')) {x1 : Int32} {s : zy_S} {r : Int32} {s' : zy_S}  (h : zyF192_5b g192 g193 g194 g195 g196 g197 k5 x1 s = some (r, s')) : zyR X (d + 1) 192 5 [some (.ref (43 + 3)), some (.int x1), none] [] s (zyE (some (.int r)) s') := by
  unfold zyF192_5b at h
  refine zy_0 rfl rfl (show zyR _ _ _ _ [some (.ref (43 + 3)), some (.int x1), none] [.ref (43 + 3)] _ _ from ?_)
  refine zy_3 rfl rfl (show zyR _ _ _ _ [some (.ref (43 + 3)), some (.int x1), none] [.int (124 : Int32), .ref (43 + 3)] _ _ from ?_)
  obtain ⟨p1, hp1, h⟩ := zy_bind h
  refine zy_5 (c := 43) (as := [.int (124 : Int32)]) (rest := []) (L := [some (.ref (43 + 3)), some (.int (124 : Int32))]) (d' := 2) rfl rfl rfl (Nat.le_of_ble_eq_true rfl) (by omega) rfl (Nat.le_of_ble_eq_true rfl) rfl rfl (zyC200 hp1) ?_
  show zyR _ _ _ _ [some (.ref (43 + 3)), some (.int x1), none] [.int p1.1] _ _
  refine zy_24_0 rfl (fun b5 => (show zyR _ _ _ _ [some (.ref (43 + 3)), some (.int x1), none] [] _ _ from ?_)) (fun b5 => (show zyR _ _ _ _ [some (.ref (43 + 3)), some (.int x1), none] [] _ _ from ?_))
  · replace h := zy_ifp h b5
    refine zy_2 rfl rfl (show zyR _ _ _ _ [some (.ref (43 + 3)), some (.int x1), none] [.int x1] _ _ from ?_)
    obtain ⟨rfl, rfl⟩ := zy_pi h
    exact zy_4 rfl ⟨rfl, rfl⟩
  · replace h := zy_ifn h b5
    refine zy_0 rfl rfl (show zyR _ _ _ _ [some (.ref (43 + 3)), some (.int x1), none] [.ref (43 + 3)] _ _ from ?_)
    obtain ⟨p2, hp2, h⟩ := zy_bind h
    refine zy_5 (c := 43) (as := []) (rest := []) (L := [some (.ref (43 + 3)), none, none]) (d' := d) rfl rfl rfl (Nat.le_of_ble_eq_true rfl) (by omega) rfl (Nat.le_of_ble_eq_true rfl) rfl rfl (hg193 p1.2 _ _ hp2) ?_
    show zyR _ _ _ _ [some (.ref (43 + 3)), some (.int x1), none] [.int p2.1] _ _
    refine zy_23 rfl rfl (show zyR _ _ _ _ [some (.ref (43 + 3)), some (.int x1), some (.int p2.1)] [] _ _ from ?_)
    refine zy_2 rfl rfl (show zyR _ _ _ _ [some (.ref (43 + 3)), some (.int x1), some (.int p2.1)] [.int x1] _ _ from ?_)
    refine zy_24_1 rfl (fun b4 => (show zyR _ _ _ _ [some (.ref (43 + 3)), some (.int x1), some (.int p2.1)] [] _ _ from ?_)) (fun b4 => (show zyR _ _ _ _ [some (.ref (43 + 3)), some (.int x1), some (.int p2.1)] [] _ _ from ?_))
    · replace h := zy_ifp h b4
      exact zy_sub (show zy_le [some (.ref (43 + 3)), none, none] [some (.ref (43 + 3)), some (.int x1), some (.int p2.1)] from ⟨rfl, trivial⟩) (zyC192_27 hd hg192 hg193 hg194 hg195 hg196 hg197 hk5 h)
    · replace h := zy_ifn h b4
      refine zy_2 rfl rfl (show zyR _ _ _ _ [some (.ref (43 + 3)), some (.int x1), some (.int p2.1)] [.int p2.1] _ _ from ?_)
      refine zy_24_0 rfl (fun b3 => (show zyR _ _ _ _ [some (.ref (43 + 3)), some (.int x1), some (.int p2.1)] [] _ _ from ?_)) (fun b3 => (show zyR _ _ _ _ [some (.ref (43 + 3)), some (.int x1), some (.int p2.1)] [] _ _ from ?_))
      · replace h := zy_ifp h b3
        refine zy_3 rfl rfl (show zyR _ _ _ _ [some (.ref (43 + 3)), some (.int x1), some (.int p2.1)] [.int (0 : Int32)] _ _ from ?_)
        exact zy_sub (show zy_le [some (.ref (43 + 3)), none, none] [some (.ref (43 + 3)), some (.int x1), some (.int p2.1)] from ⟨rfl, trivial⟩) (zyC192_32 hd hg192 hg193 hg194 hg195 hg196 hg197 hk5 h)
      · replace h := zy_ifn h b3
        exact zy_sub (show zy_le [some (.ref (43 + 3)), none, none] [some (.ref (43 + 3)), some (.int x1), some (.int p2.1)] from ⟨rfl, trivial⟩) (zyC192_27 hd hg192 hg193 hg194 hg195 hg196 hg197 hk5 h)
noncomputable def zyF192_5 (g192 : zy_S → Option (Int32 × zy_S)) (g193 : zy_S → Option (Int32 × zy_S)) (g194 : zy_S → Option (Int32 × zy_S)) (g195 : zy_S → Option (Int32 × zy_S)) (g196 : zy_S → Option (Int32 × zy_S)) (g197 : zy_S → Option (Int32 × zy_S))  (n : Nat) : Int32 → zy_S → Option (Int32 × zy_S) := Nat.rec (fun _ _ => none) (fun _ k5 => zyF192_5b g192 g193 g194 g195 g196 g197 k5) n
theorem zyC192_5 {X : zx_X} {d : Nat} {g192 : zy_S → Option (Int32 × zy_S)} {g193 : zy_S → Option (Int32 × zy_S)} {g194 : zy_S → Option (Int32 × zy_S)} {g195 : zy_S → Option (Int32 × zy_S)} {g196 : zy_S → Option (Int32 × zy_S)} {g197 : zy_S → Option (Int32 × zy_S)}  (hd : 2 ≤ d) (hg192 : ∀  (s : zy_S) (r : Int32) (s' : zy_S), g192 s = some (r, s') → zyR X d 192 0 [some (.ref (43 + 3)), none, none] [] s (zyE (some (.int r)) s')) (hg193 : ∀  (s : zy_S) (r : Int32) (s' : zy_S), g193 s = some (r, s') → zyR X d 193 0 [some (.ref (43 + 3)), none, none] [] s (zyE (some (.int r)) s')) (hg194 : ∀  (s : zy_S) (r : Int32) (s' : zy_S), g194 s = some (r, s') → zyR X d 194 0 [some (.ref (43 + 3)), none, none, none] [] s (zyE (some (.int r)) s')) (hg195 : ∀  (s : zy_S) (r : Int32) (s' : zy_S), g195 s = some (r, s') → zyR X d 195 0 [some (.ref (43 + 3)), none, none, none] [] s (zyE (some (.int r)) s')) (hg196 : ∀  (s : zy_S) (r : Int32) (s' : zy_S), g196 s = some (r, s') → zyR X d 196 0 [some (.ref (43 + 3)), none, none, none] [] s (zyE (some (.int r)) s')) (hg197 : ∀  (s : zy_S) (r : Int32) (s' : zy_S), g197 s = some (r, s') → zyR X d 197 0 [some (.ref (43 + 3)), none, none, none, none] [] s (zyE (some (.int r)) s'))  : ∀ (n : Nat) (x1 : Int32) (s : zy_S) (r : Int32) (s' : zy_S), zyF192_5 g192 g193 g194 g195 g196 g197 n x1 s = some (r, s') → zyR X (d + 1) 192 5 [some (.ref (43 + 3)), some (.int x1), none] [] s (zyE (some (.int r)) s')
  | 0, _ => by
    intro s r s'  h
    have h : (none : Option (Int32 × zy_S)) = some (r, s') := h
    cases h
  | n + 1, x1 => by
    intro s r s'  h
    exact zyC192_5b hd hg192 hg193 hg194 hg195 hg196 hg197 (k5 := zyF192_5 g192 g193 g194 g195 g196 g197 n) (fun x1 s r s'  h => zyC192_5 hd hg192 hg193 hg194 hg195 hg196 hg197 n x1 s r s'  h) h
noncomputable def zyF192_0 (g192 : zy_S → Option (Int32 × zy_S)) (g193 : zy_S → Option (Int32 × zy_S)) (g194 : zy_S → Option (Int32 × zy_S)) (g195 : zy_S → Option (Int32 × zy_S)) (g196 : zy_S → Option (Int32 × zy_S)) (g197 : zy_S → Option (Int32 × zy_S))   (s : zy_S) : Option (Int32 × zy_S) :=
(g193 s).bind fun p6 =>
zyF192_5 g192 g193 g194 g195 g196 g197 zy_fu p6.1 p6.2
theorem zyC192_0 {X : zx_X} {d : Nat} {g192 : zy_S → Option (Int32 × zy_S)} {g193 : zy_S → Option (Int32 × zy_S)} {g194 : zy_S → Option (Int32 × zy_S)} {g195 : zy_S → Option (Int32 × zy_S)} {g196 : zy_S → Option (Int32 × zy_S)} {g197 : zy_S → Option (Int32 × zy_S)}  (hd : 2 ≤ d) (hg192 : ∀  (s : zy_S) (r : Int32) (s' : zy_S), g192 s = some (r, s') → zyR X d 192 0 [some (.ref (43 + 3)), none, none] [] s (zyE (some (.int r)) s')) (hg193 : ∀  (s : zy_S) (r : Int32) (s' : zy_S), g193 s = some (r, s') → zyR X d 193 0 [some (.ref (43 + 3)), none, none] [] s (zyE (some (.int r)) s')) (hg194 : ∀  (s : zy_S) (r : Int32) (s' : zy_S), g194 s = some (r, s') → zyR X d 194 0 [some (.ref (43 + 3)), none, none, none] [] s (zyE (some (.int r)) s')) (hg195 : ∀  (s : zy_S) (r : Int32) (s' : zy_S), g195 s = some (r, s') → zyR X d 195 0 [some (.ref (43 + 3)), none, none, none] [] s (zyE (some (.int r)) s')) (hg196 : ∀  (s : zy_S) (r : Int32) (s' : zy_S), g196 s = some (r, s') → zyR X d 196 0 [some (.ref (43 + 3)), none, none, none] [] s (zyE (some (.int r)) s')) (hg197 : ∀  (s : zy_S) (r : Int32) (s' : zy_S), g197 s = some (r, s') → zyR X d 197 0 [some (.ref (43 + 3)), none, none, none, none] [] s (zyE (some (.int r)) s'))   {s : zy_S} {r : Int32} {s' : zy_S}  (h : zyF192_0 g192 g193 g194 g195 g196 g197 s = some (r, s')) : zyR X (d + 1) 192 0 [some (.ref (43 + 3)), none, none] [] s (zyE (some (.int r)) s') := by
  unfold zyF192_0 at h
  refine zy_0 rfl rfl (show zyR _ _ _ _ [some (.ref (43 + 3)), none, none] [.ref (43 + 3)] _ _ from ?_)
  obtain ⟨p6, hp6, h⟩ := zy_bind h
  refine zy_5 (c := 43) (as := []) (rest := []) (L := [some (.ref (43 + 3)), none, none]) (d' := d) rfl rfl rfl (Nat.le_of_ble_eq_true rfl) (by omega) rfl (Nat.le_of_ble_eq_true rfl) rfl rfl (hg193 s _ _ hp6) ?_
  show zyR _ _ _ _ [some (.ref (43 + 3)), none, none] [.int p6.1] _ _
  refine zy_23 rfl rfl (show zyR _ _ _ _ [some (.ref (43 + 3)), some (.int p6.1), none] [] _ _ from ?_)
  exact zy_sub (show zy_le [some (.ref (43 + 3)), some (.int p6.1), none] [some (.ref (43 + 3)), some (.int p6.1), none] from ⟨rfl, ⟨rfl, trivial⟩⟩) (zyC192_5 hd hg192 hg193 hg194 hg195 hg196 hg197 zy_fu p6.1 p6.2 _ _ h)
