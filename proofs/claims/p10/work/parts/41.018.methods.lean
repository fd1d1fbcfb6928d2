/-! PART 41.18: methods as functions. Made by wip/v4/dcp.py. -/
/-! NineOpinionsModel.lines(I)I -/
noncomputable def zyF220_127  (k18 : Int32 → Int32 → Int32 → zy_S → Option (Int32 × zy_S)) (x1 : Int32) (x3 : Int32) (y0 : Int32) (y1 : Int32) (s : zy_S) : Option (Int32 × zy_S) :=
k18 x1 (y1 ||| y0) (x3 + (1 : Int32)) s
theorem zyC220_127 {X : zx_X}  {k18 : Int32 → Int32 → Int32 → zy_S → Option (Int32 × zy_S)}  (hk18 : ∀ (x1 : Int32) (x2 : Int32) (x3 : Int32) (s : zy_S) (r : Int32) (s' : zy_S), k18 x1 x2 x3 s = some (r, s') → zyR X 5 220 18 [some (.ref (43 + 3)), some (.int x1), some (.int x2), some (.int x3), none] [] s (zyE (some (.int r)) s')) {x1 : Int32} {x3 : Int32} {y0 : Int32} {y1 : Int32} {s : zy_S} {r : Int32} {s' : zy_S}  (h : zyF220_127 k18 x1 x3 y0 y1 s = some (r, s')) : zyR X 5 220 127 [some (.ref (43 + 3)), some (.int x1), none, some (.int x3), none] [.int y0, .int y1] s (zyE (some (.int r)) s') := by
  unfold zyF220_127 at h
  refine zy_14 rfl (show zyR _ _ _ _ [some (.ref (43 + 3)), some (.int x1), none, some (.int x3), none] [.int (y1 ||| y0)] _ _ from ?_)
  refine zy_23 rfl rfl (show zyR _ _ _ _ [some (.ref (43 + 3)), some (.int x1), some (.int (y1 ||| y0)), some (.int x3), none] [] _ _ from ?_)
  refine zy_22 rfl rfl rfl rfl (show zyR _ _ _ _ [some (.ref (43 + 3)), some (.int x1), some (.int (y1 ||| y0)), some (.int (x3 + (1 : Int32))), none] [] _ _ from ?_)
  refine zy_6 rfl (show zyR _ _ _ _ [some (.ref (43 + 3)), some (.int x1), some (.int (y1 ||| y0)), some (.int (x3 + (1 : Int32))), none] [] _ _ from ?_)
  exact zy_sub (show zy_le [some (.ref (43 + 3)), some (.int x1), some (.int (y1 ||| y0)), some (.int (x3 + (1 : Int32))), none] [some (.ref (43 + 3)), some (.int x1), some (.int (y1 ||| y0)), some (.int (x3 + (1 : Int32))), none] from ⟨rfl, ⟨rfl, ⟨rfl, ⟨rfl, trivial⟩⟩⟩⟩) (hk18 x1 (y1 ||| y0) (x3 + (1 : Int32)) s _ _ h)
noncomputable def zyF220_112  (k18 : Int32 → Int32 → Int32 → zy_S → Option (Int32 × zy_S)) (x1 : Int32) (x2 : Int32) (x3 : Int32) (y0 : Int32) (s : zy_S) : Option (Int32 × zy_S) :=
if y0 = 0 then
zyF220_127 k18 x1 x3 (0 : Int32) x2 s
else
zyF220_127 k18 x1 x3 ((1 : Int32) <<< (x3 &&& 31)) x2 s
theorem zyC220_112 {X : zx_X}  {k18 : Int32 → Int32 → Int32 → zy_S → Option (Int32 × zy_S)}  (hk18 : ∀ (x1 : Int32) (x2 : Int32) (x3 : Int32) (s : zy_S) (r : Int32) (s' : zy_S), k18 x1 x2 x3 s = some (r, s') → zyR X 5 220 18 [some (.ref (43 + 3)), some (.int x1), some (.int x2), some (.int x3), none] [] s (zyE (some (.int r)) s')) {x1 : Int32} {x2 : Int32} {x3 : Int32} {y0 : Int32} {s : zy_S} {r : Int32} {s' : zy_S}  (h : zyF220_112 k18 x1 x2 x3 y0 s = some (r, s')) : zyR X 5 220 112 [some (.ref (43 + 3)), some (.int x1), some (.int x2), some (.int x3), none] [.int y0] s (zyE (some (.int r)) s') := by
  unfold zyF220_112 at h
  refine zy_23 rfl rfl (show zyR _ _ _ _ [some (.ref (43 + 3)), some (.int x1), some (.int x2), some (.int x3), some (.int y0)] [] _ _ from ?_)
  refine zy_2 rfl rfl (show zyR _ _ _ _ [some (.ref (43 + 3)), some (.int x1), some (.int x2), some (.int x3), some (.int y0)] [.int x2] _ _ from ?_)
  refine zy_2 rfl rfl (show zyR _ _ _ _ [some (.ref (43 + 3)), some (.int x1), some (.int x2), some (.int x3), some (.int y0)] [.int y0, .int x2] _ _ from ?_)
  refine zy_24_0 rfl (fun b1 => (show zyR _ _ _ _ [some (.ref (43 + 3)), some (.int x1), some (.int x2), some (.int x3), some (.int y0)] [.int x2] _ _ from ?_)) (fun b1 => (show zyR _ _ _ _ [some (.ref (43 + 3)), some (.int x1), some (.int x2), some (.int x3), some (.int y0)] [.int x2] _ _ from ?_))
  · replace h := zy_ifp h b1
    refine zy_3 rfl rfl (show zyR _ _ _ _ [some (.ref (43 + 3)), some (.int x1), some (.int x2), some (.int x3), some (.int y0)] [.int (0 : Int32), .int x2] _ _ from ?_)
    exact zy_sub (show zy_le [some (.ref (43 + 3)), some (.int x1), none, some (.int x3), none] [some (.ref (43 + 3)), some (.int x1), some (.int x2), some (.int x3), some (.int y0)] from ⟨rfl, ⟨rfl, ⟨rfl, trivial⟩⟩⟩) (zyC220_127 hk18 h)
  · replace h := zy_ifn h b1
    refine zy_3 rfl rfl (show zyR _ _ _ _ [some (.ref (43 + 3)), some (.int x1), some (.int x2), some (.int x3), some (.int y0)] [.int (1 : Int32), .int x2] _ _ from ?_)
    refine zy_2 rfl rfl (show zyR _ _ _ _ [some (.ref (43 + 3)), some (.int x1), some (.int x2), some (.int x3), some (.int y0)] [.int x3, .int (1 : Int32), .int x2] _ _ from ?_)
    refine zy_16 rfl (show zyR _ _ _ _ [some (.ref (43 + 3)), some (.int x1), some (.int x2), some (.int x3), some (.int y0)] [.int ((1 : Int32) <<< (x3 &&& 31)), .int x2] _ _ from ?_)
    refine zy_6 rfl (show zyR _ _ _ _ [some (.ref (43 + 3)), some (.int x1), some (.int x2), some (.int x3), some (.int y0)] [.int ((1 : Int32) <<< (x3 &&& 31)), .int x2] _ _ from ?_)
    exact zy_sub (show zy_le [some (.ref (43 + 3)), some (.int x1), none, some (.int x3), none] [some (.ref (43 + 3)), some (.int x1), some (.int x2), some (.int x3), some (.int y0)] from ⟨rfl, ⟨rfl, ⟨rfl, trivial⟩⟩⟩) (zyC220_127 hk18 h)
noncomputable def zyF220_111  (k18 : Int32 → Int32 → Int32 → zy_S → Option (Int32 × zy_S)) (x1 : Int32) (x2 : Int32) (x3 : Int32) (s : zy_S) : Option (Int32 × zy_S) :=
zyF220_112 k18 x1 x2 x3 (0 : Int32) s
theorem zyC220_111 {X : zx_X}  {k18 : Int32 → Int32 → Int32 → zy_S → Option (Int32 × zy_S)}  (hk18 : ∀ (x1 : Int32) (x2 : Int32) (x3 : Int32) (s : zy_S) (r : Int32) (s' : zy_S), k18 x1 x2 x3 s = some (r, s') → zyR X 5 220 18 [some (.ref (43 + 3)), some (.int x1), some (.int x2), some (.int x3), none] [] s (zyE (some (.int r)) s')) {x1 : Int32} {x2 : Int32} {x3 : Int32} {s : zy_S} {r : Int32} {s' : zy_S}  (h : zyF220_111 k18 x1 x2 x3 s = some (r, s')) : zyR X 5 220 111 [some (.ref (43 + 3)), some (.int x1), some (.int x2), some (.int x3), none] [] s (zyE (some (.int r)) s') := by
  unfold zyF220_111 at h
  refine zy_3 rfl rfl (show zyR _ _ _ _ [some (.ref (43 + 3)), some (.int x1), some (.int x2), some (.int x3), none] [.int (0 : Int32)] _ _ from ?_)
  exact zy_sub (show zy_le [some (.ref (43 + 3)), some (.int x1), some (.int x2), some (.int x3), none] [some (.ref (43 + 3)), some (.int x1), some (.int x2), some (.int x3), none] from ⟨rfl, ⟨rfl, ⟨rfl, ⟨rfl, trivial⟩⟩⟩⟩) (zyC220_112 hk18 h)
noncomputable def zyF220_84  (k18 : Int32 → Int32 → Int32 → zy_S → Option (Int32 × zy_S)) (x1 : Int32) (x2 : Int32) (x3 : Int32) (s : zy_S) : Option (Int32 × zy_S) :=
zyF220_112 k18 x1 x2 x3 (0 : Int32) s
theorem zyC220_84 {X : zx_X}  {k18 : Int32 → Int32 → Int32 → zy_S → Option (Int32 × zy_S)}  (hk18 : ∀ (x1 : Int32) (x2 : Int32) (x3 : Int32) (s : zy_S) (r : Int32) (s' : zy_S), k18 x1 x2 x3 s = some (r, s') → zyR X 5 220 18 [some (.ref (43 + 3)), some (.int x1), some (.int x2), some (.int x3), none] [] s (zyE (some (.int r)) s')) {x1 : Int32} {x2 : Int32} {x3 : Int32} {s : zy_S} {r : Int32} {s' : zy_S}  (h : zyF220_84 k18 x1 x2 x3 s = some (r, s')) : zyR X 5 220 84 [some (.ref (43 + 3)), some (.int x1), some (.int x2), some (.int x3), none] [] s (zyE (some (.int r)) s') := by
  unfold zyF220_84 at h
  refine zy_3 rfl rfl (show zyR _ _ _ _ [some (.ref (43 + 3)), some (.int x1), some (.int x2), some (.int x3), none] [.int (0 : Int32)] _ _ from ?_)
  refine zy_6 rfl (show zyR _ _ _ _ [some (.ref (43 + 3)), some (.int x1), some (.int x2), some (.int x3), none] [.int (0 : Int32)] _ _ from ?_)
  exact zy_sub (show zy_le [some (.ref (43 + 3)), some (.int x1), some (.int x2), some (.int x3), none] [some (.ref (43 + 3)), some (.int x1), some (.int x2), some (.int x3), none] from ⟨rfl, ⟨rfl, ⟨rfl, ⟨rfl, trivial⟩⟩⟩⟩) (zyC220_112 hk18 h)
noncomputable def zyF220_52  (k18 : Int32 → Int32 → Int32 → zy_S → Option (Int32 × zy_S)) (x1 : Int32) (x2 : Int32) (x3 : Int32) (s : zy_S) : Option (Int32 × zy_S) :=
zyF220_112 k18 x1 x2 x3 (0 : Int32) s
theorem zyC220_52 {X : zx_X}  {k18 : Int32 → Int32 → Int32 → zy_S → Option (Int32 × zy_S)}  (hk18 : ∀ (x1 : Int32) (x2 : Int32) (x3 : Int32) (s : zy_S) (r : Int32) (s' : zy_S), k18 x1 x2 x3 s = some (r, s') → zyR X 5 220 18 [some (.ref (43 + 3)), some (.int x1), some (.int x2), some (.int x3), none] [] s (zyE (some (.int r)) s')) {x1 : Int32} {x2 : Int32} {x3 : Int32} {s : zy_S} {r : Int32} {s' : zy_S}  (h : zyF220_52 k18 x1 x2 x3 s = some (r, s')) : zyR X 5 220 52 [some (.ref (43 + 3)), some (.int x1), some (.int x2), some (.int x3), none] [] s (zyE (some (.int r)) s') := by
  unfold zyF220_52 at h
  refine zy_3 rfl rfl (show zyR _ _ _ _ [some (.ref (43 + 3)), some (.int x1), some (.int x2), some (.int x3), none] [.int (0 : Int32)] _ _ from ?_)
  refine zy_6 rfl (show zyR _ _ _ _ [some (.ref (43 + 3)), some (.int x1), some (.int x2), some (.int x3), none] [.int (0 : Int32)] _ _ from ?_)
  exact zy_sub (show zy_le [some (.ref (43 + 3)), some (.int x1), some (.int x2), some (.int x3), none] [some (.ref (43 + 3)), some (.int x1), some (.int x2), some (.int x3), none] from ⟨rfl, ⟨rfl, ⟨rfl, ⟨rfl, trivial⟩⟩⟩⟩) (zyC220_112 hk18 h)
noncomputable def zyF220_18b  (k18 : Int32 → Int32 → Int32 → zy_S → Option (Int32 × zy_S)) (x1 : Int32) (x2 : Int32) (x3 : Int32) (s : zy_S) : Option (Int32 × zy_S) :=
if (24 : Int32) ≤ x3 then
some (x2, s)
else
if x1 ≠ 0 then
if x1 ≠ (1 : Int32) then
(zyF208 (s.1 43 7) x3 s).bind fun p2 =>
if p2.1 ≠ 0 then
zyF220_111 k18 x1 x2 x3 p2.2
else
(zyF223 x3 p2.2).bind fun p3 =>
if p3.1 = 0 then
zyF220_111 k18 x1 x2 x3 p3.2
else
zyF220_112 k18 x1 x2 x3 (1 : Int32) p3.2
else
(zyF208 (s.1 43 7) x3 s).bind fun p6 =>
if p6.1 = 0 then
zyF220_84 k18 x1 x2 x3 p6.2
else
(zyF223 x3 p6.2).bind fun p7 =>
if p7.1 ≠ 0 then
zyF220_84 k18 x1 x2 x3 p7.2
else
zyF220_112 k18 x1 x2 x3 (1 : Int32) p7.2
else
(zyF208 (s.1 43 7) x3 s).bind fun p11 =>
if p11.1 = 0 then
zyF220_52 k18 x1 x2 x3 p11.2
else
(zyF221 x3 (0 : Int32) p11.2).bind fun p12 =>
if p12.1 = 0 then
zyF220_52 k18 x1 x2 x3 p12.2
else
zyF220_112 k18 x1 x2 x3 (1 : Int32) p12.2
theorem zyC220_18b {X : zx_X}  {k18 : Int32 → Int32 → Int32 → zy_S → Option (Int32 × zy_S)}  (hk18 : ∀ (x1 : Int32) (x2 : Int32) (x3 : Int32) (s : zy_S) (r : Int32) (s' : zy_S), k18 x1 x2 x3 s = some (r, s') → zyR X 5 220 18 [some (.ref (43 + 3)), some (.int x1), some (.int x2), some (.int x3), none] [] s (zyE (some (.int r)) s')) {x1 : Int32} {x2 : Int32} {x3 : Int32} {s : zy_S} {r : Int32} {s' : zy_S}  (h : zyF220_18b k18 x1 x2 x3 s = some (r, s')) : zyR X 5 220 18 [some (.ref (43 + 3)), some (.int x1), some (.int x2), some (.int x3), none] [] s (zyE (some (.int r)) s') := by
  unfold zyF220_18b at h
  refine zy_2 rfl rfl (show zyR _ _ _ _ [some (.ref (43 + 3)), some (.int x1), some (.int x2), some (.int x3), none] [.int x3] _ _ from ?_)
  refine zy_3 rfl rfl (show zyR _ _ _ _ [some (.ref (43 + 3)), some (.int x1), some (.int x2), some (.int x3), none] [.int (24 : Int32), .int x3] _ _ from ?_)
  refine zy_25_3 rfl (fun b16 => (show zyR _ _ _ _ [some (.ref (43 + 3)), some (.int x1), some (.int x2), some (.int x3), none] [] _ _ from ?_)) (fun b16 => (show zyR _ _ _ _ [some (.ref (43 + 3)), some (.int x1), some (.int x2), some (.int x3), none] [] _ _ from ?_))
  · replace h := zy_ifp h b16
    refine zy_2 rfl rfl (show zyR _ _ _ _ [some (.ref (43 + 3)), some (.int x1), some (.int x2), some (.int x3), none] [.int x2] _ _ from ?_)
    obtain ⟨rfl, rfl⟩ := zy_pi h
    exact zy_4 rfl ⟨rfl, rfl⟩
  · replace h := zy_ifn h b16
    refine zy_2 rfl rfl (show zyR _ _ _ _ [some (.ref (43 + 3)), some (.int x1), some (.int x2), some (.int x3), none] [.int x1] _ _ from ?_)
    refine zy_24_1 rfl (fun b15 => (show zyR _ _ _ _ [some (.ref (43 + 3)), some (.int x1), some (.int x2), some (.int x3), none] [] _ _ from ?_)) (fun b15 => (show zyR _ _ _ _ [some (.ref (43 + 3)), some (.int x1), some (.int x2), some (.int x3), none] [] _ _ from ?_))
    · replace h := zy_ifp h b15
      refine zy_2 rfl rfl (show zyR _ _ _ _ [some (.ref (43 + 3)), some (.int x1), some (.int x2), some (.int x3), none] [.int x1] _ _ from ?_)
      refine zy_3 rfl rfl (show zyR _ _ _ _ [some (.ref (43 + 3)), some (.int x1), some (.int x2), some (.int x3), none] [.int (1 : Int32), .int x1] _ _ from ?_)
      refine zy_25_1 rfl (fun b10 => (show zyR _ _ _ _ [some (.ref (43 + 3)), some (.int x1), some (.int x2), some (.int x3), none] [] _ _ from ?_)) (fun b10 => (show zyR _ _ _ _ [some (.ref (43 + 3)), some (.int x1), some (.int x2), some (.int x3), none] [] _ _ from ?_))
      · replace h := zy_ifp h b10
        refine zy_0 rfl rfl (show zyR _ _ _ _ [some (.ref (43 + 3)), some (.int x1), some (.int x2), some (.int x3), none] [.ref (43 + 3)] _ _ from ?_)
        refine zy_1 (c := 43) rfl rfl rfl (show zyR _ _ _ _ [some (.ref (43 + 3)), some (.int x1), some (.int x2), some (.int x3), none] [.int (s.1 43 7)] _ _ from ?_)
        refine zy_2 rfl rfl (show zyR _ _ _ _ [some (.ref (43 + 3)), some (.int x1), some (.int x2), some (.int x3), none] [.int x3, .int (s.1 43 7)] _ _ from ?_)
        obtain ⟨p2, hp2, h⟩ := zy_bind h
        refine zy_60 (as := [.int (s.1 43 7), .int x3]) (rest := []) (L := [some (.int (s.1 43 7)), some (.int x3)]) (d' := 1) rfl rfl (Nat.le_of_ble_eq_true rfl) (Nat.le_of_ble_eq_true rfl) rfl (Nat.le_of_ble_eq_true rfl) rfl rfl (zyC208 hp2) ?_
        show zyR _ _ _ _ [some (.ref (43 + 3)), some (.int x1), some (.int x2), some (.int x3), none] [.int p2.1] _ _
        refine zy_24_1 rfl (fun b5 => (show zyR _ _ _ _ [some (.ref (43 + 3)), some (.int x1), some (.int x2), some (.int x3), none] [] _ _ from ?_)) (fun b5 => (show zyR _ _ _ _ [some (.ref (43 + 3)), some (.int x1), some (.int x2), some (.int x3), none] [] _ _ from ?_))
        · replace h := zy_ifp h b5
          exact zy_sub (show zy_le [some (.ref (43 + 3)), some (.int x1), some (.int x2), some (.int x3), none] [some (.ref (43 + 3)), some (.int x1), some (.int x2), some (.int x3), none] from ⟨rfl, ⟨rfl, ⟨rfl, ⟨rfl, trivial⟩⟩⟩⟩) (zyC220_111 hk18 h)
        · replace h := zy_ifn h b5
          refine zy_0 rfl rfl (show zyR _ _ _ _ [some (.ref (43 + 3)), some (.int x1), some (.int x2), some (.int x3), none] [.ref (43 + 3)] _ _ from ?_)
          refine zy_2 rfl rfl (show zyR _ _ _ _ [some (.ref (43 + 3)), some (.int x1), some (.int x2), some (.int x3), none] [.int x3, .ref (43 + 3)] _ _ from ?_)
          obtain ⟨p3, hp3, h⟩ := zy_bind h
          refine zy_5 (c := 43) (as := [.int x3]) (rest := []) (L := [some (.ref (43 + 3)), some (.int x3), none, none]) (d' := 4) rfl rfl rfl (Nat.le_of_ble_eq_true rfl) (Nat.le_of_ble_eq_true rfl) rfl (Nat.le_of_ble_eq_true rfl) rfl rfl (zyC223 hp3) ?_
          show zyR _ _ _ _ [some (.ref (43 + 3)), some (.int x1), some (.int x2), some (.int x3), none] [.int p3.1] _ _
          refine zy_24_0 rfl (fun b4 => (show zyR _ _ _ _ [some (.ref (43 + 3)), some (.int x1), some (.int x2), some (.int x3), none] [] _ _ from ?_)) (fun b4 => (show zyR _ _ _ _ [some (.ref (43 + 3)), some (.int x1), some (.int x2), some (.int x3), none] [] _ _ from ?_))
          · replace h := zy_ifp h b4
            exact zy_sub (show zy_le [some (.ref (43 + 3)), some (.int x1), some (.int x2), some (.int x3), none] [some (.ref (43 + 3)), some (.int x1), some (.int x2), some (.int x3), none] from ⟨rfl, ⟨rfl, ⟨rfl, ⟨rfl, trivial⟩⟩⟩⟩) (zyC220_111 hk18 h)
          · replace h := zy_ifn h b4
            refine zy_3 rfl rfl (show zyR _ _ _ _ [some (.ref (43 + 3)), some (.int x1), some (.int x2), some (.int x3), none] [.int (1 : Int32)] _ _ from ?_)
            refine zy_6 rfl (show zyR _ _ _ _ [some (.ref (43 + 3)), some (.int x1), some (.int x2), some (.int x3), none] [.int (1 : Int32)] _ _ from ?_)
            exact zy_sub (show zy_le [some (.ref (43 + 3)), some (.int x1), some (.int x2), some (.int x3), none] [some (.ref (43 + 3)), some (.int x1), some (.int x2), some (.int x3), none] from ⟨rfl, ⟨rfl, ⟨rfl, ⟨rfl, trivial⟩⟩⟩⟩) (zyC220_112 hk18 h)
      · replace h := zy_ifn h b10
        refine zy_0 rfl rfl (show zyR _ _ _ _ [some (.ref (43 + 3)), some (.int x1), some (.int x2), some (.int x3), none] [.ref (43 + 3)] _ _ from ?_)
        refine zy_1 (c := 43) rfl rfl rfl (show zyR _ _ _ _ [some (.ref (43 + 3)), some (.int x1), some (.int x2), some (.int x3), none] [.int (s.1 43 7)] _ _ from ?_)
        refine zy_2 rfl rfl (show zyR _ _ _ _ [some (.ref (43 + 3)), some (.int x1), some (.int x2), some (.int x3), none] [.int x3, .int (s.1 43 7)] _ _ from ?_)
        obtain ⟨p6, hp6, h⟩ := zy_bind h
        refine zy_60 (as := [.int (s.1 43 7), .int x3]) (rest := []) (L := [some (.int (s.1 43 7)), some (.int x3)]) (d' := 1) rfl rfl (Nat.le_of_ble_eq_true rfl) (Nat.le_of_ble_eq_true rfl) rfl (Nat.le_of_ble_eq_true rfl) rfl rfl (zyC208 hp6) ?_
        show zyR _ _ _ _ [some (.ref (43 + 3)), some (.int x1), some (.int x2), some (.int x3), none] [.int p6.1] _ _
        refine zy_24_0 rfl (fun b9 => (show zyR _ _ _ _ [some (.ref (43 + 3)), some (.int x1), some (.int x2), some (.int x3), none] [] _ _ from ?_)) (fun b9 => (show zyR _ _ _ _ [some (.ref (43 + 3)), some (.int x1), some (.int x2), some (.int x3), none] [] _ _ from ?_))
        · replace h := zy_ifp h b9
          exact zy_sub (show zy_le [some (.ref (43 + 3)), some (.int x1), some (.int x2), some (.int x3), none] [some (.ref (43 + 3)), some (.int x1), some (.int x2), some (.int x3), none] from ⟨rfl, ⟨rfl, ⟨rfl, ⟨rfl, trivial⟩⟩⟩⟩) (zyC220_84 hk18 h)
        · replace h := zy_ifn h b9
          refine zy_0 rfl rfl (show zyR _ _ _ _ [some (.ref (43 + 3)), some (.int x1), some (.int x2), some (.int x3), none] [.ref (43 + 3)] _ _ from ?_)
          refine zy_2 rfl rfl (show zyR _ _ _ _ [some (.ref (43 + 3)), some (.int x1), some (.int x2), some (.int x3), none] [.int x3, .ref (43 + 3)] _ _ from ?_)
          obtain ⟨p7, hp7, h⟩ := zy_bind h
          refine zy_5 (c := 43) (as := [.int x3]) (rest := []) (L := [some (.ref (43 + 3)), some (.int x3), none, none]) (d' := 4) rfl rfl rfl (Nat.le_of_ble_eq_true rfl) (Nat.le_of_ble_eq_true rfl) rfl (Nat.le_of_ble_eq_true rfl) rfl rfl (zyC223 hp7) ?_
          show zyR _ _ _ _ [some (.ref (43 + 3)), some (.int x1), some (.int x2), some (.int x3), none] [.int p7.1] _ _
          refine zy_24_1 rfl (fun b8 => (show zyR _ _ _ _ [some (.ref (43 + 3)), some (.int x1), some (.int x2), some (.int x3), none] [] _ _ from ?_)) (fun b8 => (show zyR _ _ _ _ [some (.ref (43 + 3)), some (.int x1), some (.int x2), some (.int x3), none] [] _ _ from ?_))
          · replace h := zy_ifp h b8
            exact zy_sub (show zy_le [some (.ref (43 + 3)), some (.int x1), some (.int x2), some (.int x3), none] [some (.ref (43 + 3)), some (.int x1), some (.int x2), some (.int x3), none] from ⟨rfl, ⟨rfl, ⟨rfl, ⟨rfl, trivial⟩⟩⟩⟩) (zyC220_84 hk18 h)
          · replace h := zy_ifn h b8
            refine zy_3 rfl rfl (show zyR _ _ _ _ [some (.ref (43 + 3)), some (.int x1), some (.int x2), some (.int x3), none] [.int (1 : Int32)] _ _ from ?_)
            refine zy_6 rfl (show zyR _ _ _ _ [some (.ref (43 + 3)), some (.int x1), some (.int x2), some (.int x3), none] [.int (1 : Int32)] _ _ from ?_)
            exact zy_sub (show zy_le [some (.ref (43 + 3)), some (.int x1), some (.int x2), some (.int x3), none] [some (.ref (43 + 3)), some (.int x1), some (.int x2), some (.int x3), none] from ⟨rfl, ⟨rfl, ⟨rfl, ⟨rfl, trivial⟩⟩⟩⟩) (zyC220_112 hk18 h)
    · replace h := zy_ifn h b15
      refine zy_0 rfl rfl (show zyR _ _ _ _ [some (.ref (43 + 3)), some (.int x1), some (.int x2), some (.int x3), none] [.ref (43 + 3)] _ _ from ?_)
      refine zy_1 (c := 43) rfl rfl rfl (show zyR _ _ _ _ [some (.ref (43 + 3)), some (.int x1), some (.int x2), some (.int x3), none] [.int (s.1 43 7)] _ _ from ?_)
      refine zy_2 rfl rfl (show zyR _ _ _ _ [some (.ref (43 + 3)), some (.int x1), some (.int x2), some (.int x3), none] [.int x3, .int (s.1 43 7)] _ _ from ?_)
      obtain ⟨p11, hp11, h⟩ := zy_bind h
      refine zy_60 (as := [.int (s.1 43 7), .int x3]) (rest := []) (L := [some (.int (s.1 43 7)), some (.int x3)]) (d' := 1) rfl rfl (Nat.le_of_ble_eq_true rfl) (Nat.le_of_ble_eq_true rfl) rfl (Nat.le_of_ble_eq_true rfl) rfl rfl (zyC208 hp11) ?_
      show zyR _ _ _ _ [some (.ref (43 + 3)), some (.int x1), some (.int x2), some (.int x3), none] [.int p11.1] _ _
      refine zy_24_0 rfl (fun b14 => (show zyR _ _ _ _ [some (.ref (43 + 3)), some (.int x1), some (.int x2), some (.int x3), none] [] _ _ from ?_)) (fun b14 => (show zyR _ _ _ _ [some (.ref (43 + 3)), some (.int x1), some (.int x2), some (.int x3), none] [] _ _ from ?_))
      · replace h := zy_ifp h b14
        exact zy_sub (show zy_le [some (.ref (43 + 3)), some (.int x1), some (.int x2), some (.int x3), none] [some (.ref (43 + 3)), some (.int x1), some (.int x2), some (.int x3), none] from ⟨rfl, ⟨rfl, ⟨rfl, ⟨rfl, trivial⟩⟩⟩⟩) (zyC220_52 hk18 h)
      · replace h := zy_ifn h b14
        refine zy_0 rfl rfl (show zyR _ _ _ _ [some (.ref (43 + 3)), some (.int x1), some (.int x2), some (.int x3), none] [.ref (43 + 3)] _ _ from ?_)
        refine zy_2 rfl rfl (show zyR _ _ _ _ [some (.ref (43 + 3)), some (.int x1), some (.int x2), some (.int x3), none] [.int x3, .ref (43 + 3)] _ _ from ?_)
        refine zy_3 rfl rfl (show zyR _ _ _ _ [some (.ref (43 + 3)), some (.int x1), some (.int x2), some (.int x3), none] [.int (0 : Int32), .int x3, .ref (43 + 3)] _ _ from ?_)
        obtain ⟨p12, hp12, h⟩ := zy_bind h
        refine zy_5 (c := 43) (as := [.int x3, .int (0 : Int32)]) (rest := []) (L := [some (.ref (43 + 3)), some (.int x3), some (.int (0 : Int32)), none, none, none]) (d' := 4) rfl rfl rfl (Nat.le_of_ble_eq_true rfl) (Nat.le_of_ble_eq_true rfl) rfl (Nat.le_of_ble_eq_true rfl) rfl rfl (zyC221 hp12) ?_
        show zyR _ _ _ _ [some (.ref (43 + 3)), some (.int x1), some (.int x2), some (.int x3), none] [.int p12.1] _ _
        refine zy_24_0 rfl (fun b13 => (show zyR _ _ _ _ [some (.ref (43 + 3)), some (.int x1), some (.int x2), some (.int x3), none] [] _ _ from ?_)) (fun b13 => (show zyR _ _ _ _ [some (.ref (43 + 3)), some (.int x1), some (.int x2), some (.int x3), none] [] _ _ from ?_))
        · replace h := zy_ifp h b13
          exact zy_sub (show zy_le [some (.ref (43 + 3)), some (.int x1), some (.int x2), some (.int x3), none] [some (.ref (43 + 3)), some (.int x1), some (.int x2), some (.int x3), none] from ⟨rfl, ⟨rfl, ⟨rfl, ⟨rfl, trivial⟩⟩⟩⟩) (zyC220_52 hk18 h)
        · replace h := zy_ifn h b13
          refine zy_3 rfl rfl (show zyR _ _ _ _ [some (.ref (43 + 3)), some (.int x1), some (.int x2), some (.int x3), none] [.int (1 : Int32)] _ _ from ?_)
          refine zy_6 rfl (show zyR _ _ _ _ [some (.ref (43 + 3)), some (.int x1), some (.int x2), some (.int x3), none] [.int (1 : Int32)] _ _ from ?_)
          exact zy_sub (show zy_le [some (.ref (43 + 3)), some (.int x1), some (.int x2), some (.int x3), none] [some (.ref (43 + 3)), some (.int x1), some (.int x2), some (.int x3), none] from ⟨rfl, ⟨rfl, ⟨rfl, ⟨rfl, trivial⟩⟩⟩⟩) (zyC220_112 hk18 h)
noncomputable def zyF220_18   (n : Nat) : Int32 → Int32 → Int32 → zy_S → Option (Int32 × zy_S) := Nat.rec (fun _ _ _ _ => none) (fun _ k18 => zyF220_18b k18) n
theorem zyC220_18 {X : zx_X}     : ∀ (n : Nat) (x1 : Int32) (x2 : Int32) (x3 : Int32) (s : zy_S) (r : Int32) (s' : zy_S), zyF220_18 n x1 x2 x3 s = some (r, s') → zyR X 5 220 18 [some (.ref (43 + 3)), some (.int x1), some (.int x2), some (.int x3), none] [] s (zyE (some (.int r)) s')
  | 0, _, _, _ => by
    intro s r s'  h
    have h : (none : Option (Int32 × zy_S)) = some (r, s') := h
    cases h
  | n + 1, x1, x2, x3 => by
    intro s r s'  h
    exact zyC220_18b (k18 := zyF220_18 n) (fun x1 x2 x3 s r s'  h => zyC220_18  n x1 x2 x3 s r s'  h) h
noncomputable def zyF220   (x1 : Int32) (s : zy_S) : Option (Int32 × zy_S) :=
(zyF179 (x1).toInt64 (0 : Int64) (2 : Int64) s).bind fun p17 =>
if p17.1 ≠ 0 then
zyF220_18 zy_fu x1 (0 : Int32) (0 : Int32) p17.2
else
some ((-1 : Int32), p17.2)
theorem zyC220 {X : zx_X}     {x1 : Int32} {s : zy_S} {r : Int32} {s' : zy_S}  (h : zyF220 x1 s = some (r, s')) : zyR X 5 220 0 [some (.ref (43 + 3)), some (.int x1), none, none, none] [] s (zyE (some (.int r)) s') := by
  unfold zyF220 at h
  refine zy_2 rfl rfl (show zyR _ _ _ _ [some (.ref (43 + 3)), some (.int x1), none, none, none] [.int x1] _ _ from ?_)
  refine zy_40 rfl (show zyR _ _ _ _ [some (.ref (43 + 3)), some (.int x1), none, none, none] [.long (x1).toInt64] _ _ from ?_)
  refine zy_36 rfl rfl (show zyR _ _ _ _ [some (.ref (43 + 3)), some (.int x1), none, none, none] [.long (0 : Int64), .long (x1).toInt64] _ _ from ?_)
  refine zy_36c rfl rfl (show zyR _ _ _ _ [some (.ref (43 + 3)), some (.int x1), none, none, none] [.long (2 : Int64), .long (0 : Int64), .long (x1).toInt64] _ _ from ?_)
  obtain ⟨p17, hp17, h⟩ := zy_bind h
  refine zy_60 (as := [.long (x1).toInt64, .long (0 : Int64), .long (2 : Int64)]) (rest := []) (L := [some (.long (x1).toInt64), none, some (.long (0 : Int64)), none, some (.long (2 : Int64)), none]) (d' := 1) rfl rfl (Nat.le_of_ble_eq_true rfl) (Nat.le_of_ble_eq_true rfl) rfl (Nat.le_of_ble_eq_true rfl) rfl rfl (zyC179 hp17) ?_
  show zyR _ _ _ _ [some (.ref (43 + 3)), some (.int x1), none, none, none] [.int p17.1] _ _
  refine zy_24_1 rfl (fun b18 => (show zyR _ _ _ _ [some (.ref (43 + 3)), some (.int x1), none, none, none] [] _ _ from ?_)) (fun b18 => (show zyR _ _ _ _ [some (.ref (43 + 3)), some (.int x1), none, none, none] [] _ _ from ?_))
  · replace h := zy_ifp h b18
    refine zy_3 rfl rfl (show zyR _ _ _ _ [some (.ref (43 + 3)), some (.int x1), none, none, none] [.int (0 : Int32)] _ _ from ?_)
    refine zy_23 rfl rfl (show zyR _ _ _ _ [some (.ref (43 + 3)), some (.int x1), some (.int (0 : Int32)), none, none] [] _ _ from ?_)
    refine zy_3 rfl rfl (show zyR _ _ _ _ [some (.ref (43 + 3)), some (.int x1), some (.int (0 : Int32)), none, none] [.int (0 : Int32)] _ _ from ?_)
    refine zy_23 rfl rfl (show zyR _ _ _ _ [some (.ref (43 + 3)), some (.int x1), some (.int (0 : Int32)), some (.int (0 : Int32)), none] [] _ _ from ?_)
    exact zy_sub (show zy_le [some (.ref (43 + 3)), some (.int x1), some (.int (0 : Int32)), some (.int (0 : Int32)), none] [some (.ref (43 + 3)), some (.int x1), some (.int (0 : Int32)), some (.int (0 : Int32)), none] from ⟨rfl, ⟨rfl, ⟨rfl, ⟨rfl, trivial⟩⟩⟩⟩) (zyC220_18 zy_fu x1 (0 : Int32) (0 : Int32) p17.2 _ _ h)
  · replace h := zy_ifn h b18
    refine zy_3 rfl rfl (show zyR _ _ _ _ [some (.ref (43 + 3)), some (.int x1), none, none, none] [.int (-1 : Int32)] _ _ from ?_)
    obtain ⟨rfl, rfl⟩ := zy_pi h
    exact zy_4 rfl ⟨rfl, rfl⟩
/-! NineOpinions$Votes.fewestToWin(I)I -/
noncomputable def zyF101_85  (k24 : Int32 → Int32 → Int32 → Int32 → zy_S → Option (Int32 × zy_S)) (x2 : Int32) (x3 : Int32) (x4 : Int32) (x5 : Int32) (s : zy_S) : Option (Int32 × zy_S) :=
k24 x2 x3 x4 (x5 + (1 : Int32)) s
theorem zyC101_85 {X : zx_X}  {k24 : Int32 → Int32 → Int32 → Int32 → zy_S → Option (Int32 × zy_S)}  (hk24 : ∀ (x2 : Int32) (x3 : Int32) (x4 : Int32) (x5 : Int32) (s : zy_S) (r : Int32) (s' : zy_S), k24 x2 x3 x4 x5 s = some (r, s') → zyR X 4 101 24 [some (.ref (16 + 3)), none, some (.int x2), some (.int x3), some (.int x4), some (.int x5), none] [] s (zyE (some (.int r)) s')) {x2 : Int32} {x3 : Int32} {x4 : Int32} {x5 : Int32} {s : zy_S} {r : Int32} {s' : zy_S}  (h : zyF101_85 k24 x2 x3 x4 x5 s = some (r, s')) : zyR X 4 101 85 [some (.ref (16 + 3)), none, some (.int x2), some (.int x3), some (.int x4), some (.int x5), none] [] s (zyE (some (.int r)) s') := by
  unfold zyF101_85 at h
  refine zy_22 rfl rfl rfl rfl (show zyR _ _ _ _ [some (.ref (16 + 3)), none, some (.int x2), some (.int x3), some (.int x4), some (.int (x5 + (1 : Int32))), none] [] _ _ from ?_)
  refine zy_6 rfl (show zyR _ _ _ _ [some (.ref (16 + 3)), none, some (.int x2), some (.int x3), some (.int x4), some (.int (x5 + (1 : Int32))), none] [] _ _ from ?_)
  exact zy_sub (show zy_le [some (.ref (16 + 3)), none, some (.int x2), some (.int x3), some (.int x4), some (.int (x5 + (1 : Int32))), none] [some (.ref (16 + 3)), none, some (.int x2), some (.int x3), some (.int x4), some (.int (x5 + (1 : Int32))), none] from ⟨rfl, ⟨rfl, ⟨rfl, ⟨rfl, ⟨rfl, trivial⟩⟩⟩⟩⟩) (hk24 x2 x3 x4 (x5 + (1 : Int32)) s _ _ h)
noncomputable def zyF101_54  (k24 : Int32 → Int32 → Int32 → Int32 → zy_S → Option (Int32 × zy_S)) (x2 : Int32) (x3 : Int32) (x4 : Int32) (x5 : Int32) (y0 : Int32) (s : zy_S) : Option (Int32 × zy_S) :=
if y0 = 0 then
zyF101_85 k24 x2 x3 x4 x5 s
else
if (x5 &&& (x2 ^^^ (-1 : Int32))) ≠ 0 then
zyF101_85 k24 x2 x3 x4 x5 s
else
(zyF97 (x3 ||| x5) s).bind fun p1 =>
if p1.1 = 0 then
zyF101_85 k24 x2 x3 x4 x5 p1.2
else
zyF101_85 k24 x2 x3 x5 x5 p1.2
theorem zyC101_54 {X : zx_X}  {k24 : Int32 → Int32 → Int32 → Int32 → zy_S → Option (Int32 × zy_S)}  (hk24 : ∀ (x2 : Int32) (x3 : Int32) (x4 : Int32) (x5 : Int32) (s : zy_S) (r : Int32) (s' : zy_S), k24 x2 x3 x4 x5 s = some (r, s') → zyR X 4 101 24 [some (.ref (16 + 3)), none, some (.int x2), some (.int x3), some (.int x4), some (.int x5), none] [] s (zyE (some (.int r)) s')) {x2 : Int32} {x3 : Int32} {x4 : Int32} {x5 : Int32} {y0 : Int32} {s : zy_S} {r : Int32} {s' : zy_S}  (h : zyF101_54 k24 x2 x3 x4 x5 y0 s = some (r, s')) : zyR X 4 101 54 [some (.ref (16 + 3)), none, some (.int x2), some (.int x3), some (.int x4), some (.int x5), none] [.int y0] s (zyE (some (.int r)) s') := by
  unfold zyF101_54 at h
  refine zy_23 rfl rfl (show zyR _ _ _ _ [some (.ref (16 + 3)), none, some (.int x2), some (.int x3), some (.int x4), some (.int x5), some (.int y0)] [] _ _ from ?_)
  refine zy_2 rfl rfl (show zyR _ _ _ _ [some (.ref (16 + 3)), none, some (.int x2), some (.int x3), some (.int x4), some (.int x5), some (.int y0)] [.int y0] _ _ from ?_)
  refine zy_24_0 rfl (fun b4 => (show zyR _ _ _ _ [some (.ref (16 + 3)), none, some (.int x2), some (.int x3), some (.int x4), some (.int x5), some (.int y0)] [] _ _ from ?_)) (fun b4 => (show zyR _ _ _ _ [some (.ref (16 + 3)), none, some (.int x2), some (.int x3), some (.int x4), some (.int x5), some (.int y0)] [] _ _ from ?_))
  · replace h := zy_ifp h b4
    exact zy_sub (show zy_le [some (.ref (16 + 3)), none, some (.int x2), some (.int x3), some (.int x4), some (.int x5), none] [some (.ref (16 + 3)), none, some (.int x2), some (.int x3), some (.int x4), some (.int x5), some (.int y0)] from ⟨rfl, ⟨rfl, ⟨rfl, ⟨rfl, ⟨rfl, trivial⟩⟩⟩⟩⟩) (zyC101_85 hk24 h)
  · replace h := zy_ifn h b4
    refine zy_2 rfl rfl (show zyR _ _ _ _ [some (.ref (16 + 3)), none, some (.int x2), some (.int x3), some (.int x4), some (.int x5), some (.int y0)] [.int x5] _ _ from ?_)
    refine zy_2 rfl rfl (show zyR _ _ _ _ [some (.ref (16 + 3)), none, some (.int x2), some (.int x3), some (.int x4), some (.int x5), some (.int y0)] [.int x2, .int x5] _ _ from ?_)
    refine zy_3 rfl rfl (show zyR _ _ _ _ [some (.ref (16 + 3)), none, some (.int x2), some (.int x3), some (.int x4), some (.int x5), some (.int y0)] [.int (-1 : Int32), .int x2, .int x5] _ _ from ?_)
    refine zy_15 rfl (show zyR _ _ _ _ [some (.ref (16 + 3)), none, some (.int x2), some (.int x3), some (.int x4), some (.int x5), some (.int y0)] [.int (x2 ^^^ (-1 : Int32)), .int x5] _ _ from ?_)
    refine zy_13 rfl (show zyR _ _ _ _ [some (.ref (16 + 3)), none, some (.int x2), some (.int x3), some (.int x4), some (.int x5), some (.int y0)] [.int (x5 &&& (x2 ^^^ (-1 : Int32)))] _ _ from ?_)
    refine zy_24_1 rfl (fun b3 => (show zyR _ _ _ _ [some (.ref (16 + 3)), none, some (.int x2), some (.int x3), some (.int x4), some (.int x5), some (.int y0)] [] _ _ from ?_)) (fun b3 => (show zyR _ _ _ _ [some (.ref (16 + 3)), none, some (.int x2), some (.int x3), some (.int x4), some (.int x5), some (.int y0)] [] _ _ from ?_))
    · replace h := zy_ifp h b3
      exact zy_sub (show zy_le [some (.ref (16 + 3)), none, some (.int x2), some (.int x3), some (.int x4), some (.int x5), none] [some (.ref (16 + 3)), none, some (.int x2), some (.int x3), some (.int x4), some (.int x5), some (.int y0)] from ⟨rfl, ⟨rfl, ⟨rfl, ⟨rfl, ⟨rfl, trivial⟩⟩⟩⟩⟩) (zyC101_85 hk24 h)
    · replace h := zy_ifn h b3
      refine zy_0 rfl rfl (show zyR _ _ _ _ [some (.ref (16 + 3)), none, some (.int x2), some (.int x3), some (.int x4), some (.int x5), some (.int y0)] [.ref (16 + 3)] _ _ from ?_)
      refine zy_2 rfl rfl (show zyR _ _ _ _ [some (.ref (16 + 3)), none, some (.int x2), some (.int x3), some (.int x4), some (.int x5), some (.int y0)] [.int x3, .ref (16 + 3)] _ _ from ?_)
      refine zy_2 rfl rfl (show zyR _ _ _ _ [some (.ref (16 + 3)), none, some (.int x2), some (.int x3), some (.int x4), some (.int x5), some (.int y0)] [.int x5, .int x3, .ref (16 + 3)] _ _ from ?_)
      refine zy_14 rfl (show zyR _ _ _ _ [some (.ref (16 + 3)), none, some (.int x2), some (.int x3), some (.int x4), some (.int x5), some (.int y0)] [.int (x3 ||| x5), .ref (16 + 3)] _ _ from ?_)
      obtain ⟨p1, hp1, h⟩ := zy_bind h
      refine zy_5 (c := 16) (as := [.int (x3 ||| x5)]) (rest := []) (L := [some (.ref (16 + 3)), some (.int (x3 ||| x5))]) (d' := 3) rfl rfl rfl (Nat.le_of_ble_eq_true rfl) (Nat.le_of_ble_eq_true rfl) rfl (Nat.le_of_ble_eq_true rfl) rfl rfl (zyC97 hp1) ?_
      show zyR _ _ _ _ [some (.ref (16 + 3)), none, some (.int x2), some (.int x3), some (.int x4), some (.int x5), some (.int y0)] [.int p1.1] _ _
      refine zy_24_0 rfl (fun b2 => (show zyR _ _ _ _ [some (.ref (16 + 3)), none, some (.int x2), some (.int x3), some (.int x4), some (.int x5), some (.int y0)] [] _ _ from ?_)) (fun b2 => (show zyR _ _ _ _ [some (.ref (16 + 3)), none, some (.int x2), some (.int x3), some (.int x4), some (.int x5), some (.int y0)] [] _ _ from ?_))
      · replace h := zy_ifp h b2
        exact zy_sub (show zy_le [some (.ref (16 + 3)), none, some (.int x2), some (.int x3), some (.int x4), some (.int x5), none] [some (.ref (16 + 3)), none, some (.int x2), some (.int x3), some (.int x4), some (.int x5), some (.int y0)] from ⟨rfl, ⟨rfl, ⟨rfl, ⟨rfl, ⟨rfl, trivial⟩⟩⟩⟩⟩) (zyC101_85 hk24 h)
      · replace h := zy_ifn h b2
        refine zy_2 rfl rfl (show zyR _ _ _ _ [some (.ref (16 + 3)), none, some (.int x2), some (.int x3), some (.int x4), some (.int x5), some (.int y0)] [.int x5] _ _ from ?_)
        refine zy_23 rfl rfl (show zyR _ _ _ _ [some (.ref (16 + 3)), none, some (.int x2), some (.int x3), some (.int x5), some (.int x5), some (.int y0)] [] _ _ from ?_)
        exact zy_sub (show zy_le [some (.ref (16 + 3)), none, some (.int x2), some (.int x3), some (.int x5), some (.int x5), none] [some (.ref (16 + 3)), none, some (.int x2), some (.int x3), some (.int x5), some (.int x5), some (.int y0)] from ⟨rfl, ⟨rfl, ⟨rfl, ⟨rfl, ⟨rfl, trivial⟩⟩⟩⟩⟩) (zyC101_85 hk24 h)
noncomputable def zyF101_49  (k24 : Int32 → Int32 → Int32 → Int32 → zy_S → Option (Int32 × zy_S)) (x2 : Int32) (x3 : Int32) (x4 : Int32) (x5 : Int32) (s : zy_S) : Option (Int32 × zy_S) :=
zyF101_54 k24 x2 x3 x4 x5 (1 : Int32) s
theorem zyC101_49 {X : zx_X}  {k24 : Int32 → Int32 → Int32 → Int32 → zy_S → Option (Int32 × zy_S)}  (hk24 : ∀ (x2 : Int32) (x3 : Int32) (x4 : Int32) (x5 : Int32) (s : zy_S) (r : Int32) (s' : zy_S), k24 x2 x3 x4 x5 s = some (r, s') → zyR X 4 101 24 [some (.ref (16 + 3)), none, some (.int x2), some (.int x3), some (.int x4), some (.int x5), none] [] s (zyE (some (.int r)) s')) {x2 : Int32} {x3 : Int32} {x4 : Int32} {x5 : Int32} {s : zy_S} {r : Int32} {s' : zy_S}  (h : zyF101_49 k24 x2 x3 x4 x5 s = some (r, s')) : zyR X 4 101 49 [some (.ref (16 + 3)), none, some (.int x2), some (.int x3), some (.int x4), some (.int x5), none] [] s (zyE (some (.int r)) s') := by
  unfold zyF101_49 at h
  refine zy_3 rfl rfl (show zyR _ _ _ _ [some (.ref (16 + 3)), none, some (.int x2), some (.int x3), some (.int x4), some (.int x5), none] [.int (1 : Int32)] _ _ from ?_)
  refine zy_6 rfl (show zyR _ _ _ _ [some (.ref (16 + 3)), none, some (.int x2), some (.int x3), some (.int x4), some (.int x5), none] [.int (1 : Int32)] _ _ from ?_)
  exact zy_sub (show zy_le [some (.ref (16 + 3)), none, some (.int x2), some (.int x3), some (.int x4), some (.int x5), none] [some (.ref (16 + 3)), none, some (.int x2), some (.int x3), some (.int x4), some (.int x5), none] from ⟨rfl, ⟨rfl, ⟨rfl, ⟨rfl, ⟨rfl, trivial⟩⟩⟩⟩⟩) (zyC101_54 hk24 h)
noncomputable def zyF101_24b  (k24 : Int32 → Int32 → Int32 → Int32 → zy_S → Option (Int32 × zy_S)) (x2 : Int32) (x3 : Int32) (x4 : Int32) (x5 : Int32) (s : zy_S) : Option (Int32 × zy_S) :=
if x2 < x5 then
some (x4, s)
else
if x4 = (-1 : Int32) then
zyF101_49 k24 x2 x3 x4 x5 s
else
(zyF63 x5 s).bind fun p5 =>
(zyF63 x4 p5.2).bind fun p6 =>
if p6.1 ≤ p5.1 then
zyF101_54 k24 x2 x3 x4 x5 (0 : Int32) p6.2
else
zyF101_49 k24 x2 x3 x4 x5 p6.2
theorem zyC101_24b {X : zx_X}  {k24 : Int32 → Int32 → Int32 → Int32 → zy_S → Option (Int32 × zy_S)}  (hk24 : ∀ (x2 : Int32) (x3 : Int32) (x4 : Int32) (x5 : Int32) (s : zy_S) (r : Int32) (s' : zy_S), k24 x2 x3 x4 x5 s = some (r, s') → zyR X 4 101 24 [some (.ref (16 + 3)), none, some (.int x2), some (.int x3), some (.int x4), some (.int x5), none] [] s (zyE (some (.int r)) s')) {x2 : Int32} {x3 : Int32} {x4 : Int32} {x5 : Int32} {s : zy_S} {r : Int32} {s' : zy_S}  (h : zyF101_24b k24 x2 x3 x4 x5 s = some (r, s')) : zyR X 4 101 24 [some (.ref (16 + 3)), none, some (.int x2), some (.int x3), some (.int x4), some (.int x5), none] [] s (zyE (some (.int r)) s') := by
  unfold zyF101_24b at h
  refine zy_2 rfl rfl (show zyR _ _ _ _ [some (.ref (16 + 3)), none, some (.int x2), some (.int x3), some (.int x4), some (.int x5), none] [.int x5] _ _ from ?_)
  refine zy_2 rfl rfl (show zyR _ _ _ _ [some (.ref (16 + 3)), none, some (.int x2), some (.int x3), some (.int x4), some (.int x5), none] [.int x2, .int x5] _ _ from ?_)
  refine zy_25_4 rfl (fun b9 => (show zyR _ _ _ _ [some (.ref (16 + 3)), none, some (.int x2), some (.int x3), some (.int x4), some (.int x5), none] [] _ _ from ?_)) (fun b9 => (show zyR _ _ _ _ [some (.ref (16 + 3)), none, some (.int x2), some (.int x3), some (.int x4), some (.int x5), none] [] _ _ from ?_))
  · replace h := zy_ifp h b9
    refine zy_2 rfl rfl (show zyR _ _ _ _ [some (.ref (16 + 3)), none, some (.int x2), some (.int x3), some (.int x4), some (.int x5), none] [.int x4] _ _ from ?_)
    obtain ⟨rfl, rfl⟩ := zy_pi h
    exact zy_4 rfl ⟨rfl, rfl⟩
  · replace h := zy_ifn h b9
    refine zy_2 rfl rfl (show zyR _ _ _ _ [some (.ref (16 + 3)), none, some (.int x2), some (.int x3), some (.int x4), some (.int x5), none] [.int x4] _ _ from ?_)
    refine zy_3 rfl rfl (show zyR _ _ _ _ [some (.ref (16 + 3)), none, some (.int x2), some (.int x3), some (.int x4), some (.int x5), none] [.int (-1 : Int32), .int x4] _ _ from ?_)
    refine zy_25_0 rfl (fun b8 => (show zyR _ _ _ _ [some (.ref (16 + 3)), none, some (.int x2), some (.int x3), some (.int x4), some (.int x5), none] [] _ _ from ?_)) (fun b8 => (show zyR _ _ _ _ [some (.ref (16 + 3)), none, some (.int x2), some (.int x3), some (.int x4), some (.int x5), none] [] _ _ from ?_))
    · replace h := zy_ifp h b8
      exact zy_sub (show zy_le [some (.ref (16 + 3)), none, some (.int x2), some (.int x3), some (.int x4), some (.int x5), none] [some (.ref (16 + 3)), none, some (.int x2), some (.int x3), some (.int x4), some (.int x5), none] from ⟨rfl, ⟨rfl, ⟨rfl, ⟨rfl, ⟨rfl, trivial⟩⟩⟩⟩⟩) (zyC101_49 hk24 h)
    · replace h := zy_ifn h b8
      refine zy_2 rfl rfl (show zyR _ _ _ _ [some (.ref (16 + 3)), none, some (.int x2), some (.int x3), some (.int x4), some (.int x5), none] [.int x5] _ _ from ?_)
      obtain ⟨p5, hp5, h⟩ := zy_bind h
      refine zy_60 (as := [.int x5]) (rest := []) (L := [some (.int x5)]) (d' := 1) rfl rfl (Nat.le_of_ble_eq_true rfl) (Nat.le_of_ble_eq_true rfl) rfl (Nat.le_of_ble_eq_true rfl) rfl rfl (zyC63 hp5) ?_
      show zyR _ _ _ _ [some (.ref (16 + 3)), none, some (.int x2), some (.int x3), some (.int x4), some (.int x5), none] [.int p5.1] _ _
      refine zy_2 rfl rfl (show zyR _ _ _ _ [some (.ref (16 + 3)), none, some (.int x2), some (.int x3), some (.int x4), some (.int x5), none] [.int x4, .int p5.1] _ _ from ?_)
      obtain ⟨p6, hp6, h⟩ := zy_bind h
      refine zy_60 (as := [.int x4]) (rest := [.int p5.1]) (L := [some (.int x4)]) (d' := 1) rfl rfl (Nat.le_of_ble_eq_true rfl) (Nat.le_of_ble_eq_true rfl) rfl (Nat.le_of_ble_eq_true rfl) rfl rfl (zyC63 hp6) ?_
      show zyR _ _ _ _ [some (.ref (16 + 3)), none, some (.int x2), some (.int x3), some (.int x4), some (.int x5), none] [.int p6.1, .int p5.1] _ _
      refine zy_25_3 rfl (fun b7 => (show zyR _ _ _ _ [some (.ref (16 + 3)), none, some (.int x2), some (.int x3), some (.int x4), some (.int x5), none] [] _ _ from ?_)) (fun b7 => (show zyR _ _ _ _ [some (.ref (16 + 3)), none, some (.int x2), some (.int x3), some (.int x4), some (.int x5), none] [] _ _ from ?_))
      · replace h := zy_ifp h b7
        refine zy_3 rfl rfl (show zyR _ _ _ _ [some (.ref (16 + 3)), none, some (.int x2), some (.int x3), some (.int x4), some (.int x5), none] [.int (0 : Int32)] _ _ from ?_)
        exact zy_sub (show zy_le [some (.ref (16 + 3)), none, some (.int x2), some (.int x3), some (.int x4), some (.int x5), none] [some (.ref (16 + 3)), none, some (.int x2), some (.int x3), some (.int x4), some (.int x5), none] from ⟨rfl, ⟨rfl, ⟨rfl, ⟨rfl, ⟨rfl, trivial⟩⟩⟩⟩⟩) (zyC101_54 hk24 h)
      · replace h := zy_ifn h b7
        exact zy_sub (show zy_le [some (.ref (16 + 3)), none, some (.int x2), some (.int x3), some (.int x4), some (.int x5), none] [some (.ref (16 + 3)), none, some (.int x2), some (.int x3), some (.int x4), some (.int x5), none] from ⟨rfl, ⟨rfl, ⟨rfl, ⟨rfl, ⟨rfl, trivial⟩⟩⟩⟩⟩) (zyC101_49 hk24 h)
noncomputable def zyF101_24   (n : Nat) : Int32 → Int32 → Int32 → Int32 → zy_S → Option (Int32 × zy_S) := Nat.rec (fun _ _ _ _ _ => none) (fun _ k24 => zyF101_24b k24) n
theorem zyC101_24 {X : zx_X}     : ∀ (n : Nat) (x2 : Int32) (x3 : Int32) (x4 : Int32) (x5 : Int32) (s : zy_S) (r : Int32) (s' : zy_S), zyF101_24 n x2 x3 x4 x5 s = some (r, s') → zyR X 4 101 24 [some (.ref (16 + 3)), none, some (.int x2), some (.int x3), some (.int x4), some (.int x5), none] [] s (zyE (some (.int r)) s')
  | 0, _, _, _, _ => by
    intro s r s'  h
    have h : (none : Option (Int32 × zy_S)) = some (r, s') := h
    cases h
  | n + 1, x2, x3, x4, x5 => by
    intro s r s'  h
    exact zyC101_24b (k24 := zyF101_24 n) (fun x2 x3 x4 x5 s r s'  h => zyC101_24  n x2 x3 x4 x5 s r s'  h) h
noncomputable def zyF101   (x1 : Int32) (s : zy_S) : Option (Int32 × zy_S) :=
(zyF95 x1 s).bind fun p10 =>
(zyF51 p10.2).bind fun p11 =>
zyF101_24 zy_fu p10.1 (p11.1 &&& (p10.1 ^^^ (-1 : Int32))) (-1 : Int32) (0 : Int32) p11.2
theorem zyC101 {X : zx_X}     {x1 : Int32} {s : zy_S} {r : Int32} {s' : zy_S}  (h : zyF101 x1 s = some (r, s')) : zyR X 4 101 0 [some (.ref (16 + 3)), some (.int x1), none, none, none, none, none] [] s (zyE (some (.int r)) s') := by
  unfold zyF101 at h
  refine zy_0 rfl rfl (show zyR _ _ _ _ [some (.ref (16 + 3)), some (.int x1), none, none, none, none, none] [.ref (16 + 3)] _ _ from ?_)
  refine zy_2 rfl rfl (show zyR _ _ _ _ [some (.ref (16 + 3)), some (.int x1), none, none, none, none, none] [.int x1, .ref (16 + 3)] _ _ from ?_)
  obtain ⟨p10, hp10, h⟩ := zy_bind h
  refine zy_5 (c := 16) (as := [.int x1]) (rest := []) (L := [some (.ref (16 + 3)), some (.int x1), none, none]) (d' := 3) rfl rfl rfl (Nat.le_of_ble_eq_true rfl) (Nat.le_of_ble_eq_true rfl) rfl (Nat.le_of_ble_eq_true rfl) rfl rfl (zyC95 hp10) ?_
  show zyR _ _ _ _ [some (.ref (16 + 3)), some (.int x1), none, none, none, none, none] [.int p10.1] _ _
  refine zy_23 rfl rfl (show zyR _ _ _ _ [some (.ref (16 + 3)), some (.int x1), some (.int p10.1), none, none, none, none] [] _ _ from ?_)
  refine zy_0 rfl rfl (show zyR _ _ _ _ [some (.ref (16 + 3)), some (.int x1), some (.int p10.1), none, none, none, none] [.ref (16 + 3)] _ _ from ?_)
  refine zy_1r (c := 16) rfl rfl rfl (show zyR _ _ _ _ [some (.ref (16 + 3)), some (.int x1), some (.int p10.1), none, none, none, none] [.ref (1 + 3)] _ _ from ?_)
  obtain ⟨p11, hp11, h⟩ := zy_bind h
  refine zy_5 (c := 1) (as := []) (rest := []) (L := [some (.ref (1 + 3))]) (d' := 1) rfl rfl rfl (Nat.le_of_ble_eq_true rfl) (Nat.le_of_ble_eq_true rfl) rfl (Nat.le_of_ble_eq_true rfl) rfl rfl (zyC51 hp11) ?_
  show zyR _ _ _ _ [some (.ref (16 + 3)), some (.int x1), some (.int p10.1), none, none, none, none] [.int p11.1] _ _
  refine zy_2 rfl rfl (show zyR _ _ _ _ [some (.ref (16 + 3)), some (.int x1), some (.int p10.1), none, none, none, none] [.int p10.1, .int p11.1] _ _ from ?_)
  refine zy_3 rfl rfl (show zyR _ _ _ _ [some (.ref (16 + 3)), some (.int x1), some (.int p10.1), none, none, none, none] [.int (-1 : Int32), .int p10.1, .int p11.1] _ _ from ?_)
  refine zy_15 rfl (show zyR _ _ _ _ [some (.ref (16 + 3)), some (.int x1), some (.int p10.1), none, none, none, none] [.int (p10.1 ^^^ (-1 : Int32)), .int p11.1] _ _ from ?_)
  refine zy_13 rfl (show zyR _ _ _ _ [some (.ref (16 + 3)), some (.int x1), some (.int p10.1), none, none, none, none] [.int (p11.1 &&& (p10.1 ^^^ (-1 : Int32)))] _ _ from ?_)
  refine zy_23 rfl rfl (show zyR _ _ _ _ [some (.ref (16 + 3)), some (.int x1), some (.int p10.1), some (.int (p11.1 &&& (p10.1 ^^^ (-1 : Int32)))), none, none, none] [] _ _ from ?_)
  refine zy_3 rfl rfl (show zyR _ _ _ _ [some (.ref (16 + 3)), some (.int x1), some (.int p10.1), some (.int (p11.1 &&& (p10.1 ^^^ (-1 : Int32)))), none, none, none] [.int (-1 : Int32)] _ _ from ?_)
  refine zy_23 rfl rfl (show zyR _ _ _ _ [some (.ref (16 + 3)), some (.int x1), some (.int p10.1), some (.int (p11.1 &&& (p10.1 ^^^ (-1 : Int32)))), some (.int (-1 : Int32)), none, none] [] _ _ from ?_)
  refine zy_3 rfl rfl (show zyR _ _ _ _ [some (.ref (16 + 3)), some (.int x1), some (.int p10.1), some (.int (p11.1 &&& (p10.1 ^^^ (-1 : Int32)))), some (.int (-1 : Int32)), none, none] [.int (0 : Int32)] _ _ from ?_)
  refine zy_23 rfl rfl (show zyR _ _ _ _ [some (.ref (16 + 3)), some (.int x1), some (.int p10.1), some (.int (p11.1 &&& (p10.1 ^^^ (-1 : Int32)))), some (.int (-1 : Int32)), some (.int (0 : Int32)), none] [] _ _ from ?_)
  exact zy_sub (show zy_le [some (.ref (16 + 3)), none, some (.int p10.1), some (.int (p11.1 &&& (p10.1 ^^^ (-1 : Int32)))), some (.int (-1 : Int32)), some (.int (0 : Int32)), none] [some (.ref (16 + 3)), some (.int x1), some (.int p10.1), some (.int (p11.1 &&& (p10.1 ^^^ (-1 : Int32)))), some (.int (-1 : Int32)), some (.int (0 : Int32)), none] from ⟨rfl, ⟨rfl, ⟨rfl, ⟨rfl, ⟨rfl, trivial⟩⟩⟩⟩⟩) (zyC101_24 zy_fu p10.1 (p11.1 &&& (p10.1 ^^^ (-1 : Int32))) (-1 : Int32) (0 : Int32) p11.2 _ _ h)
/-! NineOpinions.win(II)I -/
noncomputable def zyF100   (x1 : Int32) (x2 : Int32) (s : zy_S) : Option (Int32 × zy_S) :=
(zyF26 x1 s).bind fun p1 =>
if p1.1 = 0 then
some ((-1 : Int32), p1.2)
else
(zyF84 x2 p1.2).bind fun p2 =>
if p2.1 ≠ 0 then
(zyF101 x1 p2.2).bind fun p3 =>
if p3.1 ≠ (-1 : Int32) then
if x2 ≠ 0 then
some (p3.1, p3.2)
else
(zyF63 p3.1 p3.2).bind fun p4 =>
some (p4.1, p4.2)
else
some ((-2 : Int32), p3.2)
else
some ((-1 : Int32), p2.2)
theorem zyC100 {X : zx_X}     {x1 : Int32} {x2 : Int32} {s : zy_S} {r : Int32} {s' : zy_S}  (h : zyF100 x1 x2 s = some (r, s')) : zyR X 5 100 0 [some (.ref (0 + 3)), some (.int x1), some (.int x2), none] [] s (zyE (some (.int r)) s') := by
  unfold zyF100 at h
  refine zy_2 rfl rfl (show zyR _ _ _ _ [some (.ref (0 + 3)), some (.int x1), some (.int x2), none] [.int x1] _ _ from ?_)
  obtain ⟨p1, hp1, h⟩ := zy_bind h
  refine zy_60 (as := [.int x1]) (rest := []) (L := [some (.int x1)]) (d' := 1) rfl rfl (Nat.le_of_ble_eq_true rfl) (Nat.le_of_ble_eq_true rfl) rfl (Nat.le_of_ble_eq_true rfl) rfl rfl (zyC26 hp1) ?_
  show zyR _ _ _ _ [some (.ref (0 + 3)), some (.int x1), some (.int x2), none] [.int p1.1] _ _
  refine zy_24_0 rfl (fun b8 => (show zyR _ _ _ _ [some (.ref (0 + 3)), some (.int x1), some (.int x2), none] [] _ _ from ?_)) (fun b8 => (show zyR _ _ _ _ [some (.ref (0 + 3)), some (.int x1), some (.int x2), none] [] _ _ from ?_))
  · replace h := zy_ifp h b8
    refine zy_3 rfl rfl (show zyR _ _ _ _ [some (.ref (0 + 3)), some (.int x1), some (.int x2), none] [.int (-1 : Int32)] _ _ from ?_)
    obtain ⟨rfl, rfl⟩ := zy_pi h
    exact zy_4 rfl ⟨rfl, rfl⟩
  · replace h := zy_ifn h b8
    refine zy_2 rfl rfl (show zyR _ _ _ _ [some (.ref (0 + 3)), some (.int x1), some (.int x2), none] [.int x2] _ _ from ?_)
    obtain ⟨p2, hp2, h⟩ := zy_bind h
    refine zy_60 (as := [.int x2]) (rest := []) (L := [some (.int x2)]) (d' := 1) rfl rfl (Nat.le_of_ble_eq_true rfl) (Nat.le_of_ble_eq_true rfl) rfl (Nat.le_of_ble_eq_true rfl) rfl rfl (zyC84 hp2) ?_
    show zyR _ _ _ _ [some (.ref (0 + 3)), some (.int x1), some (.int x2), none] [.int p2.1] _ _
    refine zy_24_1 rfl (fun b7 => (show zyR _ _ _ _ [some (.ref (0 + 3)), some (.int x1), some (.int x2), none] [] _ _ from ?_)) (fun b7 => (show zyR _ _ _ _ [some (.ref (0 + 3)), some (.int x1), some (.int x2), none] [] _ _ from ?_))
    · replace h := zy_ifp h b7
      refine zy_0 rfl rfl (show zyR _ _ _ _ [some (.ref (0 + 3)), some (.int x1), some (.int x2), none] [.ref (0 + 3)] _ _ from ?_)
      refine zy_1r (c := 0) rfl rfl rfl (show zyR _ _ _ _ [some (.ref (0 + 3)), some (.int x1), some (.int x2), none] [.ref (16 + 3)] _ _ from ?_)
      refine zy_2 rfl rfl (show zyR _ _ _ _ [some (.ref (0 + 3)), some (.int x1), some (.int x2), none] [.int x1, .ref (16 + 3)] _ _ from ?_)
      obtain ⟨p3, hp3, h⟩ := zy_bind h
      refine zy_5 (c := 16) (as := [.int x1]) (rest := []) (L := [some (.ref (16 + 3)), some (.int x1), none, none, none, none, none]) (d' := 4) rfl rfl rfl (Nat.le_of_ble_eq_true rfl) (Nat.le_of_ble_eq_true rfl) rfl (Nat.le_of_ble_eq_true rfl) rfl rfl (zyC101 hp3) ?_
      show zyR _ _ _ _ [some (.ref (0 + 3)), some (.int x1), some (.int x2), none] [.int p3.1] _ _
      refine zy_23 rfl rfl (show zyR _ _ _ _ [some (.ref (0 + 3)), some (.int x1), some (.int x2), some (.int p3.1)] [] _ _ from ?_)
      refine zy_2 rfl rfl (show zyR _ _ _ _ [some (.ref (0 + 3)), some (.int x1), some (.int x2), some (.int p3.1)] [.int p3.1] _ _ from ?_)
      refine zy_3 rfl rfl (show zyR _ _ _ _ [some (.ref (0 + 3)), some (.int x1), some (.int x2), some (.int p3.1)] [.int (-1 : Int32), .int p3.1] _ _ from ?_)
      refine zy_25_1 rfl (fun b6 => (show zyR _ _ _ _ [some (.ref (0 + 3)), some (.int x1), some (.int x2), some (.int p3.1)] [] _ _ from ?_)) (fun b6 => (show zyR _ _ _ _ [some (.ref (0 + 3)), some (.int x1), some (.int x2), some (.int p3.1)] [] _ _ from ?_))
      · replace h := zy_ifp h b6
        refine zy_2 rfl rfl (show zyR _ _ _ _ [some (.ref (0 + 3)), some (.int x1), some (.int x2), some (.int p3.1)] [.int x2] _ _ from ?_)
        refine zy_24_1 rfl (fun b5 => (show zyR _ _ _ _ [some (.ref (0 + 3)), some (.int x1), some (.int x2), some (.int p3.1)] [] _ _ from ?_)) (fun b5 => (show zyR _ _ _ _ [some (.ref (0 + 3)), some (.int x1), some (.int x2), some (.int p3.1)] [] _ _ from ?_))
        · replace h := zy_ifp h b5
          refine zy_2 rfl rfl (show zyR _ _ _ _ [some (.ref (0 + 3)), some (.int x1), some (.int x2), some (.int p3.1)] [.int p3.1] _ _ from ?_)
          obtain ⟨rfl, rfl⟩ := zy_pi h
          exact zy_4 rfl ⟨rfl, rfl⟩
        · replace h := zy_ifn h b5
          refine zy_2 rfl rfl (show zyR _ _ _ _ [some (.ref (0 + 3)), some (.int x1), some (.int x2), some (.int p3.1)] [.int p3.1] _ _ from ?_)
          obtain ⟨p4, hp4, h⟩ := zy_bind h
          refine zy_60 (as := [.int p3.1]) (rest := []) (L := [some (.int p3.1)]) (d' := 1) rfl rfl (Nat.le_of_ble_eq_true rfl) (Nat.le_of_ble_eq_true rfl) rfl (Nat.le_of_ble_eq_true rfl) rfl rfl (zyC63 hp4) ?_
          show zyR _ _ _ _ [some (.ref (0 + 3)), some (.int x1), some (.int x2), some (.int p3.1)] [.int p4.1] _ _
          refine zy_6 rfl (show zyR _ _ _ _ [some (.ref (0 + 3)), some (.int x1), some (.int x2), some (.int p3.1)] [.int p4.1] _ _ from ?_)
          obtain ⟨rfl, rfl⟩ := zy_pi h
          exact zy_4 rfl ⟨rfl, rfl⟩
      · replace h := zy_ifn h b6
        refine zy_3 rfl rfl (show zyR _ _ _ _ [some (.ref (0 + 3)), some (.int x1), some (.int x2), some (.int p3.1)] [.int (-2 : Int32)] _ _ from ?_)
        obtain ⟨rfl, rfl⟩ := zy_pi h
        exact zy_4 rfl ⟨rfl, rfl⟩
    · replace h := zy_ifn h b7
      refine zy_3 rfl rfl (show zyR _ _ _ _ [some (.ref (0 + 3)), some (.int x1), some (.int x2), none] [.int (-1 : Int32)] _ _ from ?_)
      obtain ⟨rfl, rfl⟩ := zy_pi h
      exact zy_4 rfl ⟨rfl, rfl⟩
