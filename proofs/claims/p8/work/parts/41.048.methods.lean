/-! PART 41.48: methods as functions. Made by wip/v4/dcp.py. -/
/-! NineOpinionsModel.matters(I)I -/
noncomputable def zyF225_106  (k18 : Int32 → Int32 → Int32 → zy_S → Option (Int32 × zy_S)) (x1 : Int32) (x3 : Int32) (y0 : Int32) (y1 : Int32) (s : zy_S) : Option (Int32 × zy_S) :=
k18 x1 (y1 ||| y0) (x3 + (1 : Int32)) s
theorem zyC225_106 {X : zx_X}  {k18 : Int32 → Int32 → Int32 → zy_S → Option (Int32 × zy_S)}  (hk18 : ∀ (x1 : Int32) (x2 : Int32) (x3 : Int32) (s : zy_S) (r : Int32) (s' : zy_S), k18 x1 x2 x3 s = some (r, s') → zyR X 2 225 18 [some (.ref (43 + 3)), some (.int x1), some (.int x2), some (.int x3), none, none] [] s (zyE (some (.int r)) s')) {x1 : Int32} {x3 : Int32} {y0 : Int32} {y1 : Int32} {s : zy_S} {r : Int32} {s' : zy_S}  (h : zyF225_106 k18 x1 x3 y0 y1 s = some (r, s')) : zyR X 2 225 106 [some (.ref (43 + 3)), some (.int x1), none, some (.int x3), none, none] [.int y0, .int y1] s (zyE (some (.int r)) s') := by
  unfold zyF225_106 at h
  refine zy_14 rfl (show zyR _ _ _ _ [some (.ref (43 + 3)), some (.int x1), none, some (.int x3), none, none] [.int (y1 ||| y0)] _ _ from ?_)
  refine zy_23 rfl rfl (show zyR _ _ _ _ [some (.ref (43 + 3)), some (.int x1), some (.int (y1 ||| y0)), some (.int x3), none, none] [] _ _ from ?_)
  refine zy_22 rfl rfl rfl rfl (show zyR _ _ _ _ [some (.ref (43 + 3)), some (.int x1), some (.int (y1 ||| y0)), some (.int (x3 + (1 : Int32))), none, none] [] _ _ from ?_)
  refine zy_6 rfl (show zyR _ _ _ _ [some (.ref (43 + 3)), some (.int x1), some (.int (y1 ||| y0)), some (.int (x3 + (1 : Int32))), none, none] [] _ _ from ?_)
  exact zy_sub (show zy_le [some (.ref (43 + 3)), some (.int x1), some (.int (y1 ||| y0)), some (.int (x3 + (1 : Int32))), none, none] [some (.ref (43 + 3)), some (.int x1), some (.int (y1 ||| y0)), some (.int (x3 + (1 : Int32))), none, none] from ⟨rfl, ⟨rfl, ⟨rfl, ⟨rfl, trivial⟩⟩⟩⟩) (hk18 x1 (y1 ||| y0) (x3 + (1 : Int32)) s _ _ h)
noncomputable def zyF225_91  (k18 : Int32 → Int32 → Int32 → zy_S → Option (Int32 × zy_S)) (x1 : Int32) (x2 : Int32) (x3 : Int32) (y0 : Int32) (s : zy_S) : Option (Int32 × zy_S) :=
if y0 = 0 then
zyF225_106 k18 x1 x3 (0 : Int32) x2 s
else
zyF225_106 k18 x1 x3 ((1 : Int32) <<< (x3 &&& 31)) x2 s
theorem zyC225_91 {X : zx_X}  {k18 : Int32 → Int32 → Int32 → zy_S → Option (Int32 × zy_S)}  (hk18 : ∀ (x1 : Int32) (x2 : Int32) (x3 : Int32) (s : zy_S) (r : Int32) (s' : zy_S), k18 x1 x2 x3 s = some (r, s') → zyR X 2 225 18 [some (.ref (43 + 3)), some (.int x1), some (.int x2), some (.int x3), none, none] [] s (zyE (some (.int r)) s')) {x1 : Int32} {x2 : Int32} {x3 : Int32} {y0 : Int32} {s : zy_S} {r : Int32} {s' : zy_S}  (h : zyF225_91 k18 x1 x2 x3 y0 s = some (r, s')) : zyR X 2 225 91 [some (.ref (43 + 3)), some (.int x1), some (.int x2), some (.int x3), none, none] [.int y0] s (zyE (some (.int r)) s') := by
  unfold zyF225_91 at h
  refine zy_23 rfl rfl (show zyR _ _ _ _ [some (.ref (43 + 3)), some (.int x1), some (.int x2), some (.int x3), none, some (.int y0)] [] _ _ from ?_)
  refine zy_2 rfl rfl (show zyR _ _ _ _ [some (.ref (43 + 3)), some (.int x1), some (.int x2), some (.int x3), none, some (.int y0)] [.int x2] _ _ from ?_)
  refine zy_2 rfl rfl (show zyR _ _ _ _ [some (.ref (43 + 3)), some (.int x1), some (.int x2), some (.int x3), none, some (.int y0)] [.int y0, .int x2] _ _ from ?_)
  refine zy_24_0 rfl (fun b1 => (show zyR _ _ _ _ [some (.ref (43 + 3)), some (.int x1), some (.int x2), some (.int x3), none, some (.int y0)] [.int x2] _ _ from ?_)) (fun b1 => (show zyR _ _ _ _ [some (.ref (43 + 3)), some (.int x1), some (.int x2), some (.int x3), none, some (.int y0)] [.int x2] _ _ from ?_))
  · replace h := zy_ifp h b1
    refine zy_3 rfl rfl (show zyR _ _ _ _ [some (.ref (43 + 3)), some (.int x1), some (.int x2), some (.int x3), none, some (.int y0)] [.int (0 : Int32), .int x2] _ _ from ?_)
    exact zy_sub (show zy_le [some (.ref (43 + 3)), some (.int x1), none, some (.int x3), none, none] [some (.ref (43 + 3)), some (.int x1), some (.int x2), some (.int x3), none, some (.int y0)] from ⟨rfl, ⟨rfl, ⟨rfl, trivial⟩⟩⟩) (zyC225_106 hk18 h)
  · replace h := zy_ifn h b1
    refine zy_3 rfl rfl (show zyR _ _ _ _ [some (.ref (43 + 3)), some (.int x1), some (.int x2), some (.int x3), none, some (.int y0)] [.int (1 : Int32), .int x2] _ _ from ?_)
    refine zy_2 rfl rfl (show zyR _ _ _ _ [some (.ref (43 + 3)), some (.int x1), some (.int x2), some (.int x3), none, some (.int y0)] [.int x3, .int (1 : Int32), .int x2] _ _ from ?_)
    refine zy_16 rfl (show zyR _ _ _ _ [some (.ref (43 + 3)), some (.int x1), some (.int x2), some (.int x3), none, some (.int y0)] [.int ((1 : Int32) <<< (x3 &&& 31)), .int x2] _ _ from ?_)
    refine zy_6 rfl (show zyR _ _ _ _ [some (.ref (43 + 3)), some (.int x1), some (.int x2), some (.int x3), none, some (.int y0)] [.int ((1 : Int32) <<< (x3 &&& 31)), .int x2] _ _ from ?_)
    exact zy_sub (show zy_le [some (.ref (43 + 3)), some (.int x1), none, some (.int x3), none, none] [some (.ref (43 + 3)), some (.int x1), some (.int x2), some (.int x3), none, some (.int y0)] from ⟨rfl, ⟨rfl, ⟨rfl, trivial⟩⟩⟩) (zyC225_106 hk18 h)
noncomputable def zyF225_18b  (k18 : Int32 → Int32 → Int32 → zy_S → Option (Int32 × zy_S)) (x1 : Int32) (x2 : Int32) (x3 : Int32) (s : zy_S) : Option (Int32 × zy_S) :=
if (6 : Int32) ≤ x3 then
some (x2, s)
else
if x1 ≠ 0 then
if x1 ≠ (1 : Int32) then
(zyF209 (((s.1 43 7) >>> (((4 : Int32) * x3) &&& 31)) &&& (15 : Int32)) s).bind fun p2 =>
if p2.1 ≠ (1 : Int32) then
zyF225_91 k18 x1 x2 x3 (0 : Int32) p2.2
else
zyF225_91 k18 x1 x2 x3 (1 : Int32) p2.2
else
if ((((s.1 43 7) >>> (((4 : Int32) * x3) &&& 31)) &&& (15 : Int32)) &&& (9 : Int32)) ≠ (9 : Int32) then
zyF225_91 k18 x1 x2 x3 (0 : Int32) s
else
zyF225_91 k18 x1 x2 x3 (1 : Int32) s
else
if (((s.1 43 7) >>> (((4 : Int32) * x3) &&& 31)) &&& (15 : Int32)) ≠ 0 then
zyF225_91 k18 x1 x2 x3 (0 : Int32) s
else
zyF225_91 k18 x1 x2 x3 (1 : Int32) s
theorem zyC225_18b {X : zx_X}  {k18 : Int32 → Int32 → Int32 → zy_S → Option (Int32 × zy_S)}  (hk18 : ∀ (x1 : Int32) (x2 : Int32) (x3 : Int32) (s : zy_S) (r : Int32) (s' : zy_S), k18 x1 x2 x3 s = some (r, s') → zyR X 2 225 18 [some (.ref (43 + 3)), some (.int x1), some (.int x2), some (.int x3), none, none] [] s (zyE (some (.int r)) s')) {x1 : Int32} {x2 : Int32} {x3 : Int32} {s : zy_S} {r : Int32} {s' : zy_S}  (h : zyF225_18b k18 x1 x2 x3 s = some (r, s')) : zyR X 2 225 18 [some (.ref (43 + 3)), some (.int x1), some (.int x2), some (.int x3), none, none] [] s (zyE (some (.int r)) s') := by
  unfold zyF225_18b at h
  refine zy_2 rfl rfl (show zyR _ _ _ _ [some (.ref (43 + 3)), some (.int x1), some (.int x2), some (.int x3), none, none] [.int x3] _ _ from ?_)
  refine zy_3 rfl rfl (show zyR _ _ _ _ [some (.ref (43 + 3)), some (.int x1), some (.int x2), some (.int x3), none, none] [.int (6 : Int32), .int x3] _ _ from ?_)
  refine zy_25_3 rfl (fun b8 => (show zyR _ _ _ _ [some (.ref (43 + 3)), some (.int x1), some (.int x2), some (.int x3), none, none] [] _ _ from ?_)) (fun b8 => (show zyR _ _ _ _ [some (.ref (43 + 3)), some (.int x1), some (.int x2), some (.int x3), none, none] [] _ _ from ?_))
  · replace h := zy_ifp h b8
    refine zy_2 rfl rfl (show zyR _ _ _ _ [some (.ref (43 + 3)), some (.int x1), some (.int x2), some (.int x3), none, none] [.int x2] _ _ from ?_)
    obtain ⟨rfl, rfl⟩ := zy_pi h
    exact zy_4 rfl ⟨rfl, rfl⟩
  · replace h := zy_ifn h b8
    refine zy_0 rfl rfl (show zyR _ _ _ _ [some (.ref (43 + 3)), some (.int x1), some (.int x2), some (.int x3), none, none] [.ref (43 + 3)] _ _ from ?_)
    refine zy_1 (c := 43) rfl rfl rfl (show zyR _ _ _ _ [some (.ref (43 + 3)), some (.int x1), some (.int x2), some (.int x3), none, none] [.int (s.1 43 7)] _ _ from ?_)
    refine zy_3 rfl rfl (show zyR _ _ _ _ [some (.ref (43 + 3)), some (.int x1), some (.int x2), some (.int x3), none, none] [.int (4 : Int32), .int (s.1 43 7)] _ _ from ?_)
    refine zy_2 rfl rfl (show zyR _ _ _ _ [some (.ref (43 + 3)), some (.int x1), some (.int x2), some (.int x3), none, none] [.int x3, .int (4 : Int32), .int (s.1 43 7)] _ _ from ?_)
    refine zy_12 rfl (show zyR _ _ _ _ [some (.ref (43 + 3)), some (.int x1), some (.int x2), some (.int x3), none, none] [.int ((4 : Int32) * x3), .int (s.1 43 7)] _ _ from ?_)
    refine zy_17 rfl (show zyR _ _ _ _ [some (.ref (43 + 3)), some (.int x1), some (.int x2), some (.int x3), none, none] [.int ((s.1 43 7) >>> (((4 : Int32) * x3) &&& 31))] _ _ from ?_)
    refine zy_3 rfl rfl (show zyR _ _ _ _ [some (.ref (43 + 3)), some (.int x1), some (.int x2), some (.int x3), none, none] [.int (15 : Int32), .int ((s.1 43 7) >>> (((4 : Int32) * x3) &&& 31))] _ _ from ?_)
    refine zy_13 rfl (show zyR _ _ _ _ [some (.ref (43 + 3)), some (.int x1), some (.int x2), some (.int x3), none, none] [.int (((s.1 43 7) >>> (((4 : Int32) * x3) &&& 31)) &&& (15 : Int32))] _ _ from ?_)
    refine zy_23 rfl rfl (show zyR _ _ _ _ [some (.ref (43 + 3)), some (.int x1), some (.int x2), some (.int x3), some (.int (((s.1 43 7) >>> (((4 : Int32) * x3) &&& 31)) &&& (15 : Int32))), none] [] _ _ from ?_)
    refine zy_2 rfl rfl (show zyR _ _ _ _ [some (.ref (43 + 3)), some (.int x1), some (.int x2), some (.int x3), some (.int (((s.1 43 7) >>> (((4 : Int32) * x3) &&& 31)) &&& (15 : Int32))), none] [.int x1] _ _ from ?_)
    refine zy_24_1 rfl (fun b7 => (show zyR _ _ _ _ [some (.ref (43 + 3)), some (.int x1), some (.int x2), some (.int x3), some (.int (((s.1 43 7) >>> (((4 : Int32) * x3) &&& 31)) &&& (15 : Int32))), none] [] _ _ from ?_)) (fun b7 => (show zyR _ _ _ _ [some (.ref (43 + 3)), some (.int x1), some (.int x2), some (.int x3), some (.int (((s.1 43 7) >>> (((4 : Int32) * x3) &&& 31)) &&& (15 : Int32))), none] [] _ _ from ?_))
    · replace h := zy_ifp h b7
      refine zy_2 rfl rfl (show zyR _ _ _ _ [some (.ref (43 + 3)), some (.int x1), some (.int x2), some (.int x3), some (.int (((s.1 43 7) >>> (((4 : Int32) * x3) &&& 31)) &&& (15 : Int32))), none] [.int x1] _ _ from ?_)
      refine zy_3 rfl rfl (show zyR _ _ _ _ [some (.ref (43 + 3)), some (.int x1), some (.int x2), some (.int x3), some (.int (((s.1 43 7) >>> (((4 : Int32) * x3) &&& 31)) &&& (15 : Int32))), none] [.int (1 : Int32), .int x1] _ _ from ?_)
      refine zy_25_1 rfl (fun b5 => (show zyR _ _ _ _ [some (.ref (43 + 3)), some (.int x1), some (.int x2), some (.int x3), some (.int (((s.1 43 7) >>> (((4 : Int32) * x3) &&& 31)) &&& (15 : Int32))), none] [] _ _ from ?_)) (fun b5 => (show zyR _ _ _ _ [some (.ref (43 + 3)), some (.int x1), some (.int x2), some (.int x3), some (.int (((s.1 43 7) >>> (((4 : Int32) * x3) &&& 31)) &&& (15 : Int32))), none] [] _ _ from ?_))
      · replace h := zy_ifp h b5
        refine zy_2 rfl rfl (show zyR _ _ _ _ [some (.ref (43 + 3)), some (.int x1), some (.int x2), some (.int x3), some (.int (((s.1 43 7) >>> (((4 : Int32) * x3) &&& 31)) &&& (15 : Int32))), none] [.int (((s.1 43 7) >>> (((4 : Int32) * x3) &&& 31)) &&& (15 : Int32))] _ _ from ?_)
        obtain ⟨p2, hp2, h⟩ := zy_bind h
        refine zy_60 (as := [.int (((s.1 43 7) >>> (((4 : Int32) * x3) &&& 31)) &&& (15 : Int32))]) (rest := []) (L := [some (.int (((s.1 43 7) >>> (((4 : Int32) * x3) &&& 31)) &&& (15 : Int32))), none, none]) (d' := 1) rfl rfl (Nat.le_of_ble_eq_true rfl) (Nat.le_of_ble_eq_true rfl) rfl (Nat.le_of_ble_eq_true rfl) rfl rfl (zyC209 hp2) ?_
        show zyR _ _ _ _ [some (.ref (43 + 3)), some (.int x1), some (.int x2), some (.int x3), some (.int (((s.1 43 7) >>> (((4 : Int32) * x3) &&& 31)) &&& (15 : Int32))), none] [.int p2.1] _ _
        refine zy_3 rfl rfl (show zyR _ _ _ _ [some (.ref (43 + 3)), some (.int x1), some (.int x2), some (.int x3), some (.int (((s.1 43 7) >>> (((4 : Int32) * x3) &&& 31)) &&& (15 : Int32))), none] [.int (1 : Int32), .int p2.1] _ _ from ?_)
        refine zy_25_1 rfl (fun b3 => (show zyR _ _ _ _ [some (.ref (43 + 3)), some (.int x1), some (.int x2), some (.int x3), some (.int (((s.1 43 7) >>> (((4 : Int32) * x3) &&& 31)) &&& (15 : Int32))), none] [] _ _ from ?_)) (fun b3 => (show zyR _ _ _ _ [some (.ref (43 + 3)), some (.int x1), some (.int x2), some (.int x3), some (.int (((s.1 43 7) >>> (((4 : Int32) * x3) &&& 31)) &&& (15 : Int32))), none] [] _ _ from ?_))
        · replace h := zy_ifp h b3
          refine zy_3 rfl rfl (show zyR _ _ _ _ [some (.ref (43 + 3)), some (.int x1), some (.int x2), some (.int x3), some (.int (((s.1 43 7) >>> (((4 : Int32) * x3) &&& 31)) &&& (15 : Int32))), none] [.int (0 : Int32)] _ _ from ?_)
          exact zy_sub (show zy_le [some (.ref (43 + 3)), some (.int x1), some (.int x2), some (.int x3), none, none] [some (.ref (43 + 3)), some (.int x1), some (.int x2), some (.int x3), some (.int (((s.1 43 7) >>> (((4 : Int32) * x3) &&& 31)) &&& (15 : Int32))), none] from ⟨rfl, ⟨rfl, ⟨rfl, ⟨rfl, trivial⟩⟩⟩⟩) (zyC225_91 hk18 h)
        · replace h := zy_ifn h b3
          refine zy_3 rfl rfl (show zyR _ _ _ _ [some (.ref (43 + 3)), some (.int x1), some (.int x2), some (.int x3), some (.int (((s.1 43 7) >>> (((4 : Int32) * x3) &&& 31)) &&& (15 : Int32))), none] [.int (1 : Int32)] _ _ from ?_)
          refine zy_6 rfl (show zyR _ _ _ _ [some (.ref (43 + 3)), some (.int x1), some (.int x2), some (.int x3), some (.int (((s.1 43 7) >>> (((4 : Int32) * x3) &&& 31)) &&& (15 : Int32))), none] [.int (1 : Int32)] _ _ from ?_)
          exact zy_sub (show zy_le [some (.ref (43 + 3)), some (.int x1), some (.int x2), some (.int x3), none, none] [some (.ref (43 + 3)), some (.int x1), some (.int x2), some (.int x3), some (.int (((s.1 43 7) >>> (((4 : Int32) * x3) &&& 31)) &&& (15 : Int32))), none] from ⟨rfl, ⟨rfl, ⟨rfl, ⟨rfl, trivial⟩⟩⟩⟩) (zyC225_91 hk18 h)
      · replace h := zy_ifn h b5
        refine zy_2 rfl rfl (show zyR _ _ _ _ [some (.ref (43 + 3)), some (.int x1), some (.int x2), some (.int x3), some (.int (((s.1 43 7) >>> (((4 : Int32) * x3) &&& 31)) &&& (15 : Int32))), none] [.int (((s.1 43 7) >>> (((4 : Int32) * x3) &&& 31)) &&& (15 : Int32))] _ _ from ?_)
        refine zy_3 rfl rfl (show zyR _ _ _ _ [some (.ref (43 + 3)), some (.int x1), some (.int x2), some (.int x3), some (.int (((s.1 43 7) >>> (((4 : Int32) * x3) &&& 31)) &&& (15 : Int32))), none] [.int (9 : Int32), .int (((s.1 43 7) >>> (((4 : Int32) * x3) &&& 31)) &&& (15 : Int32))] _ _ from ?_)
        refine zy_13 rfl (show zyR _ _ _ _ [some (.ref (43 + 3)), some (.int x1), some (.int x2), some (.int x3), some (.int (((s.1 43 7) >>> (((4 : Int32) * x3) &&& 31)) &&& (15 : Int32))), none] [.int ((((s.1 43 7) >>> (((4 : Int32) * x3) &&& 31)) &&& (15 : Int32)) &&& (9 : Int32))] _ _ from ?_)
        refine zy_3 rfl rfl (show zyR _ _ _ _ [some (.ref (43 + 3)), some (.int x1), some (.int x2), some (.int x3), some (.int (((s.1 43 7) >>> (((4 : Int32) * x3) &&& 31)) &&& (15 : Int32))), none] [.int (9 : Int32), .int ((((s.1 43 7) >>> (((4 : Int32) * x3) &&& 31)) &&& (15 : Int32)) &&& (9 : Int32))] _ _ from ?_)
        refine zy_25_1 rfl (fun b4 => (show zyR _ _ _ _ [some (.ref (43 + 3)), some (.int x1), some (.int x2), some (.int x3), some (.int (((s.1 43 7) >>> (((4 : Int32) * x3) &&& 31)) &&& (15 : Int32))), none] [] _ _ from ?_)) (fun b4 => (show zyR _ _ _ _ [some (.ref (43 + 3)), some (.int x1), some (.int x2), some (.int x3), some (.int (((s.1 43 7) >>> (((4 : Int32) * x3) &&& 31)) &&& (15 : Int32))), none] [] _ _ from ?_))
        · replace h := zy_ifp h b4
          refine zy_3 rfl rfl (show zyR _ _ _ _ [some (.ref (43 + 3)), some (.int x1), some (.int x2), some (.int x3), some (.int (((s.1 43 7) >>> (((4 : Int32) * x3) &&& 31)) &&& (15 : Int32))), none] [.int (0 : Int32)] _ _ from ?_)
          refine zy_6 rfl (show zyR _ _ _ _ [some (.ref (43 + 3)), some (.int x1), some (.int x2), some (.int x3), some (.int (((s.1 43 7) >>> (((4 : Int32) * x3) &&& 31)) &&& (15 : Int32))), none] [.int (0 : Int32)] _ _ from ?_)
          exact zy_sub (show zy_le [some (.ref (43 + 3)), some (.int x1), some (.int x2), some (.int x3), none, none] [some (.ref (43 + 3)), some (.int x1), some (.int x2), some (.int x3), some (.int (((s.1 43 7) >>> (((4 : Int32) * x3) &&& 31)) &&& (15 : Int32))), none] from ⟨rfl, ⟨rfl, ⟨rfl, ⟨rfl, trivial⟩⟩⟩⟩) (zyC225_91 hk18 h)
        · replace h := zy_ifn h b4
          refine zy_3 rfl rfl (show zyR _ _ _ _ [some (.ref (43 + 3)), some (.int x1), some (.int x2), some (.int x3), some (.int (((s.1 43 7) >>> (((4 : Int32) * x3) &&& 31)) &&& (15 : Int32))), none] [.int (1 : Int32)] _ _ from ?_)
          refine zy_6 rfl (show zyR _ _ _ _ [some (.ref (43 + 3)), some (.int x1), some (.int x2), some (.int x3), some (.int (((s.1 43 7) >>> (((4 : Int32) * x3) &&& 31)) &&& (15 : Int32))), none] [.int (1 : Int32)] _ _ from ?_)
          exact zy_sub (show zy_le [some (.ref (43 + 3)), some (.int x1), some (.int x2), some (.int x3), none, none] [some (.ref (43 + 3)), some (.int x1), some (.int x2), some (.int x3), some (.int (((s.1 43 7) >>> (((4 : Int32) * x3) &&& 31)) &&& (15 : Int32))), none] from ⟨rfl, ⟨rfl, ⟨rfl, ⟨rfl, trivial⟩⟩⟩⟩) (zyC225_91 hk18 h)
    · replace h := zy_ifn h b7
      refine zy_2 rfl rfl (show zyR _ _ _ _ [some (.ref (43 + 3)), some (.int x1), some (.int x2), some (.int x3), some (.int (((s.1 43 7) >>> (((4 : Int32) * x3) &&& 31)) &&& (15 : Int32))), none] [.int (((s.1 43 7) >>> (((4 : Int32) * x3) &&& 31)) &&& (15 : Int32))] _ _ from ?_)
      refine zy_24_1 rfl (fun b6 => (show zyR _ _ _ _ [some (.ref (43 + 3)), some (.int x1), some (.int x2), some (.int x3), some (.int (((s.1 43 7) >>> (((4 : Int32) * x3) &&& 31)) &&& (15 : Int32))), none] [] _ _ from ?_)) (fun b6 => (show zyR _ _ _ _ [some (.ref (43 + 3)), some (.int x1), some (.int x2), some (.int x3), some (.int (((s.1 43 7) >>> (((4 : Int32) * x3) &&& 31)) &&& (15 : Int32))), none] [] _ _ from ?_))
      · replace h := zy_ifp h b6
        refine zy_3 rfl rfl (show zyR _ _ _ _ [some (.ref (43 + 3)), some (.int x1), some (.int x2), some (.int x3), some (.int (((s.1 43 7) >>> (((4 : Int32) * x3) &&& 31)) &&& (15 : Int32))), none] [.int (0 : Int32)] _ _ from ?_)
        refine zy_6 rfl (show zyR _ _ _ _ [some (.ref (43 + 3)), some (.int x1), some (.int x2), some (.int x3), some (.int (((s.1 43 7) >>> (((4 : Int32) * x3) &&& 31)) &&& (15 : Int32))), none] [.int (0 : Int32)] _ _ from ?_)
        exact zy_sub (show zy_le [some (.ref (43 + 3)), some (.int x1), some (.int x2), some (.int x3), none, none] [some (.ref (43 + 3)), some (.int x1), some (.int x2), some (.int x3), some (.int (((s.1 43 7) >>> (((4 : Int32) * x3) &&& 31)) &&& (15 : Int32))), none] from ⟨rfl, ⟨rfl, ⟨rfl, ⟨rfl, trivial⟩⟩⟩⟩) (zyC225_91 hk18 h)
      · replace h := zy_ifn h b6
        refine zy_3 rfl rfl (show zyR _ _ _ _ [some (.ref (43 + 3)), some (.int x1), some (.int x2), some (.int x3), some (.int (((s.1 43 7) >>> (((4 : Int32) * x3) &&& 31)) &&& (15 : Int32))), none] [.int (1 : Int32)] _ _ from ?_)
        refine zy_6 rfl (show zyR _ _ _ _ [some (.ref (43 + 3)), some (.int x1), some (.int x2), some (.int x3), some (.int (((s.1 43 7) >>> (((4 : Int32) * x3) &&& 31)) &&& (15 : Int32))), none] [.int (1 : Int32)] _ _ from ?_)
        exact zy_sub (show zy_le [some (.ref (43 + 3)), some (.int x1), some (.int x2), some (.int x3), none, none] [some (.ref (43 + 3)), some (.int x1), some (.int x2), some (.int x3), some (.int (((s.1 43 7) >>> (((4 : Int32) * x3) &&& 31)) &&& (15 : Int32))), none] from ⟨rfl, ⟨rfl, ⟨rfl, ⟨rfl, trivial⟩⟩⟩⟩) (zyC225_91 hk18 h)
noncomputable def zyF225_18   (n : Nat) : Int32 → Int32 → Int32 → zy_S → Option (Int32 × zy_S) := Nat.rec (fun _ _ _ _ => none) (fun _ k18 => zyF225_18b k18) n
theorem zyC225_18 {X : zx_X}     : ∀ (n : Nat) (x1 : Int32) (x2 : Int32) (x3 : Int32) (s : zy_S) (r : Int32) (s' : zy_S), zyF225_18 n x1 x2 x3 s = some (r, s') → zyR X 2 225 18 [some (.ref (43 + 3)), some (.int x1), some (.int x2), some (.int x3), none, none] [] s (zyE (some (.int r)) s')
  | 0, _, _, _ => by
    intro s r s'  h
    have h : (none : Option (Int32 × zy_S)) = some (r, s') := h
    cases h
  | n + 1, x1, x2, x3 => by
    intro s r s'  h
    exact zyC225_18b (k18 := zyF225_18 n) (fun x1 x2 x3 s r s'  h => zyC225_18  n x1 x2 x3 s r s'  h) h
noncomputable def zyF225   (x1 : Int32) (s : zy_S) : Option (Int32 × zy_S) :=
(zyF179 (x1).toInt64 (0 : Int64) (2 : Int64) s).bind fun p9 =>
if p9.1 ≠ 0 then
zyF225_18 zy_fu x1 (0 : Int32) (0 : Int32) p9.2
else
some ((-1 : Int32), p9.2)
theorem zyC225 {X : zx_X}     {x1 : Int32} {s : zy_S} {r : Int32} {s' : zy_S}  (h : zyF225 x1 s = some (r, s')) : zyR X 2 225 0 [some (.ref (43 + 3)), some (.int x1), none, none, none, none] [] s (zyE (some (.int r)) s') := by
  unfold zyF225 at h
  refine zy_2 rfl rfl (show zyR _ _ _ _ [some (.ref (43 + 3)), some (.int x1), none, none, none, none] [.int x1] _ _ from ?_)
  refine zy_40 rfl (show zyR _ _ _ _ [some (.ref (43 + 3)), some (.int x1), none, none, none, none] [.long (x1).toInt64] _ _ from ?_)
  refine zy_36 rfl rfl (show zyR _ _ _ _ [some (.ref (43 + 3)), some (.int x1), none, none, none, none] [.long (0 : Int64), .long (x1).toInt64] _ _ from ?_)
  refine zy_36c rfl rfl (show zyR _ _ _ _ [some (.ref (43 + 3)), some (.int x1), none, none, none, none] [.long (2 : Int64), .long (0 : Int64), .long (x1).toInt64] _ _ from ?_)
  obtain ⟨p9, hp9, h⟩ := zy_bind h
  refine zy_60 (as := [.long (x1).toInt64, .long (0 : Int64), .long (2 : Int64)]) (rest := []) (L := [some (.long (x1).toInt64), none, some (.long (0 : Int64)), none, some (.long (2 : Int64)), none]) (d' := 1) rfl rfl (Nat.le_of_ble_eq_true rfl) (Nat.le_of_ble_eq_true rfl) rfl (Nat.le_of_ble_eq_true rfl) rfl rfl (zyC179 hp9) ?_
  show zyR _ _ _ _ [some (.ref (43 + 3)), some (.int x1), none, none, none, none] [.int p9.1] _ _
  refine zy_24_1 rfl (fun b10 => (show zyR _ _ _ _ [some (.ref (43 + 3)), some (.int x1), none, none, none, none] [] _ _ from ?_)) (fun b10 => (show zyR _ _ _ _ [some (.ref (43 + 3)), some (.int x1), none, none, none, none] [] _ _ from ?_))
  · replace h := zy_ifp h b10
    refine zy_3 rfl rfl (show zyR _ _ _ _ [some (.ref (43 + 3)), some (.int x1), none, none, none, none] [.int (0 : Int32)] _ _ from ?_)
    refine zy_23 rfl rfl (show zyR _ _ _ _ [some (.ref (43 + 3)), some (.int x1), some (.int (0 : Int32)), none, none, none] [] _ _ from ?_)
    refine zy_3 rfl rfl (show zyR _ _ _ _ [some (.ref (43 + 3)), some (.int x1), some (.int (0 : Int32)), none, none, none] [.int (0 : Int32)] _ _ from ?_)
    refine zy_23 rfl rfl (show zyR _ _ _ _ [some (.ref (43 + 3)), some (.int x1), some (.int (0 : Int32)), some (.int (0 : Int32)), none, none] [] _ _ from ?_)
    exact zy_sub (show zy_le [some (.ref (43 + 3)), some (.int x1), some (.int (0 : Int32)), some (.int (0 : Int32)), none, none] [some (.ref (43 + 3)), some (.int x1), some (.int (0 : Int32)), some (.int (0 : Int32)), none, none] from ⟨rfl, ⟨rfl, ⟨rfl, ⟨rfl, trivial⟩⟩⟩⟩) (zyC225_18 zy_fu x1 (0 : Int32) (0 : Int32) p9.2 _ _ h)
  · replace h := zy_ifn h b10
    refine zy_3 rfl rfl (show zyR _ _ _ _ [some (.ref (43 + 3)), some (.int x1), none, none, none, none] [.int (-1 : Int32)] _ _ from ?_)
    obtain ⟨rfl, rfl⟩ := zy_pi h
    exact zy_4 rfl ⟨rfl, rfl⟩
