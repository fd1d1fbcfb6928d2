/-! PART 41.15: methods as functions. Made by wip/v4/dcp.py. -/
/-! NineOpinionsModel.matters(I)I -/
noncomputable def zyF225_106  (k18 : Int32 → Int32 → Int32 → zy_S → Option (Int32 × zy_S)) (x1 : Int32) (x3 : Int32) (y0 : Int32) (y1 : Int32) (s : zy_S) : Option (Int32 × zy_S) :=
k18 x1 (y1 ||| y0) (x3 + (1 : Int32)) s
theorem zyC225_106 {X : zx_X}  {k18 : Int32 → Int32 → Int32 → zy_S → Option (Int32 × zy_S)}  (hk18 : ∀ (x1 : Int32) (x2 : Int32) (x3 : Int32) (s : zy_S) (r : Int32) (s' : zy_S), k18 x1 x2 x3 s = some (r, s') → zyR X 2 225 18 [some (.ref (43 + 3)), some (.int x1), some (.int x2), some (.int x3), none, none] [] s (zyE (some (.int r)) s')) {x1 : Int32} {x3 : Int32} {y0 : Int32} {y1 : Int32} {s : zy_S} {r : Int32} {s' : zy_S}  (h : zyF225_106 k18 x1 x3 y0 y1 s = some (r, s')) : zyR X 2 225 106 [some (.ref (43 + 3)), some (.int x1), none, some (.int x3), none, none] [.int y0, .int y1] s (zyE (some (.int r)) s') := by
  unfold zyF225_106 at h
  refine zy_14 rfl (show zyR _ _ _ _ [some (.ref (43 + 3)), some (.int x1), none, some (.int x3), none, none] [.int (y1 ||| y0)] _ _ from ?_)
  refine zy_23 rfl rfl (show zyR _ _ _ _ [some (.ref (43 + 3)), some (.int x1), some (.int (y1 ||| y0)), some (.int x3), none, none] [] _ _ from ?_)
  refine zy_22 rfl rfl rfl rfl (show zyR _ _ _ _ [some (.ref (43 + 3)), some (.int x1), some (.int (y1 ||| y0)), some (.int (x3 + (1 : Int32))), none, none] [] _ _ from ?_)
  refine zy_6 rfl (show zyR _ _ _ _ [some (.ref (43 + 3)), some (.int x1), some (.int (y1 ||| y0)), some (.int (x3 + (1 : Int32))), none, none] [] _ _ from ?_)
  exact zy_sub (show zy_le [some (.ref (43 + 3)), some (.int x1), some (.int (y1 ||| y0)), some (.int (x3 + (1 : Int32))), none, none] [some (.ref (43 + 3)), some (.int x1), some (.int (y1 ||| y0)), some (.int (x3 + (1 : Int32))), none, none] from ⟨rfl, ⟨rfl, ⟨rfl, ⟨rfl, trivial⟩⟩⟩⟩) (hk18 x1 (y1 ||| y0) (x3 + (1 : Int32)) s _ _ h)
noncomputable def zyF225_91  (k18 : Int32 → Int32 → Int32 → zy_S → Option (Int32 × zy_S)) (x1 : Int32) (x2 : Int32) (x3 : Int32) (y0 : Int32) (s : zy_S) : Option (Int32 × zy_S) :=
if y0 = 0 then
zyF225_106 k18 x1 x3 (0 : Int32) x2 s
else
zyF225_106 k18 x1 x3 ((1 : Int32) <<< (x3 &&& 31)) x2 s
theorem zyC225_91 {X : zx_X}  {k18 : Int32 → Int32 → Int32 → zy_S → Option (Int32 × zy_S)}  (hk18 : ∀ (x1 : Int32) (x2 : Int32) (x3 : Int32) (s : zy_S) (r : Int32) (s' : zy_S), k18 x1 x2 x3 s = some (r, s') → zyR X 2 225 18 [some (.ref (43 + 3)), some (.int x1), some (.int x2), some (.int x3), none, none] [] s (zyE (some (.int r)) s')) {x1 : Int32} {x2 : Int32} {x3 : Int32} {y0 : Int32} {s : zy_S} {r : Int32} {s' : zy_S}  (h : zyF225_91 k18 x1 x2 x3 y0 s = some (r, s')) : zyR X 2 225 91 [some (.ref (43 + 3)), some (.int x1), some (.int x2), some (.int x3), none, none] [.int y0] s (zyE (some (.int r)) s') := by
  unfold zyF225_91 at h
  refine zy_23 rfl rfl (show zyR _ _ _ _ [some (.ref (43 + 3)), some (.int x1), some (.int x2), some (.int x3), none, some (.int y0)] [] _ _ from ?_)
  refine zy_2 rfl rfl (show zyR _ _ _ _ [some (.ref (43 + 3)), some (.int x1), some (.int x2), some (.int x3), none, some (.int y0)] [.int x2] _ _ from ?_)
  refine zy_2 rfl rfl (show zyR _ _ _ _ [some (.ref (43 + 3)), some (.int x1), some (.int x2), some (.int x3), none, some (.int y0)] [.int y0, .int x2] _ _ from ?_)
  refine zy_24_0 rfl (fun b1 => (show zyR _ _ _ _ [some (.ref (43 + 3)), some (.int x1), some (.int x2), some (.int x3), none, some (.int y0)] [.int x2] _ _ from ?_)) (fun b1 => (show zyR _ _ _ _ [some (.ref (43 + 3)), some (.int x1), some (.int x2), some (.int x3), none, some (.int y0)] [.int x2] _ _ from ?_))
  · replace h := zy_ifp h b1
    refine zy_3 rfl rfl (show zyR _ _ _ _ [some (.ref (43 + 3)), some (.int x1), some (.int x2), some (.int x3), none, some (.int y0)] [.int (0 : Int32), .int x2] _ _ from ?_)
    exact zy_sub (show zy_le [some (.ref (43 + 3)), some (.int x1), none, some (.int x3), none, none] [some (.ref (43 + 3)), some (.int x1), some (.int x2), some (.int x3), none, some (.int y0)] from ⟨rfl, ⟨rfl, ⟨rfl, trivial⟩⟩⟩) (zyC225_106 hk18 h)
  · replace h := zy_ifn h b1
    refine zy_3 rfl rfl (show zyR _ _ _ _ [some (.ref (43 + 3)), some (.int x1), some (.int x2), some (.int x3), none, some (.int y0)] [.int (1 : Int32), .int x2] _ _ from ?_)
    refine zy_2 rfl rfl (show zyR _ _ _ _ [some (.ref (43 + 3)), some (.int x1), some (.int x2), some (.int x3), none, some (.int y0)] [.int x3, .int (1 : Int32), .int x2] _ _ from ?_)
    refine zy_16 rfl (show zyR _ _ _ _ [some (.ref (43 + 3)), some (.int x1), some (.int x2), some (.int x3), none, some (.int y0)] [.int ((1 : Int32) <<< (x3 &&& 31)), .int x2] _ _ from ?_)
    refine zy_6 rfl (show zyR _ _ _ _ [some (.ref (43 + 3)), some (.int x1), some (.int x2), some (.int x3), none, some (.int y0)] [.int ((1 : Int32) <<< (x3 &&& 31)), .int x2] _ _ from ?_)
    exact zy_sub (show zy_le [some (.ref (43 + 3)), some (.int x1), none, some (.int x3), none, none] [some (.ref (43 + 3)), some (.int x1), some (.int x2), some (.int x3), none, some (.int y0)] from ⟨rfl, ⟨rfl, ⟨rfl, trivial⟩⟩⟩) (zyC225_106 hk18 h)
noncomputable def zyF225_18b  (k18 : Int32 → Int32 → Int32 → zy_S → Option (Int32 × zy_S)) (x1 : Int32) (x2 : Int32) (x3 : Int32) (s : zy_S) : Option (Int32 × zy_S) :=
if (6 : Int32) ≤ x3 then
some (x2, s)
else
if x1 ≠ 0 then
if x1 ≠ (1 : Int32) then
(zyF209 (((s.1 43 7) >>> (((4 : Int32) * x3) &&& 31)) &&& (15 : Int32)) s).bind fun p2 =>
if p2.1 ≠ (1 : Int32) then
zyF225_91 k18 x1 x2 x3 (0 : Int32) p2.2
else
zyF225_91 k18 x1 x2 x3 (1 : Int32) p2.2
else
if ((((s.1 43 7) >>> (((4 : Int32) * x3) &&& 31)) &&& (15 : Int32)) &&& (9 : Int32)) ≠ (9 : Int32) then
zyF225_91 k18 x1 x2 x3 (0 : Int32) s
else
zyF225_91 k18 x1 x2 x3 (1 : Int32) s
else
if (((s.1 43 7) >>> (((4 : Int32) * x3) &&& 31)) &&& (15 : Int32)) ≠ 0 then
zyF225_91 k18 x1 x2 x3 (0 : Int32) s
else
zyF225_91 k18 x1 x2 x3 (1 : Int32) s
theorem zyC225_18b {X : zx_X}  {k18 : Int32 → Int32 → Int32 → zy_S → Option (Int32 × zy_S)}  (hk18 : ∀ (x1 : Int32) (x2 : Int32) (x3 : Int32) (s : zy_S) (r : Int32) (s' : zy_S), k18 x1 x2 x3 s = some (r, s') → zyR X 2 225 18 [some (.ref (43 + 3)), some (.int x1), some (.int x2), some (.int x3), none, none] [] s (zyE (some (.int r)) s')) {x1 : Int32} {x2 : Int32} {x3 : Int32} {s : zy_S} {r : Int32} {s' : zy_S}  (h : zyF225_18b k18 x1 x2 x3 s = some (r, s')) : zyR X 2 225 18 [some (.ref (43 + 3)), some (.int x1), some (.int x2), some (.int x3), none, none] [] s (zyE (some (.int r)) s') := by
  unfold zyF225_18b at h
  refine zy_2 rfl rfl (show zyR _ _ _ _ [some (.ref (43 + 3)), some (.int x1), some (.int x2), some (.int x3), none, none] [.int x3] _ _ from ?_)
  refine zy_3 rfl rfl (show zyR _ _ _ _ [some (.ref (43 + 3)), some (.int x1), some (.int x2), some (.int x3), none, none] [.int (6 : Int32), .int x3] _ _ from ?_)
  refine zy_25_3 rfl (fun b8 => (show zyR _ _ _ _ [some (.ref (43 + 3)), some (.int x1), some (.int x2), some (.int x3), none, none] [] _ _ from ?_)) (fun b8 => (show zyR _ _ _ _ [some (.ref (43 + 3)), some (.int x1), some (.int x2), some (.int x3), none, none] [] _ _ from ?_))
  · replace h := zy_ifp h b8
    refine zy_2 rfl rfl (show zyR _ _ _ _ [some (.ref (43 + 3)), some (.int x1), some (.int x2), some (.int x3), none, none] [.int x2] _ _ from ?_)
    obtain ⟨rfl, rfl⟩ := zy_pi h
    exact zy_4 rfl ⟨rfl, rfl⟩
  · replace h := zy_ifn h b8
    refine zy_0 rfl rfl (show zyR _ _ _ _ [some (.ref (43 + 3)), some (.int x1), some (.int x2), some (.int x3), none, none] [.ref (43 + 3)] _ _ from ?_)
    refine zy_1 (c := 43) rfl rfl rfl (show zyR _ _ _ _ [some (.ref (43 + 3)), some (.int x1), some (.int x2), some (.int x3), none, none] [.int (s.1 43 7)] _ _ from ?_)
    refine zy_3 rfl rfl (show zyR _ _ _ _ [some (.ref (43 + 3)), some (.int x1), some (.int x2), some (.int x3), none, none] [.int (4 : Int32), .int (s.1 43 7)] _ _ from ?_)
    refine zy_2 rfl rfl (show zyR _ _ _ _ [some (.ref (43 + 3)), some (.int x1), some (.int x2), some (.int x3), none, none] [.int x3, .int (4 : Int32), .int (s.1 43 7)] _ _ from ?_)
    refine zy_12 rfl (show zyR _ _ _ _ [some (.ref (43 + 3)), some (.int x1), some (.int x2), some (.int x3), none, none] [.int ((4 : Int32) * x3), .int (s.1 43 7)] _ _ from ?_)
    refine zy_17 rfl (show zyR _ _ _ _ [some (.ref (43 + 3)), some (.int x1), some (.int x2), some (.int x3), none, none] [.int ((s.1 43 7) >>> (((4 : Int32) * x3) &&& 31))] _ _ from ?_)
    refine zy_3 rfl rfl (show zyR _ _ _ _ [some (.ref (43 + 3)), some (.int x1), some (.int x2), some (.int x3), none, none] [.int (15 : Int32), .int ((s.1 43 7) >>> (((4 : Int32) * x3) &&& 31))] _ _ from ?_)
    refine zy_13 rfl (show zyR _ _ _ _ [some (.ref (43 + 3)), some (.int x1), some (.int x2), some (.int x3), none, none] [.int (((s.1 43 7) >>> (((4 : Int32) * x3) &&& 31)) &&& (15 : Int32))] _ _ from ?_)
    refine zy_23 rfl rfl (show zyR _ _ _ _ [some (.ref (43 + 3)), some (.int x1), some (.int x2), some (.int x3), some (.int (((s.1 43 7) >>> (((4 : Int32) * x3) &&& 31)) &&& (15 : Int32))), none] [] _ _ from ?_)
    refine zy_2 rfl rfl (show zyR _ _ _ _ [some (.ref (43 + 3)), some (.int x1), some (.int x2), some (.int x3), some (.int (((s.1 43 7) >>> (((4 : Int32) * x3) &&& 31)) &&& (15 : Int32))), none] [.int x1] _ _ from ?_)
    refine zy_24_1 rfl (fun b7 => (show zyR _ _ _ _ [some (.ref (43 + 3)), some (.int x1), some (.int x2), some (.int x3), some (.int (((s.1 43 7) >>> (((4 : Int32) * x3) &&& 31)) &&& (15 : Int32))), none] [] _ _ from ?_)) (fun b7 => (show zyR _ _ _ _ [some (.ref (43 + 3)), some (.int x1), some (.int x2), some (.int x3), some (.int (((s.1 43 7) >>> (((4 : Int32) * x3) &&& 31)) &&& (15 : Int32))), none] [] _ _ from ?_))
    · replace h := zy_ifp h b7
      refine zy_2 rfl rfl (show zyR _ _ _ _ [some (.ref (43 + 3)), some (.int x1), some (.int x2), some (.int x3), some (.int (((s.1 43 7) >>> (((4 : Int32) * x3) &&& 31)) &&& (15 : Int32))), none] [.int x1] _ _ from ?_)
      refine zy_3 rfl rfl (show zyR _ _ _ _ [some (.ref (43 + 3)), some (.int x1), some (.int x2), some (.int x3), some (.int (((s.1 43 7) >>> (((4 : Int32) * x3) &&& 31)) &&& (15 : Int32))), none] [.int (1 : Int32), .int x1] _ _ from ?_)
      refine zy_25_1 rfl (fun b5 => (show zyR _ _ _ _ [some (.ref (43 + 3)), some (.int x1), some (.int x2), some (.int x3), some (.int (((s.1 43 7) >>> (((4 : Int32) * x3) &&& 31)) &&& (15 : Int32))), none] [] _ _ from ?_)) (fun b5 => (show zyR _ _ _ _ [some (.ref (43 + 3)), some (.int x1), some (.int x2), some (.int x3), some (.int (((s.1 43 7) >>> (((4 : Int32) * x3) &&& 31)) &&& (15 : Int32))), none] [] _ _ from ?_))
      · replace h := zy_ifp h b5
        refine zy_2 rfl rfl (show zyR _ _ _ _ [some (.ref (43 + 3)), some (.int x1), some (.int x2), some (.int x3), some (.int (((s.1 43 7) >>> (((4 : Int32) * x3) &&& 31)) &&& (15 : Int32))), none] [.int (((s.1 43 7) >>> (((4 : Int32) * x3) &&& 31)) &&& (15 : Int32))] _ _ from ?_)
        obtain ⟨p2, hp2, h⟩ := zy_bind h
        refine zy_60 (as := [.int (((s.1 43 7) >>> (((4 : Int32) * x3) &&& 31)) &&& (15 : Int32))]) (rest := []) (L := [some (.int (((s.1 43 7) >>> (((4 : Int32) * x3) &&& 31)) &&& (15 : Int32))), none, none]) (d' := 1) rfl rfl (Nat.le_of_ble_eq_true rfl) (Nat.le_of_ble_eq_true rfl) rfl (Nat.le_of_ble_eq_true rfl) rfl rfl (zyC209 hp2) ?_
        show zyR _ _ _ _ [some (.ref (43 + 3)), some (.int x1), some (.int x2), some (.int x3), some (.int (((s.1 43 7) >>> (((4 : Int32) * x3) &&& 31)) &&& (15 : Int32))), none] [.int p2.1] _ _
        refine zy_3 rfl rfl (show zyR _ _ _ _ [some (.ref (43 + 3)), some (.int x1), some (.int x2), some (.int x3), some (.int (((s.1 43 7) >>> (((4 : Int32) * x3) &&& 31)) &&& (15 : Int32))), none] [.int (1 : Int32), .int p2.1] _ _ from ?_)
        refine zy_25_1 rfl (fun b3 => (show zyR _ _ _ _ [some (.ref (43 + 3)), some (.int x1), some (.int x2), some (.int x3), some (.int (((s.1 43 7) >>> (((4 : Int32) * x3) &&& 31)) &&& (15 : Int32))), none] [] _ _ from ?_)) (fun b3 => (show zyR _ _ _ _ [some (.ref (43 + 3)), some (.int x1), some (.int x2), some (.int x3), some (.int (((s.1 43 7) >>> (((4 : Int32) * x3) &&& 31)) &&& (15 : Int32))), none] [] _ _ from ?_))
        · replace h := zy_ifp h b3
          refine zy_3 rfl rfl (show zyR _ _ _ _ [some (.ref (43 + 3)), some (.int x1), some (.int x2), some (.int x3), some (.int (((s.1 43 7) >>> (((4 : Int32) * x3) &&& 31)) &&& (15 : Int32))), none] [.int (0 : Int32)] _ _ from ?_)
          exact zy_sub (show zy_le [some (.ref (43 + 3)), some (.int x1), some (.int x2), some (.int x3), none, none] [some (.ref (43 + 3)), some (.int x1), some (.int x2), some (.int x3), some (.int (((s.1 43 7) >>> (((4 : Int32) * x3) &&& 31)) &&& (15 : Int32))), none] from ⟨rfl, ⟨rfl, ⟨rfl, ⟨rfl, trivial⟩⟩⟩⟩) (zyC225_91 hk18 h)
        · replace h := zy_ifn h b3
          refine zy_3 rfl rfl (show zyR _ _ _ _ [some (.ref (43 + 3)), some (.int x1), some (.int x2), some (.int x3), some (.int (((s.1 43 7) >>> (((4 : Int32) * x3) &&& 31)) &&& (15 : Int32))), none] [.int (1 : Int32)] _ _ from ?_)
          refine zy_6 rfl (show zyR _ _ _ _ [some (.ref (43 + 3)), some (.int x1), some (.int x2), some (.int x3), some (.int (((s.1 43 7) >>> (((4 : Int32) * x3) &&& 31)) &&& (15 : Int32))), none] [.int (1 : Int32)] _ _ from ?_)
          exact zy_sub (show zy_le [some (.ref (43 + 3)), some (.int x1), some (.int x2), some (.int x3), none, none] [some (.ref (43 + 3)), some (.int x1), some (.int x2), some (.int x3), some (.int (((s.1 43 7) >>> (((4 : Int32) * x3) &&& 31)) &&& (15 : Int32))), none] from ⟨rfl, ⟨rfl, ⟨rfl, ⟨rfl, trivial⟩⟩⟩⟩) (zyC225_91 hk18 h)
      · replace h := zy_ifn h b5
        refine zy_2 rfl rfl (show zyR _ _ _ _ [some (.ref (43 + 3)), some (.int x1), some (.int x2), some (.int x3), some (.int (((s.1 43 7) >>> (((4 : Int32) * x3) &&& 31)) &&& (15 : Int32))), none] [.int (((s.1 43 7) >>> (((4 : Int32) * x3) &&& 31)) &&& (15 : Int32))] _ _ from ?_)
        refine zy_3 rfl rfl (show zyR _ _ _ _ [some (.ref (43 + 3)), some (.int x1), some (.int x2), some (.int x3), some (.int (((s.1 43 7) >>> (((4 : Int32) * x3) &&& 31)) &&& (15 : Int32))), none] [.int (9 : Int32), .int (((s.1 43 7) >>> (((4 : Int32) * x3) &&& 31)) &&& (15 : Int32))] _ _ from ?_)
        refine zy_13 rfl (show zyR _ _ _ _ [some (.ref (43 + 3)), some (.int x1), some (.int x2), some (.int x3), some (.int (((s.1 43 7) >>> (((4 : Int32) * x3) &&& 31)) &&& (15 : Int32))), none] [.int ((((s.1 43 7) >>> (((4 : Int32) * x3) &&& 31)) &&& (15 : Int32)) &&& (9 : Int32))] _ _ from ?_)
        refine zy_3 rfl rfl (show zyR _ _ _ _ [some (.ref (43 + 3)), some (.int x1), some (.int x2), some (.int x3), some (.int (((s.1 43 7) >>> (((4 : Int32) * x3) &&& 31)) &&& (15 : Int32))), none] [.int (9 : Int32), .int ((((s.1 43 7) >>> (((4 : Int32) * x3) &&& 31)) &&& (15 : Int32)) &&& (9 : Int32))] _ _ from ?_)
        refine zy_25_1 rfl (fun b4 => (show zyR _ _ _ _ [some (.ref (43 + 3)), some (.int x1), some (.int x2), some (.int x3), some (.int (((s.1 43 7) >>> (((4 : Int32) * x3) &&& 31)) &&& (15 : Int32))), none] [] _ _ from ?_)) (fun b4 => (show zyR _ _ _ _ [some (.ref (43 + 3)), some (.int x1), some (.int x2), some (.int x3), some (.int (((s.1 43 7) >>> (((4 : Int32) * x3) &&& 31)) &&& (15 : Int32))), none] [] _ _ from ?_))
        · replace h := zy_ifp h b4
          refine zy_3 rfl rfl (show zyR _ _ _ _ [some (.ref (43 + 3)), some (.int x1), some (.int x2), some (.int x3), some (.int (((s.1 43 7) >>> (((4 : Int32) * x3) &&& 31)) &&& (15 : Int32))), none] [.int (0 : Int32)] _ _ from ?_)
          refine zy_6 rfl (show zyR _ _ _ _ [some (.ref (43 + 3)), some (.int x1), some (.int x2), some (.int x3), some (.int (((s.1 43 7) >>> (((4 : Int32) * x3) &&& 31)) &&& (15 : Int32))), none] [.int (0 : Int32)] _ _ from ?_)
          exact zy_sub (show zy_le [some (.ref (43 + 3)), some (.int x1), some (.int x2), some (.int x3), none, none] [some (.ref (43 + 3)), some (.int x1), some (.int x2), some (.int x3), some (.int (((s.1 43 7) >>> (((4 : Int32) * x3) &&& 31)) &&& (15 : Int32))), none] from ⟨rfl, ⟨rfl, ⟨rfl, ⟨rfl, trivial⟩⟩⟩⟩) (zyC225_91 hk18 h)
        · replace h := zy_ifn h b4
          refine zy_3 rfl rfl (show zyR _ _ _ _ [some (.ref (43 + 3)), some (.int x1), some (.int x2), some (.int x3), some (.int (((s.1 43 7) >>> (((4 : Int32) * x3) &&& 31)) &&& (15 : Int32))), none] [.int (1 : Int32)] _ _ from ?_)
          refine zy_6 rfl (show zyR _ _ _ _ [some (.ref (43 + 3)), some (.int x1), some (.int x2), some (.int x3), some (.int (((s.1 43 7) >>> (((4 : Int32) * x3) &&& 31)) &&& (15 : Int32))), none] [.int (1 : Int32)] _ _ from ?_)
          exact zy_sub (show zy_le [some (.ref (43 + 3)), some (.int x1), some (.int x2), some (.int x3), none, none] [some (.ref (43 + 3)), some (.int x1), some (.int x2), some (.int x3), some (.int (((s.1 43 7) >>> (((4 : Int32) * x3) &&& 31)) &&& (15 : Int32))), none] from ⟨rfl, ⟨rfl, ⟨rfl, ⟨rfl, trivial⟩⟩⟩⟩) (zyC225_91 hk18 h)
    · replace h := zy_ifn h b7
      refine zy_2 rfl rfl (show zyR _ _ _ _ [some (.ref (43 + 3)), some (.int x1), some (.int x2), some (.int x3), some (.int (((s.1 43 7) >>> (((4 : Int32) * x3) &&& 31)) &&& (15 : Int32))), none] [.int (((s.1 43 7) >>> (((4 : Int32) * x3) &&& 31)) &&& (15 : Int32))] _ _ from ?_)
      refine zy_24_1 rfl (fun b6 => (show zyR _ _ _ _ [some (.ref (43 + 3)), some (.int x1), some (.int x2), some (.int x3), some (.int (((s.1 43 7) >>> (((4 : Int32) * x3) &&& 31)) &&& (15 : Int32))), none] [] _ _ from ?_)) (fun b6 => (show zyR _ _ _ _ [some (.ref (43 + 3)), some (.int x1), some (.int x2), some (.int x3), some (.int (((s.1 43 7) >>> (((4 : Int32) * x3) &&& 31)) &&& (15 : Int32))), none] [] _ _ from ?_))
      · replace h := zy_ifp h b6
        refine zy_3 rfl rfl (show zyR _ _ _ _ [some (.ref (43 + 3)), some (.int x1), some (.int x2), some (.int x3), some (.int (((s.1 43 7) >>> (((4 : Int32) * x3) &&& 31)) &&& (15 : Int32))), none] [.int (0 : Int32)] _ _ from ?_)
        refine zy_6 rfl (show zyR _ _ _ _ [some (.ref (43 + 3)), some (.int x1), some (.int x2), some (.int x3), some (.int (((s.1 43 7) >>> (((4 : Int32) * x3) &&& 31)) &&& (15 : Int32))), none] [.int (0 : Int32)] _ _ from ?_)
        exact zy_sub (show zy_le [some (.ref (43 + 3)), some (.int x1), some (.int x2), some (.int x3), none, none] [some (.ref (43 + 3)), some (.int x1), some (.int x2), some (.int x3), some (.int (((s.1 43 7) >>> (((4 : Int32) * x3) &&& 31)) &&& (15 : Int32))), none] from ⟨rfl, ⟨rfl, ⟨rfl, ⟨rfl, trivial⟩⟩⟩⟩) (zyC225_91 hk18 h)
      · replace h := zy_ifn h b6
        refine zy_3 rfl rfl (show zyR _ _ _ _ [some (.ref (43 + 3)), some (.int x1), some (.int x2), some (.int x3), some (.int (((s.1 43 7) >>> (((4 : Int32) * x3) &&& 31)) &&& (15 : Int32))), none] [.int (1 : Int32)] _ _ from ?_)
        refine zy_6 rfl (show zyR _ _ _ _ [some (.ref (43 + 3)), some (.int x1), some (.int x2), some (.int x3), some (.int (((s.1 43 7) >>> (((4 : Int32) * x3) &&& 31)) &&& (15 : Int32))), none] [.int (1 : Int32)] _ _ from ?_)
        exact zy_sub (show zy_le [some (.ref (43 + 3)), some (.int x1), some (.int x2), some (.int x3), none, none] [some (.ref (43 + 3)), some (.int x1), some (.int x2), some (.int x3), some (.int (((s.1 43 7) >>> (((4 : Int32) * x3) &&& 31)) &&& (15 : Int32))), none] from ⟨rfl, ⟨rfl, ⟨rfl, ⟨rfl, trivial⟩⟩⟩⟩) (zyC225_91 hk18 h)
noncomputable def zyF225_18   (n : Nat) : Int32 → Int32 → Int32 → zy_S → Option (Int32 × zy_S) := Nat.rec (fun _ _ _ _ => none) (fun _ k18 => zyF225_18b k18) n
theorem zyC225_18 {X : zx_X}     : ∀ (n : Nat) (x1 : Int32) (x2 : Int32) (x3 : Int32) (s : zy_S) (r : Int32) (s' : zy_S), zyF225_18 n x1 x2 x3 s = some (r, s') → zyR X 2 225 18 [some (.ref (43 + 3)), some (.int x1), some (.int x2), some (.int x3), none, none] [] s (zyE (some (.int r)) s')
  | 0, _, _, _ => by
    intro s r s'  h
    have h : (none : Option (Int32 × zy_S)) = some (r, s') := h
    cases h
  | n + 1, x1, x2, x3 => by
    intro s r s'  h
    exact zyC225_18b (k18 := zyF225_18 n) (fun x1 x2 x3 s r s'  h => zyC225_18  n x1 x2 x3 s r s'  h) h
noncomputable def zyF225   (x1 : Int32) (s : zy_S) : Option (Int32 × zy_S) :=
(zyF179 (x1).toInt64 (0 : Int64) (2 : Int64) s).bind fun p9 =>
if p9.1 ≠ 0 then
zyF225_18 zy_fu x1 (0 : Int32) (0 : Int32) p9.2
else
some ((-1 : Int32), p9.2)
theorem zyC225 {X : zx_X}     {x1 : Int32} {s : zy_S} {r : Int32} {s' : zy_S}  (h : zyF225 x1 s = some (r, s')) : zyR X 2 225 0 [some (.ref (43 + 3)), some (.int x1), none, none, none, none] [] s (zyE (some (.int r)) s') := by
  unfold zyF225 at h
  refine zy_2 rfl rfl (show zyR _ _ _ _ [some (.ref (43 + 3)), some (.int x1), none, none, none, none] [.int x1] _ _ from ?_)
  refine zy_40 rfl (show zyR _ _ _ _ [some (.ref (43 + 3)), some (.int x1), none, none, none, none] [.long (x1).toInt64] _ _ from ?_)
  refine zy_36 rfl rfl (show zyR _ _ _ _ [some (.ref (43 + 3)), some (.int x1), none, none, none, none] [.long (0 : Int64), .long (x1).toInt64] _ _ from ?_)
  refine zy_36c rfl rfl (show zyR _ _ _ _ [some (.ref (43 + 3)), some (.int x1), none, none, none, none] [.long (2 : Int64), .long (0 : Int64), .long (x1).toInt64] _ _ from ?_)
  obtain ⟨p9, hp9, h⟩ := zy_bind h
  refine zy_60 (as := [.long (x1).toInt64, .long (0 : Int64), .long (2 : Int64)]) (rest := []) (L := [some (.long (x1).toInt64), none, some (.long (0 : Int64)), none, some (.long (2 : Int64)), none]) (d' := 1) rfl rfl (Nat.le_of_ble_eq_true rfl) (Nat.le_of_ble_eq_true rfl) rfl (Nat.le_of_ble_eq_true rfl) rfl rfl (zyC179 hp9) ?_
  show zyR _ _ _ _ [some (.ref (43 + 3)), some (.int x1), none, none, none, none] [.int p9.1] _ _
  refine zy_24_1 rfl (fun b10 => (show zyR _ _ _ _ [some (.ref (43 + 3)), some (.int x1), none, none, none, none] [] _ _ from ?_)) (fun b10 => (show zyR _ _ _ _ [some (.ref (43 + 3)), some (.int x1), none, none, none, none] [] _ _ from ?_))
  · replace h := zy_ifp h b10
    refine zy_3 rfl rfl (show zyR _ _ _ _ [some (.ref (43 + 3)), some (.int x1), none, none, none, none] [.int (0 : Int32)] _ _ from ?_)
    refine zy_23 rfl rfl (show zyR _ _ _ _ [some (.ref (43 + 3)), some (.int x1), some (.int (0 : Int32)), none, none, none] [] _ _ from ?_)
    refine zy_3 rfl rfl (show zyR _ _ _ _ [some (.ref (43 + 3)), some (.int x1), some (.int (0 : Int32)), none, none, none] [.int (0 : Int32)] _ _ from ?_)
    refine zy_23 rfl rfl (show zyR _ _ _ _ [some (.ref (43 + 3)), some (.int x1), some (.int (0 : Int32)), some (.int (0 : Int32)), none, none] [] _ _ from ?_)
    exact zy_sub (show zy_le [some (.ref (43 + 3)), some (.int x1), some (.int (0 : Int32)), some (.int (0 : Int32)), none, none] [some (.ref (43 + 3)), some (.int x1), some (.int (0 : Int32)), some (.int (0 : Int32)), none, none] from ⟨rfl, ⟨rfl, ⟨rfl, ⟨rfl, trivial⟩⟩⟩⟩) (zyC225_18 zy_fu x1 (0 : Int32) (0 : Int32) p9.2 _ _ h)
  · replace h := zy_ifn h b10
    refine zy_3 rfl rfl (show zyR _ _ _ _ [some (.ref (43 + 3)), some (.int x1), none, none, none, none] [.int (-1 : Int32)] _ _ from ?_)
    obtain ⟨rfl, rfl⟩ := zy_pi h
    exact zy_4 rfl ⟨rfl, rfl⟩
/-! NineOpinions$Votes.believersOf(I)I -/
noncomputable def zyF95_35  (k4 : Int32 → Int32 → Int32 → zy_S → Option (Int32 × zy_S)) (x1 : Int32) (x3 : Int32) (y0 : Int32) (y1 : Int32) (s : zy_S) : Option (Int32 × zy_S) :=
k4 x1 (y1 ||| y0) (x3 + (1 : Int32)) s
theorem zyC95_35 {X : zx_X}  {k4 : Int32 → Int32 → Int32 → zy_S → Option (Int32 × zy_S)}  (hk4 : ∀ (x1 : Int32) (x2 : Int32) (x3 : Int32) (s : zy_S) (r : Int32) (s' : zy_S), k4 x1 x2 x3 s = some (r, s') → zyR X 3 95 4 [some (.ref (16 + 3)), some (.int x1), some (.int x2), some (.int x3)] [] s (zyE (some (.int r)) s')) {x1 : Int32} {x3 : Int32} {y0 : Int32} {y1 : Int32} {s : zy_S} {r : Int32} {s' : zy_S}  (h : zyF95_35 k4 x1 x3 y0 y1 s = some (r, s')) : zyR X 3 95 35 [some (.ref (16 + 3)), some (.int x1), none, some (.int x3)] [.int y0, .int y1] s (zyE (some (.int r)) s') := by
  unfold zyF95_35 at h
  refine zy_14 rfl (show zyR _ _ _ _ [some (.ref (16 + 3)), some (.int x1), none, some (.int x3)] [.int (y1 ||| y0)] _ _ from ?_)
  refine zy_23 rfl rfl (show zyR _ _ _ _ [some (.ref (16 + 3)), some (.int x1), some (.int (y1 ||| y0)), some (.int x3)] [] _ _ from ?_)
  refine zy_22 rfl rfl rfl rfl (show zyR _ _ _ _ [some (.ref (16 + 3)), some (.int x1), some (.int (y1 ||| y0)), some (.int (x3 + (1 : Int32)))] [] _ _ from ?_)
  refine zy_6 rfl (show zyR _ _ _ _ [some (.ref (16 + 3)), some (.int x1), some (.int (y1 ||| y0)), some (.int (x3 + (1 : Int32)))] [] _ _ from ?_)
  exact zy_sub (show zy_le [some (.ref (16 + 3)), some (.int x1), some (.int (y1 ||| y0)), some (.int (x3 + (1 : Int32)))] [some (.ref (16 + 3)), some (.int x1), some (.int (y1 ||| y0)), some (.int (x3 + (1 : Int32)))] from ⟨rfl, ⟨rfl, ⟨rfl, ⟨rfl, trivial⟩⟩⟩⟩) (hk4 x1 (y1 ||| y0) (x3 + (1 : Int32)) s _ _ h)
noncomputable def zyF95_4b  (k4 : Int32 → Int32 → Int32 → zy_S → Option (Int32 × zy_S)) (x1 : Int32) (x2 : Int32) (x3 : Int32) (s : zy_S) : Option (Int32 × zy_S) :=
if (s.1 1 5) ≤ x3 then
some (x2, s)
else
(zyF96 x3 x1 s).bind fun p1 =>
if p1.1 = 0 then
zyF95_35 k4 x1 x3 (0 : Int32) x2 p1.2
else
zyF95_35 k4 x1 x3 ((1 : Int32) <<< (x3 &&& 31)) x2 p1.2
theorem zyC95_4b {X : zx_X}  {k4 : Int32 → Int32 → Int32 → zy_S → Option (Int32 × zy_S)}  (hk4 : ∀ (x1 : Int32) (x2 : Int32) (x3 : Int32) (s : zy_S) (r : Int32) (s' : zy_S), k4 x1 x2 x3 s = some (r, s') → zyR X 3 95 4 [some (.ref (16 + 3)), some (.int x1), some (.int x2), some (.int x3)] [] s (zyE (some (.int r)) s')) {x1 : Int32} {x2 : Int32} {x3 : Int32} {s : zy_S} {r : Int32} {s' : zy_S}  (h : zyF95_4b k4 x1 x2 x3 s = some (r, s')) : zyR X 3 95 4 [some (.ref (16 + 3)), some (.int x1), some (.int x2), some (.int x3)] [] s (zyE (some (.int r)) s') := by
  unfold zyF95_4b at h
  refine zy_2 rfl rfl (show zyR _ _ _ _ [some (.ref (16 + 3)), some (.int x1), some (.int x2), some (.int x3)] [.int x3] _ _ from ?_)
  refine zy_0 rfl rfl (show zyR _ _ _ _ [some (.ref (16 + 3)), some (.int x1), some (.int x2), some (.int x3)] [.ref (16 + 3), .int x3] _ _ from ?_)
  refine zy_1r (c := 16) rfl rfl rfl (show zyR _ _ _ _ [some (.ref (16 + 3)), some (.int x1), some (.int x2), some (.int x3)] [.ref (1 + 3), .int x3] _ _ from ?_)
  refine zy_1 (c := 1) rfl rfl rfl (show zyR _ _ _ _ [some (.ref (16 + 3)), some (.int x1), some (.int x2), some (.int x3)] [.int (s.1 1 5), .int x3] _ _ from ?_)
  refine zy_25_3 rfl (fun b3 => (show zyR _ _ _ _ [some (.ref (16 + 3)), some (.int x1), some (.int x2), some (.int x3)] [] _ _ from ?_)) (fun b3 => (show zyR _ _ _ _ [some (.ref (16 + 3)), some (.int x1), some (.int x2), some (.int x3)] [] _ _ from ?_))
  · replace h := zy_ifp h b3
    refine zy_2 rfl rfl (show zyR _ _ _ _ [some (.ref (16 + 3)), some (.int x1), some (.int x2), some (.int x3)] [.int x2] _ _ from ?_)
    obtain ⟨rfl, rfl⟩ := zy_pi h
    exact zy_4 rfl ⟨rfl, rfl⟩
  · replace h := zy_ifn h b3
    refine zy_2 rfl rfl (show zyR _ _ _ _ [some (.ref (16 + 3)), some (.int x1), some (.int x2), some (.int x3)] [.int x2] _ _ from ?_)
    refine zy_0 rfl rfl (show zyR _ _ _ _ [some (.ref (16 + 3)), some (.int x1), some (.int x2), some (.int x3)] [.ref (16 + 3), .int x2] _ _ from ?_)
    refine zy_1r (c := 16) rfl rfl rfl (show zyR _ _ _ _ [some (.ref (16 + 3)), some (.int x1), some (.int x2), some (.int x3)] [.ref (1 + 3), .int x2] _ _ from ?_)
    refine zy_2 rfl rfl (show zyR _ _ _ _ [some (.ref (16 + 3)), some (.int x1), some (.int x2), some (.int x3)] [.int x3, .ref (1 + 3), .int x2] _ _ from ?_)
    refine zy_2 rfl rfl (show zyR _ _ _ _ [some (.ref (16 + 3)), some (.int x1), some (.int x2), some (.int x3)] [.int x1, .int x3, .ref (1 + 3), .int x2] _ _ from ?_)
    obtain ⟨p1, hp1, h⟩ := zy_bind h
    refine zy_5 (c := 1) (as := [.int x3, .int x1]) (rest := [.int x2]) (L := [some (.ref (1 + 3)), some (.int x3), some (.int x1)]) (d' := 2) rfl rfl rfl (Nat.le_of_ble_eq_true rfl) (Nat.le_of_ble_eq_true rfl) rfl (Nat.le_of_ble_eq_true rfl) rfl rfl (zyC96 hp1) ?_
    show zyR _ _ _ _ [some (.ref (16 + 3)), some (.int x1), some (.int x2), some (.int x3)] [.int p1.1, .int x2] _ _
    refine zy_24_0 rfl (fun b2 => (show zyR _ _ _ _ [some (.ref (16 + 3)), some (.int x1), some (.int x2), some (.int x3)] [.int x2] _ _ from ?_)) (fun b2 => (show zyR _ _ _ _ [some (.ref (16 + 3)), some (.int x1), some (.int x2), some (.int x3)] [.int x2] _ _ from ?_))
    · replace h := zy_ifp h b2
      refine zy_3 rfl rfl (show zyR _ _ _ _ [some (.ref (16 + 3)), some (.int x1), some (.int x2), some (.int x3)] [.int (0 : Int32), .int x2] _ _ from ?_)
      exact zy_sub (show zy_le [some (.ref (16 + 3)), some (.int x1), none, some (.int x3)] [some (.ref (16 + 3)), some (.int x1), some (.int x2), some (.int x3)] from ⟨rfl, ⟨rfl, ⟨rfl, trivial⟩⟩⟩) (zyC95_35 hk4 h)
    · replace h := zy_ifn h b2
      refine zy_3 rfl rfl (show zyR _ _ _ _ [some (.ref (16 + 3)), some (.int x1), some (.int x2), some (.int x3)] [.int (1 : Int32), .int x2] _ _ from ?_)
      refine zy_2 rfl rfl (show zyR _ _ _ _ [some (.ref (16 + 3)), some (.int x1), some (.int x2), some (.int x3)] [.int x3, .int (1 : Int32), .int x2] _ _ from ?_)
      refine zy_16 rfl (show zyR _ _ _ _ [some (.ref (16 + 3)), some (.int x1), some (.int x2), some (.int x3)] [.int ((1 : Int32) <<< (x3 &&& 31)), .int x2] _ _ from ?_)
      refine zy_6 rfl (show zyR _ _ _ _ [some (.ref (16 + 3)), some (.int x1), some (.int x2), some (.int x3)] [.int ((1 : Int32) <<< (x3 &&& 31)), .int x2] _ _ from ?_)
      exact zy_sub (show zy_le [some (.ref (16 + 3)), some (.int x1), none, some (.int x3)] [some (.ref (16 + 3)), some (.int x1), some (.int x2), some (.int x3)] from ⟨rfl, ⟨rfl, ⟨rfl, trivial⟩⟩⟩) (zyC95_35 hk4 h)
noncomputable def zyF95_4   (n : Nat) : Int32 → Int32 → Int32 → zy_S → Option (Int32 × zy_S) := Nat.rec (fun _ _ _ _ => none) (fun _ k4 => zyF95_4b k4) n
theorem zyC95_4 {X : zx_X}     : ∀ (n : Nat) (x1 : Int32) (x2 : Int32) (x3 : Int32) (s : zy_S) (r : Int32) (s' : zy_S), zyF95_4 n x1 x2 x3 s = some (r, s') → zyR X 3 95 4 [some (.ref (16 + 3)), some (.int x1), some (.int x2), some (.int x3)] [] s (zyE (some (.int r)) s')
  | 0, _, _, _ => by
    intro s r s'  h
    have h : (none : Option (Int32 × zy_S)) = some (r, s') := h
    cases h
  | n + 1, x1, x2, x3 => by
    intro s r s'  h
    exact zyC95_4b (k4 := zyF95_4 n) (fun x1 x2 x3 s r s'  h => zyC95_4  n x1 x2 x3 s r s'  h) h
noncomputable def zyF95   (x1 : Int32) (s : zy_S) : Option (Int32 × zy_S) :=
zyF95_4 zy_fu x1 (0 : Int32) (0 : Int32) s
theorem zyC95 {X : zx_X}     {x1 : Int32} {s : zy_S} {r : Int32} {s' : zy_S}  (h : zyF95 x1 s = some (r, s')) : zyR X 3 95 0 [some (.ref (16 + 3)), some (.int x1), none, none] [] s (zyE (some (.int r)) s') := by
  unfold zyF95 at h
  refine zy_3 rfl rfl (show zyR _ _ _ _ [some (.ref (16 + 3)), some (.int x1), none, none] [.int (0 : Int32)] _ _ from ?_)
  refine zy_23 rfl rfl (show zyR _ _ _ _ [some (.ref (16 + 3)), some (.int x1), some (.int (0 : Int32)), none] [] _ _ from ?_)
  refine zy_3 rfl rfl (show zyR _ _ _ _ [some (.ref (16 + 3)), some (.int x1), some (.int (0 : Int32)), none] [.int (0 : Int32)] _ _ from ?_)
  refine zy_23 rfl rfl (show zyR _ _ _ _ [some (.ref (16 + 3)), some (.int x1), some (.int (0 : Int32)), some (.int (0 : Int32))] [] _ _ from ?_)
  exact zy_sub (show zy_le [some (.ref (16 + 3)), some (.int x1), some (.int (0 : Int32)), some (.int (0 : Int32))] [some (.ref (16 + 3)), some (.int x1), some (.int (0 : Int32)), some (.int (0 : Int32))] from ⟨rfl, ⟨rfl, ⟨rfl, ⟨rfl, trivial⟩⟩⟩⟩) (zyC95_4 zy_fu x1 (0 : Int32) (0 : Int32) s _ _ h)
/-! NineOpinions$Votes.standingOf(I)I -/
noncomputable def zyF98_38  (k4 : Int32 → Int32 → Int32 → zy_S → Option (Int32 × zy_S)) (x1 : Int32) (x3 : Int32) (y0 : Int32) (y1 : Int32) (s : zy_S) : Option (Int32 × zy_S) :=
k4 x1 (y1 + y0) (x3 + (1 : Int32)) s
theorem zyC98_38 {X : zx_X}  {k4 : Int32 → Int32 → Int32 → zy_S → Option (Int32 × zy_S)}  (hk4 : ∀ (x1 : Int32) (x2 : Int32) (x3 : Int32) (s : zy_S) (r : Int32) (s' : zy_S), k4 x1 x2 x3 s = some (r, s') → zyR X 2 98 4 [some (.ref (16 + 3)), some (.int x1), some (.int x2), some (.int x3)] [] s (zyE (some (.int r)) s')) {x1 : Int32} {x3 : Int32} {y0 : Int32} {y1 : Int32} {s : zy_S} {r : Int32} {s' : zy_S}  (h : zyF98_38 k4 x1 x3 y0 y1 s = some (r, s')) : zyR X 2 98 38 [some (.ref (16 + 3)), some (.int x1), none, some (.int x3)] [.int y0, .int y1] s (zyE (some (.int r)) s') := by
  unfold zyF98_38 at h
  refine zy_10 rfl (show zyR _ _ _ _ [some (.ref (16 + 3)), some (.int x1), none, some (.int x3)] [.int (y1 + y0)] _ _ from ?_)
  refine zy_23 rfl rfl (show zyR _ _ _ _ [some (.ref (16 + 3)), some (.int x1), some (.int (y1 + y0)), some (.int x3)] [] _ _ from ?_)
  refine zy_22 rfl rfl rfl rfl (show zyR _ _ _ _ [some (.ref (16 + 3)), some (.int x1), some (.int (y1 + y0)), some (.int (x3 + (1 : Int32)))] [] _ _ from ?_)
  refine zy_6 rfl (show zyR _ _ _ _ [some (.ref (16 + 3)), some (.int x1), some (.int (y1 + y0)), some (.int (x3 + (1 : Int32)))] [] _ _ from ?_)
  exact zy_sub (show zy_le [some (.ref (16 + 3)), some (.int x1), some (.int (y1 + y0)), some (.int (x3 + (1 : Int32)))] [some (.ref (16 + 3)), some (.int x1), some (.int (y1 + y0)), some (.int (x3 + (1 : Int32)))] from ⟨rfl, ⟨rfl, ⟨rfl, ⟨rfl, trivial⟩⟩⟩⟩) (hk4 x1 (y1 + y0) (x3 + (1 : Int32)) s _ _ h)
noncomputable def zyF98_4b  (k4 : Int32 → Int32 → Int32 → zy_S → Option (Int32 × zy_S)) (x1 : Int32) (x2 : Int32) (x3 : Int32) (s : zy_S) : Option (Int32 × zy_S) :=
if (s.1 1 5) ≤ x3 then
some (x2, s)
else
(zyF32 x1 x3 s).bind fun p1 =>
if p1.1 ≠ (1 : Int32) then
zyF98_38 k4 x1 x3 (0 : Int32) x2 p1.2
else
if zy_in x3 8 then
zyF98_38 k4 x1 x3 (p1.2.1 4 (x3).toNatClampNeg) x2 p1.2
else none
theorem zyC98_4b {X : zx_X}  {k4 : Int32 → Int32 → Int32 → zy_S → Option (Int32 × zy_S)}  (hk4 : ∀ (x1 : Int32) (x2 : Int32) (x3 : Int32) (s : zy_S) (r : Int32) (s' : zy_S), k4 x1 x2 x3 s = some (r, s') → zyR X 2 98 4 [some (.ref (16 + 3)), some (.int x1), some (.int x2), some (.int x3)] [] s (zyE (some (.int r)) s')) {x1 : Int32} {x2 : Int32} {x3 : Int32} {s : zy_S} {r : Int32} {s' : zy_S}  (h : zyF98_4b k4 x1 x2 x3 s = some (r, s')) : zyR X 2 98 4 [some (.ref (16 + 3)), some (.int x1), some (.int x2), some (.int x3)] [] s (zyE (some (.int r)) s') := by
  unfold zyF98_4b at h
  refine zy_2 rfl rfl (show zyR _ _ _ _ [some (.ref (16 + 3)), some (.int x1), some (.int x2), some (.int x3)] [.int x3] _ _ from ?_)
  refine zy_0 rfl rfl (show zyR _ _ _ _ [some (.ref (16 + 3)), some (.int x1), some (.int x2), some (.int x3)] [.ref (16 + 3), .int x3] _ _ from ?_)
  refine zy_1r (c := 16) rfl rfl rfl (show zyR _ _ _ _ [some (.ref (16 + 3)), some (.int x1), some (.int x2), some (.int x3)] [.ref (1 + 3), .int x3] _ _ from ?_)
  refine zy_1 (c := 1) rfl rfl rfl (show zyR _ _ _ _ [some (.ref (16 + 3)), some (.int x1), some (.int x2), some (.int x3)] [.int (s.1 1 5), .int x3] _ _ from ?_)
  refine zy_25_3 rfl (fun b4 => (show zyR _ _ _ _ [some (.ref (16 + 3)), some (.int x1), some (.int x2), some (.int x3)] [] _ _ from ?_)) (fun b4 => (show zyR _ _ _ _ [some (.ref (16 + 3)), some (.int x1), some (.int x2), some (.int x3)] [] _ _ from ?_))
  · replace h := zy_ifp h b4
    refine zy_2 rfl rfl (show zyR _ _ _ _ [some (.ref (16 + 3)), some (.int x1), some (.int x2), some (.int x3)] [.int x2] _ _ from ?_)
    obtain ⟨rfl, rfl⟩ := zy_pi h
    exact zy_4 rfl ⟨rfl, rfl⟩
  · replace h := zy_ifn h b4
    refine zy_2 rfl rfl (show zyR _ _ _ _ [some (.ref (16 + 3)), some (.int x1), some (.int x2), some (.int x3)] [.int x2] _ _ from ?_)
    refine zy_2 rfl rfl (show zyR _ _ _ _ [some (.ref (16 + 3)), some (.int x1), some (.int x2), some (.int x3)] [.int x1, .int x2] _ _ from ?_)
    refine zy_2 rfl rfl (show zyR _ _ _ _ [some (.ref (16 + 3)), some (.int x1), some (.int x2), some (.int x3)] [.int x3, .int x1, .int x2] _ _ from ?_)
    obtain ⟨p1, hp1, h⟩ := zy_bind h
    refine zy_61 (as := [.int x1, .int x3]) (rest := [.int x2]) (L := [some (.int x1), some (.int x3)]) (d' := 1) rfl rfl (Nat.le_of_ble_eq_true rfl) (Nat.le_of_ble_eq_true rfl) rfl (Nat.le_of_ble_eq_true rfl) rfl rfl (zyC32 hp1) ?_
    show zyR _ _ _ _ [some (.ref (16 + 3)), some (.int x1), some (.int x2), some (.int x3)] [.int p1.1, .int x2] _ _
    refine zy_3 rfl rfl (show zyR _ _ _ _ [some (.ref (16 + 3)), some (.int x1), some (.int x2), some (.int x3)] [.int (1 : Int32), .int p1.1, .int x2] _ _ from ?_)
    refine zy_25_1 rfl (fun b3 => (show zyR _ _ _ _ [some (.ref (16 + 3)), some (.int x1), some (.int x2), some (.int x3)] [.int x2] _ _ from ?_)) (fun b3 => (show zyR _ _ _ _ [some (.ref (16 + 3)), some (.int x1), some (.int x2), some (.int x3)] [.int x2] _ _ from ?_))
    · replace h := zy_ifp h b3
      refine zy_3 rfl rfl (show zyR _ _ _ _ [some (.ref (16 + 3)), some (.int x1), some (.int x2), some (.int x3)] [.int (0 : Int32), .int x2] _ _ from ?_)
      exact zy_sub (show zy_le [some (.ref (16 + 3)), some (.int x1), none, some (.int x3)] [some (.ref (16 + 3)), some (.int x1), some (.int x2), some (.int x3)] from ⟨rfl, ⟨rfl, ⟨rfl, trivial⟩⟩⟩) (zyC98_38 hk4 h)
    · replace h := zy_ifn h b3
      refine zy_0 rfl rfl (show zyR _ _ _ _ [some (.ref (16 + 3)), some (.int x1), some (.int x2), some (.int x3)] [.ref (16 + 3), .int x2] _ _ from ?_)
      refine zy_1r (c := 16) rfl rfl rfl (show zyR _ _ _ _ [some (.ref (16 + 3)), some (.int x1), some (.int x2), some (.int x3)] [.ref (1 + 3), .int x2] _ _ from ?_)
      refine zy_1r (c := 1) rfl rfl rfl (show zyR _ _ _ _ [some (.ref (16 + 3)), some (.int x1), some (.int x2), some (.int x3)] [.ref (4 + 3), .int x2] _ _ from ?_)
      refine zy_2 rfl rfl (show zyR _ _ _ _ [some (.ref (16 + 3)), some (.int x1), some (.int x2), some (.int x3)] [.int x3, .ref (4 + 3), .int x2] _ _ from ?_)
      obtain ⟨c2, h⟩ := zy_if h
      refine zy_26 (c := 4) rfl rfl c2 (show zyR _ _ _ _ [some (.ref (16 + 3)), some (.int x1), some (.int x2), some (.int x3)] [.int (p1.2.1 4 (x3).toNatClampNeg), .int x2] _ _ from ?_)
      refine zy_6 rfl (show zyR _ _ _ _ [some (.ref (16 + 3)), some (.int x1), some (.int x2), some (.int x3)] [.int (p1.2.1 4 (x3).toNatClampNeg), .int x2] _ _ from ?_)
      exact zy_sub (show zy_le [some (.ref (16 + 3)), some (.int x1), none, some (.int x3)] [some (.ref (16 + 3)), some (.int x1), some (.int x2), some (.int x3)] from ⟨rfl, ⟨rfl, ⟨rfl, trivial⟩⟩⟩) (zyC98_38 hk4 h)
noncomputable def zyF98_4   (n : Nat) : Int32 → Int32 → Int32 → zy_S → Option (Int32 × zy_S) := Nat.rec (fun _ _ _ _ => none) (fun _ k4 => zyF98_4b k4) n
theorem zyC98_4 {X : zx_X}     : ∀ (n : Nat) (x1 : Int32) (x2 : Int32) (x3 : Int32) (s : zy_S) (r : Int32) (s' : zy_S), zyF98_4 n x1 x2 x3 s = some (r, s') → zyR X 2 98 4 [some (.ref (16 + 3)), some (.int x1), some (.int x2), some (.int x3)] [] s (zyE (some (.int r)) s')
  | 0, _, _, _ => by
    intro s r s'  h
    have h : (none : Option (Int32 × zy_S)) = some (r, s') := h
    cases h
  | n + 1, x1, x2, x3 => by
    intro s r s'  h
    exact zyC98_4b (k4 := zyF98_4 n) (fun x1 x2 x3 s r s'  h => zyC98_4  n x1 x2 x3 s r s'  h) h
noncomputable def zyF98   (x1 : Int32) (s : zy_S) : Option (Int32 × zy_S) :=
zyF98_4 zy_fu x1 (0 : Int32) (0 : Int32) s
theorem zyC98 {X : zx_X}     {x1 : Int32} {s : zy_S} {r : Int32} {s' : zy_S}  (h : zyF98 x1 s = some (r, s')) : zyR X 2 98 0 [some (.ref (16 + 3)), some (.int x1), none, none] [] s (zyE (some (.int r)) s') := by
  unfold zyF98 at h
  refine zy_3 rfl rfl (show zyR _ _ _ _ [some (.ref (16 + 3)), some (.int x1), none, none] [.int (0 : Int32)] _ _ from ?_)
  refine zy_23 rfl rfl (show zyR _ _ _ _ [some (.ref (16 + 3)), some (.int x1), some (.int (0 : Int32)), none] [] _ _ from ?_)
  refine zy_3 rfl rfl (show zyR _ _ _ _ [some (.ref (16 + 3)), some (.int x1), some (.int (0 : Int32)), none] [.int (0 : Int32)] _ _ from ?_)
  refine zy_23 rfl rfl (show zyR _ _ _ _ [some (.ref (16 + 3)), some (.int x1), some (.int (0 : Int32)), some (.int (0 : Int32))] [] _ _ from ?_)
  exact zy_sub (show zy_le [some (.ref (16 + 3)), some (.int x1), some (.int (0 : Int32)), some (.int (0 : Int32))] [some (.ref (16 + 3)), some (.int x1), some (.int (0 : Int32)), some (.int (0 : Int32))] from ⟨rfl, ⟨rfl, ⟨rfl, ⟨rfl, trivial⟩⟩⟩⟩) (zyC98_4 zy_fu x1 (0 : Int32) (0 : Int32) s _ _ h)
/-! NineOpinions$Votes.standingFor(II)I -/
noncomputable def zyF128   (x1 : Int32) (x2 : Int32) (s : zy_S) : Option (Int32 × zy_S) :=
(zyF95 (((4 : Int32) * x1) + x2) s).bind fun p1 =>
(zyF98 p1.1 p1.2).bind fun p2 =>
some (p2.1, p2.2)
theorem zyC128 {X : zx_X}     {x1 : Int32} {x2 : Int32} {s : zy_S} {r : Int32} {s' : zy_S}  (h : zyF128 x1 x2 s = some (r, s')) : zyR X 4 128 0 [some (.ref (16 + 3)), some (.int x1), some (.int x2)] [] s (zyE (some (.int r)) s') := by
  unfold zyF128 at h
  refine zy_0 rfl rfl (show zyR _ _ _ _ [some (.ref (16 + 3)), some (.int x1), some (.int x2)] [.ref (16 + 3)] _ _ from ?_)
  refine zy_0 rfl rfl (show zyR _ _ _ _ [some (.ref (16 + 3)), some (.int x1), some (.int x2)] [.ref (16 + 3), .ref (16 + 3)] _ _ from ?_)
  refine zy_3 rfl rfl (show zyR _ _ _ _ [some (.ref (16 + 3)), some (.int x1), some (.int x2)] [.int (4 : Int32), .ref (16 + 3), .ref (16 + 3)] _ _ from ?_)
  refine zy_2 rfl rfl (show zyR _ _ _ _ [some (.ref (16 + 3)), some (.int x1), some (.int x2)] [.int x1, .int (4 : Int32), .ref (16 + 3), .ref (16 + 3)] _ _ from ?_)
  refine zy_12 rfl (show zyR _ _ _ _ [some (.ref (16 + 3)), some (.int x1), some (.int x2)] [.int ((4 : Int32) * x1), .ref (16 + 3), .ref (16 + 3)] _ _ from ?_)
  refine zy_2 rfl rfl (show zyR _ _ _ _ [some (.ref (16 + 3)), some (.int x1), some (.int x2)] [.int x2, .int ((4 : Int32) * x1), .ref (16 + 3), .ref (16 + 3)] _ _ from ?_)
  refine zy_10 rfl (show zyR _ _ _ _ [some (.ref (16 + 3)), some (.int x1), some (.int x2)] [.int (((4 : Int32) * x1) + x2), .ref (16 + 3), .ref (16 + 3)] _ _ from ?_)
  obtain ⟨p1, hp1, h⟩ := zy_bind h
  refine zy_5 (c := 16) (as := [.int (((4 : Int32) * x1) + x2)]) (rest := [.ref (16 + 3)]) (L := [some (.ref (16 + 3)), some (.int (((4 : Int32) * x1) + x2)), none, none]) (d' := 3) rfl rfl rfl (Nat.le_of_ble_eq_true rfl) (Nat.le_of_ble_eq_true rfl) rfl (Nat.le_of_ble_eq_true rfl) rfl rfl (zyC95 hp1) ?_
  show zyR _ _ _ _ [some (.ref (16 + 3)), some (.int x1), some (.int x2)] [.int p1.1, .ref (16 + 3)] _ _
  obtain ⟨p2, hp2, h⟩ := zy_bind h
  refine zy_5 (c := 16) (as := [.int p1.1]) (rest := []) (L := [some (.ref (16 + 3)), some (.int p1.1), none, none]) (d' := 2) rfl rfl rfl (Nat.le_of_ble_eq_true rfl) (Nat.le_of_ble_eq_true rfl) rfl (Nat.le_of_ble_eq_true rfl) rfl rfl (zyC98 hp2) ?_
  show zyR _ _ _ _ [some (.ref (16 + 3)), some (.int x1), some (.int x2)] [.int p2.1] _ _
  obtain ⟨rfl, rfl⟩ := zy_pi h
  exact zy_4 rfl ⟨rfl, rfl⟩
/-! NineOpinions$Votes.commonest(I)I -/
noncomputable def zyF127_29  (k4 : Int32 → Int32 → Int32 → zy_S → Option (Int32 × zy_S)) (x1 : Int32) (x3 : Int32) (y0 : Int32) (s : zy_S) : Option (Int32 × zy_S) :=
k4 x1 y0 (x3 + (1 : Int32)) s
theorem zyC127_29 {X : zx_X}  {k4 : Int32 → Int32 → Int32 → zy_S → Option (Int32 × zy_S)}  (hk4 : ∀ (x1 : Int32) (x2 : Int32) (x3 : Int32) (s : zy_S) (r : Int32) (s' : zy_S), k4 x1 x2 x3 s = some (r, s') → zyR X 5 127 4 [some (.ref (16 + 3)), some (.int x1), some (.int x2), some (.int x3)] [] s (zyE (some (.int r)) s')) {x1 : Int32} {x3 : Int32} {y0 : Int32} {s : zy_S} {r : Int32} {s' : zy_S}  (h : zyF127_29 k4 x1 x3 y0 s = some (r, s')) : zyR X 5 127 29 [some (.ref (16 + 3)), some (.int x1), none, some (.int x3)] [.int y0] s (zyE (some (.int r)) s') := by
  unfold zyF127_29 at h
  refine zy_23 rfl rfl (show zyR _ _ _ _ [some (.ref (16 + 3)), some (.int x1), some (.int y0), some (.int x3)] [] _ _ from ?_)
  refine zy_22 rfl rfl rfl rfl (show zyR _ _ _ _ [some (.ref (16 + 3)), some (.int x1), some (.int y0), some (.int (x3 + (1 : Int32)))] [] _ _ from ?_)
  refine zy_6 rfl (show zyR _ _ _ _ [some (.ref (16 + 3)), some (.int x1), some (.int y0), some (.int (x3 + (1 : Int32)))] [] _ _ from ?_)
  exact zy_sub (show zy_le [some (.ref (16 + 3)), some (.int x1), some (.int y0), some (.int (x3 + (1 : Int32)))] [some (.ref (16 + 3)), some (.int x1), some (.int y0), some (.int (x3 + (1 : Int32)))] from ⟨rfl, ⟨rfl, ⟨rfl, ⟨rfl, trivial⟩⟩⟩⟩) (hk4 x1 y0 (x3 + (1 : Int32)) s _ _ h)
noncomputable def zyF127_4b  (k4 : Int32 → Int32 → Int32 → zy_S → Option (Int32 × zy_S)) (x1 : Int32) (x2 : Int32) (x3 : Int32) (s : zy_S) : Option (Int32 × zy_S) :=
if (4 : Int32) ≤ x3 then
some (x2, s)
else
(zyF128 x1 x3 s).bind fun p1 =>
(zyF128 x1 x2 p1.2).bind fun p2 =>
if p1.1 ≤ p2.1 then
zyF127_29 k4 x1 x3 x2 p2.2
else
zyF127_29 k4 x1 x3 x3 p2.2
theorem zyC127_4b {X : zx_X}  {k4 : Int32 → Int32 → Int32 → zy_S → Option (Int32 × zy_S)}  (hk4 : ∀ (x1 : Int32) (x2 : Int32) (x3 : Int32) (s : zy_S) (r : Int32) (s' : zy_S), k4 x1 x2 x3 s = some (r, s') → zyR X 5 127 4 [some (.ref (16 + 3)), some (.int x1), some (.int x2), some (.int x3)] [] s (zyE (some (.int r)) s')) {x1 : Int32} {x2 : Int32} {x3 : Int32} {s : zy_S} {r : Int32} {s' : zy_S}  (h : zyF127_4b k4 x1 x2 x3 s = some (r, s')) : zyR X 5 127 4 [some (.ref (16 + 3)), some (.int x1), some (.int x2), some (.int x3)] [] s (zyE (some (.int r)) s') := by
  unfold zyF127_4b at h
  refine zy_2 rfl rfl (show zyR _ _ _ _ [some (.ref (16 + 3)), some (.int x1), some (.int x2), some (.int x3)] [.int x3] _ _ from ?_)
  refine zy_3 rfl rfl (show zyR _ _ _ _ [some (.ref (16 + 3)), some (.int x1), some (.int x2), some (.int x3)] [.int (4 : Int32), .int x3] _ _ from ?_)
  refine zy_25_3 rfl (fun b4 => (show zyR _ _ _ _ [some (.ref (16 + 3)), some (.int x1), some (.int x2), some (.int x3)] [] _ _ from ?_)) (fun b4 => (show zyR _ _ _ _ [some (.ref (16 + 3)), some (.int x1), some (.int x2), some (.int x3)] [] _ _ from ?_))
  · replace h := zy_ifp h b4
    refine zy_2 rfl rfl (show zyR _ _ _ _ [some (.ref (16 + 3)), some (.int x1), some (.int x2), some (.int x3)] [.int x2] _ _ from ?_)
    obtain ⟨rfl, rfl⟩ := zy_pi h
    exact zy_4 rfl ⟨rfl, rfl⟩
  · replace h := zy_ifn h b4
    refine zy_0 rfl rfl (show zyR _ _ _ _ [some (.ref (16 + 3)), some (.int x1), some (.int x2), some (.int x3)] [.ref (16 + 3)] _ _ from ?_)
    refine zy_2 rfl rfl (show zyR _ _ _ _ [some (.ref (16 + 3)), some (.int x1), some (.int x2), some (.int x3)] [.int x1, .ref (16 + 3)] _ _ from ?_)
    refine zy_2 rfl rfl (show zyR _ _ _ _ [some (.ref (16 + 3)), some (.int x1), some (.int x2), some (.int x3)] [.int x3, .int x1, .ref (16 + 3)] _ _ from ?_)
    obtain ⟨p1, hp1, h⟩ := zy_bind h
    refine zy_5 (c := 16) (as := [.int x1, .int x3]) (rest := []) (L := [some (.ref (16 + 3)), some (.int x1), some (.int x3)]) (d' := 4) rfl rfl rfl (Nat.le_of_ble_eq_true rfl) (Nat.le_of_ble_eq_true rfl) rfl (Nat.le_of_ble_eq_true rfl) rfl rfl (zyC128 hp1) ?_
    show zyR _ _ _ _ [some (.ref (16 + 3)), some (.int x1), some (.int x2), some (.int x3)] [.int p1.1] _ _
    refine zy_0 rfl rfl (show zyR _ _ _ _ [some (.ref (16 + 3)), some (.int x1), some (.int x2), some (.int x3)] [.ref (16 + 3), .int p1.1] _ _ from ?_)
    refine zy_2 rfl rfl (show zyR _ _ _ _ [some (.ref (16 + 3)), some (.int x1), some (.int x2), some (.int x3)] [.int x1, .ref (16 + 3), .int p1.1] _ _ from ?_)
    refine zy_2 rfl rfl (show zyR _ _ _ _ [some (.ref (16 + 3)), some (.int x1), some (.int x2), some (.int x3)] [.int x2, .int x1, .ref (16 + 3), .int p1.1] _ _ from ?_)
    obtain ⟨p2, hp2, h⟩ := zy_bind h
    refine zy_5 (c := 16) (as := [.int x1, .int x2]) (rest := [.int p1.1]) (L := [some (.ref (16 + 3)), some (.int x1), some (.int x2)]) (d' := 4) rfl rfl rfl (Nat.le_of_ble_eq_true rfl) (Nat.le_of_ble_eq_true rfl) rfl (Nat.le_of_ble_eq_true rfl) rfl rfl (zyC128 hp2) ?_
    show zyR _ _ _ _ [some (.ref (16 + 3)), some (.int x1), some (.int x2), some (.int x3)] [.int p2.1, .int p1.1] _ _
    refine zy_25_5 rfl (fun b3 => (show zyR _ _ _ _ [some (.ref (16 + 3)), some (.int x1), some (.int x2), some (.int x3)] [] _ _ from ?_)) (fun b3 => (show zyR _ _ _ _ [some (.ref (16 + 3)), some (.int x1), some (.int x2), some (.int x3)] [] _ _ from ?_))
    · replace h := zy_ifp h b3
      refine zy_2 rfl rfl (show zyR _ _ _ _ [some (.ref (16 + 3)), some (.int x1), some (.int x2), some (.int x3)] [.int x2] _ _ from ?_)
      exact zy_sub (show zy_le [some (.ref (16 + 3)), some (.int x1), none, some (.int x3)] [some (.ref (16 + 3)), some (.int x1), some (.int x2), some (.int x3)] from ⟨rfl, ⟨rfl, ⟨rfl, trivial⟩⟩⟩) (zyC127_29 hk4 h)
    · replace h := zy_ifn h b3
      refine zy_2 rfl rfl (show zyR _ _ _ _ [some (.ref (16 + 3)), some (.int x1), some (.int x2), some (.int x3)] [.int x3] _ _ from ?_)
      refine zy_6 rfl (show zyR _ _ _ _ [some (.ref (16 + 3)), some (.int x1), some (.int x2), some (.int x3)] [.int x3] _ _ from ?_)
      exact zy_sub (show zy_le [some (.ref (16 + 3)), some (.int x1), none, some (.int x3)] [some (.ref (16 + 3)), some (.int x1), some (.int x2), some (.int x3)] from ⟨rfl, ⟨rfl, ⟨rfl, trivial⟩⟩⟩) (zyC127_29 hk4 h)
noncomputable def zyF127_4   (n : Nat) : Int32 → Int32 → Int32 → zy_S → Option (Int32 × zy_S) := Nat.rec (fun _ _ _ _ => none) (fun _ k4 => zyF127_4b k4) n
theorem zyC127_4 {X : zx_X}     : ∀ (n : Nat) (x1 : Int32) (x2 : Int32) (x3 : Int32) (s : zy_S) (r : Int32) (s' : zy_S), zyF127_4 n x1 x2 x3 s = some (r, s') → zyR X 5 127 4 [some (.ref (16 + 3)), some (.int x1), some (.int x2), some (.int x3)] [] s (zyE (some (.int r)) s')
  | 0, _, _, _ => by
    intro s r s'  h
    have h : (none : Option (Int32 × zy_S)) = some (r, s') := h
    cases h
  | n + 1, x1, x2, x3 => by
    intro s r s'  h
    exact zyC127_4b (k4 := zyF127_4 n) (fun x1 x2 x3 s r s'  h => zyC127_4  n x1 x2 x3 s r s'  h) h
noncomputable def zyF127   (x1 : Int32) (s : zy_S) : Option (Int32 × zy_S) :=
zyF127_4 zy_fu x1 (0 : Int32) (1 : Int32) s
theorem zyC127 {X : zx_X}     {x1 : Int32} {s : zy_S} {r : Int32} {s' : zy_S}  (h : zyF127 x1 s = some (r, s')) : zyR X 5 127 0 [some (.ref (16 + 3)), some (.int x1), none, none] [] s (zyE (some (.int r)) s') := by
  unfold zyF127 at h
  refine zy_3 rfl rfl (show zyR _ _ _ _ [some (.ref (16 + 3)), some (.int x1), none, none] [.int (0 : Int32)] _ _ from ?_)
  refine zy_23 rfl rfl (show zyR _ _ _ _ [some (.ref (16 + 3)), some (.int x1), some (.int (0 : Int32)), none] [] _ _ from ?_)
  refine zy_3 rfl rfl (show zyR _ _ _ _ [some (.ref (16 + 3)), some (.int x1), some (.int (0 : Int32)), none] [.int (1 : Int32)] _ _ from ?_)
  refine zy_23 rfl rfl (show zyR _ _ _ _ [some (.ref (16 + 3)), some (.int x1), some (.int (0 : Int32)), some (.int (1 : Int32))] [] _ _ from ?_)
  exact zy_sub (show zy_le [some (.ref (16 + 3)), some (.int x1), some (.int (0 : Int32)), some (.int (1 : Int32))] [some (.ref (16 + 3)), some (.int x1), some (.int (0 : Int32)), some (.int (1 : Int32))] from ⟨rfl, ⟨rfl, ⟨rfl, ⟨rfl, trivial⟩⟩⟩⟩) (zyC127_4 zy_fu x1 (0 : Int32) (1 : Int32) s _ _ h)
/-! NineOpinions$Votes.mostUnlike()I -/
noncomputable def zyF126_40  (k4 : Int32 → Int32 → zy_S → Option (Int32 × zy_S)) (x2 : Int32) (y0 : Int32) (s : zy_S) : Option (Int32 × zy_S) :=
k4 y0 (x2 + (1 : Int32)) s
theorem zyC126_40 {X : zx_X}  {k4 : Int32 → Int32 → zy_S → Option (Int32 × zy_S)}  (hk4 : ∀ (x1 : Int32) (x2 : Int32) (s : zy_S) (r : Int32) (s' : zy_S), k4 x1 x2 s = some (r, s') → zyR X 6 126 4 [some (.ref (16 + 3)), some (.int x1), some (.int x2), none] [] s (zyE (some (.int r)) s')) {x2 : Int32} {y0 : Int32} {s : zy_S} {r : Int32} {s' : zy_S}  (h : zyF126_40 k4 x2 y0 s = some (r, s')) : zyR X 6 126 40 [some (.ref (16 + 3)), none, some (.int x2), none] [.int y0] s (zyE (some (.int r)) s') := by
  unfold zyF126_40 at h
  refine zy_23 rfl rfl (show zyR _ _ _ _ [some (.ref (16 + 3)), some (.int y0), some (.int x2), none] [] _ _ from ?_)
  refine zy_22 rfl rfl rfl rfl (show zyR _ _ _ _ [some (.ref (16 + 3)), some (.int y0), some (.int (x2 + (1 : Int32))), none] [] _ _ from ?_)
  refine zy_6 rfl (show zyR _ _ _ _ [some (.ref (16 + 3)), some (.int y0), some (.int (x2 + (1 : Int32))), none] [] _ _ from ?_)
  exact zy_sub (show zy_le [some (.ref (16 + 3)), some (.int y0), some (.int (x2 + (1 : Int32))), none] [some (.ref (16 + 3)), some (.int y0), some (.int (x2 + (1 : Int32))), none] from ⟨rfl, ⟨rfl, ⟨rfl, trivial⟩⟩⟩) (hk4 y0 (x2 + (1 : Int32)) s _ _ h)
noncomputable def zyF126_4b  (k4 : Int32 → Int32 → zy_S → Option (Int32 × zy_S)) (x1 : Int32) (x2 : Int32) (s : zy_S) : Option (Int32 × zy_S) :=
if (6 : Int32) ≤ x2 then
some (x1, s)
else
(zyF127 x2 s).bind fun p1 =>
(zyF128 x2 p1.1 p1.2).bind fun p2 =>
(zyF127 x1 p2.2).bind fun p3 =>
(zyF128 x1 p3.1 p3.2).bind fun p4 =>
if p4.1 ≤ p2.1 then
zyF126_40 k4 x2 x1 p4.2
else
zyF126_40 k4 x2 x2 p4.2
theorem zyC126_4b {X : zx_X}  {k4 : Int32 → Int32 → zy_S → Option (Int32 × zy_S)}  (hk4 : ∀ (x1 : Int32) (x2 : Int32) (s : zy_S) (r : Int32) (s' : zy_S), k4 x1 x2 s = some (r, s') → zyR X 6 126 4 [some (.ref (16 + 3)), some (.int x1), some (.int x2), none] [] s (zyE (some (.int r)) s')) {x1 : Int32} {x2 : Int32} {s : zy_S} {r : Int32} {s' : zy_S}  (h : zyF126_4b k4 x1 x2 s = some (r, s')) : zyR X 6 126 4 [some (.ref (16 + 3)), some (.int x1), some (.int x2), none] [] s (zyE (some (.int r)) s') := by
  unfold zyF126_4b at h
  refine zy_2 rfl rfl (show zyR _ _ _ _ [some (.ref (16 + 3)), some (.int x1), some (.int x2), none] [.int x2] _ _ from ?_)
  refine zy_3 rfl rfl (show zyR _ _ _ _ [some (.ref (16 + 3)), some (.int x1), some (.int x2), none] [.int (6 : Int32), .int x2] _ _ from ?_)
  refine zy_25_3 rfl (fun b6 => (show zyR _ _ _ _ [some (.ref (16 + 3)), some (.int x1), some (.int x2), none] [] _ _ from ?_)) (fun b6 => (show zyR _ _ _ _ [some (.ref (16 + 3)), some (.int x1), some (.int x2), none] [] _ _ from ?_))
  · replace h := zy_ifp h b6
    refine zy_2 rfl rfl (show zyR _ _ _ _ [some (.ref (16 + 3)), some (.int x1), some (.int x2), none] [.int x1] _ _ from ?_)
    obtain ⟨rfl, rfl⟩ := zy_pi h
    exact zy_4 rfl ⟨rfl, rfl⟩
  · replace h := zy_ifn h b6
    refine zy_0 rfl rfl (show zyR _ _ _ _ [some (.ref (16 + 3)), some (.int x1), some (.int x2), none] [.ref (16 + 3)] _ _ from ?_)
    refine zy_2 rfl rfl (show zyR _ _ _ _ [some (.ref (16 + 3)), some (.int x1), some (.int x2), none] [.int x2, .ref (16 + 3)] _ _ from ?_)
    refine zy_0 rfl rfl (show zyR _ _ _ _ [some (.ref (16 + 3)), some (.int x1), some (.int x2), none] [.ref (16 + 3), .int x2, .ref (16 + 3)] _ _ from ?_)
    refine zy_2 rfl rfl (show zyR _ _ _ _ [some (.ref (16 + 3)), some (.int x1), some (.int x2), none] [.int x2, .ref (16 + 3), .int x2, .ref (16 + 3)] _ _ from ?_)
    obtain ⟨p1, hp1, h⟩ := zy_bind h
    refine zy_5 (c := 16) (as := [.int x2]) (rest := [.int x2, .ref (16 + 3)]) (L := [some (.ref (16 + 3)), some (.int x2), none, none]) (d' := 5) rfl rfl rfl (Nat.le_of_ble_eq_true rfl) (Nat.le_of_ble_eq_true rfl) rfl (Nat.le_of_ble_eq_true rfl) rfl rfl (zyC127 hp1) ?_
    show zyR _ _ _ _ [some (.ref (16 + 3)), some (.int x1), some (.int x2), none] [.int p1.1, .int x2, .ref (16 + 3)] _ _
    obtain ⟨p2, hp2, h⟩ := zy_bind h
    refine zy_5 (c := 16) (as := [.int x2, .int p1.1]) (rest := []) (L := [some (.ref (16 + 3)), some (.int x2), some (.int p1.1)]) (d' := 4) rfl rfl rfl (Nat.le_of_ble_eq_true rfl) (Nat.le_of_ble_eq_true rfl) rfl (Nat.le_of_ble_eq_true rfl) rfl rfl (zyC128 hp2) ?_
    show zyR _ _ _ _ [some (.ref (16 + 3)), some (.int x1), some (.int x2), none] [.int p2.1] _ _
    refine zy_23 rfl rfl (show zyR _ _ _ _ [some (.ref (16 + 3)), some (.int x1), some (.int x2), some (.int p2.1)] [] _ _ from ?_)
    refine zy_2 rfl rfl (show zyR _ _ _ _ [some (.ref (16 + 3)), some (.int x1), some (.int x2), some (.int p2.1)] [.int p2.1] _ _ from ?_)
    refine zy_0 rfl rfl (show zyR _ _ _ _ [some (.ref (16 + 3)), some (.int x1), some (.int x2), some (.int p2.1)] [.ref (16 + 3), .int p2.1] _ _ from ?_)
    refine zy_2 rfl rfl (show zyR _ _ _ _ [some (.ref (16 + 3)), some (.int x1), some (.int x2), some (.int p2.1)] [.int x1, .ref (16 + 3), .int p2.1] _ _ from ?_)
    refine zy_0 rfl rfl (show zyR _ _ _ _ [some (.ref (16 + 3)), some (.int x1), some (.int x2), some (.int p2.1)] [.ref (16 + 3), .int x1, .ref (16 + 3), .int p2.1] _ _ from ?_)
    refine zy_2 rfl rfl (show zyR _ _ _ _ [some (.ref (16 + 3)), some (.int x1), some (.int x2), some (.int p2.1)] [.int x1, .ref (16 + 3), .int x1, .ref (16 + 3), .int p2.1] _ _ from ?_)
    obtain ⟨p3, hp3, h⟩ := zy_bind h
    refine zy_5 (c := 16) (as := [.int x1]) (rest := [.int x1, .ref (16 + 3), .int p2.1]) (L := [some (.ref (16 + 3)), some (.int x1), none, none]) (d' := 5) rfl rfl rfl (Nat.le_of_ble_eq_true rfl) (Nat.le_of_ble_eq_true rfl) rfl (Nat.le_of_ble_eq_true rfl) rfl rfl (zyC127 hp3) ?_
    show zyR _ _ _ _ [some (.ref (16 + 3)), some (.int x1), some (.int x2), some (.int p2.1)] [.int p3.1, .int x1, .ref (16 + 3), .int p2.1] _ _
    obtain ⟨p4, hp4, h⟩ := zy_bind h
    refine zy_5 (c := 16) (as := [.int x1, .int p3.1]) (rest := [.int p2.1]) (L := [some (.ref (16 + 3)), some (.int x1), some (.int p3.1)]) (d' := 4) rfl rfl rfl (Nat.le_of_ble_eq_true rfl) (Nat.le_of_ble_eq_true rfl) rfl (Nat.le_of_ble_eq_true rfl) rfl rfl (zyC128 hp4) ?_
    show zyR _ _ _ _ [some (.ref (16 + 3)), some (.int x1), some (.int x2), some (.int p2.1)] [.int p4.1, .int p2.1] _ _
    refine zy_25_3 rfl (fun b5 => (show zyR _ _ _ _ [some (.ref (16 + 3)), some (.int x1), some (.int x2), some (.int p2.1)] [] _ _ from ?_)) (fun b5 => (show zyR _ _ _ _ [some (.ref (16 + 3)), some (.int x1), some (.int x2), some (.int p2.1)] [] _ _ from ?_))
    · replace h := zy_ifp h b5
      refine zy_2 rfl rfl (show zyR _ _ _ _ [some (.ref (16 + 3)), some (.int x1), some (.int x2), some (.int p2.1)] [.int x1] _ _ from ?_)
      exact zy_sub (show zy_le [some (.ref (16 + 3)), none, some (.int x2), none] [some (.ref (16 + 3)), some (.int x1), some (.int x2), some (.int p2.1)] from ⟨rfl, ⟨rfl, trivial⟩⟩) (zyC126_40 hk4 h)
    · replace h := zy_ifn h b5
      refine zy_2 rfl rfl (show zyR _ _ _ _ [some (.ref (16 + 3)), some (.int x1), some (.int x2), some (.int p2.1)] [.int x2] _ _ from ?_)
      refine zy_6 rfl (show zyR _ _ _ _ [some (.ref (16 + 3)), some (.int x1), some (.int x2), some (.int p2.1)] [.int x2] _ _ from ?_)
      exact zy_sub (show zy_le [some (.ref (16 + 3)), none, some (.int x2), none] [some (.ref (16 + 3)), some (.int x1), some (.int x2), some (.int p2.1)] from ⟨rfl, ⟨rfl, trivial⟩⟩) (zyC126_40 hk4 h)
noncomputable def zyF126_4   (n : Nat) : Int32 → Int32 → zy_S → Option (Int32 × zy_S) := Nat.rec (fun _ _ _ => none) (fun _ k4 => zyF126_4b k4) n
theorem zyC126_4 {X : zx_X}     : ∀ (n : Nat) (x1 : Int32) (x2 : Int32) (s : zy_S) (r : Int32) (s' : zy_S), zyF126_4 n x1 x2 s = some (r, s') → zyR X 6 126 4 [some (.ref (16 + 3)), some (.int x1), some (.int x2), none] [] s (zyE (some (.int r)) s')
  | 0, _, _ => by
    intro s r s'  h
    have h : (none : Option (Int32 × zy_S)) = some (r, s') := h
    cases h
  | n + 1, x1, x2 => by
    intro s r s'  h
    exact zyC126_4b (k4 := zyF126_4 n) (fun x1 x2 s r s'  h => zyC126_4  n x1 x2 s r s'  h) h
noncomputable def zyF126    (s : zy_S) : Option (Int32 × zy_S) :=
zyF126_4 zy_fu (0 : Int32) (1 : Int32) s
theorem zyC126 {X : zx_X}      {s : zy_S} {r : Int32} {s' : zy_S}  (h : zyF126 s = some (r, s')) : zyR X 6 126 0 [some (.ref (16 + 3)), none, none, none] [] s (zyE (some (.int r)) s') := by
  unfold zyF126 at h
  refine zy_3 rfl rfl (show zyR _ _ _ _ [some (.ref (16 + 3)), none, none, none] [.int (0 : Int32)] _ _ from ?_)
  refine zy_23 rfl rfl (show zyR _ _ _ _ [some (.ref (16 + 3)), some (.int (0 : Int32)), none, none] [] _ _ from ?_)
  refine zy_3 rfl rfl (show zyR _ _ _ _ [some (.ref (16 + 3)), some (.int (0 : Int32)), none, none] [.int (1 : Int32)] _ _ from ?_)
  refine zy_23 rfl rfl (show zyR _ _ _ _ [some (.ref (16 + 3)), some (.int (0 : Int32)), some (.int (1 : Int32)), none] [] _ _ from ?_)
  exact zy_sub (show zy_le [some (.ref (16 + 3)), some (.int (0 : Int32)), some (.int (1 : Int32)), none] [some (.ref (16 + 3)), some (.int (0 : Int32)), some (.int (1 : Int32)), none] from ⟨rfl, ⟨rfl, ⟨rfl, trivial⟩⟩⟩) (zyC126_4 zy_fu (0 : Int32) (1 : Int32) s _ _ h)
