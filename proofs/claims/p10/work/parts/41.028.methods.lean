/-! PART 41.28: methods as functions. Made by wip/v4/dcp.py. -/
/-! NineOpinions$Bodies.run(IIIII)I, over what it calls -/
noncomputable def zyF155_48 (g155 : Int32 → Int32 → Int32 → Int32 → Int32 → zy_S → Option (Int32 × zy_S)) (g157 : Int32 → Int32 → Int32 → Int32 → zy_S → Option (Int32 × zy_S)) (g158 : Int32 → Int32 → Int32 → Int32 → Int32 → zy_S → Option (Int32 × zy_S))  (x1 : Int32) (x3 : Int32) (x4 : Int32) (x5 : Int32) (x6 : Int32) (s : zy_S) : Option (Int32 × zy_S) :=
(zyF149 x6 s).bind fun p1 =>
if p1.1 = 0 then
some ((0 : Int32), p1.2)
else
if x5 < (40 : Int32) then
if zy_in (((4 : Int32) * x6) + x3) 32 then
(zyF156 (zs_own.getD ((((4 : Int32) * x6) + x3)).toNatClampNeg 0) p1.2).bind fun p3 =>
if zy_in x6 8 then
if 0 ≤ (zs_abv.getD (x6).toNatClampNeg 0) then
if zy_in x6 8 then
(g158 x1 (zs_own.getD ((((4 : Int32) * x6) + x3)).toNatClampNeg 0) (zs_abv.getD (x6).toNatClampNeg 0) x4 (x5 + (1 : Int32)) p3.2).bind fun p6 =>
some (p6.1, p6.2)
else none
else
(g157 x1 (zs_own.getD ((((4 : Int32) * x6) + x3)).toNatClampNeg 0) x4 (x5 + (1 : Int32)) p3.2).bind fun p7 =>
some (p7.1, p7.2)
else none
else none
else
some ((0 : Int32), p1.2)
theorem zyC155_48 {X : zx_X} {d : Nat} {g155 : Int32 → Int32 → Int32 → Int32 → Int32 → zy_S → Option (Int32 × zy_S)} {g157 : Int32 → Int32 → Int32 → Int32 → zy_S → Option (Int32 × zy_S)} {g158 : Int32 → Int32 → Int32 → Int32 → Int32 → zy_S → Option (Int32 × zy_S)}  (hd : 1 ≤ d) (hg155 : ∀ (x1 : Int32) (x2 : Int32) (x3 : Int32) (x4 : Int32) (x5 : Int32) (s : zy_S) (r : Int32) (s' : zy_S), g155 x1 x2 x3 x4 x5 s = some (r, s') → zyR X d 155 0 [some (.ref (27 + 3)), some (.int x1), some (.int x2), some (.int x3), some (.int x4), some (.int x5), none, none] [] s (zyE (some (.int r)) s')) (hg157 : ∀ (x1 : Int32) (x2 : Int32) (x3 : Int32) (x4 : Int32) (s : zy_S) (r : Int32) (s' : zy_S), g157 x1 x2 x3 x4 s = some (r, s') → zyR X d 157 0 [some (.ref (27 + 3)), some (.int x1), some (.int x2), some (.int x3), some (.int x4), none] [] s (zyE (some (.int r)) s')) (hg158 : ∀ (x1 : Int32) (x2 : Int32) (x3 : Int32) (x4 : Int32) (x5 : Int32) (s : zy_S) (r : Int32) (s' : zy_S), g158 x1 x2 x3 x4 x5 s = some (r, s') → zyR X d 158 0 [some (.ref (27 + 3)), some (.int x1), some (.int x2), some (.int x3), some (.int x4), some (.int x5), none] [] s (zyE (some (.int r)) s'))  {x1 : Int32} {x3 : Int32} {x4 : Int32} {x5 : Int32} {x6 : Int32} {s : zy_S} {r : Int32} {s' : zy_S}  (h : zyF155_48 g155 g157 g158 x1 x3 x4 x5 x6 s = some (r, s')) : zyR X (d + 1) 155 48 [some (.ref (27 + 3)), some (.int x1), none, some (.int x3), some (.int x4), some (.int x5), some (.int x6), none] [] s (zyE (some (.int r)) s') := by
  unfold zyF155_48 at h
  refine zy_2 rfl rfl (show zyR _ _ _ _ [some (.ref (27 + 3)), some (.int x1), none, some (.int x3), some (.int x4), some (.int x5), some (.int x6), none] [.int x6] _ _ from ?_)
  obtain ⟨p1, hp1, h⟩ := zy_bind h
  refine zy_60 (as := [.int x6]) (rest := []) (L := [some (.int x6)]) (d' := 1) rfl rfl (Nat.le_of_ble_eq_true rfl) (by omega) rfl (Nat.le_of_ble_eq_true rfl) rfl rfl (zyC149 hp1) ?_
  show zyR _ _ _ _ [some (.ref (27 + 3)), some (.int x1), none, some (.int x3), some (.int x4), some (.int x5), some (.int x6), none] [.int p1.1] _ _
  refine zy_24_0 rfl (fun b10 => (show zyR _ _ _ _ [some (.ref (27 + 3)), some (.int x1), none, some (.int x3), some (.int x4), some (.int x5), some (.int x6), none] [] _ _ from ?_)) (fun b10 => (show zyR _ _ _ _ [some (.ref (27 + 3)), some (.int x1), none, some (.int x3), some (.int x4), some (.int x5), some (.int x6), none] [] _ _ from ?_))
  · replace h := zy_ifp h b10
    refine zy_3 rfl rfl (show zyR _ _ _ _ [some (.ref (27 + 3)), some (.int x1), none, some (.int x3), some (.int x4), some (.int x5), some (.int x6), none] [.int (0 : Int32)] _ _ from ?_)
    obtain ⟨rfl, rfl⟩ := zy_pi h
    exact zy_4 rfl ⟨rfl, rfl⟩
  · replace h := zy_ifn h b10
    refine zy_2 rfl rfl (show zyR _ _ _ _ [some (.ref (27 + 3)), some (.int x1), none, some (.int x3), some (.int x4), some (.int x5), some (.int x6), none] [.int x5] _ _ from ?_)
    refine zy_3 rfl rfl (show zyR _ _ _ _ [some (.ref (27 + 3)), some (.int x1), none, some (.int x3), some (.int x4), some (.int x5), some (.int x6), none] [.int (40 : Int32), .int x5] _ _ from ?_)
    refine zy_25_2 rfl (fun b9 => (show zyR _ _ _ _ [some (.ref (27 + 3)), some (.int x1), none, some (.int x3), some (.int x4), some (.int x5), some (.int x6), none] [] _ _ from ?_)) (fun b9 => (show zyR _ _ _ _ [some (.ref (27 + 3)), some (.int x1), none, some (.int x3), some (.int x4), some (.int x5), some (.int x6), none] [] _ _ from ?_))
    · replace h := zy_ifp h b9
      refine zy_54 rfl rfl (show zyR _ _ _ _ [some (.ref (27 + 3)), some (.int x1), none, some (.int x3), some (.int x4), some (.int x5), some (.int x6), none] [.ref 0] _ _ from ?_)
      refine zy_3 rfl rfl (show zyR _ _ _ _ [some (.ref (27 + 3)), some (.int x1), none, some (.int x3), some (.int x4), some (.int x5), some (.int x6), none] [.int (4 : Int32), .ref 0] _ _ from ?_)
      refine zy_2 rfl rfl (show zyR _ _ _ _ [some (.ref (27 + 3)), some (.int x1), none, some (.int x3), some (.int x4), some (.int x5), some (.int x6), none] [.int x6, .int (4 : Int32), .ref 0] _ _ from ?_)
      refine zy_12 rfl (show zyR _ _ _ _ [some (.ref (27 + 3)), some (.int x1), none, some (.int x3), some (.int x4), some (.int x5), some (.int x6), none] [.int ((4 : Int32) * x6), .ref 0] _ _ from ?_)
      refine zy_2 rfl rfl (show zyR _ _ _ _ [some (.ref (27 + 3)), some (.int x1), none, some (.int x3), some (.int x4), some (.int x5), some (.int x6), none] [.int x3, .int ((4 : Int32) * x6), .ref 0] _ _ from ?_)
      refine zy_10 rfl (show zyR _ _ _ _ [some (.ref (27 + 3)), some (.int x1), none, some (.int x3), some (.int x4), some (.int x5), some (.int x6), none] [.int (((4 : Int32) * x6) + x3), .ref 0] _ _ from ?_)
      obtain ⟨c2, h⟩ := zy_if h
      refine zy_26o rfl c2 (show zyR _ _ _ _ [some (.ref (27 + 3)), some (.int x1), none, some (.int x3), some (.int x4), some (.int x5), some (.int x6), none] [.int (zs_own.getD ((((4 : Int32) * x6) + x3)).toNatClampNeg 0)] _ _ from ?_)
      refine zy_23 rfl rfl (show zyR _ _ _ _ [some (.ref (27 + 3)), some (.int x1), none, some (.int x3), some (.int x4), some (.int x5), some (.int x6), some (.int (zs_own.getD ((((4 : Int32) * x6) + x3)).toNatClampNeg 0))] [] _ _ from ?_)
      refine zy_0 rfl rfl (show zyR _ _ _ _ [some (.ref (27 + 3)), some (.int x1), none, some (.int x3), some (.int x4), some (.int x5), some (.int x6), some (.int (zs_own.getD ((((4 : Int32) * x6) + x3)).toNatClampNeg 0))] [.ref (27 + 3)] _ _ from ?_)
      refine zy_2 rfl rfl (show zyR _ _ _ _ [some (.ref (27 + 3)), some (.int x1), none, some (.int x3), some (.int x4), some (.int x5), some (.int x6), some (.int (zs_own.getD ((((4 : Int32) * x6) + x3)).toNatClampNeg 0))] [.int (zs_own.getD ((((4 : Int32) * x6) + x3)).toNatClampNeg 0), .ref (27 + 3)] _ _ from ?_)
      obtain ⟨p3, hp3, h⟩ := zy_bind h
      refine zy_5 (c := 27) (as := [.int (zs_own.getD ((((4 : Int32) * x6) + x3)).toNatClampNeg 0)]) (rest := []) (L := [some (.ref (27 + 3)), some (.int (zs_own.getD ((((4 : Int32) * x6) + x3)).toNatClampNeg 0))]) (d' := 1) rfl rfl rfl (Nat.le_of_ble_eq_true rfl) (by omega) rfl (Nat.le_of_ble_eq_true rfl) rfl rfl (zyC156 hp3) ?_
      show zyR _ _ _ _ [some (.ref (27 + 3)), some (.int x1), none, some (.int x3), some (.int x4), some (.int x5), some (.int x6), some (.int (zs_own.getD ((((4 : Int32) * x6) + x3)).toNatClampNeg 0))] [] _ _
      refine zy_54 rfl rfl (show zyR _ _ _ _ [some (.ref (27 + 3)), some (.int x1), none, some (.int x3), some (.int x4), some (.int x5), some (.int x6), some (.int (zs_own.getD ((((4 : Int32) * x6) + x3)).toNatClampNeg 0))] [.ref 1] _ _ from ?_)
      refine zy_2 rfl rfl (show zyR _ _ _ _ [some (.ref (27 + 3)), some (.int x1), none, some (.int x3), some (.int x4), some (.int x5), some (.int x6), some (.int (zs_own.getD ((((4 : Int32) * x6) + x3)).toNatClampNeg 0))] [.int x6, .ref 1] _ _ from ?_)
      obtain ⟨c4, h⟩ := zy_if h
      refine zy_26a rfl c4 (show zyR _ _ _ _ [some (.ref (27 + 3)), some (.int x1), none, some (.int x3), some (.int x4), some (.int x5), some (.int x6), some (.int (zs_own.getD ((((4 : Int32) * x6) + x3)).toNatClampNeg 0))] [.int (zs_abv.getD (x6).toNatClampNeg 0)] _ _ from ?_)
      refine zy_24_3 rfl (fun b8 => (show zyR _ _ _ _ [some (.ref (27 + 3)), some (.int x1), none, some (.int x3), some (.int x4), some (.int x5), some (.int x6), some (.int (zs_own.getD ((((4 : Int32) * x6) + x3)).toNatClampNeg 0))] [] _ _ from ?_)) (fun b8 => (show zyR _ _ _ _ [some (.ref (27 + 3)), some (.int x1), none, some (.int x3), some (.int x4), some (.int x5), some (.int x6), some (.int (zs_own.getD ((((4 : Int32) * x6) + x3)).toNatClampNeg 0))] [] _ _ from ?_))
      · replace h := zy_ifp h b8
        refine zy_0 rfl rfl (show zyR _ _ _ _ [some (.ref (27 + 3)), some (.int x1), none, some (.int x3), some (.int x4), some (.int x5), some (.int x6), some (.int (zs_own.getD ((((4 : Int32) * x6) + x3)).toNatClampNeg 0))] [.ref (27 + 3)] _ _ from ?_)
        refine zy_2 rfl rfl (show zyR _ _ _ _ [some (.ref (27 + 3)), some (.int x1), none, some (.int x3), some (.int x4), some (.int x5), some (.int x6), some (.int (zs_own.getD ((((4 : Int32) * x6) + x3)).toNatClampNeg 0))] [.int x1, .ref (27 + 3)] _ _ from ?_)
        refine zy_2 rfl rfl (show zyR _ _ _ _ [some (.ref (27 + 3)), some (.int x1), none, some (.int x3), some (.int x4), some (.int x5), some (.int x6), some (.int (zs_own.getD ((((4 : Int32) * x6) + x3)).toNatClampNeg 0))] [.int (zs_own.getD ((((4 : Int32) * x6) + x3)).toNatClampNeg 0), .int x1, .ref (27 + 3)] _ _ from ?_)
        refine zy_54 rfl rfl (show zyR _ _ _ _ [some (.ref (27 + 3)), some (.int x1), none, some (.int x3), some (.int x4), some (.int x5), some (.int x6), some (.int (zs_own.getD ((((4 : Int32) * x6) + x3)).toNatClampNeg 0))] [.ref 1, .int (zs_own.getD ((((4 : Int32) * x6) + x3)).toNatClampNeg 0), .int x1, .ref (27 + 3)] _ _ from ?_)
        refine zy_2 rfl rfl (show zyR _ _ _ _ [some (.ref (27 + 3)), some (.int x1), none, some (.int x3), some (.int x4), some (.int x5), some (.int x6), some (.int (zs_own.getD ((((4 : Int32) * x6) + x3)).toNatClampNeg 0))] [.int x6, .ref 1, .int (zs_own.getD ((((4 : Int32) * x6) + x3)).toNatClampNeg 0), .int x1, .ref (27 + 3)] _ _ from ?_)
        obtain ⟨c5, h⟩ := zy_if h
        refine zy_26a rfl c5 (show zyR _ _ _ _ [some (.ref (27 + 3)), some (.int x1), none, some (.int x3), some (.int x4), some (.int x5), some (.int x6), some (.int (zs_own.getD ((((4 : Int32) * x6) + x3)).toNatClampNeg 0))] [.int (zs_abv.getD (x6).toNatClampNeg 0), .int (zs_own.getD ((((4 : Int32) * x6) + x3)).toNatClampNeg 0), .int x1, .ref (27 + 3)] _ _ from ?_)
        refine zy_2 rfl rfl (show zyR _ _ _ _ [some (.ref (27 + 3)), some (.int x1), none, some (.int x3), some (.int x4), some (.int x5), some (.int x6), some (.int (zs_own.getD ((((4 : Int32) * x6) + x3)).toNatClampNeg 0))] [.int x4, .int (zs_abv.getD (x6).toNatClampNeg 0), .int (zs_own.getD ((((4 : Int32) * x6) + x3)).toNatClampNeg 0), .int x1, .ref (27 + 3)] _ _ from ?_)
        refine zy_2 rfl rfl (show zyR _ _ _ _ [some (.ref (27 + 3)), some (.int x1), none, some (.int x3), some (.int x4), some (.int x5), some (.int x6), some (.int (zs_own.getD ((((4 : Int32) * x6) + x3)).toNatClampNeg 0))] [.int x5, .int x4, .int (zs_abv.getD (x6).toNatClampNeg 0), .int (zs_own.getD ((((4 : Int32) * x6) + x3)).toNatClampNeg 0), .int x1, .ref (27 + 3)] _ _ from ?_)
        refine zy_3 rfl rfl (show zyR _ _ _ _ [some (.ref (27 + 3)), some (.int x1), none, some (.int x3), some (.int x4), some (.int x5), some (.int x6), some (.int (zs_own.getD ((((4 : Int32) * x6) + x3)).toNatClampNeg 0))] [.int (1 : Int32), .int x5, .int x4, .int (zs_abv.getD (x6).toNatClampNeg 0), .int (zs_own.getD ((((4 : Int32) * x6) + x3)).toNatClampNeg 0), .int x1, .ref (27 + 3)] _ _ from ?_)
        refine zy_10 rfl (show zyR _ _ _ _ [some (.ref (27 + 3)), some (.int x1), none, some (.int x3), some (.int x4), some (.int x5), some (.int x6), some (.int (zs_own.getD ((((4 : Int32) * x6) + x3)).toNatClampNeg 0))] [.int (x5 + (1 : Int32)), .int x4, .int (zs_abv.getD (x6).toNatClampNeg 0), .int (zs_own.getD ((((4 : Int32) * x6) + x3)).toNatClampNeg 0), .int x1, .ref (27 + 3)] _ _ from ?_)
        obtain ⟨p6, hp6, h⟩ := zy_bind h
        refine zy_5 (c := 27) (as := [.int x1, .int (zs_own.getD ((((4 : Int32) * x6) + x3)).toNatClampNeg 0), .int (zs_abv.getD (x6).toNatClampNeg 0), .int x4, .int (x5 + (1 : Int32))]) (rest := []) (L := [some (.ref (27 + 3)), some (.int x1), some (.int (zs_own.getD ((((4 : Int32) * x6) + x3)).toNatClampNeg 0)), some (.int (zs_abv.getD (x6).toNatClampNeg 0)), some (.int x4), some (.int (x5 + (1 : Int32))), none]) (d' := d) rfl rfl rfl (Nat.le_of_ble_eq_true rfl) (by omega) rfl (Nat.le_of_ble_eq_true rfl) rfl rfl (hg158 x1 (zs_own.getD ((((4 : Int32) * x6) + x3)).toNatClampNeg 0) (zs_abv.getD (x6).toNatClampNeg 0) x4 (x5 + (1 : Int32)) p3.2 _ _ hp6) ?_
        show zyR _ _ _ _ [some (.ref (27 + 3)), some (.int x1), none, some (.int x3), some (.int x4), some (.int x5), some (.int x6), some (.int (zs_own.getD ((((4 : Int32) * x6) + x3)).toNatClampNeg 0))] [.int p6.1] _ _
        obtain ⟨rfl, rfl⟩ := zy_pi h
        exact zy_4 rfl ⟨rfl, rfl⟩
      · replace h := zy_ifn h b8
        refine zy_0 rfl rfl (show zyR _ _ _ _ [some (.ref (27 + 3)), some (.int x1), none, some (.int x3), some (.int x4), some (.int x5), some (.int x6), some (.int (zs_own.getD ((((4 : Int32) * x6) + x3)).toNatClampNeg 0))] [.ref (27 + 3)] _ _ from ?_)
        refine zy_2 rfl rfl (show zyR _ _ _ _ [some (.ref (27 + 3)), some (.int x1), none, some (.int x3), some (.int x4), some (.int x5), some (.int x6), some (.int (zs_own.getD ((((4 : Int32) * x6) + x3)).toNatClampNeg 0))] [.int x1, .ref (27 + 3)] _ _ from ?_)
        refine zy_2 rfl rfl (show zyR _ _ _ _ [some (.ref (27 + 3)), some (.int x1), none, some (.int x3), some (.int x4), some (.int x5), some (.int x6), some (.int (zs_own.getD ((((4 : Int32) * x6) + x3)).toNatClampNeg 0))] [.int (zs_own.getD ((((4 : Int32) * x6) + x3)).toNatClampNeg 0), .int x1, .ref (27 + 3)] _ _ from ?_)
        refine zy_2 rfl rfl (show zyR _ _ _ _ [some (.ref (27 + 3)), some (.int x1), none, some (.int x3), some (.int x4), some (.int x5), some (.int x6), some (.int (zs_own.getD ((((4 : Int32) * x6) + x3)).toNatClampNeg 0))] [.int x4, .int (zs_own.getD ((((4 : Int32) * x6) + x3)).toNatClampNeg 0), .int x1, .ref (27 + 3)] _ _ from ?_)
        refine zy_2 rfl rfl (show zyR _ _ _ _ [some (.ref (27 + 3)), some (.int x1), none, some (.int x3), some (.int x4), some (.int x5), some (.int x6), some (.int (zs_own.getD ((((4 : Int32) * x6) + x3)).toNatClampNeg 0))] [.int x5, .int x4, .int (zs_own.getD ((((4 : Int32) * x6) + x3)).toNatClampNeg 0), .int x1, .ref (27 + 3)] _ _ from ?_)
        refine zy_3 rfl rfl (show zyR _ _ _ _ [some (.ref (27 + 3)), some (.int x1), none, some (.int x3), some (.int x4), some (.int x5), some (.int x6), some (.int (zs_own.getD ((((4 : Int32) * x6) + x3)).toNatClampNeg 0))] [.int (1 : Int32), .int x5, .int x4, .int (zs_own.getD ((((4 : Int32) * x6) + x3)).toNatClampNeg 0), .int x1, .ref (27 + 3)] _ _ from ?_)
        refine zy_10 rfl (show zyR _ _ _ _ [some (.ref (27 + 3)), some (.int x1), none, some (.int x3), some (.int x4), some (.int x5), some (.int x6), some (.int (zs_own.getD ((((4 : Int32) * x6) + x3)).toNatClampNeg 0))] [.int (x5 + (1 : Int32)), .int x4, .int (zs_own.getD ((((4 : Int32) * x6) + x3)).toNatClampNeg 0), .int x1, .ref (27 + 3)] _ _ from ?_)
        obtain ⟨p7, hp7, h⟩ := zy_bind h
        refine zy_5 (c := 27) (as := [.int x1, .int (zs_own.getD ((((4 : Int32) * x6) + x3)).toNatClampNeg 0), .int x4, .int (x5 + (1 : Int32))]) (rest := []) (L := [some (.ref (27 + 3)), some (.int x1), some (.int (zs_own.getD ((((4 : Int32) * x6) + x3)).toNatClampNeg 0)), some (.int x4), some (.int (x5 + (1 : Int32))), none]) (d' := d) rfl rfl rfl (Nat.le_of_ble_eq_true rfl) (by omega) rfl (Nat.le_of_ble_eq_true rfl) rfl rfl (hg157 x1 (zs_own.getD ((((4 : Int32) * x6) + x3)).toNatClampNeg 0) x4 (x5 + (1 : Int32)) p3.2 _ _ hp7) ?_
        show zyR _ _ _ _ [some (.ref (27 + 3)), some (.int x1), none, some (.int x3), some (.int x4), some (.int x5), some (.int x6), some (.int (zs_own.getD ((((4 : Int32) * x6) + x3)).toNatClampNeg 0))] [.int p7.1] _ _
        refine zy_6 rfl (show zyR _ _ _ _ [some (.ref (27 + 3)), some (.int x1), none, some (.int x3), some (.int x4), some (.int x5), some (.int x6), some (.int (zs_own.getD ((((4 : Int32) * x6) + x3)).toNatClampNeg 0))] [.int p7.1] _ _ from ?_)
        obtain ⟨rfl, rfl⟩ := zy_pi h
        exact zy_4 rfl ⟨rfl, rfl⟩
    · replace h := zy_ifn h b9
      refine zy_3 rfl rfl (show zyR _ _ _ _ [some (.ref (27 + 3)), some (.int x1), none, some (.int x3), some (.int x4), some (.int x5), some (.int x6), none] [.int (0 : Int32)] _ _ from ?_)
      obtain ⟨rfl, rfl⟩ := zy_pi h
      exact zy_4 rfl ⟨rfl, rfl⟩
noncomputable def zyF155_6b (g155 : Int32 → Int32 → Int32 → Int32 → Int32 → zy_S → Option (Int32 × zy_S)) (g157 : Int32 → Int32 → Int32 → Int32 → zy_S → Option (Int32 × zy_S)) (g158 : Int32 → Int32 → Int32 → Int32 → Int32 → zy_S → Option (Int32 × zy_S)) (k6 : Int32 → Int32 → Int32 → Int32 → Int32 → Int32 → zy_S → Option (Int32 × zy_S)) (x1 : Int32) (x3 : Int32) (x4 : Int32) (x5 : Int32) (x6 : Int32) (x7 : Int32) (s : zy_S) : Option (Int32 × zy_S) :=
if (8 : Int32) ≤ x7 then
zyF155_48 g155 g157 g158 x1 x3 x4 x5 x6 s
else
(zyF149 x6 s).bind fun p11 =>
if p11.1 = 0 then
zyF155_48 g155 g157 g158 x1 x3 x4 x5 x6 p11.2
else
if zy_in (((4 : Int32) * x6) + x3) 32 then
if (zs_own.getD ((((4 : Int32) * x6) + x3)).toNatClampNeg 0) ≠ 0 then
zyF155_48 g155 g157 g158 x1 x3 x4 x5 x6 p11.2
else
if zy_in x6 8 then
k6 x1 x3 x4 x5 (zs_abv.getD (x6).toNatClampNeg 0) (x7 + (1 : Int32)) p11.2
else none
else none
theorem zyC155_6b {X : zx_X} {d : Nat} {g155 : Int32 → Int32 → Int32 → Int32 → Int32 → zy_S → Option (Int32 × zy_S)} {g157 : Int32 → Int32 → Int32 → Int32 → zy_S → Option (Int32 × zy_S)} {g158 : Int32 → Int32 → Int32 → Int32 → Int32 → zy_S → Option (Int32 × zy_S)} {k6 : Int32 → Int32 → Int32 → Int32 → Int32 → Int32 → zy_S → Option (Int32 × zy_S)} (hd : 1 ≤ d) (hg155 : ∀ (x1 : Int32) (x2 : Int32) (x3 : Int32) (x4 : Int32) (x5 : Int32) (s : zy_S) (r : Int32) (s' : zy_S), g155 x1 x2 x3 x4 x5 s = some (r, s') → zyR X d 155 0 [some (.ref (27 + 3)), some (.int x1), some (.int x2), some (.int x3), some (.int x4), some (.int x5), none, none] [] s (zyE (some (.int r)) s')) (hg157 : ∀ (x1 : Int32) (x2 : Int32) (x3 : Int32) (x4 : Int32) (s : zy_S) (r : Int32) (s' : zy_S), g157 x1 x2 x3 x4 s = some (r, s') → zyR X d 157 0 [some (.ref (27 + 3)), some (.int x1), some (.int x2), some (.int x3), some (.int x4), none] [] s (zyE (some (.int r)) s')) (hg158 : ∀ (x1 : Int32) (x2 : Int32) (x3 : Int32) (x4 : Int32) (x5 : Int32) (s : zy_S) (r : Int32) (s' : zy_S), g158 x1 x2 x3 x4 x5 s = some (r, s') → zyR X d 158 0 [some (.ref (27 + 3)), some (.int x1), some (.int x2), some (.int x3), some (.int x4), some (.int x5), none] [] s (zyE (some (.int r)) s')) (hk6 : ∀ (x1 : Int32) (x3 : Int32) (x4 : Int32) (x5 : Int32) (x6 : Int32) (x7 : Int32) (s : zy_S) (r : Int32) (s' : zy_S), k6 x1 x3 x4 x5 x6 x7 s = some (r, s') → zyR X (d + 1) 155 6 [some (.ref (27 + 3)), some (.int x1), none, some (.int x3), some (.int x4), some (.int x5), some (.int x6), some (.int x7)] [] s (zyE (some (.int r)) s')) {x1 : Int32} {x3 : Int32} {x4 : Int32} {x5 : Int32} {x6 : Int32} {x7 : Int32} {s : zy_S} {r : Int32} {s' : zy_S}  (h : zyF155_6b g155 g157 g158 k6 x1 x3 x4 x5 x6 x7 s = some (r, s')) : zyR X (d + 1) 155 6 [some (.ref (27 + 3)), some (.int x1), none, some (.int x3), some (.int x4), some (.int x5), some (.int x6), some (.int x7)] [] s (zyE (some (.int r)) s') := by
  unfold zyF155_6b at h
  refine zy_2 rfl rfl (show zyR _ _ _ _ [some (.ref (27 + 3)), some (.int x1), none, some (.int x3), some (.int x4), some (.int x5), some (.int x6), some (.int x7)] [.int x7] _ _ from ?_)
  refine zy_3 rfl rfl (show zyR _ _ _ _ [some (.ref (27 + 3)), some (.int x1), none, some (.int x3), some (.int x4), some (.int x5), some (.int x6), some (.int x7)] [.int (8 : Int32), .int x7] _ _ from ?_)
  refine zy_25_3 rfl (fun b16 => (show zyR _ _ _ _ [some (.ref (27 + 3)), some (.int x1), none, some (.int x3), some (.int x4), some (.int x5), some (.int x6), some (.int x7)] [] _ _ from ?_)) (fun b16 => (show zyR _ _ _ _ [some (.ref (27 + 3)), some (.int x1), none, some (.int x3), some (.int x4), some (.int x5), some (.int x6), some (.int x7)] [] _ _ from ?_))
  · replace h := zy_ifp h b16
    exact zy_sub (show zy_le [some (.ref (27 + 3)), some (.int x1), none, some (.int x3), some (.int x4), some (.int x5), some (.int x6), none] [some (.ref (27 + 3)), some (.int x1), none, some (.int x3), some (.int x4), some (.int x5), some (.int x6), some (.int x7)] from ⟨rfl, ⟨rfl, ⟨rfl, ⟨rfl, ⟨rfl, ⟨rfl, trivial⟩⟩⟩⟩⟩⟩) (zyC155_48 hd hg155 hg157 hg158 h)
  · replace h := zy_ifn h b16
    refine zy_2 rfl rfl (show zyR _ _ _ _ [some (.ref (27 + 3)), some (.int x1), none, some (.int x3), some (.int x4), some (.int x5), some (.int x6), some (.int x7)] [.int x6] _ _ from ?_)
    obtain ⟨p11, hp11, h⟩ := zy_bind h
    refine zy_60 (as := [.int x6]) (rest := []) (L := [some (.int x6)]) (d' := 1) rfl rfl (Nat.le_of_ble_eq_true rfl) (by omega) rfl (Nat.le_of_ble_eq_true rfl) rfl rfl (zyC149 hp11) ?_
    show zyR _ _ _ _ [some (.ref (27 + 3)), some (.int x1), none, some (.int x3), some (.int x4), some (.int x5), some (.int x6), some (.int x7)] [.int p11.1] _ _
    refine zy_24_0 rfl (fun b15 => (show zyR _ _ _ _ [some (.ref (27 + 3)), some (.int x1), none, some (.int x3), some (.int x4), some (.int x5), some (.int x6), some (.int x7)] [] _ _ from ?_)) (fun b15 => (show zyR _ _ _ _ [some (.ref (27 + 3)), some (.int x1), none, some (.int x3), some (.int x4), some (.int x5), some (.int x6), some (.int x7)] [] _ _ from ?_))
    · replace h := zy_ifp h b15
      exact zy_sub (show zy_le [some (.ref (27 + 3)), some (.int x1), none, some (.int x3), some (.int x4), some (.int x5), some (.int x6), none] [some (.ref (27 + 3)), some (.int x1), none, some (.int x3), some (.int x4), some (.int x5), some (.int x6), some (.int x7)] from ⟨rfl, ⟨rfl, ⟨rfl, ⟨rfl, ⟨rfl, ⟨rfl, trivial⟩⟩⟩⟩⟩⟩) (zyC155_48 hd hg155 hg157 hg158 h)
    · replace h := zy_ifn h b15
      refine zy_54 rfl rfl (show zyR _ _ _ _ [some (.ref (27 + 3)), some (.int x1), none, some (.int x3), some (.int x4), some (.int x5), some (.int x6), some (.int x7)] [.ref 0] _ _ from ?_)
      refine zy_3 rfl rfl (show zyR _ _ _ _ [some (.ref (27 + 3)), some (.int x1), none, some (.int x3), some (.int x4), some (.int x5), some (.int x6), some (.int x7)] [.int (4 : Int32), .ref 0] _ _ from ?_)
      refine zy_2 rfl rfl (show zyR _ _ _ _ [some (.ref (27 + 3)), some (.int x1), none, some (.int x3), some (.int x4), some (.int x5), some (.int x6), some (.int x7)] [.int x6, .int (4 : Int32), .ref 0] _ _ from ?_)
      refine zy_12 rfl (show zyR _ _ _ _ [some (.ref (27 + 3)), some (.int x1), none, some (.int x3), some (.int x4), some (.int x5), some (.int x6), some (.int x7)] [.int ((4 : Int32) * x6), .ref 0] _ _ from ?_)
      refine zy_2 rfl rfl (show zyR _ _ _ _ [some (.ref (27 + 3)), some (.int x1), none, some (.int x3), some (.int x4), some (.int x5), some (.int x6), some (.int x7)] [.int x3, .int ((4 : Int32) * x6), .ref 0] _ _ from ?_)
      refine zy_10 rfl (show zyR _ _ _ _ [some (.ref (27 + 3)), some (.int x1), none, some (.int x3), some (.int x4), some (.int x5), some (.int x6), some (.int x7)] [.int (((4 : Int32) * x6) + x3), .ref 0] _ _ from ?_)
      obtain ⟨c12, h⟩ := zy_if h
      refine zy_26o rfl c12 (show zyR _ _ _ _ [some (.ref (27 + 3)), some (.int x1), none, some (.int x3), some (.int x4), some (.int x5), some (.int x6), some (.int x7)] [.int (zs_own.getD ((((4 : Int32) * x6) + x3)).toNatClampNeg 0)] _ _ from ?_)
      refine zy_24_1 rfl (fun b14 => (show zyR _ _ _ _ [some (.ref (27 + 3)), some (.int x1), none, some (.int x3), some (.int x4), some (.int x5), some (.int x6), some (.int x7)] [] _ _ from ?_)) (fun b14 => (show zyR _ _ _ _ [some (.ref (27 + 3)), some (.int x1), none, some (.int x3), some (.int x4), some (.int x5), some (.int x6), some (.int x7)] [] _ _ from ?_))
      · replace h := zy_ifp h b14
        exact zy_sub (show zy_le [some (.ref (27 + 3)), some (.int x1), none, some (.int x3), some (.int x4), some (.int x5), some (.int x6), none] [some (.ref (27 + 3)), some (.int x1), none, some (.int x3), some (.int x4), some (.int x5), some (.int x6), some (.int x7)] from ⟨rfl, ⟨rfl, ⟨rfl, ⟨rfl, ⟨rfl, ⟨rfl, trivial⟩⟩⟩⟩⟩⟩) (zyC155_48 hd hg155 hg157 hg158 h)
      · replace h := zy_ifn h b14
        refine zy_54 rfl rfl (show zyR _ _ _ _ [some (.ref (27 + 3)), some (.int x1), none, some (.int x3), some (.int x4), some (.int x5), some (.int x6), some (.int x7)] [.ref 1] _ _ from ?_)
        refine zy_2 rfl rfl (show zyR _ _ _ _ [some (.ref (27 + 3)), some (.int x1), none, some (.int x3), some (.int x4), some (.int x5), some (.int x6), some (.int x7)] [.int x6, .ref 1] _ _ from ?_)
        obtain ⟨c13, h⟩ := zy_if h
        refine zy_26a rfl c13 (show zyR _ _ _ _ [some (.ref (27 + 3)), some (.int x1), none, some (.int x3), some (.int x4), some (.int x5), some (.int x6), some (.int x7)] [.int (zs_abv.getD (x6).toNatClampNeg 0)] _ _ from ?_)
        refine zy_23 rfl rfl (show zyR _ _ _ _ [some (.ref (27 + 3)), some (.int x1), none, some (.int x3), some (.int x4), some (.int x5), some (.int (zs_abv.getD (x6).toNatClampNeg 0)), some (.int x7)] [] _ _ from ?_)
        refine zy_22 rfl rfl rfl rfl (show zyR _ _ _ _ [some (.ref (27 + 3)), some (.int x1), none, some (.int x3), some (.int x4), some (.int x5), some (.int (zs_abv.getD (x6).toNatClampNeg 0)), some (.int (x7 + (1 : Int32)))] [] _ _ from ?_)
        refine zy_6 rfl (show zyR _ _ _ _ [some (.ref (27 + 3)), some (.int x1), none, some (.int x3), some (.int x4), some (.int x5), some (.int (zs_abv.getD (x6).toNatClampNeg 0)), some (.int (x7 + (1 : Int32)))] [] _ _ from ?_)
        exact zy_sub (show zy_le [some (.ref (27 + 3)), some (.int x1), none, some (.int x3), some (.int x4), some (.int x5), some (.int (zs_abv.getD (x6).toNatClampNeg 0)), some (.int (x7 + (1 : Int32)))] [some (.ref (27 + 3)), some (.int x1), none, some (.int x3), some (.int x4), some (.int x5), some (.int (zs_abv.getD (x6).toNatClampNeg 0)), some (.int (x7 + (1 : Int32)))] from ⟨rfl, ⟨rfl, ⟨rfl, ⟨rfl, ⟨rfl, ⟨rfl, ⟨rfl, trivial⟩⟩⟩⟩⟩⟩⟩) (hk6 x1 x3 x4 x5 (zs_abv.getD (x6).toNatClampNeg 0) (x7 + (1 : Int32)) p11.2 _ _ h)
noncomputable def zyF155_6 (g155 : Int32 → Int32 → Int32 → Int32 → Int32 → zy_S → Option (Int32 × zy_S)) (g157 : Int32 → Int32 → Int32 → Int32 → zy_S → Option (Int32 × zy_S)) (g158 : Int32 → Int32 → Int32 → Int32 → Int32 → zy_S → Option (Int32 × zy_S))  (n : Nat) : Int32 → Int32 → Int32 → Int32 → Int32 → Int32 → zy_S → Option (Int32 × zy_S) := Nat.rec (fun _ _ _ _ _ _ _ => none) (fun _ k6 => zyF155_6b g155 g157 g158 k6) n
theorem zyC155_6 {X : zx_X} {d : Nat} {g155 : Int32 → Int32 → Int32 → Int32 → Int32 → zy_S → Option (Int32 × zy_S)} {g157 : Int32 → Int32 → Int32 → Int32 → zy_S → Option (Int32 × zy_S)} {g158 : Int32 → Int32 → Int32 → Int32 → Int32 → zy_S → Option (Int32 × zy_S)}  (hd : 1 ≤ d) (hg155 : ∀ (x1 : Int32) (x2 : Int32) (x3 : Int32) (x4 : Int32) (x5 : Int32) (s : zy_S) (r : Int32) (s' : zy_S), g155 x1 x2 x3 x4 x5 s = some (r, s') → zyR X d 155 0 [some (.ref (27 + 3)), some (.int x1), some (.int x2), some (.int x3), some (.int x4), some (.int x5), none, none] [] s (zyE (some (.int r)) s')) (hg157 : ∀ (x1 : Int32) (x2 : Int32) (x3 : Int32) (x4 : Int32) (s : zy_S) (r : Int32) (s' : zy_S), g157 x1 x2 x3 x4 s = some (r, s') → zyR X d 157 0 [some (.ref (27 + 3)), some (.int x1), some (.int x2), some (.int x3), some (.int x4), none] [] s (zyE (some (.int r)) s')) (hg158 : ∀ (x1 : Int32) (x2 : Int32) (x3 : Int32) (x4 : Int32) (x5 : Int32) (s : zy_S) (r : Int32) (s' : zy_S), g158 x1 x2 x3 x4 x5 s = some (r, s') → zyR X d 158 0 [some (.ref (27 + 3)), some (.int x1), some (.int x2), some (.int x3), some (.int x4), some (.int x5), none] [] s (zyE (some (.int r)) s'))  : ∀ (n : Nat) (x1 : Int32) (x3 : Int32) (x4 : Int32) (x5 : Int32) (x6 : Int32) (x7 : Int32) (s : zy_S) (r : Int32) (s' : zy_S), zyF155_6 g155 g157 g158 n x1 x3 x4 x5 x6 x7 s = some (r, s') → zyR X (d + 1) 155 6 [some (.ref (27 + 3)), some (.int x1), none, some (.int x3), some (.int x4), some (.int x5), some (.int x6), some (.int x7)] [] s (zyE (some (.int r)) s')
  | 0, _, _, _, _, _, _ => by
    intro s r s'  h
    have h : (none : Option (Int32 × zy_S)) = some (r, s') := h
    cases h
  | n + 1, x1, x3, x4, x5, x6, x7 => by
    intro s r s'  h
    exact zyC155_6b hd hg155 hg157 hg158 (k6 := zyF155_6 g155 g157 g158 n) (fun x1 x3 x4 x5 x6 x7 s r s'  h => zyC155_6 hd hg155 hg157 hg158 n x1 x3 x4 x5 x6 x7 s r s'  h) h
noncomputable def zyF155_0 (g155 : Int32 → Int32 → Int32 → Int32 → Int32 → zy_S → Option (Int32 × zy_S)) (g157 : Int32 → Int32 → Int32 → Int32 → zy_S → Option (Int32 × zy_S)) (g158 : Int32 → Int32 → Int32 → Int32 → Int32 → zy_S → Option (Int32 × zy_S))  (x1 : Int32) (x2 : Int32) (x3 : Int32) (x4 : Int32) (x5 : Int32) (s : zy_S) : Option (Int32 × zy_S) :=
zyF155_6 g155 g157 g158 zy_fu x1 x3 x4 x5 x2 (0 : Int32) s
theorem zyC155_0 {X : zx_X} {d : Nat} {g155 : Int32 → Int32 → Int32 → Int32 → Int32 → zy_S → Option (Int32 × zy_S)} {g157 : Int32 → Int32 → Int32 → Int32 → zy_S → Option (Int32 × zy_S)} {g158 : Int32 → Int32 → Int32 → Int32 → Int32 → zy_S → Option (Int32 × zy_S)}  (hd : 1 ≤ d) (hg155 : ∀ (x1 : Int32) (x2 : Int32) (x3 : Int32) (x4 : Int32) (x5 : Int32) (s : zy_S) (r : Int32) (s' : zy_S), g155 x1 x2 x3 x4 x5 s = some (r, s') → zyR X d 155 0 [some (.ref (27 + 3)), some (.int x1), some (.int x2), some (.int x3), some (.int x4), some (.int x5), none, none] [] s (zyE (some (.int r)) s')) (hg157 : ∀ (x1 : Int32) (x2 : Int32) (x3 : Int32) (x4 : Int32) (s : zy_S) (r : Int32) (s' : zy_S), g157 x1 x2 x3 x4 s = some (r, s') → zyR X d 157 0 [some (.ref (27 + 3)), some (.int x1), some (.int x2), some (.int x3), some (.int x4), none] [] s (zyE (some (.int r)) s')) (hg158 : ∀ (x1 : Int32) (x2 : Int32) (x3 : Int32) (x4 : Int32) (x5 : Int32) (s : zy_S) (r : Int32) (s' : zy_S), g158 x1 x2 x3 x4 x5 s = some (r, s') → zyR X d 158 0 [some (.ref (27 + 3)), some (.int x1), some (.int x2), some (.int x3), some (.int x4), some (.int x5), none] [] s (zyE (some (.int r)) s'))  {x1 : Int32} {x2 : Int32} {x3 : Int32} {x4 : Int32} {x5 : Int32} {s : zy_S} {r : Int32} {s' : zy_S}  (h : zyF155_0 g155 g157 g158 x1 x2 x3 x4 x5 s = some (r, s')) : zyR X (d + 1) 155 0 [some (.ref (27 + 3)), some (.int x1), some (.int x2), some (.int x3), some (.int x4), some (.int x5), none, none] [] s (zyE (some (.int r)) s') := by
  unfold zyF155_0 at h
  refine zy_2 rfl rfl (show zyR _ _ _ _ [some (.ref (27 + 3)), some (.int x1), some (.int x2), some (.int x3), some (.int x4), some (.int x5), none, none] [.int x2] _ _ from ?_)
  refine zy_23 rfl rfl (show zyR _ _ _ _ [some (.ref (27 + 3)), some (.int x1), some (.int x2), some (.int x3), some (.int x4), some (.int x5), some (.int x2), none] [] _ _ from ?_)
  refine zy_3 rfl rfl (show zyR _ _ _ _ [some (.ref (27 + 3)), some (.int x1), some (.int x2), some (.int x3), some (.int x4), some (.int x5), some (.int x2), none] [.int (0 : Int32)] _ _ from ?_)
  refine zy_23 rfl rfl (show zyR _ _ _ _ [some (.ref (27 + 3)), some (.int x1), some (.int x2), some (.int x3), some (.int x4), some (.int x5), some (.int x2), some (.int (0 : Int32))] [] _ _ from ?_)
  exact zy_sub (show zy_le [some (.ref (27 + 3)), some (.int x1), none, some (.int x3), some (.int x4), some (.int x5), some (.int x2), some (.int (0 : Int32))] [some (.ref (27 + 3)), some (.int x1), some (.int x2), some (.int x3), some (.int x4), some (.int x5), some (.int x2), some (.int (0 : Int32))] from ⟨rfl, ⟨rfl, ⟨rfl, ⟨rfl, ⟨rfl, ⟨rfl, ⟨rfl, trivial⟩⟩⟩⟩⟩⟩⟩) (zyC155_6 hd hg155 hg157 hg158 zy_fu x1 x3 x4 x5 x2 (0 : Int32) s _ _ h)
/-! NineOpinions$Bodies.runRoot(IIII)I, over what it calls -/
noncomputable def zyF157_0 (g155 : Int32 → Int32 → Int32 → Int32 → Int32 → zy_S → Option (Int32 × zy_S)) (g157 : Int32 → Int32 → Int32 → Int32 → zy_S → Option (Int32 × zy_S)) (g158 : Int32 → Int32 → Int32 → Int32 → Int32 → zy_S → Option (Int32 × zy_S))  (x1 : Int32) (x2 : Int32) (x3 : Int32) (x4 : Int32) (s : zy_S) : Option (Int32 × zy_S) :=
if zy_in x1 50 then
if x2 = (1 : Int32) then
some ((x3 + x1), s)
else
if x2 = (10 : Int32) then
(g155 x1 (s.1 28 (x1).toNatClampNeg) (0 : Int32) x3 x4 s).bind fun p3 =>
some ((p3.1 * (2 : Int32)), p3.2)
else
if x2 = (11 : Int32) then
some ((x3 ^^^ x1), s)
else
(g155 x1 (s.1 28 (x1).toNatClampNeg) (1 : Int32) x3 x4 s).bind fun p6 =>
(g155 x1 (s.1 28 (x1).toNatClampNeg) (2 : Int32) (1 : Int32) x4 p6.2).bind fun p7 =>
some ((p6.1 - p7.1), p7.2)
else none
theorem zyC157_0 {X : zx_X} {d : Nat} {g155 : Int32 → Int32 → Int32 → Int32 → Int32 → zy_S → Option (Int32 × zy_S)} {g157 : Int32 → Int32 → Int32 → Int32 → zy_S → Option (Int32 × zy_S)} {g158 : Int32 → Int32 → Int32 → Int32 → Int32 → zy_S → Option (Int32 × zy_S)}  (hd : 0 ≤ d) (hg155 : ∀ (x1 : Int32) (x2 : Int32) (x3 : Int32) (x4 : Int32) (x5 : Int32) (s : zy_S) (r : Int32) (s' : zy_S), g155 x1 x2 x3 x4 x5 s = some (r, s') → zyR X d 155 0 [some (.ref (27 + 3)), some (.int x1), some (.int x2), some (.int x3), some (.int x4), some (.int x5), none, none] [] s (zyE (some (.int r)) s')) (hg157 : ∀ (x1 : Int32) (x2 : Int32) (x3 : Int32) (x4 : Int32) (s : zy_S) (r : Int32) (s' : zy_S), g157 x1 x2 x3 x4 s = some (r, s') → zyR X d 157 0 [some (.ref (27 + 3)), some (.int x1), some (.int x2), some (.int x3), some (.int x4), none] [] s (zyE (some (.int r)) s')) (hg158 : ∀ (x1 : Int32) (x2 : Int32) (x3 : Int32) (x4 : Int32) (x5 : Int32) (s : zy_S) (r : Int32) (s' : zy_S), g158 x1 x2 x3 x4 x5 s = some (r, s') → zyR X d 158 0 [some (.ref (27 + 3)), some (.int x1), some (.int x2), some (.int x3), some (.int x4), some (.int x5), none] [] s (zyE (some (.int r)) s'))  {x1 : Int32} {x2 : Int32} {x3 : Int32} {x4 : Int32} {s : zy_S} {r : Int32} {s' : zy_S}  (h : zyF157_0 g155 g157 g158 x1 x2 x3 x4 s = some (r, s')) : zyR X (d + 1) 157 0 [some (.ref (27 + 3)), some (.int x1), some (.int x2), some (.int x3), some (.int x4), none] [] s (zyE (some (.int r)) s') := by
  unfold zyF157_0 at h
  refine zy_0 rfl rfl (show zyR _ _ _ _ [some (.ref (27 + 3)), some (.int x1), some (.int x2), some (.int x3), some (.int x4), none] [.ref (27 + 3)] _ _ from ?_)
  refine zy_1r (c := 27) rfl rfl rfl (show zyR _ _ _ _ [some (.ref (27 + 3)), some (.int x1), some (.int x2), some (.int x3), some (.int x4), none] [.ref (28 + 3)] _ _ from ?_)
  refine zy_2 rfl rfl (show zyR _ _ _ _ [some (.ref (27 + 3)), some (.int x1), some (.int x2), some (.int x3), some (.int x4), none] [.int x1, .ref (28 + 3)] _ _ from ?_)
  obtain ⟨c1, h⟩ := zy_if h
  refine zy_26 (c := 28) rfl rfl c1 (show zyR _ _ _ _ [some (.ref (27 + 3)), some (.int x1), some (.int x2), some (.int x3), some (.int x4), none] [.int (s.1 28 (x1).toNatClampNeg)] _ _ from ?_)
  refine zy_23 rfl rfl (show zyR _ _ _ _ [some (.ref (27 + 3)), some (.int x1), some (.int x2), some (.int x3), some (.int x4), some (.int (s.1 28 (x1).toNatClampNeg))] [] _ _ from ?_)
  refine zy_2 rfl rfl (show zyR _ _ _ _ [some (.ref (27 + 3)), some (.int x1), some (.int x2), some (.int x3), some (.int x4), some (.int (s.1 28 (x1).toNatClampNeg))] [.int x2] _ _ from ?_)
  refine zy_51 rfl (by decide) ?_
  refine zy_swp (fun b2 => (show zyR _ _ _ _ [some (.ref (27 + 3)), some (.int x1), some (.int x2), some (.int x3), some (.int x4), some (.int (s.1 28 (x1).toNatClampNeg))] [] _ _ from ?_)) (fun b2 => ?_)
  · replace h := zy_ifp h b2
    refine zy_2 rfl rfl (show zyR _ _ _ _ [some (.ref (27 + 3)), some (.int x1), some (.int x2), some (.int x3), some (.int x4), some (.int (s.1 28 (x1).toNatClampNeg))] [.int x3] _ _ from ?_)
    refine zy_2 rfl rfl (show zyR _ _ _ _ [some (.ref (27 + 3)), some (.int x1), some (.int x2), some (.int x3), some (.int x4), some (.int (s.1 28 (x1).toNatClampNeg))] [.int x1, .int x3] _ _ from ?_)
    refine zy_10 rfl (show zyR _ _ _ _ [some (.ref (27 + 3)), some (.int x1), some (.int x2), some (.int x3), some (.int x4), some (.int (s.1 28 (x1).toNatClampNeg))] [.int (x3 + x1)] _ _ from ?_)
    obtain ⟨rfl, rfl⟩ := zy_pi h
    exact zy_4 rfl ⟨rfl, rfl⟩
  replace h := zy_ifn h b2
  refine zy_swp (fun b4 => (show zyR _ _ _ _ [some (.ref (27 + 3)), some (.int x1), some (.int x2), some (.int x3), some (.int x4), some (.int (s.1 28 (x1).toNatClampNeg))] [] _ _ from ?_)) (fun b4 => ?_)
  · replace h := zy_ifp h b4
    refine zy_0 rfl rfl (show zyR _ _ _ _ [some (.ref (27 + 3)), some (.int x1), some (.int x2), some (.int x3), some (.int x4), some (.int (s.1 28 (x1).toNatClampNeg))] [.ref (27 + 3)] _ _ from ?_)
    refine zy_2 rfl rfl (show zyR _ _ _ _ [some (.ref (27 + 3)), some (.int x1), some (.int x2), some (.int x3), some (.int x4), some (.int (s.1 28 (x1).toNatClampNeg))] [.int x1, .ref (27 + 3)] _ _ from ?_)
    refine zy_2 rfl rfl (show zyR _ _ _ _ [some (.ref (27 + 3)), some (.int x1), some (.int x2), some (.int x3), some (.int x4), some (.int (s.1 28 (x1).toNatClampNeg))] [.int (s.1 28 (x1).toNatClampNeg), .int x1, .ref (27 + 3)] _ _ from ?_)
    refine zy_3 rfl rfl (show zyR _ _ _ _ [some (.ref (27 + 3)), some (.int x1), some (.int x2), some (.int x3), some (.int x4), some (.int (s.1 28 (x1).toNatClampNeg))] [.int (0 : Int32), .int (s.1 28 (x1).toNatClampNeg), .int x1, .ref (27 + 3)] _ _ from ?_)
    refine zy_2 rfl rfl (show zyR _ _ _ _ [some (.ref (27 + 3)), some (.int x1), some (.int x2), some (.int x3), some (.int x4), some (.int (s.1 28 (x1).toNatClampNeg))] [.int x3, .int (0 : Int32), .int (s.1 28 (x1).toNatClampNeg), .int x1, .ref (27 + 3)] _ _ from ?_)
    refine zy_2 rfl rfl (show zyR _ _ _ _ [some (.ref (27 + 3)), some (.int x1), some (.int x2), some (.int x3), some (.int x4), some (.int (s.1 28 (x1).toNatClampNeg))] [.int x4, .int x3, .int (0 : Int32), .int (s.1 28 (x1).toNatClampNeg), .int x1, .ref (27 + 3)] _ _ from ?_)
    obtain ⟨p3, hp3, h⟩ := zy_bind h
    refine zy_5 (c := 27) (as := [.int x1, .int (s.1 28 (x1).toNatClampNeg), .int (0 : Int32), .int x3, .int x4]) (rest := []) (L := [some (.ref (27 + 3)), some (.int x1), some (.int (s.1 28 (x1).toNatClampNeg)), some (.int (0 : Int32)), some (.int x3), some (.int x4), none, none]) (d' := d) rfl rfl rfl (Nat.le_of_ble_eq_true rfl) (by omega) rfl (Nat.le_of_ble_eq_true rfl) rfl rfl (hg155 x1 (s.1 28 (x1).toNatClampNeg) (0 : Int32) x3 x4 s _ _ hp3) ?_
    show zyR _ _ _ _ [some (.ref (27 + 3)), some (.int x1), some (.int x2), some (.int x3), some (.int x4), some (.int (s.1 28 (x1).toNatClampNeg))] [.int p3.1] _ _
    refine zy_3 rfl rfl (show zyR _ _ _ _ [some (.ref (27 + 3)), some (.int x1), some (.int x2), some (.int x3), some (.int x4), some (.int (s.1 28 (x1).toNatClampNeg))] [.int (2 : Int32), .int p3.1] _ _ from ?_)
    refine zy_12 rfl (show zyR _ _ _ _ [some (.ref (27 + 3)), some (.int x1), some (.int x2), some (.int x3), some (.int x4), some (.int (s.1 28 (x1).toNatClampNeg))] [.int (p3.1 * (2 : Int32))] _ _ from ?_)
    obtain ⟨rfl, rfl⟩ := zy_pi h
    exact zy_4 rfl ⟨rfl, rfl⟩
  replace h := zy_ifn h b4
  refine zy_swp (fun b5 => (show zyR _ _ _ _ [some (.ref (27 + 3)), some (.int x1), some (.int x2), some (.int x3), some (.int x4), some (.int (s.1 28 (x1).toNatClampNeg))] [] _ _ from ?_)) (fun b5 => ?_)
  · replace h := zy_ifp h b5
    refine zy_2 rfl rfl (show zyR _ _ _ _ [some (.ref (27 + 3)), some (.int x1), some (.int x2), some (.int x3), some (.int x4), some (.int (s.1 28 (x1).toNatClampNeg))] [.int x3] _ _ from ?_)
    refine zy_2 rfl rfl (show zyR _ _ _ _ [some (.ref (27 + 3)), some (.int x1), some (.int x2), some (.int x3), some (.int x4), some (.int (s.1 28 (x1).toNatClampNeg))] [.int x1, .int x3] _ _ from ?_)
    refine zy_15 rfl (show zyR _ _ _ _ [some (.ref (27 + 3)), some (.int x1), some (.int x2), some (.int x3), some (.int x4), some (.int (s.1 28 (x1).toNatClampNeg))] [.int (x3 ^^^ x1)] _ _ from ?_)
    obtain ⟨rfl, rfl⟩ := zy_pi h
    exact zy_4 rfl ⟨rfl, rfl⟩
  replace h := zy_ifn h b5
  show zyR _ _ _ _ [some (.ref (27 + 3)), some (.int x1), some (.int x2), some (.int x3), some (.int x4), some (.int (s.1 28 (x1).toNatClampNeg))] [] _ _
  refine zy_0 rfl rfl (show zyR _ _ _ _ [some (.ref (27 + 3)), some (.int x1), some (.int x2), some (.int x3), some (.int x4), some (.int (s.1 28 (x1).toNatClampNeg))] [.ref (27 + 3)] _ _ from ?_)
  refine zy_2 rfl rfl (show zyR _ _ _ _ [some (.ref (27 + 3)), some (.int x1), some (.int x2), some (.int x3), some (.int x4), some (.int (s.1 28 (x1).toNatClampNeg))] [.int x1, .ref (27 + 3)] _ _ from ?_)
  refine zy_2 rfl rfl (show zyR _ _ _ _ [some (.ref (27 + 3)), some (.int x1), some (.int x2), some (.int x3), some (.int x4), some (.int (s.1 28 (x1).toNatClampNeg))] [.int (s.1 28 (x1).toNatClampNeg), .int x1, .ref (27 + 3)] _ _ from ?_)
  refine zy_3 rfl rfl (show zyR _ _ _ _ [some (.ref (27 + 3)), some (.int x1), some (.int x2), some (.int x3), some (.int x4), some (.int (s.1 28 (x1).toNatClampNeg))] [.int (1 : Int32), .int (s.1 28 (x1).toNatClampNeg), .int x1, .ref (27 + 3)] _ _ from ?_)
  refine zy_2 rfl rfl (show zyR _ _ _ _ [some (.ref (27 + 3)), some (.int x1), some (.int x2), some (.int x3), some (.int x4), some (.int (s.1 28 (x1).toNatClampNeg))] [.int x3, .int (1 : Int32), .int (s.1 28 (x1).toNatClampNeg), .int x1, .ref (27 + 3)] _ _ from ?_)
  refine zy_2 rfl rfl (show zyR _ _ _ _ [some (.ref (27 + 3)), some (.int x1), some (.int x2), some (.int x3), some (.int x4), some (.int (s.1 28 (x1).toNatClampNeg))] [.int x4, .int x3, .int (1 : Int32), .int (s.1 28 (x1).toNatClampNeg), .int x1, .ref (27 + 3)] _ _ from ?_)
  obtain ⟨p6, hp6, h⟩ := zy_bind h
  refine zy_5 (c := 27) (as := [.int x1, .int (s.1 28 (x1).toNatClampNeg), .int (1 : Int32), .int x3, .int x4]) (rest := []) (L := [some (.ref (27 + 3)), some (.int x1), some (.int (s.1 28 (x1).toNatClampNeg)), some (.int (1 : Int32)), some (.int x3), some (.int x4), none, none]) (d' := d) rfl rfl rfl (Nat.le_of_ble_eq_true rfl) (by omega) rfl (Nat.le_of_ble_eq_true rfl) rfl rfl (hg155 x1 (s.1 28 (x1).toNatClampNeg) (1 : Int32) x3 x4 s _ _ hp6) ?_
  show zyR _ _ _ _ [some (.ref (27 + 3)), some (.int x1), some (.int x2), some (.int x3), some (.int x4), some (.int (s.1 28 (x1).toNatClampNeg))] [.int p6.1] _ _
  refine zy_0 rfl rfl (show zyR _ _ _ _ [some (.ref (27 + 3)), some (.int x1), some (.int x2), some (.int x3), some (.int x4), some (.int (s.1 28 (x1).toNatClampNeg))] [.ref (27 + 3), .int p6.1] _ _ from ?_)
  refine zy_2 rfl rfl (show zyR _ _ _ _ [some (.ref (27 + 3)), some (.int x1), some (.int x2), some (.int x3), some (.int x4), some (.int (s.1 28 (x1).toNatClampNeg))] [.int x1, .ref (27 + 3), .int p6.1] _ _ from ?_)
  refine zy_2 rfl rfl (show zyR _ _ _ _ [some (.ref (27 + 3)), some (.int x1), some (.int x2), some (.int x3), some (.int x4), some (.int (s.1 28 (x1).toNatClampNeg))] [.int (s.1 28 (x1).toNatClampNeg), .int x1, .ref (27 + 3), .int p6.1] _ _ from ?_)
  refine zy_3 rfl rfl (show zyR _ _ _ _ [some (.ref (27 + 3)), some (.int x1), some (.int x2), some (.int x3), some (.int x4), some (.int (s.1 28 (x1).toNatClampNeg))] [.int (2 : Int32), .int (s.1 28 (x1).toNatClampNeg), .int x1, .ref (27 + 3), .int p6.1] _ _ from ?_)
  refine zy_3 rfl rfl (show zyR _ _ _ _ [some (.ref (27 + 3)), some (.int x1), some (.int x2), some (.int x3), some (.int x4), some (.int (s.1 28 (x1).toNatClampNeg))] [.int (1 : Int32), .int (2 : Int32), .int (s.1 28 (x1).toNatClampNeg), .int x1, .ref (27 + 3), .int p6.1] _ _ from ?_)
  refine zy_2 rfl rfl (show zyR _ _ _ _ [some (.ref (27 + 3)), some (.int x1), some (.int x2), some (.int x3), some (.int x4), some (.int (s.1 28 (x1).toNatClampNeg))] [.int x4, .int (1 : Int32), .int (2 : Int32), .int (s.1 28 (x1).toNatClampNeg), .int x1, .ref (27 + 3), .int p6.1] _ _ from ?_)
  obtain ⟨p7, hp7, h⟩ := zy_bind h
  refine zy_5 (c := 27) (as := [.int x1, .int (s.1 28 (x1).toNatClampNeg), .int (2 : Int32), .int (1 : Int32), .int x4]) (rest := [.int p6.1]) (L := [some (.ref (27 + 3)), some (.int x1), some (.int (s.1 28 (x1).toNatClampNeg)), some (.int (2 : Int32)), some (.int (1 : Int32)), some (.int x4), none, none]) (d' := d) rfl rfl rfl (Nat.le_of_ble_eq_true rfl) (by omega) rfl (Nat.le_of_ble_eq_true rfl) rfl rfl (hg155 x1 (s.1 28 (x1).toNatClampNeg) (2 : Int32) (1 : Int32) x4 p6.2 _ _ hp7) ?_
  show zyR _ _ _ _ [some (.ref (27 + 3)), some (.int x1), some (.int x2), some (.int x3), some (.int x4), some (.int (s.1 28 (x1).toNatClampNeg))] [.int p7.1, .int p6.1] _ _
  refine zy_11 rfl (show zyR _ _ _ _ [some (.ref (27 + 3)), some (.int x1), some (.int x2), some (.int x3), some (.int x4), some (.int (s.1 28 (x1).toNatClampNeg))] [.int (p6.1 - p7.1)] _ _ from ?_)
  obtain ⟨rfl, rfl⟩ := zy_pi h
  exact zy_4 rfl ⟨rfl, rfl⟩
