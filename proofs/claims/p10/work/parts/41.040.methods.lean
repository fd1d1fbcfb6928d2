/-! PART 41.40: methods as functions. Made by wip/v4/dcp.py. -/
/-! NineOpinions.drawn(III)I -/
noncomputable def zyF129   (x1 : Int32) (x2 : Int32) (x3 : Int32) (s : zy_S) : Option (Int32 × zy_S) :=
if (x2 / (100 : Int32)) < (1 : Int32) then
some ((-1 : Int32), s)
else
if (30 : Int32) < (x2 / (100 : Int32)) then
some ((-1 : Int32), s)
else
if (x2 - x2 / (100 : Int32) * (100 : Int32)) < (1 : Int32) then
some ((-1 : Int32), s)
else
if (30 : Int32) < (x2 - x2 / (100 : Int32) * (100 : Int32)) then
some ((-1 : Int32), s)
else
if x3 < (-1 : Int32) then
some ((-1 : Int32), s)
else
if x3 < (24 : Int32) then
(zyF130 x1 (x2 / (100 : Int32)) (x2 - x2 / (100 : Int32) * (100 : Int32)) x3 s).bind fun p1 =>
some (p1.1, p1.2)
else
some ((-1 : Int32), s)
theorem zyC129 {X : zx_X}     {x1 : Int32} {x2 : Int32} {x3 : Int32} {s : zy_S} {r : Int32} {s' : zy_S}  (h : zyF129 x1 x2 x3 s = some (r, s')) : zyR X 8 129 0 [some (.ref (0 + 3)), some (.int x1), some (.int x2), some (.int x3), none, none] [] s (zyE (some (.int r)) s') := by
  unfold zyF129 at h
  refine zy_2 rfl rfl (show zyR _ _ _ _ [some (.ref (0 + 3)), some (.int x1), some (.int x2), some (.int x3), none, none] [.int x2] _ _ from ?_)
  refine zy_3 rfl rfl (show zyR _ _ _ _ [some (.ref (0 + 3)), some (.int x1), some (.int x2), some (.int x3), none, none] [.int (100 : Int32), .int x2] _ _ from ?_)
  refine zy_19 rfl (by decide) (show zyR _ _ _ _ [some (.ref (0 + 3)), some (.int x1), some (.int x2), some (.int x3), none, none] [.int (x2 / (100 : Int32))] _ _ from ?_)
  refine zy_23 rfl rfl (show zyR _ _ _ _ [some (.ref (0 + 3)), some (.int x1), some (.int x2), some (.int x3), some (.int (x2 / (100 : Int32))), none] [] _ _ from ?_)
  refine zy_2 rfl rfl (show zyR _ _ _ _ [some (.ref (0 + 3)), some (.int x1), some (.int x2), some (.int x3), some (.int (x2 / (100 : Int32))), none] [.int x2] _ _ from ?_)
  refine zy_3 rfl rfl (show zyR _ _ _ _ [some (.ref (0 + 3)), some (.int x1), some (.int x2), some (.int x3), some (.int (x2 / (100 : Int32))), none] [.int (100 : Int32), .int x2] _ _ from ?_)
  refine zy_20 rfl (by decide) (show zyR _ _ _ _ [some (.ref (0 + 3)), some (.int x1), some (.int x2), some (.int x3), some (.int (x2 / (100 : Int32))), none] [.int (x2 - x2 / (100 : Int32) * (100 : Int32))] _ _ from ?_)
  refine zy_23 rfl rfl (show zyR _ _ _ _ [some (.ref (0 + 3)), some (.int x1), some (.int x2), some (.int x3), some (.int (x2 / (100 : Int32))), some (.int (x2 - x2 / (100 : Int32) * (100 : Int32)))] [] _ _ from ?_)
  refine zy_2 rfl rfl (show zyR _ _ _ _ [some (.ref (0 + 3)), some (.int x1), some (.int x2), some (.int x3), some (.int (x2 / (100 : Int32))), some (.int (x2 - x2 / (100 : Int32) * (100 : Int32)))] [.int (x2 / (100 : Int32))] _ _ from ?_)
  refine zy_3 rfl rfl (show zyR _ _ _ _ [some (.ref (0 + 3)), some (.int x1), some (.int x2), some (.int x3), some (.int (x2 / (100 : Int32))), some (.int (x2 - x2 / (100 : Int32) * (100 : Int32)))] [.int (1 : Int32), .int (x2 / (100 : Int32))] _ _ from ?_)
  refine zy_25_2 rfl (fun b7 => (show zyR _ _ _ _ [some (.ref (0 + 3)), some (.int x1), some (.int x2), some (.int x3), some (.int (x2 / (100 : Int32))), some (.int (x2 - x2 / (100 : Int32) * (100 : Int32)))] [] _ _ from ?_)) (fun b7 => (show zyR _ _ _ _ [some (.ref (0 + 3)), some (.int x1), some (.int x2), some (.int x3), some (.int (x2 / (100 : Int32))), some (.int (x2 - x2 / (100 : Int32) * (100 : Int32)))] [] _ _ from ?_))
  · replace h := zy_ifp h b7
    refine zy_3 rfl rfl (show zyR _ _ _ _ [some (.ref (0 + 3)), some (.int x1), some (.int x2), some (.int x3), some (.int (x2 / (100 : Int32))), some (.int (x2 - x2 / (100 : Int32) * (100 : Int32)))] [.int (-1 : Int32)] _ _ from ?_)
    obtain ⟨rfl, rfl⟩ := zy_pi h
    exact zy_4 rfl ⟨rfl, rfl⟩
  · replace h := zy_ifn h b7
    refine zy_2 rfl rfl (show zyR _ _ _ _ [some (.ref (0 + 3)), some (.int x1), some (.int x2), some (.int x3), some (.int (x2 / (100 : Int32))), some (.int (x2 - x2 / (100 : Int32) * (100 : Int32)))] [.int (x2 / (100 : Int32))] _ _ from ?_)
    refine zy_3 rfl rfl (show zyR _ _ _ _ [some (.ref (0 + 3)), some (.int x1), some (.int x2), some (.int x3), some (.int (x2 / (100 : Int32))), some (.int (x2 - x2 / (100 : Int32) * (100 : Int32)))] [.int (30 : Int32), .int (x2 / (100 : Int32))] _ _ from ?_)
    refine zy_25_4 rfl (fun b6 => (show zyR _ _ _ _ [some (.ref (0 + 3)), some (.int x1), some (.int x2), some (.int x3), some (.int (x2 / (100 : Int32))), some (.int (x2 - x2 / (100 : Int32) * (100 : Int32)))] [] _ _ from ?_)) (fun b6 => (show zyR _ _ _ _ [some (.ref (0 + 3)), some (.int x1), some (.int x2), some (.int x3), some (.int (x2 / (100 : Int32))), some (.int (x2 - x2 / (100 : Int32) * (100 : Int32)))] [] _ _ from ?_))
    · replace h := zy_ifp h b6
      refine zy_3 rfl rfl (show zyR _ _ _ _ [some (.ref (0 + 3)), some (.int x1), some (.int x2), some (.int x3), some (.int (x2 / (100 : Int32))), some (.int (x2 - x2 / (100 : Int32) * (100 : Int32)))] [.int (-1 : Int32)] _ _ from ?_)
      obtain ⟨rfl, rfl⟩ := zy_pi h
      exact zy_4 rfl ⟨rfl, rfl⟩
    · replace h := zy_ifn h b6
      refine zy_2 rfl rfl (show zyR _ _ _ _ [some (.ref (0 + 3)), some (.int x1), some (.int x2), some (.int x3), some (.int (x2 / (100 : Int32))), some (.int (x2 - x2 / (100 : Int32) * (100 : Int32)))] [.int (x2 - x2 / (100 : Int32) * (100 : Int32))] _ _ from ?_)
      refine zy_3 rfl rfl (show zyR _ _ _ _ [some (.ref (0 + 3)), some (.int x1), some (.int x2), some (.int x3), some (.int (x2 / (100 : Int32))), some (.int (x2 - x2 / (100 : Int32) * (100 : Int32)))] [.int (1 : Int32), .int (x2 - x2 / (100 : Int32) * (100 : Int32))] _ _ from ?_)
      refine zy_25_2 rfl (fun b5 => (show zyR _ _ _ _ [some (.ref (0 + 3)), some (.int x1), some (.int x2), some (.int x3), some (.int (x2 / (100 : Int32))), some (.int (x2 - x2 / (100 : Int32) * (100 : Int32)))] [] _ _ from ?_)) (fun b5 => (show zyR _ _ _ _ [some (.ref (0 + 3)), some (.int x1), some (.int x2), some (.int x3), some (.int (x2 / (100 : Int32))), some (.int (x2 - x2 / (100 : Int32) * (100 : Int32)))] [] _ _ from ?_))
      · replace h := zy_ifp h b5
        refine zy_3 rfl rfl (show zyR _ _ _ _ [some (.ref (0 + 3)), some (.int x1), some (.int x2), some (.int x3), some (.int (x2 / (100 : Int32))), some (.int (x2 - x2 / (100 : Int32) * (100 : Int32)))] [.int (-1 : Int32)] _ _ from ?_)
        obtain ⟨rfl, rfl⟩ := zy_pi h
        exact zy_4 rfl ⟨rfl, rfl⟩
      · replace h := zy_ifn h b5
        refine zy_2 rfl rfl (show zyR _ _ _ _ [some (.ref (0 + 3)), some (.int x1), some (.int x2), some (.int x3), some (.int (x2 / (100 : Int32))), some (.int (x2 - x2 / (100 : Int32) * (100 : Int32)))] [.int (x2 - x2 / (100 : Int32) * (100 : Int32))] _ _ from ?_)
        refine zy_3 rfl rfl (show zyR _ _ _ _ [some (.ref (0 + 3)), some (.int x1), some (.int x2), some (.int x3), some (.int (x2 / (100 : Int32))), some (.int (x2 - x2 / (100 : Int32) * (100 : Int32)))] [.int (30 : Int32), .int (x2 - x2 / (100 : Int32) * (100 : Int32))] _ _ from ?_)
        refine zy_25_4 rfl (fun b4 => (show zyR _ _ _ _ [some (.ref (0 + 3)), some (.int x1), some (.int x2), some (.int x3), some (.int (x2 / (100 : Int32))), some (.int (x2 - x2 / (100 : Int32) * (100 : Int32)))] [] _ _ from ?_)) (fun b4 => (show zyR _ _ _ _ [some (.ref (0 + 3)), some (.int x1), some (.int x2), some (.int x3), some (.int (x2 / (100 : Int32))), some (.int (x2 - x2 / (100 : Int32) * (100 : Int32)))] [] _ _ from ?_))
        · replace h := zy_ifp h b4
          refine zy_3 rfl rfl (show zyR _ _ _ _ [some (.ref (0 + 3)), some (.int x1), some (.int x2), some (.int x3), some (.int (x2 / (100 : Int32))), some (.int (x2 - x2 / (100 : Int32) * (100 : Int32)))] [.int (-1 : Int32)] _ _ from ?_)
          obtain ⟨rfl, rfl⟩ := zy_pi h
          exact zy_4 rfl ⟨rfl, rfl⟩
        · replace h := zy_ifn h b4
          refine zy_2 rfl rfl (show zyR _ _ _ _ [some (.ref (0 + 3)), some (.int x1), some (.int x2), some (.int x3), some (.int (x2 / (100 : Int32))), some (.int (x2 - x2 / (100 : Int32) * (100 : Int32)))] [.int x3] _ _ from ?_)
          refine zy_3 rfl rfl (show zyR _ _ _ _ [some (.ref (0 + 3)), some (.int x1), some (.int x2), some (.int x3), some (.int (x2 / (100 : Int32))), some (.int (x2 - x2 / (100 : Int32) * (100 : Int32)))] [.int (-1 : Int32), .int x3] _ _ from ?_)
          refine zy_25_2 rfl (fun b3 => (show zyR _ _ _ _ [some (.ref (0 + 3)), some (.int x1), some (.int x2), some (.int x3), some (.int (x2 / (100 : Int32))), some (.int (x2 - x2 / (100 : Int32) * (100 : Int32)))] [] _ _ from ?_)) (fun b3 => (show zyR _ _ _ _ [some (.ref (0 + 3)), some (.int x1), some (.int x2), some (.int x3), some (.int (x2 / (100 : Int32))), some (.int (x2 - x2 / (100 : Int32) * (100 : Int32)))] [] _ _ from ?_))
          · replace h := zy_ifp h b3
            refine zy_3 rfl rfl (show zyR _ _ _ _ [some (.ref (0 + 3)), some (.int x1), some (.int x2), some (.int x3), some (.int (x2 / (100 : Int32))), some (.int (x2 - x2 / (100 : Int32) * (100 : Int32)))] [.int (-1 : Int32)] _ _ from ?_)
            obtain ⟨rfl, rfl⟩ := zy_pi h
            exact zy_4 rfl ⟨rfl, rfl⟩
          · replace h := zy_ifn h b3
            refine zy_2 rfl rfl (show zyR _ _ _ _ [some (.ref (0 + 3)), some (.int x1), some (.int x2), some (.int x3), some (.int (x2 / (100 : Int32))), some (.int (x2 - x2 / (100 : Int32) * (100 : Int32)))] [.int x3] _ _ from ?_)
            refine zy_3 rfl rfl (show zyR _ _ _ _ [some (.ref (0 + 3)), some (.int x1), some (.int x2), some (.int x3), some (.int (x2 / (100 : Int32))), some (.int (x2 - x2 / (100 : Int32) * (100 : Int32)))] [.int (24 : Int32), .int x3] _ _ from ?_)
            refine zy_25_2 rfl (fun b2 => (show zyR _ _ _ _ [some (.ref (0 + 3)), some (.int x1), some (.int x2), some (.int x3), some (.int (x2 / (100 : Int32))), some (.int (x2 - x2 / (100 : Int32) * (100 : Int32)))] [] _ _ from ?_)) (fun b2 => (show zyR _ _ _ _ [some (.ref (0 + 3)), some (.int x1), some (.int x2), some (.int x3), some (.int (x2 / (100 : Int32))), some (.int (x2 - x2 / (100 : Int32) * (100 : Int32)))] [] _ _ from ?_))
            · replace h := zy_ifp h b2
              refine zy_0 rfl rfl (show zyR _ _ _ _ [some (.ref (0 + 3)), some (.int x1), some (.int x2), some (.int x3), some (.int (x2 / (100 : Int32))), some (.int (x2 - x2 / (100 : Int32) * (100 : Int32)))] [.ref (0 + 3)] _ _ from ?_)
              refine zy_1r (c := 0) rfl rfl rfl (show zyR _ _ _ _ [some (.ref (0 + 3)), some (.int x1), some (.int x2), some (.int x3), some (.int (x2 / (100 : Int32))), some (.int (x2 - x2 / (100 : Int32) * (100 : Int32)))] [.ref (12 + 3)] _ _ from ?_)
              refine zy_2 rfl rfl (show zyR _ _ _ _ [some (.ref (0 + 3)), some (.int x1), some (.int x2), some (.int x3), some (.int (x2 / (100 : Int32))), some (.int (x2 - x2 / (100 : Int32) * (100 : Int32)))] [.int x1, .ref (12 + 3)] _ _ from ?_)
              refine zy_2 rfl rfl (show zyR _ _ _ _ [some (.ref (0 + 3)), some (.int x1), some (.int x2), some (.int x3), some (.int (x2 / (100 : Int32))), some (.int (x2 - x2 / (100 : Int32) * (100 : Int32)))] [.int (x2 / (100 : Int32)), .int x1, .ref (12 + 3)] _ _ from ?_)
              refine zy_2 rfl rfl (show zyR _ _ _ _ [some (.ref (0 + 3)), some (.int x1), some (.int x2), some (.int x3), some (.int (x2 / (100 : Int32))), some (.int (x2 - x2 / (100 : Int32) * (100 : Int32)))] [.int (x2 - x2 / (100 : Int32) * (100 : Int32)), .int (x2 / (100 : Int32)), .int x1, .ref (12 + 3)] _ _ from ?_)
              refine zy_2 rfl rfl (show zyR _ _ _ _ [some (.ref (0 + 3)), some (.int x1), some (.int x2), some (.int x3), some (.int (x2 / (100 : Int32))), some (.int (x2 - x2 / (100 : Int32) * (100 : Int32)))] [.int x3, .int (x2 - x2 / (100 : Int32) * (100 : Int32)), .int (x2 / (100 : Int32)), .int x1, .ref (12 + 3)] _ _ from ?_)
              obtain ⟨p1, hp1, h⟩ := zy_bind h
              refine zy_5 (c := 12) (as := [.int x1, .int (x2 / (100 : Int32)), .int (x2 - x2 / (100 : Int32) * (100 : Int32)), .int x3]) (rest := []) (L := [some (.ref (12 + 3)), some (.int x1), some (.int (x2 / (100 : Int32))), some (.int (x2 - x2 / (100 : Int32) * (100 : Int32))), some (.int x3), none, none, none, none, none, none, none, none]) (d' := 7) rfl rfl rfl (Nat.le_of_ble_eq_true rfl) (Nat.le_of_ble_eq_true rfl) rfl (Nat.le_of_ble_eq_true rfl) rfl rfl (zyC130 hp1) ?_
              show zyR _ _ _ _ [some (.ref (0 + 3)), some (.int x1), some (.int x2), some (.int x3), some (.int (x2 / (100 : Int32))), some (.int (x2 - x2 / (100 : Int32) * (100 : Int32)))] [.int p1.1] _ _
              obtain ⟨rfl, rfl⟩ := zy_pi h
              exact zy_4 rfl ⟨rfl, rfl⟩
            · replace h := zy_ifn h b2
              refine zy_3 rfl rfl (show zyR _ _ _ _ [some (.ref (0 + 3)), some (.int x1), some (.int x2), some (.int x3), some (.int (x2 / (100 : Int32))), some (.int (x2 - x2 / (100 : Int32) * (100 : Int32)))] [.int (-1 : Int32)] _ _ from ?_)
              obtain ⟨rfl, rfl⟩ := zy_pi h
              exact zy_4 rfl ⟨rfl, rfl⟩
