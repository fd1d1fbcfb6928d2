/-! PART 46.921: the class reads so. Made by wip/v6/gen_parse.py. -/
/-- s, but the reading stands at a, broken or not, and has made the steps C -/
def zcW (s : zy_S) (a : Nat) (br : Bool) (C : List Int32) : zy_S := zy_up (zy_up (zy_up (zy_ua s 11 (fun j => (C[j]?).getD (s.1 11 j))) 9 3 (Int32.ofNat C.length)) 9 4 (Int32.ofNat a)) 9 5 (zqb br)
theorem zxS {s t : zy_S} (h : ∀ a b, s.1 a b = t.1 a b) (h2 : s.2 = t.2) : s = t := Prod.ext (funext fun a => funext fun b => h a b) h2
theorem zcW_at {s : zy_S} {a x y : Nat} {br : Bool} {C : List Int32} : (zcW s a br C).1 x y = if x = 9 ∧ y = 5 then zqb br else if x = 9 ∧ y = 4 then Int32.ofNat a else if x = 9 ∧ y = 3 then Int32.ofNat C.length else if x = 11 then (C[y]?).getD (s.1 11 y) else s.1 x y := by
  unfold zcW
  rw [zy_up_at, zy_up_at, zy_up_at, zy_ua_at]
theorem zcW_4 {s : zy_S} {a b : Nat} {br : Bool} {C : List Int32} : zy_up (zcW s a br C) 9 4 (Int32.ofNat b) = zcW s b br C := by
  refine zxS (fun x y => ?_) rfl
  rw [zy_up_at, zcW_at, zcW_at]
  by_cases h4 : x = 9 ∧ y = 4
  · rw [if_pos h4, if_neg (by omega), if_pos h4]
  · rw [if_neg h4, if_neg h4, if_neg h4]
theorem zcW_5 {s : zy_S} {a : Nat} {br c : Bool} {C : List Int32} : zy_up (zcW s a br C) 9 5 (zqb c) = zcW s a c C := by
  refine zxS (fun x y => ?_) rfl
  rw [zy_up_at, zcW_at, zcW_at]
  by_cases h5 : x = 9 ∧ y = 5
  · rw [if_pos h5, if_pos h5]
  · rw [if_neg h5, if_neg h5, if_neg h5]
theorem zcW_m {s : zy_S} {a : Nat} {br : Bool} {C : List Int32} (v : Int32) (hL : C.length < 128) : zy_up (zy_up (zcW s a br C) 11 (Int32.ofNat C.length).toNatClampNeg v) 9 3 (Int32.ofNat C.length + 1) = zcW s a br (C ++ [v]) := by
  refine zxS (fun x y => ?_) rfl
  rw [zy_up_at, zy_up_at, zcW_at, zcW_at, zN_ix (by omega), zN_succ (by omega)]
  by_cases h3 : x = 9 ∧ y = 3
  · rw [if_pos h3, if_neg (by omega), if_neg (by omega), if_pos h3, List.length_append, List.length_singleton]
  rw [if_neg h3]
  by_cases hc : x = 11 ∧ y = C.length
  · rw [if_pos hc, if_neg (by omega), if_neg (by omega), if_neg (by omega), if_pos hc.1, hc.2, List.getElem?_append_right (Nat.le_refl _), Nat.sub_self]
    try rfl
  rw [if_neg hc]
  by_cases h5 : x = 9 ∧ y = 5
  · rw [if_pos h5, if_pos h5]
  rw [if_neg h5, if_neg h5]
  by_cases h4 : x = 9 ∧ y = 4
  · rw [if_pos h4, if_pos h4]
  rw [if_neg h4, if_neg h4, if_neg h3, if_neg h3]
  by_cases h11 : x = 11
  · rw [if_pos h11, if_pos h11]
    have hb : y ≠ C.length := fun e => hc ⟨h11, e⟩
    rcases Nat.lt_or_ge y C.length with k | k
    · rw [List.getElem?_append_left k]
    · rw [List.getElem?_eq_none k, List.getElem?_eq_none (by rw [List.length_append, List.length_singleton]; omega)]
  · rw [if_neg h11, if_neg h11]
section ZC
variable {s : zy_S} {n a : Nat} {br : Bool} {C : List Int32}
theorem zys41 (hn : s.1 9 2 = Int32.ofNat n) (h120 : n ≤ 120) (ha : a ≤ n) : zyF41 (zcW s a br C) = some (zpN (s.1 10) n a, zcW s a br C) := by
  have e2 : (zcW s a br C).1 9 2 = Int32.ofNat n := hn
  have e4 : (zcW s a br C).1 9 4 = Int32.ofNat a := rfl
  unfold zyF41 zpN
  rw [e2, e4]
  by_cases h : a < n
  · rw [if_neg (by rw [Int32.le_iff_toInt_le, zN_toInt (by omega), zN_toInt (by omega)]; omega), if_pos (zq_in.mpr (by rw [zN_toInt (by omega)]; omega)), zN_ix (by omega), if_pos h]
    try rfl
  · rw [if_pos (by rw [Int32.le_iff_toInt_le, zN_toInt (by omega), zN_toInt (by omega)]; omega), if_neg h]
theorem zys46 (hn : s.1 9 2 = Int32.ofNat n) (h120 : n ≤ 120) (ha : a ≤ n) (x : Int32) : zyF46 x (zcW s a br C) = if br = false ∧ zpN (s.1 10) n a = x then some (1, zcW s (a + 1) br C) else some (0, zcW s a br C) := by
  have e5 : (zcW s a br C).1 9 5 = zqb br := rfl
  have e4 : (zcW s a br C).1 9 4 = Int32.ofNat a := rfl
  have no : zyF46_19 (zcW s a br C) = some (0, zcW s a br C) := by
    unfold zyF46_19 zyF46_20 zyF46_35
    rw [if_pos rfl, if_pos (Or.inl rfl), e4, Int32.add_zero, zcW_4]
  unfold zyF46
  rw [e5]
  cases br with
  | true => rw [if_pos (by decide), no, if_neg (fun q => by cases q.1)]
  | false =>
    rw [if_neg (by decide), zys41 hn h120 ha, zq_bind]
    try dsimp only
    by_cases h : zpN (s.1 10) n a = x
    · rw [if_neg (not_not_intro h), if_pos ⟨rfl, h⟩]
      unfold zyF46_20 zyF46_35
      rw [if_neg (by decide), if_pos (Or.inr rfl), e4, zN_succ (by omega), zcW_4]
    · rw [if_pos h, if_neg (fun q => h q.2)]
      exact no
theorem zys44 (v : Int32) (hL : C.length < 128) : zyF44 v (zcW s a br C) = some (0, zcW s a br (C ++ [v])) := by
  have e3 : (zcW s a br C).1 9 3 = Int32.ofNat C.length := rfl
  unfold zyF44
  rw [e3, if_neg (by rw [Int32.le_iff_toInt_le, zN_toInt (by omega), show (128 : Int32).toInt = 128 from rfl]; omega), if_pos (zq_in.mpr (by rw [zN_toInt (by omega)]; omega)), zcW_m v hL]
theorem zys42 (x : Int32) (s : zy_S) : zyF42 x s = some (zqb (zpDig x), s) := by
  unfold zyF42 zpDig
  by_cases h : 48 ≤ x.toInt ∧ x.toInt ≤ 57
  · rw [if_neg (by rw [Int32.lt_iff_toInt_lt, show (48 : Int32).toInt = 48 from rfl]; omega), if_neg (by rw [Int32.lt_iff_toInt_lt, show (57 : Int32).toInt = 57 from rfl]; omega), decide_eq_true h]
    try rfl
  · rw [decide_eq_false h]
    by_cases h2 : x.toInt < 48
    · rw [if_pos (by rw [Int32.lt_iff_toInt_lt]; exact h2)]
      try rfl
    · rw [if_neg (by rw [Int32.lt_iff_toInt_lt]; exact h2), if_pos (by rw [Int32.lt_iff_toInt_lt, show (57 : Int32).toInt = 57 from rfl]; omega)]
      try rfl
theorem zl_43 (hn : s.1 9 2 = Int32.ofNat n) (h120 : n ≤ 120) (hL : C.length < 128) : ∀ (k m a : Nat) (v i : Int32), a ≤ n → k < m → 0 ≤ i.toInt → i.toInt + (k : Int) = 4 → zyF43_4 m v i (zcW s a br C) = some (0, zcW s (zpNum (zpN (s.1 10) n) k a v).1 br (C ++ [(zpNum (zpN (s.1 10) n) k a v).2]))
  | k, 0, a, v, i, ha, hm, i0, hi => by omega
  | 0, m + 1, a, v, i, ha, hm, i0, hi => by
    show zyF43_4b (zyF43_4 m) v i (zcW s a br C) = _
    unfold zyF43_4b zyF43_48
    rw [if_pos (by rw [Int32.le_iff_toInt_le, zq_l4]; omega), zys44 v hL]
    try rfl
  | k + 1, m + 1, a, v, i, ha, hm, i0, hi => by
    show zyF43_4b (zyF43_4 m) v i (zcW s a br C) = _
    unfold zyF43_4b
    rw [zpNum_s]
    rw [if_neg (by rw [Int32.le_iff_toInt_le, zq_l4]; omega), zys41 hn h120 ha, zq_bind]
    try dsimp only
    rw [zys42, zq_bind]
    try dsimp only
    by_cases h : zpDig (zpN (s.1 10) n a) = true
    · obtain ⟨d0, d1⟩ := of_decide_eq_true h
      have han : a < n := zpN_lt (b := s.1 10) (by omega)
      rw [if_pos h, h, if_neg (by decide), zys41 hn h120 ha, zq_bind]
      try dsimp only
      rw [show (zcW s a br C).1 9 4 = Int32.ofNat a from rfl, zN_succ (by omega), zcW_4]
      exact zl_43 hn h120 hL k m (a + 1) _ (i + 1) (by omega) (by omega) (by rw [zq_add (by rw [zq_l1]; omega) (by rw [zq_l1]; omega), zq_l1]; omega) (by rw [zq_add (by rw [zq_l1]; omega) (by rw [zq_l1]; omega), zq_l1]; omega)
    · rw [if_neg h, if_pos (by rw [Bool.not_eq_true] at h; rw [h]; rfl)]
      unfold zyF43_48
      rw [zys44 v hL]
      try rfl
theorem zys43 (hn : s.1 9 2 = Int32.ofNat n) (h120 : n ≤ 120) (hL : C.length < 128) (ha : a ≤ n) : zyF43 (zcW s a br C) = some (0, zcW s (zpNum (zpN (s.1 10) n) 4 a 0).1 br (C ++ [(zpNum (zpN (s.1 10) n) 4 a 0).2])) := by
  unfold zyF43
  exact zl_43 hn h120 hL 4 zy_fu a 0 0 ha (by unfold zy_fu; omega) (by decide) (by decide)
end ZC
section ZD
variable {s : zy_S} {n : Nat}
theorem zl_39 {g39 : Int32 → Int32 → zy_S → Option (Int32 × zy_S)} {g40 : Int32 → zy_S → Option (Int32 × zy_S)} {x1 x2 most : Int32} {lev : Nat} {sub : Nat → Nat × Bool × List Int32} {C0 : List Int32} {a0 : Nat} (hn : s.1 9 2 = Int32.ofNat n) (h120 : n ≤ 120) (hg : zpG n (zpN (s.1 10) n)) (hx : x1.toInt = (lev : Int)) (hl : lev < 5) (hC : C0.length + (n - a0) ≤ 127) (hm : 0 ≤ most.toInt ∧ most.toInt ≤ 120)
    (hs : ∀ (b : Nat) (C : List Int32) (x : Int32), b ≤ n → C.length + (n - b) ≤ 127 → x.toInt = (lev : Int) + 1 → g39 x x2 (zcW s b false C) = some (0, zcW s (sub b).1 (sub b).2.1 (C ++ (sub b).2.2))) (hok : ∀ b, b ≤ n → zpOk n b (sub b)) :
    ∀ (k m : Nat) (i : Int32) (r : Nat × Bool × List Int32), 0 ≤ i.toInt → i.toInt + (k : Int) = most.toInt → k < m → zpOk n a0 r → zyF39_34 g39 g40 m x1 x2 most i (zcW s r.1 r.2.1 (C0 ++ r.2.2)) = some (0, zcW s (zpL sub (zpN (s.1 10) n) lev k r).1 (zpL sub (zpN (s.1 10) n) lev k r).2.1 (C0 ++ (zpL sub (zpN (s.1 10) n) lev k r).2.2))
  | k, 0, i, r, i0, hi, hk, h => by omega
  | 0, m + 1, i, r, i0, hi, hk, h => by
    show zyF39_34b g39 g40 (zyF39_34 g39 g40 m) x1 x2 most i _ = _
    unfold zyF39_34b
    rw [if_pos (by rw [Int32.le_iff_toInt_le]; omega)]
    try rfl
  | k + 1, m + 1, i, r, i0, hi, hk, h => by
    obtain ⟨h1, h2, h3, h4, h5⟩ := id h
    show zyF39_34b g39 g40 (zyF39_34 g39 g40 m) x1 x2 most i _ = _
    unfold zyF39_34b
    rw [zpL_s]
    rw [if_neg (by rw [Int32.le_iff_toInt_le]; omega), show (zcW s r.1 r.2.1 (C0 ++ r.2.2)).1 9 5 = zqb r.2.1 from rfl]
    by_cases hb : r.2.1 = true
    · rw [hb, if_pos (by decide), if_neg (fun q => by cases q.1)]
      rw [hb]
    have hb : r.2.1 = false := by simpa using hb
    rw [if_neg (by rw [hb]; decide), zys41 hn h120 h2, zq_bind]
    try dsimp only
    rw [zys47, zq_bind]
    try dsimp only
    by_cases hc : (zlv (zpN (s.1 10) n r.1)).toInt = (lev : Int)
    · have hz := zlvC (zpN (s.1 10) n r.1)
      have hr : r.1 < n := zpN_lt (b := s.1 10) (by omega)
      obtain ⟨q1, q2, q3, q4, q5⟩ := hok (r.1 + 1) hr
      have el : (C0 ++ r.2.2).length = C0.length + r.2.2.length := List.length_append
      have ex : (x1 + 1).toInt = (lev : Int) + 1 := by rw [zq_add (by rw [zq_l1]; omega) (by rw [zq_l1]; omega), zq_l1, hx]
      rw [if_neg (not_not_intro (zq_ext (by rw [hc, hx]))), if_pos ⟨hb, hc⟩, zys41 hn h120 h2, zq_bind]
      try dsimp only
      rw [show (zcW s r.1 r.2.1 (C0 ++ r.2.2)).1 9 4 = Int32.ofNat r.1 from rfl, zN_succ (by omega), zcW_4, hb, hs (r.1 + 1) (C0 ++ r.2.2) (x1 + 1) hr (by omega) ex, zq_bind]
      try dsimp only
      rw [zys44 _ (by rw [List.length_append]; omega), zq_bind]
      try dsimp only
      rw [List.append_assoc, List.append_assoc]
      have hok2 : zpOk n a0 ((sub (r.1 + 1)).1, (sub (r.1 + 1)).2.1, r.2.2 ++ ((sub (r.1 + 1)).2.2 ++ [-(zpN (s.1 10) n r.1)])) := by
        have := zpL_ok (sub := sub) (lev := lev) hg hok 1 r h
        rw [show (1 : Nat) = 0 + 1 from rfl, zpL_s, if_pos ⟨hb, hc⟩, zpL_0] at this
        exact this
      exact zl_39 hn h120 hg hx hl hC hm hs hok k m (i + 1) ((sub (r.1 + 1)).1, (sub (r.1 + 1)).2.1, r.2.2 ++ ((sub (r.1 + 1)).2.2 ++ [-(zpN (s.1 10) n r.1)])) (by rw [zq_add (by rw [zq_l1]; omega) (by rw [zq_l1]; omega), zq_l1]; omega) (by rw [zq_add (by rw [zq_l1]; omega) (by rw [zq_l1]; omega), zq_l1]; omega) (by omega) hok2
    · rw [if_pos (fun q => hc (by rw [q, hx])), if_neg (fun q => hc q.2)]
theorem zcS (hn : s.1 9 2 = Int32.ofNat n) (h120 : n ≤ 120) (hg : zpG n (zpN (s.1 10) n)) : ∀ f : Nat,
    (∀ (o a N : Nat) (x : Int32) (C : List Int32), x.toInt = (o : Int) → o ≤ 6 → a ≤ n → 7 * (6 - o) < f → 2 * f ≤ N + 1 → C.length + (n - a) ≤ 127 → (zyG39 N).2 x (zcW s a false C) = some (0, zcW s (zpS (zpN (s.1 10) n) f 5 o a).1 (zpS (zpN (s.1 10) n) f 5 o a).2.1 (C ++ (zpS (zpN (s.1 10) n) f 5 o a).2.2))) ∧
    (∀ (lev o a N : Nat) (x1 x : Int32) (C : List Int32), x1.toInt = (lev : Int) → lev ≤ 5 → x.toInt = (o : Int) → o ≤ 6 → a ≤ n → 7 * (6 - o) + (5 - lev) < f → 2 * f ≤ N → C.length + (n - a) ≤ 127 → (zyG39 N).1 x1 x (zcW s a false C) = some (0, zcW s (zpS (zpN (s.1 10) n) f lev o a).1 (zpS (zpN (s.1 10) n) f lev o a).2.1 (C ++ (zpS (zpN (s.1 10) n) f lev o a).2.2)))
  | 0 => ⟨fun o a N x C hx ho ha h => by omega, fun lev o a N x1 x C h1 h2 hx ho ha h => by omega⟩
  | f + 1 => by
    obtain ⟨i1, i2⟩ := zcS hn h120 hg f
    have key : ∀ (o a N : Nat) (x : Int32) (C : List Int32), x.toInt = (o : Int) → o ≤ 6 → a ≤ n → 7 * (6 - o) < f + 1 → 2 * (f + 1) ≤ N + 1 → C.length + (n - a) ≤ 127 → (zyG39 N).2 x (zcW s a false C) = some (0, zcW s (zpS (zpN (s.1 10) n) (f + 1) 5 o a).1 (zpS (zpN (s.1 10) n) (f + 1) 5 o a).2.1 (C ++ (zpS (zpN (s.1 10) n) (f + 1) 5 o a).2.2)) := by
      intro o a N x C hx ho ha hf hN hC
      obtain ⟨N, rfl⟩ : ∃ M, N = M + 1 := ⟨N - 1, by omega⟩
      have e10000 : (10000 : Int32).toInt = 10000 := rfl
      rw [zyS40]
      unfold zyF40_0
      rw [zpS_s]
      rw [if_neg (by decide), zys41 hn h120 ha, zq_bind]
      try dsimp only
      rw [zys42, zq_bind]
      try dsimp only
      by_cases hd : zpDig (zpN (s.1 10) n a) = true
      · rw [if_pos hd, hd, if_neg (by decide), zys43 hn h120 (by omega) ha, zq_bind]
      rw [if_neg hd, if_pos (by rw [Bool.not_eq_true] at hd; rw [hd]; rfl), zys45, zq_bind]
      try dsimp only
      have hm := znmC (zpN (s.1 10) n a)
      by_cases hnm : 0 ≤ (znm (zpN (s.1 10) n a)).toInt
      · have han : a < n := zpN_lt (b := s.1 10) (by omega)
        rw [if_pos hnm, if_neg (by rw [Int32.lt_iff_toInt_lt, zq_l0]; omega), show (zcW s a false C).1 9 4 = Int32.ofNat a from rfl, zN_succ (by omega), zcW_4, zys45, zq_bind]
        try dsimp only
        rw [zys44 _ (by omega), zq_bind]
      rw [if_neg hnm, if_pos (by rw [Int32.lt_iff_toInt_lt, zq_l0]; omega)]
      have brk : zyF40_157 (zyG39 N).1 (zyG39 N).2 (zcW s a false C) = some (0, zcW s a true (C ++ [])) := by
        unfold zyF40_157
        rw [show (1 : Int32) = zqb true from rfl, zcW_5, List.append_nil]
      by_cases ho6 : o < 6
      · have n6 : ¬ (6 : Int32) ≤ x := by
          rw [Int32.le_iff_toInt_le, zq_l6]
          omega
        have ex : (x + 1).toInt = ((o + 1 : Nat) : Int) := by rw [zq_add (by rw [zq_l1]; omega) (by rw [zq_l1]; omega), zq_l1, hx]; omega
        have l40 : (40 : Int32).toInt = 40 := rfl
        have l33 : (33 : Int32).toInt = 33 := rfl
        have l45 : (45 : Int32).toInt = 45 := rfl
        rw [if_neg n6, zys46 hn h120 ha]
        by_cases h40 : (zpN (s.1 10) n a).toInt = 40
        · have han : a < n := zpN_lt (b := s.1 10) (by omega)
          obtain ⟨q1, q2, q3, q4, q5⟩ := zpS_ok hg f 0 (o + 1) (a + 1) han
          rw [if_pos ⟨rfl, zq_ext h40⟩, zq_bind, if_pos (show o < 6 ∧ (zpN (s.1 10) n a).toInt = 40 from ⟨ho6, h40⟩)]
          try dsimp only
          rw [if_neg (by decide), i2 0 (o + 1) (a + 1) N 0 (x + 1) C rfl (by omega) ex (by omega) han (by omega) (by omega) (by omega), zq_bind]
          try dsimp only
          rw [zys46 hn h120 q2]
          by_cases hc : (zpS (zpN (s.1 10) n) f 0 (o + 1) (a + 1)).2.1 = false ∧ (zpN (s.1 10) n (zpS (zpN (s.1 10) n) f 0 (o + 1) (a + 1)).1).toInt = 41
          · rw [if_pos hc, if_pos ⟨hc.1, zq_ext hc.2⟩, zq_bind]
            try dsimp only
            rw [if_pos (by decide)]
            unfold zyF40_89
            rw [if_pos (Or.inl rfl), show (0 : Int32) = zqb false from rfl, zcW_5]
          · rw [if_neg hc, if_neg (fun q => hc ⟨q.1, by rw [q.2]; rfl⟩), zq_bind]
            try dsimp only
            rw [if_neg (by decide)]
            unfold zyF40_89
            rw [if_pos (Or.inr rfl), show (1 : Int32) = zqb true from rfl, zcW_5]
            try rfl
        rw [if_neg (fun q => h40 (by rw [q.2]; rfl)), zq_bind, if_neg (show ¬ (o < 6 ∧ (zpN (s.1 10) n a).toInt = 40) from fun q => h40 q.2)]
        try dsimp only
        rw [if_pos rfl]
        unfold zyF40_95
        rw [if_neg n6, zys46 hn h120 ha]
        by_cases h33 : (zpN (s.1 10) n a).toInt = 33
        · have han : a < n := zpN_lt (b := s.1 10) (by omega)
          obtain ⟨q1, q2, q3, q4, q5⟩ := zpS_ok hg f 5 (o + 1) (a + 1) han
          rw [if_pos ⟨rfl, zq_ext h33⟩, zq_bind, if_pos (show o < 6 ∧ (zpN (s.1 10) n a).toInt = 33 from ⟨ho6, h33⟩)]
          try dsimp only
          rw [if_neg (by decide), i1 (o + 1) (a + 1) N (x + 1) C ex (by omega) han (by omega) (by omega) (by omega), zq_bind]
          try dsimp only
          rw [zys44 _ (by rw [List.length_append]; omega), zq_bind, List.append_assoc]
        rw [if_neg (fun q => h33 (by rw [q.2]; rfl)), zq_bind, if_neg (show ¬ (o < 6 ∧ (zpN (s.1 10) n a).toInt = 33) from fun q => h33 q.2)]
        try dsimp only
        rw [if_pos rfl]
        unfold zyF40_126
        rw [if_neg n6, zys46 hn h120 ha]
        by_cases h45 : (zpN (s.1 10) n a).toInt = 45
        · have han : a < n := zpN_lt (b := s.1 10) (by omega)
          obtain ⟨q1, q2, q3, q4, q5⟩ := zpS_ok hg f 5 (o + 1) (a + 1) han
          rw [if_pos ⟨rfl, zq_ext h45⟩, zq_bind, if_pos (show o < 6 ∧ (zpN (s.1 10) n a).toInt = 45 from ⟨ho6, h45⟩)]
          try dsimp only
          rw [if_neg (by decide), i1 (o + 1) (a + 1) N (x + 1) C ex (by omega) han (by omega) (by omega) (by omega), zq_bind]
          try dsimp only
          rw [zys44 _ (by rw [List.length_append]; omega), zq_bind, List.append_assoc]
        rw [if_neg (fun q => h45 (by rw [q.2]; rfl)), zq_bind, if_neg (show ¬ (o < 6 ∧ (zpN (s.1 10) n a).toInt = 45) from fun q => h45 q.2)]
        try dsimp only
        rw [if_pos rfl]
        exact brk
      · have y6 : (6 : Int32) ≤ x := by
          rw [Int32.le_iff_toInt_le, zq_l6]
          omega
        rw [if_pos y6, if_neg (fun q => ho6 q.1), if_neg (fun q => ho6 q.1), if_neg (fun q => ho6 q.1)]
        unfold zyF40_95 zyF40_126
        rw [if_pos y6, if_pos y6]
        exact brk
    refine ⟨key, ?_⟩
    intro lev o a N x1 x C h1 hl hx ho ha hf hN hC
    obtain ⟨N, rfl⟩ : ∃ M, N = M + 1 := ⟨N - 1, by omega⟩
    rw [zyS39]
    by_cases h5 : lev = 5
    · unfold zyF39_0
      rw [if_neg (by rw [Int32.lt_iff_toInt_lt, show (5 : Int32).toInt = 5 from rfl]; omega), key o a N x C hx ho ha (by omega) (by omega) hC, zq_bind, h5]
    have ex : (x1 + 1).toInt = ((lev + 1 : Nat) : Int) := by rw [zq_add (by rw [zq_l1]; omega) (by rw [zq_l1]; omega), zq_l1, h1]; omega
    have hok : ∀ b, b ≤ n → zpOk n b (zpS (zpN (s.1 10) n) f (lev + 1) o b) := fun b hb => zpS_ok hg f (lev + 1) o b hb
    have sub : ∀ (b : Nat) (C : List Int32) (y : Int32), b ≤ n → C.length + (n - b) ≤ 127 → y.toInt = (lev : Int) + 1 → (zyG39 N).1 y x (zcW s b false C) = some (0, zcW s (zpS (zpN (s.1 10) n) f (lev + 1) o b).1 (zpS (zpN (s.1 10) n) f (lev + 1) o b).2.1 (C ++ (zpS (zpN (s.1 10) n) f (lev + 1) o b).2.2)) := fun b C y hb hC hy => i2 (lev + 1) o b N y x C (by rw [hy]; omega) (by omega) hx ho hb (by omega) (by omega) hC
    have l5 : (5 : Int32).toInt = 5 := rfl
    have l2 : (2 : Int32).toInt = 2 := rfl
    unfold zyF39_0
    rw [zpS_s]
    rw [if_pos (by rw [Int32.lt_iff_toInt_lt, l5]; omega), sub a C (x1 + 1) ha hC (by rw [ex]; omega), zq_bind, if_pos (show lev < 5 by omega)]
    try dsimp only
    by_cases h2 : lev = 2
    · rw [if_neg (not_not_intro (zq_ext (by rw [h1, h2]; rfl))), if_pos h2]
      unfold zyF39_30
      exact zl_39 hn h120 hg h1 (by omega) hC (most := 1) ⟨by decide, by decide⟩ sub hok 1 zy_fu 0 _ (by decide) (by decide) (by unfold zy_fu; omega) (hok a ha)
    · rw [if_pos (fun q => h2 (by rw [q] at h1; omega)), if_neg h2]
      unfold zyF39_30
      exact zl_39 hn h120 hg h1 (by omega) hC (most := 120) ⟨by decide, by decide⟩ sub hok 120 zy_fu 0 _ (by decide) (by decide) (by unfold zy_fu; omega) (hok a ha)
theorem zys39 (hn : s.1 9 2 = Int32.ofNat n) (h120 : n ≤ 120) (hg : zpG n (zpN (s.1 10) n)) {a : Nat} {C : List Int32} (ha : a ≤ n) (hC : C.length + (n - a) ≤ 127) : zyF39 0 0 (zcW s a false C) = some (0, zcW s (zpS (zpN (s.1 10) n) 50 0 0 a).1 (zpS (zpN (s.1 10) n) 50 0 0 a).2.1 (C ++ (zpS (zpN (s.1 10) n) 50 0 0 a).2.2)) := by
  unfold zyF39
  exact (zcS hn h120 hg 50).2 0 0 a 100 0 0 C rfl (by omega) rfl (by omega) ha (by omega) (by omega) hC
theorem zys38 (hn : s.1 9 2 = Int32.ofNat n) (h120 : n ≤ 120) (hg : zpG n (zpN (s.1 10) n)) {a : Nat} {C : List Int32} (ha : a ≤ n) (hC : C.length ≤ a) : zyF38 (zcW s a false C) = some (0, zcW s (zpLine (zpN (s.1 10) n) a).1 (zpLine (zpN (s.1 10) n) a).2.1 (C ++ (zpLine (zpN (s.1 10) n) a).2.2)) := by
  obtain ⟨q1, q2, q3, q4, q5⟩ := zpS_ok hg 50 0 0 a ha
  unfold zyF38 zpLine
  rw [zys39 hn h120 hg ha (by omega), zq_bind]
  try dsimp only
  rw [zys46 hn h120 q2]
  by_cases hc : (zpS (zpN (s.1 10) n) 50 0 0 a).2.1 = false ∧ (zpN (s.1 10) n (zpS (zpN (s.1 10) n) 50 0 0 a).1).toInt = 63
  · have hlt : (zpS (zpN (s.1 10) n) 50 0 0 a).1 < n := zpN_lt (b := s.1 10) (by omega)
    obtain ⟨r1, r2, r3, r4, r5⟩ := zpS_ok hg 50 0 0 ((zpS (zpN (s.1 10) n) 50 0 0 a).1 + 1) hlt
    rw [if_pos hc, if_pos ⟨hc.1, zq_ext hc.2⟩, zq_bind]
    try dsimp only
    rw [if_neg (by decide), zys44 _ (by rw [List.length_append]; omega), zq_bind]
    try dsimp only
    rw [hc.1, zys39 hn h120 hg (a := (zpS (zpN (s.1 10) n) 50 0 0 a).1 + 1) hlt (by rw [List.length_append, List.length_append, List.length_singleton]; omega), zq_bind]
    try dsimp only
    unfold zyF38_27
    rw [zys44 _ (by rw [List.length_append, List.length_append, List.length_append, List.length_singleton]; omega), zq_bind]
    simp only [List.append_assoc]
  · rw [if_neg hc, if_neg (fun q => hc ⟨q.1, by rw [q.2]; rfl⟩), zq_bind]
    try dsimp only
    rw [if_pos rfl]
    unfold zyF38_27
    rw [zys44 _ (by rw [List.length_append]; omega), zq_bind, List.append_assoc]
/-- where a reading is at fault; -1: nowhere -/
theorem zpF_t {n a : Nat} {br : Bool} {l : List Int32} : zpF n (a, br, l) = zpf n a br := rfl
theorem zpF_x {n : Nat} {q : Nat × Bool × List Int32} {l : List Int32} : zpF n q = zpF n (q.1, q.2.1, l) := rfl
theorem zpT_F {n : Nat} {g : Nat → Int32} : zpF n (zpT g) = zpF n (zpU g 120 (zpLine g 0).1 (zpLine g 0).2.1) := by
  unfold zpT
  exact zpF_x.symm
theorem zl_37 (hn : s.1 9 2 = Int32.ofNat n) (h120 : n ≤ 120) (hg : zpG n (zpN (s.1 10) n)) : ∀ (k m b : Nat) (br : Bool) (C : List Int32) (i : Int32), b ≤ n → C.length ≤ b + 1 → 0 ≤ i.toInt → i.toInt + (k : Int) = 120 → k < m → zyF37_21 m i (zcW s b br C) = some (zpF n (zpU (zpN (s.1 10) n) k b br), zcW s (zpU (zpN (s.1 10) n) k b br).1 (zpU (zpN (s.1 10) n) k b br).2.1 (C ++ (zpU (zpN (s.1 10) n) k b br).2.2))
  | k, 0, b, br, C, i, hb, hC, i0, hi, hm => by omega
  | k, m + 1, b, br, C, i, hb, hC, i0, hi, hm => by
    have fin : zyF37_46 (zcW s b br C) = some (zpF n (b, br, []), zcW s b br (C ++ [])) := by
      unfold zyF37_46
      rw [zpF_t]
      unfold zpf
      rw [show (zcW s b br C).1 9 5 = zqb br from rfl, show (zcW s b br C).1 9 2 = Int32.ofNat n from hn, show (zcW s b br C).1 9 4 = Int32.ofNat b from rfl, List.append_nil]
      cases br with
      | true => rw [if_pos (by decide), if_pos (Or.inl rfl)]
      | false =>
        rw [if_neg (by decide)]
        by_cases hlt : b < n
        · rw [if_neg (by rw [Int32.le_iff_toInt_le, zN_toInt (by omega), zN_toInt (by omega)]; omega), if_pos (Or.inr hlt)]
        · rw [if_pos (by rw [Int32.le_iff_toInt_le, zN_toInt (by omega), zN_toInt (by omega)]; omega), if_neg (fun q => by
            rcases q with q | q
            · exact absurd (show false = true from q) (by decide)
            · exact hlt q)]
    have l120 : (120 : Int32).toInt = 120 := rfl
    show zyF37_21b (zyF37_21 m) i (zcW s b br C) = _
    unfold zyF37_21b
    cases k with
    | zero =>
      rw [if_pos (by rw [Int32.le_iff_toInt_le, l120]; omega), fin]
      try rfl
    | succ k =>
      rw [if_neg (by rw [Int32.le_iff_toInt_le, l120]; omega), zys46 hn h120 hb]
      rw [zpU_s]
      by_cases hc : br = false ∧ (zpN (s.1 10) n b).toInt = 59
      · have hlt : b < n := zpN_lt (b := s.1 10) (by omega)
        obtain ⟨q1, q2, q3, q4, q5⟩ := zpLine_ok hg (a := b + 1) hlt
        rw [if_pos hc, if_pos ⟨hc.1, zq_ext hc.2⟩, zq_bind]
        try dsimp only
        rw [if_neg (by decide), hc.1, zys38 hn h120 hg (a := b + 1) hlt hC, zq_bind]
        try dsimp only
        rw [zl_37 hn h120 hg k m _ _ _ (i + 1) q2 (by rw [List.length_append]; omega) (by rw [zq_add (by rw [zq_l1]; omega) (by rw [zq_l1]; omega), zq_l1]; omega) (by rw [zq_add (by rw [zq_l1]; omega) (by rw [zq_l1]; omega), zq_l1]; omega) (by omega), List.append_assoc, ← zpF_x]
        try rfl
      · rw [if_neg hc, if_neg (fun q => hc ⟨q.1, by rw [q.2]; rfl⟩), zq_bind]
        try dsimp only
        rw [if_pos rfl]
        exact fin
theorem zys37 (hn : s.1 9 2 = Int32.ofNat n) (h120 : n ≤ 120) (hg : zpG n (zpN (s.1 10) n)) : zyF37 s = some (zpF n (zpT (zpN (s.1 10) n)), zcW s (zpT (zpN (s.1 10) n)).1 (zpT (zpN (s.1 10) n)).2.1 (zpT (zpN (s.1 10) n)).2.2) := by
  obtain ⟨q1, q2, q3, q4, q5⟩ := zpLine_ok hg (a := 0) (Nat.zero_le _)
  have e : zy_up (zy_up (zy_up s 9 4 (0 : Int32)) 9 3 (0 : Int32)) 9 5 (0 : Int32) = zcW s 0 false [] := by
    refine zxS (fun x y => ?_) rfl
    rw [zy_up_at, zy_up_at, zy_up_at, zcW_at]
    by_cases h5 : x = 9 ∧ y = 5
    · rw [if_pos h5, if_pos h5]
      try rfl
    rw [if_neg h5, if_neg h5]
    by_cases h3 : x = 9 ∧ y = 3
    · rw [if_pos h3, if_neg (by omega), if_pos h3]
      try rfl
    rw [if_neg h3, if_neg h3]
    by_cases h4 : x = 9 ∧ y = 4
    · rw [if_pos h4, if_pos h4]
      try rfl
    rw [if_neg h4, if_neg h4]
    by_cases h11 : x = 11
    · rw [if_pos h11, h11]
      try rfl
    · rw [if_neg h11]
  rw [zpT_F]
  unfold zyF37 zpT
  rw [e, zys38 hn h120 hg (Nat.zero_le _) (Nat.le_refl _), zq_bind]
  try dsimp only
  rw [zl_37 hn h120 hg 120 zy_fu _ _ _ 0 q2 (by rw [List.nil_append]; omega) (by decide) (by decide) (by unfold zy_fu; omega), List.nil_append]
  try rfl
end ZD
