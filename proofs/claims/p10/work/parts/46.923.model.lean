/-! PART 46.923: the model reads so, and works it out. Made by wip/v6/gen_parse.py. -/
/-- t, but the reading stands at a, with this fault, this many open -/
def zmW (t : zy_S) (a : Nat) (fl ov : Int32) : zy_S := zy_up (zy_up (zy_up t 43 13 (Int32.ofNat a)) 43 15 fl) 43 16 ov
theorem zmW_at {t : zy_S} {a x y : Nat} {fl ov : Int32} : (zmW t a fl ov).1 x y = if x = 43 ∧ y = 16 then ov else if x = 43 ∧ y = 15 then fl else if x = 43 ∧ y = 13 then Int32.ofNat a else t.1 x y := by
  unfold zmW
  rw [zy_up_at, zy_up_at, zy_up_at]
section ZM
variable {t : zy_S} {n a : Nat} {fl ov : Int32} {bs : Nat → Int32}
theorem zmW_13 {b : Nat} : zy_up (zmW t a fl ov) 43 13 (Int32.ofNat b) = zmW t b fl ov := by
  refine zxS (fun x y => ?_) rfl
  rw [zy_up_at, zmW_at, zmW_at]
  by_cases h : x = 43 ∧ y = 13
  · rw [if_pos h, if_neg (by omega), if_neg (by omega), if_pos h]
  · rw [if_neg h, if_neg h, if_neg h]
theorem zmW_15 {f : Int32} : zy_up (zmW t a fl ov) 43 15 f = zmW t a f ov := by
  refine zxS (fun x y => ?_) rfl
  rw [zy_up_at, zmW_at, zmW_at]
  by_cases h : x = 43 ∧ y = 15
  · rw [if_pos h, if_neg (by omega), if_pos h]
  · rw [if_neg h, if_neg h, if_neg h]
theorem zmW_16 {f : Int32} : zy_up (zmW t a fl ov) 43 16 f = zmW t a fl f := by
  refine zxS (fun x y => ?_) rfl
  rw [zy_up_at, zmW_at, zmW_at]
  by_cases h : x = 43 ∧ y = 16
  · rw [if_pos h, if_pos h]
  · rw [if_neg h, if_neg h, if_neg h]
/-- what is read: n letters of a row -/
def zmH (t : zy_S) (n : Nat) (bs : Nat → Int32) : Prop := t.1 43 14 = Int32.ofNat n ∧ n ≤ 120 ∧ (((t.1 43 12).toInt < 0 ∧ bs = t.1 48) ∨ ((t.1 43 12).toInt = 0 ∧ bs = t.1 49))
theorem zys198 (H : zmH t n bs) (ha : a ≤ n) : zyF198 (zmW t a fl ov) = some (zpB bs n a, zmW t a fl ov) := by
  obtain ⟨hn, h120, hb⟩ := H
  unfold zyF198 zpB
  rw [show (zmW t a fl ov).1 43 14 = Int32.ofNat n from hn, show (zmW t a fl ov).1 43 13 = Int32.ofNat a from rfl, show (zmW t a fl ov).1 43 12 = t.1 43 12 from rfl]
  by_cases h : a < n
  · rw [if_neg (by rw [Int32.le_iff_toInt_le, zN_toInt (by omega), zN_toInt (by omega)]; omega), if_pos h]
    have hin : zy_in (Int32.ofNat a) 120 = true := zq_in.mpr (by rw [zN_toInt (by omega)]; omega)
    rcases hb with ⟨h1, e⟩ | ⟨h1, e⟩
    · rw [if_neg (by rw [Int32.le_iff_toInt_le, zq_l0]; omega), if_pos hin, zN_ix (by omega), e]
      try rfl
    · have e0 : t.1 43 12 = 0 := zq_ext h1
      rw [e0, if_pos (by decide), Int32.zero_add, if_pos hin, zN_ix (by omega), e]
      try rfl
  · rw [if_pos (by rw [Int32.le_iff_toInt_le, zN_toInt (by omega), zN_toInt (by omega)]; omega), if_neg h]
theorem zys200 (H : zmH t n bs) (ha : a ≤ n) (x : Int32) : zyF200 x (zmW t a fl ov) = if fl.toInt < 0 ∧ zpB bs n a = x then some (1, zmW t (a + 1) fl ov) else some (0, zmW t a fl ov) := by
  have h120 := H.2.1
  unfold zyF200
  rw [show (zmW t a fl ov).1 43 15 = fl from rfl]
  by_cases h : fl.toInt < 0
  · rw [if_neg (by rw [Int32.le_iff_toInt_le, zq_l0]; omega), zys198 H ha, zq_bind]
    try dsimp only
    by_cases e : zpB bs n a = x
    · rw [if_pos e, if_pos ⟨h, e⟩, show (zmW t a fl ov).1 43 13 = Int32.ofNat a from rfl, zN_succ (by omega), zmW_13]
    · rw [if_neg e, if_neg (fun q => e q.2)]
  · rw [if_pos (by rw [Int32.le_iff_toInt_le, zq_l0]; omega), if_neg (fun q => h q.1)]
theorem zys199 (h : fl.toInt < 0) : zyF199 (zmW t a fl ov) = some (0, zmW t a (Int32.ofNat a) ov) := by
  unfold zyF199 zyF199_19
  rw [show (zmW t a fl ov).1 43 15 = fl from rfl, if_neg (by rw [Int32.le_iff_toInt_le, zq_l0]; omega), show (zmW t a fl ov).1 43 13 = Int32.ofNat a from rfl, zmW_15]
theorem zys199' (h : 0 ≤ fl.toInt) : zyF199 (zmW t a fl ov) = some (0, zmW t a fl ov) := by
  unfold zyF199 zyF199_19
  rw [show (zmW t a fl ov).1 43 15 = fl from rfl, if_pos (by rw [Int32.le_iff_toInt_le, zq_l0]; omega), zmW_15]
/-- where the model stands behind what has been read -/
def zmZ (nm : Nat → Int32) (o : Int32) (r : Nat × Bool × List Int32) (v fl ov : Int32) : Prop := (o.toInt ≤ ov.toInt ∧ ov.toInt ≤ 6) ∧ ((r.2.1 = true ∧ fl.toInt = (r.1 : Int)) ∨ (r.2.1 = false ∧ fl = -1 ∧ ov = o ∧ zpE nm r.2.2 v))
def zmQ (t : zy_S) (nm : Nat → Int32) (o : Int32) (q : Nat × Bool × List Int32) (R : Option (Int32 × zy_S)) : Prop := ∃ v fl ov, R = some (v, zmW t q.1 fl ov) ∧ zmZ nm o q v fl ov
theorem zl_mm {nm : Nat → Int32} {sub : Nat → Nat × Bool × List Int32} {M : zy_S → Option (Int32 × zy_S)} {lp : Nat → Int32 → zy_S → Option (Int32 × zy_S)} {lev : Nat} {o : Int32} (hg : zpG n (zpN bs n))
    (hsub : ∀ b, b ≤ n → zmQ t nm o (sub b) (M (zmW t b (-1) o))) (hok : ∀ b, b ≤ n → zpOk n b (sub b))
    (ha : ∀ (m : Nat) (v : Int32) (b : Nat) (fl ov : Int32), b ≤ n → 0 ≤ fl.toInt → lp (m + 1) v (zmW t b fl ov) = some (v, zmW t b fl ov))
    (hb : ∀ (m : Nat) (v : Int32) (b : Nat) (ov : Int32), b ≤ n → (zlv (zpN bs n b)).toInt ≠ (lev : Int) → lp (m + 1) v (zmW t b (-1) ov) = some (v, zmW t b (-1) ov))
    (hc : ∀ (m : Nat) (v : Int32) (b : Nat), b ≤ n → (zlv (zpN bs n b)).toInt = (lev : Int) → lp (m + 1) v (zmW t b (-1) o) = (M (zmW t (b + 1) (-1) o)).bind fun p => lp m (zjw (zpN bs n b) v p.1) p.2) :
    ∀ (k m : Nat) (r : Nat × Bool × List Int32) (v fl ov : Int32) (a0 : Nat), n ≤ r.1 + k → k < m → zpOk n a0 r → zmZ nm o r v fl ov → zmQ t nm o (zpL sub (zpN bs n) lev k r) (lp m v (zmW t r.1 fl ov))
  | k, 0, r, v, fl, ov, a0, h1, h2, h3, h4 => by omega
  | 0, m + 1, r, v, fl, ov, a0, h1, h2, h3, h4 => by
    obtain ⟨k1, k2, k3, k4, k5⟩ := h3
    rw [zpL_0]
    refine ⟨v, fl, ov, ?_, h4⟩
    rcases h4.2 with ⟨c1, c2⟩ | ⟨c1, c2, c3, c4⟩
    · exact ha m v r.1 fl ov k2 (by omega)
    · subst c2
      refine hb m v r.1 ov k2 (fun q => ?_)
      have hz := zlvC (zpN bs n r.1)
      have : r.1 < n := zpN_lt (b := bs) (by omega)
      omega
  | k + 1, m + 1, r, v, fl, ov, a0, h1, h2, h3, h4 => by
    obtain ⟨k1, k2, k3, k4, k5⟩ := id h3
    rw [zpL_s]
    rcases id h4.2 with ⟨c1, c2⟩ | ⟨c1, c2, c3, c4⟩
    · rw [if_neg (fun q => by rw [c1] at q; cases q.1)]
      exact ⟨v, fl, ov, ha m v r.1 fl ov k2 (by omega), h4⟩
    · subst c2
      by_cases c : (zlv (zpN bs n r.1)).toInt = (lev : Int)
      · have hz := zlvC (zpN bs n r.1)
        have hlt : r.1 < n := zpN_lt (b := bs) (by omega)
        rw [if_pos ⟨c1, c⟩, c3, hc m v r.1 k2 c]
        obtain ⟨w, fl', ov', e, hov, hz'⟩ := hsub (r.1 + 1) hlt
        rw [e, zq_bind]
        try dsimp only
        have hok2 := zpL_ok (sub := sub) (lev := lev) hg hok 1 r h3
        rw [show (1 : Nat) = 0 + 1 from rfl, zpL_s, if_pos ⟨c1, c⟩, zpL_0] at hok2
        obtain ⟨q1, q2, q3, q4, q5⟩ := hok (r.1 + 1) hlt
        refine zl_mm hg hsub hok ha hb hc k m ((sub (r.1 + 1)).1, (sub (r.1 + 1)).2.1, r.2.2 ++ ((sub (r.1 + 1)).2.2 ++ [-(zpN bs n r.1)])) (zjw (zpN bs n r.1) v w) fl' ov' a0 (by show n ≤ (sub (r.1 + 1)).1 + k; omega) (by omega) hok2 ⟨hov, ?_⟩
        rcases hz' with ⟨d1, d2⟩ | ⟨d1, d2, d3, d4⟩
        · exact Or.inl ⟨d1, d2⟩
        · exact Or.inr ⟨d1, d2, d3, zpE_jn c4 d4 (by omega)⟩
      · rw [if_neg (fun q => c q.2)]
        exact ⟨v, -1, ov, hb m v r.1 ov k2 c, h4⟩
/-- the six methods by their levels -/
noncomputable def zmf6 (lev N : Nat) : zy_S → Option (Int32 × zy_S) := if lev = 0 then (zyG192 N).1 else if lev = 1 then (zyG192 N).2.1 else if lev = 2 then (zyG192 N).2.2.1 else if lev = 3 then (zyG192 N).2.2.2.1 else if lev = 4 then (zyG192 N).2.2.2.2.1 else (zyG192 N).2.2.2.2.2
theorem zbe {α β : Type} {x : Option α} {f g : α → Option β} (h : ∀ p, f p = g p) : x.bind f = x.bind g := congrArg (Option.bind x) (funext h)
section ZG
variable {g2 g3 g4 g5 g6 g7 : zy_S → Option (Int32 × zy_S)}
theorem zm0a (H : zmH t n bs) (m : Nat) (v : Int32) (b : Nat) (fl ov : Int32) (hb : b ≤ n) (hf : 0 ≤ fl.toInt) : zyF192_5 g2 g3 g4 g5 g6 g7 (m + 1) v (zmW t b fl ov) = some (v, zmW t b fl ov) := by
  show zyF192_5b g2 g3 g4 g5 g6 g7 (zyF192_5 g2 g3 g4 g5 g6 g7 m) v _ = _
  unfold zyF192_5b
  rw [zys200 H hb, if_neg (fun q => by have := q.1; omega), zq_bind]
  try dsimp only
  rw [if_pos rfl]
theorem zm0b (H : zmH t n bs) (m : Nat) (v : Int32) (b : Nat) (ov : Int32) (hb : b ≤ n) (hl : (zlv (zpN bs n b)).toInt ≠ ((0 : Nat) : Int)) : zyF192_5 g2 g3 g4 g5 g6 g7 (m + 1) v (zmW t b (-1) ov) = some (v, zmW t b (-1) ov) := by
  have hz := zlvC (zpN bs n b)
  have hB := zpBN bs n b
  show zyF192_5b g2 g3 g4 g5 g6 g7 (zyF192_5 g2 g3 g4 g5 g6 g7 m) v _ = _
  unfold zyF192_5b
  rw [zys200 H hb, if_neg (fun q => by
    have e : (zpB bs n b).toInt = 124 := by rw [q.2]; rfl
    rcases hB with ⟨h1, h2⟩ | ⟨h1, h2, h3⟩
    · rw [h1] at e
      omega
    · omega), zq_bind]
  try dsimp only
  rw [if_pos rfl]
theorem zm0c (H : zmH t n bs) (m : Nat) (v o : Int32) (b : Nat) (hb : b ≤ n) (hl : (zlv (zpN bs n b)).toInt = ((0 : Nat) : Int)) : zyF192_5 g2 g3 g4 g5 g6 g7 (m + 1) v (zmW t b (-1) o) = (g3 (zmW t (b + 1) (-1) o)).bind fun p => zyF192_5 g2 g3 g4 g5 g6 g7 m (zjw (zpN bs n b) v p.1) p.2 := by
  have hz := zlvC (zpN bs n b)
  have eg : zpN bs n b = 124 := zq_ext (by show (zpN bs n b).toInt = 124; omega)
  have eB : zpB bs n b = 124 := by
    rcases zpBN bs n b with ⟨h1, h2⟩ | ⟨h1, h2, h3⟩
    · rw [h1, eg]
    · omega
  show zyF192_5b g2 g3 g4 g5 g6 g7 (zyF192_5 g2 g3 g4 g5 g6 g7 m) v _ = _
  unfold zyF192_5b
  rw [zys200 H hb, if_pos ⟨by decide, eB⟩, zq_bind]
  try dsimp only
  rw [if_neg (by decide), eg]
  refine zbe (fun p => ?_)
  unfold zyF192_27 zyF192_32
  rw [zjw_124]
  by_cases h1 : v = 0
  · rw [if_neg (not_not_intro h1)]
    by_cases h2 : p.1 = 0
    · rw [if_pos h2, if_pos ⟨h1, h2⟩]
    · rw [if_neg h2, if_neg (fun q => h2 q.2)]
  · rw [if_pos h1, if_neg (fun q => h1 q.1)]
theorem zm1a (H : zmH t n bs) (m : Nat) (v : Int32) (b : Nat) (fl ov : Int32) (hb : b ≤ n) (hf : 0 ≤ fl.toInt) : zyF193_5 g2 g3 g4 g5 g6 g7 (m + 1) v (zmW t b fl ov) = some (v, zmW t b fl ov) := by
  show zyF193_5b g2 g3 g4 g5 g6 g7 (zyF193_5 g2 g3 g4 g5 g6 g7 m) v _ = _
  unfold zyF193_5b
  rw [zys200 H hb, if_neg (fun q => by have := q.1; omega), zq_bind]
  try dsimp only
  rw [if_pos rfl]
theorem zm1b (H : zmH t n bs) (m : Nat) (v : Int32) (b : Nat) (ov : Int32) (hb : b ≤ n) (hl : (zlv (zpN bs n b)).toInt ≠ ((1 : Nat) : Int)) : zyF193_5 g2 g3 g4 g5 g6 g7 (m + 1) v (zmW t b (-1) ov) = some (v, zmW t b (-1) ov) := by
  have hz := zlvC (zpN bs n b)
  have hB := zpBN bs n b
  show zyF193_5b g2 g3 g4 g5 g6 g7 (zyF193_5 g2 g3 g4 g5 g6 g7 m) v _ = _
  unfold zyF193_5b
  rw [zys200 H hb, if_neg (fun q => by
    have e : (zpB bs n b).toInt = 38 := by rw [q.2]; rfl
    rcases hB with ⟨h1, h2⟩ | ⟨h1, h2, h3⟩
    · rw [h1] at e
      omega
    · omega), zq_bind]
  try dsimp only
  rw [if_pos rfl]
theorem zm1c (H : zmH t n bs) (m : Nat) (v o : Int32) (b : Nat) (hb : b ≤ n) (hl : (zlv (zpN bs n b)).toInt = ((1 : Nat) : Int)) : zyF193_5 g2 g3 g4 g5 g6 g7 (m + 1) v (zmW t b (-1) o) = (g4 (zmW t (b + 1) (-1) o)).bind fun p => zyF193_5 g2 g3 g4 g5 g6 g7 m (zjw (zpN bs n b) v p.1) p.2 := by
  have hz := zlvC (zpN bs n b)
  have eg : zpN bs n b = 38 := zq_ext (by show (zpN bs n b).toInt = 38; omega)
  have eB : zpB bs n b = 38 := by
    rcases zpBN bs n b with ⟨h1, h2⟩ | ⟨h1, h2, h3⟩
    · rw [h1, eg]
    · omega
  show zyF193_5b g2 g3 g4 g5 g6 g7 (zyF193_5 g2 g3 g4 g5 g6 g7 m) v _ = _
  unfold zyF193_5b
  rw [zys200 H hb, if_pos ⟨by decide, eB⟩, zq_bind]
  try dsimp only
  rw [if_neg (by decide), eg]
  refine zbe (fun p => ?_)
  unfold zyF193_31 zyF193_32
  rw [zjw_38]
  by_cases h1 : v = 0
  · rw [if_pos h1, if_pos (Or.inl h1)]
  · rw [if_neg h1]
    by_cases h2 : p.1 = 0
    · rw [if_pos h2, if_pos (Or.inr h2)]
    · rw [if_neg h2, if_neg (fun q => q.elim h1 h2)]
theorem zm3a (H : zmH t n bs) (m : Nat) (v : Int32) (b : Nat) (fl ov : Int32) (hb : b ≤ n) (hf : 0 ≤ fl.toInt) : zyF195_5 g2 g3 g4 g5 g6 g7 (m + 1) v (zmW t b fl ov) = some (v, zmW t b fl ov) := by
  show zyF195_5b g2 g3 g4 g5 g6 g7 (zyF195_5 g2 g3 g4 g5 g6 g7 m) v _ = _
  unfold zyF195_5b
  rw [show (zmW t b fl ov).1 43 15 = fl from rfl, if_pos (by rw [Int32.le_iff_toInt_le, zq_l0]; exact hf)]
theorem zm3b (H : zmH t n bs) (m : Nat) (v : Int32) (b : Nat) (ov : Int32) (hb : b ≤ n) (hl : (zlv (zpN bs n b)).toInt ≠ ((3 : Nat) : Int)) : zyF195_5 g2 g3 g4 g5 g6 g7 (m + 1) v (zmW t b (-1) ov) = some (v, zmW t b (-1) ov) := by
  have hz := zlvC (zpN bs n b)
  have no : ∀ x : Int32, x.toInt = 43 ∨ x.toInt = 45 → ¬ zpB bs n b = x := fun x hx q => by
    rw [← q] at hx
    rcases zpBN bs n b with ⟨h1, h2⟩ | ⟨h1, h2, h3⟩
    · rw [h1] at hx
      omega
    · omega
  show zyF195_5b g2 g3 g4 g5 g6 g7 (zyF195_5 g2 g3 g4 g5 g6 g7 m) v _ = _
  unfold zyF195_5b
  rw [show (zmW t b (-1) ov).1 43 15 = -1 from rfl, if_neg (by decide), zys198 H hb, zq_bind]
  try dsimp only
  rw [if_neg (no 43 (Or.inl rfl)), zys198 H hb, zq_bind]
  try dsimp only
  rw [if_pos (no 45 (Or.inr rfl))]
theorem zm3c (H : zmH t n bs) (m : Nat) (v o : Int32) (b : Nat) (hb : b ≤ n) (hl : (zlv (zpN bs n b)).toInt = ((3 : Nat) : Int)) : zyF195_5 g2 g3 g4 g5 g6 g7 (m + 1) v (zmW t b (-1) o) = (g6 (zmW t (b + 1) (-1) o)).bind fun p => zyF195_5 g2 g3 g4 g5 g6 g7 m (zjw (zpN bs n b) v p.1) p.2 := by
  have hz := zlvC (zpN bs n b)
  have h120 := H.2.1
  have eB : zpB bs n b = zpN bs n b := by
    rcases zpBN bs n b with ⟨h1, h2⟩ | ⟨h1, h2, h3⟩
    · exact h1
    · omega
  have up : zy_up (zmW t b (-1) o) 43 13 ((zmW t b (-1) o).1 43 13 + 1) = zmW t (b + 1) (-1) o := by
    rw [show (zmW t b (-1) o).1 43 13 = Int32.ofNat b from rfl, zN_succ (by omega), zmW_13]
  show zyF195_5b g2 g3 g4 g5 g6 g7 (zyF195_5 g2 g3 g4 g5 g6 g7 m) v _ = _
  unfold zyF195_5b zyF195_30 zyF195_44 zyF195_73
  rw [show (zmW t b (-1) o).1 43 15 = -1 from rfl, if_neg (by decide), zys198 H hb, zq_bind, eB]
  try dsimp only
  rcases (by omega : (zpN bs n b).toInt = 43 ∨ (zpN bs n b).toInt = 45) with h | h
  · have eg : zpN bs n b = 43 := zq_ext h
    rw [eg, if_pos rfl, zys198 H hb, zq_bind, eB, eg]
    try dsimp only
    rw [if_neg (by decide), up]
    refine zbe (fun p => ?_)
    rw [if_neg (show ¬ (1 : Int32) = 0 by decide), zjw_43]
  · have eg : zpN bs n b = 45 := zq_ext h
    rw [eg, if_neg (by decide), zys198 H hb, zq_bind, eB, eg]
    try dsimp only
    rw [if_neg (by decide), zys198 H hb, zq_bind, eB, eg]
    try dsimp only
    rw [if_pos (by decide), up]
    refine zbe (fun p => ?_)
    rw [if_pos (rfl : (0 : Int32) = 0), zjw_45]
theorem zm4a (H : zmH t n bs) (m : Nat) (v : Int32) (b : Nat) (fl ov : Int32) (hb : b ≤ n) (hf : 0 ≤ fl.toInt) : ((zyF198 (zmW t b fl ov)).bind fun p => zyF196_10 g2 g3 g4 g5 g6 g7 (m + 1) v p.1 p.2) = some (v, zmW t b fl ov) := by
  rw [zys198 H hb, zq_bind]
  show zyF196_10b g2 g3 g4 g5 g6 g7 (zyF196_10 g2 g3 g4 g5 g6 g7 m) v _ _ = _
  unfold zyF196_10b
  try dsimp only
  rw [show (zmW t b fl ov).1 43 15 = fl from rfl, if_pos (by rw [Int32.le_iff_toInt_le, zq_l0]; exact hf)]
theorem zm4b (H : zmH t n bs) (m : Nat) (v : Int32) (b : Nat) (ov : Int32) (hb : b ≤ n) (hl : (zlv (zpN bs n b)).toInt ≠ ((4 : Nat) : Int)) : ((zyF198 (zmW t b (-1) ov)).bind fun p => zyF196_10 g2 g3 g4 g5 g6 g7 (m + 1) v p.1 p.2) = some (v, zmW t b (-1) ov) := by
  have hz := zlvC (zpN bs n b)
  have no : ∀ x : Int32, x.toInt = 42 ∨ x.toInt = 47 ∨ x.toInt = 37 → ¬ zpB bs n b = x := fun x hx q => by
    rw [← q] at hx
    rcases zpBN bs n b with ⟨h1, h2⟩ | ⟨h1, h2, h3⟩
    · rw [h1] at hx
      omega
    · omega
  rw [zys198 H hb, zq_bind]
  show zyF196_10b g2 g3 g4 g5 g6 g7 (zyF196_10 g2 g3 g4 g5 g6 g7 m) v _ _ = _
  unfold zyF196_10b
  try dsimp only
  rw [show (zmW t b (-1) ov).1 43 15 = -1 from rfl, if_neg (by decide), if_neg (no 42 (Or.inl rfl)), if_neg (no 47 (Or.inr (Or.inl rfl))), if_pos (no 37 (Or.inr (Or.inr rfl)))]
theorem zm4c (H : zmH t n bs) (m : Nat) (v o : Int32) (b : Nat) (hb : b ≤ n) (hl : (zlv (zpN bs n b)).toInt = ((4 : Nat) : Int)) : ((zyF198 (zmW t b (-1) o)).bind fun p => zyF196_10 g2 g3 g4 g5 g6 g7 (m + 1) v p.1 p.2) = (g7 (zmW t (b + 1) (-1) o)).bind fun p => (zyF198 p.2).bind fun q => zyF196_10 g2 g3 g4 g5 g6 g7 m (zjw (zpN bs n b) v p.1) q.1 q.2 := by
  have hz := zlvC (zpN bs n b)
  have h120 := H.2.1
  have eB : zpB bs n b = zpN bs n b := by
    rcases zpBN bs n b with ⟨h1, h2⟩ | ⟨h1, h2, h3⟩
    · exact h1
    · omega
  have up : zy_up (zmW t b (-1) o) 43 13 ((zmW t b (-1) o).1 43 13 + 1) = zmW t (b + 1) (-1) o := by
    rw [show (zmW t b (-1) o).1 43 13 = Int32.ofNat b from rfl, zN_succ (by omega), zmW_13]
  rw [zys198 H hb, zq_bind]
  show zyF196_10b g2 g3 g4 g5 g6 g7 (zyF196_10 g2 g3 g4 g5 g6 g7 m) v _ _ = _
  unfold zyF196_10b zyF196_35 zyF196_85
  try dsimp only
  rw [show (zmW t b (-1) o).1 43 15 = -1 from rfl, if_neg (by decide), eB, up]
  rcases (by omega : (zpN bs n b).toInt = 42 ∨ (zpN bs n b).toInt = 47 ∨ (zpN bs n b).toInt = 37) with h | h | h
  · have eg : zpN bs n b = 42 := zq_ext h
    rw [eg, if_pos rfl]
    refine zbe (fun p => ?_)
    rw [if_neg (show ¬ (42 : Int32) ≠ 42 by decide), zjw_42]
  · have eg : zpN bs n b = 47 := zq_ext h
    rw [eg, if_neg (by decide), if_pos rfl]
    refine zbe (fun p => ?_)
    rw [if_pos (show (47 : Int32) ≠ 42 by decide), zjw_47]
    by_cases h0 : p.1 = 0
    · rw [if_neg (not_not_intro h0), if_pos h0]
    · rw [if_pos h0, if_neg (show ¬ (47 : Int32) ≠ 47 by decide), if_pos h0, if_neg h0]
  · have eg : zpN bs n b = 37 := zq_ext h
    rw [eg, if_neg (by decide), if_neg (by decide), if_neg (by decide)]
    refine zbe (fun p => ?_)
    rw [if_pos (show (37 : Int32) ≠ 42 by decide), zjw_37]
    by_cases h0 : p.1 = 0
    · rw [if_neg (not_not_intro h0), if_pos h0]
    · rw [if_pos h0, if_pos (show (37 : Int32) ≠ 47 by decide), if_pos h0, if_neg h0]
theorem zm2 {nm : Nat → Int32} {sub : Nat → Nat × Bool × List Int32} {o : Int32} (H : zmH t n bs) (hsub : ∀ b, b ≤ n → zmQ t nm o (sub b) (g5 (zmW t b (-1) o))) {r : Nat × Bool × List Int32} (hr : r.1 ≤ n) {v fl ov : Int32} (hz4 : zmZ nm o r v fl ov) :
    zmQ t nm o (zpL sub (zpN bs n) 2 1 r) ((zyF198 (zmW t r.1 fl ov)).bind fun p8 => if 0 ≤ (p8.2.1 43 15) then some (v, p8.2) else if p8.1 = (60 : Int32) then zyF194_37 g2 g3 g4 g5 g6 g7 v p8.1 p8.2 else if p8.1 = (61 : Int32) then zyF194_37 g2 g3 g4 g5 g6 g7 v p8.1 p8.2 else if p8.1 = (62 : Int32) then zyF194_37 g2 g3 g4 g5 g6 g7 v p8.1 p8.2 else some (v, p8.2)) := by
  have hz := zlvC (zpN bs n r.1)
  have h120 := H.2.1
  rw [zys198 H hr, zq_bind, show (1 : Nat) = 0 + 1 from rfl, zpL_s]
  try dsimp only
  rw [show (zmW t r.1 fl ov).1 43 15 = fl from rfl]
  rcases id hz4.2 with ⟨c1, c2⟩ | ⟨c1, c2, c3, c4⟩
  · rw [if_pos (show (0 : Int32) ≤ fl by rw [Int32.le_iff_toInt_le, zq_l0]; omega), if_neg (show ¬ (r.2.1 = false ∧ (zlv (zpN bs n r.1)).toInt = ((2 : Nat) : Int)) from fun q => by rw [c1] at q; cases q.1)]
    exact ⟨v, fl, ov, rfl, hz4⟩
  · subst c2
    rw [if_neg (show ¬ (0 : Int32) ≤ -1 by decide)]
    by_cases c : (zlv (zpN bs n r.1)).toInt = ((2 : Nat) : Int)
    · have hlt : r.1 < n := zpN_lt (b := bs) (by omega)
      have eB : zpB bs n r.1 = zpN bs n r.1 := by
        rcases zpBN bs n r.1 with ⟨h1, h2⟩ | ⟨h1, h2, h3⟩
        · exact h1
        · omega
      have up : zy_up (zmW t r.1 (-1) o) 43 13 ((zmW t r.1 (-1) o).1 43 13 + 1) = zmW t (r.1 + 1) (-1) o := by
        rw [show (zmW t r.1 (-1) o).1 43 13 = Int32.ofNat r.1 from rfl, zN_succ (by omega), zmW_13]
      obtain ⟨w, fl', ov', e, hov, hz'⟩ := hsub (r.1 + 1) hlt
      have key : zyF194_37 g2 g3 g4 g5 g6 g7 v (zpN bs n r.1) (zmW t r.1 (-1) o) = some (zjw (zpN bs n r.1) v w, zmW t (sub (r.1 + 1)).1 fl' ov') := by
        unfold zyF194_37
        rw [up, e, zq_bind]
        try dsimp only
        rcases (by omega : (zpN bs n r.1).toInt = 60 ∨ (zpN bs n r.1).toInt = 61 ∨ (zpN bs n r.1).toInt = 62) with h | h | h
        · have eg : zpN bs n r.1 = 60 := zq_ext h
          rw [eg, if_neg (show ¬ (60 : Int32) ≠ 60 by decide), zjw_60]
          by_cases q : w ≤ v
          · rw [if_pos q, if_neg (by rw [Int32.lt_iff_toInt_lt]; rw [Int32.le_iff_toInt_le] at q; omega)]
          · rw [if_neg q, if_pos (by rw [Int32.lt_iff_toInt_lt]; rw [Int32.le_iff_toInt_le] at q; omega)]
        · have eg : zpN bs n r.1 = 61 := zq_ext h
          rw [eg, if_pos (show (61 : Int32) ≠ 60 by decide), if_neg (show ¬ (61 : Int32) ≠ 61 by decide), zjw_61]
          by_cases q : v = w
          · rw [if_neg (not_not_intro q), if_pos q]
          · rw [if_pos q, if_neg q]
        · have eg : zpN bs n r.1 = 62 := zq_ext h
          rw [eg, if_pos (show (62 : Int32) ≠ 60 by decide), if_pos (show (62 : Int32) ≠ 61 by decide), zjw_62]
          by_cases q : v ≤ w
          · rw [if_pos q, if_neg (by rw [Int32.lt_iff_toInt_lt]; rw [Int32.le_iff_toInt_le] at q; omega)]
          · rw [if_neg q, if_pos (by rw [Int32.lt_iff_toInt_lt]; rw [Int32.le_iff_toInt_le] at q; omega)]
      rw [if_pos ⟨c1, c⟩, zpL_0, eB, c3]
      refine ⟨zjw (zpN bs n r.1) v w, fl', ov', ?_, hov, ?_⟩
      · rcases (by omega : (zpN bs n r.1).toInt = 60 ∨ (zpN bs n r.1).toInt = 61 ∨ (zpN bs n r.1).toInt = 62) with h | h | h
        · rw [if_pos (zq_ext h)]
          exact key
        · have eg : zpN bs n r.1 = 61 := zq_ext h
          rw [eg] at key ⊢
          rw [if_neg (by decide), if_pos rfl]
          exact key
        · have eg : zpN bs n r.1 = 62 := zq_ext h
          rw [eg] at key ⊢
          rw [if_neg (by decide), if_neg (by decide), if_pos rfl]
          exact key
      · rcases hz' with ⟨d1, d2⟩ | ⟨d1, d2, d3, d4⟩
        · exact Or.inl ⟨d1, d2⟩
        · exact Or.inr ⟨d1, d2, d3, zpE_jn c4 d4 (by omega)⟩
    · have no : ∀ x : Int32, x.toInt = 60 ∨ x.toInt = 61 ∨ x.toInt = 62 → ¬ zpB bs n r.1 = x := fun x hx q => by
        rw [← q] at hx
        rcases zpBN bs n r.1 with ⟨h1, h2⟩ | ⟨h1, h2, h3⟩
        · rw [h1] at hx
          omega
        · omega
      rw [if_neg (no 60 (Or.inl rfl)), if_neg (no 61 (Or.inr (Or.inl rfl))), if_neg (no 62 (Or.inr (Or.inr rfl))), if_neg (show ¬ (r.2.1 = false ∧ (zlv (zpN bs n r.1)).toInt = ((2 : Nat) : Int)) from fun q => c q.2)]
      exact ⟨v, -1, ov, rfl, hz4⟩
theorem zl_176 (H : zmH t n bs) {o : Int32} : ∀ (k m a : Nat) (v i : Int32), a ≤ n → k < m → 0 ≤ i.toInt → i.toInt + (k : Int) = 4 → (i.toInt ≠ 0 ∨ zpDig (zpN bs n a) = true) → zyF197_176 g2 g3 g4 g5 g6 g7 m v i (zmW t a (-1) o) = some ((zpNum (zpN bs n) k a v).2, zmW t (zpNum (zpN bs n) k a v).1 (-1) o)
  | k, 0, a, v, i, ha, hm, i0, hi, hd => by omega
  | 0, m + 1, a, v, i, ha, hm, i0, hi, hd => by
    show zyF197_176b g2 g3 g4 g5 g6 g7 (zyF197_176 g2 g3 g4 g5 g6 g7 m) v i _ = _
    unfold zyF197_176b zyF197_229
    rw [if_pos (by rw [Int32.le_iff_toInt_le, zq_l4]; omega), if_pos (fun q => by rw [q, zq_l0] at hi; omega)]
    try rfl
  | k + 1, m + 1, a, v, i, ha, hm, i0, hi, hd => by
    have h120 := H.2.1
    have l48 : (48 : Int32).toInt = 48 := rfl
    have l57 : (57 : Int32).toInt = 57 := rfl
    have hB := zpBN bs n a
    show zyF197_176b g2 g3 g4 g5 g6 g7 (zyF197_176 g2 g3 g4 g5 g6 g7 m) v i _ = _
    unfold zyF197_176b
    rw [zpNum_s, if_neg (by rw [Int32.le_iff_toInt_le, zq_l4]; omega), zys198 H ha, zq_bind]
    try dsimp only
    by_cases h : zpDig (zpN bs n a) = true
    · obtain ⟨d0, d1⟩ := of_decide_eq_true h
      have eB : zpB bs n a = zpN bs n a := by
        rcases hB with ⟨h1, h2⟩ | ⟨h1, h2, h3⟩
        · exact h1
        · omega
      have han : a < n := zpN_lt (b := bs) (by omega)
      rw [if_pos h, eB, if_neg (by rw [Int32.lt_iff_toInt_lt, l48]; omega), zys198 H ha, zq_bind]
      try dsimp only
      rw [eB, if_neg (by rw [Int32.lt_iff_toInt_lt, l57]; omega), zys198 H ha, zq_bind]
      try dsimp only
      have ei : (i + 1).toInt = i.toInt + 1 := by rw [zq_add (by rw [zq_l1]; omega) (by rw [zq_l1]; omega), zq_l1]
      rw [show (zmW t a (-1) o).1 43 13 = Int32.ofNat a from rfl, zN_succ (by omega), zmW_13, eB]
      exact zl_176 H k m (a + 1) _ (i + 1) (by omega) (by omega) (by omega) (by omega) (Or.inl (by omega))
    · have hi0 : i.toInt ≠ 0 := hd.resolve_right h
      have nd : ¬ (48 ≤ (zpN bs n a).toInt ∧ (zpN bs n a).toInt ≤ 57) := fun q => h (decide_eq_true q)
      have ni : i ≠ 0 := fun q => hi0 (by rw [q]; rfl)
      rw [if_neg h]
      unfold zyF197_229
      by_cases q : (zpB bs n a).toInt < 48
      · rw [if_pos (by rw [Int32.lt_iff_toInt_lt, l48]; exact q), if_pos ni]
      · rw [if_neg (by rw [Int32.lt_iff_toInt_lt, l48]; exact q), zys198 H ha, zq_bind]
        try dsimp only
        rw [if_pos (by
          rw [Int32.lt_iff_toInt_lt, l57]
          rcases hB with ⟨h1, h2⟩ | ⟨h1, h2, h3⟩
          · rw [h1] at q ⊢
            omega
          · omega), if_pos ni]
theorem zm_no {nm : Nat → Int32} {o : Nat} (ho : o ≤ 6) (ha : a ≤ 120) : zmQ t nm (Int32.ofNat o) (a, true, []) (some (0, zmW t a (Int32.ofNat a) (Int32.ofNat o))) := ⟨0, Int32.ofNat a, Int32.ofNat o, rfl, ⟨Int.le_refl _, by rw [zN_toInt (by omega)]; omega⟩, Or.inl ⟨rfl, zN_toInt (by omega)⟩⟩
/-- one: with the ways in it told -/
theorem zm5 {nm : Nat → Int32} (en : nm = t.1 50) (H : zmH t n bs) (hg : zpG n (zpN bs n)) {f o : Nat} (ho : o ≤ 6) (ha : a ≤ n) (hE : o < 6 → ∀ b, b ≤ n → zmQ t nm (Int32.ofNat (o + 1)) (zpS (zpN bs n) f 0 (o + 1) b) (g2 (zmW t b (-1) (Int32.ofNat (o + 1))))) (hO : o < 6 → ∀ b, b ≤ n → zmQ t nm (Int32.ofNat (o + 1)) (zpS (zpN bs n) f 5 (o + 1) b) (g7 (zmW t b (-1) (Int32.ofNat (o + 1))))) :
    zmQ t nm (Int32.ofNat o) (zpS (zpN bs n) (f + 1) 5 o a) (zyF197_0 g2 g3 g4 g5 g6 g7 (zmW t a (-1) (Int32.ofNat o))) := by
  have h120 := H.2.1
  have hB := zpBN bs n a
  have hm := znmC (zpN bs n a)
  have hmB := znmC (zpB bs n a)
  have eo : (Int32.ofNat o).toInt = (o : Int) := zN_toInt (by omega)
  have eo1 : (Int32.ofNat (o + 1)).toInt = ((o + 1 : Nat) : Int) := zN_toInt (by omega)
  have l6 : (6 : Int32).toInt = 6 := rfl
  have bad : zyF197_32 g2 g3 g4 g5 g6 g7 (zpB bs n a) (zmW t a (-1) (Int32.ofNat 6)) = some (0, zmW t a (Int32.ofNat a) (Int32.ofNat 6)) := by
    unfold zyF197_32
    rw [show (zmW t a (-1) (Int32.ofNat 6)).1 43 16 = 6 from rfl, if_neg (by decide), zys199 (by decide), zq_bind]
  have up : ∀ ov : Int32, zy_up (zy_up (zmW t a (-1) ov) 43 16 (ov + 1)) 43 13 (Int32.ofNat a + 1) = zmW t (a + 1) (-1) (ov + 1) := fun ov => by rw [zmW_16, zN_succ (by omega), zmW_13]
  have nv : ∀ y : Int32, ((zpB bs n a).toInt = 33 ∨ (zpB bs n a).toInt = 40 ∨ (zpB bs n a).toInt = 45) → y.toInt ≠ (zpB bs n a).toInt → ¬ zpB bs n a = y := fun y _ q e => q (by rw [e])
  rw [zpS_s, if_neg (by decide)]
  unfold zyF197_0
  rw [show (zmW t a (-1) (Int32.ofNat o)).1 43 15 = -1 from rfl, if_pos (show (-1 : Int32) < 0 by decide), zys198 H ha, zq_bind]
  try dsimp only
  by_cases hs : (zpB bs n a).toInt = 33 ∨ (zpB bs n a).toInt = 40 ∨ (zpB bs n a).toInt = 45
  · -- a sign that opens
    have eB : zpB bs n a = zpN bs n a := by
      rcases hB with ⟨h1, h2⟩ | ⟨h1, h2, h3⟩
      · exact h1
      · omega
    have han : a < n := by
      rcases hB with ⟨h1, h2⟩ | ⟨h1, h2, h3⟩
      · exact h2
      · omega
    rw [eB] at hs
    have go : (if zpB bs n a = (33 : Int32) then zyF197_32 g2 g3 g4 g5 g6 g7 (zpB bs n a) (zmW t a (-1) (Int32.ofNat o)) else if zpB bs n a = (45 : Int32) then zyF197_32 g2 g3 g4 g5 g6 g7 (zpB bs n a) (zmW t a (-1) (Int32.ofNat o)) else if zpB bs n a ≠ (40 : Int32) then (zyF201 (zpB bs n a) (zmW t a (-1) (Int32.ofNat o))).bind fun p22 => if p22.1 < 0 then zyF197_176 g2 g3 g4 g5 g6 g7 zy_fu (0 : Int32) (0 : Int32) p22.2 else if zy_in p22.1 6 then some ((p22.2.1 50 (p22.1).toNatClampNeg), (zy_up p22.2 43 13 ((p22.2.1 43 13) + (1 : Int32)))) else none else zyF197_32 g2 g3 g4 g5 g6 g7 (zpB bs n a) (zmW t a (-1) (Int32.ofNat o))) = zyF197_32 g2 g3 g4 g5 g6 g7 (zpB bs n a) (zmW t a (-1) (Int32.ofNat o)) := by
      by_cases c1 : zpB bs n a = (33 : Int32)
      · rw [if_pos c1]
      rw [if_neg c1]
      by_cases c2 : zpB bs n a = (45 : Int32)
      · rw [if_pos c2]
      rw [if_neg c2]
      have n1 : ¬ (zpB bs n a).toInt = 33 := fun q => c1 (zq_ext q)
      have n2 : ¬ (zpB bs n a).toInt = 45 := fun q => c2 (zq_ext q)
      rw [eB] at n1 n2
      rw [if_neg (not_not_intro (zq_ext (by rw [eB]; show (zpN bs n a).toInt = 40; omega)))]
    rw [go, if_neg (show ¬ zpDig (zpN bs n a) = true by unfold zpDig; rw [decide_eq_true_eq]; omega), if_neg (show ¬ 0 ≤ (znm (zpN bs n a)).toInt by omega)]
    by_cases h6 : o = 6
    · subst h6
      rw [bad, if_neg (by omega), if_neg (by omega), if_neg (by omega)]
      exact zm_no ho (by omega)
    have ho6 : o < 6 := by omega
    have e1 : Int32.ofNat o + 1 = Int32.ofNat (o + 1) := zN_succ (by omega)
    have e0 : Int32.ofNat (o + 1) - 1 = Int32.ofNat o := zq_ext (by rw [zq_sub (by rw [eo1, zq_l1]; omega) (by rw [eo1, zq_l1]; omega), eo1, eo, zq_l1]; omega)
    unfold zyF197_32
    rw [show (zmW t a (-1) (Int32.ofNat o)).1 43 16 = Int32.ofNat o from rfl, show (zmW t a (-1) (Int32.ofNat o)).1 43 13 = Int32.ofNat a from rfl, if_pos (show Int32.ofNat o ≠ (6 : Int32) from fun q => by rw [q, l6] at eo; omega), up, e1]
    by_cases h40 : (zpN bs n a).toInt = 40
    · rw [if_neg (not_not_intro (zq_ext (by rw [eB]; exact h40))), if_pos (show o < 6 ∧ (zpN bs n a).toInt = 40 from ⟨ho6, h40⟩)]
      obtain ⟨v, fl, ov, e, ⟨o1, o2⟩, hz⟩ := hE ho6 (a + 1) han
      obtain ⟨q1, q2, q3, q4, q5⟩ := zpS_ok hg f 0 (o + 1) (a + 1) han
      rw [e, zq_bind]
      try dsimp only
      unfold zyF197_83
      rw [if_neg (not_not_intro (zq_ext (by rw [eB]; exact h40))), zys200 H q2]
      have hB2 := zpBN bs n (zpS (zpN bs n) f 0 (o + 1) (a + 1)).1
      by_cases hc : (zpS (zpN bs n) f 0 (o + 1) (a + 1)).2.1 = false ∧ (zpN bs n (zpS (zpN bs n) f 0 (o + 1) (a + 1)).1).toInt = 41
      · rcases hz with ⟨d1, d2⟩ | ⟨d1, d2, d3, d4⟩
        · rw [hc.1] at d1
          cases d1
        · subst d2
          rw [if_pos hc, if_pos ⟨by decide, zq_ext (by
            rcases hB2 with ⟨k1, k2⟩ | ⟨k1, k2, k3⟩
            · rw [k1, hc.2]
              try rfl
            · omega)⟩, zq_bind]
          try dsimp only
          rw [if_pos (show (1 : Int32) ≠ 0 by decide)]
          unfold zyF197_104
          rw [if_neg (not_not_intro (zq_ext (by rw [eB]; exact h40))), show (zmW t ((zpS (zpN bs n) f 0 (o + 1) (a + 1)).1 + 1) (-1) ov).1 43 16 = ov from rfl, zmW_16, d3, e0]
          exact ⟨v, -1, Int32.ofNat o, rfl, ⟨Int.le_refl _, by omega⟩, Or.inr ⟨rfl, rfl, rfl, d4⟩⟩
      · rw [if_neg hc]
        rcases hz with ⟨d1, d2⟩ | ⟨d1, d2, d3, d4⟩
        · rw [if_neg (fun q => by have := q.1; omega), zq_bind]
          try dsimp only
          rw [if_neg (show ¬ (0 : Int32) ≠ 0 by decide), zys199' (by omega), zq_bind]
          exact ⟨0, fl, ov, rfl, ⟨by omega, o2⟩, Or.inl ⟨rfl, d2⟩⟩
        · subst d2
          rw [if_neg (fun q => hc ⟨d1, by
            have e41 : (zpB bs n (zpS (zpN bs n) f 0 (o + 1) (a + 1)).1).toInt = 41 := by rw [q.2]; rfl
            rcases hB2 with ⟨k1, k2⟩ | ⟨k1, k2, k3⟩
            · rw [← k1]
              exact e41
            · omega⟩), zq_bind]
          try dsimp only
          rw [if_neg (show ¬ (0 : Int32) ≠ 0 by decide), zys199 (by decide), zq_bind]
          exact ⟨0, _, ov, rfl, ⟨by omega, o2⟩, Or.inl ⟨rfl, zN_toInt (by omega)⟩⟩
    · rw [if_pos (show zpB bs n a ≠ (40 : Int32) from fun q => h40 (by rw [← eB, q]; rfl)), if_neg (show ¬ (o < 6 ∧ (zpN bs n a).toInt = 40) from fun q => h40 q.2)]
      obtain ⟨v, fl, ov, e, ⟨o1, o2⟩, hz⟩ := hO ho6 (a + 1) han
      rw [e, zq_bind]
      try dsimp only
      unfold zyF197_83 zyF197_104
      rw [if_pos (show zpB bs n a ≠ (40 : Int32) from fun q => h40 (by rw [← eB, q]; rfl)), if_pos (show zpB bs n a ≠ (40 : Int32) from fun q => h40 (by rw [← eB, q]; rfl)), show (zmW t (zpS (zpN bs n) f 5 (o + 1) (a + 1)).1 fl ov).1 43 16 = ov from rfl, zmW_16]
      have eov : (ov - 1).toInt = ov.toInt - 1 := by rw [zq_sub (by rw [zq_l1]; omega) (by rw [zq_l1]; omega), zq_l1]
      by_cases h33 : (zpN bs n a).toInt = 33
      · rw [if_pos (show o < 6 ∧ (zpN bs n a).toInt = 33 from ⟨ho6, h33⟩), if_pos (show zpB bs n a ≠ (45 : Int32) from fun q => by
          have : (zpN bs n a).toInt = 45 := by rw [← eB, q]; rfl
          omega)]
        have val : (if v ≠ 0 then some ((0 : Int32), zmW t (zpS (zpN bs n) f 5 (o + 1) (a + 1)).1 fl (ov - 1)) else some ((1 : Int32), zmW t (zpS (zpN bs n) f 5 (o + 1) (a + 1)).1 fl (ov - 1))) = some ((if v = 0 then 1 else 0 : Int32), zmW t (zpS (zpN bs n) f 5 (o + 1) (a + 1)).1 fl (ov - 1)) := by
          by_cases q : v = 0
          · rw [if_neg (not_not_intro q), if_pos q]
          · rw [if_pos q, if_neg q]
        rw [val]
        refine ⟨_, fl, ov - 1, rfl, ⟨by omega, by omega⟩, ?_⟩
        rcases hz with ⟨d1, d2⟩ | ⟨d1, d2, d3, d4⟩
        · exact Or.inl ⟨d1, d2⟩
        · exact Or.inr ⟨d1, d2, by rw [d3, e0], zpE_not d4⟩
      · have h45 : (zpN bs n a).toInt = 45 := by omega
        rw [if_neg (show ¬ (o < 6 ∧ (zpN bs n a).toInt = 33) from fun q => h33 q.2), if_pos (show o < 6 ∧ (zpN bs n a).toInt = 45 from ⟨ho6, h45⟩), if_neg (not_not_intro (zq_ext (by rw [eB]; exact h45)))]
        refine ⟨_, fl, ov - 1, rfl, ⟨by omega, by omega⟩, ?_⟩
        rcases hz with ⟨d1, d2⟩ | ⟨d1, d2, d3, d4⟩
        · exact Or.inl ⟨d1, d2⟩
        · exact Or.inr ⟨d1, d2, by rw [d3, e0], zpE_neg d4⟩
  · have n33 : ¬ zpB bs n a = (33 : Int32) := fun q => hs (Or.inl (by rw [q]; rfl))
    have n45 : ¬ zpB bs n a = (45 : Int32) := fun q => hs (Or.inr (Or.inr (by rw [q]; rfl)))
    have n40 : zpB bs n a ≠ (40 : Int32) := fun q => hs (Or.inr (Or.inl (by rw [q]; rfl)))
    rw [if_neg n33, if_neg n45, if_pos n40, zys201, zq_bind]
    try dsimp only
    by_cases hn : 0 ≤ (znm (zpN bs n a)).toInt
    · have eB : zpB bs n a = zpN bs n a := by
        rcases hB with ⟨h1, h2⟩ | ⟨h1, h2, h3⟩
        · exact h1
        · omega
      rw [if_neg (show ¬ zpDig (zpN bs n a) = true by unfold zpDig; rw [decide_eq_true_eq]; omega), if_pos hn, eB, if_neg (show ¬ znm (zpN bs n a) < 0 by rw [Int32.lt_iff_toInt_lt, zq_l0]; omega), if_pos (zq_in.mpr ⟨hn, by omega⟩), show (zmW t a (-1) (Int32.ofNat o)).1 43 13 = Int32.ofNat a from rfl, zN_succ (by omega), zmW_13]
      refine ⟨_, -1, Int32.ofNat o, rfl, ⟨Int.le_refl _, by omega⟩, Or.inr ⟨rfl, rfl, rfl, ?_⟩⟩
      rw [en]
      exact zpE_nm hn (by omega)
    · have nB : (znm (zpB bs n a)).toInt < 0 := by
        rcases hB with ⟨h1, h2⟩ | ⟨h1, h2, h3⟩
        · rw [h1]
          omega
        · omega
      rw [if_pos (show znm (zpB bs n a) < 0 by rw [Int32.lt_iff_toInt_lt, zq_l0]; exact nB)]
      by_cases hd : zpDig (zpN bs n a) = true
      · rw [if_pos hd, zl_176 H 4 zy_fu a 0 0 ha (by unfold zy_fu; omega) (by decide) (by decide) (Or.inr hd)]
        obtain ⟨q1, q2, q3, q4⟩ := zpNum_1 hg ha hd
        exact ⟨_, -1, Int32.ofNat o, rfl, ⟨Int.le_refl _, by omega⟩, Or.inr ⟨rfl, rfl, rfl, zpE_num q3 (by omega)⟩⟩
      · have nd : ¬ (48 ≤ (zpN bs n a).toInt ∧ (zpN bs n a).toInt ≤ 57) := fun q => hd (decide_eq_true q)
        have hsN : ¬ ((zpN bs n a).toInt = 33 ∨ (zpN bs n a).toInt = 40 ∨ (zpN bs n a).toInt = 45) := by
          rcases hB with ⟨h1, h2⟩ | ⟨h1, h2, h3⟩
          · rw [← h1]
            exact hs
          · omega
        rw [if_neg hd, if_neg hn, if_neg (by omega), if_neg (by omega), if_neg (by omega)]
        have e : zyF197_176 g2 g3 g4 g5 g6 g7 zy_fu 0 0 (zmW t a (-1) (Int32.ofNat o)) = some (0, zmW t a (Int32.ofNat a) (Int32.ofNat o)) := by
          have l48 : (48 : Int32).toInt = 48 := rfl
          have l57 : (57 : Int32).toInt = 57 := rfl
          show zyF197_176b g2 g3 g4 g5 g6 g7 (zyF197_176 g2 g3 g4 g5 g6 g7 9999) 0 0 _ = _
          unfold zyF197_176b zyF197_229
          rw [if_neg (by decide), zys198 H ha, zq_bind]
          try dsimp only
          by_cases q : (zpB bs n a).toInt < 48
          · rw [if_pos (by rw [Int32.lt_iff_toInt_lt, l48]; exact q), if_neg (by decide), zys199 (by decide), zq_bind]
          · rw [if_neg (by rw [Int32.lt_iff_toInt_lt, l48]; exact q), zys198 H ha, zq_bind]
            try dsimp only
            rw [if_pos (by
              rw [Int32.lt_iff_toInt_lt, l57]
              rcases hB with ⟨h1, h2⟩ | ⟨h1, h2, h3⟩
              · rw [h1] at q ⊢
                omega
              · omega), if_neg (by decide), zys199 (by decide), zq_bind]
        rw [e]
        exact zm_no ho (by omega)
end ZG
theorem zmSp {nm : Nat → Int32} (en : nm = t.1 50) (H : zmH t n bs) (hg : zpG n (zpN bs n)) : ∀ (f lev o a N : Nat), lev ≤ 5 → o ≤ 6 → a ≤ n → 7 * (6 - o) + (5 - lev) < f → f ≤ N → zmQ t nm (Int32.ofNat o) (zpS (zpN bs n) f lev o a) (zmf6 lev N (zmW t a (-1) (Int32.ofNat o)))
  | 0, lev, o, a, N, hl, ho, ha, hf, hN => by omega
  | f + 1, lev, o, a, N, hl, ho, ha, hf, hN => by
    obtain ⟨M, rfl⟩ : ∃ M, N = M + 1 := ⟨N - 1, by omega⟩
    have h120 := H.2.1
    have hok : ∀ l b, b ≤ n → zpOk n b (zpS (zpN bs n) f l o b) := fun l b hb => zpS_ok hg f l o b hb
    have hsub : ∀ l, l ≤ 5 → 7 * (6 - o) + (5 - l) < f → ∀ b, b ≤ n → zmQ t nm (Int32.ofNat o) (zpS (zpN bs n) f l o b) (zmf6 l M (zmW t b (-1) (Int32.ofNat o))) := fun l h1 h2 b hb => zmSp en H hg f l o b M h1 ho hb h2 (by omega)
    rcases (by omega : lev = 0 ∨ lev = 1 ∨ lev = 2 ∨ lev = 3 ∨ lev = 4 ∨ lev = 5) with rfl | rfl | rfl | rfl | rfl | rfl
    · show zmQ t nm _ _ ((zyG192 (M + 1)).1 _)
      rw [zyS192, zpS_s, if_pos (by decide), if_neg (by decide)]
      unfold zyF192_0
      obtain ⟨v, fl, ov, e, hz⟩ := hsub 1 (by decide) (by omega) a ha
      rw [show (zyG192 M).2.1 (zmW t a (-1) (Int32.ofNat o)) = _ from e, zq_bind]
      exact zl_mm (lp := fun m => zyF192_5 (zyG192 M).1 (zyG192 M).2.1 (zyG192 M).2.2.1 (zyG192 M).2.2.2.1 (zyG192 M).2.2.2.2.1 (zyG192 M).2.2.2.2.2 m) (M := (zyG192 M).2.1) hg (hsub 1 (by decide) (by omega)) (hok 1) (zm0a H) (zm0b H) (fun m v b => zm0c H m v _ b) 120 zy_fu (zpS (zpN bs n) f 1 o a) v fl ov a (by omega) (by unfold zy_fu; omega) (hok 1 a ha) hz
    · show zmQ t nm _ _ ((zyG192 (M + 1)).2.1 _)
      rw [zyS193, zpS_s, if_pos (by decide), if_neg (by decide)]
      unfold zyF193_0
      obtain ⟨v, fl, ov, e, hz⟩ := hsub 2 (by decide) (by omega) a ha
      rw [show (zyG192 M).2.2.1 (zmW t a (-1) (Int32.ofNat o)) = _ from e, zq_bind]
      exact zl_mm (lp := fun m => zyF193_5 (zyG192 M).1 (zyG192 M).2.1 (zyG192 M).2.2.1 (zyG192 M).2.2.2.1 (zyG192 M).2.2.2.2.1 (zyG192 M).2.2.2.2.2 m) (M := (zyG192 M).2.2.1) hg (hsub 2 (by decide) (by omega)) (hok 2) (zm1a H) (zm1b H) (fun m v b => zm1c H m v _ b) 120 zy_fu (zpS (zpN bs n) f 2 o a) v fl ov a (by omega) (by unfold zy_fu; omega) (hok 2 a ha) hz
    · show zmQ t nm _ _ ((zyG192 (M + 1)).2.2.1 _)
      rw [zyS194, zpS_s, if_pos (by decide), if_pos rfl]
      unfold zyF194_0
      obtain ⟨v, fl, ov, e, hz⟩ := hsub 3 (by decide) (by omega) a ha
      rw [show (zyG192 M).2.2.2.1 (zmW t a (-1) (Int32.ofNat o)) = _ from e, zq_bind]
      exact zm2 H (hsub 3 (by decide) (by omega)) (hok 3 a ha).2.1 hz
    · show zmQ t nm _ _ ((zyG192 (M + 1)).2.2.2.1 _)
      rw [zyS195, zpS_s, if_pos (by decide), if_neg (by decide)]
      unfold zyF195_0
      obtain ⟨v, fl, ov, e, hz⟩ := hsub 4 (by decide) (by omega) a ha
      rw [show (zyG192 M).2.2.2.2.1 (zmW t a (-1) (Int32.ofNat o)) = _ from e, zq_bind]
      exact zl_mm (lp := fun m => zyF195_5 (zyG192 M).1 (zyG192 M).2.1 (zyG192 M).2.2.1 (zyG192 M).2.2.2.1 (zyG192 M).2.2.2.2.1 (zyG192 M).2.2.2.2.2 m) (M := (zyG192 M).2.2.2.2.1) hg (hsub 4 (by decide) (by omega)) (hok 4) (zm3a H) (zm3b H) (fun m v b => zm3c H m v _ b) 120 zy_fu (zpS (zpN bs n) f 4 o a) v fl ov a (by omega) (by unfold zy_fu; omega) (hok 4 a ha) hz
    · show zmQ t nm _ _ ((zyG192 (M + 1)).2.2.2.2.1 _)
      rw [zyS196, zpS_s, if_pos (by decide), if_neg (by decide)]
      unfold zyF196_0
      obtain ⟨v, fl, ov, e, hz⟩ := hsub 5 (by decide) (by omega) a ha
      rw [show (zyG192 M).2.2.2.2.2 (zmW t a (-1) (Int32.ofNat o)) = _ from e, zq_bind]
      exact zl_mm (lp := fun m v s => (zyF198 s).bind fun p => zyF196_10 (zyG192 M).1 (zyG192 M).2.1 (zyG192 M).2.2.1 (zyG192 M).2.2.2.1 (zyG192 M).2.2.2.2.1 (zyG192 M).2.2.2.2.2 m v p.1 p.2) (M := (zyG192 M).2.2.2.2.2) hg (hsub 5 (by decide) (by omega)) (hok 5) (zm4a H) (zm4b H) (fun m v b => zm4c H m v _ b) 120 zy_fu (zpS (zpN bs n) f 5 o a) v fl ov a (by omega) (by unfold zy_fu; omega) (hok 5 a ha) hz
    · show zmQ t nm _ _ ((zyG192 (M + 1)).2.2.2.2.2 _)
      rw [zyS197]
      exact zm5 en H hg ho ha (fun h6 b hb => zmSp en H hg f 0 (o + 1) b M (by omega) (by omega) hb (by omega) (by omega)) (fun h6 b hb => zmSp en H hg f 5 (o + 1) b M (by omega) (by omega) hb (by omega) (by omega))
theorem zys192 {nm : Nat → Int32} (en : nm = t.1 50) (H : zmH t n bs) (hg : zpG n (zpN bs n)) (ha : a ≤ n) : zmQ t nm 0 (zpS (zpN bs n) 50 0 0 a) (zyF192 (zmW t a (-1) 0)) := zmSp en H hg 50 0 0 a 100 (by omega) (by omega) ha (by omega) (by omega)
/-- a line -/
theorem zm_line {nm : Nat → Int32} (en : nm = t.1 50) (H : zmH t n bs) (hg : zpG n (zpN bs n)) (ha : a ≤ n) (k33 : Int32 → Int32 → Int32 → zy_S → Option (Int32 × zy_S)) (x3 x4 : Int32) (hx : x3 = 0 → x4 = 0) : ∃ y3 y4 fl ov, zyF191_33b k33 x3 x4 1 (zmW t a (-1) 0) = zyF191_96 k33 y3 y4 (zmW t (zpLine (zpN bs n) a).1 fl ov) ∧ (0 ≤ ov.toInt ∧ ov.toInt ≤ 6) ∧ (((zpLine (zpN bs n) a).2.1 = true ∧ fl.toInt = ((zpLine (zpN bs n) a).1 : Int)) ∨ ((zpLine (zpN bs n) a).2.1 = false ∧ fl = -1 ∧ ov = 0 ∧ (y3 = 0 → y4 = 0) ∧ ∀ rest, (if x3 ≠ 0 then zclp x4 else zwv nm ((zpLine (zpN bs n) a).2.2 ++ rest) false []) = if y3 ≠ 0 then zclp y4 else zwv nm rest false [])) := by
  obtain ⟨q1, q2, q3, q4, q5⟩ := zpS_ok hg 50 0 0 a ha
  obtain ⟨v, fl, ov, e, ⟨o1, o2⟩, hz⟩ := zys192 en H hg ha
  have hB := zpBN bs n (zpS (zpN bs n) 50 0 0 a).1
  have l59 : (-59 : Int32).toInt = -59 := rfl
  have l63 : (-63 : Int32).toInt = -63 := rfl
  have w59 : ∀ (rest st : List Int32), zwv nm ([(-59 : Int32)] ++ rest) false st = zclp (st.headD 0) := fun rest st => by
    show zwv nm ((-59 : Int32) :: rest) false st = _
    rw [zwv_s, if_neg (by decide), if_neg (by omega), if_pos l59]
  have w59t : ∀ (rest st : List Int32), zwv nm ([(-59 : Int32)] ++ rest) true st = zwv nm rest false st := fun rest st => by
    show zwv nm ((-59 : Int32) :: rest) true st = _
    rw [zwv_s, if_pos rfl]
    try rfl
  have w63 : ∀ (x : Int32) (rest : List Int32), zwv nm ([(-63 : Int32)] ++ rest) false [x] = zwv nm rest (decide (x = 0)) [] := fun x rest => by
    show zwv nm ((-63 : Int32) :: rest) false [x] = _
    rw [zwv_s, if_neg (by decide), if_neg (by omega), if_neg (by omega), if_pos l63]
    try rfl
  unfold zyF191_33b zpLine
  rw [if_neg (by decide), e, zq_bind]
  try dsimp only
  rw [zys200 H q2]
  by_cases hc : (zpS (zpN bs n) 50 0 0 a).2.1 = false ∧ (zpN bs n (zpS (zpN bs n) 50 0 0 a).1).toInt = 63
  · rcases hz with ⟨d1, d2⟩ | ⟨d1, d2, d3, d4⟩
    · rw [hc.1] at d1
      cases d1
    subst d2
    have hlt : (zpS (zpN bs n) 50 0 0 a).1 < n := zpN_lt (b := bs) (by omega)
    obtain ⟨w, fl', ov', e', ⟨p1, p2⟩, hz'⟩ := zys192 en H hg (a := (zpS (zpN bs n) 50 0 0 a).1 + 1) hlt
    rw [if_pos hc, if_pos ⟨by decide, zq_ext (by
      rcases hB with ⟨k1, k2⟩ | ⟨k1, k2, k3⟩
      · rw [k1, hc.2]
        try rfl
      · omega)⟩, zq_bind, d3]
    try dsimp only
    rw [if_neg (by decide)]
    have fin : ∀ y0 : Int32, zyF191_66 k33 x3 x4 y0 (zmW t ((zpS (zpN bs n) 50 0 0 a).1 + 1) (-1) 0) = zyF191_74 k33 x3 x4 w y0 (zmW t (zpS (zpN bs n) 50 0 0 ((zpS (zpN bs n) 50 0 0 a).1 + 1)).1 fl' ov') := fun y0 => by
      unfold zyF191_66
      rw [e', zq_bind]
    have asc : ∀ rest : List Int32, ((zpS (zpN bs n) 50 0 0 a).2.2 ++ ([(-63 : Int32)] ++ ((zpS (zpN bs n) 50 0 0 ((zpS (zpN bs n) 50 0 0 a).1 + 1)).2.2 ++ [(-59 : Int32)]))) ++ rest = (zpS (zpN bs n) 50 0 0 a).2.2 ++ ([(-63 : Int32)] ++ ((zpS (zpN bs n) 50 0 0 ((zpS (zpN bs n) 50 0 0 a).1 + 1)).2.2 ++ ([(-59 : Int32)] ++ rest))) := fun rest => by simp only [List.append_assoc]
    by_cases hv : v = 0
    · rw [if_pos hv, fin]
      unfold zyF191_74
      refine ⟨x3, x4, fl', ov', ?_, ⟨by rw [zq_l0] at p1; exact p1, p2⟩, ?_⟩
      · rw [show (zmW t (zpS (zpN bs n) 50 0 0 ((zpS (zpN bs n) 50 0 0 a).1 + 1)).1 fl' ov').1 43 15 = fl' from rfl, if_pos (rfl : (0 : Int32) = 0)]
        by_cases q : (0 : Int32) ≤ fl'
        · rw [if_pos q]
        · rw [if_neg q]
      · rcases hz' with ⟨c1, c2⟩ | ⟨c1, c2, c3, c4⟩
        · exact Or.inl ⟨c1, c2⟩
        · refine Or.inr ⟨c1, c2, c3, hx, fun rest => ?_⟩
          try dsimp only
          by_cases q : x3 ≠ 0
          · rw [if_pos q, if_pos q]
          · rw [if_neg q, if_neg q, asc, d4.2, w63, decide_eq_true hv, c4.1, w59t]
    · rw [if_neg hv, fin]
      unfold zyF191_74
      rw [show (zmW t (zpS (zpN bs n) 50 0 0 ((zpS (zpN bs n) 50 0 0 a).1 + 1)).1 fl' ov').1 43 15 = fl' from rfl, if_neg (by decide : ¬ (1 : Int32) = 0)]
      rcases hz' with ⟨c1, c2⟩ | ⟨c1, c2, c3, c4⟩
      · refine ⟨x3, x4, fl', ov', ?_, ⟨by rw [zq_l0] at p1; exact p1, p2⟩, Or.inl ⟨c1, c2⟩⟩
        rw [if_pos (by rw [Int32.le_iff_toInt_le, zq_l0]; omega)]
      · subst c2
        rw [if_neg (by decide)]
        by_cases q : x3 ≠ 0
        · rw [if_pos q]
          refine ⟨x3, x4, -1, ov', rfl, ⟨by rw [zq_l0] at p1; exact p1, p2⟩, Or.inr ⟨c1, rfl, c3, hx, fun rest => ?_⟩⟩
          rw [if_pos q, if_pos q]
        · rw [if_neg q]
          refine ⟨1, w, -1, ov', rfl, ⟨by rw [zq_l0] at p1; exact p1, p2⟩, Or.inr ⟨c1, rfl, c3, fun h => absurd h (by decide), fun rest => ?_⟩⟩
          try dsimp only
          rw [if_neg q, if_pos (by decide), asc, d4.2, w63, decide_eq_false hv, c4.2, w59]
          try rfl
  · rw [if_neg hc]
    have tk : (if fl.toInt < 0 ∧ zpB bs n (zpS (zpN bs n) 50 0 0 a).1 = (63 : Int32) then some ((1 : Int32), zmW t ((zpS (zpN bs n) 50 0 0 a).1 + 1) fl ov) else some (0, zmW t (zpS (zpN bs n) 50 0 0 a).1 fl ov)) = some (0, zmW t (zpS (zpN bs n) 50 0 0 a).1 fl ov) := by
      refine if_neg (fun q => ?_)
      have e63 : (zpB bs n (zpS (zpN bs n) 50 0 0 a).1).toInt = 63 := by rw [q.2]; rfl
      rcases hz with ⟨d1, d2⟩ | ⟨d1, d2, d3, d4⟩
      · omega
      · refine hc ⟨d1, ?_⟩
        rcases hB with ⟨k1, k2⟩ | ⟨k1, k2, k3⟩
        · rw [← k1]
          exact e63
        · omega
    rw [tk, zq_bind]
    try dsimp only
    rw [if_pos (rfl : (0 : Int32) = 0)]
    unfold zyF191_74
    rw [show (zmW t (zpS (zpN bs n) 50 0 0 a).1 fl ov).1 43 15 = fl from rfl, if_neg (by decide : ¬ (1 : Int32) = 0)]
    rcases hz with ⟨c1, c2⟩ | ⟨c1, c2, c3, c4⟩
    · refine ⟨x3, x4, fl, ov, ?_, ⟨by rw [zq_l0] at o1; exact o1, o2⟩, Or.inl ⟨c1, c2⟩⟩
      rw [if_pos (by rw [Int32.le_iff_toInt_le, zq_l0]; omega)]
    · subst c2
      rw [if_neg (by decide)]
      by_cases q : x3 ≠ 0
      · rw [if_pos q]
        refine ⟨x3, x4, -1, ov, rfl, ⟨by rw [zq_l0] at o1; exact o1, o2⟩, Or.inr ⟨c1, rfl, c3, hx, fun rest => ?_⟩⟩
        rw [if_pos q, if_pos q]
      · rw [if_neg q]
        refine ⟨1, v, -1, ov, rfl, ⟨by rw [zq_l0] at o1; exact o1, o2⟩, Or.inr ⟨c1, rfl, c3, fun h => absurd h (by decide), fun rest => ?_⟩⟩
        try dsimp only
        rw [if_neg q, if_pos (by decide), List.append_assoc, c4.2, w59]
        try rfl
theorem zpF_no {q : Nat × Bool × List Int32} (h : zpF n q = -1) (hq : q.1 ≤ 120) : q.2.1 = false ∧ n ≤ q.1 := by
  unfold zpF zpf at h
  split at h
  · have := congrArg Int32.toInt h
    rw [zN_toInt (by omega), zq_lm1] at this
    omega
  · next c =>
    refine ⟨?_, by omega⟩
    cases e : q.2.1 with
    | false => rfl
    | true => exact absurd (Or.inl e) c
theorem zm_lines {nm : Nat → Int32} (en : nm = t.1 50) (H : zmH t n bs) (hg : zpG n (zpN bs n)) : ∀ (k m b : Nat) (br : Bool) (fl ov x3 x4 : Int32), b ≤ n → n ≤ b + k → k < m → (0 ≤ ov.toInt ∧ ov.toInt ≤ 6) → ((br = true ∧ fl.toInt = (b : Int)) ∨ (br = false ∧ fl = -1 ∧ ov = 0 ∧ (x3 = 0 → x4 = 0))) →
    ∃ v fl' ov', zyF191_96 (zyF191_33 m) x3 x4 (zmW t b fl ov) = some (v, zmW t (zpU (zpN bs n) k b br).1 fl' ov') ∧ (0 ≤ ov'.toInt ∧ ov'.toInt ≤ 6) ∧ fl' = zpF n (zpU (zpN bs n) k b br) ∧ (zpF n (zpU (zpN bs n) k b br) = -1 → zclp v = if x3 ≠ 0 then zclp x4 else zwv nm (zpU (zpN bs n) k b br).2.2 false [])
  | k, 0, b, br, fl, ov, x3, x4, hb, hk, hm, ho, hz => by omega
  | k, m + 1, b, br, fl, ov, x3, x4, hb, hk, hm, ho, hz => by
    have h120 := H.2.1
    have hB := zpBN bs n b
    have c0 : zclp 0 = 0 := by decide
    have fin : ¬ (br = false ∧ (zpN bs n b).toInt = 59) → ∃ v fl' ov', zyF191_96 (zyF191_33 (m + 1)) x3 x4 (zmW t b fl ov) = some (v, zmW t b fl' ov') ∧ (0 ≤ ov'.toInt ∧ ov'.toInt ≤ 6) ∧ fl' = zpF n (b, br, []) ∧ (zpF n (b, br, []) = -1 → zclp v = if x3 ≠ 0 then zclp x4 else zwv nm [] false []) := by
      intro hc
      have tk : (if fl.toInt < 0 ∧ zpB bs n b = (59 : Int32) then some ((1 : Int32), zmW t (b + 1) fl ov) else some (0, zmW t b fl ov)) = some (0, zmW t b fl ov) := by
        refine if_neg (fun q => ?_)
        have e59 : (zpB bs n b).toInt = 59 := by rw [q.2]; rfl
        rcases hz with ⟨d1, d2⟩ | ⟨d1, d2, d3, d4⟩
        · omega
        · refine hc ⟨d1, ?_⟩
          rcases hB with ⟨k1, k2⟩ | ⟨k1, k2, k3⟩
          · rw [← k1]
            exact e59
          · omega
      unfold zyF191_96
      rw [zys200 H hb, tk, zq_bind]
      show ∃ v fl' ov', zyF191_33b (zyF191_33 m) x3 x4 0 (zmW t b fl ov) = _ ∧ _
      unfold zyF191_33b
      rw [if_pos (rfl : (0 : Int32) = 0), show (zmW t b fl ov).1 43 15 = fl from rfl, show (zmW t b fl ov).1 43 14 = Int32.ofNat n from H.1, show (zmW t b fl ov).1 43 13 = Int32.ofNat b from rfl]
      rcases hz with ⟨d1, d2⟩ | ⟨d1, d2, d3, d4⟩
      · have ef : zpF n (b, br, []) = Int32.ofNat b := if_pos (Or.inl d1)
        rw [if_pos (by rw [Int32.le_iff_toInt_le, zq_l0]; omega), ef]
        refine ⟨x4, fl, ov, rfl, ho, zq_ext (by rw [zN_toInt (by omega)]; exact d2), fun h => ?_⟩
        have := congrArg Int32.toInt h
        rw [zN_toInt (by omega), zq_lm1] at this
        omega
      · subst d2
        rw [if_neg (by decide)]
        by_cases hn : n ≤ b
        · have ef : zpF n (b, br, []) = -1 := if_neg (fun q => by
            rcases q with q | q
            · rw [d1] at q
              cases q
            · exact absurd (show b < n from q) (by omega))
          rw [if_pos (by rw [Int32.le_iff_toInt_le, zN_toInt (by omega), zN_toInt (by omega)]; omega), ef]
          refine ⟨x4, -1, ov, rfl, ho, rfl, fun _ => ?_⟩
          by_cases q : x3 = 0
          · rw [if_neg (not_not_intro q), d4 q, c0]
            try rfl
          · rw [if_pos q]
        · have ef : zpF n (b, br, []) = Int32.ofNat b := if_pos (Or.inr (show b < n by omega))
          rw [if_neg (by rw [Int32.le_iff_toInt_le, zN_toInt (by omega), zN_toInt (by omega)]; omega), zys199 (by decide), zq_bind, ef]
          refine ⟨0, Int32.ofNat b, ov, rfl, ho, rfl, fun h => ?_⟩
          have := congrArg Int32.toInt h
          rw [zN_toInt (by omega), zq_lm1] at this
          omega
    cases k with
    | zero =>
      refine fin (fun q => ?_)
      have : b < n := zpN_lt (b := bs) (by omega)
      omega
    | succ k =>
      rw [zpU_s]
      by_cases hc : br = false ∧ (zpN bs n b).toInt = 59
      · rw [if_pos hc]
        rcases hz with ⟨d1, d2⟩ | ⟨d1, d2, d3, d4⟩
        · rw [hc.1] at d1
          cases d1
        subst d2
        have hlt : b < n := zpN_lt (b := bs) (by omega)
        obtain ⟨q1, q2, q3, q4, q5⟩ := zpLine_ok hg (a := b + 1) hlt
        obtain ⟨y3, y4, fl1, ov1, e, o1, hl⟩ := zm_line en H hg (a := b + 1) hlt (zyF191_33 m) x3 x4 d4
        unfold zyF191_96
        rw [zys200 H hb, if_pos ⟨by decide, zq_ext (by
          rcases hB with ⟨k1, k2⟩ | ⟨k1, k2, k3⟩
          · rw [k1, hc.2]
            try rfl
          · omega)⟩, zq_bind, d3]
        show ∃ v fl' ov', zyF191_33b (zyF191_33 m) x3 x4 1 (zmW t (b + 1) (-1) 0) = _ ∧ _
        rw [e]
        obtain ⟨v, fl2, ov2, f1, f2, f3, f4⟩ := zm_lines en H hg k m (zpLine (zpN bs n) (b + 1)).1 (zpLine (zpN bs n) (b + 1)).2.1 fl1 ov1 y3 y4 q2 (by omega) (by omega) o1 (by
          rcases hl with ⟨c1, c2⟩ | ⟨c1, c2, c3, c4, -⟩
          · exact Or.inl ⟨c1, c2⟩
          · exact Or.inr ⟨c1, c2, c3, c4⟩)
        refine ⟨v, fl2, ov2, f1, f2, f3.trans zpF_x, fun h => ?_⟩
        have h' : zpF n (zpU (zpN bs n) k (zpLine (zpN bs n) (b + 1)).1 (zpLine (zpN bs n) (b + 1)).2.1) = -1 := zpF_x.trans h
        rw [f4 h']
        obtain ⟨u1, u2, u3, u4⟩ := zpU_ok hg k (zpLine (zpN bs n) (b + 1)).1 (zpLine (zpN bs n) (b + 1)).2.1 q2
        rcases hl with ⟨c1, c2⟩ | ⟨c1, c2, c3, c4, c5⟩
        · exfalso
          have g := (zpF_no h' (by omega)).1
          rw [c1] at g
          cases k with
          | zero => exact absurd (show true = false from g) (by decide)
          | succ k =>
            rw [zpU_s, if_neg (fun q => by cases q.1)] at g
            exact absurd (show true = false from g) (by decide)
        · exact (c5 _).symm
      · rw [if_neg hc]
        exact fin hc
theorem zys191 {nm : Nat → Int32} {u : zy_S} {x1 x2 : Int32} (en : nm = u.1 50) (H : zmH (zy_up (zy_up u 43 12 x1) 43 14 x2) n bs) (hg : zpG n (zpN bs n)) : ∃ v ov, zyF191 x1 x2 u = some (v, zmW (zy_up (zy_up u 43 12 x1) 43 14 x2) (zpT (zpN bs n)).1 (zpF n (zpT (zpN bs n))) ov) ∧ (0 ≤ ov.toInt ∧ ov.toInt ≤ 6) ∧ (zpF n (zpT (zpN bs n)) = -1 → zclp v = zwv nm (zpT (zpN bs n)).2.2 false []) := by
  have e : zy_up (zy_up (zy_up (zy_up (zy_up u 43 12 x1) 43 13 (0 : Int32)) 43 14 x2) 43 15 (-1 : Int32)) 43 16 (0 : Int32) = zmW (zy_up (zy_up u 43 12 x1) 43 14 x2) 0 (-1) 0 := by
    refine zxS (fun x y => ?_) rfl
    rw [zmW_at, zy_up_at, zy_up_at, zy_up_at, zy_up_at, zy_up_at, zy_up_at, zy_up_at]
    by_cases h16 : x = 43 ∧ y = 16
    · rw [if_pos h16, if_pos h16]
    rw [if_neg h16, if_neg h16]
    by_cases h15 : x = 43 ∧ y = 15
    · rw [if_pos h15, if_pos h15]
    rw [if_neg h15, if_neg h15]
    by_cases h14 : x = 43 ∧ y = 14
    · rw [if_pos h14, if_neg (by omega), if_pos h14]
    rw [if_neg h14, if_neg h14]
    by_cases h13 : x = 43 ∧ y = 13
    · rw [if_pos h13, if_pos h13]
      try rfl
    rw [if_neg h13, if_neg h13]
  obtain ⟨q1, q2, q3, q4, q5⟩ := zpLine_ok hg (a := 0) (Nat.zero_le _)
  obtain ⟨y3, y4, fl1, ov1, f, o1, hl⟩ := zm_line (t := zy_up (zy_up u 43 12 x1) 43 14 x2) (nm := nm) en H hg (a := 0) (Nat.zero_le _) (zyF191_33 9999) 0 0 (fun _ => rfl)
  obtain ⟨v, fl2, ov2, f1, f2, f3, f4⟩ := zm_lines (t := zy_up (zy_up u 43 12 x1) 43 14 x2) (nm := nm) en H hg 120 9999 (zpLine (zpN bs n) 0).1 (zpLine (zpN bs n) 0).2.1 fl1 ov1 y3 y4 q2 (by have := H.2.1; omega) (by omega) o1 (by
    rcases hl with ⟨c1, c2⟩ | ⟨c1, c2, c3, c4, -⟩
    · exact Or.inl ⟨c1, c2⟩
    · exact Or.inr ⟨c1, c2, c3, c4⟩)
  unfold zyF191
  rw [e, zpT_F]
  unfold zpT
  refine ⟨v, ov2, ?_, f2, fun h' => ?_⟩
  · show zyF191_33b (zyF191_33 9999) 0 0 1 _ = _
    rw [f, f1, f3]
  · rw [f4 h']
    obtain ⟨u1, u2, u3, u4⟩ := zpU_ok hg 120 (zpLine (zpN bs n) 0).1 (zpLine (zpN bs n) 0).2.1 q2
    rcases hl with ⟨c1, c2⟩ | ⟨c1, c2, c3, c4, c5⟩
    · exfalso
      have g := (zpF_no h' (by have := H.2.1; omega)).1
      rw [c1, show (120 : Nat) = 119 + 1 from rfl, zpU_s, if_neg (fun q => by cases q.1)] at g
      exact absurd (show true = false from g) (by decide)
    · have := c5 (zpU (zpN bs n) 120 (zpLine (zpN bs n) 0).1 (zpLine (zpN bs n) 0).2.1).2.2
      rw [if_neg (by decide)] at this
      exact this.symm
end ZM
